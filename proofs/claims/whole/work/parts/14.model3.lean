theorem dX5_begins_0 : decode cX5_begins 0 = .ok (.bipush 80, 2) := by decide +kernel
theorem dX5_begins_2 : decode cX5_begins 2 = .ok (.istore_n 1, 1) := by decide +kernel
theorem dX5_begins_3 : decode cX5_begins 3 = .ok (.iload_n 1, 1) := by decide +kernel
theorem dX5_begins_4 : decode cX5_begins 4 = .ok (.sipush 144, 3) := by decide +kernel
theorem dX5_begins_7 : decode cX5_begins 7 = .ok (.if_icmp .ge 16, 3) := by decide +kernel
theorem dX5_begins_10 : decode cX5_begins 10 = .ok (.aload_n 0, 1) := by decide +kernel
theorem dX5_begins_11 : decode cX5_begins 11 = .ok (.getfield 7, 3) := by decide +kernel
theorem dX5_begins_14 : decode cX5_begins 14 = .ok (.iload_n 1, 1) := by decide +kernel
theorem dX5_begins_15 : decode cX5_begins 15 = .ok (.iconst 0, 1) := by decide +kernel
theorem dX5_begins_16 : decode cX5_begins 16 = .ok (.iastore, 1) := by decide +kernel
theorem dX5_begins_17 : decode cX5_begins 17 = .ok (.iinc 1 1, 3) := by decide +kernel
theorem dX5_begins_20 : decode cX5_begins 20 = .ok (.goto (-17), 3) := by decide +kernel
theorem dX5_begins_23 : decode cX5_begins 23 = .ok (.return_, 1) := by decide +kernel
theorem dX5_changes_0 : decode cX5_changes 0 = .ok (.aload_n 0, 1) := by decide +kernel
theorem dX5_changes_1 : decode cX5_changes 1 = .ok (.iconst 0, 1) := by decide +kernel
theorem dX5_changes_2 : decode cX5_changes 2 = .ok (.putfield 25, 3) := by decide +kernel
theorem dX5_changes_5 : decode cX5_changes 5 = .ok (.aload_n 0, 1) := by decide +kernel
theorem dX5_changes_6 : decode cX5_changes 6 = .ok (.getfield 29, 3) := by decide +kernel
theorem dX5_changes_9 : decode cX5_changes 9 = .ok (.bipush 6, 2) := by decide +kernel
theorem dX5_changes_11 : decode cX5_changes 11 = .ok (.if_icmp .ne 44, 3) := by decide +kernel
theorem dX5_changes_14 : decode cX5_changes 14 = .ok (.iconst 0, 1) := by decide +kernel
theorem dX5_changes_15 : decode cX5_changes 15 = .ok (.istore_n 1, 1) := by decide +kernel
theorem dX5_changes_16 : decode cX5_changes 16 = .ok (.iload_n 1, 1) := by decide +kernel
theorem dX5_changes_17 : decode cX5_changes 17 = .ok (.sipush 720, 3) := by decide +kernel
theorem dX5_changes_20 : decode cX5_changes 20 = .ok (.if_icmp .ge 25, 3) := by decide +kernel
theorem dX5_changes_23 : decode cX5_changes 23 = .ok (.aload_n 0, 1) := by decide +kernel
theorem dX5_changes_24 : decode cX5_changes 24 = .ok (.getfield 13, 3) := by decide +kernel
theorem dX5_changes_27 : decode cX5_changes 27 = .ok (.iload_n 1, 1) := by decide +kernel
theorem dX5_changes_28 : decode cX5_changes 28 = .ok (.aload_n 0, 1) := by decide +kernel
theorem dX5_changes_29 : decode cX5_changes 29 = .ok (.getfield 13, 3) := by decide +kernel
theorem dX5_changes_32 : decode cX5_changes 32 = .ok (.iload_n 1, 1) := by decide +kernel
theorem dX5_changes_33 : decode cX5_changes 33 = .ok (.sipush 144, 3) := by decide +kernel
theorem dX5_changes_36 : decode cX5_changes 36 = .ok (.iadd, 1) := by decide +kernel
theorem dX5_changes_37 : decode cX5_changes 37 = .ok (.iaload, 1) := by decide +kernel
theorem dX5_changes_38 : decode cX5_changes 38 = .ok (.iastore, 1) := by decide +kernel
theorem dX5_changes_39 : decode cX5_changes 39 = .ok (.iinc 1 1, 3) := by decide +kernel
theorem dX5_changes_42 : decode cX5_changes 42 = .ok (.goto (-26), 3) := by decide +kernel
theorem dX5_changes_45 : decode cX5_changes 45 = .ok (.aload_n 0, 1) := by decide +kernel
theorem dX5_changes_46 : decode cX5_changes 46 = .ok (.dup, 1) := by decide +kernel
theorem dX5_changes_47 : decode cX5_changes 47 = .ok (.getfield 29, 3) := by decide +kernel
theorem dX5_changes_50 : decode cX5_changes 50 = .ok (.iconst 1, 1) := by decide +kernel
theorem dX5_changes_51 : decode cX5_changes 51 = .ok (.isub, 1) := by decide +kernel
theorem dX5_changes_52 : decode cX5_changes 52 = .ok (.putfield 29, 3) := by decide +kernel
theorem dX5_changes_55 : decode cX5_changes 55 = .ok (.iconst 0, 1) := by decide +kernel
theorem dX5_changes_56 : decode cX5_changes 56 = .ok (.istore_n 1, 1) := by decide +kernel
theorem dX5_changes_57 : decode cX5_changes 57 = .ok (.iload_n 1, 1) := by decide +kernel
theorem dX5_changes_58 : decode cX5_changes 58 = .ok (.sipush 144, 3) := by decide +kernel
theorem dX5_changes_61 : decode cX5_changes 61 = .ok (.if_icmp .ge 30, 3) := by decide +kernel
theorem dX5_changes_64 : decode cX5_changes 64 = .ok (.aload_n 0, 1) := by decide +kernel
theorem dX5_changes_65 : decode cX5_changes 65 = .ok (.getfield 13, 3) := by decide +kernel
theorem dX5_changes_68 : decode cX5_changes 68 = .ok (.sipush 144, 3) := by decide +kernel
theorem dX5_changes_71 : decode cX5_changes 71 = .ok (.aload_n 0, 1) := by decide +kernel
theorem dX5_changes_72 : decode cX5_changes 72 = .ok (.getfield 29, 3) := by decide +kernel
theorem dX5_changes_75 : decode cX5_changes 75 = .ok (.imul, 1) := by decide +kernel
theorem dX5_changes_76 : decode cX5_changes 76 = .ok (.iload_n 1, 1) := by decide +kernel
theorem dX5_changes_77 : decode cX5_changes 77 = .ok (.iadd, 1) := by decide +kernel
theorem dX5_changes_78 : decode cX5_changes 78 = .ok (.aload_n 0, 1) := by decide +kernel
theorem dX5_changes_79 : decode cX5_changes 79 = .ok (.getfield 7, 3) := by decide +kernel
theorem dX5_changes_82 : decode cX5_changes 82 = .ok (.iload_n 1, 1) := by decide +kernel
theorem dX5_changes_83 : decode cX5_changes 83 = .ok (.iaload, 1) := by decide +kernel
theorem dX5_changes_84 : decode cX5_changes 84 = .ok (.iastore, 1) := by decide +kernel
theorem dX5_changes_85 : decode cX5_changes 85 = .ok (.iinc 1 1, 3) := by decide +kernel
theorem dX5_changes_88 : decode cX5_changes 88 = .ok (.goto (-31), 3) := by decide +kernel
theorem dX5_changes_91 : decode cX5_changes 91 = .ok (.aload_n 0, 1) := by decide +kernel
theorem dX5_changes_92 : decode cX5_changes 92 = .ok (.dup, 1) := by decide +kernel
theorem dX5_changes_93 : decode cX5_changes 93 = .ok (.getfield 29, 3) := by decide +kernel
theorem dX5_changes_96 : decode cX5_changes 96 = .ok (.iconst 1, 1) := by decide +kernel
theorem dX5_changes_97 : decode cX5_changes 97 = .ok (.iadd, 1) := by decide +kernel
theorem dX5_changes_98 : decode cX5_changes 98 = .ok (.putfield 29, 3) := by decide +kernel
theorem dX5_changes_101 : decode cX5_changes 101 = .ok (.return_, 1) := by decide +kernel
theorem dX5_errorOfText_0 : decode cX5_errorOfText 0 = .ok (.iconst 0, 1) := by decide +kernel
theorem dX5_errorOfText_1 : decode cX5_errorOfText 1 = .ok (.istore_n 1, 1) := by decide +kernel
theorem dX5_errorOfText_2 : decode cX5_errorOfText 2 = .ok (.iload_n 1, 1) := by decide +kernel
theorem dX5_errorOfText_3 : decode cX5_errorOfText 3 = .ok (.aload_n 0, 1) := by decide +kernel
theorem dX5_errorOfText_4 : decode cX5_errorOfText 4 = .ok (.getfield 56, 3) := by decide +kernel
theorem dX5_errorOfText_7 : decode cX5_errorOfText 7 = .ok (.if_icmp .ge 30, 3) := by decide +kernel
theorem dX5_errorOfText_10 : decode cX5_errorOfText 10 = .ok (.aload_n 0, 1) := by decide +kernel
theorem dX5_errorOfText_11 : decode cX5_errorOfText 11 = .ok (.getfield 22, 3) := by decide +kernel
theorem dX5_errorOfText_14 : decode cX5_errorOfText 14 = .ok (.iload_n 1, 1) := by decide +kernel
theorem dX5_errorOfText_15 : decode cX5_errorOfText 15 = .ok (.iaload, 1) := by decide +kernel
theorem dX5_errorOfText_16 : decode cX5_errorOfText 16 = .ok (.i2l, 1) := by decide +kernel
theorem dX5_errorOfText_17 : decode cX5_errorOfText 17 = .ok (.ldc2_w 110, 3) := by decide +kernel
theorem dX5_errorOfText_20 : decode cX5_errorOfText 20 = .ok (.ldc2_w 112, 3) := by decide +kernel
theorem dX5_errorOfText_23 : decode cX5_errorOfText 23 = .ok (.invokestatic 34, 3) := by decide +kernel
theorem dX5_errorOfText_26 : decode cX5_errorOfText 26 = .ok (.ifCond .ne 5, 3) := by decide +kernel
theorem dX5_errorOfText_29 : decode cX5_errorOfText 29 = .ok (.iload_n 1, 1) := by decide +kernel
theorem dX5_errorOfText_30 : decode cX5_errorOfText 30 = .ok (.ireturn, 1) := by decide +kernel
theorem dX5_errorOfText_31 : decode cX5_errorOfText 31 = .ok (.iinc 1 1, 3) := by decide +kernel
theorem dX5_errorOfText_34 : decode cX5_errorOfText 34 = .ok (.goto (-32), 3) := by decide +kernel
theorem dX5_errorOfText_37 : decode cX5_errorOfText 37 = .ok (.iconst (-1), 1) := by decide +kernel
theorem dX5_errorOfText_38 : decode cX5_errorOfText 38 = .ok (.ireturn, 1) := by decide +kernel
set_option maxRecDepth 20000 in
theorem ggX5_errorOfText_X5_in : GoodIn wsX5_errorOfText wsX5_in := goodIn_r _ [8] (by decide +kernel) (by decide +kernel)
set_option maxRecDepth 20000 in
theorem gX5_errorOfText_X5_in : GoodIn wsX5_errorOfText (va_wsS RX5 34 yX5_in wsX5_in) := goodIn_app (goodIn_of _ (by decide +kernel)) ggX5_errorOfText_X5_in
theorem dX5_canTake_0 : decode cX5_canTake 0 = .ok (.aload_n 0, 1) := by decide +kernel
theorem dX5_canTake_1 : decode cX5_canTake 1 = .ok (.invokevirtual 53, 3) := by decide +kernel
theorem dX5_canTake_4 : decode cX5_canTake 4 = .ok (.iconst (-1), 1) := by decide +kernel
theorem dX5_canTake_5 : decode cX5_canTake 5 = .ok (.if_icmp .ne 15, 3) := by decide +kernel
theorem dX5_canTake_8 : decode cX5_canTake 8 = .ok (.aload_n 0, 1) := by decide +kernel
theorem dX5_canTake_9 : decode cX5_canTake 9 = .ok (.getfield 56, 3) := by decide +kernel
theorem dX5_canTake_12 : decode cX5_canTake 12 = .ok (.iload_n 1, 1) := by decide +kernel
theorem dX5_canTake_13 : decode cX5_canTake 13 = .ok (.if_icmp .gt 7, 3) := by decide +kernel
theorem dX5_canTake_16 : decode cX5_canTake 16 = .ok (.iconst 1, 1) := by decide +kernel
theorem dX5_canTake_17 : decode cX5_canTake 17 = .ok (.goto 4, 3) := by decide +kernel
theorem dX5_canTake_20 : decode cX5_canTake 20 = .ok (.iconst 0, 1) := by decide +kernel
theorem dX5_canTake_21 : decode cX5_canTake 21 = .ok (.ireturn, 1) := by decide +kernel
set_option maxRecDepth 20000 in
theorem ggX5_canTake_X5_errorOfText : GoodIn wsX5_canTake wsX5_errorOfText := goodIn_r _ [6, 1, 7, 8, 9, 10, 11, 5, 12, 13, 14, 15, 16, 17, 18, 19, 20] (by decide +kernel) (by decide +kernel)
set_option maxRecDepth 20000 in
theorem gX5_canTake_X5_errorOfText : GoodIn wsX5_canTake (wsV RX5 53 RX5 yX5_errorOfText wsX5_errorOfText) := goodIn_app (goodIn_of _ (by decide +kernel)) ggX5_canTake_X5_errorOfText
theorem dX5_takes_0 : decode cX5_takes 0 = .ok (.aload_n 0, 1) := by decide +kernel
theorem dX5_takes_1 : decode cX5_takes 1 = .ok (.getfield 7, 3) := by decide +kernel
theorem dX5_takes_4 : decode cX5_takes 4 = .ok (.iload_n 1, 1) := by decide +kernel
theorem dX5_takes_5 : decode cX5_takes 5 = .ok (.aload_n 0, 1) := by decide +kernel
theorem dX5_takes_6 : decode cX5_takes 6 = .ok (.getfield 56, 3) := by decide +kernel
theorem dX5_takes_9 : decode cX5_takes 9 = .ok (.iastore, 1) := by decide +kernel
theorem dX5_takes_10 : decode cX5_takes 10 = .ok (.iconst 0, 1) := by decide +kernel
theorem dX5_takes_11 : decode cX5_takes 11 = .ok (.istore_n 3, 1) := by decide +kernel
theorem dX5_takes_12 : decode cX5_takes 12 = .ok (.iload_n 3, 1) := by decide +kernel
theorem dX5_takes_13 : decode cX5_takes 13 = .ok (.iload_n 2, 1) := by decide +kernel
theorem dX5_takes_14 : decode cX5_takes 14 = .ok (.if_icmp .ge 40, 3) := by decide +kernel
theorem dX5_takes_17 : decode cX5_takes 17 = .ok (.aload_n 0, 1) := by decide +kernel
theorem dX5_takes_18 : decode cX5_takes 18 = .ok (.getfield 7, 3) := by decide +kernel
theorem dX5_takes_21 : decode cX5_takes 21 = .ok (.iload_n 1, 1) := by decide +kernel
theorem dX5_takes_22 : decode cX5_takes 22 = .ok (.iconst 1, 1) := by decide +kernel
theorem dX5_takes_23 : decode cX5_takes 23 = .ok (.iadd, 1) := by decide +kernel
theorem dX5_takes_24 : decode cX5_takes 24 = .ok (.iload_n 3, 1) := by decide +kernel
theorem dX5_takes_25 : decode cX5_takes 25 = .ok (.iadd, 1) := by decide +kernel
theorem dX5_takes_26 : decode cX5_takes 26 = .ok (.iload_n 3, 1) := by decide +kernel
theorem dX5_takes_27 : decode cX5_takes 27 = .ok (.aload_n 0, 1) := by decide +kernel
theorem dX5_takes_28 : decode cX5_takes 28 = .ok (.getfield 56, 3) := by decide +kernel
theorem dX5_takes_31 : decode cX5_takes 31 = .ok (.if_icmp .ge 15, 3) := by decide +kernel
theorem dX5_takes_34 : decode cX5_takes 34 = .ok (.aload_n 0, 1) := by decide +kernel
theorem dX5_takes_35 : decode cX5_takes 35 = .ok (.getfield 22, 3) := by decide +kernel
theorem dX5_takes_38 : decode cX5_takes 38 = .ok (.iload_n 3, 1) := by decide +kernel
theorem dX5_takes_39 : decode cX5_takes 39 = .ok (.iaload, 1) := by decide +kernel
theorem dX5_takes_40 : decode cX5_takes 40 = .ok (.bipush 97, 2) := by decide +kernel
theorem dX5_takes_42 : decode cX5_takes 42 = .ok (.isub, 1) := by decide +kernel
theorem dX5_takes_43 : decode cX5_takes 43 = .ok (.goto 4, 3) := by decide +kernel
theorem dX5_takes_46 : decode cX5_takes 46 = .ok (.iconst 0, 1) := by decide +kernel
theorem dX5_takes_47 : decode cX5_takes 47 = .ok (.iastore, 1) := by decide +kernel
theorem dX5_takes_48 : decode cX5_takes 48 = .ok (.iinc 3 1, 3) := by decide +kernel
theorem dX5_takes_51 : decode cX5_takes 51 = .ok (.goto (-39), 3) := by decide +kernel
theorem dX5_takes_54 : decode cX5_takes 54 = .ok (.aload_n 0, 1) := by decide +kernel
theorem dX5_takes_55 : decode cX5_takes 55 = .ok (.iconst 0, 1) := by decide +kernel
theorem dX5_takes_56 : decode cX5_takes 56 = .ok (.putfield 56, 3) := by decide +kernel
theorem dX5_takes_59 : decode cX5_takes 59 = .ok (.aload_n 0, 1) := by decide +kernel
theorem dX5_takes_60 : decode cX5_takes 60 = .ok (.invokevirtual 59, 3) := by decide +kernel
theorem dX5_takes_63 : decode cX5_takes 63 = .ok (.aload_n 0, 1) := by decide +kernel
theorem dX5_takes_64 : decode cX5_takes 64 = .ok (.getfield 7, 3) := by decide +kernel
theorem dX5_takes_67 : decode cX5_takes 67 = .ok (.iload_n 1, 1) := by decide +kernel
theorem dX5_takes_68 : decode cX5_takes 68 = .ok (.iaload, 1) := by decide +kernel
theorem dX5_takes_69 : decode cX5_takes 69 = .ok (.ireturn, 1) := by decide +kernel
set_option maxRecDepth 20000 in
theorem ggX5_takes_X5_begins : GoodIn wsX5_takes wsX5_begins := goodIn_r _ [8, 1, 9, 10, 11, 12, 13, 14, 15, 16] (by decide +kernel) (by decide +kernel)
set_option maxRecDepth 20000 in
theorem gX5_takes_X5_begins : GoodIn wsX5_takes (wsV RX5 59 RX5 yX5_begins wsX5_begins) := goodIn_app (goodIn_of _ (by decide +kernel)) ggX5_takes_X5_begins
def RH (Hh : Nat → Int32) (h : List MS) : Prop := ∀ (i : Nat) (M : MS), h[i]? = some M → RG (fun k => Hh (144 * i + k)) M ∧ MOk M
theorem push_len {h : List MS} {M : MS} (h6 : h.length ≤ 6) : ((pushH h M).length : Int) = min ((h.length : Int) + 1) 6 := by
  unfold pushH
  split
  · rename_i e
    simp only [List.length_append, List.length_drop, List.length_cons, List.length_nil]
    omega
  · simp only [List.length_append, List.length_cons, List.length_nil]
    omega
theorem push_full {G Hh H2 H3 : Nat → Int32} {M : MS} {h : List MS} {ho1 : Int} (hG : RG G M) (hM : MOk M) (hH : RH Hh h) (h6 : h.length = 6) (ha : ∀ j : Nat, j < 720 → H2 j = Hh (j + 144)) (hz : ∀ j : Nat, j < 720 → H3 j = H2 j) (hn : ∀ j : Nat, j < 144 → H3 (144 * 5 + j) = G j) (ho : ho1 = 6) : ho1 = ((pushH h M).length : Int) ∧ RH H3 (pushH h M) := by
  refine ⟨by rw [push_len (by omega), ho]; omega, fun i M2 hi => ?_⟩
  unfold pushH at hi
  rw [if_pos h6] at hi
  by_cases e : i < 5
  · rw [List.getElem?_append_left (by simp; omega), List.getElem?_drop] at hi
    have := hH (1 + i) M2 hi
    exact ⟨this.1.congr this.2 (fun k hk => by rw [hz _ (by omega), ha _ (by omega)]; congr 1; omega), this.2⟩
  · rw [List.getElem?_append_right (by simp; omega)] at hi
    simp only [List.length_drop, h6] at hi
    have e5 : i = 5 := by
      rcases Nat.lt_or_ge 5 i with z | z
      · rw [List.getElem?_eq_none (by simp; omega)] at hi; cases hi
      · omega
    subst e5
    have : M2 = M := by simpa using hi.symm
    subst this
    exact ⟨hG.congr hM (fun k hk => hn k hk), hM⟩
theorem push_more {G Hh H3 : Nat → Int32} {M : MS} {h : List MS} {ho1 : Int} (hG : RG G M) (hM : MOk M) (hH : RH Hh h) (h6 : h.length < 6) (hz : ∀ j : Nat, j < 144 * h.length → H3 j = Hh j) (hn : ∀ j : Nat, j < 144 → H3 (144 * h.length + j) = G j) (ho : ho1 = (h.length : Int) + 1) : ho1 = ((pushH h M).length : Int) ∧ RH H3 (pushH h M) := by
  refine ⟨by rw [push_len (by omega), ho]; omega, fun i M2 hi => ?_⟩
  unfold pushH at hi
  rw [if_neg (by omega)] at hi
  by_cases e : i < h.length
  · rw [List.getElem?_append_left e] at hi
    have := hH i M2 hi
    exact ⟨this.1.congr this.2 (fun k hk => by rw [hz _ (by omega)]), this.2⟩
  · rw [List.getElem?_append_right (by omega)] at hi
    have e5 : i = h.length := by
      rcases Nat.lt_or_ge h.length i with z | z
      · rw [List.getElem?_eq_none (by simp; omega)] at hi; cases hi
      · omega
    subst e5
    have : M2 = M := by simpa using hi.symm
    subst this
    exact ⟨hG.congr hM (fun k hk => hn k hk), hM⟩
theorem errF_rng : ∀ (l : List Int32) (i : Int), errF l i = -1 ∨ (i ≤ errF l i ∧ errF l i < i + l.length)
  | [], i => Or.inl rfl
  | x :: t, i => by
    simp only [errF]
    split
    · exact Or.inr ⟨Int.le_refl _, by simp; omega⟩
    · rcases errF_rng t (i + 1) with h | h
      · exact Or.inl h
      · refine Or.inr ⟨by omega, ?_⟩
        simp only [List.length_cons]
        omega
theorem err_cons {tl : Int} {Tx : Nat → Int32} {tx : List Int32} {i : Int} (hT : Rep tl Tx tx) (h0 : 0 ≤ i) (h1 : i < tl) : tx.drop i.toNat = Tx i.toNat :: tx.drop (i + 1).toNat := by
  obtain ⟨t1, t2⟩ := hT
  have hlt : i.toNat < tx.length := by omega
  rw [List.drop_eq_getElem_cons hlt, show (i + 1).toNat = i.toNat + 1 by omega, t2 _ hlt]
  simp [List.getD_eq_getElem?_getD, hlt]
theorem err_ok {tl : Int} {Tx : Nat → Int32} {tx : List Int32} {i e : Int} (hT : Rep tl Tx tx) (h0 : 0 ≤ i) (h1 : i < tl) (he : errF (tx.drop i.toNat) i = e) (hc : 97 ≤ (Tx i.toNat).toInt ∧ (Tx i.toNat).toInt ≤ 122) : errF (tx.drop (i + 1).toNat) (i + 1) = e := by
  rw [err_cons hT h0 h1, errF, if_neg (by omega)] at he
  exact he
theorem err_bad {tl : Int} {Tx : Nat → Int32} {tx : List Int32} {i e : Int} (hT : Rep tl Tx tx) (h0 : 0 ≤ i) (h1 : i < tl) (he : errF (tx.drop i.toNat) i = e) (hc : (Tx i.toNat).toInt < 97 ∨ 122 < (Tx i.toNat).toInt) : i = e := by
  rw [err_cons hT h0 h1, errF, if_pos hc] at he
  exact he
theorem err_end {tl : Int} {Tx : Nat → Int32} {tx : List Int32} {i e : Int} (hT : Rep tl Tx tx) (h0 : 0 ≤ i) (h1 : i = tl) (he : errF (tx.drop i.toNat) i = e) : (-1 : Int) = e := by
  have := hT.1
  rw [List.drop_eq_nil_of_le (by omega)] at he
  exact he

set_option maxHeartbeats 4000000 in
set_option maxRecDepth 100000 in
theorem c_X5_begins (l : Launch) (D : va_G) (cy : Nat → ClassId) (m0 : Nat) (a0 : Nat) (p0 : Nat) (q0 : Nat) (v0 : Nat) (t0 : Nat) (ho : Int) (th : Int) (tl : Int) (G : Nat → Int32) : Cv l D cy yX5_begins wsX5_begins 0 0 [.ref m0] [(m0, .inr (5, [.ref a0, .ref p0, .int (iI ho), .ref q0, .ref v0, .int (iI th), .ref t0, .int (iI tl)])), (a0, .inl (cy 0, 144, .inl G))] (fun (u : (Nat → Int32)) => (∀ j : Nat, j < 80 → u j = G j) ∧ ∀ j : Nat, 80 ≤ j → j < 144 → u j = iI 0) (fun u : (Nat → Int32) => [(m0, .inr (5, [.ref a0, .ref p0, .int (iI ho), .ref q0, .ref v0, .int (iI th), .ref t0, .int (iI tl)])), (a0, .inl (cy 0, 144, .inl u))]) := by
  refine Cv_of (cc := cX5_begins) (maxL := 2) (ret := none) (by decide) rfl rfl ?_
  intro p e s m args below meth c A hx hb hr hts hown hlocks hml hP hK hD hT hA ls hl
  have hS : va_S A s.heap s.heap [] := va_S.rf
  have hl : lv_has ls 2 [(0, .ref m0)] := hl
  have hiX5 : ∀ w ∈ wsX50, w ∈ wsX5_begins := by decide +kernel
  refine lv_bipush (v := iI 80) hx hb dX5_begins_0 (by decide +kernel) ?_
  refine lv_istore_n (lv' := [(1, .int (iI 80)), (0, .ref m0)]) hx hb dX5_begins_2 rfl hl (by decide) rfl (fun ls hl => ?_)
  have hloop1 : ∀ (n1 : Nat) (k : Int) (G2 : Nat → Int32) (hk : 80 ≤ k ∧ k ≤ 144) (ha : ∀ j : Nat, j < 80 → G2 j = G j) (hz : ∀ j : Nat, 80 ≤ j → (j : Int) < k → G2 j = iI 0) (hm : 144 - k < (n1 : Int)) (H : Heap) (locs : List Loc) (ls : Array Slot) (hP : va_P D vwCl [(m0, .inr (5, [.ref a0, .ref p0, .int (iI ho), .ref q0, .ref v0, .int (iI th), .ref t0, .int (iI tl)])), (a0, .inl (cy 0, 144, .inl G2))] H) (hD : va_D A [(m0, .inr (5, [.ref a0, .ref p0, .int (iI ho), .ref q0, .ref v0, .int (iI th), .ref t0, .int (iI tl)])), (a0, .inl (cy 0, 144, .inl G2))]) (hS : va_S A s.heap H locs) (hl : lv_has ls 2 [(1, .int (iI k)), (0, .ref m0)]), W p l e ({ frames := 0, cells := 0, slots := 0, locals := 0 } : Room) s m args below meth c H locs 0 0 (MQ below (va_Qv (fun (u : (Nat → Int32)) => (∀ j : Nat, j < 80 → u j = G j) ∧ ∀ j : Nat, 80 ≤ j → j < 144 → u j = iI 0) (fun u t => va_P D vwCl ((fun u : (Nat → Int32) => [(m0, .inr (5, [.ref a0, .ref p0, .int (iI ho), .ref q0, .ref v0, .int (iI th), .ref t0, .int (iI tl)])), (a0, .inl (cy 0, 144, .inl u))]) u) t.heap) A) args s 0 0 A) (F0 m 3 ls []) := by
    intro n1
    induction n1 with
    | zero =>
      intro k G2 hk ha hz hm; exact absurd hm (by omega)
    | succ n1 ih1 =>
      intro k G2 hk ha hz hm H locs ls hP hD hS hl
      refine lv_iload_n hx hb dX5_begins_3 rfl (lv_at hl 0 rfl) ?_
      refine lv_sipush (v := iI 144) hx hb dX5_begins_4 (by decide +kernel) ?_
      refine z_icmp_ge (tgt := 23) hx hb (iI_t (by omega) (by omega)) (iI_t (by omega) (by omega)) dX5_begins_7 (by decide) (fun c2 => ?_) (fun c2 => ?_)
      · --
        exact z_vret hx hb hr hlocks hS (G2) (show (∀ j : Nat, j < 80 → G2 j = G j) ∧ ∀ j : Nat, 80 ≤ j → j < 144 → G2 j = iI 0 from ⟨ha, fun j a b => hz j a (by omega)⟩) hP dX5_begins_23
      · --
        refine lv_aload_n hx hb dX5_begins_10 rfl (lv_at hl 1 rfl) ?_
        refine va_get (D := D) (ci := 5) (v := .ref a0) (C := RX5) (T := TX5) (N := 8) hx hb hts hiX5 hown hK hP 0 rfl rfl 0 (by decide) (hts (.fieldLink RX5 7 "BackwardSearchModel" "all" "[I") (by decide +kernel)) (fun _ h9 => h9) rfl dX5_begins_11 ?_
        refine lv_iload_n hx hb dX5_begins_14 rfl (lv_at hl 0 rfl) ?_
        refine lv_iconst (v := iI 0) hx hb dX5_begins_15 rfl ?_
        refine z_iast hx hb hK hP hD hS 1 rfl (by omega) (by omega) (by omega) dX5_begins_16 (fun H locs hP hD hS => ?_)
        have hP : va_P D vwCl [(m0, .inr (5, [.ref a0, .ref p0, .int (iI ho), .ref q0, .ref v0, .int (iI th), .ref t0, .int (iI tl)])), (a0, .inl (cy 0, 144, .inl (upd G2 k.toNat (iI 0))))] H := hP
        have hD : va_D A [(m0, .inr (5, [.ref a0, .ref p0, .int (iI ho), .ref q0, .ref v0, .int (iI th), .ref t0, .int (iI tl)])), (a0, .inl (cy 0, 144, .inl (upd G2 k.toNat (iI 0))))] := hD
        refine z_iinc (lv' := [(1, .int (iI (k + 1))), (0, .ref m0)]) hx hb dX5_begins_17 hl (k := 0) rfl (by decide) rfl (fun ls hl => ?_)
        refine lv_goto (tgt := 3) hx hb dX5_begins_20 (by decide) ?_
        exact ih1 (k + 1) (upd G2 k.toNat (iI 0)) (by omega) (fun j hj => by rw [upd_ne _ _ (by omega)]; exact ha j hj) (fun j a b => by
          by_cases e : j = k.toNat
          · rw [e, upd_same]
          · rw [upd_ne _ _ e]; exact hz j a (by omega)) (by omega) _ _ _ hP hD hS (lv_sub hl [0, 1] rfl)
  exact hloop1 (Int.toNat (144 - 80) + 1) 80 G (by omega) (fun j hj => rfl) (fun j a b => by omega) (by omega) _ _ _ hP hD hS (lv_sub hl [0, 1] rfl)
set_option maxHeartbeats 4000000 in
set_option maxRecDepth 100000 in
theorem c_X5_changes (l : Launch) (D : va_G) (cy : Nat → ClassId) (m0 : Nat) (a0 : Nat) (p0 : Nat) (q0 : Nat) (v0 : Nat) (t0 : Nat) (ho : Int) (th : Int) (tl : Int) (G : Nat → Int32) (Hh : Nat → Int32) (M : MS) (h : List MS) (hG : RG G M) (hM : MOk M) (hH : RH Hh h) (hho : ho = (h.length : Int) ∧ h.length ≤ 6) : Cv l D cy yX5_changes wsX5_changes 0 0 [.ref m0] [(m0, .inr (5, [.ref a0, .ref p0, .int (iI ho), .ref q0, .ref v0, .int (iI th), .ref t0, .int (iI tl)])), (a0, .inl (cy 0, 144, .inl G)), (p0, .inl (cy 0, 864, .inl Hh))] (fun (u : Int × (Nat → Int32)) => u.1 = ((pushH h M).length : Int) ∧ RH u.2 (pushH h M)) (fun u : Int × (Nat → Int32) => [(m0, .inr (5, [.ref a0, .ref p0, .int (iI u.1), .ref q0, .ref v0, .int (iI 0), .ref t0, .int (iI tl)])), (a0, .inl (cy 0, 144, .inl G)), (p0, .inl (cy 0, 864, .inl u.2))]) := by
  refine Cv_of (cc := cX5_changes) (maxL := 2) (ret := none) (by decide) rfl rfl ?_
  intro p e s m args below meth c A hx hb hr hts hown hlocks hml hP hK hD hT hA ls hl
  have hS : va_S A s.heap s.heap [] := va_S.rf
  have hl : lv_has ls 2 [(0, .ref m0)] := hl
  have hiX5 : ∀ w ∈ wsX50, w ∈ wsX5_changes := by decide +kernel
  refine lv_aload_n hx hb dX5_changes_0 rfl (lv_at hl 0 rfl) ?_
  refine lv_iconst (v := iI 0) hx hb dX5_changes_1 rfl ?_
  refine va_put (D := D) (ci := 5) (v := .int (iI 0)) (ty := .int) (C := RX5) (T := TX5) (N := 8) hx hb hts hiX5 tyX5 tyX5_ok nmX5 hown hK hP hD hS 0 rfl rfl 5 (by decide) (hts (.fieldLink RX5 25 "BackwardSearchModel" "thrown" "I") (by decide +kernel)) (fun _ h9 => h9) rfl (by decide +kernel) rfl rfl (Nat.le_of_ble_eq_true rfl) dX5_changes_2 (fun H locs hP hD hS => ?_)
  have hP : va_P D vwCl [(m0, .inr (5, [.ref a0, .ref p0, .int (iI ho), .ref q0, .ref v0, .int (iI 0), .ref t0, .int (iI tl)])), (a0, .inl (cy 0, 144, .inl G)), (p0, .inl (cy 0, 864, .inl Hh))] H := hP
  have hD : va_D A [(m0, .inr (5, [.ref a0, .ref p0, .int (iI ho), .ref q0, .ref v0, .int (iI 0), .ref t0, .int (iI tl)])), (a0, .inl (cy 0, 144, .inl G)), (p0, .inl (cy 0, 864, .inl Hh))] := hD
  refine lv_aload_n hx hb dX5_changes_5 rfl (lv_at hl 0 rfl) ?_
  refine va_get (D := D) (ci := 5) (v := .int (iI ho)) (C := RX5) (T := TX5) (N := 8) hx hb hts hiX5 hown hK hP 0 rfl rfl 2 (by decide) (hts (.fieldLink RX5 29 "BackwardSearchModel" "historyLong" "I") (by decide +kernel)) (fun _ h9 => h9) rfl dX5_changes_6 ?_
  refine lv_bipush (v := iI 6) hx hb dX5_changes_9 (by decide +kernel) ?_
  refine z_icmp_ne (tgt := 55) hx hb (iI_t (by omega) (by omega)) (iI_t (by omega) (by omega)) dX5_changes_11 (by decide) (fun c1 => ?_) (fun c1 => ?_)
  · --
    refine lv_iconst (v := iI 0) hx hb dX5_changes_55 rfl ?_
    refine lv_istore_n (lv' := [(1, .int (iI 0)), (0, .ref m0)]) hx hb dX5_changes_56 rfl hl (by decide) rfl (fun ls hl => ?_)
    have hloop2 : ∀ (n2 : Nat) (k : Int) (H3 : Nat → Int32) (hk3 : 0 ≤ k ∧ k ≤ 144) (ha3 : ∀ j : Nat, (j : Int) < k → H3 (144 * ho.toNat + j) = G j) (hz3 : ∀ j : Nat, (j : Int) < 144 * ho → H3 j = Hh j) (hm : 144 - k < (n2 : Int)) (H : Heap) (locs : List Loc) (ls : Array Slot) (hP : va_P D vwCl [(m0, .inr (5, [.ref a0, .ref p0, .int (iI ho), .ref q0, .ref v0, .int (iI 0), .ref t0, .int (iI tl)])), (a0, .inl (cy 0, 144, .inl G)), (p0, .inl (cy 0, 864, .inl H3))] H) (hD : va_D A [(m0, .inr (5, [.ref a0, .ref p0, .int (iI ho), .ref q0, .ref v0, .int (iI 0), .ref t0, .int (iI tl)])), (a0, .inl (cy 0, 144, .inl G)), (p0, .inl (cy 0, 864, .inl H3))]) (hS : va_S A s.heap H locs) (hl : lv_has ls 2 [(1, .int (iI k)), (0, .ref m0)]), W p l e ({ frames := 0, cells := 0, slots := 0, locals := 0 } : Room) s m args below meth c H locs 0 0 (MQ below (va_Qv (fun (u : Int × (Nat → Int32)) => u.1 = ((pushH h M).length : Int) ∧ RH u.2 (pushH h M)) (fun u t => va_P D vwCl ((fun u : Int × (Nat → Int32) => [(m0, .inr (5, [.ref a0, .ref p0, .int (iI u.1), .ref q0, .ref v0, .int (iI 0), .ref t0, .int (iI tl)])), (a0, .inl (cy 0, 144, .inl G)), (p0, .inl (cy 0, 864, .inl u.2))]) u) t.heap) A) args s 0 0 A) (F0 m 57 ls []) := by
      intro n2
      induction n2 with
      | zero =>
        intro k H3 hk3 ha3 hz3 hm; exact absurd hm (by omega)
      | succ n2 ih2 =>
        intro k H3 hk3 ha3 hz3 hm H locs ls hP hD hS hl
        refine lv_iload_n hx hb dX5_changes_57 rfl (lv_at hl 0 rfl) ?_
        refine lv_sipush (v := iI 144) hx hb dX5_changes_58 (by decide +kernel) ?_
        refine z_icmp_ge (tgt := 91) hx hb (iI_t (by omega) (by omega)) (iI_t (by omega) (by omega)) dX5_changes_61 (by decide) (fun c3 => ?_) (fun c3 => ?_)
        · --
          refine lv_aload_n hx hb dX5_changes_91 rfl (lv_at hl 1 rfl) ?_
          refine lv_dup hx hb dX5_changes_92 rfl ?_
          refine va_get (D := D) (ci := 5) (v := .int (iI ho)) (C := RX5) (T := TX5) (N := 8) hx hb hts hiX5 hown hK hP 0 rfl rfl 2 (by decide) (hts (.fieldLink RX5 29 "BackwardSearchModel" "historyLong" "I") (by decide +kernel)) (fun _ h9 => h9) rfl dX5_changes_93 ?_
          refine lv_iconst (v := iI 1) hx hb dX5_changes_96 rfl ?_
          refine z_add hx hb dX5_changes_97 ?_
          refine va_put (D := D) (ci := 5) (v := .int (iI (ho + 1))) (ty := .int) (C := RX5) (T := TX5) (N := 8) hx hb hts hiX5 tyX5 tyX5_ok nmX5 hown hK hP hD hS 0 rfl rfl 2 (by decide) (hts (.fieldLink RX5 29 "BackwardSearchModel" "historyLong" "I") (by decide +kernel)) (fun _ h9 => h9) rfl (by decide +kernel) rfl rfl (Nat.le_of_ble_eq_true rfl) dX5_changes_98 (fun H locs hP hD hS => ?_)
          have hP : va_P D vwCl [(m0, .inr (5, [.ref a0, .ref p0, .int (iI (ho + 1)), .ref q0, .ref v0, .int (iI 0), .ref t0, .int (iI tl)])), (a0, .inl (cy 0, 144, .inl G)), (p0, .inl (cy 0, 864, .inl H3))] H := hP
          have hD : va_D A [(m0, .inr (5, [.ref a0, .ref p0, .int (iI (ho + 1)), .ref q0, .ref v0, .int (iI 0), .ref t0, .int (iI tl)])), (a0, .inl (cy 0, 144, .inl G)), (p0, .inl (cy 0, 864, .inl H3))] := hD
          exact z_vret hx hb hr hlocks hS (ho + 1, H3) (show (ho + 1) = ((pushH h M).length : Int) ∧ RH H3 (pushH h M) from (by
                have hk4 : k = 144 := by omega
                exact push_more hG hM hH (by omega) (fun j a => hz3 j (by omega)) (fun j a => by rw [show 144 * h.length + j = 144 * ho.toNat + j by omega]; exact ha3 j (by omega)) (by omega))) hP dX5_changes_101
        · --
          refine lv_aload_n hx hb dX5_changes_64 rfl (lv_at hl 1 rfl) ?_
          refine va_get (D := D) (ci := 5) (v := .ref p0) (C := RX5) (T := TX5) (N := 8) hx hb hts hiX5 hown hK hP 0 rfl rfl 1 (by decide) (hts (.fieldLink RX5 13 "BackwardSearchModel" "history" "[I") (by decide +kernel)) (fun _ h9 => h9) rfl dX5_changes_65 ?_
          refine lv_sipush (v := iI 144) hx hb dX5_changes_68 (by decide +kernel) ?_
          refine lv_aload_n hx hb dX5_changes_71 rfl (lv_at hl 1 rfl) ?_
          refine va_get (D := D) (ci := 5) (v := .int (iI ho)) (C := RX5) (T := TX5) (N := 8) hx hb hts hiX5 hown hK hP 0 rfl rfl 2 (by decide) (hts (.fieldLink RX5 29 "BackwardSearchModel" "historyLong" "I") (by decide +kernel)) (fun _ h9 => h9) rfl dX5_changes_72 ?_
          refine z_mul hx hb dX5_changes_75 ?_
          refine lv_iload_n hx hb dX5_changes_76 rfl (lv_at hl 0 rfl) ?_
          refine z_add hx hb dX5_changes_77 ?_
          refine lv_aload_n hx hb dX5_changes_78 rfl (lv_at hl 1 rfl) ?_
          refine va_get (D := D) (ci := 5) (v := .ref a0) (C := RX5) (T := TX5) (N := 8) hx hb hts hiX5 hown hK hP 0 rfl rfl 0 (by decide) (hts (.fieldLink RX5 7 "BackwardSearchModel" "all" "[I") (by decide +kernel)) (fun _ h9 => h9) rfl dX5_changes_79 ?_
          refine lv_iload_n hx hb dX5_changes_82 rfl (lv_at hl 0 rfl) ?_
          refine z_iald hx hb hK hP 1 rfl (by omega) (by omega) (by omega) dX5_changes_83 ?_
          refine z_top (show G k.toNat = G k.toNat from rfl) ?_
          refine z_iast hx hb hK hP hD hS 2 rfl (by omega) (by omega) (by omega) dX5_changes_84 (fun H locs hP hD hS => ?_)
          have hP : va_P D vwCl [(m0, .inr (5, [.ref a0, .ref p0, .int (iI ho), .ref q0, .ref v0, .int (iI 0), .ref t0, .int (iI tl)])), (a0, .inl (cy 0, 144, .inl G)), (p0, .inl (cy 0, 864, .inl (upd H3 (((144 * ho) + k).toNat) (G k.toNat))))] H := hP
          have hD : va_D A [(m0, .inr (5, [.ref a0, .ref p0, .int (iI ho), .ref q0, .ref v0, .int (iI 0), .ref t0, .int (iI tl)])), (a0, .inl (cy 0, 144, .inl G)), (p0, .inl (cy 0, 864, .inl (upd H3 (((144 * ho) + k).toNat) (G k.toNat))))] := hD
          refine z_iinc (lv' := [(1, .int (iI (k + 1))), (0, .ref m0)]) hx hb dX5_changes_85 hl (k := 0) rfl (by decide) rfl (fun ls hl => ?_)
          refine lv_goto (tgt := 57) hx hb dX5_changes_88 (by decide) ?_
          exact ih2 (k + 1) (upd H3 (((144 * ho) + k).toNat) (G k.toNat)) (by omega) (fun j a => by
            by_cases e : 144 * ho.toNat + j = (144 * ho + k).toNat
            · rw [e, upd_same]; congr 1; omega
            · rw [upd_ne _ _ e]; exact ha3 j (by omega)) (fun j a => by rw [upd_ne _ _ (by omega)]; exact hz3 j a) (by omega) _ _ _ hP hD hS (lv_sub hl [0, 1] rfl)
    exact hloop2 (Int.toNat (144 - 0) + 1) 0 Hh (by omega) (fun j a => by omega) (fun j _ => rfl) (by omega) _ _ _ hP hD hS (lv_sub hl [0, 1] rfl)
  · --
    refine lv_iconst (v := iI 0) hx hb dX5_changes_14 rfl ?_
    refine lv_istore_n (lv' := [(1, .int (iI 0)), (0, .ref m0)]) hx hb dX5_changes_15 rfl hl (by decide) rfl (fun ls hl => ?_)
    have hloop4 : ∀ (n4 : Nat) (k : Int) (H2 : Nat → Int32) (hk : 0 ≤ k ∧ k ≤ 720) (ha : ∀ j : Nat, (j : Int) < k → H2 j = Hh (j + 144)) (hz : ∀ j : Nat, k ≤ j → H2 j = Hh j) (hm : 720 - k < (n4 : Int)) (H : Heap) (locs : List Loc) (ls : Array Slot) (hP : va_P D vwCl [(m0, .inr (5, [.ref a0, .ref p0, .int (iI ho), .ref q0, .ref v0, .int (iI 0), .ref t0, .int (iI tl)])), (a0, .inl (cy 0, 144, .inl G)), (p0, .inl (cy 0, 864, .inl H2))] H) (hD : va_D A [(m0, .inr (5, [.ref a0, .ref p0, .int (iI ho), .ref q0, .ref v0, .int (iI 0), .ref t0, .int (iI tl)])), (a0, .inl (cy 0, 144, .inl G)), (p0, .inl (cy 0, 864, .inl H2))]) (hS : va_S A s.heap H locs) (hl : lv_has ls 2 [(1, .int (iI k)), (0, .ref m0)]), W p l e ({ frames := 0, cells := 0, slots := 0, locals := 0 } : Room) s m args below meth c H locs 0 0 (MQ below (va_Qv (fun (u : Int × (Nat → Int32)) => u.1 = ((pushH h M).length : Int) ∧ RH u.2 (pushH h M)) (fun u t => va_P D vwCl ((fun u : Int × (Nat → Int32) => [(m0, .inr (5, [.ref a0, .ref p0, .int (iI u.1), .ref q0, .ref v0, .int (iI 0), .ref t0, .int (iI tl)])), (a0, .inl (cy 0, 144, .inl G)), (p0, .inl (cy 0, 864, .inl u.2))]) u) t.heap) A) args s 0 0 A) (F0 m 16 ls []) := by
      intro n4
      induction n4 with
      | zero =>
        intro k H2 hk ha hz hm; exact absurd hm (by omega)
      | succ n4 ih4 =>
        intro k H2 hk ha hz hm H locs ls hP hD hS hl
        refine lv_iload_n hx hb dX5_changes_16 rfl (lv_at hl 0 rfl) ?_
        refine lv_sipush (v := iI 720) hx hb dX5_changes_17 (by decide +kernel) ?_
        refine z_icmp_ge (tgt := 45) hx hb (iI_t (by omega) (by omega)) (iI_t (by omega) (by omega)) dX5_changes_20 (by decide) (fun c5 => ?_) (fun c5 => ?_)
        · --
          refine lv_aload_n hx hb dX5_changes_45 rfl (lv_at hl 1 rfl) ?_
          refine lv_dup hx hb dX5_changes_46 rfl ?_
          refine va_get (D := D) (ci := 5) (v := .int (iI ho)) (C := RX5) (T := TX5) (N := 8) hx hb hts hiX5 hown hK hP 0 rfl rfl 2 (by decide) (hts (.fieldLink RX5 29 "BackwardSearchModel" "historyLong" "I") (by decide +kernel)) (fun _ h9 => h9) rfl dX5_changes_47 ?_
          refine lv_iconst (v := iI 1) hx hb dX5_changes_50 rfl ?_
          refine z_sub hx hb dX5_changes_51 ?_
          refine va_put (D := D) (ci := 5) (v := .int (iI (ho - 1))) (ty := .int) (C := RX5) (T := TX5) (N := 8) hx hb hts hiX5 tyX5 tyX5_ok nmX5 hown hK hP hD hS 0 rfl rfl 2 (by decide) (hts (.fieldLink RX5 29 "BackwardSearchModel" "historyLong" "I") (by decide +kernel)) (fun _ h9 => h9) rfl (by decide +kernel) rfl rfl (Nat.le_of_ble_eq_true rfl) dX5_changes_52 (fun H locs hP hD hS => ?_)
          have hP : va_P D vwCl [(m0, .inr (5, [.ref a0, .ref p0, .int (iI (ho - 1)), .ref q0, .ref v0, .int (iI 0), .ref t0, .int (iI tl)])), (a0, .inl (cy 0, 144, .inl G)), (p0, .inl (cy 0, 864, .inl H2))] H := hP
          have hD : va_D A [(m0, .inr (5, [.ref a0, .ref p0, .int (iI (ho - 1)), .ref q0, .ref v0, .int (iI 0), .ref t0, .int (iI tl)])), (a0, .inl (cy 0, 144, .inl G)), (p0, .inl (cy 0, 864, .inl H2))] := hD
          refine lv_iconst (v := iI 0) hx hb dX5_changes_55 rfl ?_
          refine lv_istore_n (lv' := [(1, .int (iI 0)), (0, .ref m0)]) hx hb dX5_changes_56 rfl hl (by decide) rfl (fun ls hl => ?_)
          have hloop6 : ∀ (n6 : Nat) (k : Int) (H3 : Nat → Int32) (hk3 : 0 ≤ k ∧ k ≤ 144) (ha3 : ∀ j : Nat, (j : Int) < k → H3 (144 * (ho - 1).toNat + j) = G j) (hz3 : ∀ j : Nat, (j : Int) < 144 * (ho - 1) → H3 j = H2 j) (hm : 144 - k < (n6 : Int)) (H : Heap) (locs : List Loc) (ls : Array Slot) (hP : va_P D vwCl [(m0, .inr (5, [.ref a0, .ref p0, .int (iI (ho - 1)), .ref q0, .ref v0, .int (iI 0), .ref t0, .int (iI tl)])), (a0, .inl (cy 0, 144, .inl G)), (p0, .inl (cy 0, 864, .inl H3))] H) (hD : va_D A [(m0, .inr (5, [.ref a0, .ref p0, .int (iI (ho - 1)), .ref q0, .ref v0, .int (iI 0), .ref t0, .int (iI tl)])), (a0, .inl (cy 0, 144, .inl G)), (p0, .inl (cy 0, 864, .inl H3))]) (hS : va_S A s.heap H locs) (hl : lv_has ls 2 [(1, .int (iI k)), (0, .ref m0)]), W p l e ({ frames := 0, cells := 0, slots := 0, locals := 0 } : Room) s m args below meth c H locs 0 0 (MQ below (va_Qv (fun (u : Int × (Nat → Int32)) => u.1 = ((pushH h M).length : Int) ∧ RH u.2 (pushH h M)) (fun u t => va_P D vwCl ((fun u : Int × (Nat → Int32) => [(m0, .inr (5, [.ref a0, .ref p0, .int (iI u.1), .ref q0, .ref v0, .int (iI 0), .ref t0, .int (iI tl)])), (a0, .inl (cy 0, 144, .inl G)), (p0, .inl (cy 0, 864, .inl u.2))]) u) t.heap) A) args s 0 0 A) (F0 m 57 ls []) := by
            intro n6
            induction n6 with
            | zero =>
              intro k H3 hk3 ha3 hz3 hm; exact absurd hm (by omega)
            | succ n6 ih6 =>
              intro k H3 hk3 ha3 hz3 hm H locs ls hP hD hS hl
              refine lv_iload_n hx hb dX5_changes_57 rfl (lv_at hl 0 rfl) ?_
              refine lv_sipush (v := iI 144) hx hb dX5_changes_58 (by decide +kernel) ?_
              refine z_icmp_ge (tgt := 91) hx hb (iI_t (by omega) (by omega)) (iI_t (by omega) (by omega)) dX5_changes_61 (by decide) (fun c7 => ?_) (fun c7 => ?_)
              · --
                refine lv_aload_n hx hb dX5_changes_91 rfl (lv_at hl 1 rfl) ?_
                refine lv_dup hx hb dX5_changes_92 rfl ?_
                refine va_get (D := D) (ci := 5) (v := .int (iI (ho - 1))) (C := RX5) (T := TX5) (N := 8) hx hb hts hiX5 hown hK hP 0 rfl rfl 2 (by decide) (hts (.fieldLink RX5 29 "BackwardSearchModel" "historyLong" "I") (by decide +kernel)) (fun _ h9 => h9) rfl dX5_changes_93 ?_
                refine lv_iconst (v := iI 1) hx hb dX5_changes_96 rfl ?_
                refine z_add hx hb dX5_changes_97 ?_
                refine va_put (D := D) (ci := 5) (v := .int (iI ((ho - 1) + 1))) (ty := .int) (C := RX5) (T := TX5) (N := 8) hx hb hts hiX5 tyX5 tyX5_ok nmX5 hown hK hP hD hS 0 rfl rfl 2 (by decide) (hts (.fieldLink RX5 29 "BackwardSearchModel" "historyLong" "I") (by decide +kernel)) (fun _ h9 => h9) rfl (by decide +kernel) rfl rfl (Nat.le_of_ble_eq_true rfl) dX5_changes_98 (fun H locs hP hD hS => ?_)
                have hP : va_P D vwCl [(m0, .inr (5, [.ref a0, .ref p0, .int (iI ((ho - 1) + 1)), .ref q0, .ref v0, .int (iI 0), .ref t0, .int (iI tl)])), (a0, .inl (cy 0, 144, .inl G)), (p0, .inl (cy 0, 864, .inl H3))] H := hP
                have hD : va_D A [(m0, .inr (5, [.ref a0, .ref p0, .int (iI ((ho - 1) + 1)), .ref q0, .ref v0, .int (iI 0), .ref t0, .int (iI tl)])), (a0, .inl (cy 0, 144, .inl G)), (p0, .inl (cy 0, 864, .inl H3))] := hD
                exact z_vret hx hb hr hlocks hS ((ho - 1) + 1, H3) (show ((ho - 1) + 1) = ((pushH h M).length : Int) ∧ RH H3 (pushH h M) from (by
                      have hk4 : k = 144 := by omega
                      exact push_full hG hM hH (by omega) (fun j a => ha j (by omega)) (fun j a => hz3 j (by omega)) (fun j a => by rw [show 144 * 5 + j = 144 * (ho - 1).toNat + j by omega]; exact ha3 j (by omega)) (by omega))) hP dX5_changes_101
              · --
                refine lv_aload_n hx hb dX5_changes_64 rfl (lv_at hl 1 rfl) ?_
                refine va_get (D := D) (ci := 5) (v := .ref p0) (C := RX5) (T := TX5) (N := 8) hx hb hts hiX5 hown hK hP 0 rfl rfl 1 (by decide) (hts (.fieldLink RX5 13 "BackwardSearchModel" "history" "[I") (by decide +kernel)) (fun _ h9 => h9) rfl dX5_changes_65 ?_
                refine lv_sipush (v := iI 144) hx hb dX5_changes_68 (by decide +kernel) ?_
                refine lv_aload_n hx hb dX5_changes_71 rfl (lv_at hl 1 rfl) ?_
                refine va_get (D := D) (ci := 5) (v := .int (iI (ho - 1))) (C := RX5) (T := TX5) (N := 8) hx hb hts hiX5 hown hK hP 0 rfl rfl 2 (by decide) (hts (.fieldLink RX5 29 "BackwardSearchModel" "historyLong" "I") (by decide +kernel)) (fun _ h9 => h9) rfl dX5_changes_72 ?_
                refine z_mul hx hb dX5_changes_75 ?_
                refine lv_iload_n hx hb dX5_changes_76 rfl (lv_at hl 0 rfl) ?_
                refine z_add hx hb dX5_changes_77 ?_
                refine lv_aload_n hx hb dX5_changes_78 rfl (lv_at hl 1 rfl) ?_
                refine va_get (D := D) (ci := 5) (v := .ref a0) (C := RX5) (T := TX5) (N := 8) hx hb hts hiX5 hown hK hP 0 rfl rfl 0 (by decide) (hts (.fieldLink RX5 7 "BackwardSearchModel" "all" "[I") (by decide +kernel)) (fun _ h9 => h9) rfl dX5_changes_79 ?_
                refine lv_iload_n hx hb dX5_changes_82 rfl (lv_at hl 0 rfl) ?_
                refine z_iald hx hb hK hP 1 rfl (by omega) (by omega) (by omega) dX5_changes_83 ?_
                refine z_top (show G k.toNat = G k.toNat from rfl) ?_
                refine z_iast hx hb hK hP hD hS 2 rfl (by omega) (by omega) (by omega) dX5_changes_84 (fun H locs hP hD hS => ?_)
                have hP : va_P D vwCl [(m0, .inr (5, [.ref a0, .ref p0, .int (iI (ho - 1)), .ref q0, .ref v0, .int (iI 0), .ref t0, .int (iI tl)])), (a0, .inl (cy 0, 144, .inl G)), (p0, .inl (cy 0, 864, .inl (upd H3 (((144 * (ho - 1)) + k).toNat) (G k.toNat))))] H := hP
                have hD : va_D A [(m0, .inr (5, [.ref a0, .ref p0, .int (iI (ho - 1)), .ref q0, .ref v0, .int (iI 0), .ref t0, .int (iI tl)])), (a0, .inl (cy 0, 144, .inl G)), (p0, .inl (cy 0, 864, .inl (upd H3 (((144 * (ho - 1)) + k).toNat) (G k.toNat))))] := hD
                refine z_iinc (lv' := [(1, .int (iI (k + 1))), (0, .ref m0)]) hx hb dX5_changes_85 hl (k := 0) rfl (by decide) rfl (fun ls hl => ?_)
                refine lv_goto (tgt := 57) hx hb dX5_changes_88 (by decide) ?_
                exact ih6 (k + 1) (upd H3 (((144 * (ho - 1)) + k).toNat) (G k.toNat)) (by omega) (fun j a => by
                  by_cases e : 144 * (ho - 1).toNat + j = (144 * (ho - 1) + k).toNat
                  · rw [e, upd_same]; congr 1; omega
                  · rw [upd_ne _ _ e]; exact ha3 j (by omega)) (fun j a => by rw [upd_ne _ _ (by omega)]; exact hz3 j a) (by omega) _ _ _ hP hD hS (lv_sub hl [0, 1] rfl)
          exact hloop6 (Int.toNat (144 - 0) + 1) 0 H2 (by omega) (fun j a => by omega) (fun j _ => rfl) (by omega) _ _ _ hP hD hS (lv_sub hl [0, 1] rfl)
        · --
          refine lv_aload_n hx hb dX5_changes_23 rfl (lv_at hl 1 rfl) ?_
          refine va_get (D := D) (ci := 5) (v := .ref p0) (C := RX5) (T := TX5) (N := 8) hx hb hts hiX5 hown hK hP 0 rfl rfl 1 (by decide) (hts (.fieldLink RX5 13 "BackwardSearchModel" "history" "[I") (by decide +kernel)) (fun _ h9 => h9) rfl dX5_changes_24 ?_
          refine lv_iload_n hx hb dX5_changes_27 rfl (lv_at hl 0 rfl) ?_
          refine lv_aload_n hx hb dX5_changes_28 rfl (lv_at hl 1 rfl) ?_
          refine va_get (D := D) (ci := 5) (v := .ref p0) (C := RX5) (T := TX5) (N := 8) hx hb hts hiX5 hown hK hP 0 rfl rfl 1 (by decide) (hts (.fieldLink RX5 13 "BackwardSearchModel" "history" "[I") (by decide +kernel)) (fun _ h9 => h9) rfl dX5_changes_29 ?_
          refine lv_iload_n hx hb dX5_changes_32 rfl (lv_at hl 0 rfl) ?_
          refine lv_sipush (v := iI 144) hx hb dX5_changes_33 (by decide +kernel) ?_
          refine z_add hx hb dX5_changes_36 ?_
          refine z_iald hx hb hK hP 2 rfl (by omega) (by omega) (by omega) dX5_changes_37 ?_
          refine z_top (show H2 (k + 144).toNat = H2 (k + 144).toNat from rfl) ?_
          refine z_iast hx hb hK hP hD hS 2 rfl (by omega) (by omega) (by omega) dX5_changes_38 (fun H locs hP hD hS => ?_)
          have hP : va_P D vwCl [(m0, .inr (5, [.ref a0, .ref p0, .int (iI ho), .ref q0, .ref v0, .int (iI 0), .ref t0, .int (iI tl)])), (a0, .inl (cy 0, 144, .inl G)), (p0, .inl (cy 0, 864, .inl (upd H2 k.toNat (H2 (k + 144).toNat))))] H := hP
          have hD : va_D A [(m0, .inr (5, [.ref a0, .ref p0, .int (iI ho), .ref q0, .ref v0, .int (iI 0), .ref t0, .int (iI tl)])), (a0, .inl (cy 0, 144, .inl G)), (p0, .inl (cy 0, 864, .inl (upd H2 k.toNat (H2 (k + 144).toNat))))] := hD
          refine z_iinc (lv' := [(1, .int (iI (k + 1))), (0, .ref m0)]) hx hb dX5_changes_39 hl (k := 0) rfl (by decide) rfl (fun ls hl => ?_)
          refine lv_goto (tgt := 16) hx hb dX5_changes_42 (by decide) ?_
          exact ih4 (k + 1) (upd H2 k.toNat (H2 (k + 144).toNat)) (by omega) (fun j a => by
            by_cases e : j = k.toNat
            · rw [e, upd_same, hz _ (by omega)]; congr 1; omega
            · rw [upd_ne _ _ e]; exact ha j (by omega)) (fun j a => by rw [upd_ne _ _ (by omega)]; exact hz j (by omega)) (by omega) _ _ _ hP hD hS (lv_sub hl [0, 1] rfl)
    exact hloop4 (Int.toNat (720 - 0) + 1) 0 Hh (by omega) (fun j a => by omega) (fun j _ => rfl) (by omega) _ _ _ hP hD hS (lv_sub hl [0, 1] rfl)
set_option maxHeartbeats 4000000 in
set_option maxRecDepth 100000 in
theorem c_X5_errorOfText (l : Launch) (D : va_G) (cy : Nat → ClassId) (m0 : Nat) (a0 : Nat) (p0 : Nat) (q0 : Nat) (v0 : Nat) (t0 : Nat) (ho : Int) (th : Int) (tl : Int) (Tx : Nat → Int32) (tx : List Int32) (hT1 : Rep tl Tx tx) (hT2 : tx.length ≤ 80) : Ci l D cy yX5_errorOfText wsX5_errorOfText 1 25 [.ref m0] [(m0, .inr (5, [.ref a0, .ref p0, .int (iI ho), .ref q0, .ref v0, .int (iI th), .ref t0, .int (iI tl)])), (t0, .inl (cy 0, 80, .inl Tx))] (fun (r : Int32) (u : Unit) => r = iI (errF tx 0)) (fun u : Unit => [(m0, .inr (5, [.ref a0, .ref p0, .int (iI ho), .ref q0, .ref v0, .int (iI th), .ref t0, .int (iI tl)])), (t0, .inl (cy 0, 80, .inl Tx))]) := by
  refine Ci_of (cc := cX5_errorOfText) (maxL := 2) (ret := (some .int)) (by decide) rfl rfl ?_
  intro p e s m args below meth c A hx hb hr hts hown hlocks hml hP hK hD hT hA ls hl
  have hS : va_S A s.heap s.heap [] := va_S.rf
  have hl : lv_has ls 2 [(0, .ref m0)] := hl
  have hiX5 : ∀ w ∈ wsX50, w ∈ wsX5_errorOfText := by decide +kernel
  have htl := hT1.1
  refine lv_iconst (v := iI 0) hx hb dX5_errorOfText_0 rfl ?_
  refine lv_istore_n (lv' := [(1, .int (iI 0)), (0, .ref m0)]) hx hb dX5_errorOfText_1 rfl hl (by decide) rfl (fun ls hl => ?_)
  have hloop1 : ∀ (n1 : Nat) (i : Int) (hi : 0 ≤ i ∧ i ≤ tl) (he : errF (tx.drop i.toNat) i = errF tx 0) (hm : tl - i < (n1 : Int)) (H : Heap) (locs : List Loc) (ls : Array Slot) (hP : va_P D vwCl [(m0, .inr (5, [.ref a0, .ref p0, .int (iI ho), .ref q0, .ref v0, .int (iI th), .ref t0, .int (iI tl)])), (t0, .inl (cy 0, 80, .inl Tx))] H) (hD : va_D A [(m0, .inr (5, [.ref a0, .ref p0, .int (iI ho), .ref q0, .ref v0, .int (iI th), .ref t0, .int (iI tl)])), (t0, .inl (cy 0, 80, .inl Tx))]) (hS : va_S A s.heap H locs) (hl : lv_has ls 2 [(1, .int (iI i)), (0, .ref m0)]), W p l e ({ frames := 1, cells := 0, slots := 0, locals := 25 } : Room) s m args below meth c H locs 0 0 (MQ below (va_Qi (fun (r : Int32) (u : Unit) => r = iI (errF tx 0)) (fun u t => va_P D vwCl ((fun u : Unit => [(m0, .inr (5, [.ref a0, .ref p0, .int (iI ho), .ref q0, .ref v0, .int (iI th), .ref t0, .int (iI tl)])), (t0, .inl (cy 0, 80, .inl Tx))]) u) t.heap) A) args s 0 0 A) (F0 m 2 ls []) := by
    intro n1
    induction n1 with
    | zero =>
      intro i hi he hm; exact absurd hm (by omega)
    | succ n1 ih1 =>
      intro i hi he hm H locs ls hP hD hS hl
      have htl := hT1.1
      have hlo := iI_lo (Tx i.toNat)
      have hhi := iI_hi (Tx i.toNat)
      refine lv_iload_n hx hb dX5_errorOfText_2 rfl (lv_at hl 0 rfl) ?_
      refine lv_aload_n hx hb dX5_errorOfText_3 rfl (lv_at hl 1 rfl) ?_
      refine va_get (D := D) (ci := 5) (v := .int (iI tl)) (C := RX5) (T := TX5) (N := 8) hx hb hts hiX5 hown hK hP 0 rfl rfl 7 (by decide) (hts (.fieldLink RX5 56 "BackwardSearchModel" "textLong" "I") (by decide +kernel)) (fun _ h9 => h9) rfl dX5_errorOfText_4 ?_
      refine z_icmp_ge (tgt := 37) hx hb (iI_t (by omega) (by omega)) (iI_t (by omega) (by omega)) dX5_errorOfText_7 (by decide) (fun c2 => ?_) (fun c2 => ?_)
      · --
        refine lv_iconst (v := iI (-1)) hx hb dX5_errorOfText_37 rfl ?_
        exact z_iret hx hb hr hlocks hS () (show (iI (-1)) = iI (errF tx 0) from (congrArg iI (err_end hT1 hi.1 (by omega) he))) hP dX5_errorOfText_38
      · --
        refine lv_aload_n hx hb dX5_errorOfText_10 rfl (lv_at hl 1 rfl) ?_
        refine va_get (D := D) (ci := 5) (v := .ref t0) (C := RX5) (T := TX5) (N := 8) hx hb hts hiX5 hown hK hP 0 rfl rfl 6 (by decide) (hts (.fieldLink RX5 22 "BackwardSearchModel" "text" "[I") (by decide +kernel)) (fun _ h9 => h9) rfl dX5_errorOfText_11 ?_
        refine lv_iload_n hx hb dX5_errorOfText_14 rfl (lv_at hl 0 rfl) ?_
        refine z_iald hx hb hK hP 1 rfl (by omega) (by omega) (by omega) dX5_errorOfText_15 ?_
        refine z_i2l hx hb (r_l (Tx i.toNat)) dX5_errorOfText_16 ?_
        refine z_ldc2 (z := 97) hx hb (by decide +kernel) hown (hts (.constantLong RX5 110 (97)) (by decide +kernel)) dX5_errorOfText_17 ?_
        refine z_ldc2 (z := 122) hx hb (by decide +kernel) hown (hts (.constantLong RX5 112 (122)) (by decide +kernel)) dX5_errorOfText_20 ?_
        refine z_cSi (n := 3) (As := [.long (lI ((Tx i.toNat).toInt)), .long (lI 97), .long (lI 122)]) (rest := []) ⟨hx, hb, hml, hown, hts⟩ (c_X5_in l D cy ((Tx i.toNat).toInt) 97 122 (by omega)) gX5_errorOfText_X5_in rfl (by decide +kernel) ⟨Nat.le_of_ble_eq_true rfl, Nat.le_of_ble_eq_true rfl⟩ hK hT hP hD hS hA [] rfl rfl (fun _ => rfl) rfl hl.1 rfl (Nat.le_of_ble_eq_true rfl) dX5_errorOfText_23 ⟨Nat.zero_le _, Nat.zero_le _⟩ (fun r_3 u_3 H locs hw_3 hP hD hS => ?_)
        have hw_3 : ((97 ≤ ((Tx i.toNat).toInt) ∧ ((Tx i.toNat).toInt) ≤ 122) ∧ r_3 = iI 1) ∨ (¬ (97 ≤ ((Tx i.toNat).toInt) ∧ ((Tx i.toNat).toInt) ≤ 122) ∧ r_3 = iI 0) := hw_3
        have hP : va_P D vwCl [(m0, .inr (5, [.ref a0, .ref p0, .int (iI ho), .ref q0, .ref v0, .int (iI th), .ref t0, .int (iI tl)])), (t0, .inl (cy 0, 80, .inl Tx))] H := hP
        have hD : va_D A [(m0, .inr (5, [.ref a0, .ref p0, .int (iI ho), .ref q0, .ref v0, .int (iI th), .ref t0, .int (iI tl)])), (t0, .inl (cy 0, 80, .inl Tx))] := hD
        rcases hw_3 with ⟨h_3, rfl⟩ | ⟨h_3, rfl⟩
        · --
          refine z_if_ne (tgt := 31) hx hb (iI_t (by omega) (by omega)) dX5_errorOfText_26 (by decide) (fun _ => ?_) (fun c4 => absurd c4 (by omega))
          refine z_iinc (lv' := [(1, .int (iI (i + 1))), (0, .ref m0)]) hx hb dX5_errorOfText_31 hl (k := 0) rfl (by decide) rfl (fun ls hl => ?_)
          refine lv_goto (tgt := 2) hx hb dX5_errorOfText_34 (by decide) ?_
          exact ih1 (i + 1) (by omega) (err_ok hT1 hi.1 (by omega) he (by omega)) (by omega) _ _ _ hP hD hS (lv_sub hl [0, 1] rfl)
        · --
          refine z_if_ne (tgt := 31) hx hb (iI_t (by omega) (by omega)) dX5_errorOfText_26 (by decide) (fun c5 => absurd c5 (by omega)) (fun _ => ?_)
          refine lv_iload_n hx hb dX5_errorOfText_29 rfl (lv_at hl 0 rfl) ?_
          exact z_iret hx hb hr hlocks hS () (show (iI i) = iI (errF tx 0) from (congrArg iI (err_bad hT1 hi.1 (by omega) he (by omega)))) hP dX5_errorOfText_30
  exact hloop1 (Int.toNat (tl - 0) + 1) 0 (by omega) (rfl) (by omega) _ _ _ hP hD hS (lv_sub hl [0, 1] rfl)
set_option maxHeartbeats 4000000 in
set_option maxRecDepth 100000 in
theorem c_X5_canTake (l : Launch) (D : va_G) (cy : Nat → ClassId) (m0 : Nat) (a0 : Nat) (p0 : Nat) (q0 : Nat) (v0 : Nat) (t0 : Nat) (ho : Int) (th : Int) (tl : Int) (Tx : Nat → Int32) (tx : List Int32) (x : Int) (hT1 : Rep tl Tx tx) (hT2 : tx.length ≤ 80) (hx1 : 0 ≤ x ∧ x ≤ 100) : Ci l D cy yX5_canTake wsX5_canTake 2 46 [.ref m0, .int (iI x)] [(m0, .inr (5, [.ref a0, .ref p0, .int (iI ho), .ref q0, .ref v0, .int (iI th), .ref t0, .int (iI tl)])), (t0, .inl (cy 0, 80, .inl Tx))] (fun (r : Int32) (u : Unit) => ((errF tx 0 = -1 ∧ (tx.length : Int) ≤ x) ∧ r = iI 1) ∨ (¬ (errF tx 0 = -1 ∧ (tx.length : Int) ≤ x) ∧ r = iI 0)) (fun u : Unit => [(m0, .inr (5, [.ref a0, .ref p0, .int (iI ho), .ref q0, .ref v0, .int (iI th), .ref t0, .int (iI tl)])), (t0, .inl (cy 0, 80, .inl Tx))]) := by
  refine Ci_of (cc := cX5_canTake) (maxL := 2) (ret := (some .boolean)) (by decide) rfl rfl ?_
  intro p e s m args below meth c A hx hb hr hts hown hlocks hml hP hK hD hT hA ls hl
  have hS : va_S A s.heap s.heap [] := va_S.rf
  have hl : lv_has ls 2 [(0, .ref m0), (1, .int (iI x))] := hl
  have hiX5 : ∀ w ∈ wsX50, w ∈ wsX5_canTake := by decide +kernel
  have htl := hT1.1
  have her := errF_rng tx 0
  refine lv_aload_n hx hb dX5_canTake_0 rfl (lv_at hl 0 rfl) ?_
  refine z_cVi (n := 0) (b := m0) (As := []) (rest := []) ⟨hx, hb, hml, hown, hts⟩ (c_X5_errorOfText l D cy m0 a0 p0 q0 v0 t0 ho th tl Tx tx (by first | assumption | omega) (by first | assumption | omega)) gX5_canTake_X5_errorOfText rfl (by decide +kernel) ⟨Nat.le_of_ble_eq_true rfl, Nat.le_of_ble_eq_true rfl⟩ hK hT hP hD hS hA [0, 1] rfl rfl 0 5 rfl rfl rfl (fun _ => rfl) rfl hl.1 rfl (Nat.le_of_ble_eq_true rfl) dX5_canTake_1 ⟨Nat.zero_le _, Nat.zero_le _⟩ (fun r_1 u_1 H locs hw_1 hP hD hS => ?_)
  have hw_1 : r_1 = iI (errF tx 0) := hw_1
  have hP : va_P D vwCl [(m0, .inr (5, [.ref a0, .ref p0, .int (iI ho), .ref q0, .ref v0, .int (iI th), .ref t0, .int (iI tl)])), (t0, .inl (cy 0, 80, .inl Tx))] H := hP
  have hD : va_D A [(m0, .inr (5, [.ref a0, .ref p0, .int (iI ho), .ref q0, .ref v0, .int (iI th), .ref t0, .int (iI tl)])), (t0, .inl (cy 0, 80, .inl Tx))] := hD
  obtain rfl := hw_1
  refine lv_iconst (v := iI (-1)) hx hb dX5_canTake_4 rfl ?_
  refine z_icmp_ne (tgt := 20) hx hb (iI_t (by omega) (by omega)) (iI_t (by omega) (by omega)) dX5_canTake_5 (by decide) (fun c2 => ?_) (fun c2 => ?_)
  · --
    refine lv_iconst (v := iI 0) hx hb dX5_canTake_20 rfl ?_
    exact z_zret hx hb hr hlocks (by decide +kernel) hS () (show ((errF tx 0 = -1 ∧ (tx.length : Int) ≤ x) ∧ (iI 0) = iI 1) ∨ (¬ (errF tx 0 = -1 ∧ (tx.length : Int) ≤ x) ∧ (iI 0) = iI 0) from (by first | exact Or.inl ⟨by omega, rfl⟩ | exact Or.inr ⟨by omega, rfl⟩)) hP dX5_canTake_21
  · --
    refine lv_aload_n hx hb dX5_canTake_8 rfl (lv_at hl 0 rfl) ?_
    refine va_get (D := D) (ci := 5) (v := .int (iI tl)) (C := RX5) (T := TX5) (N := 8) hx hb hts hiX5 hown hK hP 0 rfl rfl 7 (by decide) (hts (.fieldLink RX5 56 "BackwardSearchModel" "textLong" "I") (by decide +kernel)) (fun _ h9 => h9) rfl dX5_canTake_9 ?_
    refine lv_iload_n hx hb dX5_canTake_12 rfl (lv_at hl 1 rfl) ?_
    refine z_icmp_gt (tgt := 20) hx hb (iI_t (by omega) (by omega)) (iI_t (by omega) (by omega)) dX5_canTake_13 (by decide) (fun c3 => ?_) (fun c3 => ?_)
    · --
      refine lv_iconst (v := iI 0) hx hb dX5_canTake_20 rfl ?_
      exact z_zret hx hb hr hlocks (by decide +kernel) hS () (show ((errF tx 0 = -1 ∧ (tx.length : Int) ≤ x) ∧ (iI 0) = iI 1) ∨ (¬ (errF tx 0 = -1 ∧ (tx.length : Int) ≤ x) ∧ (iI 0) = iI 0) from (by first | exact Or.inl ⟨by omega, rfl⟩ | exact Or.inr ⟨by omega, rfl⟩)) hP dX5_canTake_21
    · --
      refine lv_iconst (v := iI 1) hx hb dX5_canTake_16 rfl ?_
      refine lv_goto (tgt := 21) hx hb dX5_canTake_17 (by decide) ?_
      exact z_zret hx hb hr hlocks (by decide +kernel) hS () (show ((errF tx 0 = -1 ∧ (tx.length : Int) ≤ x) ∧ (iI 1) = iI 1) ∨ (¬ (errF tx 0 = -1 ∧ (tx.length : Int) ≤ x) ∧ (iI 1) = iI 0) from (by first | exact Or.inl ⟨by omega, rfl⟩ | exact Or.inr ⟨by omega, rfl⟩)) hP dX5_canTake_21
set_option maxHeartbeats 4000000 in
set_option maxRecDepth 100000 in
theorem c_X5_takes (l : Launch) (D : va_G) (cy : Nat → ClassId) (m0 : Nat) (a0 : Nat) (p0 : Nat) (q0 : Nat) (v0 : Nat) (t0 : Nat) (ho : Int) (th : Int) (tl : Int) (G : Nat → Int32) (Tx : Nat → Int32) (x : Int) (y : Int) (hx1 : (x = 0 ∧ y = 60) ∨ (x = 61 ∧ y = 16)) (htl : 0 ≤ tl ∧ tl ≤ y) : Ci l D cy yX5_takes wsX5_takes 1 21 [.ref m0, .int (iI x), .int (iI y)] [(m0, .inr (5, [.ref a0, .ref p0, .int (iI ho), .ref q0, .ref v0, .int (iI th), .ref t0, .int (iI tl)])), (a0, .inl (cy 0, 144, .inl G)), (t0, .inl (cy 0, 80, .inl Tx))] (fun (r : Int32) (u : (Nat → Int32)) => r = iI tl ∧ u x.toNat = iI tl ∧ (∀ j : Nat, (j : Int) < tl → u (x.toNat + 1 + j) = Tx j - iI 97) ∧ (∀ j : Nat, j < 80 → ((j : Int) < x ∨ x + y < j) → u j = G j) ∧ ∀ j : Nat, 80 ≤ j → j < 144 → u j = iI 0) (fun u : (Nat → Int32) => [(m0, .inr (5, [.ref a0, .ref p0, .int (iI ho), .ref q0, .ref v0, .int (iI th), .ref t0, .int (iI 0)])), (a0, .inl (cy 0, 144, .inl u)), (t0, .inl (cy 0, 80, .inl Tx))]) := by
  refine Ci_of (cc := cX5_takes) (maxL := 4) (ret := (some .int)) (by decide) rfl rfl ?_
  intro p e s m args below meth c A hx hb hr hts hown hlocks hml hP hK hD hT hA ls hl
  have hS : va_S A s.heap s.heap [] := va_S.rf
  have hl : lv_has ls 4 [(0, .ref m0), (1, .int (iI x)), (2, .int (iI y))] := hl
  have hiX5 : ∀ w ∈ wsX50, w ∈ wsX5_takes := by decide +kernel
  refine lv_aload_n hx hb dX5_takes_0 rfl (lv_at hl 0 rfl) ?_
  refine va_get (D := D) (ci := 5) (v := .ref a0) (C := RX5) (T := TX5) (N := 8) hx hb hts hiX5 hown hK hP 0 rfl rfl 0 (by decide) (hts (.fieldLink RX5 7 "BackwardSearchModel" "all" "[I") (by decide +kernel)) (fun _ h9 => h9) rfl dX5_takes_1 ?_
  refine lv_iload_n hx hb dX5_takes_4 rfl (lv_at hl 1 rfl) ?_
  refine lv_aload_n hx hb dX5_takes_5 rfl (lv_at hl 0 rfl) ?_
  refine va_get (D := D) (ci := 5) (v := .int (iI tl)) (C := RX5) (T := TX5) (N := 8) hx hb hts hiX5 hown hK hP 0 rfl rfl 7 (by decide) (hts (.fieldLink RX5 56 "BackwardSearchModel" "textLong" "I") (by decide +kernel)) (fun _ h9 => h9) rfl dX5_takes_6 ?_
  refine z_iast hx hb hK hP hD hS 1 rfl (by omega) (by omega) (by omega) dX5_takes_9 (fun H locs hP hD hS => ?_)
  have hP : va_P D vwCl [(m0, .inr (5, [.ref a0, .ref p0, .int (iI ho), .ref q0, .ref v0, .int (iI th), .ref t0, .int (iI tl)])), (a0, .inl (cy 0, 144, .inl (upd G x.toNat (iI tl)))), (t0, .inl (cy 0, 80, .inl Tx))] H := hP
  have hD : va_D A [(m0, .inr (5, [.ref a0, .ref p0, .int (iI ho), .ref q0, .ref v0, .int (iI th), .ref t0, .int (iI tl)])), (a0, .inl (cy 0, 144, .inl (upd G x.toNat (iI tl)))), (t0, .inl (cy 0, 80, .inl Tx))] := hD
  refine lv_iconst (v := iI 0) hx hb dX5_takes_10 rfl ?_
  refine lv_istore_n (lv' := [(3, .int (iI 0)), (0, .ref m0), (1, .int (iI x)), (2, .int (iI y))]) hx hb dX5_takes_11 rfl hl (by decide) rfl (fun ls hl => ?_)
  have hloop1 : ∀ (n1 : Nat) (k : Int) (G2 : Nat → Int32) (hk : 0 ≤ k ∧ k ≤ y) (hf : G2 x.toNat = iI tl) (ha : ∀ j : Nat, (j : Int) < k → (j : Int) < tl → G2 (x.toNat + 1 + j) = Tx j - iI 97) (hz : ∀ j : Nat, (j : Int) < x ∨ x + y < j → G2 j = G j) (hm : y - k < (n1 : Int)) (H : Heap) (locs : List Loc) (ls : Array Slot) (hP : va_P D vwCl [(m0, .inr (5, [.ref a0, .ref p0, .int (iI ho), .ref q0, .ref v0, .int (iI th), .ref t0, .int (iI tl)])), (a0, .inl (cy 0, 144, .inl G2)), (t0, .inl (cy 0, 80, .inl Tx))] H) (hD : va_D A [(m0, .inr (5, [.ref a0, .ref p0, .int (iI ho), .ref q0, .ref v0, .int (iI th), .ref t0, .int (iI tl)])), (a0, .inl (cy 0, 144, .inl G2)), (t0, .inl (cy 0, 80, .inl Tx))]) (hS : va_S A s.heap H locs) (hl : lv_has ls 4 [(3, .int (iI k)), (0, .ref m0), (1, .int (iI x)), (2, .int (iI y))]), W p l e ({ frames := 1, cells := 0, slots := 0, locals := 21 } : Room) s m args below meth c H locs 0 0 (MQ below (va_Qi (fun (r : Int32) (u : (Nat → Int32)) => r = iI tl ∧ u x.toNat = iI tl ∧ (∀ j : Nat, (j : Int) < tl → u (x.toNat + 1 + j) = Tx j - iI 97) ∧ (∀ j : Nat, j < 80 → ((j : Int) < x ∨ x + y < j) → u j = G j) ∧ ∀ j : Nat, 80 ≤ j → j < 144 → u j = iI 0) (fun u t => va_P D vwCl ((fun u : (Nat → Int32) => [(m0, .inr (5, [.ref a0, .ref p0, .int (iI ho), .ref q0, .ref v0, .int (iI th), .ref t0, .int (iI 0)])), (a0, .inl (cy 0, 144, .inl u)), (t0, .inl (cy 0, 80, .inl Tx))]) u) t.heap) A) args s 0 0 A) (F0 m 12 ls []) := by
    intro n1
    induction n1 with
    | zero =>
      intro k G2 hk hf ha hz hm; exact absurd hm (by omega)
    | succ n1 ih1 =>
      intro k G2 hk hf ha hz hm H locs ls hP hD hS hl
      refine lv_iload_n hx hb dX5_takes_12 rfl (lv_at hl 0 rfl) ?_
      refine lv_iload_n hx hb dX5_takes_13 rfl (lv_at hl 3 rfl) ?_
      refine z_icmp_ge (tgt := 54) hx hb (iI_t (by omega) (by omega)) (iI_t (by omega) (by omega)) dX5_takes_14 (by decide) (fun c2 => ?_) (fun c2 => ?_)
      · --
        refine lv_aload_n hx hb dX5_takes_54 rfl (lv_at hl 1 rfl) ?_
        refine lv_iconst (v := iI 0) hx hb dX5_takes_55 rfl ?_
        refine va_put (D := D) (ci := 5) (v := .int (iI 0)) (ty := .int) (C := RX5) (T := TX5) (N := 8) hx hb hts hiX5 tyX5 tyX5_ok nmX5 hown hK hP hD hS 0 rfl rfl 7 (by decide) (hts (.fieldLink RX5 56 "BackwardSearchModel" "textLong" "I") (by decide +kernel)) (fun _ h9 => h9) rfl (by decide +kernel) rfl rfl (Nat.le_of_ble_eq_true rfl) dX5_takes_56 (fun H locs hP hD hS => ?_)
        have hP : va_P D vwCl [(m0, .inr (5, [.ref a0, .ref p0, .int (iI ho), .ref q0, .ref v0, .int (iI th), .ref t0, .int (iI 0)])), (a0, .inl (cy 0, 144, .inl G2)), (t0, .inl (cy 0, 80, .inl Tx))] H := hP
        have hD : va_D A [(m0, .inr (5, [.ref a0, .ref p0, .int (iI ho), .ref q0, .ref v0, .int (iI th), .ref t0, .int (iI 0)])), (a0, .inl (cy 0, 144, .inl G2)), (t0, .inl (cy 0, 80, .inl Tx))] := hD
        refine lv_aload_n hx hb dX5_takes_59 rfl (lv_at hl 1 rfl) ?_
        refine z_cVv (n := 0) (b := m0) (As := []) (rest := []) ⟨hx, hb, hml, hown, hts⟩ (c_X5_begins l D cy m0 a0 p0 q0 v0 t0 ho th 0 G2 ) gX5_takes_X5_begins rfl (by decide +kernel) ⟨Nat.le_of_ble_eq_true rfl, Nat.le_of_ble_eq_true rfl⟩ hK hT hP hD hS hA [0, 1] rfl rfl 0 5 rfl rfl rfl (fun _ => rfl) rfl hl.1 rfl (Nat.le_of_ble_eq_true rfl) dX5_takes_60 ⟨Nat.zero_le _, Nat.zero_le _⟩ (fun  u_3 H locs hw_3 hP hD hS => ?_)
        obtain ⟨G1_3, rfl⟩ : ∃ z, z = u_3 := ⟨_, rfl⟩
        have hw_3 : (∀ j : Nat, j < 80 → G1_3 j = G2 j) ∧ ∀ j : Nat, 80 ≤ j → j < 144 → G1_3 j = iI 0 := hw_3
        have hP : va_P D vwCl [(m0, .inr (5, [.ref a0, .ref p0, .int (iI ho), .ref q0, .ref v0, .int (iI th), .ref t0, .int (iI 0)])), (a0, .inl (cy 0, 144, .inl G1_3)), (t0, .inl (cy 0, 80, .inl Tx))] H := hP
        have hD : va_D A [(m0, .inr (5, [.ref a0, .ref p0, .int (iI ho), .ref q0, .ref v0, .int (iI th), .ref t0, .int (iI 0)])), (a0, .inl (cy 0, 144, .inl G1_3)), (t0, .inl (cy 0, 80, .inl Tx))] := hD
        have hbg := ‹_ ∧ ∀ j : Nat, 80 ≤ j → j < 144 → _›
        refine lv_aload_n hx hb dX5_takes_63 rfl (lv_at hl 1 rfl) ?_
        refine va_get (D := D) (ci := 5) (v := .ref a0) (C := RX5) (T := TX5) (N := 8) hx hb hts hiX5 hown hK hP 0 rfl rfl 0 (by decide) (hts (.fieldLink RX5 7 "BackwardSearchModel" "all" "[I") (by decide +kernel)) (fun _ h9 => h9) rfl dX5_takes_64 ?_
        refine lv_iload_n hx hb dX5_takes_67 rfl (lv_at hl 2 rfl) ?_
        refine z_iald hx hb hK hP 1 rfl (by omega) (by omega) (by omega) dX5_takes_68 ?_
        refine z_top (show G1_3 x.toNat = G1_3 x.toNat from rfl) ?_
        exact z_iret hx hb hr hlocks hS (G1_3) (show (G1_3 x.toNat) = iI tl ∧ G1_3 x.toNat = iI tl ∧ (∀ j : Nat, (j : Int) < tl → G1_3 (x.toNat + 1 + j) = Tx j - iI 97) ∧ (∀ j : Nat, j < 80 → ((j : Int) < x ∨ x + y < j) → G1_3 j = G j) ∧ ∀ j : Nat, 80 ≤ j → j < 144 → G1_3 j = iI 0 from (by
              have hk4 : k = y := by omega
              exact ⟨by rw [hbg.1 _ (by omega)]; exact hf, by rw [hbg.1 _ (by omega)]; exact hf, fun j a => by rw [hbg.1 _ (by omega)]; exact ha j (by omega) a, fun j a b => by rw [hbg.1 _ a]; exact hz j b, hbg.2⟩)) hP dX5_takes_69
      · --
        refine lv_aload_n hx hb dX5_takes_17 rfl (lv_at hl 1 rfl) ?_
        refine va_get (D := D) (ci := 5) (v := .ref a0) (C := RX5) (T := TX5) (N := 8) hx hb hts hiX5 hown hK hP 0 rfl rfl 0 (by decide) (hts (.fieldLink RX5 7 "BackwardSearchModel" "all" "[I") (by decide +kernel)) (fun _ h9 => h9) rfl dX5_takes_18 ?_
        refine lv_iload_n hx hb dX5_takes_21 rfl (lv_at hl 2 rfl) ?_
        refine lv_iconst (v := iI 1) hx hb dX5_takes_22 rfl ?_
        refine z_add hx hb dX5_takes_23 ?_
        refine lv_iload_n hx hb dX5_takes_24 rfl (lv_at hl 0 rfl) ?_
        refine z_add hx hb dX5_takes_25 ?_
        refine lv_iload_n hx hb dX5_takes_26 rfl (lv_at hl 0 rfl) ?_
        refine lv_aload_n hx hb dX5_takes_27 rfl (lv_at hl 1 rfl) ?_
        refine va_get (D := D) (ci := 5) (v := .int (iI tl)) (C := RX5) (T := TX5) (N := 8) hx hb hts hiX5 hown hK hP 0 rfl rfl 7 (by decide) (hts (.fieldLink RX5 56 "BackwardSearchModel" "textLong" "I") (by decide +kernel)) (fun _ h9 => h9) rfl dX5_takes_28 ?_
        refine z_icmp_ge (tgt := 46) hx hb (iI_t (by omega) (by omega)) (iI_t (by omega) (by omega)) dX5_takes_31 (by decide) (fun c4 => ?_) (fun c4 => ?_)
        · --
          refine lv_iconst (v := iI 0) hx hb dX5_takes_46 rfl ?_
          refine z_iast hx hb hK hP hD hS 1 rfl (by omega) (by omega) (by omega) dX5_takes_47 (fun H locs hP hD hS => ?_)
          have hP : va_P D vwCl [(m0, .inr (5, [.ref a0, .ref p0, .int (iI ho), .ref q0, .ref v0, .int (iI th), .ref t0, .int (iI tl)])), (a0, .inl (cy 0, 144, .inl (upd G2 (((x + 1) + k).toNat) (iI 0)))), (t0, .inl (cy 0, 80, .inl Tx))] H := hP
          have hD : va_D A [(m0, .inr (5, [.ref a0, .ref p0, .int (iI ho), .ref q0, .ref v0, .int (iI th), .ref t0, .int (iI tl)])), (a0, .inl (cy 0, 144, .inl (upd G2 (((x + 1) + k).toNat) (iI 0)))), (t0, .inl (cy 0, 80, .inl Tx))] := hD
          refine z_iinc (lv' := [(3, .int (iI (k + 1))), (0, .ref m0), (1, .int (iI x)), (2, .int (iI y))]) hx hb dX5_takes_48 hl (k := 0) rfl (by decide) rfl (fun ls hl => ?_)
          refine lv_goto (tgt := 12) hx hb dX5_takes_51 (by decide) ?_
          exact ih1 (k + 1) (upd G2 (((x + 1) + k).toNat) (iI 0)) (by omega) (by rw [upd_ne _ _ (by omega)]; exact hf) (fun j a b => by
            by_cases e : x.toNat + 1 + j = ((x + 1) + k).toNat
            · first
                | exact absurd b (by omega)
                | (rw [e, upd_same]; have e2 : j = k.toNat := by omega
                   rw [e2])
            · rw [upd_ne _ _ e]; exact ha j (by omega) b) (fun j a => by rw [upd_ne _ _ (by omega)]; exact hz j a) (by omega) _ _ _ hP hD hS (lv_sub hl [0, 1, 2, 3] rfl)
        · --
          refine lv_aload_n hx hb dX5_takes_34 rfl (lv_at hl 1 rfl) ?_
          refine va_get (D := D) (ci := 5) (v := .ref t0) (C := RX5) (T := TX5) (N := 8) hx hb hts hiX5 hown hK hP 0 rfl rfl 6 (by decide) (hts (.fieldLink RX5 22 "BackwardSearchModel" "text" "[I") (by decide +kernel)) (fun _ h9 => h9) rfl dX5_takes_35 ?_
          refine lv_iload_n hx hb dX5_takes_38 rfl (lv_at hl 0 rfl) ?_
          refine z_iald hx hb hK hP 2 rfl (by omega) (by omega) (by omega) dX5_takes_39 ?_
          refine z_top (show Tx k.toNat = Tx k.toNat from rfl) ?_
          refine lv_bipush (v := iI 97) hx hb dX5_takes_40 (by decide +kernel) ?_
          refine lv_isub hx hb dX5_takes_42 ?_
          refine lv_goto (tgt := 47) hx hb dX5_takes_43 (by decide) ?_
          refine z_iast hx hb hK hP hD hS 1 rfl (by omega) (by omega) (by omega) dX5_takes_47 (fun H locs hP hD hS => ?_)
          have hP : va_P D vwCl [(m0, .inr (5, [.ref a0, .ref p0, .int (iI ho), .ref q0, .ref v0, .int (iI th), .ref t0, .int (iI tl)])), (a0, .inl (cy 0, 144, .inl (upd G2 (((x + 1) + k).toNat) ((Tx k.toNat) - (iI 97))))), (t0, .inl (cy 0, 80, .inl Tx))] H := hP
          have hD : va_D A [(m0, .inr (5, [.ref a0, .ref p0, .int (iI ho), .ref q0, .ref v0, .int (iI th), .ref t0, .int (iI tl)])), (a0, .inl (cy 0, 144, .inl (upd G2 (((x + 1) + k).toNat) ((Tx k.toNat) - (iI 97))))), (t0, .inl (cy 0, 80, .inl Tx))] := hD
          refine z_iinc (lv' := [(3, .int (iI (k + 1))), (0, .ref m0), (1, .int (iI x)), (2, .int (iI y))]) hx hb dX5_takes_48 hl (k := 0) rfl (by decide) rfl (fun ls hl => ?_)
          refine lv_goto (tgt := 12) hx hb dX5_takes_51 (by decide) ?_
          exact ih1 (k + 1) (upd G2 (((x + 1) + k).toNat) ((Tx k.toNat) - (iI 97))) (by omega) (by rw [upd_ne _ _ (by omega)]; exact hf) (fun j a b => by
            by_cases e : x.toNat + 1 + j = ((x + 1) + k).toNat
            · first
                | exact absurd b (by omega)
                | (rw [e, upd_same]; have e2 : j = k.toNat := by omega
                   rw [e2])
            · rw [upd_ne _ _ e]; exact ha j (by omega) b) (fun j a => by rw [upd_ne _ _ (by omega)]; exact hz j a) (by omega) _ _ _ hP hD hS (lv_sub hl [0, 1, 2, 3] rfl)
  exact hloop1 (Int.toNat (y - 0) + 1) 0 (upd G x.toNat (iI tl)) (by omega) (upd_same _ _ _) (fun j a _ => by omega) (fun j a => upd_ne _ _ (by omega)) (by omega) _ _ _ hP hD hS (lv_sub hl [0, 1, 2, 3] rfl)
