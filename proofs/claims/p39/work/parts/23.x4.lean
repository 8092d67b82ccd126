theorem dX4_codeOf_0 : decode cX4_codeOf 0 = .ok (.lload_n 0, 1) := by decide +kernel
theorem dX4_codeOf_1 : decode cX4_codeOf 1 = .ok (.bipush 8, 2) := by decide +kernel
theorem dX4_codeOf_3 : decode cX4_codeOf 3 = .ok (.iload_n 2, 1) := by decide +kernel
theorem dX4_codeOf_4 : decode cX4_codeOf 4 = .ok (.imul, 1) := by decide +kernel
theorem dX4_codeOf_5 : decode cX4_codeOf 5 = .ok (.lushr, 1) := by decide +kernel
theorem dX4_codeOf_6 : decode cX4_codeOf 6 = .ok (.ldc2_w 226, 3) := by decide +kernel
theorem dX4_codeOf_9 : decode cX4_codeOf 9 = .ok (.land, 1) := by decide +kernel
theorem dX4_codeOf_10 : decode cX4_codeOf 10 = .ok (.l2i, 1) := by decide +kernel
theorem dX4_codeOf_11 : decode cX4_codeOf 11 = .ok (.ireturn, 1) := by decide +kernel
theorem dX4_isZeroFrom_0 : decode cX4_isZeroFrom 0 = .ok (.iload_n 2, 1) := by decide +kernel
theorem dX4_isZeroFrom_1 : decode cX4_isZeroFrom 1 = .ok (.bipush 8, 2) := by decide +kernel
theorem dX4_isZeroFrom_3 : decode cX4_isZeroFrom 3 = .ok (.if_icmp .ge 14, 3) := by decide +kernel
theorem dX4_isZeroFrom_6 : decode cX4_isZeroFrom 6 = .ok (.lload_n 0, 1) := by decide +kernel
theorem dX4_isZeroFrom_7 : decode cX4_isZeroFrom 7 = .ok (.bipush 8, 2) := by decide +kernel
theorem dX4_isZeroFrom_9 : decode cX4_isZeroFrom 9 = .ok (.iload_n 2, 1) := by decide +kernel
theorem dX4_isZeroFrom_10 : decode cX4_isZeroFrom 10 = .ok (.imul, 1) := by decide +kernel
theorem dX4_isZeroFrom_11 : decode cX4_isZeroFrom 11 = .ok (.lushr, 1) := by decide +kernel
theorem dX4_isZeroFrom_12 : decode cX4_isZeroFrom 12 = .ok (.lconst 0, 1) := by decide +kernel
theorem dX4_isZeroFrom_13 : decode cX4_isZeroFrom 13 = .ok (.lcmp, 1) := by decide +kernel
theorem dX4_isZeroFrom_14 : decode cX4_isZeroFrom 14 = .ok (.ifCond .ne 7, 3) := by decide +kernel
theorem dX4_isZeroFrom_17 : decode cX4_isZeroFrom 17 = .ok (.iconst 1, 1) := by decide +kernel
theorem dX4_isZeroFrom_18 : decode cX4_isZeroFrom 18 = .ok (.goto 4, 3) := by decide +kernel
theorem dX4_isZeroFrom_21 : decode cX4_isZeroFrom 21 = .ok (.iconst 0, 1) := by decide +kernel
theorem dX4_isZeroFrom_22 : decode cX4_isZeroFrom 22 = .ok (.ireturn, 1) := by decide +kernel
theorem dX4_countCharacters_0 : decode cX4_countCharacters 0 = .ok (.iconst 0, 1) := by decide +kernel
theorem dX4_countCharacters_1 : decode cX4_countCharacters 1 = .ok (.istore_n 2, 1) := by decide +kernel
theorem dX4_countCharacters_2 : decode cX4_countCharacters 2 = .ok (.iload_n 2, 1) := by decide +kernel
theorem dX4_countCharacters_3 : decode cX4_countCharacters 3 = .ok (.bipush 8, 2) := by decide +kernel
theorem dX4_countCharacters_5 : decode cX4_countCharacters 5 = .ok (.if_icmp .ge 37, 3) := by decide +kernel
theorem dX4_countCharacters_8 : decode cX4_countCharacters 8 = .ok (.lload_n 0, 1) := by decide +kernel
theorem dX4_countCharacters_9 : decode cX4_countCharacters 9 = .ok (.iload_n 2, 1) := by decide +kernel
theorem dX4_countCharacters_10 : decode cX4_countCharacters 10 = .ok (.invokestatic 186, 3) := by decide +kernel
theorem dX4_countCharacters_13 : decode cX4_countCharacters 13 = .ok (.ifCond .eq 29, 3) := by decide +kernel
theorem dX4_countCharacters_16 : decode cX4_countCharacters 16 = .ok (.lload_n 0, 1) := by decide +kernel
theorem dX4_countCharacters_17 : decode cX4_countCharacters 17 = .ok (.iload_n 2, 1) := by decide +kernel
theorem dX4_countCharacters_18 : decode cX4_countCharacters 18 = .ok (.invokestatic 186, 3) := by decide +kernel
theorem dX4_countCharacters_21 : decode cX4_countCharacters 21 = .ok (.istore_n 3, 1) := by decide +kernel
theorem dX4_countCharacters_22 : decode cX4_countCharacters 22 = .ok (.iload_n 3, 1) := by decide +kernel
theorem dX4_countCharacters_23 : decode cX4_countCharacters 23 = .ok (.bipush 33, 2) := by decide +kernel
theorem dX4_countCharacters_25 : decode cX4_countCharacters 25 = .ok (.if_icmp .lt 9, 3) := by decide +kernel
theorem dX4_countCharacters_28 : decode cX4_countCharacters 28 = .ok (.iload_n 3, 1) := by decide +kernel
theorem dX4_countCharacters_29 : decode cX4_countCharacters 29 = .ok (.bipush 126, 2) := by decide +kernel
theorem dX4_countCharacters_31 : decode cX4_countCharacters 31 = .ok (.if_icmp .le 5, 3) := by decide +kernel
theorem dX4_countCharacters_34 : decode cX4_countCharacters 34 = .ok (.iconst (-1), 1) := by decide +kernel
theorem dX4_countCharacters_35 : decode cX4_countCharacters 35 = .ok (.ireturn, 1) := by decide +kernel
theorem dX4_countCharacters_36 : decode cX4_countCharacters 36 = .ok (.iinc 2 1, 3) := by decide +kernel
theorem dX4_countCharacters_39 : decode cX4_countCharacters 39 = .ok (.goto (-37), 3) := by decide +kernel
theorem dX4_countCharacters_42 : decode cX4_countCharacters 42 = .ok (.lload_n 0, 1) := by decide +kernel
theorem dX4_countCharacters_43 : decode cX4_countCharacters 43 = .ok (.iload_n 2, 1) := by decide +kernel
theorem dX4_countCharacters_44 : decode cX4_countCharacters 44 = .ok (.invokestatic 228, 3) := by decide +kernel
theorem dX4_countCharacters_47 : decode cX4_countCharacters 47 = .ok (.ifCond .eq 7, 3) := by decide +kernel
theorem dX4_countCharacters_50 : decode cX4_countCharacters 50 = .ok (.iload_n 2, 1) := by decide +kernel
theorem dX4_countCharacters_51 : decode cX4_countCharacters 51 = .ok (.goto 4, 3) := by decide +kernel
theorem dX4_countCharacters_54 : decode cX4_countCharacters 54 = .ok (.iconst (-1), 1) := by decide +kernel
theorem dX4_countCharacters_55 : decode cX4_countCharacters 55 = .ok (.ireturn, 1) := by decide +kernel
set_option maxRecDepth 20000 in
theorem ggX4_countCharacters_X4_codeOf : GoodIn wsX4_countCharacters wsX4_codeOf := goodIn_r _ [4, 5] (by decide +kernel) (by decide +kernel)
set_option maxRecDepth 20000 in
theorem gX4_countCharacters_X4_codeOf : GoodIn wsX4_countCharacters (va_wsS RX4 186 yX4_codeOf wsX4_codeOf) := goodIn_app (goodIn_of _ (by decide +kernel)) ggX4_countCharacters_X4_codeOf
set_option maxRecDepth 20000 in
theorem ggX4_countCharacters_X4_isZeroFrom : GoodIn wsX4_countCharacters wsX4_isZeroFrom := goodIn_r _ [8] (by decide +kernel) (by decide +kernel)
set_option maxRecDepth 20000 in
theorem gX4_countCharacters_X4_isZeroFrom : GoodIn wsX4_countCharacters (va_wsS RX4 228 yX4_isZeroFrom wsX4_isZeroFrom) := goodIn_app (goodIn_of _ (by decide +kernel)) ggX4_countCharacters_X4_isZeroFrom
theorem dX4_appendText_0 : decode cX4_appendText 0 = .ok (.lload_n 1, 1) := by decide +kernel
theorem dX4_appendText_1 : decode cX4_appendText 1 = .ok (.invokestatic 175, 3) := by decide +kernel
theorem dX4_appendText_4 : decode cX4_appendText 4 = .ok (.istore_n 3, 1) := by decide +kernel
theorem dX4_appendText_5 : decode cX4_appendText 5 = .ok (.iload_n 3, 1) := by decide +kernel
theorem dX4_appendText_6 : decode cX4_appendText 6 = .ok (.iconst 1, 1) := by decide +kernel
theorem dX4_appendText_7 : decode cX4_appendText 7 = .ok (.if_icmp .ge 13, 3) := by decide +kernel
theorem dX4_appendText_10 : decode cX4_appendText 10 = .ok (.new 179, 3) := by decide +kernel
theorem dX4_appendText_13 : decode cX4_appendText 13 = .ok (.dup, 1) := by decide +kernel
theorem dX4_appendText_14 : decode cX4_appendText 14 = .ok (.ldc 181, 2) := by decide +kernel
theorem dX4_appendText_16 : decode cX4_appendText 16 = .ok (.invokespecial 183, 3) := by decide +kernel
theorem dX4_appendText_19 : decode cX4_appendText 19 = .ok (.athrow, 1) := by decide +kernel
theorem dX4_appendText_20 : decode cX4_appendText 20 = .ok (.aload_n 0, 1) := by decide +kernel
theorem dX4_appendText_21 : decode cX4_appendText 21 = .ok (.getfield 46, 3) := by decide +kernel
theorem dX4_appendText_24 : decode cX4_appendText 24 = .ok (.invokevirtual 67, 3) := by decide +kernel
theorem dX4_appendText_27 : decode cX4_appendText 27 = .ok (.iload_n 3, 1) := by decide +kernel
theorem dX4_appendText_28 : decode cX4_appendText 28 = .ok (.iadd, 1) := by decide +kernel
theorem dX4_appendText_29 : decode cX4_appendText 29 = .ok (.bipush 80, 2) := by decide +kernel
theorem dX4_appendText_31 : decode cX4_appendText 31 = .ok (.if_icmp .le 13, 3) := by decide +kernel
theorem dX4_appendText_34 : decode cX4_appendText 34 = .ok (.new 85, 3) := by decide +kernel
theorem dX4_appendText_37 : decode cX4_appendText 37 = .ok (.dup, 1) := by decide +kernel
theorem dX4_appendText_38 : decode cX4_appendText 38 = .ok (.ldc 184, 2) := by decide +kernel
theorem dX4_appendText_40 : decode cX4_appendText 40 = .ok (.invokespecial 89, 3) := by decide +kernel
theorem dX4_appendText_43 : decode cX4_appendText 43 = .ok (.athrow, 1) := by decide +kernel
theorem dX4_appendText_44 : decode cX4_appendText 44 = .ok (.iload_n 3, 1) := by decide +kernel
theorem dX4_appendText_45 : decode cX4_appendText 45 = .ok (.iconst 1, 1) := by decide +kernel
theorem dX4_appendText_46 : decode cX4_appendText 46 = .ok (.isub, 1) := by decide +kernel
theorem dX4_appendText_47 : decode cX4_appendText 47 = .ok (.istore 4, 2) := by decide +kernel
theorem dX4_appendText_49 : decode cX4_appendText 49 = .ok (.iload 4, 2) := by decide +kernel
theorem dX4_appendText_51 : decode cX4_appendText 51 = .ok (.ifCond .lt 22, 3) := by decide +kernel
theorem dX4_appendText_54 : decode cX4_appendText 54 = .ok (.aload_n 0, 1) := by decide +kernel
theorem dX4_appendText_55 : decode cX4_appendText 55 = .ok (.getfield 46, 3) := by decide +kernel
theorem dX4_appendText_58 : decode cX4_appendText 58 = .ok (.lload_n 1, 1) := by decide +kernel
theorem dX4_appendText_59 : decode cX4_appendText 59 = .ok (.iload 4, 2) := by decide +kernel
theorem dX4_appendText_61 : decode cX4_appendText 61 = .ok (.invokestatic 186, 3) := by decide +kernel
theorem dX4_appendText_64 : decode cX4_appendText 64 = .ok (.invokevirtual 190, 3) := by decide +kernel
theorem dX4_appendText_67 : decode cX4_appendText 67 = .ok (.iinc 4 (-1), 3) := by decide +kernel
theorem dX4_appendText_70 : decode cX4_appendText 70 = .ok (.goto (-21), 3) := by decide +kernel
theorem dX4_appendText_73 : decode cX4_appendText 73 = .ok (.aload_n 0, 1) := by decide +kernel
theorem dX4_appendText_74 : decode cX4_appendText 74 = .ok (.getfield 46, 3) := by decide +kernel
theorem dX4_appendText_77 : decode cX4_appendText 77 = .ok (.invokevirtual 67, 3) := by decide +kernel
theorem dX4_appendText_80 : decode cX4_appendText 80 = .ok (.ireturn, 1) := by decide +kernel
set_option maxRecDepth 20000 in
theorem ggX4_appendText_X4_countCharacters : GoodIn wsX4_appendText wsX4_countCharacters := goodIn_r _ [9, 10, 11, 8, 12, 13, 14, 15, 16] (by decide +kernel) (by decide +kernel)
set_option maxRecDepth 20000 in
theorem gX4_appendText_X4_countCharacters : GoodIn wsX4_appendText (va_wsS RX4 175 yX4_countCharacters wsX4_countCharacters) := goodIn_app (goodIn_of _ (by decide +kernel)) ggX4_appendText_X4_countCharacters
set_option maxRecDepth 20000 in
theorem ggX4_appendText_X2_size : GoodIn wsX4_appendText wsX2_size := goodIn_r _ [21, 22, 35, 36] (by decide +kernel) (by decide +kernel)
set_option maxRecDepth 20000 in
theorem gX4_appendText_X2_size : GoodIn wsX4_appendText (wsV RX4 67 RX2 yX2_size wsX2_size) := goodIn_app (goodIn_of _ (by decide +kernel)) ggX4_appendText_X2_size
set_option maxRecDepth 20000 in
theorem ggX4_appendText_X4_codeOf : GoodIn wsX4_appendText wsX4_codeOf := goodIn_r _ [12, 13] (by decide +kernel) (by decide +kernel)
set_option maxRecDepth 20000 in
theorem gX4_appendText_X4_codeOf : GoodIn wsX4_appendText (va_wsS RX4 186 yX4_codeOf wsX4_codeOf) := goodIn_app (goodIn_of _ (by decide +kernel)) ggX4_appendText_X4_codeOf
set_option maxRecDepth 20000 in
theorem ggX4_appendText_X2_add : GoodIn wsX4_appendText wsX2_add := goodIn_r _ [26, 22, 27, 35, 36] (by decide +kernel) (by decide +kernel)
set_option maxRecDepth 20000 in
theorem gX4_appendText_X2_add : GoodIn wsX4_appendText (wsV RX4 190 RX2 yX2_add wsX2_add) := goodIn_app (goodIn_of _ (by decide +kernel)) ggX4_appendText_X2_add
section ZY
variable {p : Program} {l : Launch} {e : Env} {R : Room} {s : State} {m : MethodId} {args : Array Value} {below : List Frame} {meth : Method} {c : Code} {H : Heap} {locs : List Loc} {cells slots : Nat} {Q : State → Prop}
variable {cc : ByteArray} {pc : Nat} {ls : Array Slot} {rest st0 : List Value} {D : va_G} {cy : Nat → ClassId} {A A0 : Nat → Prop} {H0 : Heap} {W0 w : va_W} {mc ms : Nat} {px px' : String → Prop}
theorem z_topl {x y : Int64} (h : x = y) (k : W p l e R s m args below meth c H locs cells slots Q (F0 m pc ls (.long y :: rest))) : W p l e R s m args below meth c H locs cells slots Q (F0 m pc ls (.long x :: rest)) := h ▸ k
end ZY
def shrF (c : Int64) (k : Nat) : Int64 := (c.toUInt64 >>> UInt64.ofNat (8 * k)).toInt64
def bF (c : Int64) (k : Nat) : Nat := c.toUInt64.toNat / 2 ^ (8 * k) % 256
theorem i64_u {a b : Int64} (h : a.toUInt64 = b.toUInt64) : a = b := by cases a; cases b; cases h; rfl
theorem shr_eq {c : Int64} {k : Int} (h : 0 ≤ k ∧ k < 8) : (c.toUInt64 >>> ((iI (8 * k)).toInt64.toUInt64 &&& Int64.toUInt64 63)).toInt64 = shrF c k.toNat := by
  have h2 : ∀ k : Nat, k < 8 → (iI (8 * (k : Int))).toInt64.toUInt64 &&& Int64.toUInt64 63 = UInt64.ofNat (8 * k) := by decide +kernel
  have h3 := h2 k.toNat (by omega)
  rw [show ((k.toNat : Nat) : Int) = k by omega] at h3
  rw [h3]; rfl
theorem shr_nat {c : Int64} {k : Nat} (h : k < 8) : (shrF c k).toUInt64.toNat = c.toUInt64.toNat / 2 ^ (8 * k) := by
  unfold shrF
  rw [UInt64.toUInt64_toInt64, UInt64.toNat_shiftRight, Nat.shiftRight_eq_div_pow]
  have : (UInt64.ofNat (8 * k)).toNat % 64 = 8 * k := by
    rw [UInt64.toNat_ofNat']
    omega
  rw [this]
theorem bF_lt (c : Int64) (k : Nat) : bF c k < 256 := Nat.mod_lt _ (by decide)
theorem byte_eq {c : Int64} {k : Nat} (h : k < 8) : shrF c k &&& lI 255 = lI (bF c k : Int) := by
  have h1 : (shrF c k &&& lI 255).toUInt64.toNat = (lI (bF c k : Int)).toUInt64.toNat := by
    have e1 : (shrF c k &&& lI 255).toUInt64 = (shrF c k).toUInt64 &&& 255 := rfl
    rw [e1, UInt64.toNat_and, shr_nat h]
    have e2 : (255 : UInt64).toNat = 2 ^ 8 - 1 := rfl
    rw [e2, Nat.and_two_pow_sub_one_eq_mod]
    have e3 : ∀ b : Nat, b < 256 → (lI (b : Int)).toUInt64.toNat = b := by decide +kernel
    rw [e3 _ (bF_lt c k)]; rfl
  exact i64_u (UInt64.toNat_inj.mp h1)
theorem byte_i {c : Int64} {k : Nat} : (lI (bF c k : Int)).toInt32 = iI (bF c k : Int) := by
  have e3 : ∀ b : Nat, b < 256 → (lI (b : Int)).toInt32 = iI (b : Int) := by decide +kernel
  exact e3 _ (bF_lt c k)
theorem shr_z {c : Int64} {k : Nat} (h : k < 8) : (shrF c k).toInt = 0 ↔ c.toUInt64.toNat / 2 ^ (8 * k) = 0 := by
  rw [← shr_nat h]
  constructor
  · intro q
    have : shrF c k = 0 := Int64.toInt_inj.mp q
    rw [this]; rfl
  · intro q
    have : shrF c k = 0 := i64_u (UInt64.toNat_inj.mp q)
    rw [this]; rfl
theorem shr_all {c : Int64} {k : Nat} (h : k ≤ 8) : (c.toUInt64.toNat / 2 ^ (8 * k) = 0) ↔ ∀ j : Nat, k ≤ j → j < 8 → bF c j = 0 := by
  have hlt : c.toUInt64.toNat < 2 ^ 64 := c.toUInt64.toNat_lt
  unfold bF
  generalize c.toUInt64.toNat = v at hlt
  constructor
  · intro q j h1 h2
    have : v / 2 ^ (8 * j) = 0 := by
      rw [show 8 * j = 8 * k + 8 * (j - k) by omega, Nat.pow_add, ← Nat.div_div_eq_div_mul, q, Nat.zero_div]
    rw [this]
  · intro q
    have aux : ∀ n : Nat, n ≤ 8 → k ≤ 8 - n → v / 2 ^ (8 * (8 - n)) = 0 := by
      intro n
      induction n with
      | zero => intro _ _; exact Nat.div_eq_of_lt hlt
      | succ n ih =>
        intro h1 h2
        have i1 := ih (by omega) (by omega)
        have q1 := q (8 - (n + 1)) (by omega) (by omega)
        rw [show 8 * (8 - n) = 8 * (8 - (n + 1)) + 8 by omega, Nat.pow_add, ← Nat.div_div_eq_div_mul] at i1
        generalize v / 2 ^ (8 * (8 - (n + 1))) = w at i1 q1
        omega
    have := aux (8 - k) (by omega) (by omega)
    rw [show 8 - (8 - k) = k by omega] at this
    exact this

/-- the first n bytes are characters, the others are none -/
def cntOk (c : Int64) (n : Nat) : Prop := n ≤ 8 ∧ (∀ k : Nat, k < n → 33 ≤ bF c k ∧ bF c k ≤ 126) ∧ ∀ k : Nat, n ≤ k → k < 8 → bF c k = 0
theorem cntOk.uniq {c : Int64} {n n' : Nat} (h : cntOk c n) (g : cntOk c n') : n = n' := by
  obtain ⟨h1, h2, h3⟩ := h
  obtain ⟨g1, g2, g3⟩ := g
  rcases Nat.lt_trichotomy n n' with q | q | q
  · have a := h3 n (Nat.le_refl _) (by omega); have b := g2 n q; omega
  · exact q
  · have a := g3 n' (Nat.le_refl _) (by omega); have b := h2 n' q; omega
def chF (c : Int64) : Nat → List Int32
  | 0 => []
  | n + 1 => iI (bF c n : Int) :: chF c n
theorem chF_len (c : Int64) : ∀ n : Nat, (chF c n).length = n
  | 0 => rfl
  | n + 1 => by simp [chF, chF_len c n]
theorem ch_step {c : Int64} {k : Int} {cur full : List Int32} (h0 : 0 ≤ k) (h : cur ++ chF c (k + 1).toNat = full) : (cur ++ [iI (bF c k.toNat : Int)]) ++ chF c (k + (-1) + 1).toNat = full := by
  rw [← h, show (k + 1).toNat = k.toNat + 1 by omega, show (k + (-1) + 1).toNat = k.toNat by omega]
  simp [chF]
/-- what the model's walk over the eight bytes knows -/
def CW (c : Int64) (k many is en : Int) : Prop := 0 ≤ many ∧ many ≤ k ∧ (∀ j : Nat, (j : Int) < many → ¬ bF c j = 0) ∧ (is = 0 ∨ is = 1) ∧ ((en = 0 ∧ many = k ∧ (is = 1 ↔ ∀ j : Nat, (j : Int) < many → 33 ≤ bF c j ∧ bF c j ≤ 126)) ∨ (en = 1 ∧ many < k ∧ bF c many.toNat = 0 ∧ (is = 1 ↔ (∀ j : Nat, (j : Int) < many → 33 ≤ bF c j ∧ bF c j ≤ 126) ∧ ∀ j : Nat, many ≤ j → (j : Int) < k → bF c j = 0)))
theorem CW.zero (c : Int64) : CW c 0 0 1 0 := ⟨Int.le_refl _, Int.le_refl _, fun j h => by omega, Or.inr rfl, Or.inl ⟨rfl, rfl, ⟨fun _ j h => by omega, fun _ => rfl⟩⟩⟩
theorem CW.live {c : Int64} {k many is is2 en : Int} (h : CW c k many is en) (he : en = 0) (hb : ¬ bF c k.toNat = 0) (his : is2 = 0 ∨ is2 = 1) (hi : is2 = 1 ↔ is = 1 ∧ 33 ≤ bF c k.toNat ∧ bF c k.toNat ≤ 126) : CW c (k + 1) (many + 1) is2 0 := by
  obtain ⟨h1, h2, h3, h4, ⟨h5, h6, h7⟩ | ⟨h5, _⟩⟩ := h
  · refine ⟨by omega, by omega, fun j hj => ?_, his, Or.inl ⟨rfl, by omega, ?_⟩⟩
    · by_cases e : j = k.toNat
      · rw [e]; exact hb
      · exact h3 j (by omega)
    · rw [hi, h7]
      constructor
      · rintro ⟨a, b⟩ j hj
        by_cases e : j = k.toNat
        · rw [e]; exact b
        · exact a j (by omega)
      · intro a
        exact ⟨fun j hj => a j (by omega), a k.toNat (by omega)⟩
  · omega
theorem CW.dead {c : Int64} {k many is is2 en : Int} (h : CW c k many is en) (he : en = 1 ∨ bF c k.toNat = 0) (his : is2 = 0 ∨ is2 = 1) (hi : is2 = 1 ↔ is = 1 ∧ bF c k.toNat = 0) : CW c (k + 1) (many + 0) is2 1 := by
  obtain ⟨h1, h2, h3, h4, ⟨h5, h6, h7⟩ | ⟨h5, h6, h7, h8⟩⟩ := h
  · have hb : bF c k.toNat = 0 := by omega
    refine ⟨by omega, by omega, fun j hj => h3 j (by omega), his, Or.inr ⟨rfl, by omega, ?_, ?_⟩⟩
    · rw [show (many + 0).toNat = k.toNat by omega]; exact hb
    · rw [hi, h7]
      constructor
      · rintro ⟨a, b⟩
        refine ⟨fun j hj => a j (by omega), fun j q1 q2 => ?_⟩
        rw [show j = k.toNat by omega]; exact b
      · rintro ⟨a, b⟩
        exact ⟨fun j hj => a j (by omega), hb⟩
  · refine ⟨by omega, by omega, fun j hj => h3 j (by omega), his, Or.inr ⟨rfl, by omega, ?_, ?_⟩⟩
    · rw [show (many + 0).toNat = many.toNat by omega]; exact h7
    · rw [hi, h8]
      constructor
      · rintro ⟨⟨a, b⟩, d⟩
        refine ⟨fun j hj => a j (by omega), fun j q1 q2 => ?_⟩
        by_cases e : j = k.toNat
        · rw [e]; exact d
        · exact b j (by omega) (by omega)
      · rintro ⟨a, b⟩
        exact ⟨⟨fun j hj => a j (by omega), fun j q1 q2 => b j (by omega) (by omega)⟩, b k.toNat (by omega) (by omega)⟩
theorem CW.done {c : Int64} {k many is en : Int} (h : CW c k many is en) (hk : k = 8) : (is = 1 ∧ cntOk c many.toNat) ∨ (is = 0 ∧ ∀ n : Nat, ¬ cntOk c n) := by
  obtain ⟨h1, h2, h3, h4, hc⟩ := h
  have key : (is = 1 ↔ cntOk c many.toNat) := by
    rcases hc with ⟨h5, h6, h7⟩ | ⟨h5, h6, h7, h8⟩
    · rw [h7]
      exact ⟨fun a => ⟨by omega, fun j hj => a j (by omega), fun j q1 q2 => by omega⟩, fun a j hj => a.2.1 j (by omega)⟩
    · rw [h8]
      exact ⟨fun a => ⟨by omega, fun j hj => a.1 j (by omega), fun j q1 q2 => a.2 j (by omega) (by omega)⟩, fun a => ⟨fun j hj => a.2.1 j (by omega), fun j q1 q2 => a.2.2 j (by omega) (by omega)⟩⟩
  rcases h4 with q | q
  · refine Or.inr ⟨q, fun n hn => ?_⟩
    have hlen : n = many.toNat := by
      rcases Nat.lt_trichotomy n many.toNat with e | e | e
      · exact absurd (hn.2.2 n (Nat.le_refl _) (by omega)) (h3 n (by omega))
      · exact e
      · rcases hc with ⟨h5, h6, h7⟩ | ⟨h5, h6, h7, h8⟩
        · have := hn.1; omega
        · have := hn.2.1 many.toNat e; omega
    rw [hlen] at hn
    have := key.mpr hn
    omega
  · exact Or.inl ⟨q, key.mp q⟩
theorem zf_iff {c : Int64} {k : Int} (h : 0 ≤ k ∧ k < 8) : (shrF c k.toNat).toInt = 0 ↔ ∀ j : Nat, k ≤ (j : Int) → j < 8 → bF c j = 0 := by
  rw [shr_z (by omega), shr_all (by omega)]
  exact ⟨fun q j a b => q j (by omega) b, fun q j a b => q j (by omega) b⟩
theorem cnt_yes {c : Int64} {i : Int} (hi : 0 ≤ i ∧ i ≤ 8) (hb : ∀ j : Nat, (j : Int) < i → 33 ≤ bF c j ∧ bF c j ≤ 126) (hz : ∀ j : Nat, i ≤ (j : Int) → j < 8 → bF c j = 0) : cntOk c i.toNat := ⟨by omega, fun k hk => hb k (by omega), fun k a b => hz k (by omega) b⟩
theorem cnt_no1 {c : Int64} {i : Int} (hi : 0 ≤ i ∧ i < 8) (hb : ∀ j : Nat, (j : Int) < i → 33 ≤ bF c j ∧ bF c j ≤ 126) (hz : ¬ (bF c i.toNat : Int) = 0 ∧ ((bF c i.toNat : Int) < 33 ∨ 126 < (bF c i.toNat : Int))) : ∀ n : Nat, ¬ cntOk c n := by
  rintro n ⟨h1, h2, h3⟩
  rcases Nat.lt_trichotomy n i.toNat with e | e | e
  · have a := h3 n (Nat.le_refl _) (by omega); have b := hb n (by omega); omega
  · have a := h3 i.toNat (by omega) (by omega); omega
  · have a := h2 i.toNat e; omega
theorem cnt_no2 {c : Int64} {i : Int} (hi : 0 ≤ i ∧ i ≤ 8) (hb : ∀ j : Nat, (j : Int) < i → 33 ≤ bF c j ∧ bF c j ≤ 126) (hz : ¬ ∀ j : Nat, i ≤ (j : Int) → j < 8 → bF c j = 0) (he : 8 ≤ i ∨ (bF c i.toNat : Int) = 0) : ∀ n : Nat, ¬ cntOk c n := by
  rintro n ⟨h1, h2, h3⟩
  rcases Nat.lt_trichotomy n i.toNat with e | e | e
  · have a := h3 n (Nat.le_refl _) (by omega); have b := hb n (by omega); omega
  · exact hz (fun j a b => h3 j (by omega) b)
  · have a := h2 i.toNat e; omega
theorem no_n {c : Int64} {nn : Int} (h : cntOk c nn.toNat) (h1 : nn < 1) : ¬ ∃ n : Nat, 1 ≤ n ∧ cntOk c n := by
  rintro ⟨n, a, b⟩
  have := h.uniq b
  omega
theorem no_m {c : Int64} (h : ∀ n : Nat, ¬ cntOk c n) : ¬ ∃ n : Nat, 1 ≤ n ∧ cntOk c n := fun ⟨n, _, b⟩ => h n b
theorem too_n {c : Int64} {nn len : Int} (h : cntOk c nn.toNat) (h1 : 1 ≤ nn) (h2 : 80 < len + nn) : ∃ n : Nat, 1 ≤ n ∧ cntOk c n ∧ 80 < len + n := ⟨nn.toNat, by omega, h, by omega⟩
theorem no_w {c : Int64} {is many : Int} (h : (is = 1 ∧ cntOk c many.toNat) ∨ (is = 0 ∧ ∀ n : Nat, ¬ cntOk c n)) (hz : is = 0 ∨ many < 1) : ¬ ∃ n : Nat, 1 ≤ n ∧ cntOk c n := by
  rcases h with ⟨a, b⟩ | ⟨a, b⟩
  · exact no_n b (by omega)
  · exact no_m b
theorem yes_w {c : Int64} {is many : Int} (h : (is = 1 ∧ cntOk c many.toNat) ∨ (is = 0 ∧ ∀ n : Nat, ¬ cntOk c n)) (hz : ¬ is = 0) : cntOk c many.toNat := by
  rcases h with ⟨a, b⟩ | ⟨a, b⟩
  · exact b
  · exact absurd a hz
theorem too_w {c : Int64} {is many len : Int} (h : (is = 1 ∧ cntOk c many.toNat) ∨ (is = 0 ∧ ∀ n : Nat, ¬ cntOk c n)) (hz : ¬ is = 0) (h1 : 1 ≤ many) (h2 : 80 < len + many) : ∃ n : Nat, 1 ≤ n ∧ cntOk c n ∧ 80 < len + n := too_n (yes_w h hz) h1 h2
theorem app_done {c : Int64} {nn k t2 : Int} {f2 : Nat → Int32} {cur tx : List Int32} (h : cntOk c nn.toNat) (hcur : cur ++ chF c (k + 1).toNat = tx ++ chF c nn.toNat) (hrep : Rep t2 f2 cur) (ht : t2 = (tx.length : Int) + nn - (k + 1)) (hk : k = -1) (h1 : 1 ≤ nn) (h8 : (tx.length : Int) + nn ≤ 80) : ∃ n : Nat, 1 ≤ n ∧ cntOk c n ∧ (tx.length : Int) + n ≤ 80 ∧ iI t2 = iI ((tx.length : Int) + n) ∧ Rep t2 f2 (tx ++ chF c n) := by
  rw [show (k + 1).toNat = 0 by omega, show chF c 0 = [] from rfl, List.append_nil] at hcur
  rw [hcur] at hrep
  exact ⟨nn.toNat, by omega, h, by omega, congrArg iI (by omega), hrep⟩

set_option maxHeartbeats 4000000 in
set_option maxRecDepth 100000 in
theorem c_X4_codeOf (l : Launch) (D : va_G) (cy : Nat → ClassId) (cv : Int64) (k : Int) (hk8 : 0 ≤ k ∧ k < 8) : Ci l D cy yX4_codeOf wsX4_codeOf 0 0 [.long cv, .int (iI k)] [] (fun (r : Int32) (u : Unit) => r = iI (bF cv k.toNat : Int)) (fun u : Unit => []) := by
  refine Ci_of (cc := cX4_codeOf) (maxL := 3) (ret := (some .int)) (by decide) rfl rfl ?_
  intro p e s m args below meth c A hx hb hr hts hown hlocks hml hP hK hD hT hA ls hl
  have hS : va_S A s.heap s.heap [] := va_S.rf
  have hl : lv_has ls 3 [(0, .long cv), (2, .int (iI k))] := hl
  refine lv_lload_n hx hb dX4_codeOf_0 rfl (lv_at hl 0 rfl) ?_
  refine lv_bipush (v := iI 8) hx hb dX4_codeOf_1 (by decide +kernel) ?_
  refine lv_iload_n hx hb dX4_codeOf_3 rfl (lv_at hl 1 rfl) ?_
  refine z_mul hx hb dX4_codeOf_4 ?_
  refine lv_lushr (v := shrF cv k.toNat) hx hb dX4_codeOf_5 (shr_eq (by omega)) ?_
  refine z_ldc2 (z := 255) hx hb (by decide +kernel) hown (hts (.constantLong RX4 226 (255)) (by decide +kernel)) dX4_codeOf_6 ?_
  refine lv_land hx hb dX4_codeOf_9 ?_
  refine z_topl (show shrF cv k.toNat &&& lI 255 = lI (bF cv k.toNat : Int) from byte_eq (by omega)) ?_
  refine lv_l2i (v := iI (bF cv k.toNat : Int)) hx hb dX4_codeOf_10 byte_i ?_
  exact z_iret hx hb hr hlocks hS () (show (iI (bF cv k.toNat : Int)) = iI (bF cv k.toNat : Int) from rfl) hP dX4_codeOf_11
set_option maxHeartbeats 4000000 in
set_option maxRecDepth 100000 in
theorem c_X4_isZeroFrom (l : Launch) (D : va_G) (cy : Nat → ClassId) (cv : Int64) (k : Int) (hk8 : 0 ≤ k ∧ k ≤ 8) : Ci l D cy yX4_isZeroFrom wsX4_isZeroFrom 0 0 [.long cv, .int (iI k)] [] (fun (r : Int32) (u : Unit) => ((∀ j : Nat, k ≤ (j : Int) → j < 8 → bF cv j = 0) ∧ r = iI 1) ∨ (¬ (∀ j : Nat, k ≤ (j : Int) → j < 8 → bF cv j = 0) ∧ r = iI 0)) (fun u : Unit => []) := by
  refine Ci_of (cc := cX4_isZeroFrom) (maxL := 3) (ret := (some .boolean)) (by decide) rfl rfl ?_
  intro p e s m args below meth c A hx hb hr hts hown hlocks hml hP hK hD hT hA ls hl
  have hS : va_S A s.heap s.heap [] := va_S.rf
  have hl : lv_has ls 3 [(0, .long cv), (2, .int (iI k))] := hl
  refine lv_iload_n hx hb dX4_isZeroFrom_0 rfl (lv_at hl 1 rfl) ?_
  refine lv_bipush (v := iI 8) hx hb dX4_isZeroFrom_1 (by decide +kernel) ?_
  refine z_icmp_ge (tgt := 17) hx hb (iI_t (by omega) (by omega)) (iI_t (by omega) (by omega)) dX4_isZeroFrom_3 (by decide) (fun c1 => ?_) (fun c1 => ?_)
  · --
    refine lv_iconst (v := iI 1) hx hb dX4_isZeroFrom_17 rfl ?_
    refine lv_goto (tgt := 22) hx hb dX4_isZeroFrom_18 (by decide) ?_
    exact z_zret hx hb hr hlocks (by decide +kernel) hS () (show ((∀ j : Nat, k ≤ (j : Int) → j < 8 → bF cv j = 0) ∧ (iI 1) = iI 1) ∨ (¬ (∀ j : Nat, k ≤ (j : Int) → j < 8 → bF cv j = 0) ∧ (iI 1) = iI 0) from (Or.inl ⟨fun j a b => by omega, rfl⟩)) hP dX4_isZeroFrom_22
  · --
    refine lv_lload_n hx hb dX4_isZeroFrom_6 rfl (lv_at hl 0 rfl) ?_
    refine lv_bipush (v := iI 8) hx hb dX4_isZeroFrom_7 (by decide +kernel) ?_
    refine lv_iload_n hx hb dX4_isZeroFrom_9 rfl (lv_at hl 1 rfl) ?_
    refine z_mul hx hb dX4_isZeroFrom_10 ?_
    refine lv_lushr (v := shrF cv k.toNat) hx hb dX4_isZeroFrom_11 (shr_eq (by omega)) ?_
    refine lv_lconst (v := lI 0) hx hb dX4_isZeroFrom_12 rfl ?_
    refine z_lcmp_ne (tgt := 21) hx hb rfl (lI_t (by omega) (by omega)) dX4_isZeroFrom_13 dX4_isZeroFrom_14 (by decide) (fun c2 => ?_) (fun c2 => ?_)
    · --
      refine lv_iconst (v := iI 0) hx hb dX4_isZeroFrom_21 rfl ?_
      exact z_zret hx hb hr hlocks (by decide +kernel) hS () (show ((∀ j : Nat, k ≤ (j : Int) → j < 8 → bF cv j = 0) ∧ (iI 0) = iI 1) ∨ (¬ (∀ j : Nat, k ≤ (j : Int) → j < 8 → bF cv j = 0) ∧ (iI 0) = iI 0) from (Or.inr ⟨fun h => absurd ((zf_iff (by omega)).mpr h) (by omega), rfl⟩)) hP dX4_isZeroFrom_22
    · --
      refine lv_iconst (v := iI 1) hx hb dX4_isZeroFrom_17 rfl ?_
      refine lv_goto (tgt := 22) hx hb dX4_isZeroFrom_18 (by decide) ?_
      exact z_zret hx hb hr hlocks (by decide +kernel) hS () (show ((∀ j : Nat, k ≤ (j : Int) → j < 8 → bF cv j = 0) ∧ (iI 1) = iI 1) ∨ (¬ (∀ j : Nat, k ≤ (j : Int) → j < 8 → bF cv j = 0) ∧ (iI 1) = iI 0) from (Or.inl ⟨(zf_iff (by omega)).mp (by omega), rfl⟩)) hP dX4_isZeroFrom_22
set_option maxHeartbeats 4000000 in
set_option maxRecDepth 100000 in
theorem c_X4_countCharacters (l : Launch) (D : va_G) (cy : Nat → ClassId) (cv : Int64) : Ci l D cy yX4_countCharacters wsX4_countCharacters 1 22 [.long cv] [] (fun (r : Int32) (u : Int) => ((0 ≤ u ∧ u ≤ 8) ∧ cntOk cv u.toNat ∧ r = iI u) ∨ ((∀ n : Nat, ¬ cntOk cv n) ∧ r = iI (-1))) (fun u : Int => []) := by
  refine Ci_of (cc := cX4_countCharacters) (maxL := 4) (ret := (some .int)) (by decide) rfl rfl ?_
  intro p e s m args below meth c A hx hb hr hts hown hlocks hml hP hK hD hT hA ls hl
  have hS : va_S A s.heap s.heap [] := va_S.rf
  have hl : lv_has ls 4 [(0, .long cv)] := hl
  refine lv_iconst (v := iI 0) hx hb dX4_countCharacters_0 rfl ?_
  refine lv_istore_n (lv' := [(2, .int (iI 0)), (0, .long cv)]) hx hb dX4_countCharacters_1 rfl hl (by decide) rfl (fun ls hl => ?_)
  have hloop1 : ∀ (n1 : Nat) (i : Int) (hi : 0 ≤ i ∧ i ≤ 8) (hby : ∀ j : Nat, (j : Int) < i → 33 ≤ bF cv j ∧ bF cv j ≤ 126) (hm : 8 - i < (n1 : Int)) (H : Heap) (locs : List Loc) (ls : Array Slot) (hP : va_P D vwCl [] H) (hD : va_D A []) (hS : va_S A s.heap H locs) (hl : lv_has ls 4 [(2, .int (iI i)), (0, .long cv)]), W p l e ({ frames := 1, cells := 0, slots := 0, locals := 22 } : Room) s m args below meth c H locs 0 0 (MQ below (va_Qi (fun (r : Int32) (u : Int) => ((0 ≤ u ∧ u ≤ 8) ∧ cntOk cv u.toNat ∧ r = iI u) ∨ ((∀ n : Nat, ¬ cntOk cv n) ∧ r = iI (-1))) (fun u t => va_P D vwCl ((fun u : Int => []) u) t.heap) A) args s 0 0 A) (F0 m 2 ls []) := by
    intro n1
    induction n1 with
    | zero =>
      intro i hi hby hm; exact absurd hm (by omega)
    | succ n1 ih1 =>
      intro i hi hby hm H locs ls hP hD hS hl
      have hbk := bF_lt cv i.toNat
      refine lv_iload_n hx hb dX4_countCharacters_2 rfl (lv_at hl 0 rfl) ?_
      refine lv_bipush (v := iI 8) hx hb dX4_countCharacters_3 (by decide +kernel) ?_
      refine z_icmp_ge (tgt := 42) hx hb (iI_t (by omega) (by omega)) (iI_t (by omega) (by omega)) dX4_countCharacters_5 (by decide) (fun c2 => ?_) (fun c2 => ?_)
      · --
        refine lv_lload_n hx hb dX4_countCharacters_42 rfl (lv_at hl 1 rfl) ?_
        refine lv_iload_n hx hb dX4_countCharacters_43 rfl (lv_at hl 0 rfl) ?_
        refine z_cSi (n := 2) (As := [.long cv, .int (iI i)]) (rest := []) ⟨hx, hb, hml, hown, hts⟩ (c_X4_isZeroFrom l D cy cv i (by first | assumption | omega)) gX4_countCharacters_X4_isZeroFrom rfl (by decide +kernel) ⟨Nat.le_of_ble_eq_true rfl, Nat.le_of_ble_eq_true rfl⟩ hK hT hP hD hS hA [] rfl rfl (fun _ => rfl) rfl hl.1 rfl (Nat.le_of_ble_eq_true rfl) dX4_countCharacters_44 ⟨Nat.zero_le _, Nat.zero_le _⟩ (fun r_3 u_3 H locs hw_3 hP hD hS => ?_)
        have hw_3 : ((∀ j : Nat, i ≤ (j : Int) → j < 8 → bF cv j = 0) ∧ r_3 = iI 1) ∨ (¬ (∀ j : Nat, i ≤ (j : Int) → j < 8 → bF cv j = 0) ∧ r_3 = iI 0) := hw_3
        have hP : va_P D vwCl [] H := hP
        have hD : va_D A [] := hD
        rcases hw_3 with ⟨h_3, rfl⟩ | ⟨h_3, rfl⟩
        · --
          refine z_if_eq (tgt := 54) hx hb (iI_t (by omega) (by omega)) dX4_countCharacters_47 (by decide) (fun c4 => absurd c4 (by omega)) (fun _ => ?_)
          refine lv_iload_n hx hb dX4_countCharacters_50 rfl (lv_at hl 0 rfl) ?_
          refine lv_goto (tgt := 55) hx hb dX4_countCharacters_51 (by decide) ?_
          exact z_iret hx hb hr hlocks hS (i) (show ((0 ≤ i ∧ i ≤ 8) ∧ cntOk cv i.toNat ∧ (iI i) = iI i) ∨ ((∀ n : Nat, ¬ cntOk cv n) ∧ (iI i) = iI (-1)) from (Or.inl ⟨hi, cnt_yes hi hby (by assumption), rfl⟩)) hP dX4_countCharacters_55
        · --
          refine z_if_eq (tgt := 54) hx hb (iI_t (by omega) (by omega)) dX4_countCharacters_47 (by decide) (fun _ => ?_) (fun c5 => absurd c5 (by omega))
          refine lv_iconst (v := iI (-1)) hx hb dX4_countCharacters_54 rfl ?_
          exact z_iret hx hb hr hlocks hS ((-1)) (show ((0 ≤ (-1) ∧ (-1) ≤ 8) ∧ cntOk cv (-1).toNat ∧ (iI (-1)) = iI (-1)) ∨ ((∀ n : Nat, ¬ cntOk cv n) ∧ (iI (-1)) = iI (-1)) from (by first | exact Or.inr ⟨cnt_no1 (i := i) (by omega) hby (by omega), rfl⟩ | exact Or.inr ⟨cnt_no2 hi hby (by assumption) (by omega), rfl⟩)) hP dX4_countCharacters_55
      · --
        refine lv_lload_n hx hb dX4_countCharacters_8 rfl (lv_at hl 1 rfl) ?_
        refine lv_iload_n hx hb dX4_countCharacters_9 rfl (lv_at hl 0 rfl) ?_
        refine z_cSi (n := 2) (As := [.long cv, .int (iI i)]) (rest := []) ⟨hx, hb, hml, hown, hts⟩ (c_X4_codeOf l D cy cv i (by first | assumption | omega)) gX4_countCharacters_X4_codeOf rfl (by decide +kernel) ⟨Nat.le_of_ble_eq_true rfl, Nat.le_of_ble_eq_true rfl⟩ hK hT hP hD hS hA [] rfl rfl (fun _ => rfl) rfl hl.1 rfl (Nat.le_of_ble_eq_true rfl) dX4_countCharacters_10 ⟨Nat.zero_le _, Nat.zero_le _⟩ (fun r_6 u_6 H locs hw_6 hP hD hS => ?_)
        have hw_6 : r_6 = iI (bF cv i.toNat : Int) := hw_6
        have hP : va_P D vwCl [] H := hP
        have hD : va_D A [] := hD
        obtain rfl := hw_6
        refine z_if_eq (tgt := 42) hx hb (iI_t (by omega) (by omega)) dX4_countCharacters_13 (by decide) (fun c7 => ?_) (fun c7 => ?_)
        · --
          refine lv_lload_n hx hb dX4_countCharacters_42 rfl (lv_at hl 1 rfl) ?_
          refine lv_iload_n hx hb dX4_countCharacters_43 rfl (lv_at hl 0 rfl) ?_
          refine z_cSi (n := 2) (As := [.long cv, .int (iI i)]) (rest := []) ⟨hx, hb, hml, hown, hts⟩ (c_X4_isZeroFrom l D cy cv i (by first | assumption | omega)) gX4_countCharacters_X4_isZeroFrom rfl (by decide +kernel) ⟨Nat.le_of_ble_eq_true rfl, Nat.le_of_ble_eq_true rfl⟩ hK hT hP hD hS hA [] rfl rfl (fun _ => rfl) rfl hl.1 rfl (Nat.le_of_ble_eq_true rfl) dX4_countCharacters_44 ⟨Nat.zero_le _, Nat.zero_le _⟩ (fun r_8 u_8 H locs hw_8 hP hD hS => ?_)
          have hw_8 : ((∀ j : Nat, i ≤ (j : Int) → j < 8 → bF cv j = 0) ∧ r_8 = iI 1) ∨ (¬ (∀ j : Nat, i ≤ (j : Int) → j < 8 → bF cv j = 0) ∧ r_8 = iI 0) := hw_8
          have hP : va_P D vwCl [] H := hP
          have hD : va_D A [] := hD
          rcases hw_8 with ⟨h_8, rfl⟩ | ⟨h_8, rfl⟩
          · --
            refine z_if_eq (tgt := 54) hx hb (iI_t (by omega) (by omega)) dX4_countCharacters_47 (by decide) (fun c9 => absurd c9 (by omega)) (fun _ => ?_)
            refine lv_iload_n hx hb dX4_countCharacters_50 rfl (lv_at hl 0 rfl) ?_
            refine lv_goto (tgt := 55) hx hb dX4_countCharacters_51 (by decide) ?_
            exact z_iret hx hb hr hlocks hS (i) (show ((0 ≤ i ∧ i ≤ 8) ∧ cntOk cv i.toNat ∧ (iI i) = iI i) ∨ ((∀ n : Nat, ¬ cntOk cv n) ∧ (iI i) = iI (-1)) from (Or.inl ⟨hi, cnt_yes hi hby (by assumption), rfl⟩)) hP dX4_countCharacters_55
          · --
            refine z_if_eq (tgt := 54) hx hb (iI_t (by omega) (by omega)) dX4_countCharacters_47 (by decide) (fun _ => ?_) (fun c10 => absurd c10 (by omega))
            refine lv_iconst (v := iI (-1)) hx hb dX4_countCharacters_54 rfl ?_
            exact z_iret hx hb hr hlocks hS ((-1)) (show ((0 ≤ (-1) ∧ (-1) ≤ 8) ∧ cntOk cv (-1).toNat ∧ (iI (-1)) = iI (-1)) ∨ ((∀ n : Nat, ¬ cntOk cv n) ∧ (iI (-1)) = iI (-1)) from (by first | exact Or.inr ⟨cnt_no1 (i := i) (by omega) hby (by omega), rfl⟩ | exact Or.inr ⟨cnt_no2 hi hby (by assumption) (by omega), rfl⟩)) hP dX4_countCharacters_55
        · --
          refine lv_lload_n hx hb dX4_countCharacters_16 rfl (lv_at hl 1 rfl) ?_
          refine lv_iload_n hx hb dX4_countCharacters_17 rfl (lv_at hl 0 rfl) ?_
          refine z_cSi (n := 2) (As := [.long cv, .int (iI i)]) (rest := []) ⟨hx, hb, hml, hown, hts⟩ (c_X4_codeOf l D cy cv i (by first | assumption | omega)) gX4_countCharacters_X4_codeOf rfl (by decide +kernel) ⟨Nat.le_of_ble_eq_true rfl, Nat.le_of_ble_eq_true rfl⟩ hK hT hP hD hS hA [] rfl rfl (fun _ => rfl) rfl hl.1 rfl (Nat.le_of_ble_eq_true rfl) dX4_countCharacters_18 ⟨Nat.zero_le _, Nat.zero_le _⟩ (fun r_11 u_11 H locs hw_11 hP hD hS => ?_)
          have hw_11 : r_11 = iI (bF cv i.toNat : Int) := hw_11
          have hP : va_P D vwCl [] H := hP
          have hD : va_D A [] := hD
          obtain rfl := hw_11
          refine lv_istore_n (lv' := [(3, .int (iI (bF cv i.toNat : Int))), (2, .int (iI i)), (0, .long cv)]) hx hb dX4_countCharacters_21 rfl hl (by decide) rfl (fun ls hl => ?_)
          refine lv_iload_n hx hb dX4_countCharacters_22 rfl (lv_at hl 0 rfl) ?_
          refine lv_bipush (v := iI 33) hx hb dX4_countCharacters_23 (by decide +kernel) ?_
          refine z_icmp_lt (tgt := 34) hx hb (iI_t (by omega) (by omega)) (iI_t (by omega) (by omega)) dX4_countCharacters_25 (by decide) (fun c12 => ?_) (fun c12 => ?_)
          · --
            refine lv_iconst (v := iI (-1)) hx hb dX4_countCharacters_34 rfl ?_
            exact z_iret hx hb hr hlocks hS ((-1)) (show ((0 ≤ (-1) ∧ (-1) ≤ 8) ∧ cntOk cv (-1).toNat ∧ (iI (-1)) = iI (-1)) ∨ ((∀ n : Nat, ¬ cntOk cv n) ∧ (iI (-1)) = iI (-1)) from (by first | exact Or.inr ⟨cnt_no1 (i := i) (by omega) hby (by omega), rfl⟩ | exact Or.inr ⟨cnt_no2 hi hby (by assumption) (by omega), rfl⟩)) hP dX4_countCharacters_35
          · --
            refine lv_iload_n hx hb dX4_countCharacters_28 rfl (lv_at hl 0 rfl) ?_
            refine lv_bipush (v := iI 126) hx hb dX4_countCharacters_29 (by decide +kernel) ?_
            refine z_icmp_le (tgt := 36) hx hb (iI_t (by omega) (by omega)) (iI_t (by omega) (by omega)) dX4_countCharacters_31 (by decide) (fun c13 => ?_) (fun c13 => ?_)
            · --
              refine z_iinc (lv' := [(2, .int (iI (i + 1))), (3, .int (iI (bF cv i.toNat : Int))), (0, .long cv)]) hx hb dX4_countCharacters_36 hl (k := 1) rfl (by decide) rfl (fun ls hl => ?_)
              refine lv_goto (tgt := 2) hx hb dX4_countCharacters_39 (by decide) ?_
              exact ih1 (i + 1) (by omega) (fun j a => by
                by_cases e : j = i.toNat
                · rw [e]; omega
                · exact hby j (by omega)) (by omega) _ _ _ hP hD hS (lv_sub hl [0, 2] rfl)
            · --
              refine lv_iconst (v := iI (-1)) hx hb dX4_countCharacters_34 rfl ?_
              exact z_iret hx hb hr hlocks hS ((-1)) (show ((0 ≤ (-1) ∧ (-1) ≤ 8) ∧ cntOk cv (-1).toNat ∧ (iI (-1)) = iI (-1)) ∨ ((∀ n : Nat, ¬ cntOk cv n) ∧ (iI (-1)) = iI (-1)) from (by first | exact Or.inr ⟨cnt_no1 (i := i) (by omega) hby (by omega), rfl⟩ | exact Or.inr ⟨cnt_no2 hi hby (by assumption) (by omega), rfl⟩)) hP dX4_countCharacters_35
  exact hloop1 (Int.toNat (8 - 0) + 1) 0 (by omega) (fun j a => by omega) (by omega) _ _ _ hP hD hS (lv_sub hl [0, 1] rfl)
set_option maxHeartbeats 4000000 in
set_option maxRecDepth 100000 in
theorem c_X4_appendText (l : Launch) (hfl : l.stackTraces = false) (D : va_G) (cy : Nat → ClassId) (ad : Nat → Nat) (tn : Int) (tf : Nat → Int32) (tx : List Int32) (cv : Int64) (hX : Rep tn tf tx ∧ tx.length ≤ 80) : Xi l D cy yX4_appendText wsX4_appendText 6 92 1 [.ref (ad 0), .long cv] (List.flatten [wTop ad, wTx cy ad tn tf]) (fun (r : Int32) (u : Int × (Nat → Int32)) => ∃ n : Nat, 1 ≤ n ∧ cntOk cv n ∧ (tx.length : Int) + n ≤ 80 ∧ r = iI ((tx.length : Int) + n) ∧ Rep u.1 u.2 (tx ++ chF cv n)) (fun u : Int × (Nat → Int32) => (List.flatten [wTop ad, wTx cy ad u.1 u.2])) (fun E => (E = xIAE ∧ ¬ ∃ n : Nat, 1 ≤ n ∧ cntOk cv n) ∨ (E = xISE ∧ ∃ n : Nat, 1 ≤ n ∧ cntOk cv n ∧ 80 < (tx.length : Int) + n)) := by
  refine Xi_of (cc := cX4_appendText) (maxL := 5) (ret := (some .int)) (by decide) rfl rfl ?_
  intro p e s m args below meth c A hx hb hr hts hown hlocks hml htab hP hK hD hT hC hZ hA ls hl
  have hS : va_S A s.heap s.heap [] := va_S.rf
  have hl : lv_has ls 5 [(0, .ref (ad 0)), (1, .long cv)] := hl
  have hP : va_P D vwCl (List.flatten [wTop ad, wTx cy ad tn tf]) s.heap := hP
  have hD : va_D A (List.flatten [wTop ad, wTx cy ad tn tf]) := hD
  have hiX4 : ∀ w ∈ wsX40, w ∈ wsX4_appendText := by decide +kernel
  have htn := hX.1.1
  have htl := hX.2
  refine lv_lload_n hx hb dX4_appendText_0 rfl (lv_at hl 1 rfl) ?_
  refine z_gSi (n := 1) (As := [.long cv]) (rest := []) ⟨hx, hb, hml, hown, hts⟩ (c_X4_countCharacters l D cy cv ) gX4_appendText_X4_countCharacters rfl (by decide +kernel) ⟨Nat.le_of_ble_eq_true rfl, Nat.le_of_ble_eq_true rfl⟩ hK hT hS (Fp.same hP hD hS hA [] rfl rfl (fun _ => rfl)) rfl hl.1 rfl (Nat.le_of_ble_eq_true rfl) dX4_appendText_1 ⟨Nat.zero_le _, Nat.zero_le _⟩ (fun r_1 u_1 H locs hw_1 hP hD hS => ?_)
  obtain ⟨nn_1, rfl⟩ : ∃ z, z = u_1 := ⟨_, rfl⟩
  have hw_1 : ((0 ≤ nn_1 ∧ nn_1 ≤ 8) ∧ cntOk cv nn_1.toNat ∧ r_1 = iI nn_1) ∨ ((∀ n : Nat, ¬ cntOk cv n) ∧ r_1 = iI (-1)) := hw_1
  have hP : va_P D vwCl (List.flatten [wTop ad, wTx cy ad tn tf]) H := hP
  have hD : va_D A (List.flatten [wTop ad, wTx cy ad tn tf]) := hD
  rcases hw_1 with ⟨g_1, h_1, rfl⟩ | ⟨h_1, rfl⟩
  · --
    refine lv_istore_n (lv' := [(3, .int (iI nn_1)), (0, .ref (ad 0)), (1, .long cv)]) hx hb dX4_appendText_4 rfl hl (by decide) rfl (fun ls hl => ?_)
    refine lv_iload_n hx hb dX4_appendText_5 rfl (lv_at hl 0 rfl) ?_
    refine lv_iconst (v := iI 1) hx hb dX4_appendText_6 rfl ?_
    refine z_icmp_ge (tgt := 20) hx hb (iI_t (by omega) (by omega)) (iI_t (by omega) (by omega)) dX4_appendText_7 (by decide) (fun c2 => ?_) (fun c2 => ?_)
    · --
      refine lv_aload_n hx hb dX4_appendText_20 rfl (lv_at hl 1 rfl) ?_
      refine va_get (D := D) (ci := 4) (v := .ref (ad 78)) (C := RX4) (T := TX4) (N := 7) hx hb hts hiX4 hown hK hP 0 rfl rfl 6 (by decide) (hts (.fieldLink RX4 46 "BackwardSearch" "text" "LBackwardSearch$Row;") (by decide +kernel)) (fun _ h9 => h9) rfl dX4_appendText_21 ?_
      refine z_gVi (n := 0) (b := ad 78) (As := []) (rest := []) ⟨hx, hb, hml, hown, hts⟩ (c_X2_size l D cy (ad 78) (ad 79) tn ) gX4_appendText_X2_size rfl (by decide +kernel) ⟨Nat.le_of_ble_eq_true rfl, Nat.le_of_ble_eq_true rfl⟩ hK hT hP hS (Fp.same hP hD hS hA [1] rfl rfl (fun _ => rfl)) 1 2 rfl rfl rfl rfl hl.1 rfl (Nat.le_of_ble_eq_true rfl) dX4_appendText_24 ⟨Nat.zero_le _, Nat.zero_le _⟩ (fun r_3 u_3 H locs hw_3 hP hD hS => ?_)
      have hw_3 : r_3 = iI tn := hw_3
      have hP : va_P D vwCl (List.flatten [wTop ad, wTx cy ad tn tf]) H := hP
      have hD : va_D A (List.flatten [wTop ad, wTx cy ad tn tf]) := hD
      obtain rfl := hw_3
      refine lv_iload_n hx hb dX4_appendText_27 rfl (lv_at hl 0 rfl) ?_
      refine z_add hx hb dX4_appendText_28 ?_
      refine lv_bipush (v := iI 80) hx hb dX4_appendText_29 (by decide +kernel) ?_
      refine z_icmp_le (tgt := 44) hx hb (iI_t (by omega) (by omega)) (iI_t (by omega) (by omega)) dX4_appendText_31 (by decide) (fun c4 => ?_) (fun c4 => ?_)
      · --
        refine lv_iload_n hx hb dX4_appendText_44 rfl (lv_at hl 0 rfl) ?_
        refine lv_iconst (v := iI 1) hx hb dX4_appendText_45 rfl ?_
        refine z_sub hx hb dX4_appendText_46 ?_
        refine lv_istore (lv' := [(4, .int (iI (nn_1 - 1))), (3, .int (iI nn_1)), (0, .ref (ad 0)), (1, .long cv)]) hx hb dX4_appendText_47 hl (by decide) rfl (fun ls hl => ?_)
        have hloop5 : ∀ (n5 : Nat) (k : Int) (t2 : Int) (f2 : Nat → Int32) (cur : List Int32) (hkk : -1 ≤ k ∧ k < nn_1) (hrep : Rep t2 f2 cur) (hcur : cur ++ chF cv (k + 1).toNat = tx ++ chF cv (nn_1).toNat) (ht2 : t2 = (tx.length : Int) + nn_1 - (k + 1)) (hm : k + 1 < (n5 : Int)) (H : Heap) (locs : List Loc) (ls : Array Slot) (hP : va_P D vwCl (List.flatten [wTop ad, wTx cy ad t2 f2]) H) (hD : va_D A (List.flatten [wTop ad, wTx cy ad t2 f2])) (hS : va_S A s.heap H locs) (hl : lv_has ls 5 [(4, .int (iI k)), (3, .int (iI nn_1)), (0, .ref (ad 0)), (1, .long cv)]), W p l e ({ frames := 6, cells := 1, slots := 6 * 1, locals := 92 } : Room) s m args below meth c H locs 0 0 (vx_MQ below (va_Qi (fun (r : Int32) (u : Int × (Nat → Int32)) => ∃ n : Nat, 1 ≤ n ∧ cntOk cv n ∧ (tx.length : Int) + n ≤ 80 ∧ r = iI ((tx.length : Int) + n) ∧ Rep u.1 u.2 (tx ++ chF cv n)) (fun u t => va_P D vwCl ((fun u : Int × (Nat → Int32) => (List.flatten [wTop ad, wTx cy ad u.1 u.2])) u) t.heap) A) (XTh D (List.flatten [wTop ad, wTx cy ad tn tf]) (fun E => (E = xIAE ∧ ¬ ∃ n : Nat, 1 ≤ n ∧ cntOk cv n) ∨ (E = xISE ∧ ∃ n : Nat, 1 ≤ n ∧ cntOk cv n ∧ 80 < (tx.length : Int) + n)) A) args s 1 (6 * 1) A) (F0 m 49 ls []) := by
          intro n5
          induction n5 with
          | zero =>
            intro k t2 f2 cur hkk hrep hcur ht2 hm; exact absurd hm (by omega)
          | succ n5 ih5 =>
            intro k t2 f2 cur hkk hrep hcur ht2 hm H locs ls hP hD hS hl
            refine lv_iload hx hb dX4_appendText_49 (lv_at hl 0 rfl) ?_
            refine z_if_lt (tgt := 73) hx hb (iI_t (by omega) (by omega)) dX4_appendText_51 (by decide) (fun c6 => ?_) (fun c6 => ?_)
            · --
              refine lv_aload_n hx hb dX4_appendText_73 rfl (lv_at hl 2 rfl) ?_
              refine va_get (D := D) (ci := 4) (v := .ref (ad 78)) (C := RX4) (T := TX4) (N := 7) hx hb hts hiX4 hown hK hP 0 rfl rfl 6 (by decide) (hts (.fieldLink RX4 46 "BackwardSearch" "text" "LBackwardSearch$Row;") (by decide +kernel)) (fun _ h9 => h9) rfl dX4_appendText_74 ?_
              refine z_gVi (n := 0) (b := ad 78) (As := []) (rest := []) ⟨hx, hb, hml, hown, hts⟩ (c_X2_size l D cy (ad 78) (ad 79) t2 ) gX4_appendText_X2_size rfl (by decide +kernel) ⟨Nat.le_of_ble_eq_true rfl, Nat.le_of_ble_eq_true rfl⟩ hK hT hP hS (Fp.same hP hD hS hA [1] rfl rfl (fun _ => rfl)) 1 2 rfl rfl rfl rfl hl.1 rfl (Nat.le_of_ble_eq_true rfl) dX4_appendText_77 ⟨Nat.zero_le _, Nat.zero_le _⟩ (fun r_7 u_7 H locs hw_7 hP hD hS => ?_)
              have hw_7 : r_7 = iI t2 := hw_7
              have hP : va_P D vwCl (List.flatten [wTop ad, wTx cy ad t2 f2]) H := hP
              have hD : va_D A (List.flatten [wTop ad, wTx cy ad t2 f2]) := hD
              obtain rfl := hw_7
              exact x_iret hx hb hr hlocks hS (t2, f2) (show ∃ n : Nat, 1 ≤ n ∧ cntOk cv n ∧ (tx.length : Int) + n ≤ 80 ∧ (iI t2) = iI ((tx.length : Int) + n) ∧ Rep t2 f2 (tx ++ chF cv n) from (app_done (by assumption) hcur hrep ht2 (by omega) (by omega) (by omega))) hP dX4_appendText_80 (by decide) (by decide)
            · --
              refine lv_aload_n hx hb dX4_appendText_54 rfl (lv_at hl 2 rfl) ?_
              refine va_get (D := D) (ci := 4) (v := .ref (ad 78)) (C := RX4) (T := TX4) (N := 7) hx hb hts hiX4 hown hK hP 0 rfl rfl 6 (by decide) (hts (.fieldLink RX4 46 "BackwardSearch" "text" "LBackwardSearch$Row;") (by decide +kernel)) (fun _ h9 => h9) rfl dX4_appendText_55 ?_
              refine lv_lload_n hx hb dX4_appendText_58 rfl (lv_at hl 3 rfl) ?_
              refine lv_iload hx hb dX4_appendText_59 (lv_at hl 0 rfl) ?_
              refine z_gSi (n := 2) (As := [.long cv, .int (iI k)]) (rest := [.ref (ad 78)]) ⟨hx, hb, hml, hown, hts⟩ (c_X4_codeOf l D cy cv k (by first | assumption | omega)) gX4_appendText_X4_codeOf rfl (by decide +kernel) ⟨Nat.le_of_ble_eq_true rfl, Nat.le_of_ble_eq_true rfl⟩ hK hT hS (Fp.same hP hD hS hA [] rfl rfl (fun _ => rfl)) rfl hl.1 rfl (Nat.le_of_ble_eq_true rfl) dX4_appendText_61 ⟨Nat.zero_le _, Nat.zero_le _⟩ (fun r_8 u_8 H locs hw_8 hP hD hS => ?_)
              have hw_8 : r_8 = iI (bF cv k.toNat : Int) := hw_8
              have hP : va_P D vwCl (List.flatten [wTop ad, wTx cy ad t2 f2]) H := hP
              have hD : va_D A (List.flatten [wTop ad, wTx cy ad t2 f2]) := hD
              obtain rfl := hw_8
              refine z_gVv (n := 1) (b := ad 78) (As := [.int (iI (bF cv k.toNat : Int))]) (rest := []) ⟨hx, hb, hml, hown, hts⟩ (c_X2_add l D cy (ad 78) (ad 79) 80 t2 f2 (iI (bF cv k.toNat : Int)) (by first | assumption | omega)) gX4_appendText_X2_add rfl (by decide +kernel) ⟨Nat.le_of_ble_eq_true rfl, Nat.le_of_ble_eq_true rfl⟩ hK hT hP hS (Fp.blocks hP hD hS hA (cs := [wTx cy ad t2 f2]) (nb := fun (u : Int × (Nat → Int32)) => [wTx cy ad u.1 u.2]) (nbs := fun (u : Int × (Nat → Int32)) => [wTop ad, wTx cy ad u.1 u.2]) [1] rfl rfl rfl (fun _ => rfl) (fun _ => rfl) (fun _ => rfl)) 1 2 rfl rfl rfl rfl hl.1 rfl (Nat.le_of_ble_eq_true rfl) dX4_appendText_64 ⟨Nat.zero_le _, Nat.zero_le _⟩ (fun  u_9 H locs hw_9 hP hD hS => ?_)
              obtain ⟨n1_9, f1_9⟩ := u_9
              have hw_9 : (t2 < 80 ∧ n1_9 = t2 + 1 ∧ f1_9 = upd f2 t2.toNat (iI (bF cv k.toNat : Int))) ∨ (¬ t2 < 80 ∧ n1_9 = t2 ∧ f1_9 = f2) := hw_9
              have hP : va_P D vwCl (List.flatten [wTop ad, wTx cy ad n1_9 f1_9]) H := hP
              have hD : va_D A (List.flatten [wTop ad, wTx cy ad n1_9 f1_9]) := hD
              rcases hw_9 with ⟨h_9, rfl, rfl⟩ | ⟨h_9, rfl, rfl⟩
              · --
                refine z_iinc (lv' := [(4, .int (iI (k + (-1)))), (3, .int (iI nn_1)), (0, .ref (ad 0)), (1, .long cv)]) hx hb dX4_appendText_67 hl (k := 0) rfl (by decide) rfl (fun ls hl => ?_)
                refine lv_goto (tgt := 49) hx hb dX4_appendText_70 (by decide) ?_
                exact ih5 (k + (-1)) (t2 + 1) (upd f2 t2.toNat (iI (bF cv k.toNat : Int))) (cur ++ [iI (bF cv k.toNat : Int)]) (by omega) (hrep.snoc _) (ch_step (by omega) hcur) (by omega) (by omega) _ _ _ hP hD hS (lv_sub hl [0, 1, 2, 3] rfl)
              · --
                exfalso; omega
        exact hloop5 (Int.toNat ((nn_1 - 1) + 1) + 1) (nn_1 - 1) tn tf tx (by omega) (hX.1) (by rw [show (nn_1 - 1 + 1).toNat = (nn_1).toNat by omega]) (by omega) (by omega) _ _ _ hP hD hS (lv_sub hl [0, 1, 2, 3] rfl)
      · --
        exact x_throw (cls := xISE) (text := "the text would be too long") (ik := 85) (is := 184) (ic := 89) (Ts := wsX4_appendText) hx hb hfl hown (by decide +kernel) (by decide +kernel) hts (by decide +kernel) (by decide +kernel) (by decide +kernel) x_ng1 x_gw1 hT hC (by decide +kernel) hZ hS (hl.1.trans hml.symm) dX4_appendText_34 dX4_appendText_37 dX4_appendText_38 dX4_appendText_40 dX4_appendText_43 htab (by decide) (by decide) (by decide) (by decide) hlocks hP (Or.inr ⟨rfl, too_n (by assumption) (by omega) (by omega)⟩) (by decide) (by decide)
    · --
      exact x_throw (cls := xIAE) (text := "no characters that can be appended") (ik := 179) (is := 181) (ic := 183) (Ts := wsX4_appendText) hx hb hfl hown (by decide +kernel) (by decide +kernel) hts (by decide +kernel) (by decide +kernel) (by decide +kernel) x_ng3 x_gw3 hT hC (by decide +kernel) hZ hS (hl.1.trans hml.symm) dX4_appendText_10 dX4_appendText_13 dX4_appendText_14 dX4_appendText_16 dX4_appendText_19 htab (by decide) (by decide) (by decide) (by decide) hlocks hP (Or.inl ⟨rfl, by first | exact no_n (by assumption) (by omega) | exact no_m (by assumption)⟩) (by decide) (by decide)
  · --
    refine lv_istore_n (lv' := [(3, .int (iI (-1))), (0, .ref (ad 0)), (1, .long cv)]) hx hb dX4_appendText_4 rfl hl (by decide) rfl (fun ls hl => ?_)
    refine lv_iload_n hx hb dX4_appendText_5 rfl (lv_at hl 0 rfl) ?_
    refine lv_iconst (v := iI 1) hx hb dX4_appendText_6 rfl ?_
    refine z_icmp_ge (tgt := 20) hx hb (iI_t (by omega) (by omega)) (iI_t (by omega) (by omega)) dX4_appendText_7 (by decide) (fun c10 => absurd c10 (by omega)) (fun _ => ?_)
    exact x_throw (cls := xIAE) (text := "no characters that can be appended") (ik := 179) (is := 181) (ic := 183) (Ts := wsX4_appendText) hx hb hfl hown (by decide +kernel) (by decide +kernel) hts (by decide +kernel) (by decide +kernel) (by decide +kernel) x_ng3 x_gw3 hT hC (by decide +kernel) hZ hS (hl.1.trans hml.symm) dX4_appendText_10 dX4_appendText_13 dX4_appendText_14 dX4_appendText_16 dX4_appendText_19 htab (by decide) (by decide) (by decide) (by decide) hlocks hP (Or.inl ⟨rfl, by first | exact no_n (by assumption) (by omega) | exact no_m (by assumption)⟩) (by decide) (by decide)
