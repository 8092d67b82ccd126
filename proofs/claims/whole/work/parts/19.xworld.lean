/-! the worlds of a search -/
def zset {α : Type} (Z : Nat → α) (i : Nat) (z : α) : Nat → α := fun k => if k = i then z else Z k
def zL (l : List Int) : Nat → Int := fun k => l.getD k 0
def fL (l : List (Nat → Int32)) : Nat → Nat → Int32 := fun k => l.getD k (fun _ => 0)
def wTop (ad : Nat → Nat) : va_W := [(ad 0, .inr (4, [.ref (ad 1), .ref (ad 8), .ref (ad 15), .ref (ad 18), .ref (ad 62), .ref (ad 77), .ref (ad 78)]))]
def wSt (cy : Nat → ClassId) (ad : Nat → Nat) (o : Nat) (z : Nat → Int) (f : Nat → Nat → Int32) : va_W := [(ad o, .inr (3, [.ref (ad (o + 1)), .ref (ad (o + 3)), .ref (ad (o + 5)), .int (iI (z 3)), .int (iI (z 4)), .int (iI (z 5)), .int (iI (z 6)), .int (iI (z 7))])), (ad (o + 1), .inr (2, [.ref (ad (o + 2)), .int (iI (z 0))])), (ad (o + 2), .inl (cy 0, 60, .inl (f 0))), (ad (o + 3), .inr (2, [.ref (ad (o + 4)), .int (iI (z 1))])), (ad (o + 4), .inl (cy 0, 16, .inl (f 1))), (ad (o + 5), .inr (2, [.ref (ad (o + 6)), .int (iI (z 2))])), (ad (o + 6), .inl (cy 0, 60, .inl (f 2)))]
def wEn (cy : Nat → ClassId) (ad : Nat → Nat) (en : Int) (B Kf : Nat → Int) : va_W := [(ad 15, .inr (0, [.ref (ad 16), .ref (ad 17), .int (iI en)])), (ad 16, .inl (cy 0, 17, .inl (zI B))), (ad 17, .inl (cy 0, 17, .inl (zI Kf)))]
def wHb (ad : Nat → Nat) (nx ct : Int) : va_W := [(ad 18, .inr (1, [.ref (ad 19), .int (iI nx), .int (iI ct)]))]
def wKb (cy : Nat → ClassId) (ad : Nat → Nat) : va_W := [(ad 19, .inl (cy 2, 6, .inr (.inr (.inr (.inr (fun k => some (ad (20 + 7 * k))))))))]
def wSa (cy : Nat → ClassId) (ad : Nat → Nat) : va_W := [(ad 62, .inl (cy 2, 2, .inr (.inr (.inr (.inr (fun k => some (ad (63 + 7 * k))))))))]
def wSv (cy : Nat → ClassId) (ad : Nat → Nat) (sv : Nat → Int32) : va_W := [(ad 77, .inl (cy 1, 2, .inl sv))]
def wTx (cy : Nat → ClassId) (ad : Nat → Nat) (tn : Int) (tf : Nat → Int32) : va_W := [(ad 78, .inr (2, [.ref (ad 79), .int (iI tn)])), (ad 79, .inl (cy 0, 80, .inl tf))]
def bHi (cy : Nat → ClassId) (ad : Nat → Nat) (nx ct : Int) (Zh : Nat → Nat → Int) (Fh : Nat → Nat → Nat → Int32) : List va_W := [wHb ad nx ct, wKb cy ad, wSt cy ad 20 (Zh 0) (Fh 0), wSt cy ad 27 (Zh 1) (Fh 1), wSt cy ad 34 (Zh 2) (Fh 2), wSt cy ad 41 (Zh 3) (Fh 3), wSt cy ad 48 (Zh 4) (Fh 4), wSt cy ad 55 (Zh 5) (Fh 5)]
/-- numbers of a state within their bounds -/
def SB (z : Nat → Int) : Prop := 0 ≤ z 0 ∧ z 0 ≤ 60 ∧ 0 ≤ z 1 ∧ z 1 ≤ 16 ∧ 0 ≤ z 2 ∧ z 2 ≤ z 5 ∧ z 5 ≤ 100 ∧ z 2 ≤ 60 ∧ 0 ≤ z 6 ∧ z 6 ≤ z 5 ∧ 0 ≤ z 7 ∧ z 7 ≤ 16 * z 6 ∧ 0 ≤ z 3 ∧ z 3 ≤ 1 ∧ 0 ≤ z 4 ∧ z 4 ≤ 1
/-- the rows agree as far as they go -/
def FA (z : Nat → Int) (g f : Nat → Nat → Int32) : Prop := (∀ j : Nat, (j : Int) < z 0 → g 0 j = f 0 j) ∧ (∀ j : Nat, (j : Int) < z 1 → g 1 j = f 1 j) ∧ ∀ j : Nat, (j : Int) < z 2 → g 2 j = f 2 j

set_option maxHeartbeats 4000000 in
set_option maxRecDepth 100000 in
theorem c_X1_keepF (l : Launch) (D : va_G) (cy : Nat → ClassId) (ad : Nat → Nat) (nx ct : Int) (Zh : Nat → Nat → Int) (Fh : Nat → Nat → Nat → Int32) (z : Nat → Int) (f : Nat → Nat → Int32) (hz : SB z) (hn : 0 ≤ nx ∧ nx < 6 ∧ 0 ≤ ct ∧ ct ≤ 6) : Cv l D cy yX1_keep wsX1_keep 3 64 [.ref (ad 18), .ref (ad 1)] (bHi cy ad nx ct Zh Fh ++ [wSt cy ad 1 z f]).flatten (fun g : Nat → Nat → Int32 => FA z g f) (fun g => (bHi cy ad (if nx + 1 < 6 then nx + 1 else 0) (min (ct + 1) 6) (zset Zh nx.toNat z) (zset Fh nx.toNat g) ++ [wSt cy ad 1 z f]).flatten) := by
  obtain rfl | rfl | rfl | rfl | rfl | rfl : nx = 0 ∨ nx = 1 ∨ nx = 2 ∨ nx = 3 ∨ nx = 4 ∨ nx = 5 := by omega
  · refine Cv.bframe (c_X1_keep l D cy (ad 18) (ad 19) (fun k => some (ad (20 + 7 * k))) 0 ct (ad 20) (ad 21) (ad 22) (ad 23) (ad 24) (ad 25) (ad 26) ((Zh 0) 0) ((Fh 0) 0) ((Zh 0) 1) ((Fh 0) 1) ((Zh 0) 2) ((Fh 0) 2) ((Zh 0) 3) ((Zh 0) 4) ((Zh 0) 5) ((Zh 0) 6) ((Zh 0) 7) (ad 1) (ad 2) (ad 3) (ad 4) (ad 5) (ad 6) (ad 7) (z 0) (f 0) (z 1) (f 1) (z 2) (f 2) (z 3) (z 4) (z 5) (z 6) (z 7) hz hn rfl) [0, 1, 2, 8] (cs := [wHb ad 0 ct, wKb cy ad, wSt cy ad 20 (Zh 0) (Fh 0), wSt cy ad 1 z f]) (nb := fun u => [wHb ad u.1 u.2.1, wKb cy ad, wSt cy ad 20 z (fL [u.2.2.1, u.2.2.2.1, u.2.2.2.2]), wSt cy ad 1 z f]) rfl rfl rfl (fun _ => rfl) (fun _ => rfl) (fun u hu => ?_)
    obtain ⟨n1, c1, Gl, Gw, Gf⟩ := u
    obtain ⟨e1, e2, hg⟩ := hu
    dsimp only at e1 e2 hg
    subst e1; subst e2
    exact ⟨fL [Gl, Gw, Gf], hg, rfl⟩
  · refine Cv.bframe (c_X1_keep l D cy (ad 18) (ad 19) (fun k => some (ad (20 + 7 * k))) 1 ct (ad 27) (ad 28) (ad 29) (ad 30) (ad 31) (ad 32) (ad 33) ((Zh 1) 0) ((Fh 1) 0) ((Zh 1) 1) ((Fh 1) 1) ((Zh 1) 2) ((Fh 1) 2) ((Zh 1) 3) ((Zh 1) 4) ((Zh 1) 5) ((Zh 1) 6) ((Zh 1) 7) (ad 1) (ad 2) (ad 3) (ad 4) (ad 5) (ad 6) (ad 7) (z 0) (f 0) (z 1) (f 1) (z 2) (f 2) (z 3) (z 4) (z 5) (z 6) (z 7) hz hn rfl) [0, 1, 3, 8] (cs := [wHb ad 1 ct, wKb cy ad, wSt cy ad 27 (Zh 1) (Fh 1), wSt cy ad 1 z f]) (nb := fun u => [wHb ad u.1 u.2.1, wKb cy ad, wSt cy ad 27 z (fL [u.2.2.1, u.2.2.2.1, u.2.2.2.2]), wSt cy ad 1 z f]) rfl rfl rfl (fun _ => rfl) (fun _ => rfl) (fun u hu => ?_)
    obtain ⟨n1, c1, Gl, Gw, Gf⟩ := u
    obtain ⟨e1, e2, hg⟩ := hu
    dsimp only at e1 e2 hg
    subst e1; subst e2
    exact ⟨fL [Gl, Gw, Gf], hg, rfl⟩
  · refine Cv.bframe (c_X1_keep l D cy (ad 18) (ad 19) (fun k => some (ad (20 + 7 * k))) 2 ct (ad 34) (ad 35) (ad 36) (ad 37) (ad 38) (ad 39) (ad 40) ((Zh 2) 0) ((Fh 2) 0) ((Zh 2) 1) ((Fh 2) 1) ((Zh 2) 2) ((Fh 2) 2) ((Zh 2) 3) ((Zh 2) 4) ((Zh 2) 5) ((Zh 2) 6) ((Zh 2) 7) (ad 1) (ad 2) (ad 3) (ad 4) (ad 5) (ad 6) (ad 7) (z 0) (f 0) (z 1) (f 1) (z 2) (f 2) (z 3) (z 4) (z 5) (z 6) (z 7) hz hn rfl) [0, 1, 4, 8] (cs := [wHb ad 2 ct, wKb cy ad, wSt cy ad 34 (Zh 2) (Fh 2), wSt cy ad 1 z f]) (nb := fun u => [wHb ad u.1 u.2.1, wKb cy ad, wSt cy ad 34 z (fL [u.2.2.1, u.2.2.2.1, u.2.2.2.2]), wSt cy ad 1 z f]) rfl rfl rfl (fun _ => rfl) (fun _ => rfl) (fun u hu => ?_)
    obtain ⟨n1, c1, Gl, Gw, Gf⟩ := u
    obtain ⟨e1, e2, hg⟩ := hu
    dsimp only at e1 e2 hg
    subst e1; subst e2
    exact ⟨fL [Gl, Gw, Gf], hg, rfl⟩
  · refine Cv.bframe (c_X1_keep l D cy (ad 18) (ad 19) (fun k => some (ad (20 + 7 * k))) 3 ct (ad 41) (ad 42) (ad 43) (ad 44) (ad 45) (ad 46) (ad 47) ((Zh 3) 0) ((Fh 3) 0) ((Zh 3) 1) ((Fh 3) 1) ((Zh 3) 2) ((Fh 3) 2) ((Zh 3) 3) ((Zh 3) 4) ((Zh 3) 5) ((Zh 3) 6) ((Zh 3) 7) (ad 1) (ad 2) (ad 3) (ad 4) (ad 5) (ad 6) (ad 7) (z 0) (f 0) (z 1) (f 1) (z 2) (f 2) (z 3) (z 4) (z 5) (z 6) (z 7) hz hn rfl) [0, 1, 5, 8] (cs := [wHb ad 3 ct, wKb cy ad, wSt cy ad 41 (Zh 3) (Fh 3), wSt cy ad 1 z f]) (nb := fun u => [wHb ad u.1 u.2.1, wKb cy ad, wSt cy ad 41 z (fL [u.2.2.1, u.2.2.2.1, u.2.2.2.2]), wSt cy ad 1 z f]) rfl rfl rfl (fun _ => rfl) (fun _ => rfl) (fun u hu => ?_)
    obtain ⟨n1, c1, Gl, Gw, Gf⟩ := u
    obtain ⟨e1, e2, hg⟩ := hu
    dsimp only at e1 e2 hg
    subst e1; subst e2
    exact ⟨fL [Gl, Gw, Gf], hg, rfl⟩
  · refine Cv.bframe (c_X1_keep l D cy (ad 18) (ad 19) (fun k => some (ad (20 + 7 * k))) 4 ct (ad 48) (ad 49) (ad 50) (ad 51) (ad 52) (ad 53) (ad 54) ((Zh 4) 0) ((Fh 4) 0) ((Zh 4) 1) ((Fh 4) 1) ((Zh 4) 2) ((Fh 4) 2) ((Zh 4) 3) ((Zh 4) 4) ((Zh 4) 5) ((Zh 4) 6) ((Zh 4) 7) (ad 1) (ad 2) (ad 3) (ad 4) (ad 5) (ad 6) (ad 7) (z 0) (f 0) (z 1) (f 1) (z 2) (f 2) (z 3) (z 4) (z 5) (z 6) (z 7) hz hn rfl) [0, 1, 6, 8] (cs := [wHb ad 4 ct, wKb cy ad, wSt cy ad 48 (Zh 4) (Fh 4), wSt cy ad 1 z f]) (nb := fun u => [wHb ad u.1 u.2.1, wKb cy ad, wSt cy ad 48 z (fL [u.2.2.1, u.2.2.2.1, u.2.2.2.2]), wSt cy ad 1 z f]) rfl rfl rfl (fun _ => rfl) (fun _ => rfl) (fun u hu => ?_)
    obtain ⟨n1, c1, Gl, Gw, Gf⟩ := u
    obtain ⟨e1, e2, hg⟩ := hu
    dsimp only at e1 e2 hg
    subst e1; subst e2
    exact ⟨fL [Gl, Gw, Gf], hg, rfl⟩
  · refine Cv.bframe (c_X1_keep l D cy (ad 18) (ad 19) (fun k => some (ad (20 + 7 * k))) 5 ct (ad 55) (ad 56) (ad 57) (ad 58) (ad 59) (ad 60) (ad 61) ((Zh 5) 0) ((Fh 5) 0) ((Zh 5) 1) ((Fh 5) 1) ((Zh 5) 2) ((Fh 5) 2) ((Zh 5) 3) ((Zh 5) 4) ((Zh 5) 5) ((Zh 5) 6) ((Zh 5) 7) (ad 1) (ad 2) (ad 3) (ad 4) (ad 5) (ad 6) (ad 7) (z 0) (f 0) (z 1) (f 1) (z 2) (f 2) (z 3) (z 4) (z 5) (z 6) (z 7) hz hn rfl) [0, 1, 7, 8] (cs := [wHb ad 5 ct, wKb cy ad, wSt cy ad 55 (Zh 5) (Fh 5), wSt cy ad 1 z f]) (nb := fun u => [wHb ad u.1 u.2.1, wKb cy ad, wSt cy ad 55 z (fL [u.2.2.1, u.2.2.2.1, u.2.2.2.2]), wSt cy ad 1 z f]) rfl rfl rfl (fun _ => rfl) (fun _ => rfl) (fun u hu => ?_)
    obtain ⟨n1, c1, Gl, Gw, Gf⟩ := u
    obtain ⟨e1, e2, hg⟩ := hu
    dsimp only at e1 e2 hg
    subst e1; subst e2
    exact ⟨fL [Gl, Gw, Gf], hg, rfl⟩
set_option maxHeartbeats 4000000 in
set_option maxRecDepth 100000 in
theorem c_X1_giveF (l : Launch) (D : va_G) (cy : Nat → ClassId) (ad : Nat → Nat) (nx ct : Int) (Zh : Nat → Nat → Int) (Fh : Nat → Nat → Nat → Int32) (z : Nat → Int) (f : Nat → Nat → Int32) (hz : SB (Zh (if 0 < nx then nx - 1 else 5).toNat)) (hn : 0 ≤ nx ∧ nx < 6 ∧ 0 < ct ∧ ct ≤ 6) : Cv l D cy yX1_giveBack wsX1_giveBack 3 64 [.ref (ad 18), .ref (ad 1)] (bHi cy ad nx ct Zh Fh ++ [wSt cy ad 1 z f]).flatten (fun g : Nat → Nat → Int32 => FA (Zh (if 0 < nx then nx - 1 else 5).toNat) g (Fh (if 0 < nx then nx - 1 else 5).toNat)) (fun g => (bHi cy ad (if 0 < nx then nx - 1 else 5) (ct - 1) Zh Fh ++ [wSt cy ad 1 (Zh (if 0 < nx then nx - 1 else 5).toNat) g]).flatten) := by
  obtain rfl | rfl | rfl | rfl | rfl | rfl : nx = 0 ∨ nx = 1 ∨ nx = 2 ∨ nx = 3 ∨ nx = 4 ∨ nx = 5 := by omega
  · refine Cv.bframe (c_X1_giveBack l D cy (ad 18) (ad 19) (fun k => some (ad (20 + 7 * k))) 0 ct (ad 1) (ad 2) (ad 3) (ad 4) (ad 5) (ad 6) (ad 7) (z 0) (f 0) (z 1) (f 1) (z 2) (f 2) (z 3) (z 4) (z 5) (z 6) (z 7) (ad 55) (ad 56) (ad 57) (ad 58) (ad 59) (ad 60) (ad 61) ((Zh 5) 0) ((Fh 5) 0) ((Zh 5) 1) ((Fh 5) 1) ((Zh 5) 2) ((Fh 5) 2) ((Zh 5) 3) ((Zh 5) 4) ((Zh 5) 5) ((Zh 5) 6) ((Zh 5) 7) hz hn rfl) [0, 1, 8, 7] (cs := [wHb ad 0 ct, wKb cy ad, wSt cy ad 1 z f, wSt cy ad 55 (Zh 5) (Fh 5)]) (nb := fun u => [wHb ad u.1 (ct - 1), wKb cy ad, wSt cy ad 1 (Zh 5) (fL [u.2.1, u.2.2.1, u.2.2.2]), wSt cy ad 55 (Zh 5) (Fh 5)]) rfl rfl rfl (fun _ => rfl) (fun _ => rfl) (fun u hu => ?_)
    obtain ⟨n1, Gl, Gw, Gf⟩ := u
    obtain ⟨e1, hg⟩ := hu
    dsimp only at e1 hg
    subst e1
    exact ⟨fL [Gl, Gw, Gf], hg, rfl⟩
  · refine Cv.bframe (c_X1_giveBack l D cy (ad 18) (ad 19) (fun k => some (ad (20 + 7 * k))) 1 ct (ad 1) (ad 2) (ad 3) (ad 4) (ad 5) (ad 6) (ad 7) (z 0) (f 0) (z 1) (f 1) (z 2) (f 2) (z 3) (z 4) (z 5) (z 6) (z 7) (ad 20) (ad 21) (ad 22) (ad 23) (ad 24) (ad 25) (ad 26) ((Zh 0) 0) ((Fh 0) 0) ((Zh 0) 1) ((Fh 0) 1) ((Zh 0) 2) ((Fh 0) 2) ((Zh 0) 3) ((Zh 0) 4) ((Zh 0) 5) ((Zh 0) 6) ((Zh 0) 7) hz hn rfl) [0, 1, 8, 2] (cs := [wHb ad 1 ct, wKb cy ad, wSt cy ad 1 z f, wSt cy ad 20 (Zh 0) (Fh 0)]) (nb := fun u => [wHb ad u.1 (ct - 1), wKb cy ad, wSt cy ad 1 (Zh 0) (fL [u.2.1, u.2.2.1, u.2.2.2]), wSt cy ad 20 (Zh 0) (Fh 0)]) rfl rfl rfl (fun _ => rfl) (fun _ => rfl) (fun u hu => ?_)
    obtain ⟨n1, Gl, Gw, Gf⟩ := u
    obtain ⟨e1, hg⟩ := hu
    dsimp only at e1 hg
    subst e1
    exact ⟨fL [Gl, Gw, Gf], hg, rfl⟩
  · refine Cv.bframe (c_X1_giveBack l D cy (ad 18) (ad 19) (fun k => some (ad (20 + 7 * k))) 2 ct (ad 1) (ad 2) (ad 3) (ad 4) (ad 5) (ad 6) (ad 7) (z 0) (f 0) (z 1) (f 1) (z 2) (f 2) (z 3) (z 4) (z 5) (z 6) (z 7) (ad 27) (ad 28) (ad 29) (ad 30) (ad 31) (ad 32) (ad 33) ((Zh 1) 0) ((Fh 1) 0) ((Zh 1) 1) ((Fh 1) 1) ((Zh 1) 2) ((Fh 1) 2) ((Zh 1) 3) ((Zh 1) 4) ((Zh 1) 5) ((Zh 1) 6) ((Zh 1) 7) hz hn rfl) [0, 1, 8, 3] (cs := [wHb ad 2 ct, wKb cy ad, wSt cy ad 1 z f, wSt cy ad 27 (Zh 1) (Fh 1)]) (nb := fun u => [wHb ad u.1 (ct - 1), wKb cy ad, wSt cy ad 1 (Zh 1) (fL [u.2.1, u.2.2.1, u.2.2.2]), wSt cy ad 27 (Zh 1) (Fh 1)]) rfl rfl rfl (fun _ => rfl) (fun _ => rfl) (fun u hu => ?_)
    obtain ⟨n1, Gl, Gw, Gf⟩ := u
    obtain ⟨e1, hg⟩ := hu
    dsimp only at e1 hg
    subst e1
    exact ⟨fL [Gl, Gw, Gf], hg, rfl⟩
  · refine Cv.bframe (c_X1_giveBack l D cy (ad 18) (ad 19) (fun k => some (ad (20 + 7 * k))) 3 ct (ad 1) (ad 2) (ad 3) (ad 4) (ad 5) (ad 6) (ad 7) (z 0) (f 0) (z 1) (f 1) (z 2) (f 2) (z 3) (z 4) (z 5) (z 6) (z 7) (ad 34) (ad 35) (ad 36) (ad 37) (ad 38) (ad 39) (ad 40) ((Zh 2) 0) ((Fh 2) 0) ((Zh 2) 1) ((Fh 2) 1) ((Zh 2) 2) ((Fh 2) 2) ((Zh 2) 3) ((Zh 2) 4) ((Zh 2) 5) ((Zh 2) 6) ((Zh 2) 7) hz hn rfl) [0, 1, 8, 4] (cs := [wHb ad 3 ct, wKb cy ad, wSt cy ad 1 z f, wSt cy ad 34 (Zh 2) (Fh 2)]) (nb := fun u => [wHb ad u.1 (ct - 1), wKb cy ad, wSt cy ad 1 (Zh 2) (fL [u.2.1, u.2.2.1, u.2.2.2]), wSt cy ad 34 (Zh 2) (Fh 2)]) rfl rfl rfl (fun _ => rfl) (fun _ => rfl) (fun u hu => ?_)
    obtain ⟨n1, Gl, Gw, Gf⟩ := u
    obtain ⟨e1, hg⟩ := hu
    dsimp only at e1 hg
    subst e1
    exact ⟨fL [Gl, Gw, Gf], hg, rfl⟩
  · refine Cv.bframe (c_X1_giveBack l D cy (ad 18) (ad 19) (fun k => some (ad (20 + 7 * k))) 4 ct (ad 1) (ad 2) (ad 3) (ad 4) (ad 5) (ad 6) (ad 7) (z 0) (f 0) (z 1) (f 1) (z 2) (f 2) (z 3) (z 4) (z 5) (z 6) (z 7) (ad 41) (ad 42) (ad 43) (ad 44) (ad 45) (ad 46) (ad 47) ((Zh 3) 0) ((Fh 3) 0) ((Zh 3) 1) ((Fh 3) 1) ((Zh 3) 2) ((Fh 3) 2) ((Zh 3) 3) ((Zh 3) 4) ((Zh 3) 5) ((Zh 3) 6) ((Zh 3) 7) hz hn rfl) [0, 1, 8, 5] (cs := [wHb ad 4 ct, wKb cy ad, wSt cy ad 1 z f, wSt cy ad 41 (Zh 3) (Fh 3)]) (nb := fun u => [wHb ad u.1 (ct - 1), wKb cy ad, wSt cy ad 1 (Zh 3) (fL [u.2.1, u.2.2.1, u.2.2.2]), wSt cy ad 41 (Zh 3) (Fh 3)]) rfl rfl rfl (fun _ => rfl) (fun _ => rfl) (fun u hu => ?_)
    obtain ⟨n1, Gl, Gw, Gf⟩ := u
    obtain ⟨e1, hg⟩ := hu
    dsimp only at e1 hg
    subst e1
    exact ⟨fL [Gl, Gw, Gf], hg, rfl⟩
  · refine Cv.bframe (c_X1_giveBack l D cy (ad 18) (ad 19) (fun k => some (ad (20 + 7 * k))) 5 ct (ad 1) (ad 2) (ad 3) (ad 4) (ad 5) (ad 6) (ad 7) (z 0) (f 0) (z 1) (f 1) (z 2) (f 2) (z 3) (z 4) (z 5) (z 6) (z 7) (ad 48) (ad 49) (ad 50) (ad 51) (ad 52) (ad 53) (ad 54) ((Zh 4) 0) ((Fh 4) 0) ((Zh 4) 1) ((Fh 4) 1) ((Zh 4) 2) ((Fh 4) 2) ((Zh 4) 3) ((Zh 4) 4) ((Zh 4) 5) ((Zh 4) 6) ((Zh 4) 7) hz hn rfl) [0, 1, 8, 6] (cs := [wHb ad 5 ct, wKb cy ad, wSt cy ad 1 z f, wSt cy ad 48 (Zh 4) (Fh 4)]) (nb := fun u => [wHb ad u.1 (ct - 1), wKb cy ad, wSt cy ad 1 (Zh 4) (fL [u.2.1, u.2.2.1, u.2.2.2]), wSt cy ad 48 (Zh 4) (Fh 4)]) rfl rfl rfl (fun _ => rfl) (fun _ => rfl) (fun u hu => ?_)
    obtain ⟨n1, Gl, Gw, Gf⟩ := u
    obtain ⟨e1, hg⟩ := hu
    dsimp only at e1 hg
    subst e1
    exact ⟨fL [Gl, Gw, Gf], hg, rfl⟩
