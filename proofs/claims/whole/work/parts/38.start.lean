/-! the walk from the law's entry -/
theorem zi_newl {p : Program} {l : Launch} {e : Env} {R : Room} {s : State} {m : MethodId} {args : Array Value} {below : List Frame} {meth : Method} {c : Code} {H : Heap} {locs : List Loc} {cells slots : Nat} {Q : State → Prop} {cc : ByteArray} {pc : Nat} {ls : Array Slot} {rest : List Value} {D : va_G} {cy : Nat → ClassId} {A : Nat → Prop} {H0 : Heap} {W0 : va_W} (hx : p.tables.exec = Jvm.exec) (hb : c.code = cc) (harr : (Cond.arrayClass .long).before args s = true) (hK : va_K D vwCl (tysA cy) s) (hP : va_P D vwCl W0 H) (hD : va_D A W0) (hS : va_S A H0 H locs) (hA : ∀ q, H0.size ≤ q → A q) {z : Int} (N' : Nat) (hz : z = (N' : Int)) (hN : N' ≤ 1000000) (hcells : cells + 1 ≤ R.cells) (hslots : slots + N' ≤ R.slots) (hdg : decode cc pc = .ok (.newarray .long, 2))
    (kk : ∀ (q : Nat) (H1 : Heap), va_P D vwCl (W0 ++ [(q, .inl (cy 3, N', .inr (.inl (fun _ => 0))))]) H1 → va_D A (W0 ++ [(q, .inl (cy 3, N', .inr (.inl (fun _ => 0))))]) → va_S A H0 H1 locs → W p l e R s m args below meth c H1 locs (cells + 1) (slots + N') Q (F0 m (pc + 2) ls (.ref q :: rest))) : W p l e R s m args below meth c H locs cells slots Q (F0 m pc ls (.int (iI z) :: rest)) := by
  subst hz
  refine va_newa (atype := .long) (ty := .long) (a0 := (N', .inr (.inl (fun _ => 0)))) hx hb harr rfl hK hP hD hS hA (fun _ => rfl) (by rw [Int32.lt_iff_toInt_lt, iI_t (by omega) (by omega)]; simp) (by rw [iI_cl (by omega) (by omega)]; simp) (by show N' * 8 ≤ 536870912; omega) hcells hslots hdg (fun q cA H1 hK1 hP1 hD1 hS1 => ?_)
  have e1 := va_nm_long (hK1.2 4 (cA, .long) rfl).2
  have e2 := va_nm_long (hK.2 3 (cy 3, .long) rfl).2
  have e : cA = cy 3 := Option.some.inj (e1.symm.trans e2)
  subst e
  exact kk q H1 hP1 hD1 hS1
def M0 : MS := ([], [], [], 1, 1, 0, 0, 0)
def gN : Nat → Int32 := upd (upd (fun _ => iI 0) (78 : Int).toNat (iI 1)) (79 : Int).toNat (iI 1)
theorem Rep_z {f : Nat → Int32} {n : Int} (h : n = 0) : Rep n f [] := by rw [h]; exact Rep_no
theorem LJ_start : LJ zN fN (fun _ => 0) 0 0 (fun _ => zN) (fun _ => fN) (fun _ => zN) (fun _ => fN) (fun _ => iI 0) 0 (fun _ => iI 0) 0 0 gN (fun _ => iI 0) (fun _ => iI 0) (fun _ => iI 0) (fun _ => iI 0) := by
  refine ⟨M0, [], fun _ => none, [], ?_, ?_, ?_, ?_, ?_, rfl, by simp, ?_, ?_, Rep_no, Rep_no, by simp, fun j => ⟨Int.le_refl _, by show (0 : Int) ≤ 17; omega⟩⟩
  · exact ⟨Rep_z rfl, Rep_z rfl, Rep_z rfl, rfl, rfl, rfl, rfl, rfl⟩
  · exact ⟨rfl, fun j hj => absurd hj (Nat.not_lt_zero j), rfl, fun j hj => absurd hj (Nat.not_lt_zero j), rfl, rfl, rfl, rfl, rfl, rfl, fun j hj => absurd hj (Nat.not_lt_zero j)⟩
  · unfold MOk M0
    simp
  · exact ⟨by omega, by omega, rfl, by simp, fun i M h => by simp at h⟩
  · exact fun i M h => by simp at h
  · exact fun i _ => Or.inl ⟨rfl, rfl⟩
  · exact fun i _ => Or.inl ⟨rfl, rfl⟩
/-! THE CLAIM OUT OF ONE WALK OF THE LAW'S BODY. Your part is whole_start (and what it stands on); all else here is the same for every law, but numbers. -/
def R_law : String := "BackwardSearchLaw"
def lw_P (b : Addr) (xs : List Int32) (args : Array Value) (s : State) : Prop := args = #[.ref b] ∧ s.IntsAt b xs ∧ xs.length ≤ 1536 ∧ (Jvm.Cond.and given_1 narrow_1).before args s = true
def lw_Q (_ : Array Value) (s : State) (o : Outcome) (t : State) : Prop := o = .returned (some (.int 1)) ∧ Framed s o t [] 601024 7293034
def lw_Z (below : List Frame) (a : Array Value) (s : State) : State → Prop := fun t => ∃ o, t.status = .running ∧ Ended t below o ∧ lw_Q a s o t
/-- the law's own end, with 1 on the stack, nothing written that was there before, its room as the claim has it -/
theorem lw_ret {p : Program} {l : Launch} {e : Env} {s : State} {m : MethodId} {below : List Frame} {meth : Method} {c : Code} {b : Nat} (hx : p.tables.exec = Jvm.exec) (hb : c.code = code) (hr : meth.sig.returnType = ret) (hlocks : meth.locks = false) {pc : Nat} {H : Heap} {ls : Array Slot} (hdg : decode code pc = .ok (.ireturn, 1)) : W p l e room_1 s m #[Value.ref b] below meth c H [] 601024 7293034 (lw_Z below #[Value.ref b] s) (F0 m pc ls [.int 1]) := by
  intro T hT X
  obtain ⟨fs, hret, hrun, hended, hW, hframe⟩ := X.leave (v := some (.int 1)) (hlocks := hlocks) (fun h => by rw [hr] at h; cases h)
  have hmeth' : T.vm.method? m = some meth := X.method'
  refine ⟨T.setFrames fs, ?_, .returned (some (.int 1)), hrun, hended, rfl, ⟨_, rfl⟩, hW, hframe⟩
  jvm_step X.here [X.here.top, hx, hb, hdg, hmeth', hr, ret, narrow_b1]
  (try refine ⟨rfl, ?_⟩); (try refine ⟨rfl, ?_⟩)
  first | (intro acts; rw [hret _ acts rfl rfl rfl]) | rw [hret _ _ rfl rfl rfl]
  exact Steps.refl _
/-- what holds at the law's entry: the machine, the code, the tables' words (any of lw_tbl by 'hts w (by decide +kernel)'), the script of L ints xs at the cell b, what the Statement gives of the start (any of its parts by flat_of_before) -/
def lw_At (p : Program) (s : State) (m : MethodId) (meth : Method) (c : Code) (b L : Nat) (xs : Nat → Int32) : Prop :=
  p.tables.exec = Jvm.exec ∧ c.code = code ∧ meth.sig.returnType = ret ∧ c.maxLocals = 7 ∧ s.vm.findClass R_law = some m.cls ∧ (∀ w ∈ lw_tbl, w.before #[Value.ref b] s = true) ∧ va_X b L xs s s.heap ∧ b < s.heap.size ∧ meth.locks = false ∧ (Jvm.Cond.and given_1 narrow_1).before #[Value.ref b] s = true
set_option maxHeartbeats 4000000 in
set_option maxRecDepth 100000 in
theorem whole_start {p : Program} {e : Env} {s : State} {m : MethodId} {below : List Frame} {meth : Method} {c : Code} (l : Launch) (hflags : l.flags = flags0) {b L : Nat} {xs : Nat → Int32} (hL : L ≤ 1536) (C0 : lw_At p s m meth c b L xs) : W p l e room_1 s m #[Value.ref b] below meth c s.heap [] 0 0 (lw_Z below #[Value.ref b] s) (entryFrame m ([Value.ref b] : List Value).toArray 7) := by
  obtain ⟨hx, hb, hr, hml, hown, htt, hX, hbl, hlocks, hgv⟩ := id C0
  obtain ⟨D, cy, hK⟩ := law_K htt
  have hts : ∀ w ∈ wsL_law, w.before #[Value.ref b] s = true := fun w h => htt w (wsL_law_in w h)
  have hT := law_TB htt hgv
  have hC := law_TC htt hgv
  have hZ := law_SZ htt hgv
  have hO := law_AO htt
  have hfl : l.stackTraces = false := by
    unfold Launch.stackTraces
    rw [hflags]
    decide +kernel
  have C : LC p l s m c b L xs D cy := ⟨hx, hb, hml, hown, hts, hX, hbl, hK, hT, hC, hZ, hfl, hL⟩
  have hA : ∀ q : Nat, s.heap.size ≤ q → (fun q : Nat => s.heap.size ≤ q) q := fun _ h => h
  have hS : va_S (fun q : Nat => s.heap.size ≤ q) s.heap s.heap [] := va_S.rf
  have hP : va_P D vwCl [] s.heap := fun k q h => by simp at h
  have hD : va_D (fun q : Nat => s.heap.size ≤ q) [] := ⟨fun i j p q h => by simp at h, fun k q h => by simp at h⟩
  have hl := lv_entry ([.ref b]) (n := 7) (Nat.le_of_ble_eq_true rfl)
  rw [lg_entry_eq]
  generalize (lg_sl ([.ref b]) ++ List.replicate (7 - (lg_sl ([.ref b])).length) Slot.unset).toArray = ls at hl ⊢
  have hl : lv_has ls 7 [(0, .ref b)] := hl
  refine va_new (ci := 4) (fs := [.null, .null, .null, .null, .null, .null, .null]) (C := RX4) (T := TX4) (N := 7) hx hb hts inlX4 tyX4 tyX4_ok hown (hts (.classLink RL 8 RX4) (by decide +kernel)) (hts (.instantiable RX4 7) (by decide +kernel)) (hts (.initialized RX4) (by decide +kernel)) hK hP hD hS hA rfl (fun j hj => by rcases (show j = 0 ∨ j = 1 ∨ j = 2 ∨ j = 3 ∨ j = 4 ∨ j = 5 ∨ j = 6 by omega) with rfl | rfl | rfl | rfl | rfl | rfl | rfl <;> rfl) (Nat.le_of_ble_eq_true rfl) (Nat.le_of_ble_eq_true rfl) dL_law_0 (fun d0 H hP hD hS => ?_)
  have hP : va_P D vwCl [(d0, .inr (4, [.null, .null, .null, .null, .null, .null, .null]))] H := hP
  have hD : va_D (fun q : Nat => s.heap.size ≤ q) [(d0, .inr (4, [.null, .null, .null, .null, .null, .null, .null]))] := hD
  refine lv_dup hx hb dL_law_3 rfl ?_
  refine zi_call (wr := []) (b := d0) (As := []) (rest := [.ref d0]) ⟨hx, hb, hml, hown, hts⟩ (c_X4_init l D cy d0) (cwI 0 hts gL_law_X4_init rfl rfl rfl (hts (.initialized RX4) (by decide +kernel)) (hts (.methodLink RL 67 yX4_init) (by decide +kernel)) (hts (.instanceMethod yX4_init) (by decide +kernel)) rfl (by decide +kernel) ⟨Nat.le_of_ble_eq_true rfl, Nat.le_of_ble_eq_true rfl⟩) hK hT hO hP hD hS hA [0] [] rfl rfl rfl rfl (by decide) rfl hl.1 rfl (Nat.le_of_ble_eq_true rfl) dL_law_4 ⟨(Nat.le_of_ble_eq_true rfl), (Nat.le_of_ble_eq_true rfl)⟩ (fun u_1 H locs hw_1 hP hD hS => ?_)
  obtain ⟨d1, d2, d3, d4, d5, d6, d7, d8, d9, d10, d11, d12, d13, d14, d15, d16, d17, d18, d19, d20, d21, d22, d23, d24, d25, d26, d27, d28, d29, d30, d31, d32, d33, d34, d35, d36, d37, d38, d39, d40, d41, d42, d43, d44, d45, d46, d47, d48, d49, d50, d51, d52, d53, d54, d55, d56, d57, d58, d59, d60, d61, d62, d63, d64, d65, d66, d67, d68, d69, d70, d71, d72, d73, d74, d75, d76, d77, d78, d79⟩ := u_1
  obtain ⟨ad, e0, hP3, hD3⟩ := x4_blocks (D := D) (cy := cy) (H := H) (A := fun q : Nat => s.heap.size ≤ q) (d0 := d0) (d1 := d1) (d2 := d2) (d3 := d3) (d4 := d4) (d5 := d5) (d6 := d6) (d7 := d7) (d8 := d8) (d9 := d9) (d10 := d10) (d11 := d11) (d12 := d12) (d13 := d13) (d14 := d14) (d15 := d15) (d16 := d16) (d17 := d17) (d18 := d18) (d19 := d19) (d20 := d20) (d21 := d21) (d22 := d22) (d23 := d23) (d24 := d24) (d25 := d25) (d26 := d26) (d27 := d27) (d28 := d28) (d29 := d29) (d30 := d30) (d31 := d31) (d32 := d32) (d33 := d33) (d34 := d34) (d35 := d35) (d36 := d36) (d37 := d37) (d38 := d38) (d39 := d39) (d40 := d40) (d41 := d41) (d42 := d42) (d43 := d43) (d44 := d44) (d45 := d45) (d46 := d46) (d47 := d47) (d48 := d48) (d49 := d49) (d50 := d50) (d51 := d51) (d52 := d52) (d53 := d53) (d54 := d54) (d55 := d55) (d56 := d56) (d57 := d57) (d58 := d58) (d59 := d59) (d60 := d60) (d61 := d61) (d62 := d62) (d63 := d63) (d64 := d64) (d65 := d65) (d66 := d66) (d67 := d67) (d68 := d68) (d69 := d69) (d70 := d70) (d71 := d71) (d72 := d72) (d73 := d73) (d74 := d74) (d75 := d75) (d76 := d76) (d77 := d77) (d78 := d78) (d79 := d79) hP hD
  subst e0
  have hP := hP3
  have hD := hD3
  refine lv_astore_n (lv' := [(1, .ref (ad 0)), (0, .ref b)]) hx hb dL_law_7 rfl hl (by decide) rfl (fun ls hl => ?_)
  refine va_new (ci := 5) (fs := [.null, .null, .int (iI 0), .null, .null, .int (iI 0), .null, .int (iI 0)]) (C := RX5) (T := TX5) (N := 8) hx hb hts inlX5 tyX5 tyX5_ok hown (hts (.classLink RL 68 RX5) (by decide +kernel)) (hts (.instantiable RX5 8) (by decide +kernel)) (hts (.initialized RX5) (by decide +kernel)) hK hP hD hS hA rfl (fun j hj => by rcases (show j = 0 ∨ j = 1 ∨ j = 2 ∨ j = 3 ∨ j = 4 ∨ j = 5 ∨ j = 6 ∨ j = 7 by omega) with rfl | rfl | rfl | rfl | rfl | rfl | rfl | rfl <;> rfl) (Nat.le_of_ble_eq_true rfl) (Nat.le_of_ble_eq_true rfl) dL_law_8 (fun m0 H hP hD hS => ?_)
  refine lv_dup hx hb dL_law_11 rfl ?_
  refine zi_call (wc := [(m0, .inr (5, [.null, .null, .int (iI 0), .null, .null, .int (iI 0), .null, .int (iI 0)]))]) (wr := (LX cy ad).flatten) (b := m0) (As := []) (rest := [.ref m0]) ⟨hx, hb, hml, hown, hts⟩ (c_X5_init l D cy m0) (cwI 0 hts gL_law_X5_init rfl rfl rfl (hts (.initialized RX5) (by decide +kernel)) (hts (.methodLink RL 70 yX5_init) (by decide +kernel)) (hts (.instanceMethod yX5_init) (by decide +kernel)) rfl (by decide +kernel) ⟨Nat.le_of_ble_eq_true rfl, Nat.le_of_ble_eq_true rfl⟩) hK hT hO hP hD hS hA [80] [0, 1, 2, 3, 4, 5, 6, 7, 8, 9, 10, 11, 12, 13, 14, 15, 16, 17, 18, 19, 20, 21, 22, 23, 24, 25, 26, 27, 28, 29, 30, 31, 32, 33, 34, 35, 36, 37, 38, 39, 40, 41, 42, 43, 44, 45, 46, 47, 48, 49, 50, 51, 52, 53, 54, 55, 56, 57, 58, 59, 60, 61, 62, 63, 64, 65, 66, 67, 68, 69, 70, 71, 72, 73, 74, 75, 76, 77, 78, 79] rfl rfl rfl rfl (by decide) rfl hl.1 rfl (Nat.le_of_ble_eq_true rfl) dL_law_12 ⟨(Nat.le_of_ble_eq_true rfl), (Nat.le_of_ble_eq_true rfl)⟩ (fun u_2 H locs hw_2 hP hD hS => ?_)
  obtain ⟨a0, p0, q0, v0, t0⟩ := u_2
  have hP : va_P D vwCl ((LX cy ad).flatten ++ [(m0, .inr (5, [.ref a0, .ref p0, .int (iI 0), .ref q0, .ref v0, .int (iI 0), .ref t0, .int (iI 0)])), (a0, .inl (cy 0, 144, .inl gN)), (p0, .inl (cy 0, 864, .inl (fun _ => iI 0))), (q0, .inl (cy 0, 288, .inl (fun _ => iI 0))), (v0, .inl (cy 0, 2, .inl (fun _ => iI 0))), (t0, .inl (cy 0, 80, .inl (fun _ => iI 0)))]) H := hP
  have hD : va_D (fun q : Nat => s.heap.size ≤ q) ((LX cy ad).flatten ++ [(m0, .inr (5, [.ref a0, .ref p0, .int (iI 0), .ref q0, .ref v0, .int (iI 0), .ref t0, .int (iI 0)])), (a0, .inl (cy 0, 144, .inl gN)), (p0, .inl (cy 0, 864, .inl (fun _ => iI 0))), (q0, .inl (cy 0, 288, .inl (fun _ => iI 0))), (v0, .inl (cy 0, 2, .inl (fun _ => iI 0))), (t0, .inl (cy 0, 80, .inl (fun _ => iI 0)))]) := hD
  refine lv_astore_n (lv' := [(2, .ref m0), (1, .ref (ad 0)), (0, .ref b)]) hx hb dL_law_15 rfl hl (by decide) rfl (fun ls hl => ?_)
  refine lv_iconst (v := iI 1) hx hb dL_law_16 rfl ?_
  refine zi_newl hx hb (hts (.arrayClass .long) (by decide +kernel)) hK hP hD hS hA (z := 1) 1 rfl (by omega) (Nat.le_of_ble_eq_true rfl) (Nat.le_of_ble_eq_true rfl) dL_law_17 (fun o0 H hP hD hS => ?_)
  refine lv_astore_n (lv' := [(3, .ref o0), (2, .ref m0), (1, .ref (ad 0)), (0, .ref b)]) hx hb dL_law_19 rfl hl (by decide) rfl (fun ls hl => ?_)
  refine lv_iconst (v := iI 0) hx hb dL_law_20 rfl ?_
  refine lv_istore (lv' := [(4, .int (iI 0)), (3, .ref o0), (2, .ref m0), (1, .ref (ad 0)), (0, .ref b)]) hx hb dL_law_21 hl (by decide) rfl (fun ls hl => ?_)
  have hP2 := hP.sub (ws' := (LBs cy ad o0 m0 a0 p0 q0 v0 t0 zN fN zN fN 0 (fun _ => 0) (fun _ => 0) 0 0 (fun _ => zN) (fun _ => fN) (fun _ => zN) (fun _ => fN) (fun _ => iI 0) 0 (fun _ => iI 0) (fun _ => 0) 0 0 0 gN (fun _ => iI 0) (fun _ => iI 0) (fun _ => iI 0) (fun _ => iI 0)).flatten) [0, 1, 2, 3, 4, 5, 6, 7, 8, 9, 10, 11, 12, 13, 14, 15, 16, 17, 18, 19, 20, 21, 22, 23, 24, 25, 26, 27, 28, 29, 30, 31, 32, 33, 34, 35, 36, 37, 38, 39, 40, 41, 42, 43, 44, 45, 46, 47, 48, 49, 50, 51, 52, 53, 54, 55, 56, 57, 58, 59, 60, 61, 62, 63, 64, 65, 66, 67, 68, 69, 70, 71, 72, 73, 74, 75, 76, 77, 78, 79, 86, 80, 81, 82, 83, 84, 85] rfl
  have hD2 := hD.sub (ws' := (LBs cy ad o0 m0 a0 p0 q0 v0 t0 zN fN zN fN 0 (fun _ => 0) (fun _ => 0) 0 0 (fun _ => zN) (fun _ => fN) (fun _ => zN) (fun _ => fN) (fun _ => iI 0) 0 (fun _ => iI 0) (fun _ => 0) 0 0 0 gN (fun _ => iI 0) (fun _ => iI 0) (fun _ => iI 0) (fun _ => iI 0)).flatten) [0, 1, 2, 3, 4, 5, 6, 7, 8, 9, 10, 11, 12, 13, 14, 15, 16, 17, 18, 19, 20, 21, 22, 23, 24, 25, 26, 27, 28, 29, 30, 31, 32, 33, 34, 35, 36, 37, 38, 39, 40, 41, 42, 43, 44, 45, 46, 47, 48, 49, 50, 51, 52, 53, 54, 55, 56, 57, 58, 59, 60, 61, 62, 63, 64, 65, 66, 67, 68, 69, 70, 71, 72, 73, 74, 75, 76, 77, 78, 79, 86, 80, 81, 82, 83, 84, 85] (by decide) rfl
  have hI : LI D cy ad o0 m0 a0 p0 q0 v0 t0 (fun q : Nat => s.heap.size ≤ q) H := ⟨_, _, _, _, _, _, _, _, _, _, _, _, _, _, _, _, _, _, _, _, _, _, _, _, _, LJ_start, hP2, hD2⟩
  refine law_loop C (fun H1 locs1 ls1 cells1 slots1 hS1 hro => ?_) 512 0 _ _ _ _ _ (by omega) (by omega) ⟨Nat.le_of_ble_eq_true rfl, Nat.le_of_ble_eq_true rfl⟩ hI hS (lv_sub hl [0, 4, 3, 2, 1] rfl)
  refine lv_iconst (v := 1) hx hb dL_law_1478 (by decide) ?_
  refine va_forget (fun q h => hS1.2.2 q h) ?_
  refine W.widen (k := 601024) (n := 7293034) hro.1 hro.2 ?_
  exact lw_ret hx hb hr hlocks dL_law_1479
