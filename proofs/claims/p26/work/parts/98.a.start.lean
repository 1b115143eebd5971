/-! THE CLAIM OUT OF ONE WALK OF THE LAW'S BODY. Your part is whole_start (and what it stands on); all else here is the same for every law, but numbers. -/
def R_law : String := "TurnDigitsLaw"
def lw_P (b : Addr) (xs : List Int32) (args : Array Value) (s : State) : Prop := args = #[.ref b] ∧ s.IntsAt b xs ∧ xs.length ≤ 260 ∧ (Jvm.Cond.and given_1 narrow_1).before args s = true
/-- what a walk over the start with the record d0 says of its end, said of the start itself -/
theorem lw_closed {s t : State} {o : Outcome} {d0 : Drawn} {L : List Loc} {k n : Nat} (hd0 : s.drawn.sameBut d0 lw_cs) (hv : ∃ v, o = .returned v) (hW : (s.setDrawn d0).WarmedH t.vm) (hs : (s.setDrawn d0).sameButNew ({ t with vm := s.vm } : State) L k n) : State.butDraws s t lw_cs (fun t1 => Framed s o t1 L k n) := by
  have h2 : t.drawn = d0 := congrArg State.drawn hs.1
  refine ⟨⟨hv, hW, State.sameButNew.setDrawn hs s.drawn⟩, ?_, by decide⟩
  rw [h2]
  exact hd0
def lw_Q (_ : Array Value) (s : State) (o : Outcome) (t : State) : Prop := o = .returned (some (.int 1)) ∧ State.butDraws s t lw_cs (fun t1 => Framed s o t1 [] 600130 7301079)
def lw_Z (below : List Frame) (a : Array Value) (s : State) : State → Prop := fun t => ∃ o, t.status = .running ∧ Ended t below o ∧ lw_Q a s o t
/-- the law's own end, with 1 on the stack, nothing written that was there before, its room as the claim has it; d0: the record of draws at this point (at the entry s.drawn: begin with 'refine W.base ?_' and 'have hd0 := Drawn.sameBut.refl s.drawn lw_cs') -/
theorem lw_ret {p : Program} {l : Launch} {e : Env} {s : State} {m : MethodId} {below : List Frame} {meth : Method} {c : Code} {b : Nat} {d0 : Drawn} (hd0 : s.drawn.sameBut d0 lw_cs) (hx : p.tables.exec = Jvm.exec) (hb : c.code = code) (hr : meth.sig.returnType = ret) (hlocks : meth.locks = false) {pc : Nat} {H : Heap} {ls : Array Slot} (hdg : decode code pc = .ok (.ireturn, 1)) : W p l e room_1 (s.setDrawn d0) m #[Value.ref b] below meth c H [] 600130 7301079 (lw_Z below #[Value.ref b] s) (F0 m pc ls [.int 1]) := by
  intro T hT X
  obtain ⟨fs, hret, hrun, hended, hW, hframe⟩ := X.leave (v := some (.int 1)) (hlocks := hlocks) (fun h => by rw [hr] at h; cases h)
  have hmeth' : T.vm.method? m = some meth := X.method'
  refine ⟨T.setFrames fs, ?_, .returned (some (.int 1)), hrun, hended, rfl, lw_closed hd0 ⟨_, rfl⟩ hW hframe⟩
  jvm_step X.here [X.here.top, hx, hb, hdg, hmeth', hr, ret, narrow_b1]
  (try refine ⟨rfl, ?_⟩); (try refine ⟨rfl, ?_⟩)
  first | (intro acts; rw [hret _ acts rfl rfl rfl]) | rw [hret _ _ rfl rfl rfl]
  exact Steps.refl _
/-- what holds at the law's entry: the machine, the code, the tables' words (any of lw_tbl by 'hts w (by decide +kernel)'), the script of L ints xs at the cell b, what the Statement gives of the start (any of its parts by flat_of_before) -/
def lw_At (p : Program) (s : State) (m : MethodId) (meth : Method) (c : Code) (b L : Nat) (xs : Nat → Int32) : Prop :=
  p.tables.exec = Jvm.exec ∧ c.code = code ∧ meth.sig.returnType = ret ∧ c.maxLocals = 10 ∧ s.vm.findClass R_law = some m.cls ∧ (∀ w ∈ lw_tbl, w.before #[Value.ref b] s = true) ∧ va_X b L xs s s.heap ∧ b < s.heap.size ∧ meth.locks = false ∧ (Jvm.Cond.and given_1 narrow_1).before #[Value.ref b] s = true
/-! What the Statement gives of the law's start. -/
theorem st_l (l : Launch) (h : l.flags = flags0) : l.stackTraces = false := by
  unfold Launch.stackTraces
  rw [h]
  decide +kernel
theorem st_t {s : State} {b : Nat} (hts : ∀ w ∈ lw_tbl, w.before #[Value.ref b] s = true) (i : Nat) {w : Cond} (h : tables_1[i]? = some w) : w.before #[Value.ref b] s = true := hts w (List.mem_append_right (k2_sels lw_privs) (List.mem_of_getElem? h))
theorem st_Z {args : Array Value} {s : State} {n : String} {A : Nat → Prop} (N : Nat) (f : Nat → Int32) (hN : N < 2 ^ 31) (hl : (Cond.laysStatic "TurnDigits" n "[I").before args s = true) (hini : (Cond.initialized "TurnDigits").before args s = true) (harr : (Cond.arrayOf (.static "TurnDigits" n "[I") .int).before args s = true) (hlen : (Cond.eq (.length (.static "TurnDigits" n "[I")) (.int (Int32.ofNat N))).before args s = true) (hel : ∀ j, j < N → (Cond.eq (.elem (.static "TurnDigits" n "[I") (.int (Int32.ofNat j))) (.int (f j))).before args s = true) (hA : ∀ a : Nat, a < s.heap.size → ¬ A a) : ∃ t, xm_Z n N f t A s s.heap := by
  obtain ⟨t, ht, hT⟩ := va_Tof (f := fun j => Value.int (f j)) hN harr (va_eqt hlen) (fun j hj => va_eqt (hel j hj)) hA
  exact ⟨t, va_Zof hl hini ht hA, hT⟩
section STS
variable {s : State} {b : Nat} {A : Nat → Prop}
theorem st_Z0 (hts : ∀ w ∈ lw_tbl, w.before #[Value.ref b] s = true) (hgv : (Jvm.Cond.and given_1 narrow_1).before #[Value.ref b] s = true) (hA : ∀ a : Nat, a < s.heap.size → ¬ A a) : ∃ t, xm_Z "MASKS" 12 xm_mk t A s s.heap := by
  have hs := flat_of_before _ hgv
  refine st_Z 12 xm_mk (by decide) (st_t hts 336 (by decide +kernel)) (st_t hts 1 (by decide +kernel)) (hs _ (by decide +kernel)) (hs _ (by decide +kernel)) (fun j hj => ?_) hA
  rcases (show j = 0 ∨ j = 1 ∨ j = 2 ∨ j = 3 ∨ j = 4 ∨ j = 5 ∨ j = 6 ∨ j = 7 ∨ j = 8 ∨ j = 9 ∨ j = 10 ∨ j = 11 by omega) with rfl | rfl | rfl | rfl | rfl | rfl | rfl | rfl | rfl | rfl | rfl | rfl <;> exact hs _ (by decide +kernel)
theorem st_Z1 (hts : ∀ w ∈ lw_tbl, w.before #[Value.ref b] s = true) (hgv : (Jvm.Cond.and given_1 narrow_1).before #[Value.ref b] s = true) (hA : ∀ a : Nat, a < s.heap.size → ¬ A a) : ∃ t, xm_Z "LEAST_VALUES" 5 xm_lo t A s s.heap := by
  have hs := flat_of_before _ hgv
  refine st_Z 5 xm_lo (by decide) (st_t hts 471 (by decide +kernel)) (st_t hts 1 (by decide +kernel)) (hs _ (by decide +kernel)) (hs _ (by decide +kernel)) (fun j hj => ?_) hA
  rcases (show j = 0 ∨ j = 1 ∨ j = 2 ∨ j = 3 ∨ j = 4 by omega) with rfl | rfl | rfl | rfl | rfl <;> exact hs _ (by decide +kernel)
theorem st_Z2 (hts : ∀ w ∈ lw_tbl, w.before #[Value.ref b] s = true) (hgv : (Jvm.Cond.and given_1 narrow_1).before #[Value.ref b] s = true) (hA : ∀ a : Nat, a < s.heap.size → ¬ A a) : ∃ t, xm_Z "MOST_VALUES" 5 xm_hi t A s s.heap := by
  have hs := flat_of_before _ hgv
  refine st_Z 5 xm_hi (by decide) (st_t hts 473 (by decide +kernel)) (st_t hts 1 (by decide +kernel)) (hs _ (by decide +kernel)) (hs _ (by decide +kernel)) (fun j hj => ?_) hA
  rcases (show j = 0 ∨ j = 1 ∨ j = 2 ∨ j = 3 ∨ j = 4 by omega) with rfl | rfl | rfl | rfl | rfl <;> exact hs _ (by decide +kernel)
theorem st_Z3 (hts : ∀ w ∈ lw_tbl, w.before #[Value.ref b] s = true) (hgv : (Jvm.Cond.and given_1 narrow_1).before #[Value.ref b] s = true) (hA : ∀ a : Nat, a < s.heap.size → ¬ A a) : ∃ t, xm_Z "FIRST_VALUES" 5 xm_fi t A s s.heap := by
  have hs := flat_of_before _ hgv
  refine st_Z 5 xm_fi (by decide) (st_t hts 34 (by decide +kernel)) (st_t hts 1 (by decide +kernel)) (hs _ (by decide +kernel)) (hs _ (by decide +kernel)) (fun j hj => ?_) hA
  rcases (show j = 0 ∨ j = 1 ∨ j = 2 ∨ j = 3 ∨ j = 4 by omega) with rfl | rfl | rfl | rfl | rfl <;> exact hs _ (by decide +kernel)
theorem st_arr {args : Array Value} {ty : FieldType} (h : (Cond.arrayClass ty).before args s = true) : ∃ c, ArrOfT s c ty ∧ s.vm.findClass ("[" ++ ty.toString) = some c := by
  obtain ⟨c, k, comp, h1, h2, h3⟩ := Cond.arrayClass_spec h
  exact ⟨c, fun n z => ⟨fun k h => (by cases h), k, h2, comp, h3⟩, h1⟩
theorem st_arrq {args : Array Value} {C : String} (h : (Cond.arrayOver (.object C)).before args s = true) : ∃ c, ArrOfT s c (.object C) ∧ va_RA s c (.object C) := by
  obtain ⟨comp, c, k, h1, h2, h3, h4, h5⟩ := Cond.arrayOver_spec h
  exact ⟨c, fun n z => ⟨fun k h => (by cases h), k, h3, comp, h4⟩, k, comp, h3, h4, h1, h5⟩
theorem st_E (hts : ∀ w ∈ lw_tbl, w.before #[Value.ref b] s = true) (hgv : (Jvm.Cond.and given_1 narrow_1).before #[Value.ref b] s = true) (hA : ∀ a : Nat, a < s.heap.size → ¬ A a) : ∃ (dC : Nat → ClassId) (dI : Nat → Nat → Nat) (cI cS cJ : ClassId) (tt : Nat → Nat), xm_E (dC, dI) cI cS cJ tt A s s.heap := by
  obtain ⟨c0, i0, k0⟩ := u_known (C := RX0) (T := TX0) (N := 10) (n := 10) hts i_wsX00 (st_t hts 131 (by decide +kernel))
  obtain ⟨c1, i1, k1⟩ := u_known (C := RX1) (T := TX1) (N := 3) (n := 3) hts i_wsX10 (st_t hts 86 (by decide +kernel))
  obtain ⟨c2, i2, k2⟩ := u_known (C := RX2) (T := TX2) (N := 10) (n := 10) hts i_wsX20 (st_t hts 25 (by decide +kernel))
  obtain ⟨c3, i3, k3⟩ := u_known (C := RX3) (T := TX3) (N := 6) (n := 6) hts i_wsX30 (st_t hts 106 (by decide +kernel))
  obtain ⟨c4, i4, k4⟩ := u_known (C := RX4) (T := TX4) (N := 5) (n := 5) hts i_wsX40 (st_t hts 17 (by decide +kernel))
  obtain ⟨cI, a0, n0⟩ := st_arr (ty := .int) (st_t hts 84 (by decide +kernel))
  obtain ⟨cS, a1, n1⟩ := st_arrq (C := RX2) (st_t hts 92 (by decide +kernel))
  obtain ⟨t0, z0⟩ := st_Z0 hts hgv hA
  obtain ⟨t1, z1⟩ := st_Z1 hts hgv hA
  obtain ⟨t2, z2⟩ := st_Z2 hts hgv hA
  obtain ⟨t3, z3⟩ := st_Z3 hts hgv hA
  refine ⟨fun k => ([c0, c1, c2, c3, c4] : List ClassId).getD k c0, fun k => ([i0, i1, i2, i3, i4] : List (Nat → Nat)).getD k i0, cI, cS, cI, fun k => ([t0, t1, t2, t3] : List Nat).getD k 0, ⟨fun k q hq => ?_, fun k q hq => ?_⟩, ⟨va_Nw.of rfl (st_t hts 33 (by decide +kernel)), va_Nw.of rfl (st_t hts 335 (by decide +kernel)), va_Nw.of rfl (st_t hts 132 (by decide +kernel)), va_Nw.of rfl (st_t hts 269 (by decide +kernel)), va_Nw.of rfl (st_t hts 272 (by decide +kernel)), va_Nw.of rfl (st_t hts 493 (by decide +kernel)), va_Nw.of rfl (st_t hts 533 (by decide +kernel)), va_Nw.of rfl (st_t hts 534 (by decide +kernel)), va_Nw.of rfl (st_t hts 539 (by decide +kernel)), va_Nw.of rfl (st_t hts 107 (by decide +kernel))⟩, z0, z1, z2, z3⟩
  · match k, hq with
    | 0, hq => cases hq; exact k0
    | 1, hq => cases hq; exact k1
    | 2, hq => cases hq; exact k2
    | 3, hq => cases hq; exact k3
    | 4, hq => cases hq; exact k4
    | k + 5, hq => simp [vwCl] at hq
  · match k, hq with
    | 0, hq => cases hq; exact ⟨a0, n0⟩
    | 1, hq => cases hq; exact ⟨a1, n1⟩
    | k + 2, hq => simp [xm_ty] at hq
theorem st_S {args : Array Value} {k : Nat} {tx : String} (h1 : (Cond.stringRef RX4 k tx).before args s = true) (h2 : (Cond.exactly (.string RX4 k) "java/lang/String").before args s = true) : ∃ a, vk_R RX4 k tx a s := by
  obtain ⟨a, -, -, -, h, -⟩ := Cond.exactly_spec h2
  exact ⟨a, vk_R.of h1 h⟩
theorem st_F (hts : ∀ w ∈ lw_tbl, w.before #[Value.ref b] s = true) (hgv : (Jvm.Cond.and given_1 narrow_1).before #[Value.ref b] s = true) (hA : ∀ a : Nat, a < s.heap.size → ¬ A a) : ∃ ss : Nat → Nat, xt_F ss A s s.heap := by
  have hs := flat_of_before _ hgv
  obtain ⟨a0, s0⟩ := st_S (k := 105) (tx := "too many slots would have gone by") (st_t hts 528 (by decide +kernel)) (hs _ (by decide +kernel))
  obtain ⟨a3, s3⟩ := st_S (k := 143) (tx := "no state is saved") (st_t hts 512 (by decide +kernel)) (hs _ (by decide +kernel))
  obtain ⟨a4, s4⟩ := st_S (k := 277) (tx := "no such digit") (st_t hts 378 (by decide +kernel)) (hs _ (by decide +kernel))
  obtain ⟨a5, s5⟩ := st_S (k := 280) (tx := "no such segment") (st_t hts 388 (by decide +kernel)) (hs _ (by decide +kernel))
  obtain ⟨a6, s6⟩ := st_S (k := 282) (tx := "no such setting") (st_t hts 422 (by decide +kernel)) (hs _ (by decide +kernel))
  obtain ⟨a7, s7⟩ := st_S (k := 284) (tx := "out of range") (st_t hts 232 (by decide +kernel)) (hs _ (by decide +kernel))
  refine ⟨fun k => ([a0, a0, a0, a3, a4, a5, a6, a7] : List Nat).getD k 0, vx_Zqof (st_t hts 218 (by decide +kernel)) (st_t hts 8 (by decide +kernel)) (hs _ (by decide +kernel)) hA, vx_Zqof (st_t hts 220 (by decide +kernel)) (st_t hts 8 (by decide +kernel)) (hs _ (by decide +kernel)) hA, ⟨s0, trivial, trivial, s3, s4, s5, s6, s7⟩, ⟨va_Nw.of rfl (st_t hts 371 (by decide +kernel)), va_Nw.of rfl (st_t hts 193 (by decide +kernel)), va_Nw.of rfl (st_t hts 505 (by decide +kernel))⟩, ⟨va_Nw.of rfl (st_t hts 195 (by decide +kernel)), va_Nw.of rfl (st_t hts 197 (by decide +kernel)), va_Nw.of rfl (st_t hts 199 (by decide +kernel))⟩, trivial, trivial⟩
end STS
/-! numbers of the law's loop -/
theorem st_31 (x : Int32) : ∃ k, k < 32 ∧ x &&& 31 = nI k := by
  refine ⟨(x &&& 31).toBitVec.toNat, ?_, ?_⟩
  · have h : (x &&& 31).toBitVec = x.toBitVec &&& 31#32 := rfl
    rw [h, BitVec.toNat_and]
    exact Nat.lt_of_le_of_lt Nat.and_le_right (by decide)
  · apply Int32.toBitVec_inj.mp
    show (x &&& 31).toBitVec = BitVec.ofNat 32 (x &&& 31).toBitVec.toNat
    simp
theorem st_gt {L i : Nat} (hL : L ≤ 2048) (hi : i ≤ 4096) : Int32.ofNat L - 4 < nI i ↔ L < i + 4 := by
  have h : (Int32.ofNat L).toInt = (L : Int) := nI_toInt (by omega)
  have h4 : (4 : Int32).toInt = 4 := by decide
  rw [Int32.lt_iff_toInt_lt, Int32.toInt_sub, nI_toInt (by omega), h, h4, Int.bmod_eq_of_le (by omega) (by omega)]
  omega

