/-! Throws: what a start says of them. -/
abbrev xt_nm : List String := ["java/lang/RuntimeException", "java/lang/Exception"]
def xt_IO : String := "java/lang/IndexOutOfBoundsException"
def xt_IA : String := "java/lang/IllegalArgumentException"
def xt_IS : String := "java/lang/IllegalStateException"
theorem xt_b1 : ∀ w ∈ (vx_atS RX4 279 "java/lang/IndexOutOfBoundsException" xt_nm).filter (fun w => !goodWord w), w ∈ [Cond.castable "java/lang/IndexOutOfBoundsException" "java/lang/IndexOutOfBoundsException", Cond.declares (Bundle.initS "java/lang/RuntimeException"), Cond.declares (Bundle.initS "java/lang/Exception"), Cond.declares (Bundle.initS Bundle.tN)] := by decide +kernel
theorem xt_b2 : ∀ w ∈ (vx_atS RX4 134 "java/lang/IllegalArgumentException" xt_nm).filter (fun w => !goodWord w), w ∈ [Cond.castable "java/lang/IllegalArgumentException" "java/lang/IllegalArgumentException", Cond.declares (Bundle.initS "java/lang/RuntimeException"), Cond.declares (Bundle.initS "java/lang/Exception"), Cond.declares (Bundle.initS Bundle.tN)] := by decide +kernel
theorem xt_b3 : ∀ w ∈ (vx_atS RX4 107 "java/lang/IllegalStateException" xt_nm).filter (fun w => !goodWord w), w ∈ [Cond.castable "java/lang/IllegalStateException" "java/lang/IllegalStateException", Cond.declares (Bundle.initS "java/lang/RuntimeException"), Cond.declares (Bundle.initS "java/lang/Exception"), Cond.declares (Bundle.initS Bundle.tN)] := by decide +kernel
theorem xt_o1 : ∀ w ∈ Cond.classLink RX4 275 "java/lang/IndexOutOfBoundsException" :: Cond.initialized "java/lang/IndexOutOfBoundsException" :: vx_atS RX4 279 "java/lang/IndexOutOfBoundsException" xt_nm, vx_ot w = true := by decide +kernel
theorem xt_o2 : ∀ w ∈ Cond.classLink RX4 130 "java/lang/IllegalArgumentException" :: Cond.initialized "java/lang/IllegalArgumentException" :: vx_atS RX4 134 "java/lang/IllegalArgumentException" xt_nm, vx_ot w = true := by decide +kernel
theorem xt_o3 : ∀ w ∈ Cond.classLink RX4 103 "java/lang/IllegalStateException" :: Cond.initialized "java/lang/IllegalStateException" :: vx_atS RX4 107 "java/lang/IllegalStateException" xt_nm, vx_ot w = true := by decide +kernel
def xt_F (ss : Nat → Nat) (A : Nat → Prop) (U : State) (H : Heap) : Prop :=
  vx_Zq Bundle.tN "UNASSIGNED_STACK" Bundle.steD A U H ∧ vx_Zq Bundle.tN "SUPPRESSED_SENTINEL" Bundle.listD A U H ∧
  (vk_R RX4 105 "too many slots would have gone by" (ss 0) U ∧ True ∧ True ∧ vk_R RX4 143 "no state is saved" (ss 3) U ∧
    vk_R RX4 277 "no such digit" (ss 4) U ∧ vk_R RX4 280 "no such segment" (ss 5) U ∧ vk_R RX4 282 "no such setting" (ss 6) U ∧ vk_R RX4 284 "out of range" (ss 7) U) ∧
  (va_Nw (.castable "java/lang/IndexOutOfBoundsException" "java/lang/IndexOutOfBoundsException") U ∧ va_Nw (.castable "java/lang/IllegalArgumentException" "java/lang/IllegalArgumentException") U ∧ va_Nw (.castable "java/lang/IllegalStateException" "java/lang/IllegalStateException") U) ∧
  (va_Nw (.declares (Bundle.initS "java/lang/RuntimeException")) U ∧ va_Nw (.declares (Bundle.initS "java/lang/Exception")) U ∧ va_Nw (.declares (Bundle.initS Bundle.tN)) U) ∧
  True ∧ True
theorem va_Nw_warmD {x : MethodName} {s U : State} (hW : s.WarmedH U.vm) (hZ : va_Nw (.declares x) s) : va_Nw (.declares x) U := va_tabs rfl (rfl : (s.setVm U.vm).vm = U.vm) (by rw [Cond.declares_setVm hW.alike]; exact hZ)
section XTF
variable {ss : Nat → Nat} {A B : Nat → Prop} {s U : State} {H H1 : Heap}
theorem xt_F.narrow (h : xt_F ss A U H) (hAB : ∀ q, B q → A q) : xt_F ss B U H := ⟨h.1.narrow hAB, h.2.1.narrow hAB, h.2.2⟩
theorem xt_F.kept (h : xt_F ss A U H) (hq : ∀ a : Nat, a < H.size → ¬ A a → H1[a]? = H[a]?) : xt_F ss A U H1 := ⟨h.1.kept hq, h.2.1.kept hq, h.2.2⟩
theorem va_Nc_moved {C T : String} (hW : s.vm.Alike U.vm) (h : va_Nc C T s) : va_Nc C T U := by
  obtain ⟨c, t, h1, h2, h3⟩ := h
  exact ⟨c, t, by rw [hW.findClass]; exact h1, by rw [hW.findClass]; exact h2, by rw [hW.assignable]; exact h3⟩
theorem xt_F.warm (h : xt_F ss A s H) (hW : s.WarmedH U.vm) : xt_F ss A U H := by
  obtain ⟨h1, h2, ⟨a0, a1, a2, a3, a4, a5, a6, a7⟩, ⟨b0, b1, b2⟩, ⟨d0, d1, d2⟩, c0, c1⟩ := h
  exact ⟨h1.moved hW.alike, h2.moved hW.alike, ⟨a0.warm hW, a1, a2, a3.warm hW, a4.warm hW, a5.warm hW, a6.warm hW, a7.warm hW⟩, ⟨b0.warmC hW, b1.warmC hW, b2.warmC hW⟩, ⟨va_Nw_warmD hW d0, va_Nw_warmD hW d1, va_Nw_warmD hW d2⟩, c0, c1⟩
theorem xt_F.same (h : xt_F ss A s H) (hW : s.vm = U.vm) : xt_F ss A U H := by
  have e : s.vm.Alike U.vm := by rw [hW]; exact Vm.Alike.refl U.vm
  obtain ⟨h1, h2, ⟨a0, a1, a2, a3, a4, a5, a6, a7⟩, ⟨b0, b1, b2⟩, ⟨d0, d1, d2⟩, c0, c1⟩ := h
  exact ⟨h1.moved e, h2.moved e, ⟨a0.same hW.symm, a1, a2, a3.same hW.symm, a4.same hW.symm, a5.same hW.symm, a6.same hW.symm, a7.same hW.symm⟩, ⟨b0.same rfl hW, b1.same rfl hW, b2.same rfl hW⟩, ⟨d0.same rfl hW, d1.same rfl hW, d2.same rfl hW⟩, c0, c1⟩
theorem xt_F.go {locs : List Loc} (h : xt_F ss A s s.heap) (hS : va_S A s.heap H locs) (hAB : ∀ q, B q → A q) (hU : U.heap = H) (hW : s.WarmedH U.vm) : xt_F ss B U U.heap := by
  rw [hU]
  exact ((h.kept hS.2.1).narrow hAB).warm hW
end XTF
/-- a thrower's start -/
abbrev xt_M (D : va_G) (cI cS cJ : ClassId) (tt ss : Nat → Nat) (ws : va_W) (sz : Nat) (P : Prop) (U : State) : Prop := xm_M D cI cS cJ tt ws sz P U ∧ xt_F ss (va_A ws sz) U U.heap
theorem xt_Mblind {D : va_G} {cI cS cJ : ClassId} {tt ss : Nat → Nat} {ws : va_W} {sz : Nat} {P : Prop} {av : List Value} : FrameBlind (va_Pc av (xt_M D cI cS cJ tt ss ws sz P)) := fun a U g mk q => ⟨q.1, ⟨q.2.1.1, q.2.1.2.1, q.2.1.2.2.1.same (U := U.calling g mk a) rfl, q.2.1.2.2.2⟩, q.2.2.same (U := U.calling g mk a) rfl⟩
/-- what a thrower leaves when it throws: which exception, its cells as they were -/
abbrev xt_X (D : va_G) (w : va_W) (P : String → Prop) (A : Nat → Prop) : String → State → State → Prop := vx_X (fun _ : Unit => True) (fun E _ t => P E ∧ va_P D vwCl w t.heap ∧ va_D A w) A
theorem xt_keep {A : Nat → Prop} {s t : State} {H : Heap} {locs : List Loc} (hS : va_S A s.heap H locs) (hz : H.size ≤ t.heap.size) (hq : ∀ q : Nat, q < H.size → t.heap[q]? = H[q]?) : va_F A s t := ⟨Nat.le_trans hS.1 hz, fun q h1 h2 => (hq q (Nat.lt_of_lt_of_le h1 hS.1)).trans (hS.2.1 q h1 h2)⟩
/-! the checks of arguments -/
def xt_dg (n : Int32) (d : Int32) : Int32 := if d < 0 then 1 else if d < n then 0 else 1
def xt_rg (v lo hi : Int32) : Int32 := if v < lo then 1 else if v ≤ hi then 0 else 1
theorem xt_dg_ok {n : Nat} {d : Int32} (hn : n < 2 ^ 31) (h : xt_dg (nI n) d = 0) : fm_ix d n := by
  unfold xt_dg at h
  split at h
  · exact absurd h (by decide)
  · split at h
    · rename_i h1 h2
      obtain ⟨j, hj, e⟩ := nI_of h1
      subst e
      exact fm_ix_nI ((nI_ltI hj hn).mp h2) (by omega)
    · exact absurd h (by decide)
theorem xt_rg_ok {v lo hi : Int32} (h : xt_rg v lo hi = 0) : lo ≤ v ∧ v ≤ hi := by
  unfold xt_rg at h
  split at h
  · exact absurd h (by decide)
  · split at h
    · rename_i h1 h2
      exact ⟨Int32.not_lt.mp h1, h2⟩
    · exact absurd h (by decide)
/-- the words of a throw, for vx_throwS -/
theorem xt_h1 {ss : Nat → Nat} {A : Nat → Prop} {s : State} {H : Heap} {args : Array Value} (hF : xt_F ss A s H) (h1 : ∀ w ∈ (vx_atS RX4 279 "java/lang/IndexOutOfBoundsException" xt_nm).filter goodWord, w.before args s = true) : ∀ w ∈ vx_atS RX4 279 "java/lang/IndexOutOfBoundsException" xt_nm, w.before args s = true :=
  vx_hat h1 xt_b1 (vx_c (va_Nw.use rfl hF.2.2.2.1.1) (vx_c (va_Nw.use rfl hF.2.2.2.2.1.1) (vx_c (va_Nw.use rfl hF.2.2.2.2.1.2.1) (vx_c (va_Nw.use rfl hF.2.2.2.2.1.2.2) vx_n))))
theorem xt_h2 {ss : Nat → Nat} {A : Nat → Prop} {s : State} {H : Heap} {args : Array Value} (hF : xt_F ss A s H) (h1 : ∀ w ∈ (vx_atS RX4 134 "java/lang/IllegalArgumentException" xt_nm).filter goodWord, w.before args s = true) : ∀ w ∈ vx_atS RX4 134 "java/lang/IllegalArgumentException" xt_nm, w.before args s = true :=
  vx_hat h1 xt_b2 (vx_c (va_Nw.use rfl hF.2.2.2.1.2.1) (vx_c (va_Nw.use rfl hF.2.2.2.2.1.1) (vx_c (va_Nw.use rfl hF.2.2.2.2.1.2.1) (vx_c (va_Nw.use rfl hF.2.2.2.2.1.2.2) vx_n))))
theorem xt_h3 {ss : Nat → Nat} {A : Nat → Prop} {s : State} {H : Heap} {args : Array Value} (hF : xt_F ss A s H) (h1 : ∀ w ∈ (vx_atS RX4 107 "java/lang/IllegalStateException" xt_nm).filter goodWord, w.before args s = true) : ∀ w ∈ vx_atS RX4 107 "java/lang/IllegalStateException" xt_nm, w.before args s = true :=
  vx_hat h1 xt_b3 (vx_c (va_Nw.use rfl hF.2.2.2.1.2.2) (vx_c (va_Nw.use rfl hF.2.2.2.2.1.1) (vx_c (va_Nw.use rfl hF.2.2.2.2.1.2.1) (vx_c (va_Nw.use rfl hF.2.2.2.2.1.2.2) vx_n))))

set_option maxHeartbeats 4000000 in
set_option maxRecDepth 100000 in
theorem c_X4_requireDigit (l : Launch) (dC : Nat → ClassId) (dI : Nat → Nat → Nat) (cI cS cJ : ClassId) (tt : Nat → Nat) (hl0 : l.stackTraces = false) (ss : Nat → Nat) (sz : Nat) (d : Int32) : vx_Met l yX4_requireDigit wsX4_requireDigit ({ frames := 6, cells := 1, slots := 6, locals := 90 } : Room) (va_Pc [.int d] (xt_M (dC, dI) cI cS cJ tt ss [] sz (True))) (va_Qv (fun (u : Unit) => (xt_dg 6 d) = 0) (xm_B (dC, dI) (fun (u : Unit) => []) (va_A [] sz)) (va_A [] sz)) (xt_X (dC, dI) [] (fun E9 => ((xt_dg 6 d) = 1 ∧ E9 = "java/lang/IndexOutOfBoundsException")) (va_A [] sz)) 1 6 (va_A [] sz) := by
  refine vx_ofW (cc := cX4_requireDigit) (maxL := 1) (ret := none) (by decide) rfl ?_
  intro p e s m args below meth c s₁ B hml htb hv
  obtain ⟨rfl, ⟨hsz, hP, hE, hD0, hpre⟩, hF⟩ := hv
  have hx := B.exec
  have hb := B.bytes
  have hr := B.returns
  have hts := atoms_spec (ws := wsX4_requireDigit) B.pre
  have hown : s.vm.findClass RX4 = some m.cls := findClass_of_methodNamed B.named
  have hlocks := B.notSynchronized
  have hK := hE.1
  subst hsz
  have hD := hD0.self (sz := s.heap.size)
  generalize hAe : va_A [] s.heap.size = A at hD hE hF ⊢
  have hA : ∀ q : Nat, s.heap.size ≤ q → A q := fun q h => by rw [← hAe]; exact Or.inr h
  have hS : va_S A s.heap s.heap [] := va_S.rf
  have hP : va_P (dC, dI) vwCl [] s.heap := hP
  have hl := lv_entry [.int d] (n := 1) (Nat.le_of_ble_eq_true rfl)
  rw [lg_entry_eq]
  generalize (lg_sl [.int d] ++ List.replicate (1 - (lg_sl [.int d]).length) Slot.unset).toArray = lz at hl ⊢
  have hl : lv_has lz 1 [(0, .int d)] := hl
  refine lv_iload_n hx hb dX4_requireDigit_0 rfl (lv_at hl 0 rfl) ?_
  refine lv_if_lt (tgt := 10) hx hb dX4_requireDigit_1 (by decide) (fun q1 => ?_) (fun q1 => ?_)
  · have hP9 : va_P (dC, dI) vwCl [] s.heap := hP
    have hD9 : va_D A [] := hD
    exact vx_throwSW hx hb hl0 hown (by decide +kernel) (names := xt_nm) (by decide +kernel) (hts (.classLink RX4 275 "java/lang/IndexOutOfBoundsException") (by decide +kernel)) (hts (.initialized "java/lang/IndexOutOfBoundsException") (by decide +kernel)) hF.2.2.1.2.2.2.2.1 (xt_h1 hF (fun w9 h9 => hts w9 ((by decide +kernel : ∀ w8 ∈ (vx_atS RX4 279 "java/lang/IndexOutOfBoundsException" xt_nm).filter goodWord, w8 ∈ wsX4_requireDigit) w9 h9))) xt_o1 hF.1 hF.2.1 hS (hl.1.trans hml.symm) dX4_requireDigit_10 dX4_requireDigit_13 dX4_requireDigit_14 dX4_requireDigit_17 dX4_requireDigit_20 (fun x9 h9 => (htb x9 h9).elim) (Nat.le_of_ble_eq_true rfl) (Nat.le_of_ble_eq_true rfl) (Nat.le_of_ble_eq_true rfl) (Nat.le_of_ble_eq_true rfl) hlocks (fun t9 hv9 hz9 hq9 => ⟨(), trivial, ⟨⟨(by simp only [xt_dg, if_pos q1]), rfl⟩, hP9.kept (fun k9 q8 hk9 => hq9 q8.1 (hP9 k9 q8 hk9).lt), hD9⟩, xt_keep hS hz9 hq9⟩) hS.2.2 (by decide) (by decide)
  · refine lv_iload_n hx hb dX4_requireDigit_4 rfl (lv_at hl 0 rfl) ?_
    refine lv_bipush (v := 6) hx hb dX4_requireDigit_5 (by decide) ?_
    refine lv_icmp_lt (tgt := 21) hx hb dX4_requireDigit_7 (by decide) (fun q7 => ?_) (fun q7 => ?_)
    · have hP9 : va_P (dC, dI) vwCl [] s.heap := hP
      have hD9 : va_D A [] := hD
      refine vx_ret ?_
      refine W.widen (k := 1) (n := 6) (by decide) (by decide) ?_
      exact W.vret hx hb hr (fun t ht hW => ⟨⟨(), rfl, (by simp only [xt_dg, if_neg q1, if_pos q7]), by rw [ht]; exact hP9, hD9⟩, hS.F ht⟩) hS.2.2 dX4_requireDigit_21
    · have hP9 : va_P (dC, dI) vwCl [] s.heap := hP
      have hD9 : va_D A [] := hD
      exact vx_throwSW hx hb hl0 hown (by decide +kernel) (names := xt_nm) (by decide +kernel) (hts (.classLink RX4 275 "java/lang/IndexOutOfBoundsException") (by decide +kernel)) (hts (.initialized "java/lang/IndexOutOfBoundsException") (by decide +kernel)) hF.2.2.1.2.2.2.2.1 (xt_h1 hF (fun w9 h9 => hts w9 ((by decide +kernel : ∀ w8 ∈ (vx_atS RX4 279 "java/lang/IndexOutOfBoundsException" xt_nm).filter goodWord, w8 ∈ wsX4_requireDigit) w9 h9))) xt_o1 hF.1 hF.2.1 hS (hl.1.trans hml.symm) dX4_requireDigit_10 dX4_requireDigit_13 dX4_requireDigit_14 dX4_requireDigit_17 dX4_requireDigit_20 (fun x9 h9 => (htb x9 h9).elim) (Nat.le_of_ble_eq_true rfl) (Nat.le_of_ble_eq_true rfl) (Nat.le_of_ble_eq_true rfl) (Nat.le_of_ble_eq_true rfl) hlocks (fun t9 hv9 hz9 hq9 => ⟨(), trivial, ⟨⟨(by simp only [xt_dg, if_neg q1, if_neg q7]), rfl⟩, hP9.kept (fun k9 q8 hk9 => hq9 q8.1 (hP9 k9 q8 hk9).lt), hD9⟩, xt_keep hS hz9 hq9⟩) hS.2.2 (by decide) (by decide)

set_option maxHeartbeats 4000000 in
set_option maxRecDepth 100000 in
theorem c_X4_requireSegment (l : Launch) (dC : Nat → ClassId) (dI : Nat → Nat → Nat) (cI cS cJ : ClassId) (tt : Nat → Nat) (hl0 : l.stackTraces = false) (ss : Nat → Nat) (sz : Nat) (d : Int32) : vx_Met l yX4_requireSegment wsX4_requireSegment ({ frames := 6, cells := 1, slots := 6, locals := 90 } : Room) (va_Pc [.int d] (xt_M (dC, dI) cI cS cJ tt ss [] sz (True))) (va_Qv (fun (u : Unit) => (xt_dg 7 d) = 0) (xm_B (dC, dI) (fun (u : Unit) => []) (va_A [] sz)) (va_A [] sz)) (xt_X (dC, dI) [] (fun E9 => ((xt_dg 7 d) = 1 ∧ E9 = "java/lang/IndexOutOfBoundsException")) (va_A [] sz)) 1 6 (va_A [] sz) := by
  refine vx_ofW (cc := cX4_requireSegment) (maxL := 1) (ret := none) (by decide) rfl ?_
  intro p e s m args below meth c s₁ B hml htb hv
  obtain ⟨rfl, ⟨hsz, hP, hE, hD0, hpre⟩, hF⟩ := hv
  have hx := B.exec
  have hb := B.bytes
  have hr := B.returns
  have hts := atoms_spec (ws := wsX4_requireSegment) B.pre
  have hown : s.vm.findClass RX4 = some m.cls := findClass_of_methodNamed B.named
  have hlocks := B.notSynchronized
  have hK := hE.1
  subst hsz
  have hD := hD0.self (sz := s.heap.size)
  generalize hAe : va_A [] s.heap.size = A at hD hE hF ⊢
  have hA : ∀ q : Nat, s.heap.size ≤ q → A q := fun q h => by rw [← hAe]; exact Or.inr h
  have hS : va_S A s.heap s.heap [] := va_S.rf
  have hP : va_P (dC, dI) vwCl [] s.heap := hP
  have hl := lv_entry [.int d] (n := 1) (Nat.le_of_ble_eq_true rfl)
  rw [lg_entry_eq]
  generalize (lg_sl [.int d] ++ List.replicate (1 - (lg_sl [.int d]).length) Slot.unset).toArray = lz at hl ⊢
  have hl : lv_has lz 1 [(0, .int d)] := hl
  refine lv_iload_n hx hb dX4_requireSegment_0 rfl (lv_at hl 0 rfl) ?_
  refine lv_if_lt (tgt := 10) hx hb dX4_requireSegment_1 (by decide) (fun q1 => ?_) (fun q1 => ?_)
  · have hP9 : va_P (dC, dI) vwCl [] s.heap := hP
    have hD9 : va_D A [] := hD
    exact vx_throwSW hx hb hl0 hown (by decide +kernel) (names := xt_nm) (by decide +kernel) (hts (.classLink RX4 275 "java/lang/IndexOutOfBoundsException") (by decide +kernel)) (hts (.initialized "java/lang/IndexOutOfBoundsException") (by decide +kernel)) hF.2.2.1.2.2.2.2.2.1 (xt_h1 hF (fun w9 h9 => hts w9 ((by decide +kernel : ∀ w8 ∈ (vx_atS RX4 279 "java/lang/IndexOutOfBoundsException" xt_nm).filter goodWord, w8 ∈ wsX4_requireSegment) w9 h9))) xt_o1 hF.1 hF.2.1 hS (hl.1.trans hml.symm) dX4_requireSegment_10 dX4_requireSegment_13 dX4_requireSegment_14 dX4_requireSegment_17 dX4_requireSegment_20 (fun x9 h9 => (htb x9 h9).elim) (Nat.le_of_ble_eq_true rfl) (Nat.le_of_ble_eq_true rfl) (Nat.le_of_ble_eq_true rfl) (Nat.le_of_ble_eq_true rfl) hlocks (fun t9 hv9 hz9 hq9 => ⟨(), trivial, ⟨⟨(by simp only [xt_dg, if_pos q1]), rfl⟩, hP9.kept (fun k9 q8 hk9 => hq9 q8.1 (hP9 k9 q8 hk9).lt), hD9⟩, xt_keep hS hz9 hq9⟩) hS.2.2 (by decide) (by decide)
  · refine lv_iload_n hx hb dX4_requireSegment_4 rfl (lv_at hl 0 rfl) ?_
    refine lv_bipush (v := 7) hx hb dX4_requireSegment_5 (by decide) ?_
    refine lv_icmp_lt (tgt := 21) hx hb dX4_requireSegment_7 (by decide) (fun q7 => ?_) (fun q7 => ?_)
    · have hP9 : va_P (dC, dI) vwCl [] s.heap := hP
      have hD9 : va_D A [] := hD
      refine vx_ret ?_
      refine W.widen (k := 1) (n := 6) (by decide) (by decide) ?_
      exact W.vret hx hb hr (fun t ht hW => ⟨⟨(), rfl, (by simp only [xt_dg, if_neg q1, if_pos q7]), by rw [ht]; exact hP9, hD9⟩, hS.F ht⟩) hS.2.2 dX4_requireSegment_21
    · have hP9 : va_P (dC, dI) vwCl [] s.heap := hP
      have hD9 : va_D A [] := hD
      exact vx_throwSW hx hb hl0 hown (by decide +kernel) (names := xt_nm) (by decide +kernel) (hts (.classLink RX4 275 "java/lang/IndexOutOfBoundsException") (by decide +kernel)) (hts (.initialized "java/lang/IndexOutOfBoundsException") (by decide +kernel)) hF.2.2.1.2.2.2.2.2.1 (xt_h1 hF (fun w9 h9 => hts w9 ((by decide +kernel : ∀ w8 ∈ (vx_atS RX4 279 "java/lang/IndexOutOfBoundsException" xt_nm).filter goodWord, w8 ∈ wsX4_requireSegment) w9 h9))) xt_o1 hF.1 hF.2.1 hS (hl.1.trans hml.symm) dX4_requireSegment_10 dX4_requireSegment_13 dX4_requireSegment_14 dX4_requireSegment_17 dX4_requireSegment_20 (fun x9 h9 => (htb x9 h9).elim) (Nat.le_of_ble_eq_true rfl) (Nat.le_of_ble_eq_true rfl) (Nat.le_of_ble_eq_true rfl) (Nat.le_of_ble_eq_true rfl) hlocks (fun t9 hv9 hz9 hq9 => ⟨(), trivial, ⟨⟨(by simp only [xt_dg, if_neg q1, if_neg q7]), rfl⟩, hP9.kept (fun k9 q8 hk9 => hq9 q8.1 (hP9 k9 q8 hk9).lt), hD9⟩, xt_keep hS hz9 hq9⟩) hS.2.2 (by decide) (by decide)

set_option maxHeartbeats 4000000 in
set_option maxRecDepth 100000 in
theorem c_X4_requireSetting (l : Launch) (dC : Nat → ClassId) (dI : Nat → Nat → Nat) (cI cS cJ : ClassId) (tt : Nat → Nat) (hl0 : l.stackTraces = false) (ss : Nat → Nat) (sz : Nat) (d : Int32) : vx_Met l yX4_requireSetting wsX4_requireSetting ({ frames := 6, cells := 1, slots := 6, locals := 90 } : Room) (va_Pc [.int d] (xt_M (dC, dI) cI cS cJ tt ss [] sz (True))) (va_Qv (fun (u : Unit) => (xt_dg 5 d) = 0) (xm_B (dC, dI) (fun (u : Unit) => []) (va_A [] sz)) (va_A [] sz)) (xt_X (dC, dI) [] (fun E9 => ((xt_dg 5 d) = 1 ∧ E9 = "java/lang/IndexOutOfBoundsException")) (va_A [] sz)) 1 6 (va_A [] sz) := by
  refine vx_ofW (cc := cX4_requireSetting) (maxL := 1) (ret := none) (by decide) rfl ?_
  intro p e s m args below meth c s₁ B hml htb hv
  obtain ⟨rfl, ⟨hsz, hP, hE, hD0, hpre⟩, hF⟩ := hv
  have hx := B.exec
  have hb := B.bytes
  have hr := B.returns
  have hts := atoms_spec (ws := wsX4_requireSetting) B.pre
  have hown : s.vm.findClass RX4 = some m.cls := findClass_of_methodNamed B.named
  have hlocks := B.notSynchronized
  have hK := hE.1
  subst hsz
  have hD := hD0.self (sz := s.heap.size)
  generalize hAe : va_A [] s.heap.size = A at hD hE hF ⊢
  have hA : ∀ q : Nat, s.heap.size ≤ q → A q := fun q h => by rw [← hAe]; exact Or.inr h
  have hS : va_S A s.heap s.heap [] := va_S.rf
  have hP : va_P (dC, dI) vwCl [] s.heap := hP
  have hl := lv_entry [.int d] (n := 1) (Nat.le_of_ble_eq_true rfl)
  rw [lg_entry_eq]
  generalize (lg_sl [.int d] ++ List.replicate (1 - (lg_sl [.int d]).length) Slot.unset).toArray = lz at hl ⊢
  have hl : lv_has lz 1 [(0, .int d)] := hl
  refine lv_iload_n hx hb dX4_requireSetting_0 rfl (lv_at hl 0 rfl) ?_
  refine lv_if_lt (tgt := 9) hx hb dX4_requireSetting_1 (by decide) (fun q1 => ?_) (fun q1 => ?_)
  · have hP9 : va_P (dC, dI) vwCl [] s.heap := hP
    have hD9 : va_D A [] := hD
    exact vx_throwSW hx hb hl0 hown (by decide +kernel) (names := xt_nm) (by decide +kernel) (hts (.classLink RX4 275 "java/lang/IndexOutOfBoundsException") (by decide +kernel)) (hts (.initialized "java/lang/IndexOutOfBoundsException") (by decide +kernel)) hF.2.2.1.2.2.2.2.2.2.1 (xt_h1 hF (fun w9 h9 => hts w9 ((by decide +kernel : ∀ w8 ∈ (vx_atS RX4 279 "java/lang/IndexOutOfBoundsException" xt_nm).filter goodWord, w8 ∈ wsX4_requireSetting) w9 h9))) xt_o1 hF.1 hF.2.1 hS (hl.1.trans hml.symm) dX4_requireSetting_9 dX4_requireSetting_12 dX4_requireSetting_13 dX4_requireSetting_16 dX4_requireSetting_19 (fun x9 h9 => (htb x9 h9).elim) (Nat.le_of_ble_eq_true rfl) (Nat.le_of_ble_eq_true rfl) (Nat.le_of_ble_eq_true rfl) (Nat.le_of_ble_eq_true rfl) hlocks (fun t9 hv9 hz9 hq9 => ⟨(), trivial, ⟨⟨(by simp only [xt_dg, if_pos q1]), rfl⟩, hP9.kept (fun k9 q8 hk9 => hq9 q8.1 (hP9 k9 q8 hk9).lt), hD9⟩, xt_keep hS hz9 hq9⟩) hS.2.2 (by decide) (by decide)
  · refine lv_iload_n hx hb dX4_requireSetting_4 rfl (lv_at hl 0 rfl) ?_
    refine lv_iconst (v := 5) hx hb dX4_requireSetting_5 (by decide) ?_
    refine lv_icmp_lt (tgt := 20) hx hb dX4_requireSetting_6 (by decide) (fun q6 => ?_) (fun q6 => ?_)
    · have hP9 : va_P (dC, dI) vwCl [] s.heap := hP
      have hD9 : va_D A [] := hD
      refine vx_ret ?_
      refine W.widen (k := 1) (n := 6) (by decide) (by decide) ?_
      exact W.vret hx hb hr (fun t ht hW => ⟨⟨(), rfl, (by simp only [xt_dg, if_neg q1, if_pos q6]), by rw [ht]; exact hP9, hD9⟩, hS.F ht⟩) hS.2.2 dX4_requireSetting_20
    · have hP9 : va_P (dC, dI) vwCl [] s.heap := hP
      have hD9 : va_D A [] := hD
      exact vx_throwSW hx hb hl0 hown (by decide +kernel) (names := xt_nm) (by decide +kernel) (hts (.classLink RX4 275 "java/lang/IndexOutOfBoundsException") (by decide +kernel)) (hts (.initialized "java/lang/IndexOutOfBoundsException") (by decide +kernel)) hF.2.2.1.2.2.2.2.2.2.1 (xt_h1 hF (fun w9 h9 => hts w9 ((by decide +kernel : ∀ w8 ∈ (vx_atS RX4 279 "java/lang/IndexOutOfBoundsException" xt_nm).filter goodWord, w8 ∈ wsX4_requireSetting) w9 h9))) xt_o1 hF.1 hF.2.1 hS (hl.1.trans hml.symm) dX4_requireSetting_9 dX4_requireSetting_12 dX4_requireSetting_13 dX4_requireSetting_16 dX4_requireSetting_19 (fun x9 h9 => (htb x9 h9).elim) (Nat.le_of_ble_eq_true rfl) (Nat.le_of_ble_eq_true rfl) (Nat.le_of_ble_eq_true rfl) (Nat.le_of_ble_eq_true rfl) hlocks (fun t9 hv9 hz9 hq9 => ⟨(), trivial, ⟨⟨(by simp only [xt_dg, if_neg q1, if_neg q6]), rfl⟩, hP9.kept (fun k9 q8 hk9 => hq9 q8.1 (hP9 k9 q8 hk9).lt), hD9⟩, xt_keep hS hz9 hq9⟩) hS.2.2 (by decide) (by decide)

set_option maxHeartbeats 4000000 in
set_option maxRecDepth 100000 in
theorem c_X4_requireRange (l : Launch) (dC : Nat → ClassId) (dI : Nat → Nat → Nat) (cI cS cJ : ClassId) (tt : Nat → Nat) (hl0 : l.stackTraces = false) (ss : Nat → Nat) (sz : Nat) (x0 : Int32) (lo : Int32) (hi : Int32) : vx_Met l yX4_requireRange wsX4_requireRange ({ frames := 6, cells := 1, slots := 6, locals := 90 } : Room) (va_Pc [.int x0, .int lo, .int hi] (xt_M (dC, dI) cI cS cJ tt ss [] sz (True))) (va_Qv (fun (u : Unit) => (xt_rg x0 lo hi) = 0) (xm_B (dC, dI) (fun (u : Unit) => []) (va_A [] sz)) (va_A [] sz)) (xt_X (dC, dI) [] (fun E9 => ((xt_rg x0 lo hi) = 1 ∧ E9 = "java/lang/IllegalArgumentException")) (va_A [] sz)) 1 6 (va_A [] sz) := by
  refine vx_ofW (cc := cX4_requireRange) (maxL := 3) (ret := none) (by decide) rfl ?_
  intro p e s m args below meth c s₁ B hml htb hv
  obtain ⟨rfl, ⟨hsz, hP, hE, hD0, hpre⟩, hF⟩ := hv
  have hx := B.exec
  have hb := B.bytes
  have hr := B.returns
  have hts := atoms_spec (ws := wsX4_requireRange) B.pre
  have hown : s.vm.findClass RX4 = some m.cls := findClass_of_methodNamed B.named
  have hlocks := B.notSynchronized
  have hK := hE.1
  subst hsz
  have hD := hD0.self (sz := s.heap.size)
  generalize hAe : va_A [] s.heap.size = A at hD hE hF ⊢
  have hA : ∀ q : Nat, s.heap.size ≤ q → A q := fun q h => by rw [← hAe]; exact Or.inr h
  have hS : va_S A s.heap s.heap [] := va_S.rf
  have hP : va_P (dC, dI) vwCl [] s.heap := hP
  have hl := lv_entry [.int x0, .int lo, .int hi] (n := 3) (Nat.le_of_ble_eq_true rfl)
  rw [lg_entry_eq]
  generalize (lg_sl [.int x0, .int lo, .int hi] ++ List.replicate (3 - (lg_sl [.int x0, .int lo, .int hi]).length) Slot.unset).toArray = lz at hl ⊢
  have hl : lv_has lz 3 [(0, .int x0), (1, .int lo), (2, .int hi)] := hl
  refine lv_iload_n hx hb dX4_requireRange_0 rfl (lv_at hl 0 rfl) ?_
  refine lv_iload_n hx hb dX4_requireRange_1 rfl (lv_at hl 1 rfl) ?_
  refine lv_icmp_lt (tgt := 10) hx hb dX4_requireRange_2 (by decide) (fun q2 => ?_) (fun q2 => ?_)
  · have hP9 : va_P (dC, dI) vwCl [] s.heap := hP
    have hD9 : va_D A [] := hD
    exact vx_throwSW hx hb hl0 hown (by decide +kernel) (names := xt_nm) (by decide +kernel) (hts (.classLink RX4 130 "java/lang/IllegalArgumentException") (by decide +kernel)) (hts (.initialized "java/lang/IllegalArgumentException") (by decide +kernel)) hF.2.2.1.2.2.2.2.2.2.2 (xt_h2 hF (fun w9 h9 => hts w9 ((by decide +kernel : ∀ w8 ∈ (vx_atS RX4 134 "java/lang/IllegalArgumentException" xt_nm).filter goodWord, w8 ∈ wsX4_requireRange) w9 h9))) xt_o2 hF.1 hF.2.1 hS (hl.1.trans hml.symm) dX4_requireRange_10 dX4_requireRange_13 dX4_requireRange_14 dX4_requireRange_17 dX4_requireRange_20 (fun x9 h9 => (htb x9 h9).elim) (Nat.le_of_ble_eq_true rfl) (Nat.le_of_ble_eq_true rfl) (Nat.le_of_ble_eq_true rfl) (Nat.le_of_ble_eq_true rfl) hlocks (fun t9 hv9 hz9 hq9 => ⟨(), trivial, ⟨⟨(by simp only [xt_rg, if_pos q2]), rfl⟩, hP9.kept (fun k9 q8 hk9 => hq9 q8.1 (hP9 k9 q8 hk9).lt), hD9⟩, xt_keep hS hz9 hq9⟩) hS.2.2 (by decide) (by decide)
  · refine lv_iload_n hx hb dX4_requireRange_5 rfl (lv_at hl 0 rfl) ?_
    refine lv_iload_n hx hb dX4_requireRange_6 rfl (lv_at hl 2 rfl) ?_
    refine lv_icmp_le (tgt := 21) hx hb dX4_requireRange_7 (by decide) (fun q7 => ?_) (fun q7 => ?_)
    · have hP9 : va_P (dC, dI) vwCl [] s.heap := hP
      have hD9 : va_D A [] := hD
      refine vx_ret ?_
      refine W.widen (k := 1) (n := 6) (by decide) (by decide) ?_
      exact W.vret hx hb hr (fun t ht hW => ⟨⟨(), rfl, (by simp only [xt_rg, if_neg q2, if_pos q7]), by rw [ht]; exact hP9, hD9⟩, hS.F ht⟩) hS.2.2 dX4_requireRange_21
    · have hP9 : va_P (dC, dI) vwCl [] s.heap := hP
      have hD9 : va_D A [] := hD
      exact vx_throwSW hx hb hl0 hown (by decide +kernel) (names := xt_nm) (by decide +kernel) (hts (.classLink RX4 130 "java/lang/IllegalArgumentException") (by decide +kernel)) (hts (.initialized "java/lang/IllegalArgumentException") (by decide +kernel)) hF.2.2.1.2.2.2.2.2.2.2 (xt_h2 hF (fun w9 h9 => hts w9 ((by decide +kernel : ∀ w8 ∈ (vx_atS RX4 134 "java/lang/IllegalArgumentException" xt_nm).filter goodWord, w8 ∈ wsX4_requireRange) w9 h9))) xt_o2 hF.1 hF.2.1 hS (hl.1.trans hml.symm) dX4_requireRange_10 dX4_requireRange_13 dX4_requireRange_14 dX4_requireRange_17 dX4_requireRange_20 (fun x9 h9 => (htb x9 h9).elim) (Nat.le_of_ble_eq_true rfl) (Nat.le_of_ble_eq_true rfl) (Nat.le_of_ble_eq_true rfl) (Nat.le_of_ble_eq_true rfl) hlocks (fun t9 hv9 hz9 hq9 => ⟨(), trivial, ⟨⟨(by simp only [xt_rg, if_neg q2, if_neg q7]), rfl⟩, hP9.kept (fun k9 q8 hk9 => hq9 q8.1 (hP9 k9 q8 hk9).lt), hD9⟩, xt_keep hS hz9 hq9⟩) hS.2.2 (by decide) (by decide)


