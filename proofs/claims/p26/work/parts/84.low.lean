/-! A start that speaks of the script. -/
abbrev xs_M (D : va_G) (cI cS cJ : ClassId) (tt ss : Nat → Nat) (ws : va_W) (sz : Nat) (P : Prop) (b0 L : Nat) (xs : Nat → Int32) (U : State) : Prop := xt_M D cI cS cJ tt ss ws sz P U ∧ va_X b0 L xs U U.heap ∧ b0 < sz ∧ ¬ va_A ws sz b0
theorem xs_Mblind {D : va_G} {cI cS cJ : ClassId} {tt ss : Nat → Nat} {ws : va_W} {sz : Nat} {P : Prop} {b0 L : Nat} {xs : Nat → Int32} {av : List Value} : FrameBlind (va_Pc av (xs_M D cI cS cJ tt ss ws sz P b0 L xs)) := fun a U g mk q =>
  have r := xt_Mblind (D := D) (cI := cI) (cS := cS) (cJ := cJ) (tt := tt) (ss := ss) (ws := ws) (sz := sz) (P := P) (av := av) a U g mk ⟨q.1, q.2.1⟩
  ⟨r.1, r.2, va_X.moved (u := U) (U := U.calling g mk a) (Vm.Alike.refl U.vm) q.2.2.1, q.2.2.2⟩
abbrev xc_M (b0 L : Nat) (xs : Nat → Int32) (k : Nat) (U : State) : Prop := va_X b0 L xs U U.heap ∧ b0 < U.heap.size ∧ L < 2 ^ 31 ∧ k < L
theorem xc_Mblind {b0 L k : Nat} {xs : Nat → Int32} {av : List Value} : FrameBlind (va_Pc av (xc_M b0 L xs k)) := fun a U g mk q => ⟨q.1, va_X.moved (u := U) (U := U.calling g mk a) (Vm.Alike.refl U.vm) q.2.1, q.2.2⟩
set_option maxHeartbeats 4000000 in
set_option maxRecDepth 100000 in
theorem c_L_cell (l : Launch) (b0 L : Nat) (xs : Nat → Int32) (k : Nat) : Met l yL_cell wsL_cell ({ frames := 0, cells := 0, slots := 0, locals := 0 } : Room) (va_Pc [.ref b0, .int (nI k)] (xc_M b0 L xs k)) (k2_QcV (.int (xs k))) 0 0 (fun _ => False) := by
  refine Met.ofW (cc := cL_cell) (maxL := 2) (ret := (some .int)) (by decide) rfl ?_
  intro p e s m args below meth c s₁ B hml hv
  obtain ⟨rfl, hX, hbl, hL31, hk⟩ := hv
  have hx := B.exec
  have hb := B.bytes
  have hr := B.returns
  have hS : va_S (fun _ => False) s.heap s.heap [] := va_S.rf
  have hl := lv_entry [.ref b0, .int (nI k)] (n := 2) (Nat.le_of_ble_eq_true rfl)
  rw [lg_entry_eq]
  generalize (lg_sl [.ref b0, .int (nI k)] ++ List.replicate (2 - (lg_sl [.ref b0, .int (nI k)]).length) Slot.unset).toArray = lz at hl ⊢
  have hl : lv_has lz 2 [(0, .ref b0), (1, .int (nI k))] := hl
  refine lv_iload_n hx hb dL_cell_0 rfl (lv_at hl 1 rfl) ?_
  refine lv_aload_n hx hb dL_cell_1 rfl (lv_at hl 0 rfl) ?_
  refine va_slen hx hb hX hbl (fun q => q) hS dL_cell_2 ?_
  refine lv_icmp_ge (tgt := 12) hx hb dL_cell_3 (by decide) (fun q => absurd q (nI_ge hk hL31)) (fun q => ?_)
  refine lv_aload_n hx hb dL_cell_6 rfl (lv_at hl 0 rfl) ?_
  refine lv_iload_n hx hb dL_cell_7 rfl (lv_at hl 1 rfl) ?_
  refine va_sld hx hb hX hbl (fun q => q) hS (vp_in_nI hk hL31) dL_cell_8 ?_
  rw [nI_clamp (Nat.lt_trans hk hL31)]
  refine lv_goto (tgt := 20) hx hb dL_cell_9 (by decide) ?_
  exact W.iret (v := xs k) hx hb hr (fun t ht hW => ⟨rfl, ht⟩) hS.2.2 dL_cell_20

set_option maxHeartbeats 4000000 in
set_option maxRecDepth 100000 in
theorem c_L_low (l : Launch) (dC : Nat → ClassId) (dI : Nat → Nat → Nat) (cI cS cJ : ClassId) (tt : Nat → Nat) (x0 : Int32) (n : Nat) : Met l yL_low wsL_low ({ frames := 0, cells := 0, slots := 0, locals := 0 } : Room) (va_Pc [.int x0, .int (nI n)] (xm_R (dC, dI) cI cS cJ tt [] (0 < n ∧ n < 2 ^ 15))) (k2_QcV (.int (nI (lw_lo x0 n)))) 0 0 (fun _ => False) := by
  refine Met.ofW (cc := cL_low) (maxL := 2) (ret := (some .int)) (by decide) rfl ?_
  intro p e s m args below meth c s₁ B hml hv
  obtain ⟨rfl, hP, hE, hpre⟩ := hv
  have hx := B.exec
  have hb := B.bytes
  have hr := B.returns
  have hts := atoms_spec (ws := wsL_low) B.pre
  have hown : s.vm.findClass RL = some m.cls := findClass_of_methodNamed B.named
  have hlocks := B.notSynchronized
  have hK := hE.1
  have hS : va_S (fun _ => False) s.heap s.heap [] := va_S.rf
  have hP : va_P (dC, dI) vwCl [] s.heap := hP
  have hl := lv_entry [.int x0, .int (nI n)] (n := 2) (Nat.le_of_ble_eq_true rfl)
  rw [lg_entry_eq]
  generalize (lg_sl [.int x0, .int (nI n)] ++ List.replicate (2 - (lg_sl [.int x0, .int (nI n)]).length) Slot.unset).toArray = lz at hl ⊢
  have hl : lv_has lz 2 [(0, .int x0), (1, .int (nI n))] := hl
  refine lv_iload_n hx hb dL_low_0 rfl (lv_at hl 0 rfl) ?_
  refine lv_ldc (v := 2147483647) hx hb hown (hts (.constant RL 7 2147483647) (by decide +kernel)) dL_low_1 ?_
  refine lv_iand hx hb dL_low_3 ?_
  refine lv_iload_n hx hb dL_low_4 rfl (lv_at hl 1 rfl) ?_
  refine lv_irem hx hb dL_low_5 (fun h => nI_ne0 (n := n) hpre.1 (by omega) h) ?_
  exact W.iret (v := (x0 &&& 2147483647) - (x0 &&& 2147483647) / (nI n) * (nI n)) hx hb hr (fun t ht hW => ⟨congrArg (fun z => Outcome.returned (some (Value.int z))) (lw_lo_e x0 hpre.1 (by omega)), ht⟩) hS.2.2 dL_low_6

set_option maxHeartbeats 4000000 in
set_option maxRecDepth 100000 in
theorem c_L_ones (l : Launch) (dC : Nat → ClassId) (dI : Nat → Nat → Nat) (cI cS cJ : ClassId) (tt : Nat → Nat) (y : Nat) : Met l yL_ones wsL_ones ({ frames := 0, cells := 0, slots := 0, locals := 0 } : Room) (va_Pc [.int (nI y)] (xm_R (dC, dI) cI cS cJ tt [] (y < 4096))) (k2_QcV (.int (nI (lw_on y)))) 0 0 (fun _ => False) := by
  refine Met.ofW (cc := cL_ones) (maxL := 3) (ret := (some .int)) (by decide) rfl ?_
  intro p e s m args below meth c s₁ B hml hv
  obtain ⟨rfl, hP, hE, hpre⟩ := hv
  have hx := B.exec
  have hb := B.bytes
  have hr := B.returns
  have hts := atoms_spec (ws := wsL_ones) B.pre
  have hown : s.vm.findClass RL = some m.cls := findClass_of_methodNamed B.named
  have hlocks := B.notSynchronized
  have hK := hE.1
  have hS : va_S (fun _ => False) s.heap s.heap [] := va_S.rf
  have hP : va_P (dC, dI) vwCl [] s.heap := hP
  have hl := lv_entry [.int (nI y)] (n := 3) (Nat.le_of_ble_eq_true rfl)
  rw [lg_entry_eq]
  generalize (lg_sl [.int (nI y)] ++ List.replicate (3 - (lg_sl [.int (nI y)]).length) Slot.unset).toArray = lz at hl ⊢
  have hl : lv_has lz 3 [(0, .int (nI y))] := hl
  refine lv_iconst (v := 0) hx hb dL_ones_0 (by decide) ?_
  refine lv_istore_n (lv' := [(1, .int 0), (0, .int (nI y))]) hx hb dL_ones_1 rfl hl (by decide) rfl (fun lz hl => ?_)
  refine lv_iload_n hx hb dL_ones_2 rfl (lv_at hl 1 rfl) ?_
  refine lv_istore_n (lv' := [(2, .int (nI y)), (1, .int 0), (0, .int (nI y))]) hx hb dL_ones_3 rfl hl (by decide) rfl (fun lz hl => ?_)
  have L4 : ∀ (zz i : Nat), i ≤ 12 → 12 + 1 ≤ i + zz → (i + lw_pc (12 - i) (lw_it y i) = lw_on y) → ∀ (lz : Array Slot), lv_has lz 3 [(1, .int (nI i)), (2, .int (nI (lw_it y i)))] → W p l e (headSpec wsL_ones ({ frames := 0, cells := 0, slots := 0, locals := 0 } : Room)).room s m ([.int (nI y)] : List Value).toArray below meth c s.heap [] 0 0 (MQ below (k2_QcV (.int (nI (lw_on y)))) ([.int (nI y)] : List Value).toArray s 0 0 (fun _ => False)) (F0 m 4 lz []) := by
    intro zz
    induction zz with
    | zero => intro i hii hni; exact absurd hni (by omega)
    | succ zz ih4 =>
      intro i hii hni   hst lz hl
      refine lv_iload_n hx hb dL_ones_4 rfl (lv_at hl 1 rfl) ?_
      refine lv_if_eq (tgt := 20) hx hb dL_ones_5 (by decide) (fun q5 => ?_) (fun q5 => ?_)
      · have z0 : lw_it y i = 0 := (nI_eq (a := lw_it y i) (b := 0) (by have := lw_it_le y i; omega) (by decide)).mp q5
        refine lv_iload_n hx hb dL_ones_20 rfl (lv_at hl 0 rfl) ?_
        exact W.iret (v := nI i) hx hb hr (fun t ht hW => ⟨congrArg (fun z => Outcome.returned (some (Value.int z))) (congrArg nI (lw_en z0 hst)), ht⟩) hS.2.2 dL_ones_21
      · have z1 : ¬ lw_it y i = 0 := fun h => q5 (by rw [h]; rfl)
        have hlti := (lw_st hpre hii z1 hst).1
        refine lv_iinc (v := nI (i + 1)) (lv' := [(1, .int (nI (i + 1))), (2, .int (nI (lw_it y i)))]) hx hb dL_ones_8 hl (k := 0) rfl (nI_1 i) (by decide) rfl (fun lz hl => ?_)
        refine lv_iload_n hx hb dL_ones_11 rfl (lv_at hl 1 rfl) ?_
        refine lv_iload_n hx hb dL_ones_12 rfl (lv_at hl 1 rfl) ?_
        refine lv_iconst (v := 1) hx hb dL_ones_13 (by decide) ?_
        refine lv_isub hx hb dL_ones_14 ?_
        refine lv_iand hx hb dL_ones_15 ?_
        refine xm_topi (y := (nI (lw_it y (i + 1)))) (lw_dn_e z1) ?_
        refine lv_istore_n (lv' := [(2, .int (nI (lw_it y (i + 1)))), (1, .int (nI (i + 1)))]) hx hb dL_ones_16 rfl hl (by decide) rfl (fun lz hl => ?_)
        refine lv_goto (tgt := 4) hx hb dL_ones_17 (by decide) ?_
        exact ih4 (i + 1) hlti (by omega)   (lw_st hpre hii z1 hst).2 lz (lv_sub hl [1, 0] rfl)
  exact L4 (12 + 1) 0 (by omega) (by omega)   (Nat.zero_add _) lz (lv_sub hl [1, 0] rfl)

