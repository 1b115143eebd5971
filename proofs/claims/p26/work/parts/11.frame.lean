set_option maxHeartbeats 4000000 in
set_option maxRecDepth 100000 in
theorem c_X0_lightOf (l : Launch) (dC : Nat → ClassId) (dI : Nat → Nat → Nat) (cI cS cJ : ClassId) (tt : Nat → Nat) (g : Nat → Nat) (ls : Nat → Int32) (ln : Int32) (pe : Int32) (ne : Int32) (d : Nat) : Met l yX0_lightOf wsX0_lightOf ({ frames := 0, cells := 0, slots := 0, locals := 0 } : Room) (va_Pc [.ref (g 0), .int (nI d)] (xm_R (dC, dI) cI cS cJ tt [((g 0), .inr (0, [.ref (g 1), .ref (g 2), .ref (g 3), .ref (g 4), .ref (g 5), .ref (g 6), .ref (g 7), .int ln, .int pe, .int ne])), ((g 4), .inl (cI, 6, .inl ls))] (d < 6))) (k2_QcV (.int (fm_light ln (ls d)))) 0 0 (fun _ => False) := by
  refine Met.ofW (cc := cX0_lightOf) (maxL := 2) (ret := (some .int)) (by decide) rfl ?_
  intro p e s m args below meth c s₁ B hml hv
  obtain ⟨rfl, hP, hE, hpre⟩ := hv
  have hx := B.exec
  have hb := B.bytes
  have hr := B.returns
  have hts := atoms_spec (ws := wsX0_lightOf) B.pre
  have hown : s.vm.findClass RX0 = some m.cls := findClass_of_methodNamed B.named
  have hlocks := B.notSynchronized
  have hK := hE.1
  have hS : va_S (fun _ => False) s.heap s.heap [] := va_S.rf
  have hP : va_P (dC, dI) vwCl [((g 0), .inr (0, [.ref (g 1), .ref (g 2), .ref (g 3), .ref (g 4), .ref (g 5), .ref (g 6), .ref (g 7), .int ln, .int pe, .int ne])), ((g 4), .inl (cI, 6, .inl ls))] s.heap := hP
  have hin0 : ∀ w ∈ u_ws RX0 TX0 10, w ∈ wsX0_lightOf := by decide +kernel
  have hl := lv_entry [.ref (g 0), .int (nI d)] (n := 2) (Nat.le_of_ble_eq_true rfl)
  rw [lg_entry_eq]
  generalize (lg_sl [.ref (g 0), .int (nI d)] ++ List.replicate (2 - (lg_sl [.ref (g 0), .int (nI d)]).length) Slot.unset).toArray = lz at hl ⊢
  have hl : lv_has lz 2 [(0, .ref (g 0)), (1, .int (nI d))] := hl
  refine lv_aload_n hx hb dX0_lightOf_0 rfl (lv_at hl 0 rfl) ?_
  refine va_get (D := (dC, dI)) (ci := 0) (v := .int ln) (C := RX0) (T := TX0) (N := 10) hx hb hts hin0 hown hK hP 0 rfl rfl 7 (by decide) (hts (.fieldLink RX0 33 "TurnDigits$Frame" "length" "I") (by decide +kernel)) (fun _ h9 => h9) rfl dX0_lightOf_1 ?_
  refine lv_if_le (tgt := 25) hx hb dX0_lightOf_4 (by decide) (fun q4 => ?_) (fun q4 => ?_)
  · refine lv_iconst (v := 0) hx hb dX0_lightOf_25 (by decide) ?_
    exact W.iret (v := 0) hx hb hr (fun t ht hW => ⟨congrArg (fun z => Outcome.returned (some (Value.int z))) (by simp only [fm_light, if_pos q4]), ht⟩) hS.2.2 dX0_lightOf_26
  · refine lv_aload_n hx hb dX0_lightOf_7 rfl (lv_at hl 0 rfl) ?_
    refine va_get (D := (dC, dI)) (ci := 0) (v := .ref (g 4)) (C := RX0) (T := TX0) (N := 10) hx hb hts hin0 hown hK hP 0 rfl rfl 3 (by decide) (hts (.fieldLink RX0 21 "TurnDigits$Frame" "litSlots" "[I") (by decide +kernel)) (fun _ h9 => h9) rfl dX0_lightOf_8 ?_
    refine lv_iload_n hx hb dX0_lightOf_11 rfl (lv_at hl 1 rfl) ?_
    refine xm_iald (D := (dC, dI)) hx hb hK hP 1 0 d (v := ls d) rfl rfl (by decide) rfl (by omega) rfl dX0_lightOf_12 ?_
    refine lv_sipush (v := 1000) hx hb dX0_lightOf_13 (by decide) ?_
    refine lv_imul hx hb dX0_lightOf_16 ?_
    refine lv_aload_n hx hb dX0_lightOf_17 rfl (lv_at hl 0 rfl) ?_
    refine va_get (D := (dC, dI)) (ci := 0) (v := .int ln) (C := RX0) (T := TX0) (N := 10) hx hb hts hin0 hown hK hP 0 rfl rfl 7 (by decide) (hts (.fieldLink RX0 33 "TurnDigits$Frame" "length" "I") (by decide +kernel)) (fun _ h9 => h9) rfl dX0_lightOf_18 ?_
    refine lv_idiv hx hb dX0_lightOf_21 (fun h => q4 (by rw [h]; decide)) ?_
    refine lv_goto (tgt := 26) hx hb dX0_lightOf_22 (by decide) ?_
    exact W.iret (v := ((ls d) * 1000) / ln) hx hb hr (fun t ht hW => ⟨congrArg (fun z => Outcome.returned (some (Value.int z))) (by simp only [fm_light, if_neg q4]), ht⟩) hS.2.2 dX0_lightOf_26

set_option maxHeartbeats 4000000 in
set_option maxRecDepth 100000 in
theorem c_X0_flickers (l : Launch) (dC : Nat → ClassId) (dI : Nat → Nat → Nat) (cI cS cJ : ClassId) (tt : Nat → Nat) (g : Nat → Nat) (gp : Nat → Int32) (ls : Nat → Int32) (ln : Int32) (pe : Int32) (ne : Int32) (d : Nat) : Met l yX0_flickers wsX0_flickers ({ frames := 0, cells := 0, slots := 0, locals := 0 } : Room) (va_Pc [.ref (g 0), .int (nI d)] (xm_R (dC, dI) cI cS cJ tt [((g 0), .inr (0, [.ref (g 1), .ref (g 2), .ref (g 3), .ref (g 4), .ref (g 5), .ref (g 6), .ref (g 7), .int ln, .int pe, .int ne])), ((g 3), .inl (cI, 6, .inl gp)), ((g 4), .inl (cI, 6, .inl ls))] (d < 6))) (k2_QcV (.int (fm_flk (ls d) (gp d) pe))) 0 0 (fun _ => False) := by
  refine Met.ofW (cc := cX0_flickers) (maxL := 2) (ret := (some .boolean)) (by decide) rfl ?_
  intro p e s m args below meth c s₁ B hml hv
  obtain ⟨rfl, hP, hE, hpre⟩ := hv
  have hx := B.exec
  have hb := B.bytes
  have hr := B.returns
  have hts := atoms_spec (ws := wsX0_flickers) B.pre
  have hown : s.vm.findClass RX0 = some m.cls := findClass_of_methodNamed B.named
  have hlocks := B.notSynchronized
  have hK := hE.1
  have hS : va_S (fun _ => False) s.heap s.heap [] := va_S.rf
  have hP : va_P (dC, dI) vwCl [((g 0), .inr (0, [.ref (g 1), .ref (g 2), .ref (g 3), .ref (g 4), .ref (g 5), .ref (g 6), .ref (g 7), .int ln, .int pe, .int ne])), ((g 3), .inl (cI, 6, .inl gp)), ((g 4), .inl (cI, 6, .inl ls))] s.heap := hP
  have hin0 : ∀ w ∈ u_ws RX0 TX0 10, w ∈ wsX0_flickers := by decide +kernel
  have hl := lv_entry [.ref (g 0), .int (nI d)] (n := 2) (Nat.le_of_ble_eq_true rfl)
  rw [lg_entry_eq]
  generalize (lg_sl [.ref (g 0), .int (nI d)] ++ List.replicate (2 - (lg_sl [.ref (g 0), .int (nI d)]).length) Slot.unset).toArray = lz at hl ⊢
  have hl : lv_has lz 2 [(0, .ref (g 0)), (1, .int (nI d))] := hl
  refine lv_aload_n hx hb dX0_flickers_0 rfl (lv_at hl 0 rfl) ?_
  refine va_get (D := (dC, dI)) (ci := 0) (v := .ref (g 4)) (C := RX0) (T := TX0) (N := 10) hx hb hts hin0 hown hK hP 0 rfl rfl 3 (by decide) (hts (.fieldLink RX0 21 "TurnDigits$Frame" "litSlots" "[I") (by decide +kernel)) (fun _ h9 => h9) rfl dX0_flickers_1 ?_
  refine lv_iload_n hx hb dX0_flickers_4 rfl (lv_at hl 1 rfl) ?_
  refine xm_iald (D := (dC, dI)) hx hb hK hP 2 0 d (v := ls d) rfl rfl (by decide) rfl (by omega) rfl dX0_flickers_5 ?_
  refine lv_if_le (tgt := 26) hx hb dX0_flickers_6 (by decide) (fun q6 => ?_) (fun q6 => ?_)
  · refine lv_iconst (v := 0) hx hb dX0_flickers_26 (by decide) ?_
    exact W.zret (v := 0) hx hb hr rfl (fun t ht hW => ⟨congrArg (fun z => Outcome.returned (some (Value.int z))) (by simp only [fm_flk, if_pos q6]), ht⟩) hS.2.2 dX0_flickers_27
  · refine lv_aload_n hx hb dX0_flickers_9 rfl (lv_at hl 0 rfl) ?_
    refine va_get (D := (dC, dI)) (ci := 0) (v := .ref (g 3)) (C := RX0) (T := TX0) (N := 10) hx hb hts hin0 hown hK hP 0 rfl rfl 2 (by decide) (hts (.fieldLink RX0 18 "TurnDigits$Frame" "gaps" "[I") (by decide +kernel)) (fun _ h9 => h9) rfl dX0_flickers_10 ?_
    refine lv_iload_n hx hb dX0_flickers_13 rfl (lv_at hl 1 rfl) ?_
    refine xm_iald (D := (dC, dI)) hx hb hK hP 1 0 d (v := gp d) rfl rfl (by decide) rfl (by omega) rfl dX0_flickers_14 ?_
    refine lv_aload_n hx hb dX0_flickers_15 rfl (lv_at hl 0 rfl) ?_
    refine va_get (D := (dC, dI)) (ci := 0) (v := .int pe) (C := RX0) (T := TX0) (N := 10) hx hb hts hin0 hown hK hP 0 rfl rfl 8 (by decide) (hts (.fieldLink RX0 37 "TurnDigits$Frame" "persistence" "I") (by decide +kernel)) (fun _ h9 => h9) rfl dX0_flickers_16 ?_
    refine lv_icmp_le (tgt := 26) hx hb dX0_flickers_19 (by decide) (fun q19 => ?_) (fun q19 => ?_)
    · refine lv_iconst (v := 0) hx hb dX0_flickers_26 (by decide) ?_
      exact W.zret (v := 0) hx hb hr rfl (fun t ht hW => ⟨congrArg (fun z => Outcome.returned (some (Value.int z))) (by simp only [fm_flk, if_neg q6, if_pos q19]), ht⟩) hS.2.2 dX0_flickers_27
    · refine lv_iconst (v := 1) hx hb dX0_flickers_22 (by decide) ?_
      refine lv_goto (tgt := 27) hx hb dX0_flickers_23 (by decide) ?_
      exact W.zret (v := 1) hx hb hr rfl (fun t ht hW => ⟨congrArg (fun z => Outcome.returned (some (Value.int z))) (by simp only [fm_flk, if_neg q6, if_neg q19]), ht⟩) hS.2.2 dX0_flickers_27

set_option maxHeartbeats 4000000 in
set_option maxRecDepth 100000 in
theorem c_X0_isSeen (l : Launch) (dC : Nat → ClassId) (dI : Nat → Nat → Nat) (cI cS cJ : ClassId) (tt : Nat → Nat) (g : Nat → Nat) (gp : Nat → Int32) (ls : Nat → Int32) (ln : Int32) (pe : Int32) (ne : Int32) (d : Nat) : Met l yX0_isSeen wsX0_isSeen ({ frames := 1, cells := 0, slots := 0, locals := 21 } : Room) (va_Pc [.ref (g 0), .int (nI d)] (xm_R (dC, dI) cI cS cJ tt [((g 0), .inr (0, [.ref (g 1), .ref (g 2), .ref (g 3), .ref (g 4), .ref (g 5), .ref (g 6), .ref (g 7), .int ln, .int pe, .int ne])), ((g 3), .inl (cI, 6, .inl gp)), ((g 4), .inl (cI, 6, .inl ls))] (d < 6))) (k2_QcV (.int (fm_see (fm_light ln (ls d)) ne (fm_flk (ls d) (gp d) pe)))) 0 0 (fun _ => False) := by
  refine Met.ofW (cc := cX0_isSeen) (maxL := 3) (ret := (some .boolean)) (by decide) rfl ?_
  intro p e s m args below meth c s₁ B hml hv
  obtain ⟨rfl, hP, hE, hpre⟩ := hv
  have hx := B.exec
  have hb := B.bytes
  have hr := B.returns
  have hts := atoms_spec (ws := wsX0_isSeen) B.pre
  have hown : s.vm.findClass RX0 = some m.cls := findClass_of_methodNamed B.named
  have hlocks := B.notSynchronized
  have hK := hE.1
  have hS : va_S (fun _ => False) s.heap s.heap [] := va_S.rf
  have hP : va_P (dC, dI) vwCl [((g 0), .inr (0, [.ref (g 1), .ref (g 2), .ref (g 3), .ref (g 4), .ref (g 5), .ref (g 6), .ref (g 7), .int ln, .int pe, .int ne])), ((g 3), .inl (cI, 6, .inl gp)), ((g 4), .inl (cI, 6, .inl ls))] s.heap := hP
  have hin0 : ∀ w ∈ u_ws RX0 TX0 10, w ∈ wsX0_isSeen := by decide +kernel
  have hl := lv_entry [.ref (g 0), .int (nI d)] (n := 3) (Nat.le_of_ble_eq_true rfl)
  rw [lg_entry_eq]
  generalize (lg_sl [.ref (g 0), .int (nI d)] ++ List.replicate (3 - (lg_sl [.ref (g 0), .int (nI d)]).length) Slot.unset).toArray = lz at hl ⊢
  have hl : lv_has lz 3 [(0, .ref (g 0)), (1, .int (nI d))] := hl
  refine lv_aload_n hx hb dX0_isSeen_0 rfl (lv_at hl 0 rfl) ?_
  refine lv_iload_n hx hb dX0_isSeen_1 rfl (lv_at hl 1 rfl) ?_
  have hPc := hP.sub (ws' := [((g 0), .inr (0, [.ref (g 1), .ref (g 2), .ref (g 3), .ref (g 4), .ref (g 5), .ref (g 6), .ref (g 7), .int ln, .int pe, .int ne])), ((g 4), .inl (cI, 6, .inl ls))]) [0, 2] rfl
  refine W.callV ((va_runV (As := [.int (nI d)]) (rest := []) ⟨hx, hb, hml, hown, hts⟩ (c_X0_lightOf l dC dI cI cS cJ tt g ls ln pe ne d) (cwV 1 hts gX0_isSeen_X0_lightOf rfl rfl rfl (by decide +kernel) ⟨Nat.le_of_ble_eq_true rfl, Nat.le_of_ble_eq_true rfl⟩) ⟨xm_Rblind, va_recv hK hPc (ci := 0) (q0 := 0) rfl rfl, fun U hU hW => ⟨rfl, by rw [hU]; exact hPc, hE.go hS (fun _ q => q.elim) hU hW, hpre⟩⟩ rfl rfl hl.1 rfl (lv_room (Nat.le_of_ble_eq_true rfl)) dX0_isSeen_2 ⟨Nat.zero_le _, Nat.zero_le _⟩).run) ?_
  refine W.eq (g2 := F0 m 5 lz (.int (fm_light ln (ls d)) :: [])) rfl ?_
  refine lv_istore_n (lv' := [(2, .int (fm_light ln (ls d))), (0, .ref (g 0)), (1, .int (nI d))]) hx hb dX0_isSeen_5 rfl hl (by decide) rfl (fun lz hl => ?_)
  refine lv_iload_n hx hb dX0_isSeen_6 rfl (lv_at hl 0 rfl) ?_
  refine lv_if_le (tgt := 30) hx hb dX0_isSeen_7 (by decide) (fun q7 => ?_) (fun q7 => ?_)
  · refine lv_iconst (v := 0) hx hb dX0_isSeen_30 (by decide) ?_
    exact W.zret (v := 0) hx hb hr rfl (fun t ht hW => ⟨congrArg (fun z => Outcome.returned (some (Value.int z))) (by simp only [fm_see, if_pos q7]), ht⟩) hS.2.2 dX0_isSeen_31
  · refine lv_iload_n hx hb dX0_isSeen_10 rfl (lv_at hl 0 rfl) ?_
    refine lv_aload_n hx hb dX0_isSeen_11 rfl (lv_at hl 1 rfl) ?_
    refine va_get (D := (dC, dI)) (ci := 0) (v := .int ne) (C := RX0) (T := TX0) (N := 10) hx hb hts hin0 hown hK hP 0 rfl rfl 9 (by decide) (hts (.fieldLink RX0 40 "TurnDigits$Frame" "neededLight" "I") (by decide +kernel)) (fun _ h9 => h9) rfl dX0_isSeen_12 ?_
    refine lv_icmp_lt (tgt := 30) hx hb dX0_isSeen_15 (by decide) (fun q15 => ?_) (fun q15 => ?_)
    · refine lv_iconst (v := 0) hx hb dX0_isSeen_30 (by decide) ?_
      exact W.zret (v := 0) hx hb hr rfl (fun t ht hW => ⟨congrArg (fun z => Outcome.returned (some (Value.int z))) (by simp only [fm_see, if_neg q7, if_pos q15]), ht⟩) hS.2.2 dX0_isSeen_31
    · refine lv_aload_n hx hb dX0_isSeen_18 rfl (lv_at hl 1 rfl) ?_
      refine lv_iload_n hx hb dX0_isSeen_19 rfl (lv_at hl 2 rfl) ?_
      have hPc := hP.sub (ws' := [((g 0), .inr (0, [.ref (g 1), .ref (g 2), .ref (g 3), .ref (g 4), .ref (g 5), .ref (g 6), .ref (g 7), .int ln, .int pe, .int ne])), ((g 3), .inl (cI, 6, .inl gp)), ((g 4), .inl (cI, 6, .inl ls))]) [0, 1, 2] rfl
      refine W.callV ((va_runV (As := [.int (nI d)]) (rest := []) ⟨hx, hb, hml, hown, hts⟩ (c_X0_flickers l dC dI cI cS cJ tt g gp ls ln pe ne d) (cwV 1 hts gX0_isSeen_X0_flickers rfl rfl rfl (by decide +kernel) ⟨Nat.le_of_ble_eq_true rfl, Nat.le_of_ble_eq_true rfl⟩) ⟨xm_Rblind, va_recv hK hPc (ci := 0) (q0 := 0) rfl rfl, fun U hU hW => ⟨rfl, by rw [hU]; exact hPc, hE.go hS (fun _ q => q.elim) hU hW, hpre⟩⟩ rfl rfl hl.1 rfl (lv_room (Nat.le_of_ble_eq_true rfl)) dX0_isSeen_20 ⟨Nat.zero_le _, Nat.zero_le _⟩).run) ?_
      refine W.eq (g2 := F0 m 23 lz (.int (fm_flk (ls d) (gp d) pe) :: [])) rfl ?_
      refine lv_if_ne (tgt := 30) hx hb dX0_isSeen_23 (by decide) (fun q23 => ?_) (fun q23 => ?_)
      · refine lv_iconst (v := 0) hx hb dX0_isSeen_30 (by decide) ?_
        exact W.zret (v := 0) hx hb hr rfl (fun t ht hW => ⟨congrArg (fun z => Outcome.returned (some (Value.int z))) (by simp only [fm_see, if_neg q7, if_neg q15, if_neg q23]), ht⟩) hS.2.2 dX0_isSeen_31
      · refine lv_iconst (v := 1) hx hb dX0_isSeen_26 (by decide) ?_
        refine lv_goto (tgt := 31) hx hb dX0_isSeen_27 (by decide) ?_
        exact W.zret (v := 1) hx hb hr rfl (fun t ht hW => ⟨congrArg (fun z => Outcome.returned (some (Value.int z))) (by simp only [fm_see, if_neg q7, if_neg q15, if_pos q23]), ht⟩) hS.2.2 dX0_isSeen_31

set_option maxHeartbeats 4000000 in
set_option maxRecDepth 100000 in
theorem c_X0_flickering (l : Launch) (dC : Nat → ClassId) (dI : Nat → Nat → Nat) (cI cS cJ : ClassId) (tt : Nat → Nat) (g : Nat → Nat) (gp : Nat → Int32) (ls : Nat → Int32) (ln : Int32) (pe : Int32) (ne : Int32) : Met l yX0_flickering wsX0_flickering ({ frames := 1, cells := 0, slots := 0, locals := 21 } : Room) (va_Pc [.ref (g 0)] (xm_R (dC, dI) cI cS cJ tt [((g 0), .inr (0, [.ref (g 1), .ref (g 2), .ref (g 3), .ref (g 4), .ref (g 5), .ref (g 6), .ref (g 7), .int ln, .int pe, .int ne])), ((g 3), .inl (cI, 6, .inl gp)), ((g 4), .inl (cI, 6, .inl ls))] (True))) (k2_QcV (.int (fm_cntF (fun j => fm_flk (ls j) (gp j) pe) (fun _ => 0) 6))) 0 0 (fun _ => False) := by
  refine Met.ofW (cc := cX0_flickering) (maxL := 3) (ret := (some .int)) (by decide) rfl ?_
  intro p e s m args below meth c s₁ B hml hv
  obtain ⟨rfl, hP, hE, hpre⟩ := hv
  have hx := B.exec
  have hb := B.bytes
  have hr := B.returns
  have hts := atoms_spec (ws := wsX0_flickering) B.pre
  have hown : s.vm.findClass RX0 = some m.cls := findClass_of_methodNamed B.named
  have hlocks := B.notSynchronized
  have hK := hE.1
  have hS : va_S (fun _ => False) s.heap s.heap [] := va_S.rf
  have hP : va_P (dC, dI) vwCl [((g 0), .inr (0, [.ref (g 1), .ref (g 2), .ref (g 3), .ref (g 4), .ref (g 5), .ref (g 6), .ref (g 7), .int ln, .int pe, .int ne])), ((g 3), .inl (cI, 6, .inl gp)), ((g 4), .inl (cI, 6, .inl ls))] s.heap := hP
  have hl := lv_entry [.ref (g 0)] (n := 3) (Nat.le_of_ble_eq_true rfl)
  rw [lg_entry_eq]
  generalize (lg_sl [.ref (g 0)] ++ List.replicate (3 - (lg_sl [.ref (g 0)]).length) Slot.unset).toArray = lz at hl ⊢
  have hl : lv_has lz 3 [(0, .ref (g 0))] := hl
  refine lv_iconst (v := 0) hx hb dX0_flickering_0 (by decide) ?_
  refine lv_istore_n (lv' := [(1, .int 0), (0, .ref (g 0))]) hx hb dX0_flickering_1 rfl hl (by decide) rfl (fun lz hl => ?_)
  refine lv_iconst (v := 0) hx hb dX0_flickering_2 (by decide) ?_
  refine lv_istore_n (lv' := [(2, .int 0), (1, .int 0), (0, .ref (g 0))]) hx hb dX0_flickering_3 rfl hl (by decide) rfl (fun lz hl => ?_)
  have L4 : ∀ (zz i : Nat), i ≤ 6 → 6 + 1 ≤ i + zz → ∀ (x1 : Int32), x1 = fm_cntF (fun j => fm_flk (ls j) (gp j) pe) (fun _ => 0) i → ∀ (lz : Array Slot), lv_has lz 3 [(0, .ref (g 0)), (1, .int x1), (2, .int (nI i))] → W p l e (headSpec wsX0_flickering ({ frames := 1, cells := 0, slots := 0, locals := 21 } : Room)).room s m ([.ref (g 0)] : List Value).toArray below meth c s.heap [] 0 0 (MQ below (k2_QcV (.int (fm_cntF (fun j => fm_flk (ls j) (gp j) pe) (fun _ => 0) 6))) ([.ref (g 0)] : List Value).toArray s 0 0 (fun _ => False)) (F0 m 4 lz []) := by
    intro zz
    induction zz with
    | zero => intro i hii hni; exact absurd hni (by omega)
    | succ zz ih4 =>
      intro i hii hni x1 e_x1  lz hl
      subst e_x1
      refine lv_iload_n hx hb dX0_flickering_4 rfl (lv_at hl 2 rfl) ?_
      refine lv_bipush (v := 6) hx hb dX0_flickering_5 (by decide) ?_
      refine lv_icmp_ge (tgt := 27) hx hb dX0_flickering_7 (by decide) (fun q7 => ?_) (fun q7 => ?_)
      · have hNi : 6 = i := (xm_end (N := 6) hii (by decide) q7).symm
        subst hNi
        refine lv_iload_n hx hb dX0_flickering_27 rfl (lv_at hl 1 rfl) ?_
        exact W.iret (v := (fm_cntF (fun j => fm_flk (ls j) (gp j) pe) (fun _ => 0) 6)) hx hb hr (fun t ht hW => ⟨congrArg (fun z => Outcome.returned (some (Value.int z))) (by simp), ht⟩) hS.2.2 dX0_flickering_28
      · have hlti : i < 6 := xm_lt (N := 6) hii (by decide) q7
        refine lv_aload_n hx hb dX0_flickering_10 rfl (lv_at hl 0 rfl) ?_
        refine lv_iload_n hx hb dX0_flickering_11 rfl (lv_at hl 2 rfl) ?_
        have hPc := hP.sub (ws' := [((g 0), .inr (0, [.ref (g 1), .ref (g 2), .ref (g 3), .ref (g 4), .ref (g 5), .ref (g 6), .ref (g 7), .int ln, .int pe, .int ne])), ((g 3), .inl (cI, 6, .inl gp)), ((g 4), .inl (cI, 6, .inl ls))]) [0, 1, 2] rfl
        refine W.callV ((va_runV (As := [.int (nI i)]) (rest := []) ⟨hx, hb, hml, hown, hts⟩ (c_X0_flickers l dC dI cI cS cJ tt g gp ls ln pe ne i) (cwV 1 hts gX0_flickering_X0_flickers rfl rfl rfl (by decide +kernel) ⟨Nat.le_of_ble_eq_true rfl, Nat.le_of_ble_eq_true rfl⟩) ⟨xm_Rblind, va_recv hK hPc (ci := 0) (q0 := 0) rfl rfl, fun U hU hW => ⟨rfl, by rw [hU]; exact hPc, hE.go hS (fun _ q => q.elim) hU hW, hlti⟩⟩ rfl rfl hl.1 rfl (lv_room (Nat.le_of_ble_eq_true rfl)) dX0_flickering_12 ⟨Nat.zero_le _, Nat.zero_le _⟩).run) ?_
        refine W.eq (g2 := F0 m 15 lz (.int (fm_flk (ls i) (gp i) pe) :: [])) rfl ?_
        refine lv_if_eq (tgt := 21) hx hb dX0_flickering_15 (by decide) (fun q15 => ?_) (fun q15 => ?_)
        · refine lv_iinc (v := nI (i + 1)) (lv' := [(2, .int (nI (i + 1))), (0, .ref (g 0)), (1, .int (fm_cntF (fun j => fm_flk (ls j) (gp j) pe) (fun _ => 0) i))]) hx hb dX0_flickering_21 hl (k := 2) rfl (nI_1 i) (by decide) rfl (fun lz hl => ?_)
          refine lv_goto (tgt := 4) hx hb dX0_flickering_24 (by decide) ?_
          exact ih4 (i + 1) hlti (by omega) (fm_cntF (fun j => fm_flk (ls j) (gp j) pe) (fun _ => 0) i) (by simp only [fm_cntF, if_neg q7, if_pos q15])  lz (lv_sub hl [1, 2, 0] rfl)
        · refine lv_iinc (v := ((fm_cntF (fun j => fm_flk (ls j) (gp j) pe) (fun _ => 0) i) + 1)) (lv' := [(1, .int ((fm_cntF (fun j => fm_flk (ls j) (gp j) pe) (fun _ => 0) i) + 1)), (0, .ref (g 0)), (2, .int (nI i))]) hx hb dX0_flickering_18 hl (k := 1) rfl rfl (by decide) rfl (fun lz hl => ?_)
          refine lv_iinc (v := nI (i + 1)) (lv' := [(2, .int (nI (i + 1))), (1, .int ((fm_cntF (fun j => fm_flk (ls j) (gp j) pe) (fun _ => 0) i) + 1)), (0, .ref (g 0))]) hx hb dX0_flickering_21 hl (k := 2) rfl (nI_1 i) (by decide) rfl (fun lz hl => ?_)
          refine lv_goto (tgt := 4) hx hb dX0_flickering_24 (by decide) ?_
          exact ih4 (i + 1) hlti (by omega) ((fm_cntF (fun j => fm_flk (ls j) (gp j) pe) (fun _ => 0) i) + 1) (by simp only [fm_cntF, if_neg q7, if_neg q15])  lz (lv_sub hl [2, 1, 0] rfl)
  exact L4 (6 + 1) 0 (by omega) (by omega) 0 rfl  lz (lv_sub hl [2, 1, 0] rfl)

set_option maxHeartbeats 4000000 in
set_option maxRecDepth 100000 in
theorem c_X0_seen (l : Launch) (dC : Nat → ClassId) (dI : Nat → Nat → Nat) (cI cS cJ : ClassId) (tt : Nat → Nat) (g : Nat → Nat) (gp : Nat → Int32) (ls : Nat → Int32) (ln : Int32) (pe : Int32) (ne : Int32) : Met l yX0_seen wsX0_seen ({ frames := 2, cells := 0, slots := 0, locals := 43 } : Room) (va_Pc [.ref (g 0)] (xm_R (dC, dI) cI cS cJ tt [((g 0), .inr (0, [.ref (g 1), .ref (g 2), .ref (g 3), .ref (g 4), .ref (g 5), .ref (g 6), .ref (g 7), .int ln, .int pe, .int ne])), ((g 3), .inl (cI, 6, .inl gp)), ((g 4), .inl (cI, 6, .inl ls))] (True))) (k2_QcV (.int (fm_cntF (fun j => fm_see (fm_light ln (ls j)) ne (fm_flk (ls j) (gp j) pe)) (fun _ => 0) 6))) 0 0 (fun _ => False) := by
  refine Met.ofW (cc := cX0_seen) (maxL := 3) (ret := (some .int)) (by decide) rfl ?_
  intro p e s m args below meth c s₁ B hml hv
  obtain ⟨rfl, hP, hE, hpre⟩ := hv
  have hx := B.exec
  have hb := B.bytes
  have hr := B.returns
  have hts := atoms_spec (ws := wsX0_seen) B.pre
  have hown : s.vm.findClass RX0 = some m.cls := findClass_of_methodNamed B.named
  have hlocks := B.notSynchronized
  have hK := hE.1
  have hS : va_S (fun _ => False) s.heap s.heap [] := va_S.rf
  have hP : va_P (dC, dI) vwCl [((g 0), .inr (0, [.ref (g 1), .ref (g 2), .ref (g 3), .ref (g 4), .ref (g 5), .ref (g 6), .ref (g 7), .int ln, .int pe, .int ne])), ((g 3), .inl (cI, 6, .inl gp)), ((g 4), .inl (cI, 6, .inl ls))] s.heap := hP
  have hl := lv_entry [.ref (g 0)] (n := 3) (Nat.le_of_ble_eq_true rfl)
  rw [lg_entry_eq]
  generalize (lg_sl [.ref (g 0)] ++ List.replicate (3 - (lg_sl [.ref (g 0)]).length) Slot.unset).toArray = lz at hl ⊢
  have hl : lv_has lz 3 [(0, .ref (g 0))] := hl
  refine lv_iconst (v := 0) hx hb dX0_seen_0 (by decide) ?_
  refine lv_istore_n (lv' := [(1, .int 0), (0, .ref (g 0))]) hx hb dX0_seen_1 rfl hl (by decide) rfl (fun lz hl => ?_)
  refine lv_iconst (v := 0) hx hb dX0_seen_2 (by decide) ?_
  refine lv_istore_n (lv' := [(2, .int 0), (1, .int 0), (0, .ref (g 0))]) hx hb dX0_seen_3 rfl hl (by decide) rfl (fun lz hl => ?_)
  have L4 : ∀ (zz i : Nat), i ≤ 6 → 6 + 1 ≤ i + zz → ∀ (x1 : Int32), x1 = fm_cntF (fun j => fm_see (fm_light ln (ls j)) ne (fm_flk (ls j) (gp j) pe)) (fun _ => 0) i → ∀ (lz : Array Slot), lv_has lz 3 [(0, .ref (g 0)), (1, .int x1), (2, .int (nI i))] → W p l e (headSpec wsX0_seen ({ frames := 2, cells := 0, slots := 0, locals := 43 } : Room)).room s m ([.ref (g 0)] : List Value).toArray below meth c s.heap [] 0 0 (MQ below (k2_QcV (.int (fm_cntF (fun j => fm_see (fm_light ln (ls j)) ne (fm_flk (ls j) (gp j) pe)) (fun _ => 0) 6))) ([.ref (g 0)] : List Value).toArray s 0 0 (fun _ => False)) (F0 m 4 lz []) := by
    intro zz
    induction zz with
    | zero => intro i hii hni; exact absurd hni (by omega)
    | succ zz ih4 =>
      intro i hii hni x1 e_x1  lz hl
      subst e_x1
      refine lv_iload_n hx hb dX0_seen_4 rfl (lv_at hl 2 rfl) ?_
      refine lv_bipush (v := 6) hx hb dX0_seen_5 (by decide) ?_
      refine lv_icmp_ge (tgt := 27) hx hb dX0_seen_7 (by decide) (fun q7 => ?_) (fun q7 => ?_)
      · have hNi : 6 = i := (xm_end (N := 6) hii (by decide) q7).symm
        subst hNi
        refine lv_iload_n hx hb dX0_seen_27 rfl (lv_at hl 1 rfl) ?_
        exact W.iret (v := (fm_cntF (fun j => fm_see (fm_light ln (ls j)) ne (fm_flk (ls j) (gp j) pe)) (fun _ => 0) 6)) hx hb hr (fun t ht hW => ⟨congrArg (fun z => Outcome.returned (some (Value.int z))) (by simp), ht⟩) hS.2.2 dX0_seen_28
      · have hlti : i < 6 := xm_lt (N := 6) hii (by decide) q7
        refine lv_aload_n hx hb dX0_seen_10 rfl (lv_at hl 0 rfl) ?_
        refine lv_iload_n hx hb dX0_seen_11 rfl (lv_at hl 2 rfl) ?_
        have hPc := hP.sub (ws' := [((g 0), .inr (0, [.ref (g 1), .ref (g 2), .ref (g 3), .ref (g 4), .ref (g 5), .ref (g 6), .ref (g 7), .int ln, .int pe, .int ne])), ((g 3), .inl (cI, 6, .inl gp)), ((g 4), .inl (cI, 6, .inl ls))]) [0, 1, 2] rfl
        refine W.callV ((va_runV (As := [.int (nI i)]) (rest := []) ⟨hx, hb, hml, hown, hts⟩ (c_X0_isSeen l dC dI cI cS cJ tt g gp ls ln pe ne i) (cwV 1 hts gX0_seen_X0_isSeen rfl rfl rfl (by decide +kernel) ⟨Nat.le_of_ble_eq_true rfl, Nat.le_of_ble_eq_true rfl⟩) ⟨xm_Rblind, va_recv hK hPc (ci := 0) (q0 := 0) rfl rfl, fun U hU hW => ⟨rfl, by rw [hU]; exact hPc, hE.go hS (fun _ q => q.elim) hU hW, hlti⟩⟩ rfl rfl hl.1 rfl (lv_room (Nat.le_of_ble_eq_true rfl)) dX0_seen_12 ⟨Nat.zero_le _, Nat.zero_le _⟩).run) ?_
        refine W.eq (g2 := F0 m 15 lz (.int (fm_see (fm_light ln (ls i)) ne (fm_flk (ls i) (gp i) pe)) :: [])) rfl ?_
        refine lv_if_eq (tgt := 21) hx hb dX0_seen_15 (by decide) (fun q15 => ?_) (fun q15 => ?_)
        · refine lv_iinc (v := nI (i + 1)) (lv' := [(2, .int (nI (i + 1))), (0, .ref (g 0)), (1, .int (fm_cntF (fun j => fm_see (fm_light ln (ls j)) ne (fm_flk (ls j) (gp j) pe)) (fun _ => 0) i))]) hx hb dX0_seen_21 hl (k := 2) rfl (nI_1 i) (by decide) rfl (fun lz hl => ?_)
          refine lv_goto (tgt := 4) hx hb dX0_seen_24 (by decide) ?_
          exact ih4 (i + 1) hlti (by omega) (fm_cntF (fun j => fm_see (fm_light ln (ls j)) ne (fm_flk (ls j) (gp j) pe)) (fun _ => 0) i) (by simp only [fm_cntF, if_neg q7, if_pos q15])  lz (lv_sub hl [1, 2, 0] rfl)
        · refine lv_iinc (v := ((fm_cntF (fun j => fm_see (fm_light ln (ls j)) ne (fm_flk (ls j) (gp j) pe)) (fun _ => 0) i) + 1)) (lv' := [(1, .int ((fm_cntF (fun j => fm_see (fm_light ln (ls j)) ne (fm_flk (ls j) (gp j) pe)) (fun _ => 0) i) + 1)), (0, .ref (g 0)), (2, .int (nI i))]) hx hb dX0_seen_18 hl (k := 1) rfl rfl (by decide) rfl (fun lz hl => ?_)
          refine lv_iinc (v := nI (i + 1)) (lv' := [(2, .int (nI (i + 1))), (1, .int ((fm_cntF (fun j => fm_see (fm_light ln (ls j)) ne (fm_flk (ls j) (gp j) pe)) (fun _ => 0) i) + 1)), (0, .ref (g 0))]) hx hb dX0_seen_21 hl (k := 2) rfl (nI_1 i) (by decide) rfl (fun lz hl => ?_)
          refine lv_goto (tgt := 4) hx hb dX0_seen_24 (by decide) ?_
          exact ih4 (i + 1) hlti (by omega) ((fm_cntF (fun j => fm_see (fm_light ln (ls j)) ne (fm_flk (ls j) (gp j) pe)) (fun _ => 0) i) + 1) (by simp only [fm_cntF, if_neg q7, if_neg q15])  lz (lv_sub hl [2, 1, 0] rfl)
  exact L4 (6 + 1) 0 (by omega) (by omega) 0 rfl  lz (lv_sub hl [2, 1, 0] rfl)

set_option maxHeartbeats 4000000 in
set_option maxRecDepth 100000 in
theorem c_X0_darkSlots (l : Launch) (dC : Nat → ClassId) (dI : Nat → Nat → Nat) (cI cS cJ : ClassId) (tt : Nat → Nat) (g : Nat → Nat) (li : Nat → Int32) (ln : Int32) (pe : Int32) (ne : Int32) (n : Nat) : Met l yX0_darkSlots wsX0_darkSlots ({ frames := 0, cells := 0, slots := 0, locals := 0 } : Room) (va_Pc [.ref (g 0)] (xm_R (dC, dI) cI cS cJ tt [((g 0), .inr (0, [.ref (g 1), .ref (g 2), .ref (g 3), .ref (g 4), .ref (g 5), .ref (g 6), .ref (g 7), .int ln, .int pe, .int ne])), ((g 2), .inl (cI, 96, .inl li))] (ln = nI n ∧ n ≤ 96))) (k2_QcV (.int (fm_cntT li (fun _ => -1) n))) 0 0 (fun _ => False) := by
  refine Met.ofW (cc := cX0_darkSlots) (maxL := 3) (ret := (some .int)) (by decide) rfl ?_
  intro p e s m args below meth c s₁ B hml hv
  obtain ⟨rfl, hP, hE, hpre⟩ := hv
  have hx := B.exec
  have hb := B.bytes
  have hr := B.returns
  have hts := atoms_spec (ws := wsX0_darkSlots) B.pre
  have hown : s.vm.findClass RX0 = some m.cls := findClass_of_methodNamed B.named
  have hlocks := B.notSynchronized
  have hK := hE.1
  have hS : va_S (fun _ => False) s.heap s.heap [] := va_S.rf
  have hP : va_P (dC, dI) vwCl [((g 0), .inr (0, [.ref (g 1), .ref (g 2), .ref (g 3), .ref (g 4), .ref (g 5), .ref (g 6), .ref (g 7), .int ln, .int pe, .int ne])), ((g 2), .inl (cI, 96, .inl li))] s.heap := hP
  have hin0 : ∀ w ∈ u_ws RX0 TX0 10, w ∈ wsX0_darkSlots := by decide +kernel
  have hl := lv_entry [.ref (g 0)] (n := 3) (Nat.le_of_ble_eq_true rfl)
  rw [lg_entry_eq]
  generalize (lg_sl [.ref (g 0)] ++ List.replicate (3 - (lg_sl [.ref (g 0)]).length) Slot.unset).toArray = lz at hl ⊢
  have hl : lv_has lz 3 [(0, .ref (g 0))] := hl
  obtain ⟨hn0, hn96⟩ := hpre
  refine lv_iconst (v := 0) hx hb dX0_darkSlots_0 (by decide) ?_
  refine lv_istore_n (lv' := [(1, .int 0), (0, .ref (g 0))]) hx hb dX0_darkSlots_1 rfl hl (by decide) rfl (fun lz hl => ?_)
  refine lv_iconst (v := 0) hx hb dX0_darkSlots_2 (by decide) ?_
  refine lv_istore_n (lv' := [(2, .int 0), (1, .int 0), (0, .ref (g 0))]) hx hb dX0_darkSlots_3 rfl hl (by decide) rfl (fun lz hl => ?_)
  have L4 : ∀ (zz i : Nat), i ≤ n → n + 1 ≤ i + zz → ∀ (x1 : Int32), x1 = fm_cntT li (fun _ => -1) i → ∀ (lz : Array Slot), lv_has lz 3 [(0, .ref (g 0)), (1, .int x1), (2, .int (nI i))] → W p l e (headSpec wsX0_darkSlots ({ frames := 0, cells := 0, slots := 0, locals := 0 } : Room)).room s m ([.ref (g 0)] : List Value).toArray below meth c s.heap [] 0 0 (MQ below (k2_QcV (.int (fm_cntT li (fun _ => -1) n))) ([.ref (g 0)] : List Value).toArray s 0 0 (fun _ => False)) (F0 m 4 lz []) := by
    intro zz
    induction zz with
    | zero => intro i hii hni; exact absurd hni (by omega)
    | succ zz ih4 =>
      intro i hii hni x1 e_x1  lz hl
      subst e_x1
      refine lv_iload_n hx hb dX0_darkSlots_4 rfl (lv_at hl 2 rfl) ?_
      refine lv_bipush (v := 96) hx hb dX0_darkSlots_5 (by decide) ?_
      refine lv_icmp_ge (tgt := 37) hx hb dX0_darkSlots_7 (by decide) (fun q7 => ?_) (fun q7 => ?_)
      · have hNi : n = i := by have h := xm_end (N := 96) (Nat.le_trans hii hn96) (by decide) q7; omega
        subst hNi
        refine lv_iload_n hx hb dX0_darkSlots_37 rfl (lv_at hl 1 rfl) ?_
        exact W.iret (v := (fm_cntT li (fun _ => -1) n)) hx hb hr (fun t ht hW => ⟨congrArg (fun z => Outcome.returned (some (Value.int z))) (by simp), ht⟩) hS.2.2 dX0_darkSlots_38
      · refine lv_iload_n hx hb dX0_darkSlots_10 rfl (lv_at hl 2 rfl) ?_
        refine lv_aload_n hx hb dX0_darkSlots_11 rfl (lv_at hl 0 rfl) ?_
        refine va_get (D := (dC, dI)) (ci := 0) (v := .int ln) (C := RX0) (T := TX0) (N := 10) hx hb hts hin0 hown hK hP 0 rfl rfl 7 (by decide) (hts (.fieldLink RX0 33 "TurnDigits$Frame" "length" "I") (by decide +kernel)) (fun _ h9 => h9) rfl dX0_darkSlots_12 ?_
        refine lv_icmp_ge (tgt := 37) hx hb dX0_darkSlots_15 (by decide) (fun q15 => ?_) (fun q15 => ?_)
        · have hNi : n = i := (xm_end (N := n) hii (by omega) (by rw [← hn0]; exact q15)).symm
          subst hNi
          refine lv_iload_n hx hb dX0_darkSlots_37 rfl (lv_at hl 1 rfl) ?_
          exact W.iret (v := (fm_cntT li (fun _ => -1) n)) hx hb hr (fun t ht hW => ⟨congrArg (fun z => Outcome.returned (some (Value.int z))) (by simp), ht⟩) hS.2.2 dX0_darkSlots_38
        · have hlti : i < n := xm_lt (N := n) hii (by omega) (by rw [← hn0]; exact q15)
          refine lv_aload_n hx hb dX0_darkSlots_18 rfl (lv_at hl 0 rfl) ?_
          refine va_get (D := (dC, dI)) (ci := 0) (v := .ref (g 2)) (C := RX0) (T := TX0) (N := 10) hx hb hts hin0 hown hK hP 0 rfl rfl 1 (by decide) (hts (.fieldLink RX0 15 "TurnDigits$Frame" "lit" "[I") (by decide +kernel)) (fun _ h9 => h9) rfl dX0_darkSlots_19 ?_
          refine lv_iload_n hx hb dX0_darkSlots_22 rfl (lv_at hl 2 rfl) ?_
          refine xm_iald (D := (dC, dI)) hx hb hK hP 1 0 i (v := li i) rfl rfl (by decide) rfl (by omega) rfl dX0_darkSlots_23 ?_
          refine lv_iconst (v := (-1)) hx hb dX0_darkSlots_24 (by decide) ?_
          refine lv_icmp_ne (tgt := 31) hx hb dX0_darkSlots_25 (by decide) (fun q25 => ?_) (fun q25 => ?_)
          · refine lv_iinc (v := nI (i + 1)) (lv' := [(2, .int (nI (i + 1))), (0, .ref (g 0)), (1, .int (fm_cntT li (fun _ => -1) i))]) hx hb dX0_darkSlots_31 hl (k := 2) rfl (nI_1 i) (by decide) rfl (fun lz hl => ?_)
            refine lv_goto (tgt := 4) hx hb dX0_darkSlots_34 (by decide) ?_
            exact ih4 (i + 1) hlti (by omega) (fm_cntT li (fun _ => -1) i) (by simp only [fm_cntT, if_neg q7, if_neg q15, if_neg q25])  lz (lv_sub hl [1, 2, 0] rfl)
          · refine lv_iinc (v := ((fm_cntT li (fun _ => -1) i) + 1)) (lv' := [(1, .int ((fm_cntT li (fun _ => -1) i) + 1)), (0, .ref (g 0)), (2, .int (nI i))]) hx hb dX0_darkSlots_28 hl (k := 1) rfl rfl (by decide) rfl (fun lz hl => ?_)
            refine lv_iinc (v := nI (i + 1)) (lv' := [(2, .int (nI (i + 1))), (1, .int ((fm_cntT li (fun _ => -1) i) + 1)), (0, .ref (g 0))]) hx hb dX0_darkSlots_31 hl (k := 2) rfl (nI_1 i) (by decide) rfl (fun lz hl => ?_)
            refine lv_goto (tgt := 4) hx hb dX0_darkSlots_34 (by decide) ?_
            exact ih4 (i + 1) hlti (by omega) ((fm_cntT li (fun _ => -1) i) + 1) (by simp only [fm_cntT, if_neg q7, if_neg q15, if_pos q25])  lz (lv_sub hl [2, 1, 0] rfl)
  exact L4 (n + 1) 0 (by omega) (by omega) 0 rfl  lz (lv_sub hl [2, 1, 0] rfl)

set_option maxHeartbeats 4000000 in
set_option maxRecDepth 100000 in
theorem c_X0_changes (l : Launch) (dC : Nat → ClassId) (dI : Nat → Nat → Nat) (cI cS cJ : ClassId) (tt : Nat → Nat) (g : Nat → Nat) (ow : Nat → Int32) (ln : Int32) (pe : Int32) (ne : Int32) (n : Nat) : Met l yX0_changes wsX0_changes ({ frames := 0, cells := 0, slots := 0, locals := 0 } : Room) (va_Pc [.ref (g 0)] (xm_R (dC, dI) cI cS cJ tt [((g 0), .inr (0, [.ref (g 1), .ref (g 2), .ref (g 3), .ref (g 4), .ref (g 5), .ref (g 6), .ref (g 7), .int ln, .int pe, .int ne])), ((g 1), .inl (cI, 96, .inl ow))] (ln = nI (n + 1) ∧ n + 1 ≤ 96))) (k2_QcV (.int (fm_chg ow n))) 0 0 (fun _ => False) := by
  refine Met.ofW (cc := cX0_changes) (maxL := 3) (ret := (some .int)) (by decide) rfl ?_
  intro p e s m args below meth c s₁ B hml hv
  obtain ⟨rfl, hP, hE, hpre⟩ := hv
  have hx := B.exec
  have hb := B.bytes
  have hr := B.returns
  have hts := atoms_spec (ws := wsX0_changes) B.pre
  have hown : s.vm.findClass RX0 = some m.cls := findClass_of_methodNamed B.named
  have hlocks := B.notSynchronized
  have hK := hE.1
  have hS : va_S (fun _ => False) s.heap s.heap [] := va_S.rf
  have hP : va_P (dC, dI) vwCl [((g 0), .inr (0, [.ref (g 1), .ref (g 2), .ref (g 3), .ref (g 4), .ref (g 5), .ref (g 6), .ref (g 7), .int ln, .int pe, .int ne])), ((g 1), .inl (cI, 96, .inl ow))] s.heap := hP
  have hin0 : ∀ w ∈ u_ws RX0 TX0 10, w ∈ wsX0_changes := by decide +kernel
  have hl := lv_entry [.ref (g 0)] (n := 3) (Nat.le_of_ble_eq_true rfl)
  rw [lg_entry_eq]
  generalize (lg_sl [.ref (g 0)] ++ List.replicate (3 - (lg_sl [.ref (g 0)]).length) Slot.unset).toArray = lz at hl ⊢
  have hl : lv_has lz 3 [(0, .ref (g 0))] := hl
  obtain ⟨hn0, hn96⟩ := hpre
  refine lv_iconst (v := 0) hx hb dX0_changes_0 (by decide) ?_
  refine lv_istore_n (lv' := [(1, .int 0), (0, .ref (g 0))]) hx hb dX0_changes_1 rfl hl (by decide) rfl (fun lz hl => ?_)
  refine lv_iconst (v := 1) hx hb dX0_changes_2 (by decide) ?_
  refine lv_istore_n (lv' := [(2, .int 1), (1, .int 0), (0, .ref (g 0))]) hx hb dX0_changes_3 rfl hl (by decide) rfl (fun lz hl => ?_)
  have L4 : ∀ (zz i : Nat), i ≤ n → n + 1 ≤ i + zz → ∀ (x1 : Int32), x1 = fm_chg ow i → ∀ (lz : Array Slot), lv_has lz 3 [(0, .ref (g 0)), (1, .int x1), (2, .int (nI (i + 1)))] → W p l e (headSpec wsX0_changes ({ frames := 0, cells := 0, slots := 0, locals := 0 } : Room)).room s m ([.ref (g 0)] : List Value).toArray below meth c s.heap [] 0 0 (MQ below (k2_QcV (.int (fm_chg ow n))) ([.ref (g 0)] : List Value).toArray s 0 0 (fun _ => False)) (F0 m 4 lz []) := by
    intro zz
    induction zz with
    | zero => intro i hii hni; exact absurd hni (by omega)
    | succ zz ih4 =>
      intro i hii hni x1 e_x1  lz hl
      subst e_x1
      refine lv_iload_n hx hb dX0_changes_4 rfl (lv_at hl 2 rfl) ?_
      refine lv_bipush (v := 96) hx hb dX0_changes_5 (by decide) ?_
      refine lv_icmp_ge (tgt := 44) hx hb dX0_changes_7 (by decide) (fun q7 => ?_) (fun q7 => ?_)
      · have hNi : n = i := by have h := xm_end (N := 96) (i := i + 1) (by omega) (by decide) q7; omega
        subst hNi
        refine lv_iload_n hx hb dX0_changes_44 rfl (lv_at hl 1 rfl) ?_
        exact W.iret (v := (fm_chg ow n)) hx hb hr (fun t ht hW => ⟨congrArg (fun z => Outcome.returned (some (Value.int z))) (by simp), ht⟩) hS.2.2 dX0_changes_45
      · refine lv_iload_n hx hb dX0_changes_10 rfl (lv_at hl 2 rfl) ?_
        refine lv_aload_n hx hb dX0_changes_11 rfl (lv_at hl 0 rfl) ?_
        refine va_get (D := (dC, dI)) (ci := 0) (v := .int ln) (C := RX0) (T := TX0) (N := 10) hx hb hts hin0 hown hK hP 0 rfl rfl 7 (by decide) (hts (.fieldLink RX0 33 "TurnDigits$Frame" "length" "I") (by decide +kernel)) (fun _ h9 => h9) rfl dX0_changes_12 ?_
        refine lv_icmp_ge (tgt := 44) hx hb dX0_changes_15 (by decide) (fun q15 => ?_) (fun q15 => ?_)
        · have hNi : n = i := by have h := xm_end (N := n + 1) (i := i + 1) (by omega) (by omega) (by rw [← hn0]; exact q15); omega
          subst hNi
          refine lv_iload_n hx hb dX0_changes_44 rfl (lv_at hl 1 rfl) ?_
          exact W.iret (v := (fm_chg ow n)) hx hb hr (fun t ht hW => ⟨congrArg (fun z => Outcome.returned (some (Value.int z))) (by simp), ht⟩) hS.2.2 dX0_changes_45
        · have hlti : i < n := by have h := xm_lt (N := n + 1) (i := i + 1) (by omega) (by omega) (by rw [← hn0]; exact q15); omega
          refine lv_aload_n hx hb dX0_changes_18 rfl (lv_at hl 0 rfl) ?_
          refine va_get (D := (dC, dI)) (ci := 0) (v := .ref (g 1)) (C := RX0) (T := TX0) (N := 10) hx hb hts hin0 hown hK hP 0 rfl rfl 0 (by decide) (hts (.fieldLink RX0 9 "TurnDigits$Frame" "owners" "[I") (by decide +kernel)) (fun _ h9 => h9) rfl dX0_changes_19 ?_
          refine lv_iload_n hx hb dX0_changes_22 rfl (lv_at hl 2 rfl) ?_
          refine xm_iald (D := (dC, dI)) hx hb hK hP 1 0 (i + 1) (v := ow (i + 1)) rfl rfl (by decide) rfl (by omega) rfl dX0_changes_23 ?_
          refine lv_aload_n hx hb dX0_changes_24 rfl (lv_at hl 0 rfl) ?_
          refine va_get (D := (dC, dI)) (ci := 0) (v := .ref (g 1)) (C := RX0) (T := TX0) (N := 10) hx hb hts hin0 hown hK hP 0 rfl rfl 0 (by decide) (hts (.fieldLink RX0 9 "TurnDigits$Frame" "owners" "[I") (by decide +kernel)) (fun _ h9 => h9) rfl dX0_changes_25 ?_
          refine lv_iload_n hx hb dX0_changes_28 rfl (lv_at hl 2 rfl) ?_
          refine lv_iconst (v := 1) hx hb dX0_changes_29 (by decide) ?_
          refine lv_isub hx hb dX0_changes_30 ?_
          refine xm_iald (D := (dC, dI)) hx hb hK hP 1 0 i (v := ow i) rfl rfl (by decide) (show nI (i + 1) - 1 = nI i from nI_pred i) (by omega) rfl dX0_changes_31 ?_
          refine lv_icmp_eq (tgt := 38) hx hb dX0_changes_32 (by decide) (fun q32 => ?_) (fun q32 => ?_)
          · refine lv_iinc (v := nI ((i + 1) + 1)) (lv' := [(2, .int (nI ((i + 1) + 1))), (0, .ref (g 0)), (1, .int (fm_chg ow i))]) hx hb dX0_changes_38 hl (k := 2) rfl (nI_1 (i + 1)) (by decide) rfl (fun lz hl => ?_)
            refine lv_goto (tgt := 4) hx hb dX0_changes_41 (by decide) ?_
            exact ih4 (i + 1) hlti (by omega) (fm_chg ow i) (by simp only [fm_chg, if_neg q7, if_neg q15, if_pos q32])  lz (lv_sub hl [1, 2, 0] rfl)
          · refine lv_iinc (v := ((fm_chg ow i) + 1)) (lv' := [(1, .int ((fm_chg ow i) + 1)), (0, .ref (g 0)), (2, .int (nI (i + 1)))]) hx hb dX0_changes_35 hl (k := 1) rfl rfl (by decide) rfl (fun lz hl => ?_)
            refine lv_iinc (v := nI ((i + 1) + 1)) (lv' := [(2, .int (nI ((i + 1) + 1))), (1, .int ((fm_chg ow i) + 1)), (0, .ref (g 0))]) hx hb dX0_changes_38 hl (k := 2) rfl (nI_1 (i + 1)) (by decide) rfl (fun lz hl => ?_)
            refine lv_goto (tgt := 4) hx hb dX0_changes_41 (by decide) ?_
            exact ih4 (i + 1) hlti (by omega) ((fm_chg ow i) + 1) (by simp only [fm_chg, if_neg q7, if_neg q15, if_neg q32])  lz (lv_sub hl [2, 1, 0] rfl)
  exact L4 (n + 1) 0 (by omega) (by omega) 0 rfl  lz (lv_sub hl [2, 1, 0] rfl)

set_option maxHeartbeats 4000000 in
set_option maxRecDepth 100000 in
theorem c_X0_noteSlot (l : Launch) (dC : Nat → ClassId) (dI : Nat → Nat → Nat) (cI cS cJ : ClassId) (tt : Nat → Nat) (sz : Nat) (g : Nat → Nat) (gp : Nat → Int32) (ls : Nat → Int32) (dr : Nat → Int32) (ln : Int32) (pe : Int32) (ne : Int32) (lt : Int32) : Met l yX0_noteSlot wsX0_noteSlot ({ frames := 1, cells := 0, slots := 0, locals := 21 } : Room) (va_Pc [.ref (g 0), .int lt] (xm_M (dC, dI) cI cS cJ tt [((g 0), .inr (0, [.ref (g 1), .ref (g 2), .ref (g 3), .ref (g 4), .ref (g 5), .ref (g 6), .ref (g 7), .int ln, .int pe, .int ne])), ((g 3), .inl (cI, 6, .inl gp)), ((g 4), .inl (cI, 6, .inl ls)), ((g 7), .inl (cI, 6, .inl dr))] sz (True))) (va_Qv (fun (u : (Nat → Int32) × (Nat → Int32) × (Nat → Int32)) => u.1 = ns_gp lt dr gp ∧ u.2.1 = ns_ls lt ls ∧ u.2.2 = ns_dr lt dr) (xm_B (dC, dI) (fun (u : (Nat → Int32) × (Nat → Int32) × (Nat → Int32)) => [((g 0), .inr (0, [.ref (g 1), .ref (g 2), .ref (g 3), .ref (g 4), .ref (g 5), .ref (g 6), .ref (g 7), .int ln, .int pe, .int ne])), ((g 3), .inl (cI, 6, .inl u.1)), ((g 4), .inl (cI, 6, .inl u.2.1)), ((g 7), .inl (cI, 6, .inl u.2.2))]) (va_A [((g 0), .inr (0, [.ref (g 1), .ref (g 2), .ref (g 3), .ref (g 4), .ref (g 5), .ref (g 6), .ref (g 7), .int ln, .int pe, .int ne])), ((g 3), .inl (cI, 6, .inl gp)), ((g 4), .inl (cI, 6, .inl ls)), ((g 7), .inl (cI, 6, .inl dr))] sz)) (va_A [((g 0), .inr (0, [.ref (g 1), .ref (g 2), .ref (g 3), .ref (g 4), .ref (g 5), .ref (g 6), .ref (g 7), .int ln, .int pe, .int ne])), ((g 3), .inl (cI, 6, .inl gp)), ((g 4), .inl (cI, 6, .inl ls)), ((g 7), .inl (cI, 6, .inl dr))] sz)) 0 0 (va_A [((g 0), .inr (0, [.ref (g 1), .ref (g 2), .ref (g 3), .ref (g 4), .ref (g 5), .ref (g 6), .ref (g 7), .int ln, .int pe, .int ne])), ((g 3), .inl (cI, 6, .inl gp)), ((g 4), .inl (cI, 6, .inl ls)), ((g 7), .inl (cI, 6, .inl dr))] sz) := by
  refine Met.ofW (cc := cX0_noteSlot) (maxL := 3) (ret := none) (by decide) rfl ?_
  intro p e s m args below meth c s₁ B hml hv
  obtain ⟨rfl, hsz, hP, hE, hD0, hpre⟩ := hv
  have hx := B.exec
  have hb := B.bytes
  have hr := B.returns
  have hts := atoms_spec (ws := wsX0_noteSlot) B.pre
  have hown : s.vm.findClass RX0 = some m.cls := findClass_of_methodNamed B.named
  have hlocks := B.notSynchronized
  have hK := hE.1
  subst hsz
  have hD := hD0.self (sz := s.heap.size)
  generalize hAe : va_A [((g 0), .inr (0, [.ref (g 1), .ref (g 2), .ref (g 3), .ref (g 4), .ref (g 5), .ref (g 6), .ref (g 7), .int ln, .int pe, .int ne])), ((g 3), .inl (cI, 6, .inl gp)), ((g 4), .inl (cI, 6, .inl ls)), ((g 7), .inl (cI, 6, .inl dr))] s.heap.size = A at hD hE ⊢
  have hA : ∀ q : Nat, s.heap.size ≤ q → A q := fun q h => by rw [← hAe]; exact Or.inr h
  have hS : va_S A s.heap s.heap [] := va_S.rf
  have hP : va_P (dC, dI) vwCl [((g 0), .inr (0, [.ref (g 1), .ref (g 2), .ref (g 3), .ref (g 4), .ref (g 5), .ref (g 6), .ref (g 7), .int ln, .int pe, .int ne])), ((g 3), .inl (cI, 6, .inl gp)), ((g 4), .inl (cI, 6, .inl ls)), ((g 7), .inl (cI, 6, .inl dr))] s.heap := hP
  have hin0 : ∀ w ∈ u_ws RX0 TX0 10, w ∈ wsX0_noteSlot := by decide +kernel
  have hl := lv_entry [.ref (g 0), .int lt] (n := 3) (Nat.le_of_ble_eq_true rfl)
  rw [lg_entry_eq]
  generalize (lg_sl [.ref (g 0), .int lt] ++ List.replicate (3 - (lg_sl [.ref (g 0), .int lt]).length) Slot.unset).toArray = lz at hl ⊢
  have hl : lv_has lz 3 [(0, .ref (g 0)), (1, .int lt)] := hl
  refine lv_iconst (v := 0) hx hb dX0_noteSlot_0 (by decide) ?_
  refine lv_istore_n (lv' := [(2, .int 0), (0, .ref (g 0)), (1, .int lt)]) hx hb dX0_noteSlot_1 rfl hl (by decide) rfl (fun lz hl => ?_)
  have L2 : ∀ (zz i : Nat), i ≤ 6 → 6 + 1 ≤ i + zz → ∀ (f3 : Nat → Int32) (f4 : Nat → Int32) (f7 : Nat → Int32), f3 = fm_fl (ns_gp lt dr gp) gp i → f4 = fm_fl (ns_ls lt ls) ls i → f7 = fm_fl (ns_dr lt dr) dr i → ∀ (H : Heap) (locs : List Loc), va_P (dC, dI) vwCl [((g 0), .inr (0, [.ref (g 1), .ref (g 2), .ref (g 3), .ref (g 4), .ref (g 5), .ref (g 6), .ref (g 7), .int ln, .int pe, .int ne])), ((g 3), .inl (cI, 6, .inl f3)), ((g 4), .inl (cI, 6, .inl f4)), ((g 7), .inl (cI, 6, .inl f7))] H → va_D A [((g 0), .inr (0, [.ref (g 1), .ref (g 2), .ref (g 3), .ref (g 4), .ref (g 5), .ref (g 6), .ref (g 7), .int ln, .int pe, .int ne])), ((g 3), .inl (cI, 6, .inl f3)), ((g 4), .inl (cI, 6, .inl f4)), ((g 7), .inl (cI, 6, .inl f7))] → va_S A s.heap H locs → ∀ (lz : Array Slot), lv_has lz 3 [(0, .ref (g 0)), (1, .int lt), (2, .int (nI i))] → W p l e (headSpec wsX0_noteSlot ({ frames := 1, cells := 0, slots := 0, locals := 21 } : Room)).room s m ([.ref (g 0), .int lt] : List Value).toArray below meth c H locs 0 0 (MQ below (va_Qv (fun (u : (Nat → Int32) × (Nat → Int32) × (Nat → Int32)) => u.1 = ns_gp lt dr gp ∧ u.2.1 = ns_ls lt ls ∧ u.2.2 = ns_dr lt dr) (xm_B (dC, dI) (fun (u : (Nat → Int32) × (Nat → Int32) × (Nat → Int32)) => [((g 0), .inr (0, [.ref (g 1), .ref (g 2), .ref (g 3), .ref (g 4), .ref (g 5), .ref (g 6), .ref (g 7), .int ln, .int pe, .int ne])), ((g 3), .inl (cI, 6, .inl u.1)), ((g 4), .inl (cI, 6, .inl u.2.1)), ((g 7), .inl (cI, 6, .inl u.2.2))]) A) A) ([.ref (g 0), .int lt] : List Value).toArray s 0 0 A) (F0 m 2 lz []) := by
    intro zz
    induction zz with
    | zero => intro i hii hni; exact absurd hni (by omega)
    | succ zz ih2 =>
      intro i hii hni f3 f4 f7 e_f3 e_f4 e_f7  H locs hP hD hS lz hl
      subst e_f3 e_f4 e_f7
      refine lv_iload_n hx hb dX0_noteSlot_2 rfl (lv_at hl 2 rfl) ?_
      refine lv_bipush (v := 6) hx hb dX0_noteSlot_3 (by decide) ?_
      refine lv_icmp_ge (tgt := 70) hx hb dX0_noteSlot_5 (by decide) (fun q5 => ?_) (fun q5 => ?_)
      · have hNi : 6 = i := (xm_end (N := 6) hii (by decide) q5).symm
        subst hNi
        obtain ⟨hP, hD⟩ := xm_cong hP hD 1 rfl (ns_gp lt dr gp) (fun j hj => by rw [fm_fl_in hj])
        have hP : va_P (dC, dI) vwCl [((g 0), .inr (0, [.ref (g 1), .ref (g 2), .ref (g 3), .ref (g 4), .ref (g 5), .ref (g 6), .ref (g 7), .int ln, .int pe, .int ne])), ((g 3), .inl (cI, 6, .inl (ns_gp lt dr gp))), ((g 4), .inl (cI, 6, .inl (fm_fl (ns_ls lt ls) ls 6))), ((g 7), .inl (cI, 6, .inl (fm_fl (ns_dr lt dr) dr 6)))] H := hP
        have hD : va_D A [((g 0), .inr (0, [.ref (g 1), .ref (g 2), .ref (g 3), .ref (g 4), .ref (g 5), .ref (g 6), .ref (g 7), .int ln, .int pe, .int ne])), ((g 3), .inl (cI, 6, .inl (ns_gp lt dr gp))), ((g 4), .inl (cI, 6, .inl (fm_fl (ns_ls lt ls) ls 6))), ((g 7), .inl (cI, 6, .inl (fm_fl (ns_dr lt dr) dr 6)))] := hD
        obtain ⟨hP, hD⟩ := xm_cong hP hD 2 rfl (ns_ls lt ls) (fun j hj => by rw [fm_fl_in hj])
        have hP : va_P (dC, dI) vwCl [((g 0), .inr (0, [.ref (g 1), .ref (g 2), .ref (g 3), .ref (g 4), .ref (g 5), .ref (g 6), .ref (g 7), .int ln, .int pe, .int ne])), ((g 3), .inl (cI, 6, .inl (ns_gp lt dr gp))), ((g 4), .inl (cI, 6, .inl (ns_ls lt ls))), ((g 7), .inl (cI, 6, .inl (fm_fl (ns_dr lt dr) dr 6)))] H := hP
        have hD : va_D A [((g 0), .inr (0, [.ref (g 1), .ref (g 2), .ref (g 3), .ref (g 4), .ref (g 5), .ref (g 6), .ref (g 7), .int ln, .int pe, .int ne])), ((g 3), .inl (cI, 6, .inl (ns_gp lt dr gp))), ((g 4), .inl (cI, 6, .inl (ns_ls lt ls))), ((g 7), .inl (cI, 6, .inl (fm_fl (ns_dr lt dr) dr 6)))] := hD
        obtain ⟨hP, hD⟩ := xm_cong hP hD 3 rfl (ns_dr lt dr) (fun j hj => by rw [fm_fl_in hj])
        have hP : va_P (dC, dI) vwCl [((g 0), .inr (0, [.ref (g 1), .ref (g 2), .ref (g 3), .ref (g 4), .ref (g 5), .ref (g 6), .ref (g 7), .int ln, .int pe, .int ne])), ((g 3), .inl (cI, 6, .inl (ns_gp lt dr gp))), ((g 4), .inl (cI, 6, .inl (ns_ls lt ls))), ((g 7), .inl (cI, 6, .inl (ns_dr lt dr)))] H := hP
        have hD : va_D A [((g 0), .inr (0, [.ref (g 1), .ref (g 2), .ref (g 3), .ref (g 4), .ref (g 5), .ref (g 6), .ref (g 7), .int ln, .int pe, .int ne])), ((g 3), .inl (cI, 6, .inl (ns_gp lt dr gp))), ((g 4), .inl (cI, 6, .inl (ns_ls lt ls))), ((g 7), .inl (cI, 6, .inl (ns_dr lt dr)))] := hD
        have hP9 : va_P (dC, dI) vwCl [((g 0), .inr (0, [.ref (g 1), .ref (g 2), .ref (g 3), .ref (g 4), .ref (g 5), .ref (g 6), .ref (g 7), .int ln, .int pe, .int ne])), ((g 3), .inl (cI, 6, .inl (ns_gp lt dr gp))), ((g 4), .inl (cI, 6, .inl (ns_ls lt ls))), ((g 7), .inl (cI, 6, .inl (ns_dr lt dr)))] H := hP
        have hD9 : va_D A [((g 0), .inr (0, [.ref (g 1), .ref (g 2), .ref (g 3), .ref (g 4), .ref (g 5), .ref (g 6), .ref (g 7), .int ln, .int pe, .int ne])), ((g 3), .inl (cI, 6, .inl (ns_gp lt dr gp))), ((g 4), .inl (cI, 6, .inl (ns_ls lt ls))), ((g 7), .inl (cI, 6, .inl (ns_dr lt dr)))] := hD
        exact W.vret hx hb hr (fun t ht hW => ⟨⟨(ns_gp lt dr gp, ns_ls lt ls, ns_dr lt dr), rfl, ⟨rfl, rfl, rfl⟩, by rw [ht]; exact hP9, hD9⟩, hS.F ht⟩) hS.2.2 dX0_noteSlot_70
      · have hlti : i < 6 := xm_lt (N := 6) hii (by decide) q5
        refine lv_iload_n hx hb dX0_noteSlot_8 rfl (lv_at hl 2 rfl) ?_
        refine lv_iload_n hx hb dX0_noteSlot_9 rfl (lv_at hl 1 rfl) ?_
        refine lv_icmp_ne (tgt := 33) hx hb dX0_noteSlot_10 (by decide) (fun q10 => ?_) (fun q10 => ?_)
        · refine lv_aload_n hx hb dX0_noteSlot_33 rfl (lv_at hl 0 rfl) ?_
          refine va_get (D := (dC, dI)) (ci := 0) (v := .ref (g 7)) (C := RX0) (T := TX0) (N := 10) hx hb hts hin0 hown hK hP 0 rfl rfl 6 (by decide) (hts (.fieldLink RX0 30 "TurnDigits$Frame" "darkRows" "[I") (by decide +kernel)) (fun _ h9 => h9) rfl dX0_noteSlot_34 ?_
          refine lv_iload_n hx hb dX0_noteSlot_37 rfl (lv_at hl 2 rfl) ?_
          refine lv_dup2_11 hx hb dX0_noteSlot_38 rfl rfl ?_
          refine xm_iald (D := (dC, dI)) hx hb hK hP 3 0 i (v := (fm_fl (ns_dr lt dr) dr i) i) rfl rfl (by decide) rfl (by omega) rfl dX0_noteSlot_39 ?_
          refine xm_topi (y := (dr i)) fm_fl_at ?_
          refine lv_iconst (v := 1) hx hb dX0_noteSlot_40 (by decide) ?_
          refine lv_iadd hx hb dX0_noteSlot_41 ?_
          refine xm_iast (D := (dC, dI)) hx hb hK hP hD hS 3 0 i rfl rfl (by decide) rfl (by omega) dX0_noteSlot_42 (fun H locs hP hD hS => ?_)
          have hP : va_P (dC, dI) vwCl [((g 0), .inr (0, [.ref (g 1), .ref (g 2), .ref (g 3), .ref (g 4), .ref (g 5), .ref (g 6), .ref (g 7), .int ln, .int pe, .int ne])), ((g 3), .inl (cI, 6, .inl (fm_fl (ns_gp lt dr gp) gp i))), ((g 4), .inl (cI, 6, .inl (fm_fl (ns_ls lt ls) ls i))), ((g 7), .inl (cI, 6, .inl (upd (fm_fl (ns_dr lt dr) dr i) i ((dr i) + 1))))] H := hP
          have hD : va_D A [((g 0), .inr (0, [.ref (g 1), .ref (g 2), .ref (g 3), .ref (g 4), .ref (g 5), .ref (g 6), .ref (g 7), .int ln, .int pe, .int ne])), ((g 3), .inl (cI, 6, .inl (fm_fl (ns_gp lt dr gp) gp i))), ((g 4), .inl (cI, 6, .inl (fm_fl (ns_ls lt ls) ls i))), ((g 7), .inl (cI, 6, .inl (upd (fm_fl (ns_dr lt dr) dr i) i ((dr i) + 1))))] := hD
          refine lv_aload_n hx hb dX0_noteSlot_43 rfl (lv_at hl 0 rfl) ?_
          refine va_get (D := (dC, dI)) (ci := 0) (v := .ref (g 3)) (C := RX0) (T := TX0) (N := 10) hx hb hts hin0 hown hK hP 0 rfl rfl 2 (by decide) (hts (.fieldLink RX0 18 "TurnDigits$Frame" "gaps" "[I") (by decide +kernel)) (fun _ h9 => h9) rfl dX0_noteSlot_44 ?_
          refine lv_iload_n hx hb dX0_noteSlot_47 rfl (lv_at hl 2 rfl) ?_
          refine lv_aload_n hx hb dX0_noteSlot_48 rfl (lv_at hl 0 rfl) ?_
          refine va_get (D := (dC, dI)) (ci := 0) (v := .ref (g 3)) (C := RX0) (T := TX0) (N := 10) hx hb hts hin0 hown hK hP 0 rfl rfl 2 (by decide) (hts (.fieldLink RX0 18 "TurnDigits$Frame" "gaps" "[I") (by decide +kernel)) (fun _ h9 => h9) rfl dX0_noteSlot_49 ?_
          refine lv_iload_n hx hb dX0_noteSlot_52 rfl (lv_at hl 2 rfl) ?_
          refine xm_iald (D := (dC, dI)) hx hb hK hP 1 0 i (v := (fm_fl (ns_gp lt dr gp) gp i) i) rfl rfl (by decide) rfl (by omega) rfl dX0_noteSlot_53 ?_
          refine xm_topi (y := (gp i)) fm_fl_at ?_
          refine lv_aload_n hx hb dX0_noteSlot_54 rfl (lv_at hl 0 rfl) ?_
          refine va_get (D := (dC, dI)) (ci := 0) (v := .ref (g 7)) (C := RX0) (T := TX0) (N := 10) hx hb hts hin0 hown hK hP 0 rfl rfl 6 (by decide) (hts (.fieldLink RX0 30 "TurnDigits$Frame" "darkRows" "[I") (by decide +kernel)) (fun _ h9 => h9) rfl dX0_noteSlot_55 ?_
          refine lv_iload_n hx hb dX0_noteSlot_58 rfl (lv_at hl 2 rfl) ?_
          refine xm_iald (D := (dC, dI)) hx hb hK hP 3 0 i (v := (upd (fm_fl (ns_dr lt dr) dr i) i ((dr i) + 1)) i) rfl rfl (by decide) rfl (by omega) rfl dX0_noteSlot_59 ?_
          refine xm_topi (y := (dr i + 1)) pk_us ?_
          refine va_mmax hx hb (hml.trans hl.1.symm) hown (hts (.methodLink RX0 84 Lib.Math.max.name) (by decide +kernel)) (hts (.static Lib.Math.max.name) (by decide +kernel)) (hts (.initialized "java/lang/Math") (by decide +kernel)) (hts (.code Lib.Math.max.name Lib.Math.max.code 2 (some .int)) (by decide +kernel)) (Nat.le_of_ble_eq_true rfl) (Nat.le_of_ble_eq_true rfl) (Nat.zero_le _) (Nat.zero_le _) dX0_noteSlot_60 ?_
          refine xm_iast (D := (dC, dI)) hx hb hK hP hD hS 1 0 i rfl rfl (by decide) rfl (by omega) dX0_noteSlot_63 (fun H locs hP hD hS => ?_)
          have hP : va_P (dC, dI) vwCl [((g 0), .inr (0, [.ref (g 1), .ref (g 2), .ref (g 3), .ref (g 4), .ref (g 5), .ref (g 6), .ref (g 7), .int ln, .int pe, .int ne])), ((g 3), .inl (cI, 6, .inl (upd (fm_fl (ns_gp lt dr gp) gp i) i (if (gp i) < (dr i + 1) then (dr i + 1) else (gp i))))), ((g 4), .inl (cI, 6, .inl (fm_fl (ns_ls lt ls) ls i))), ((g 7), .inl (cI, 6, .inl (upd (fm_fl (ns_dr lt dr) dr i) i ((dr i) + 1))))] H := hP
          have hD : va_D A [((g 0), .inr (0, [.ref (g 1), .ref (g 2), .ref (g 3), .ref (g 4), .ref (g 5), .ref (g 6), .ref (g 7), .int ln, .int pe, .int ne])), ((g 3), .inl (cI, 6, .inl (upd (fm_fl (ns_gp lt dr gp) gp i) i (if (gp i) < (dr i + 1) then (dr i + 1) else (gp i))))), ((g 4), .inl (cI, 6, .inl (fm_fl (ns_ls lt ls) ls i))), ((g 7), .inl (cI, 6, .inl (upd (fm_fl (ns_dr lt dr) dr i) i ((dr i) + 1))))] := hD
          refine lv_iinc (v := nI (i + 1)) (lv' := [(2, .int (nI (i + 1))), (0, .ref (g 0)), (1, .int lt)]) hx hb dX0_noteSlot_64 hl (k := 2) rfl (nI_1 i) (by decide) rfl (fun lz hl => ?_)
          refine lv_goto (tgt := 2) hx hb dX0_noteSlot_67 (by decide) ?_
          exact ih2 (i + 1) hlti (by omega) (upd (fm_fl (ns_gp lt dr gp) gp i) i (if (gp i) < (dr i + 1) then (dr i + 1) else (gp i))) (fm_fl (ns_ls lt ls) ls i) (upd (fm_fl (ns_dr lt dr) dr i) i ((dr i) + 1)) (fm_fl_t (by simp only [ns_gp, if_neg q5, if_neg q10])) (fm_fl_k (by simp only [ns_ls, if_neg q5, if_neg q10])) (fm_fl_t (by simp only [ns_dr, if_neg q5, if_neg q10]))  H locs hP hD hS lz (lv_sub hl [1, 2, 0] rfl)
        · refine lv_aload_n hx hb dX0_noteSlot_13 rfl (lv_at hl 0 rfl) ?_
          refine va_get (D := (dC, dI)) (ci := 0) (v := .ref (g 4)) (C := RX0) (T := TX0) (N := 10) hx hb hts hin0 hown hK hP 0 rfl rfl 3 (by decide) (hts (.fieldLink RX0 21 "TurnDigits$Frame" "litSlots" "[I") (by decide +kernel)) (fun _ h9 => h9) rfl dX0_noteSlot_14 ?_
          refine lv_iload_n hx hb dX0_noteSlot_17 rfl (lv_at hl 2 rfl) ?_
          refine lv_dup2_11 hx hb dX0_noteSlot_18 rfl rfl ?_
          refine xm_iald (D := (dC, dI)) hx hb hK hP 2 0 i (v := (fm_fl (ns_ls lt ls) ls i) i) rfl rfl (by decide) rfl (by omega) rfl dX0_noteSlot_19 ?_
          refine xm_topi (y := (ls i)) fm_fl_at ?_
          refine lv_iconst (v := 1) hx hb dX0_noteSlot_20 (by decide) ?_
          refine lv_iadd hx hb dX0_noteSlot_21 ?_
          refine xm_iast (D := (dC, dI)) hx hb hK hP hD hS 2 0 i rfl rfl (by decide) rfl (by omega) dX0_noteSlot_22 (fun H locs hP hD hS => ?_)
          have hP : va_P (dC, dI) vwCl [((g 0), .inr (0, [.ref (g 1), .ref (g 2), .ref (g 3), .ref (g 4), .ref (g 5), .ref (g 6), .ref (g 7), .int ln, .int pe, .int ne])), ((g 3), .inl (cI, 6, .inl (fm_fl (ns_gp lt dr gp) gp i))), ((g 4), .inl (cI, 6, .inl (upd (fm_fl (ns_ls lt ls) ls i) i ((ls i) + 1)))), ((g 7), .inl (cI, 6, .inl (fm_fl (ns_dr lt dr) dr i)))] H := hP
          have hD : va_D A [((g 0), .inr (0, [.ref (g 1), .ref (g 2), .ref (g 3), .ref (g 4), .ref (g 5), .ref (g 6), .ref (g 7), .int ln, .int pe, .int ne])), ((g 3), .inl (cI, 6, .inl (fm_fl (ns_gp lt dr gp) gp i))), ((g 4), .inl (cI, 6, .inl (upd (fm_fl (ns_ls lt ls) ls i) i ((ls i) + 1)))), ((g 7), .inl (cI, 6, .inl (fm_fl (ns_dr lt dr) dr i)))] := hD
          refine lv_aload_n hx hb dX0_noteSlot_23 rfl (lv_at hl 0 rfl) ?_
          refine va_get (D := (dC, dI)) (ci := 0) (v := .ref (g 7)) (C := RX0) (T := TX0) (N := 10) hx hb hts hin0 hown hK hP 0 rfl rfl 6 (by decide) (hts (.fieldLink RX0 30 "TurnDigits$Frame" "darkRows" "[I") (by decide +kernel)) (fun _ h9 => h9) rfl dX0_noteSlot_24 ?_
          refine lv_iload_n hx hb dX0_noteSlot_27 rfl (lv_at hl 2 rfl) ?_
          refine lv_iconst (v := 0) hx hb dX0_noteSlot_28 (by decide) ?_
          refine xm_iast (D := (dC, dI)) hx hb hK hP hD hS 3 0 i rfl rfl (by decide) rfl (by omega) dX0_noteSlot_29 (fun H locs hP hD hS => ?_)
          have hP : va_P (dC, dI) vwCl [((g 0), .inr (0, [.ref (g 1), .ref (g 2), .ref (g 3), .ref (g 4), .ref (g 5), .ref (g 6), .ref (g 7), .int ln, .int pe, .int ne])), ((g 3), .inl (cI, 6, .inl (fm_fl (ns_gp lt dr gp) gp i))), ((g 4), .inl (cI, 6, .inl (upd (fm_fl (ns_ls lt ls) ls i) i ((ls i) + 1)))), ((g 7), .inl (cI, 6, .inl (upd (fm_fl (ns_dr lt dr) dr i) i 0)))] H := hP
          have hD : va_D A [((g 0), .inr (0, [.ref (g 1), .ref (g 2), .ref (g 3), .ref (g 4), .ref (g 5), .ref (g 6), .ref (g 7), .int ln, .int pe, .int ne])), ((g 3), .inl (cI, 6, .inl (fm_fl (ns_gp lt dr gp) gp i))), ((g 4), .inl (cI, 6, .inl (upd (fm_fl (ns_ls lt ls) ls i) i ((ls i) + 1)))), ((g 7), .inl (cI, 6, .inl (upd (fm_fl (ns_dr lt dr) dr i) i 0)))] := hD
          refine lv_goto (tgt := 64) hx hb dX0_noteSlot_30 (by decide) ?_
          refine lv_iinc (v := nI (i + 1)) (lv' := [(2, .int (nI (i + 1))), (0, .ref (g 0)), (1, .int lt)]) hx hb dX0_noteSlot_64 hl (k := 2) rfl (nI_1 i) (by decide) rfl (fun lz hl => ?_)
          refine lv_goto (tgt := 2) hx hb dX0_noteSlot_67 (by decide) ?_
          exact ih2 (i + 1) hlti (by omega) (fm_fl (ns_gp lt dr gp) gp i) (upd (fm_fl (ns_ls lt ls) ls i) i ((ls i) + 1)) (upd (fm_fl (ns_dr lt dr) dr i) i 0) (fm_fl_k (by simp only [ns_gp, if_neg q5, if_pos q10])) (fm_fl_t (by simp only [ns_ls, if_neg q5, if_pos q10])) (fm_fl_t (by simp only [ns_dr, if_neg q5, if_pos q10]))  H locs hP hD hS lz (lv_sub hl [1, 2, 0] rfl)
  exact L2 (6 + 1) 0 (by omega) (by omega) gp ls dr (fm_fl_0 _ _).symm (fm_fl_0 _ _).symm (fm_fl_0 _ _).symm  s.heap [] hP hD hS lz (lv_sub hl [1, 2, 0] rfl)

set_option maxHeartbeats 4000000 in
set_option maxRecDepth 100000 in
theorem c_X0_passSlots (l : Launch) (dC : Nat → ClassId) (dI : Nat → Nat → Nat) (cI cS cJ : ClassId) (tt : Nat → Nat) (sz : Nat) (g : Nat → Nat) (ow : Nat → Int32) (li : Nat → Int32) (gp : Nat → Int32) (ls : Nat → Int32) (lv : Nat → Int32) (cr : Nat → Int32) (dr : Nat → Int32) (ln : Int32) (pe : Int32) (ne : Int32) (a : Nat → Nat) (am : Int32) (ti : Int32) (ah : Int32) (se : Nat → Int32) (n : Nat) : Met l yX0_passSlots wsX0_passSlots ({ frames := 2, cells := 0, slots := 0, locals := 43 } : Room) (va_Pc [.ref (g 0), .ref (a 0)] (xm_M (dC, dI) cI cS cJ tt [((g 0), .inr (0, [.ref (g 1), .ref (g 2), .ref (g 3), .ref (g 4), .ref (g 5), .ref (g 6), .ref (g 7), .int ln, .int pe, .int ne])), ((g 1), .inl (cI, 96, .inl ow)), ((g 2), .inl (cI, 96, .inl li)), ((g 3), .inl (cI, 6, .inl gp)), ((g 4), .inl (cI, 6, .inl ls)), ((g 5), .inl (cI, 6, .inl lv)), ((g 6), .inl (cI, 6, .inl cr)), ((g 7), .inl (cI, 6, .inl dr)), ((a 0), .inr (2, [.ref (a 1), .ref (a 2), .ref (a 3), .ref (a 4), .ref (a 5), .ref (a 6), .ref (a 7), .int am, .int ti, .int ah])), ((a 7), .inl (cI, 5, .inl se))] sz (se 0 = nI n ∧ n ≤ 96))) (va_Qv (fun (u : (Nat → Int32) × (Nat → Int32) × (Nat → Int32) × (Nat → Int32) × (Nat → Int32) × (Nat → Int32) × Int32 × Int32 × Int32) => u.1 = fm_fl (fr_ow lv cr) ow n ∧ u.2.1 = fm_fl (fr_li lv cr ah (fm_dk (se 1))) li n ∧ u.2.2.1 = fr_gp (fr_li lv cr ah (fm_dk (se 1))) n ∧ u.2.2.2.1 = fr_ls (fr_li lv cr ah (fm_dk (se 1))) n ∧ u.2.2.2.2.1 = fr_cr lv cr n ∧ u.2.2.2.2.2.1 = fr_dr (fr_li lv cr ah (fm_dk (se 1))) n ∧ u.2.2.2.2.2.2.1 = se 0 ∧ u.2.2.2.2.2.2.2.1 = se 2 ∧ u.2.2.2.2.2.2.2.2 = se 3 * am) (xm_B (dC, dI) (fun (u : (Nat → Int32) × (Nat → Int32) × (Nat → Int32) × (Nat → Int32) × (Nat → Int32) × (Nat → Int32) × Int32 × Int32 × Int32) => [((g 0), .inr (0, [.ref (g 1), .ref (g 2), .ref (g 3), .ref (g 4), .ref (g 5), .ref (g 6), .ref (g 7), .int u.2.2.2.2.2.2.1, .int u.2.2.2.2.2.2.2.1, .int u.2.2.2.2.2.2.2.2])), ((g 1), .inl (cI, 96, .inl u.1)), ((g 2), .inl (cI, 96, .inl u.2.1)), ((g 3), .inl (cI, 6, .inl u.2.2.1)), ((g 4), .inl (cI, 6, .inl u.2.2.2.1)), ((g 5), .inl (cI, 6, .inl lv)), ((g 6), .inl (cI, 6, .inl u.2.2.2.2.1)), ((g 7), .inl (cI, 6, .inl u.2.2.2.2.2.1)), ((a 0), .inr (2, [.ref (a 1), .ref (a 2), .ref (a 3), .ref (a 4), .ref (a 5), .ref (a 6), .ref (a 7), .int am, .int ti, .int ah])), ((a 7), .inl (cI, 5, .inl se))]) (va_A [((g 0), .inr (0, [.ref (g 1), .ref (g 2), .ref (g 3), .ref (g 4), .ref (g 5), .ref (g 6), .ref (g 7), .int ln, .int pe, .int ne])), ((g 1), .inl (cI, 96, .inl ow)), ((g 2), .inl (cI, 96, .inl li)), ((g 3), .inl (cI, 6, .inl gp)), ((g 4), .inl (cI, 6, .inl ls)), ((g 5), .inl (cI, 6, .inl lv)), ((g 6), .inl (cI, 6, .inl cr)), ((g 7), .inl (cI, 6, .inl dr)), ((a 0), .inr (2, [.ref (a 1), .ref (a 2), .ref (a 3), .ref (a 4), .ref (a 5), .ref (a 6), .ref (a 7), .int am, .int ti, .int ah])), ((a 7), .inl (cI, 5, .inl se))] sz)) (va_A [((g 0), .inr (0, [.ref (g 1), .ref (g 2), .ref (g 3), .ref (g 4), .ref (g 5), .ref (g 6), .ref (g 7), .int ln, .int pe, .int ne])), ((g 1), .inl (cI, 96, .inl ow)), ((g 2), .inl (cI, 96, .inl li)), ((g 3), .inl (cI, 6, .inl gp)), ((g 4), .inl (cI, 6, .inl ls)), ((g 5), .inl (cI, 6, .inl lv)), ((g 6), .inl (cI, 6, .inl cr)), ((g 7), .inl (cI, 6, .inl dr)), ((a 0), .inr (2, [.ref (a 1), .ref (a 2), .ref (a 3), .ref (a 4), .ref (a 5), .ref (a 6), .ref (a 7), .int am, .int ti, .int ah])), ((a 7), .inl (cI, 5, .inl se))] sz)) 0 0 (va_A [((g 0), .inr (0, [.ref (g 1), .ref (g 2), .ref (g 3), .ref (g 4), .ref (g 5), .ref (g 6), .ref (g 7), .int ln, .int pe, .int ne])), ((g 1), .inl (cI, 96, .inl ow)), ((g 2), .inl (cI, 96, .inl li)), ((g 3), .inl (cI, 6, .inl gp)), ((g 4), .inl (cI, 6, .inl ls)), ((g 5), .inl (cI, 6, .inl lv)), ((g 6), .inl (cI, 6, .inl cr)), ((g 7), .inl (cI, 6, .inl dr)), ((a 0), .inr (2, [.ref (a 1), .ref (a 2), .ref (a 3), .ref (a 4), .ref (a 5), .ref (a 6), .ref (a 7), .int am, .int ti, .int ah])), ((a 7), .inl (cI, 5, .inl se))] sz) := by
  refine Met.ofW (cc := cX0_passSlots) (maxL := 5) (ret := none) (by decide) rfl ?_
  intro p e s m args below meth c s₁ B hml hv
  obtain ⟨rfl, hsz, hP, hE, hD0, hpre⟩ := hv
  have hx := B.exec
  have hb := B.bytes
  have hr := B.returns
  have hts := atoms_spec (ws := wsX0_passSlots) B.pre
  have hown : s.vm.findClass RX0 = some m.cls := findClass_of_methodNamed B.named
  have hlocks := B.notSynchronized
  have hK := hE.1
  subst hsz
  have hD := hD0.self (sz := s.heap.size)
  generalize hAe : va_A [((g 0), .inr (0, [.ref (g 1), .ref (g 2), .ref (g 3), .ref (g 4), .ref (g 5), .ref (g 6), .ref (g 7), .int ln, .int pe, .int ne])), ((g 1), .inl (cI, 96, .inl ow)), ((g 2), .inl (cI, 96, .inl li)), ((g 3), .inl (cI, 6, .inl gp)), ((g 4), .inl (cI, 6, .inl ls)), ((g 5), .inl (cI, 6, .inl lv)), ((g 6), .inl (cI, 6, .inl cr)), ((g 7), .inl (cI, 6, .inl dr)), ((a 0), .inr (2, [.ref (a 1), .ref (a 2), .ref (a 3), .ref (a 4), .ref (a 5), .ref (a 6), .ref (a 7), .int am, .int ti, .int ah])), ((a 7), .inl (cI, 5, .inl se))] s.heap.size = A at hD hE ⊢
  have hA : ∀ q : Nat, s.heap.size ≤ q → A q := fun q h => by rw [← hAe]; exact Or.inr h
  have hS : va_S A s.heap s.heap [] := va_S.rf
  have hP : va_P (dC, dI) vwCl [((g 0), .inr (0, [.ref (g 1), .ref (g 2), .ref (g 3), .ref (g 4), .ref (g 5), .ref (g 6), .ref (g 7), .int ln, .int pe, .int ne])), ((g 1), .inl (cI, 96, .inl ow)), ((g 2), .inl (cI, 96, .inl li)), ((g 3), .inl (cI, 6, .inl gp)), ((g 4), .inl (cI, 6, .inl ls)), ((g 5), .inl (cI, 6, .inl lv)), ((g 6), .inl (cI, 6, .inl cr)), ((g 7), .inl (cI, 6, .inl dr)), ((a 0), .inr (2, [.ref (a 1), .ref (a 2), .ref (a 3), .ref (a 4), .ref (a 5), .ref (a 6), .ref (a 7), .int am, .int ti, .int ah])), ((a 7), .inl (cI, 5, .inl se))] s.heap := hP
  have hin0 : ∀ w ∈ u_ws RX0 TX0 10, w ∈ wsX0_passSlots := by decide +kernel
  have hin2 : ∀ w ∈ u_ws RX2 TX2 10, w ∈ wsX0_passSlots := by decide +kernel
  have hl := lv_entry [.ref (g 0), .ref (a 0)] (n := 5) (Nat.le_of_ble_eq_true rfl)
  rw [lg_entry_eq]
  generalize (lg_sl [.ref (g 0), .ref (a 0)] ++ List.replicate (5 - (lg_sl [.ref (g 0), .ref (a 0)]).length) Slot.unset).toArray = lz at hl ⊢
  have hl : lv_has lz 5 [(0, .ref (g 0)), (1, .ref (a 0))] := hl
  obtain ⟨hn0, hn96⟩ := hpre
  refine lv_aload_n hx hb dX0_passSlots_0 rfl (lv_at hl 0 rfl) ?_
  refine lv_aload_n hx hb dX0_passSlots_1 rfl (lv_at hl 1 rfl) ?_
  refine va_get (D := (dC, dI)) (ci := 2) (v := .ref (a 7)) (C := RX2) (T := TX2) (N := 10) hx hb hts hin2 hown hK hP 8 rfl rfl 6 (by decide) (hts (.fieldLink RX0 63 "TurnDigits$State" "settings" "[I") (by decide +kernel)) (fun _ h9 => h9) rfl dX0_passSlots_2 ?_
  refine lv_iconst (v := 0) hx hb dX0_passSlots_5 (by decide) ?_
  refine xm_iald (D := (dC, dI)) hx hb hK hP 9 0 0 (v := se 0) rfl rfl (by decide) rfl (by decide) rfl dX0_passSlots_6 ?_
  refine va_put (D := (dC, dI)) (ci := 0) (v := .int (se 0)) (ty := .int) (C := RX0) (T := TX0) (N := 10) hx hb hts hin0 tyX0 tyX0_ok nmX0 hown hK hP hD hS 0 rfl rfl 7 (by decide) (hts (.fieldLink RX0 33 "TurnDigits$Frame" "length" "I") (by decide +kernel)) (fun _ h9 => h9) rfl (by decide +kernel) rfl rfl (Nat.le_of_ble_eq_true rfl) dX0_passSlots_7 (fun H locs hP hD hS => ?_)
  have hP : va_P (dC, dI) vwCl [((g 0), .inr (0, [.ref (g 1), .ref (g 2), .ref (g 3), .ref (g 4), .ref (g 5), .ref (g 6), .ref (g 7), .int (se 0), .int pe, .int ne])), ((g 1), .inl (cI, 96, .inl ow)), ((g 2), .inl (cI, 96, .inl li)), ((g 3), .inl (cI, 6, .inl gp)), ((g 4), .inl (cI, 6, .inl ls)), ((g 5), .inl (cI, 6, .inl lv)), ((g 6), .inl (cI, 6, .inl cr)), ((g 7), .inl (cI, 6, .inl dr)), ((a 0), .inr (2, [.ref (a 1), .ref (a 2), .ref (a 3), .ref (a 4), .ref (a 5), .ref (a 6), .ref (a 7), .int am, .int ti, .int ah])), ((a 7), .inl (cI, 5, .inl se))] H := hP
  have hD : va_D A [((g 0), .inr (0, [.ref (g 1), .ref (g 2), .ref (g 3), .ref (g 4), .ref (g 5), .ref (g 6), .ref (g 7), .int (se 0), .int pe, .int ne])), ((g 1), .inl (cI, 96, .inl ow)), ((g 2), .inl (cI, 96, .inl li)), ((g 3), .inl (cI, 6, .inl gp)), ((g 4), .inl (cI, 6, .inl ls)), ((g 5), .inl (cI, 6, .inl lv)), ((g 6), .inl (cI, 6, .inl cr)), ((g 7), .inl (cI, 6, .inl dr)), ((a 0), .inr (2, [.ref (a 1), .ref (a 2), .ref (a 3), .ref (a 4), .ref (a 5), .ref (a 6), .ref (a 7), .int am, .int ti, .int ah])), ((a 7), .inl (cI, 5, .inl se))] := hD
  refine lv_aload_n hx hb dX0_passSlots_10 rfl (lv_at hl 0 rfl) ?_
  refine lv_aload_n hx hb dX0_passSlots_11 rfl (lv_at hl 1 rfl) ?_
  refine va_get (D := (dC, dI)) (ci := 2) (v := .ref (a 7)) (C := RX2) (T := TX2) (N := 10) hx hb hts hin2 hown hK hP 8 rfl rfl 6 (by decide) (hts (.fieldLink RX0 63 "TurnDigits$State" "settings" "[I") (by decide +kernel)) (fun _ h9 => h9) rfl dX0_passSlots_12 ?_
  refine lv_iconst (v := 2) hx hb dX0_passSlots_15 (by decide) ?_
  refine xm_iald (D := (dC, dI)) hx hb hK hP 9 0 2 (v := se 2) rfl rfl (by decide) rfl (by decide) rfl dX0_passSlots_16 ?_
  refine va_put (D := (dC, dI)) (ci := 0) (v := .int (se 2)) (ty := .int) (C := RX0) (T := TX0) (N := 10) hx hb hts hin0 tyX0 tyX0_ok nmX0 hown hK hP hD hS 0 rfl rfl 8 (by decide) (hts (.fieldLink RX0 37 "TurnDigits$Frame" "persistence" "I") (by decide +kernel)) (fun _ h9 => h9) rfl (by decide +kernel) rfl rfl (Nat.le_of_ble_eq_true rfl) dX0_passSlots_17 (fun H locs hP hD hS => ?_)
  have hP : va_P (dC, dI) vwCl [((g 0), .inr (0, [.ref (g 1), .ref (g 2), .ref (g 3), .ref (g 4), .ref (g 5), .ref (g 6), .ref (g 7), .int (se 0), .int (se 2), .int ne])), ((g 1), .inl (cI, 96, .inl ow)), ((g 2), .inl (cI, 96, .inl li)), ((g 3), .inl (cI, 6, .inl gp)), ((g 4), .inl (cI, 6, .inl ls)), ((g 5), .inl (cI, 6, .inl lv)), ((g 6), .inl (cI, 6, .inl cr)), ((g 7), .inl (cI, 6, .inl dr)), ((a 0), .inr (2, [.ref (a 1), .ref (a 2), .ref (a 3), .ref (a 4), .ref (a 5), .ref (a 6), .ref (a 7), .int am, .int ti, .int ah])), ((a 7), .inl (cI, 5, .inl se))] H := hP
  have hD : va_D A [((g 0), .inr (0, [.ref (g 1), .ref (g 2), .ref (g 3), .ref (g 4), .ref (g 5), .ref (g 6), .ref (g 7), .int (se 0), .int (se 2), .int ne])), ((g 1), .inl (cI, 96, .inl ow)), ((g 2), .inl (cI, 96, .inl li)), ((g 3), .inl (cI, 6, .inl gp)), ((g 4), .inl (cI, 6, .inl ls)), ((g 5), .inl (cI, 6, .inl lv)), ((g 6), .inl (cI, 6, .inl cr)), ((g 7), .inl (cI, 6, .inl dr)), ((a 0), .inr (2, [.ref (a 1), .ref (a 2), .ref (a 3), .ref (a 4), .ref (a 5), .ref (a 6), .ref (a 7), .int am, .int ti, .int ah])), ((a 7), .inl (cI, 5, .inl se))] := hD
  refine lv_aload_n hx hb dX0_passSlots_20 rfl (lv_at hl 0 rfl) ?_
  refine lv_aload_n hx hb dX0_passSlots_21 rfl (lv_at hl 1 rfl) ?_
  refine va_get (D := (dC, dI)) (ci := 2) (v := .ref (a 7)) (C := RX2) (T := TX2) (N := 10) hx hb hts hin2 hown hK hP 8 rfl rfl 6 (by decide) (hts (.fieldLink RX0 63 "TurnDigits$State" "settings" "[I") (by decide +kernel)) (fun _ h9 => h9) rfl dX0_passSlots_22 ?_
  refine lv_iconst (v := 3) hx hb dX0_passSlots_25 (by decide) ?_
  refine xm_iald (D := (dC, dI)) hx hb hK hP 9 0 3 (v := se 3) rfl rfl (by decide) rfl (by decide) rfl dX0_passSlots_26 ?_
  refine lv_aload_n hx hb dX0_passSlots_27 rfl (lv_at hl 1 rfl) ?_
  refine va_get (D := (dC, dI)) (ci := 2) (v := .int am) (C := RX2) (T := TX2) (N := 10) hx hb hts hin2 hown hK hP 8 rfl rfl 7 (by decide) (hts (.fieldLink RX0 66 "TurnDigits$State" "ambientLight" "I") (by decide +kernel)) (fun _ h9 => h9) rfl dX0_passSlots_28 ?_
  refine lv_imul hx hb dX0_passSlots_31 ?_
  refine va_put (D := (dC, dI)) (ci := 0) (v := .int ((se 3) * am)) (ty := .int) (C := RX0) (T := TX0) (N := 10) hx hb hts hin0 tyX0 tyX0_ok nmX0 hown hK hP hD hS 0 rfl rfl 9 (by decide) (hts (.fieldLink RX0 40 "TurnDigits$Frame" "neededLight" "I") (by decide +kernel)) (fun _ h9 => h9) rfl (by decide +kernel) rfl rfl (Nat.le_of_ble_eq_true rfl) dX0_passSlots_32 (fun H locs hP hD hS => ?_)
  have hP : va_P (dC, dI) vwCl [((g 0), .inr (0, [.ref (g 1), .ref (g 2), .ref (g 3), .ref (g 4), .ref (g 5), .ref (g 6), .ref (g 7), .int (se 0), .int (se 2), .int ((se 3) * am)])), ((g 1), .inl (cI, 96, .inl ow)), ((g 2), .inl (cI, 96, .inl li)), ((g 3), .inl (cI, 6, .inl gp)), ((g 4), .inl (cI, 6, .inl ls)), ((g 5), .inl (cI, 6, .inl lv)), ((g 6), .inl (cI, 6, .inl cr)), ((g 7), .inl (cI, 6, .inl dr)), ((a 0), .inr (2, [.ref (a 1), .ref (a 2), .ref (a 3), .ref (a 4), .ref (a 5), .ref (a 6), .ref (a 7), .int am, .int ti, .int ah])), ((a 7), .inl (cI, 5, .inl se))] H := hP
  have hD : va_D A [((g 0), .inr (0, [.ref (g 1), .ref (g 2), .ref (g 3), .ref (g 4), .ref (g 5), .ref (g 6), .ref (g 7), .int (se 0), .int (se 2), .int ((se 3) * am)])), ((g 1), .inl (cI, 96, .inl ow)), ((g 2), .inl (cI, 96, .inl li)), ((g 3), .inl (cI, 6, .inl gp)), ((g 4), .inl (cI, 6, .inl ls)), ((g 5), .inl (cI, 6, .inl lv)), ((g 6), .inl (cI, 6, .inl cr)), ((g 7), .inl (cI, 6, .inl dr)), ((a 0), .inr (2, [.ref (a 1), .ref (a 2), .ref (a 3), .ref (a 4), .ref (a 5), .ref (a 6), .ref (a 7), .int am, .int ti, .int ah])), ((a 7), .inl (cI, 5, .inl se))] := hD
  refine lv_aload_n hx hb dX0_passSlots_35 rfl (lv_at hl 0 rfl) ?_
  refine va_get (D := (dC, dI)) (ci := 0) (v := .ref (g 3)) (C := RX0) (T := TX0) (N := 10) hx hb hts hin0 hown hK hP 0 rfl rfl 2 (by decide) (hts (.fieldLink RX0 18 "TurnDigits$Frame" "gaps" "[I") (by decide +kernel)) (fun _ h9 => h9) rfl dX0_passSlots_36 ?_
  refine lv_iconst (v := 0) hx hb dX0_passSlots_39 (by decide) ?_
  have hPc := hP.sub (ws' := [((g 3), .inl (cI, 6, .inl gp))]) [3] rfl
  have hDc := hD.sub (ws' := [((g 3), .inl (cI, 6, .inl gp))]) [3] (by decide) rfl
  have hFc := va_free (wc := [((g 3), .inl (cI, 6, .inl gp))]) hD hS hA [3] rfl
  refine va_callv (va_runS (As := [.ref (g 3), .int 0]) (rest := []) ⟨hx, hb, hml, hown, hts⟩ (c_J7_fill_53178 l dC dI cI cS cJ tt H.size (g 3) gp 0) (va_cwS 2 hts gX0_passSlots_J7_fill_53178 rfl rfl rfl (by decide +kernel) ⟨Nat.le_of_ble_eq_true rfl, Nat.le_of_ble_eq_true rfl⟩) ⟨xm_Mblind, fun U hU hW => ⟨rfl, by rw [hU], by rw [hU]; exact hPc, hE.go hS hFc hU hW, hDc.weaken (fun _ _ _ _ => trivial), trivial⟩⟩ rfl rfl hl.1 rfl (lv_room (Nat.le_of_ble_eq_true rfl)) dX0_passSlots_40 ⟨Nat.zero_le _, Nat.zero_le _⟩) hS (fun q _ h => hFc q h) hFc (fun u t H1 locs ht hvm hw hB hz1 hk1 hS => ?_)
  obtain ⟨u_1, rfl⟩ : ∃ z, z = u := ⟨_, rfl⟩
  obtain ⟨hP1, hD1⟩ := hB
  rw [ht] at hP1
  have hw_2 := hw
  have hw_2 : u_1 = (fun _ => 0) := hw_2
  subst hw_2
  obtain ⟨hP, hD⟩ := va_join (wr := [((g 0), .inr (0, [.ref (g 1), .ref (g 2), .ref (g 3), .ref (g 4), .ref (g 5), .ref (g 6), .ref (g 7), .int (se 0), .int (se 2), .int ((se 3) * am)])), ((g 1), .inl (cI, 96, .inl ow)), ((g 2), .inl (cI, 96, .inl li)), ((g 4), .inl (cI, 6, .inl ls)), ((g 5), .inl (cI, 6, .inl lv)), ((g 6), .inl (cI, 6, .inl cr)), ((g 7), .inl (cI, 6, .inl dr)), ((a 0), .inr (2, [.ref (a 1), .ref (a 2), .ref (a 3), .ref (a 4), .ref (a 5), .ref (a 6), .ref (a 7), .int am, .int ti, .int ah])), ((a 7), .inl (cI, 5, .inl se))]) (w1 := [((g 3), .inl (cI, 6, .inl (fun _ => 0)))]) hP hD [3] [0, 1, 2, 4, 5, 6, 7, 8, 9] rfl rfl (by decide) (by decide) hk1 hFc hP1 hD1
  generalize H1 = H at hP hS ⊢
  have hP : va_P (dC, dI) vwCl [((g 0), .inr (0, [.ref (g 1), .ref (g 2), .ref (g 3), .ref (g 4), .ref (g 5), .ref (g 6), .ref (g 7), .int (se 0), .int (se 2), .int ((se 3) * am)])), ((g 1), .inl (cI, 96, .inl ow)), ((g 2), .inl (cI, 96, .inl li)), ((g 4), .inl (cI, 6, .inl ls)), ((g 5), .inl (cI, 6, .inl lv)), ((g 6), .inl (cI, 6, .inl cr)), ((g 7), .inl (cI, 6, .inl dr)), ((a 0), .inr (2, [.ref (a 1), .ref (a 2), .ref (a 3), .ref (a 4), .ref (a 5), .ref (a 6), .ref (a 7), .int am, .int ti, .int ah])), ((a 7), .inl (cI, 5, .inl se)), ((g 3), .inl (cI, 6, .inl (fun _ => 0)))] H := hP
  have hD : va_D A [((g 0), .inr (0, [.ref (g 1), .ref (g 2), .ref (g 3), .ref (g 4), .ref (g 5), .ref (g 6), .ref (g 7), .int (se 0), .int (se 2), .int ((se 3) * am)])), ((g 1), .inl (cI, 96, .inl ow)), ((g 2), .inl (cI, 96, .inl li)), ((g 4), .inl (cI, 6, .inl ls)), ((g 5), .inl (cI, 6, .inl lv)), ((g 6), .inl (cI, 6, .inl cr)), ((g 7), .inl (cI, 6, .inl dr)), ((a 0), .inr (2, [.ref (a 1), .ref (a 2), .ref (a 3), .ref (a 4), .ref (a 5), .ref (a 6), .ref (a 7), .int am, .int ti, .int ah])), ((a 7), .inl (cI, 5, .inl se)), ((g 3), .inl (cI, 6, .inl (fun _ => 0)))] := hD
  refine lv_aload_n hx hb dX0_passSlots_43 rfl (lv_at hl 0 rfl) ?_
  refine va_get (D := (dC, dI)) (ci := 0) (v := .ref (g 4)) (C := RX0) (T := TX0) (N := 10) hx hb hts hin0 hown hK hP 0 rfl rfl 3 (by decide) (hts (.fieldLink RX0 21 "TurnDigits$Frame" "litSlots" "[I") (by decide +kernel)) (fun _ h9 => h9) rfl dX0_passSlots_44 ?_
  refine lv_iconst (v := 0) hx hb dX0_passSlots_47 (by decide) ?_
  have hPc := hP.sub (ws' := [((g 4), .inl (cI, 6, .inl ls))]) [3] rfl
  have hDc := hD.sub (ws' := [((g 4), .inl (cI, 6, .inl ls))]) [3] (by decide) rfl
  have hFc := va_free (wc := [((g 4), .inl (cI, 6, .inl ls))]) hD hS hA [3] rfl
  refine va_callv (va_runS (As := [.ref (g 4), .int 0]) (rest := []) ⟨hx, hb, hml, hown, hts⟩ (c_J7_fill_53178 l dC dI cI cS cJ tt H.size (g 4) ls 0) (va_cwS 2 hts gX0_passSlots_J7_fill_53178 rfl rfl rfl (by decide +kernel) ⟨Nat.le_of_ble_eq_true rfl, Nat.le_of_ble_eq_true rfl⟩) ⟨xm_Mblind, fun U hU hW => ⟨rfl, by rw [hU], by rw [hU]; exact hPc, hE.go hS hFc hU hW, hDc.weaken (fun _ _ _ _ => trivial), trivial⟩⟩ rfl rfl hl.1 rfl (lv_room (Nat.le_of_ble_eq_true rfl)) dX0_passSlots_48 ⟨Nat.zero_le _, Nat.zero_le _⟩) hS (fun q _ h => hFc q h) hFc (fun u t H1 locs ht hvm hw hB hz1 hk1 hS => ?_)
  obtain ⟨u_3, rfl⟩ : ∃ z, z = u := ⟨_, rfl⟩
  obtain ⟨hP1, hD1⟩ := hB
  rw [ht] at hP1
  have hw_4 := hw
  have hw_4 : u_3 = (fun _ => 0) := hw_4
  subst hw_4
  obtain ⟨hP, hD⟩ := va_join (wr := [((g 0), .inr (0, [.ref (g 1), .ref (g 2), .ref (g 3), .ref (g 4), .ref (g 5), .ref (g 6), .ref (g 7), .int (se 0), .int (se 2), .int ((se 3) * am)])), ((g 1), .inl (cI, 96, .inl ow)), ((g 2), .inl (cI, 96, .inl li)), ((g 5), .inl (cI, 6, .inl lv)), ((g 6), .inl (cI, 6, .inl cr)), ((g 7), .inl (cI, 6, .inl dr)), ((a 0), .inr (2, [.ref (a 1), .ref (a 2), .ref (a 3), .ref (a 4), .ref (a 5), .ref (a 6), .ref (a 7), .int am, .int ti, .int ah])), ((a 7), .inl (cI, 5, .inl se)), ((g 3), .inl (cI, 6, .inl (fun _ => 0)))]) (w1 := [((g 4), .inl (cI, 6, .inl (fun _ => 0)))]) hP hD [3] [0, 1, 2, 4, 5, 6, 7, 8, 9] rfl rfl (by decide) (by decide) hk1 hFc hP1 hD1
  generalize H1 = H at hP hS ⊢
  have hP : va_P (dC, dI) vwCl [((g 0), .inr (0, [.ref (g 1), .ref (g 2), .ref (g 3), .ref (g 4), .ref (g 5), .ref (g 6), .ref (g 7), .int (se 0), .int (se 2), .int ((se 3) * am)])), ((g 1), .inl (cI, 96, .inl ow)), ((g 2), .inl (cI, 96, .inl li)), ((g 5), .inl (cI, 6, .inl lv)), ((g 6), .inl (cI, 6, .inl cr)), ((g 7), .inl (cI, 6, .inl dr)), ((a 0), .inr (2, [.ref (a 1), .ref (a 2), .ref (a 3), .ref (a 4), .ref (a 5), .ref (a 6), .ref (a 7), .int am, .int ti, .int ah])), ((a 7), .inl (cI, 5, .inl se)), ((g 3), .inl (cI, 6, .inl (fun _ => 0))), ((g 4), .inl (cI, 6, .inl (fun _ => 0)))] H := hP
  have hD : va_D A [((g 0), .inr (0, [.ref (g 1), .ref (g 2), .ref (g 3), .ref (g 4), .ref (g 5), .ref (g 6), .ref (g 7), .int (se 0), .int (se 2), .int ((se 3) * am)])), ((g 1), .inl (cI, 96, .inl ow)), ((g 2), .inl (cI, 96, .inl li)), ((g 5), .inl (cI, 6, .inl lv)), ((g 6), .inl (cI, 6, .inl cr)), ((g 7), .inl (cI, 6, .inl dr)), ((a 0), .inr (2, [.ref (a 1), .ref (a 2), .ref (a 3), .ref (a 4), .ref (a 5), .ref (a 6), .ref (a 7), .int am, .int ti, .int ah])), ((a 7), .inl (cI, 5, .inl se)), ((g 3), .inl (cI, 6, .inl (fun _ => 0))), ((g 4), .inl (cI, 6, .inl (fun _ => 0)))] := hD
  refine lv_aload_n hx hb dX0_passSlots_51 rfl (lv_at hl 0 rfl) ?_
  refine va_get (D := (dC, dI)) (ci := 0) (v := .ref (g 7)) (C := RX0) (T := TX0) (N := 10) hx hb hts hin0 hown hK hP 0 rfl rfl 6 (by decide) (hts (.fieldLink RX0 30 "TurnDigits$Frame" "darkRows" "[I") (by decide +kernel)) (fun _ h9 => h9) rfl dX0_passSlots_52 ?_
  refine lv_iconst (v := 0) hx hb dX0_passSlots_55 (by decide) ?_
  have hPc := hP.sub (ws' := [((g 7), .inl (cI, 6, .inl dr))]) [5] rfl
  have hDc := hD.sub (ws' := [((g 7), .inl (cI, 6, .inl dr))]) [5] (by decide) rfl
  have hFc := va_free (wc := [((g 7), .inl (cI, 6, .inl dr))]) hD hS hA [5] rfl
  refine va_callv (va_runS (As := [.ref (g 7), .int 0]) (rest := []) ⟨hx, hb, hml, hown, hts⟩ (c_J7_fill_53178 l dC dI cI cS cJ tt H.size (g 7) dr 0) (va_cwS 2 hts gX0_passSlots_J7_fill_53178 rfl rfl rfl (by decide +kernel) ⟨Nat.le_of_ble_eq_true rfl, Nat.le_of_ble_eq_true rfl⟩) ⟨xm_Mblind, fun U hU hW => ⟨rfl, by rw [hU], by rw [hU]; exact hPc, hE.go hS hFc hU hW, hDc.weaken (fun _ _ _ _ => trivial), trivial⟩⟩ rfl rfl hl.1 rfl (lv_room (Nat.le_of_ble_eq_true rfl)) dX0_passSlots_56 ⟨Nat.zero_le _, Nat.zero_le _⟩) hS (fun q _ h => hFc q h) hFc (fun u t H1 locs ht hvm hw hB hz1 hk1 hS => ?_)
  obtain ⟨u_5, rfl⟩ : ∃ z, z = u := ⟨_, rfl⟩
  obtain ⟨hP1, hD1⟩ := hB
  rw [ht] at hP1
  have hw_6 := hw
  have hw_6 : u_5 = (fun _ => 0) := hw_6
  subst hw_6
  obtain ⟨hP, hD⟩ := va_join (wr := [((g 0), .inr (0, [.ref (g 1), .ref (g 2), .ref (g 3), .ref (g 4), .ref (g 5), .ref (g 6), .ref (g 7), .int (se 0), .int (se 2), .int ((se 3) * am)])), ((g 1), .inl (cI, 96, .inl ow)), ((g 2), .inl (cI, 96, .inl li)), ((g 5), .inl (cI, 6, .inl lv)), ((g 6), .inl (cI, 6, .inl cr)), ((a 0), .inr (2, [.ref (a 1), .ref (a 2), .ref (a 3), .ref (a 4), .ref (a 5), .ref (a 6), .ref (a 7), .int am, .int ti, .int ah])), ((a 7), .inl (cI, 5, .inl se)), ((g 3), .inl (cI, 6, .inl (fun _ => 0))), ((g 4), .inl (cI, 6, .inl (fun _ => 0)))]) (w1 := [((g 7), .inl (cI, 6, .inl (fun _ => 0)))]) hP hD [5] [0, 1, 2, 3, 4, 6, 7, 8, 9] rfl rfl (by decide) (by decide) hk1 hFc hP1 hD1
  generalize H1 = H at hP hS ⊢
  have hP : va_P (dC, dI) vwCl [((g 0), .inr (0, [.ref (g 1), .ref (g 2), .ref (g 3), .ref (g 4), .ref (g 5), .ref (g 6), .ref (g 7), .int (se 0), .int (se 2), .int ((se 3) * am)])), ((g 1), .inl (cI, 96, .inl ow)), ((g 2), .inl (cI, 96, .inl li)), ((g 5), .inl (cI, 6, .inl lv)), ((g 6), .inl (cI, 6, .inl cr)), ((a 0), .inr (2, [.ref (a 1), .ref (a 2), .ref (a 3), .ref (a 4), .ref (a 5), .ref (a 6), .ref (a 7), .int am, .int ti, .int ah])), ((a 7), .inl (cI, 5, .inl se)), ((g 3), .inl (cI, 6, .inl (fun _ => 0))), ((g 4), .inl (cI, 6, .inl (fun _ => 0))), ((g 7), .inl (cI, 6, .inl (fun _ => 0)))] H := hP
  have hD : va_D A [((g 0), .inr (0, [.ref (g 1), .ref (g 2), .ref (g 3), .ref (g 4), .ref (g 5), .ref (g 6), .ref (g 7), .int (se 0), .int (se 2), .int ((se 3) * am)])), ((g 1), .inl (cI, 96, .inl ow)), ((g 2), .inl (cI, 96, .inl li)), ((g 5), .inl (cI, 6, .inl lv)), ((g 6), .inl (cI, 6, .inl cr)), ((a 0), .inr (2, [.ref (a 1), .ref (a 2), .ref (a 3), .ref (a 4), .ref (a 5), .ref (a 6), .ref (a 7), .int am, .int ti, .int ah])), ((a 7), .inl (cI, 5, .inl se)), ((g 3), .inl (cI, 6, .inl (fun _ => 0))), ((g 4), .inl (cI, 6, .inl (fun _ => 0))), ((g 7), .inl (cI, 6, .inl (fun _ => 0)))] := hD
  have J74 : ∀ (dk : Int32), (dk = fm_dk (se 1)) → ∀ (H : Heap) (locs : List Loc), va_P (dC, dI) vwCl [((g 0), .inr (0, [.ref (g 1), .ref (g 2), .ref (g 3), .ref (g 4), .ref (g 5), .ref (g 6), .ref (g 7), .int (se 0), .int (se 2), .int ((se 3) * am)])), ((g 1), .inl (cI, 96, .inl ow)), ((g 2), .inl (cI, 96, .inl li)), ((g 5), .inl (cI, 6, .inl lv)), ((g 6), .inl (cI, 6, .inl cr)), ((a 0), .inr (2, [.ref (a 1), .ref (a 2), .ref (a 3), .ref (a 4), .ref (a 5), .ref (a 6), .ref (a 7), .int am, .int ti, .int ah])), ((a 7), .inl (cI, 5, .inl se)), ((g 3), .inl (cI, 6, .inl (fun _ => 0))), ((g 4), .inl (cI, 6, .inl (fun _ => 0))), ((g 7), .inl (cI, 6, .inl (fun _ => 0)))] H → va_D A [((g 0), .inr (0, [.ref (g 1), .ref (g 2), .ref (g 3), .ref (g 4), .ref (g 5), .ref (g 6), .ref (g 7), .int (se 0), .int (se 2), .int ((se 3) * am)])), ((g 1), .inl (cI, 96, .inl ow)), ((g 2), .inl (cI, 96, .inl li)), ((g 5), .inl (cI, 6, .inl lv)), ((g 6), .inl (cI, 6, .inl cr)), ((a 0), .inr (2, [.ref (a 1), .ref (a 2), .ref (a 3), .ref (a 4), .ref (a 5), .ref (a 6), .ref (a 7), .int am, .int ti, .int ah])), ((a 7), .inl (cI, 5, .inl se)), ((g 3), .inl (cI, 6, .inl (fun _ => 0))), ((g 4), .inl (cI, 6, .inl (fun _ => 0))), ((g 7), .inl (cI, 6, .inl (fun _ => 0)))] → va_S A s.heap H locs → ∀ (lz : Array Slot), lv_has lz 5 [(0, .ref (g 0)), (1, .ref (a 0))] → W p l e (headSpec wsX0_passSlots ({ frames := 2, cells := 0, slots := 0, locals := 43 } : Room)).room s m ([.ref (g 0), .ref (a 0)] : List Value).toArray below meth c H locs 0 0 (MQ below (va_Qv (fun (u : (Nat → Int32) × (Nat → Int32) × (Nat → Int32) × (Nat → Int32) × (Nat → Int32) × (Nat → Int32) × Int32 × Int32 × Int32) => u.1 = fm_fl (fr_ow lv cr) ow n ∧ u.2.1 = fm_fl (fr_li lv cr ah (fm_dk (se 1))) li n ∧ u.2.2.1 = fr_gp (fr_li lv cr ah (fm_dk (se 1))) n ∧ u.2.2.2.1 = fr_ls (fr_li lv cr ah (fm_dk (se 1))) n ∧ u.2.2.2.2.1 = fr_cr lv cr n ∧ u.2.2.2.2.2.1 = fr_dr (fr_li lv cr ah (fm_dk (se 1))) n ∧ u.2.2.2.2.2.2.1 = se 0 ∧ u.2.2.2.2.2.2.2.1 = se 2 ∧ u.2.2.2.2.2.2.2.2 = se 3 * am) (xm_B (dC, dI) (fun (u : (Nat → Int32) × (Nat → Int32) × (Nat → Int32) × (Nat → Int32) × (Nat → Int32) × (Nat → Int32) × Int32 × Int32 × Int32) => [((g 0), .inr (0, [.ref (g 1), .ref (g 2), .ref (g 3), .ref (g 4), .ref (g 5), .ref (g 6), .ref (g 7), .int u.2.2.2.2.2.2.1, .int u.2.2.2.2.2.2.2.1, .int u.2.2.2.2.2.2.2.2])), ((g 1), .inl (cI, 96, .inl u.1)), ((g 2), .inl (cI, 96, .inl u.2.1)), ((g 3), .inl (cI, 6, .inl u.2.2.1)), ((g 4), .inl (cI, 6, .inl u.2.2.2.1)), ((g 5), .inl (cI, 6, .inl lv)), ((g 6), .inl (cI, 6, .inl u.2.2.2.2.1)), ((g 7), .inl (cI, 6, .inl u.2.2.2.2.2.1)), ((a 0), .inr (2, [.ref (a 1), .ref (a 2), .ref (a 3), .ref (a 4), .ref (a 5), .ref (a 6), .ref (a 7), .int am, .int ti, .int ah])), ((a 7), .inl (cI, 5, .inl se))]) A) A) ([.ref (g 0), .ref (a 0)] : List Value).toArray s 0 0 A) (F0 m 74 lz [.int dk]) := by
    intro dk edk H locs hP hD hS lz hl
    subst edk
    refine lv_istore_n (lv' := [(2, .int (fm_dk (se 1))), (0, .ref (g 0)), (1, .ref (a 0))]) hx hb dX0_passSlots_74 rfl hl (by decide) rfl (fun lz hl => ?_)
    refine lv_aload_n hx hb dX0_passSlots_75 rfl (lv_at hl 2 rfl) ?_
    refine va_get (D := (dC, dI)) (ci := 2) (v := .int ah) (C := RX2) (T := TX2) (N := 10) hx hb hts hin2 hown hK hP 5 rfl rfl 9 (by decide) (hts (.fieldLink RX0 69 "TurnDigits$State" "ahead" "I") (by decide +kernel)) (fun _ h9 => h9) rfl dX0_passSlots_76 ?_
    refine lv_istore_n (lv' := [(3, .int ah), (2, .int (fm_dk (se 1))), (0, .ref (g 0)), (1, .ref (a 0))]) hx hb dX0_passSlots_79 rfl hl (by decide) rfl (fun lz hl => ?_)
    refine lv_iconst (v := 0) hx hb dX0_passSlots_80 (by decide) ?_
    refine lv_istore (lv' := [(4, .int 0), (3, .int ah), (2, .int (fm_dk (se 1))), (0, .ref (g 0)), (1, .ref (a 0))]) hx hb dX0_passSlots_81 hl (by decide) rfl (fun lz hl => ?_)
    have L83 : ∀ (zz i : Nat), i ≤ n → n + 1 ≤ i + zz → ∀ (x3 : Int32) (f1 : Nat → Int32) (f2 : Nat → Int32) (f3 : Nat → Int32) (f4 : Nat → Int32) (f6 : Nat → Int32) (f7 : Nat → Int32), x3 = fr_ah lv cr ah i → f1 = fm_fl (fr_ow lv cr) ow i → f2 = fm_fl (fr_li lv cr ah (fm_dk (se 1))) li i → f3 = fr_gp (fr_li lv cr ah (fm_dk (se 1))) i → f4 = fr_ls (fr_li lv cr ah (fm_dk (se 1))) i → f6 = fr_cr lv cr i → f7 = fr_dr (fr_li lv cr ah (fm_dk (se 1))) i → ∀ (H : Heap) (locs : List Loc), va_P (dC, dI) vwCl [((g 0), .inr (0, [.ref (g 1), .ref (g 2), .ref (g 3), .ref (g 4), .ref (g 5), .ref (g 6), .ref (g 7), .int (se 0), .int (se 2), .int ((se 3) * am)])), ((g 1), .inl (cI, 96, .inl f1)), ((g 2), .inl (cI, 96, .inl f2)), ((g 3), .inl (cI, 6, .inl f3)), ((g 4), .inl (cI, 6, .inl f4)), ((g 5), .inl (cI, 6, .inl lv)), ((g 6), .inl (cI, 6, .inl f6)), ((g 7), .inl (cI, 6, .inl f7)), ((a 0), .inr (2, [.ref (a 1), .ref (a 2), .ref (a 3), .ref (a 4), .ref (a 5), .ref (a 6), .ref (a 7), .int am, .int ti, .int ah])), ((a 7), .inl (cI, 5, .inl se))] H → va_D A [((g 0), .inr (0, [.ref (g 1), .ref (g 2), .ref (g 3), .ref (g 4), .ref (g 5), .ref (g 6), .ref (g 7), .int (se 0), .int (se 2), .int ((se 3) * am)])), ((g 1), .inl (cI, 96, .inl f1)), ((g 2), .inl (cI, 96, .inl f2)), ((g 3), .inl (cI, 6, .inl f3)), ((g 4), .inl (cI, 6, .inl f4)), ((g 5), .inl (cI, 6, .inl lv)), ((g 6), .inl (cI, 6, .inl f6)), ((g 7), .inl (cI, 6, .inl f7)), ((a 0), .inr (2, [.ref (a 1), .ref (a 2), .ref (a 3), .ref (a 4), .ref (a 5), .ref (a 6), .ref (a 7), .int am, .int ti, .int ah])), ((a 7), .inl (cI, 5, .inl se))] → va_S A s.heap H locs → ∀ (lz : Array Slot), lv_has lz 5 [(0, .ref (g 0)), (1, .ref (a 0)), (2, .int (fm_dk (se 1))), (3, .int x3), (4, .int (nI i))] → W p l e (headSpec wsX0_passSlots ({ frames := 2, cells := 0, slots := 0, locals := 43 } : Room)).room s m ([.ref (g 0), .ref (a 0)] : List Value).toArray below meth c H locs 0 0 (MQ below (va_Qv (fun (u : (Nat → Int32) × (Nat → Int32) × (Nat → Int32) × (Nat → Int32) × (Nat → Int32) × (Nat → Int32) × Int32 × Int32 × Int32) => u.1 = fm_fl (fr_ow lv cr) ow n ∧ u.2.1 = fm_fl (fr_li lv cr ah (fm_dk (se 1))) li n ∧ u.2.2.1 = fr_gp (fr_li lv cr ah (fm_dk (se 1))) n ∧ u.2.2.2.1 = fr_ls (fr_li lv cr ah (fm_dk (se 1))) n ∧ u.2.2.2.2.1 = fr_cr lv cr n ∧ u.2.2.2.2.2.1 = fr_dr (fr_li lv cr ah (fm_dk (se 1))) n ∧ u.2.2.2.2.2.2.1 = se 0 ∧ u.2.2.2.2.2.2.2.1 = se 2 ∧ u.2.2.2.2.2.2.2.2 = se 3 * am) (xm_B (dC, dI) (fun (u : (Nat → Int32) × (Nat → Int32) × (Nat → Int32) × (Nat → Int32) × (Nat → Int32) × (Nat → Int32) × Int32 × Int32 × Int32) => [((g 0), .inr (0, [.ref (g 1), .ref (g 2), .ref (g 3), .ref (g 4), .ref (g 5), .ref (g 6), .ref (g 7), .int u.2.2.2.2.2.2.1, .int u.2.2.2.2.2.2.2.1, .int u.2.2.2.2.2.2.2.2])), ((g 1), .inl (cI, 96, .inl u.1)), ((g 2), .inl (cI, 96, .inl u.2.1)), ((g 3), .inl (cI, 6, .inl u.2.2.1)), ((g 4), .inl (cI, 6, .inl u.2.2.2.1)), ((g 5), .inl (cI, 6, .inl lv)), ((g 6), .inl (cI, 6, .inl u.2.2.2.2.1)), ((g 7), .inl (cI, 6, .inl u.2.2.2.2.2.1)), ((a 0), .inr (2, [.ref (a 1), .ref (a 2), .ref (a 3), .ref (a 4), .ref (a 5), .ref (a 6), .ref (a 7), .int am, .int ti, .int ah])), ((a 7), .inl (cI, 5, .inl se))]) A) A) ([.ref (g 0), .ref (a 0)] : List Value).toArray s 0 0 A) (F0 m 83 lz []) := by
      intro zz
      induction zz with
      | zero => intro i hii hni; exact absurd hni (by omega)
      | succ zz ih83 =>
        intro i hii hni x3 f1 f2 f3 f4 f6 f7 e_x3 e_f1 e_f2 e_f3 e_f4 e_f6 e_f7  H locs hP hD hS lz hl
        subst e_x3 e_f1 e_f2 e_f3 e_f4 e_f6 e_f7
        refine lv_iload hx hb dX0_passSlots_83 (lv_at hl 4 rfl) ?_
        refine lv_bipush (v := 96) hx hb dX0_passSlots_85 (by decide) ?_
        refine lv_icmp_ge (tgt := 161) hx hb dX0_passSlots_87 (by decide) (fun q87 => ?_) (fun q87 => ?_)
        · have hNi : n = i := by have h := xm_end (N := 96) (Nat.le_trans hii hn96) (by decide) q87; omega
          subst hNi
          have hP9 : va_P (dC, dI) vwCl [((g 0), .inr (0, [.ref (g 1), .ref (g 2), .ref (g 3), .ref (g 4), .ref (g 5), .ref (g 6), .ref (g 7), .int (se 0), .int (se 2), .int ((se 3) * am)])), ((g 1), .inl (cI, 96, .inl (fm_fl (fr_ow lv cr) ow n))), ((g 2), .inl (cI, 96, .inl (fm_fl (fr_li lv cr ah (fm_dk (se 1))) li n))), ((g 3), .inl (cI, 6, .inl (fr_gp (fr_li lv cr ah (fm_dk (se 1))) n))), ((g 4), .inl (cI, 6, .inl (fr_ls (fr_li lv cr ah (fm_dk (se 1))) n))), ((g 5), .inl (cI, 6, .inl lv)), ((g 6), .inl (cI, 6, .inl (fr_cr lv cr n))), ((g 7), .inl (cI, 6, .inl (fr_dr (fr_li lv cr ah (fm_dk (se 1))) n))), ((a 0), .inr (2, [.ref (a 1), .ref (a 2), .ref (a 3), .ref (a 4), .ref (a 5), .ref (a 6), .ref (a 7), .int am, .int ti, .int ah])), ((a 7), .inl (cI, 5, .inl se))] H := hP
          have hD9 : va_D A [((g 0), .inr (0, [.ref (g 1), .ref (g 2), .ref (g 3), .ref (g 4), .ref (g 5), .ref (g 6), .ref (g 7), .int (se 0), .int (se 2), .int ((se 3) * am)])), ((g 1), .inl (cI, 96, .inl (fm_fl (fr_ow lv cr) ow n))), ((g 2), .inl (cI, 96, .inl (fm_fl (fr_li lv cr ah (fm_dk (se 1))) li n))), ((g 3), .inl (cI, 6, .inl (fr_gp (fr_li lv cr ah (fm_dk (se 1))) n))), ((g 4), .inl (cI, 6, .inl (fr_ls (fr_li lv cr ah (fm_dk (se 1))) n))), ((g 5), .inl (cI, 6, .inl lv)), ((g 6), .inl (cI, 6, .inl (fr_cr lv cr n))), ((g 7), .inl (cI, 6, .inl (fr_dr (fr_li lv cr ah (fm_dk (se 1))) n))), ((a 0), .inr (2, [.ref (a 1), .ref (a 2), .ref (a 3), .ref (a 4), .ref (a 5), .ref (a 6), .ref (a 7), .int am, .int ti, .int ah])), ((a 7), .inl (cI, 5, .inl se))] := hD
          exact W.vret hx hb hr (fun t ht hW => ⟨⟨((fm_fl (fr_ow lv cr) ow n), (fm_fl (fr_li lv cr ah (fm_dk (se 1))) li n), (fr_gp (fr_li lv cr ah (fm_dk (se 1))) n), (fr_ls (fr_li lv cr ah (fm_dk (se 1))) n), (fr_cr lv cr n), (fr_dr (fr_li lv cr ah (fm_dk (se 1))) n), se 0, se 2, (se 3) * am), rfl, ⟨(rfl), (rfl), (rfl), (rfl), (rfl), (rfl), rfl, rfl, (rfl)⟩, by rw [ht]; exact hP9, hD9⟩, hS.F ht⟩) hS.2.2 dX0_passSlots_161
        · refine lv_iload hx hb dX0_passSlots_90 (lv_at hl 4 rfl) ?_
          refine lv_aload_n hx hb dX0_passSlots_92 rfl (lv_at hl 0 rfl) ?_
          refine va_get (D := (dC, dI)) (ci := 0) (v := .int (se 0)) (C := RX0) (T := TX0) (N := 10) hx hb hts hin0 hown hK hP 0 rfl rfl 7 (by decide) (hts (.fieldLink RX0 33 "TurnDigits$Frame" "length" "I") (by decide +kernel)) (fun _ h9 => h9) rfl dX0_passSlots_93 ?_
          refine lv_icmp_ge (tgt := 161) hx hb dX0_passSlots_96 (by decide) (fun q96 => ?_) (fun q96 => ?_)
          · have hNi : n = i := (xm_end (N := n) hii (by omega) (by rw [← hn0]; exact q96)).symm
            subst hNi
            have hP9 : va_P (dC, dI) vwCl [((g 0), .inr (0, [.ref (g 1), .ref (g 2), .ref (g 3), .ref (g 4), .ref (g 5), .ref (g 6), .ref (g 7), .int (se 0), .int (se 2), .int ((se 3) * am)])), ((g 1), .inl (cI, 96, .inl (fm_fl (fr_ow lv cr) ow n))), ((g 2), .inl (cI, 96, .inl (fm_fl (fr_li lv cr ah (fm_dk (se 1))) li n))), ((g 3), .inl (cI, 6, .inl (fr_gp (fr_li lv cr ah (fm_dk (se 1))) n))), ((g 4), .inl (cI, 6, .inl (fr_ls (fr_li lv cr ah (fm_dk (se 1))) n))), ((g 5), .inl (cI, 6, .inl lv)), ((g 6), .inl (cI, 6, .inl (fr_cr lv cr n))), ((g 7), .inl (cI, 6, .inl (fr_dr (fr_li lv cr ah (fm_dk (se 1))) n))), ((a 0), .inr (2, [.ref (a 1), .ref (a 2), .ref (a 3), .ref (a 4), .ref (a 5), .ref (a 6), .ref (a 7), .int am, .int ti, .int ah])), ((a 7), .inl (cI, 5, .inl se))] H := hP
            have hD9 : va_D A [((g 0), .inr (0, [.ref (g 1), .ref (g 2), .ref (g 3), .ref (g 4), .ref (g 5), .ref (g 6), .ref (g 7), .int (se 0), .int (se 2), .int ((se 3) * am)])), ((g 1), .inl (cI, 96, .inl (fm_fl (fr_ow lv cr) ow n))), ((g 2), .inl (cI, 96, .inl (fm_fl (fr_li lv cr ah (fm_dk (se 1))) li n))), ((g 3), .inl (cI, 6, .inl (fr_gp (fr_li lv cr ah (fm_dk (se 1))) n))), ((g 4), .inl (cI, 6, .inl (fr_ls (fr_li lv cr ah (fm_dk (se 1))) n))), ((g 5), .inl (cI, 6, .inl lv)), ((g 6), .inl (cI, 6, .inl (fr_cr lv cr n))), ((g 7), .inl (cI, 6, .inl (fr_dr (fr_li lv cr ah (fm_dk (se 1))) n))), ((a 0), .inr (2, [.ref (a 1), .ref (a 2), .ref (a 3), .ref (a 4), .ref (a 5), .ref (a 6), .ref (a 7), .int am, .int ti, .int ah])), ((a 7), .inl (cI, 5, .inl se))] := hD
            exact W.vret hx hb hr (fun t ht hW => ⟨⟨((fm_fl (fr_ow lv cr) ow n), (fm_fl (fr_li lv cr ah (fm_dk (se 1))) li n), (fr_gp (fr_li lv cr ah (fm_dk (se 1))) n), (fr_ls (fr_li lv cr ah (fm_dk (se 1))) n), (fr_cr lv cr n), (fr_dr (fr_li lv cr ah (fm_dk (se 1))) n), se 0, se 2, (se 3) * am), rfl, ⟨(rfl), (rfl), (rfl), (rfl), (rfl), (rfl), rfl, rfl, (rfl)⟩, by rw [ht]; exact hP9, hD9⟩, hS.F ht⟩) hS.2.2 dX0_passSlots_161
          · have hlti : i < n := xm_lt (N := n) hii (by omega) (by rw [← hn0]; exact q96)
            refine lv_aload_n hx hb dX0_passSlots_99 rfl (lv_at hl 0 rfl) ?_
            refine va_get (D := (dC, dI)) (ci := 0) (v := .ref (g 1)) (C := RX0) (T := TX0) (N := 10) hx hb hts hin0 hown hK hP 0 rfl rfl 0 (by decide) (hts (.fieldLink RX0 9 "TurnDigits$Frame" "owners" "[I") (by decide +kernel)) (fun _ h9 => h9) rfl dX0_passSlots_100 ?_
            refine lv_iload hx hb dX0_passSlots_103 (lv_at hl 4 rfl) ?_
            refine lv_aload_n hx hb dX0_passSlots_105 rfl (lv_at hl 0 rfl) ?_
            refine va_get (D := (dC, dI)) (ci := 0) (v := .ref (g 5)) (C := RX0) (T := TX0) (N := 10) hx hb hts hin0 hown hK hP 0 rfl rfl 4 (by decide) (hts (.fieldLink RX0 24 "TurnDigits$Frame" "levels" "[I") (by decide +kernel)) (fun _ h9 => h9) rfl dX0_passSlots_106 ?_
            refine lv_aload_n hx hb dX0_passSlots_109 rfl (lv_at hl 0 rfl) ?_
            refine va_get (D := (dC, dI)) (ci := 0) (v := .ref (g 6)) (C := RX0) (T := TX0) (N := 10) hx hb hts hin0 hown hK hP 0 rfl rfl 5 (by decide) (hts (.fieldLink RX0 27 "TurnDigits$Frame" "credits" "[I") (by decide +kernel)) (fun _ h9 => h9) rfl dX0_passSlots_110 ?_
            have hPc := hP.sub (ws' := [((g 5), .inl (cI, 6, .inl lv)), ((g 6), .inl (cI, 6, .inl (fr_cr lv cr i)))]) [5, 6] rfl
            have hDc := hD.sub (ws' := [((g 5), .inl (cI, 6, .inl lv)), ((g 6), .inl (cI, 6, .inl (fr_cr lv cr i)))]) [5, 6] (by decide) rfl
            have hFc := va_free (wc := [((g 5), .inl (cI, 6, .inl lv)), ((g 6), .inl (cI, 6, .inl (fr_cr lv cr i)))]) hD hS hA [5, 6] rfl
            refine va_calli (va_runSN (As := [.ref (g 5), .ref (g 6)]) (rest := [.int (nI i), .ref (g 1)]) ⟨hx, hb, hml, hown, hts⟩ (c_X4_giveSlot l dC dI cI cS cJ tt H.size (g 5) (g 6) lv (fr_cr lv cr i)) ⟨va_cnB 2 hts gX0_passSlots_X4_giveSlot_n72 rfl rfl rfl hE.2.1.2.2.2.1 (hts (.initialized RX4) (by decide +kernel)) (by decide +kernel) ⟨Nat.le_of_ble_eq_true rfl, Nat.le_of_ble_eq_true rfl⟩, hts (.static yX4_giveSlot) (by decide +kernel), trivial⟩ ⟨xm_Mblind, fun U hU hW => ⟨rfl, by rw [hU], by rw [hU]; exact hPc, hE.go hS hFc hU hW, hDc.weaken (fun _ _ _ _ => trivial), trivial⟩⟩ rfl rfl hl.1 rfl (lv_room (Nat.le_of_ble_eq_true rfl)) dX0_passSlots_113 ⟨Nat.zero_le _, Nat.zero_le _⟩) hS (fun q _ h => hFc q h) hFc (fun r u t H1 locs ht hvm hw hB hz1 hk1 hS => ?_)
            obtain ⟨u_7, rfl⟩ : ∃ z, z = u := ⟨_, rfl⟩
            obtain ⟨hP1, hD1⟩ := hB
            rw [ht] at hP1
            obtain ⟨hw_8, hw_9⟩ := hw
            have hw_8 : r = fm_own lv (fr_cr lv cr i) 6 := hw_8
            subst hw_8
            have hw_9 : u_7 = fm_crd lv (fr_cr lv cr i) := hw_9
            subst hw_9
            obtain ⟨hP, hD⟩ := va_join (wr := [((g 0), .inr (0, [.ref (g 1), .ref (g 2), .ref (g 3), .ref (g 4), .ref (g 5), .ref (g 6), .ref (g 7), .int (se 0), .int (se 2), .int ((se 3) * am)])), ((g 1), .inl (cI, 96, .inl (fm_fl (fr_ow lv cr) ow i))), ((g 2), .inl (cI, 96, .inl (fm_fl (fr_li lv cr ah (fm_dk (se 1))) li i))), ((g 3), .inl (cI, 6, .inl (fr_gp (fr_li lv cr ah (fm_dk (se 1))) i))), ((g 4), .inl (cI, 6, .inl (fr_ls (fr_li lv cr ah (fm_dk (se 1))) i))), ((g 7), .inl (cI, 6, .inl (fr_dr (fr_li lv cr ah (fm_dk (se 1))) i))), ((a 0), .inr (2, [.ref (a 1), .ref (a 2), .ref (a 3), .ref (a 4), .ref (a 5), .ref (a 6), .ref (a 7), .int am, .int ti, .int ah])), ((a 7), .inl (cI, 5, .inl se))]) (w1 := [((g 5), .inl (cI, 6, .inl lv)), ((g 6), .inl (cI, 6, .inl (fm_crd lv (fr_cr lv cr i))))]) hP hD [5, 6] [0, 1, 2, 3, 4, 7, 8, 9] rfl rfl (by decide) (by decide) hk1 hFc hP1 hD1
            generalize H1 = H at hP hS ⊢
            have hP : va_P (dC, dI) vwCl [((g 0), .inr (0, [.ref (g 1), .ref (g 2), .ref (g 3), .ref (g 4), .ref (g 5), .ref (g 6), .ref (g 7), .int (se 0), .int (se 2), .int ((se 3) * am)])), ((g 1), .inl (cI, 96, .inl (fm_fl (fr_ow lv cr) ow i))), ((g 2), .inl (cI, 96, .inl (fm_fl (fr_li lv cr ah (fm_dk (se 1))) li i))), ((g 3), .inl (cI, 6, .inl (fr_gp (fr_li lv cr ah (fm_dk (se 1))) i))), ((g 4), .inl (cI, 6, .inl (fr_ls (fr_li lv cr ah (fm_dk (se 1))) i))), ((g 7), .inl (cI, 6, .inl (fr_dr (fr_li lv cr ah (fm_dk (se 1))) i))), ((a 0), .inr (2, [.ref (a 1), .ref (a 2), .ref (a 3), .ref (a 4), .ref (a 5), .ref (a 6), .ref (a 7), .int am, .int ti, .int ah])), ((a 7), .inl (cI, 5, .inl se)), ((g 5), .inl (cI, 6, .inl lv)), ((g 6), .inl (cI, 6, .inl (fm_crd lv (fr_cr lv cr i))))] H := hP
            have hD : va_D A [((g 0), .inr (0, [.ref (g 1), .ref (g 2), .ref (g 3), .ref (g 4), .ref (g 5), .ref (g 6), .ref (g 7), .int (se 0), .int (se 2), .int ((se 3) * am)])), ((g 1), .inl (cI, 96, .inl (fm_fl (fr_ow lv cr) ow i))), ((g 2), .inl (cI, 96, .inl (fm_fl (fr_li lv cr ah (fm_dk (se 1))) li i))), ((g 3), .inl (cI, 6, .inl (fr_gp (fr_li lv cr ah (fm_dk (se 1))) i))), ((g 4), .inl (cI, 6, .inl (fr_ls (fr_li lv cr ah (fm_dk (se 1))) i))), ((g 7), .inl (cI, 6, .inl (fr_dr (fr_li lv cr ah (fm_dk (se 1))) i))), ((a 0), .inr (2, [.ref (a 1), .ref (a 2), .ref (a 3), .ref (a 4), .ref (a 5), .ref (a 6), .ref (a 7), .int am, .int ti, .int ah])), ((a 7), .inl (cI, 5, .inl se)), ((g 5), .inl (cI, 6, .inl lv)), ((g 6), .inl (cI, 6, .inl (fm_crd lv (fr_cr lv cr i))))] := hD
            refine xm_iast (D := (dC, dI)) hx hb hK hP hD hS 1 0 i rfl rfl (by decide) rfl (by omega) dX0_passSlots_116 (fun H locs hP hD hS => ?_)
            have hP : va_P (dC, dI) vwCl [((g 0), .inr (0, [.ref (g 1), .ref (g 2), .ref (g 3), .ref (g 4), .ref (g 5), .ref (g 6), .ref (g 7), .int (se 0), .int (se 2), .int ((se 3) * am)])), ((g 1), .inl (cI, 96, .inl (upd (fm_fl (fr_ow lv cr) ow i) i (fm_own lv (fr_cr lv cr i) 6)))), ((g 2), .inl (cI, 96, .inl (fm_fl (fr_li lv cr ah (fm_dk (se 1))) li i))), ((g 3), .inl (cI, 6, .inl (fr_gp (fr_li lv cr ah (fm_dk (se 1))) i))), ((g 4), .inl (cI, 6, .inl (fr_ls (fr_li lv cr ah (fm_dk (se 1))) i))), ((g 7), .inl (cI, 6, .inl (fr_dr (fr_li lv cr ah (fm_dk (se 1))) i))), ((a 0), .inr (2, [.ref (a 1), .ref (a 2), .ref (a 3), .ref (a 4), .ref (a 5), .ref (a 6), .ref (a 7), .int am, .int ti, .int ah])), ((a 7), .inl (cI, 5, .inl se)), ((g 5), .inl (cI, 6, .inl lv)), ((g 6), .inl (cI, 6, .inl (fm_crd lv (fr_cr lv cr i))))] H := hP
            have hD : va_D A [((g 0), .inr (0, [.ref (g 1), .ref (g 2), .ref (g 3), .ref (g 4), .ref (g 5), .ref (g 6), .ref (g 7), .int (se 0), .int (se 2), .int ((se 3) * am)])), ((g 1), .inl (cI, 96, .inl (upd (fm_fl (fr_ow lv cr) ow i) i (fm_own lv (fr_cr lv cr i) 6)))), ((g 2), .inl (cI, 96, .inl (fm_fl (fr_li lv cr ah (fm_dk (se 1))) li i))), ((g 3), .inl (cI, 6, .inl (fr_gp (fr_li lv cr ah (fm_dk (se 1))) i))), ((g 4), .inl (cI, 6, .inl (fr_ls (fr_li lv cr ah (fm_dk (se 1))) i))), ((g 7), .inl (cI, 6, .inl (fr_dr (fr_li lv cr ah (fm_dk (se 1))) i))), ((a 0), .inr (2, [.ref (a 1), .ref (a 2), .ref (a 3), .ref (a 4), .ref (a 5), .ref (a 6), .ref (a 7), .int am, .int ti, .int ah])), ((a 7), .inl (cI, 5, .inl se)), ((g 5), .inl (cI, 6, .inl lv)), ((g 6), .inl (cI, 6, .inl (fm_crd lv (fr_cr lv cr i))))] := hD
            refine lv_aload_n hx hb dX0_passSlots_117 rfl (lv_at hl 0 rfl) ?_
            refine va_get (D := (dC, dI)) (ci := 0) (v := .ref (g 2)) (C := RX0) (T := TX0) (N := 10) hx hb hts hin0 hown hK hP 0 rfl rfl 1 (by decide) (hts (.fieldLink RX0 15 "TurnDigits$Frame" "lit" "[I") (by decide +kernel)) (fun _ h9 => h9) rfl dX0_passSlots_118 ?_
            refine lv_iload hx hb dX0_passSlots_121 (lv_at hl 4 rfl) ?_
            refine lv_aload_n hx hb dX0_passSlots_123 rfl (lv_at hl 0 rfl) ?_
            refine va_get (D := (dC, dI)) (ci := 0) (v := .ref (g 1)) (C := RX0) (T := TX0) (N := 10) hx hb hts hin0 hown hK hP 0 rfl rfl 0 (by decide) (hts (.fieldLink RX0 9 "TurnDigits$Frame" "owners" "[I") (by decide +kernel)) (fun _ h9 => h9) rfl dX0_passSlots_124 ?_
            refine lv_iload hx hb dX0_passSlots_127 (lv_at hl 4 rfl) ?_
            refine xm_iald (D := (dC, dI)) hx hb hK hP 1 0 i (v := (upd (fm_fl (fr_ow lv cr) ow i) i (fm_own lv (fr_cr lv cr i) 6)) i) rfl rfl (by decide) rfl (by omega) rfl dX0_passSlots_129 ?_
            refine xm_topi (y := (fr_ow lv cr i)) pk_us ?_
            refine lv_iload_n hx hb dX0_passSlots_130 rfl (lv_at hl 3 rfl) ?_
            refine lv_iload_n hx hb dX0_passSlots_131 rfl (lv_at hl 2 rfl) ?_
            have hPc := hP.sub (ws' := []) [] rfl
            refine W.callV ((va_runSN (As := [.int (fr_ow lv cr i), .int (fr_ah lv cr ah i), .int (fm_dk (se 1))]) (rest := [.int (nI i), .ref (g 2)]) ⟨hx, hb, hml, hown, hts⟩ (c_X4_litIn l dC dI cI cS cJ tt (fr_ow lv cr i) (fr_ah lv cr ah i) (fm_dk (se 1))) ⟨va_cnB 3 hts gX0_passSlots_X4_litIn_n76 rfl rfl rfl hE.2.1.2.2.2.2.1 (hts (.initialized RX4) (by decide +kernel)) (by decide +kernel) ⟨Nat.le_of_ble_eq_true rfl, Nat.le_of_ble_eq_true rfl⟩, hts (.static yX4_litIn) (by decide +kernel), trivial⟩ ⟨xm_Rblind, fun U hU hW => ⟨rfl, by rw [hU]; exact hPc, hE.go hS (fun _ q => q.elim) hU hW, trivial⟩⟩ rfl rfl hl.1 rfl (lv_room (Nat.le_of_ble_eq_true rfl)) dX0_passSlots_132 ⟨Nat.zero_le _, Nat.zero_le _⟩).run) ?_
            refine W.eq (g2 := F0 m 135 lz (.int (fm_litIn (fr_ow lv cr i) (fr_ah lv cr ah i) (fm_dk (se 1))) :: [.int (nI i), .ref (g 2)])) rfl ?_
            refine xm_topi (y := ((fr_li lv cr ah (fm_dk (se 1))) i)) rfl ?_
            refine xm_iast (D := (dC, dI)) hx hb hK hP hD hS 2 0 i rfl rfl (by decide) rfl (by omega) dX0_passSlots_135 (fun H locs hP hD hS => ?_)
            have hP : va_P (dC, dI) vwCl [((g 0), .inr (0, [.ref (g 1), .ref (g 2), .ref (g 3), .ref (g 4), .ref (g 5), .ref (g 6), .ref (g 7), .int (se 0), .int (se 2), .int ((se 3) * am)])), ((g 1), .inl (cI, 96, .inl (upd (fm_fl (fr_ow lv cr) ow i) i (fm_own lv (fr_cr lv cr i) 6)))), ((g 2), .inl (cI, 96, .inl (upd (fm_fl (fr_li lv cr ah (fm_dk (se 1))) li i) i ((fr_li lv cr ah (fm_dk (se 1))) i)))), ((g 3), .inl (cI, 6, .inl (fr_gp (fr_li lv cr ah (fm_dk (se 1))) i))), ((g 4), .inl (cI, 6, .inl (fr_ls (fr_li lv cr ah (fm_dk (se 1))) i))), ((g 7), .inl (cI, 6, .inl (fr_dr (fr_li lv cr ah (fm_dk (se 1))) i))), ((a 0), .inr (2, [.ref (a 1), .ref (a 2), .ref (a 3), .ref (a 4), .ref (a 5), .ref (a 6), .ref (a 7), .int am, .int ti, .int ah])), ((a 7), .inl (cI, 5, .inl se)), ((g 5), .inl (cI, 6, .inl lv)), ((g 6), .inl (cI, 6, .inl (fm_crd lv (fr_cr lv cr i))))] H := hP
            have hD : va_D A [((g 0), .inr (0, [.ref (g 1), .ref (g 2), .ref (g 3), .ref (g 4), .ref (g 5), .ref (g 6), .ref (g 7), .int (se 0), .int (se 2), .int ((se 3) * am)])), ((g 1), .inl (cI, 96, .inl (upd (fm_fl (fr_ow lv cr) ow i) i (fm_own lv (fr_cr lv cr i) 6)))), ((g 2), .inl (cI, 96, .inl (upd (fm_fl (fr_li lv cr ah (fm_dk (se 1))) li i) i ((fr_li lv cr ah (fm_dk (se 1))) i)))), ((g 3), .inl (cI, 6, .inl (fr_gp (fr_li lv cr ah (fm_dk (se 1))) i))), ((g 4), .inl (cI, 6, .inl (fr_ls (fr_li lv cr ah (fm_dk (se 1))) i))), ((g 7), .inl (cI, 6, .inl (fr_dr (fr_li lv cr ah (fm_dk (se 1))) i))), ((a 0), .inr (2, [.ref (a 1), .ref (a 2), .ref (a 3), .ref (a 4), .ref (a 5), .ref (a 6), .ref (a 7), .int am, .int ti, .int ah])), ((a 7), .inl (cI, 5, .inl se)), ((g 5), .inl (cI, 6, .inl lv)), ((g 6), .inl (cI, 6, .inl (fm_crd lv (fr_cr lv cr i))))] := hD
            refine lv_aload_n hx hb dX0_passSlots_136 rfl (lv_at hl 0 rfl) ?_
            refine lv_aload_n hx hb dX0_passSlots_137 rfl (lv_at hl 0 rfl) ?_
            refine va_get (D := (dC, dI)) (ci := 0) (v := .ref (g 2)) (C := RX0) (T := TX0) (N := 10) hx hb hts hin0 hown hK hP 0 rfl rfl 1 (by decide) (hts (.fieldLink RX0 15 "TurnDigits$Frame" "lit" "[I") (by decide +kernel)) (fun _ h9 => h9) rfl dX0_passSlots_138 ?_
            refine lv_iload hx hb dX0_passSlots_141 (lv_at hl 4 rfl) ?_
            refine xm_iald (D := (dC, dI)) hx hb hK hP 2 0 i (v := (upd (fm_fl (fr_li lv cr ah (fm_dk (se 1))) li i) i ((fr_li lv cr ah (fm_dk (se 1))) i)) i) rfl rfl (by decide) rfl (by omega) rfl dX0_passSlots_143 ?_
            refine xm_topi (y := ((fr_li lv cr ah (fm_dk (se 1))) i)) pk_us ?_
            have hPc := hP.sub (ws' := [((g 0), .inr (0, [.ref (g 1), .ref (g 2), .ref (g 3), .ref (g 4), .ref (g 5), .ref (g 6), .ref (g 7), .int (se 0), .int (se 2), .int ((se 3) * am)])), ((g 3), .inl (cI, 6, .inl (fr_gp (fr_li lv cr ah (fm_dk (se 1))) i))), ((g 4), .inl (cI, 6, .inl (fr_ls (fr_li lv cr ah (fm_dk (se 1))) i))), ((g 7), .inl (cI, 6, .inl (fr_dr (fr_li lv cr ah (fm_dk (se 1))) i)))]) [0, 3, 4, 5] rfl
            have hDc := hD.sub (ws' := [((g 0), .inr (0, [.ref (g 1), .ref (g 2), .ref (g 3), .ref (g 4), .ref (g 5), .ref (g 6), .ref (g 7), .int (se 0), .int (se 2), .int ((se 3) * am)])), ((g 3), .inl (cI, 6, .inl (fr_gp (fr_li lv cr ah (fm_dk (se 1))) i))), ((g 4), .inl (cI, 6, .inl (fr_ls (fr_li lv cr ah (fm_dk (se 1))) i))), ((g 7), .inl (cI, 6, .inl (fr_dr (fr_li lv cr ah (fm_dk (se 1))) i)))]) [0, 3, 4, 5] (by decide) rfl
            have hFc := va_free (wc := [((g 0), .inr (0, [.ref (g 1), .ref (g 2), .ref (g 3), .ref (g 4), .ref (g 5), .ref (g 6), .ref (g 7), .int (se 0), .int (se 2), .int ((se 3) * am)])), ((g 3), .inl (cI, 6, .inl (fr_gp (fr_li lv cr ah (fm_dk (se 1))) i))), ((g 4), .inl (cI, 6, .inl (fr_ls (fr_li lv cr ah (fm_dk (se 1))) i))), ((g 7), .inl (cI, 6, .inl (fr_dr (fr_li lv cr ah (fm_dk (se 1))) i)))]) hD hS hA [0, 3, 4, 5] rfl
            refine va_callv (va_runV (As := [.int ((fr_li lv cr ah (fm_dk (se 1))) i)]) (rest := []) ⟨hx, hb, hml, hown, hts⟩ (c_X0_noteSlot l dC dI cI cS cJ tt H.size g (fr_gp (fr_li lv cr ah (fm_dk (se 1))) i) (fr_ls (fr_li lv cr ah (fm_dk (se 1))) i) (fr_dr (fr_li lv cr ah (fm_dk (se 1))) i) (se 0) (se 2) ((se 3) * am) ((fr_li lv cr ah (fm_dk (se 1))) i)) (cwV 1 hts gX0_passSlots_X0_noteSlot rfl rfl rfl (by decide +kernel) ⟨Nat.le_of_ble_eq_true rfl, Nat.le_of_ble_eq_true rfl⟩) ⟨xm_Mblind, va_recv hK hPc (ci := 0) (q0 := 0) rfl rfl, fun U hU hW => ⟨rfl, by rw [hU], by rw [hU]; exact hPc, hE.go hS hFc hU hW, hDc.weaken (fun _ _ _ _ => trivial), trivial⟩⟩ rfl rfl hl.1 rfl (lv_room (Nat.le_of_ble_eq_true rfl)) dX0_passSlots_144 ⟨Nat.zero_le _, Nat.zero_le _⟩) hS (fun q _ h => hFc q h) hFc (fun u t H1 locs ht hvm hw hB hz1 hk1 hS => ?_)
            obtain ⟨u_10, u_11, u_12⟩ := u
            obtain ⟨hP1, hD1⟩ := hB
            rw [ht] at hP1
            obtain ⟨hw_13, hw_14, hw_15⟩ := hw
            have hw_13 : u_10 = ns_gp ((fr_li lv cr ah (fm_dk (se 1))) i) (fr_dr (fr_li lv cr ah (fm_dk (se 1))) i) (fr_gp (fr_li lv cr ah (fm_dk (se 1))) i) := hw_13
            subst hw_13
            have hw_14 : u_11 = ns_ls ((fr_li lv cr ah (fm_dk (se 1))) i) (fr_ls (fr_li lv cr ah (fm_dk (se 1))) i) := hw_14
            subst hw_14
            have hw_15 : u_12 = ns_dr ((fr_li lv cr ah (fm_dk (se 1))) i) (fr_dr (fr_li lv cr ah (fm_dk (se 1))) i) := hw_15
            subst hw_15
            obtain ⟨hP, hD⟩ := va_join (wr := [((g 1), .inl (cI, 96, .inl (upd (fm_fl (fr_ow lv cr) ow i) i (fm_own lv (fr_cr lv cr i) 6)))), ((g 2), .inl (cI, 96, .inl (upd (fm_fl (fr_li lv cr ah (fm_dk (se 1))) li i) i ((fr_li lv cr ah (fm_dk (se 1))) i)))), ((a 0), .inr (2, [.ref (a 1), .ref (a 2), .ref (a 3), .ref (a 4), .ref (a 5), .ref (a 6), .ref (a 7), .int am, .int ti, .int ah])), ((a 7), .inl (cI, 5, .inl se)), ((g 5), .inl (cI, 6, .inl lv)), ((g 6), .inl (cI, 6, .inl (fm_crd lv (fr_cr lv cr i))))]) (w1 := [((g 0), .inr (0, [.ref (g 1), .ref (g 2), .ref (g 3), .ref (g 4), .ref (g 5), .ref (g 6), .ref (g 7), .int (se 0), .int (se 2), .int ((se 3) * am)])), ((g 3), .inl (cI, 6, .inl (ns_gp ((fr_li lv cr ah (fm_dk (se 1))) i) (fr_dr (fr_li lv cr ah (fm_dk (se 1))) i) (fr_gp (fr_li lv cr ah (fm_dk (se 1))) i)))), ((g 4), .inl (cI, 6, .inl (ns_ls ((fr_li lv cr ah (fm_dk (se 1))) i) (fr_ls (fr_li lv cr ah (fm_dk (se 1))) i)))), ((g 7), .inl (cI, 6, .inl (ns_dr ((fr_li lv cr ah (fm_dk (se 1))) i) (fr_dr (fr_li lv cr ah (fm_dk (se 1))) i))))]) hP hD [0, 3, 4, 5] [1, 2, 6, 7, 8, 9] rfl rfl (by decide) (by decide) hk1 hFc hP1 hD1
            generalize H1 = H at hP hS ⊢
            have hP : va_P (dC, dI) vwCl [((g 1), .inl (cI, 96, .inl (upd (fm_fl (fr_ow lv cr) ow i) i (fm_own lv (fr_cr lv cr i) 6)))), ((g 2), .inl (cI, 96, .inl (upd (fm_fl (fr_li lv cr ah (fm_dk (se 1))) li i) i ((fr_li lv cr ah (fm_dk (se 1))) i)))), ((a 0), .inr (2, [.ref (a 1), .ref (a 2), .ref (a 3), .ref (a 4), .ref (a 5), .ref (a 6), .ref (a 7), .int am, .int ti, .int ah])), ((a 7), .inl (cI, 5, .inl se)), ((g 5), .inl (cI, 6, .inl lv)), ((g 6), .inl (cI, 6, .inl (fm_crd lv (fr_cr lv cr i)))), ((g 0), .inr (0, [.ref (g 1), .ref (g 2), .ref (g 3), .ref (g 4), .ref (g 5), .ref (g 6), .ref (g 7), .int (se 0), .int (se 2), .int ((se 3) * am)])), ((g 3), .inl (cI, 6, .inl (ns_gp ((fr_li lv cr ah (fm_dk (se 1))) i) (fr_dr (fr_li lv cr ah (fm_dk (se 1))) i) (fr_gp (fr_li lv cr ah (fm_dk (se 1))) i)))), ((g 4), .inl (cI, 6, .inl (ns_ls ((fr_li lv cr ah (fm_dk (se 1))) i) (fr_ls (fr_li lv cr ah (fm_dk (se 1))) i)))), ((g 7), .inl (cI, 6, .inl (ns_dr ((fr_li lv cr ah (fm_dk (se 1))) i) (fr_dr (fr_li lv cr ah (fm_dk (se 1))) i))))] H := hP
            have hD : va_D A [((g 1), .inl (cI, 96, .inl (upd (fm_fl (fr_ow lv cr) ow i) i (fm_own lv (fr_cr lv cr i) 6)))), ((g 2), .inl (cI, 96, .inl (upd (fm_fl (fr_li lv cr ah (fm_dk (se 1))) li i) i ((fr_li lv cr ah (fm_dk (se 1))) i)))), ((a 0), .inr (2, [.ref (a 1), .ref (a 2), .ref (a 3), .ref (a 4), .ref (a 5), .ref (a 6), .ref (a 7), .int am, .int ti, .int ah])), ((a 7), .inl (cI, 5, .inl se)), ((g 5), .inl (cI, 6, .inl lv)), ((g 6), .inl (cI, 6, .inl (fm_crd lv (fr_cr lv cr i)))), ((g 0), .inr (0, [.ref (g 1), .ref (g 2), .ref (g 3), .ref (g 4), .ref (g 5), .ref (g 6), .ref (g 7), .int (se 0), .int (se 2), .int ((se 3) * am)])), ((g 3), .inl (cI, 6, .inl (ns_gp ((fr_li lv cr ah (fm_dk (se 1))) i) (fr_dr (fr_li lv cr ah (fm_dk (se 1))) i) (fr_gp (fr_li lv cr ah (fm_dk (se 1))) i)))), ((g 4), .inl (cI, 6, .inl (ns_ls ((fr_li lv cr ah (fm_dk (se 1))) i) (fr_ls (fr_li lv cr ah (fm_dk (se 1))) i)))), ((g 7), .inl (cI, 6, .inl (ns_dr ((fr_li lv cr ah (fm_dk (se 1))) i) (fr_dr (fr_li lv cr ah (fm_dk (se 1))) i))))] := hD
            refine lv_aload_n hx hb dX0_passSlots_147 rfl (lv_at hl 0 rfl) ?_
            refine va_get (D := (dC, dI)) (ci := 0) (v := .ref (g 1)) (C := RX0) (T := TX0) (N := 10) hx hb hts hin0 hown hK hP 6 rfl rfl 0 (by decide) (hts (.fieldLink RX0 9 "TurnDigits$Frame" "owners" "[I") (by decide +kernel)) (fun _ h9 => h9) rfl dX0_passSlots_148 ?_
            refine lv_iload hx hb dX0_passSlots_151 (lv_at hl 4 rfl) ?_
            refine xm_iald (D := (dC, dI)) hx hb hK hP 0 0 i (v := (upd (fm_fl (fr_ow lv cr) ow i) i (fm_own lv (fr_cr lv cr i) 6)) i) rfl rfl (by decide) rfl (by omega) rfl dX0_passSlots_153 ?_
            refine xm_topi (y := (fr_ow lv cr i)) pk_us ?_
            refine lv_istore_n (lv' := [(3, .int (fr_ow lv cr i)), (0, .ref (g 0)), (1, .ref (a 0)), (2, .int (fm_dk (se 1))), (4, .int (nI i))]) hx hb dX0_passSlots_154 rfl hl (by decide) rfl (fun lz hl => ?_)
            refine lv_iinc (v := nI (i + 1)) (lv' := [(4, .int (nI (i + 1))), (3, .int (fr_ow lv cr i)), (0, .ref (g 0)), (1, .ref (a 0)), (2, .int (fm_dk (se 1)))]) hx hb dX0_passSlots_155 hl (k := 4) rfl (nI_1 i) (by decide) rfl (fun lz hl => ?_)
            refine lv_goto (tgt := 83) hx hb dX0_passSlots_158 (by decide) ?_
            have hP := hP.sub (ws' := [((g 0), .inr (0, [.ref (g 1), .ref (g 2), .ref (g 3), .ref (g 4), .ref (g 5), .ref (g 6), .ref (g 7), .int (se 0), .int (se 2), .int ((se 3) * am)])), ((g 1), .inl (cI, 96, .inl (upd (fm_fl (fr_ow lv cr) ow i) i (fm_own lv (fr_cr lv cr i) 6)))), ((g 2), .inl (cI, 96, .inl (upd (fm_fl (fr_li lv cr ah (fm_dk (se 1))) li i) i ((fr_li lv cr ah (fm_dk (se 1))) i)))), ((g 3), .inl (cI, 6, .inl (ns_gp ((fr_li lv cr ah (fm_dk (se 1))) i) (fr_dr (fr_li lv cr ah (fm_dk (se 1))) i) (fr_gp (fr_li lv cr ah (fm_dk (se 1))) i)))), ((g 4), .inl (cI, 6, .inl (ns_ls ((fr_li lv cr ah (fm_dk (se 1))) i) (fr_ls (fr_li lv cr ah (fm_dk (se 1))) i)))), ((g 5), .inl (cI, 6, .inl lv)), ((g 6), .inl (cI, 6, .inl (fm_crd lv (fr_cr lv cr i)))), ((g 7), .inl (cI, 6, .inl (ns_dr ((fr_li lv cr ah (fm_dk (se 1))) i) (fr_dr (fr_li lv cr ah (fm_dk (se 1))) i)))), ((a 0), .inr (2, [.ref (a 1), .ref (a 2), .ref (a 3), .ref (a 4), .ref (a 5), .ref (a 6), .ref (a 7), .int am, .int ti, .int ah])), ((a 7), .inl (cI, 5, .inl se))]) [6, 0, 1, 7, 8, 4, 5, 9, 2, 3] rfl
            have hD := hD.sub (ws' := [((g 0), .inr (0, [.ref (g 1), .ref (g 2), .ref (g 3), .ref (g 4), .ref (g 5), .ref (g 6), .ref (g 7), .int (se 0), .int (se 2), .int ((se 3) * am)])), ((g 1), .inl (cI, 96, .inl (upd (fm_fl (fr_ow lv cr) ow i) i (fm_own lv (fr_cr lv cr i) 6)))), ((g 2), .inl (cI, 96, .inl (upd (fm_fl (fr_li lv cr ah (fm_dk (se 1))) li i) i ((fr_li lv cr ah (fm_dk (se 1))) i)))), ((g 3), .inl (cI, 6, .inl (ns_gp ((fr_li lv cr ah (fm_dk (se 1))) i) (fr_dr (fr_li lv cr ah (fm_dk (se 1))) i) (fr_gp (fr_li lv cr ah (fm_dk (se 1))) i)))), ((g 4), .inl (cI, 6, .inl (ns_ls ((fr_li lv cr ah (fm_dk (se 1))) i) (fr_ls (fr_li lv cr ah (fm_dk (se 1))) i)))), ((g 5), .inl (cI, 6, .inl lv)), ((g 6), .inl (cI, 6, .inl (fm_crd lv (fr_cr lv cr i)))), ((g 7), .inl (cI, 6, .inl (ns_dr ((fr_li lv cr ah (fm_dk (se 1))) i) (fr_dr (fr_li lv cr ah (fm_dk (se 1))) i)))), ((a 0), .inr (2, [.ref (a 1), .ref (a 2), .ref (a 3), .ref (a 4), .ref (a 5), .ref (a 6), .ref (a 7), .int am, .int ti, .int ah])), ((a 7), .inl (cI, 5, .inl se))]) [6, 0, 1, 7, 8, 4, 5, 9, 2, 3] (by decide) rfl
            exact ih83 (i + 1) hlti (by omega) (fr_ow lv cr i) (upd (fm_fl (fr_ow lv cr) ow i) i (fm_own lv (fr_cr lv cr i) 6)) (upd (fm_fl (fr_li lv cr ah (fm_dk (se 1))) li i) i ((fr_li lv cr ah (fm_dk (se 1))) i)) (ns_gp ((fr_li lv cr ah (fm_dk (se 1))) i) (fr_dr (fr_li lv cr ah (fm_dk (se 1))) i) (fr_gp (fr_li lv cr ah (fm_dk (se 1))) i)) (ns_ls ((fr_li lv cr ah (fm_dk (se 1))) i) (fr_ls (fr_li lv cr ah (fm_dk (se 1))) i)) (fm_crd lv (fr_cr lv cr i)) (ns_dr ((fr_li lv cr ah (fm_dk (se 1))) i) (fr_dr (fr_li lv cr ah (fm_dk (se 1))) i)) rfl (fm_fl_t rfl) (fm_fl_t rfl) rfl rfl rfl rfl  H locs hP hD hS lz (lv_sub hl [2, 3, 4, 1, 0] rfl)
    have hP := hP.sub (ws' := [((g 0), .inr (0, [.ref (g 1), .ref (g 2), .ref (g 3), .ref (g 4), .ref (g 5), .ref (g 6), .ref (g 7), .int (se 0), .int (se 2), .int ((se 3) * am)])), ((g 1), .inl (cI, 96, .inl ow)), ((g 2), .inl (cI, 96, .inl li)), ((g 3), .inl (cI, 6, .inl (fun _ => 0))), ((g 4), .inl (cI, 6, .inl (fun _ => 0))), ((g 5), .inl (cI, 6, .inl lv)), ((g 6), .inl (cI, 6, .inl cr)), ((g 7), .inl (cI, 6, .inl (fun _ => 0))), ((a 0), .inr (2, [.ref (a 1), .ref (a 2), .ref (a 3), .ref (a 4), .ref (a 5), .ref (a 6), .ref (a 7), .int am, .int ti, .int ah])), ((a 7), .inl (cI, 5, .inl se))]) [0, 1, 2, 7, 8, 3, 4, 9, 5, 6] rfl
    have hD := hD.sub (ws' := [((g 0), .inr (0, [.ref (g 1), .ref (g 2), .ref (g 3), .ref (g 4), .ref (g 5), .ref (g 6), .ref (g 7), .int (se 0), .int (se 2), .int ((se 3) * am)])), ((g 1), .inl (cI, 96, .inl ow)), ((g 2), .inl (cI, 96, .inl li)), ((g 3), .inl (cI, 6, .inl (fun _ => 0))), ((g 4), .inl (cI, 6, .inl (fun _ => 0))), ((g 5), .inl (cI, 6, .inl lv)), ((g 6), .inl (cI, 6, .inl cr)), ((g 7), .inl (cI, 6, .inl (fun _ => 0))), ((a 0), .inr (2, [.ref (a 1), .ref (a 2), .ref (a 3), .ref (a 4), .ref (a 5), .ref (a 6), .ref (a 7), .int am, .int ti, .int ah])), ((a 7), .inl (cI, 5, .inl se))]) [0, 1, 2, 7, 8, 3, 4, 9, 5, 6] (by decide) rfl
    exact L83 (n + 1) 0 (by omega) (by omega) ah ow li (fun _ => 0) (fun _ => 0) cr (fun _ => 0) rfl (fm_fl_0 _ _).symm (fm_fl_0 _ _).symm rfl rfl rfl rfl  H locs hP hD hS lz (lv_sub hl [3, 4, 2, 1, 0] rfl)
  refine lv_aload_n hx hb dX0_passSlots_59 rfl (lv_at hl 1 rfl) ?_
  refine va_get (D := (dC, dI)) (ci := 2) (v := .ref (a 7)) (C := RX2) (T := TX2) (N := 10) hx hb hts hin2 hown hK hP 5 rfl rfl 6 (by decide) (hts (.fieldLink RX0 63 "TurnDigits$State" "settings" "[I") (by decide +kernel)) (fun _ h9 => h9) rfl dX0_passSlots_60 ?_
  refine lv_iconst (v := 1) hx hb dX0_passSlots_63 (by decide) ?_
  refine xm_iald (D := (dC, dI)) hx hb hK hP 6 0 1 (v := se 1) rfl rfl (by decide) rfl (by decide) rfl dX0_passSlots_64 ?_
  refine lv_iconst (v := 1) hx hb dX0_passSlots_65 (by decide) ?_
  refine lv_icmp_ne (tgt := 73) hx hb dX0_passSlots_66 (by decide) (fun q66 => ?_) (fun q66 => ?_)
  · refine lv_iconst (v := 0) hx hb dX0_passSlots_73 (by decide) ?_
    exact J74 0 (by simp only [fm_dk, if_neg q66]) H locs hP hD hS lz (lv_sub hl [0, 1] rfl)
  · refine lv_iconst (v := 1) hx hb dX0_passSlots_69 (by decide) ?_
    refine lv_goto (tgt := 74) hx hb dX0_passSlots_70 (by decide) ?_
    exact J74 1 (by simp only [fm_dk, if_pos q66]) H locs hP hD hS lz (lv_sub hl [0, 1] rfl)

set_option maxHeartbeats 4000000 in
set_option maxRecDepth 100000 in
theorem c_X0_foresee (l : Launch) (dC : Nat → ClassId) (dI : Nat → Nat → Nat) (cI cS cJ : ClassId) (tt : Nat → Nat) (sz : Nat) (g : Nat → Nat) (ow : Nat → Int32) (li : Nat → Int32) (gp : Nat → Int32) (ls : Nat → Int32) (lv : Nat → Int32) (cr : Nat → Int32) (dr : Nat → Int32) (ln : Int32) (pe : Int32) (ne : Int32) (a : Nat → Nat) (am : Int32) (ti : Int32) (ah : Int32) (slv : Nat → Int32) (scr : Nat → Int32) (se : Nat → Int32) (n : Nat) : Met l yX0_foresee wsX0_foresee ({ frames := 3, cells := 0, slots := 0, locals := 67 } : Room) (va_Pc [.ref (g 0), .ref (a 0)] (xm_M (dC, dI) cI cS cJ tt [((g 0), .inr (0, [.ref (g 1), .ref (g 2), .ref (g 3), .ref (g 4), .ref (g 5), .ref (g 6), .ref (g 7), .int ln, .int pe, .int ne])), ((g 1), .inl (cI, 96, .inl ow)), ((g 2), .inl (cI, 96, .inl li)), ((g 3), .inl (cI, 6, .inl gp)), ((g 4), .inl (cI, 6, .inl ls)), ((g 5), .inl (cI, 6, .inl lv)), ((g 6), .inl (cI, 6, .inl cr)), ((g 7), .inl (cI, 6, .inl dr)), ((a 0), .inr (2, [.ref (a 1), .ref (a 2), .ref (a 3), .ref (a 4), .ref (a 5), .ref (a 6), .ref (a 7), .int am, .int ti, .int ah])), ((a 2), .inl (cI, 6, .inl slv)), ((a 4), .inl (cI, 6, .inl scr)), ((a 7), .inl (cI, 5, .inl se))] sz (se 0 = nI n ∧ n ≤ 96))) (va_Qv (fun (u : (Nat → Int32) × (Nat → Int32) × (Nat → Int32) × (Nat → Int32) × (Nat → Int32) × (Nat → Int32) × (Nat → Int32) × Int32 × Int32 × Int32) => u.1 = fm_fl (fr_ow slv scr) ow n ∧ u.2.1 = fm_fl (fr_li slv scr ah (fm_dk (se 1))) li n ∧ u.2.2.1 = fr_gp (fr_li slv scr ah (fm_dk (se 1))) n ∧ u.2.2.2.1 = fr_ls (fr_li slv scr ah (fm_dk (se 1))) n ∧ u.2.2.2.2.1 = slv ∧ u.2.2.2.2.2.1 = fr_cr slv scr n ∧ u.2.2.2.2.2.2.1 = fr_dr (fr_li slv scr ah (fm_dk (se 1))) n ∧ u.2.2.2.2.2.2.2.1 = se 0 ∧ u.2.2.2.2.2.2.2.2.1 = se 2 ∧ u.2.2.2.2.2.2.2.2.2 = se 3 * am) (xm_B (dC, dI) (fun (u : (Nat → Int32) × (Nat → Int32) × (Nat → Int32) × (Nat → Int32) × (Nat → Int32) × (Nat → Int32) × (Nat → Int32) × Int32 × Int32 × Int32) => [((g 0), .inr (0, [.ref (g 1), .ref (g 2), .ref (g 3), .ref (g 4), .ref (g 5), .ref (g 6), .ref (g 7), .int u.2.2.2.2.2.2.2.1, .int u.2.2.2.2.2.2.2.2.1, .int u.2.2.2.2.2.2.2.2.2])), ((g 1), .inl (cI, 96, .inl u.1)), ((g 2), .inl (cI, 96, .inl u.2.1)), ((g 3), .inl (cI, 6, .inl u.2.2.1)), ((g 4), .inl (cI, 6, .inl u.2.2.2.1)), ((g 5), .inl (cI, 6, .inl u.2.2.2.2.1)), ((g 6), .inl (cI, 6, .inl u.2.2.2.2.2.1)), ((g 7), .inl (cI, 6, .inl u.2.2.2.2.2.2.1)), ((a 0), .inr (2, [.ref (a 1), .ref (a 2), .ref (a 3), .ref (a 4), .ref (a 5), .ref (a 6), .ref (a 7), .int am, .int ti, .int ah])), ((a 2), .inl (cI, 6, .inl slv)), ((a 4), .inl (cI, 6, .inl scr)), ((a 7), .inl (cI, 5, .inl se))]) (va_A [((g 0), .inr (0, [.ref (g 1), .ref (g 2), .ref (g 3), .ref (g 4), .ref (g 5), .ref (g 6), .ref (g 7), .int ln, .int pe, .int ne])), ((g 1), .inl (cI, 96, .inl ow)), ((g 2), .inl (cI, 96, .inl li)), ((g 3), .inl (cI, 6, .inl gp)), ((g 4), .inl (cI, 6, .inl ls)), ((g 5), .inl (cI, 6, .inl lv)), ((g 6), .inl (cI, 6, .inl cr)), ((g 7), .inl (cI, 6, .inl dr)), ((a 0), .inr (2, [.ref (a 1), .ref (a 2), .ref (a 3), .ref (a 4), .ref (a 5), .ref (a 6), .ref (a 7), .int am, .int ti, .int ah])), ((a 2), .inl (cI, 6, .inl slv)), ((a 4), .inl (cI, 6, .inl scr)), ((a 7), .inl (cI, 5, .inl se))] sz)) (va_A [((g 0), .inr (0, [.ref (g 1), .ref (g 2), .ref (g 3), .ref (g 4), .ref (g 5), .ref (g 6), .ref (g 7), .int ln, .int pe, .int ne])), ((g 1), .inl (cI, 96, .inl ow)), ((g 2), .inl (cI, 96, .inl li)), ((g 3), .inl (cI, 6, .inl gp)), ((g 4), .inl (cI, 6, .inl ls)), ((g 5), .inl (cI, 6, .inl lv)), ((g 6), .inl (cI, 6, .inl cr)), ((g 7), .inl (cI, 6, .inl dr)), ((a 0), .inr (2, [.ref (a 1), .ref (a 2), .ref (a 3), .ref (a 4), .ref (a 5), .ref (a 6), .ref (a 7), .int am, .int ti, .int ah])), ((a 2), .inl (cI, 6, .inl slv)), ((a 4), .inl (cI, 6, .inl scr)), ((a 7), .inl (cI, 5, .inl se))] sz)) 0 0 (va_A [((g 0), .inr (0, [.ref (g 1), .ref (g 2), .ref (g 3), .ref (g 4), .ref (g 5), .ref (g 6), .ref (g 7), .int ln, .int pe, .int ne])), ((g 1), .inl (cI, 96, .inl ow)), ((g 2), .inl (cI, 96, .inl li)), ((g 3), .inl (cI, 6, .inl gp)), ((g 4), .inl (cI, 6, .inl ls)), ((g 5), .inl (cI, 6, .inl lv)), ((g 6), .inl (cI, 6, .inl cr)), ((g 7), .inl (cI, 6, .inl dr)), ((a 0), .inr (2, [.ref (a 1), .ref (a 2), .ref (a 3), .ref (a 4), .ref (a 5), .ref (a 6), .ref (a 7), .int am, .int ti, .int ah])), ((a 2), .inl (cI, 6, .inl slv)), ((a 4), .inl (cI, 6, .inl scr)), ((a 7), .inl (cI, 5, .inl se))] sz) := by
  refine Met.ofW (cc := cX0_foresee) (maxL := 2) (ret := none) (by decide) rfl ?_
  intro p e s m args below meth c s₁ B hml hv
  obtain ⟨rfl, hsz, hP, hE, hD0, hpre⟩ := hv
  have hx := B.exec
  have hb := B.bytes
  have hr := B.returns
  have hts := atoms_spec (ws := wsX0_foresee) B.pre
  have hown : s.vm.findClass RX0 = some m.cls := findClass_of_methodNamed B.named
  have hlocks := B.notSynchronized
  have hK := hE.1
  subst hsz
  have hD := hD0.self (sz := s.heap.size)
  generalize hAe : va_A [((g 0), .inr (0, [.ref (g 1), .ref (g 2), .ref (g 3), .ref (g 4), .ref (g 5), .ref (g 6), .ref (g 7), .int ln, .int pe, .int ne])), ((g 1), .inl (cI, 96, .inl ow)), ((g 2), .inl (cI, 96, .inl li)), ((g 3), .inl (cI, 6, .inl gp)), ((g 4), .inl (cI, 6, .inl ls)), ((g 5), .inl (cI, 6, .inl lv)), ((g 6), .inl (cI, 6, .inl cr)), ((g 7), .inl (cI, 6, .inl dr)), ((a 0), .inr (2, [.ref (a 1), .ref (a 2), .ref (a 3), .ref (a 4), .ref (a 5), .ref (a 6), .ref (a 7), .int am, .int ti, .int ah])), ((a 2), .inl (cI, 6, .inl slv)), ((a 4), .inl (cI, 6, .inl scr)), ((a 7), .inl (cI, 5, .inl se))] s.heap.size = A at hD hE ⊢
  have hA : ∀ q : Nat, s.heap.size ≤ q → A q := fun q h => by rw [← hAe]; exact Or.inr h
  have hS : va_S A s.heap s.heap [] := va_S.rf
  have hP : va_P (dC, dI) vwCl [((g 0), .inr (0, [.ref (g 1), .ref (g 2), .ref (g 3), .ref (g 4), .ref (g 5), .ref (g 6), .ref (g 7), .int ln, .int pe, .int ne])), ((g 1), .inl (cI, 96, .inl ow)), ((g 2), .inl (cI, 96, .inl li)), ((g 3), .inl (cI, 6, .inl gp)), ((g 4), .inl (cI, 6, .inl ls)), ((g 5), .inl (cI, 6, .inl lv)), ((g 6), .inl (cI, 6, .inl cr)), ((g 7), .inl (cI, 6, .inl dr)), ((a 0), .inr (2, [.ref (a 1), .ref (a 2), .ref (a 3), .ref (a 4), .ref (a 5), .ref (a 6), .ref (a 7), .int am, .int ti, .int ah])), ((a 2), .inl (cI, 6, .inl slv)), ((a 4), .inl (cI, 6, .inl scr)), ((a 7), .inl (cI, 5, .inl se))] s.heap := hP
  have hin0 : ∀ w ∈ u_ws RX0 TX0 10, w ∈ wsX0_foresee := by decide +kernel
  have hin2 : ∀ w ∈ u_ws RX2 TX2 10, w ∈ wsX0_foresee := by decide +kernel
  have hl := lv_entry [.ref (g 0), .ref (a 0)] (n := 2) (Nat.le_of_ble_eq_true rfl)
  rw [lg_entry_eq]
  generalize (lg_sl [.ref (g 0), .ref (a 0)] ++ List.replicate (2 - (lg_sl [.ref (g 0), .ref (a 0)]).length) Slot.unset).toArray = lz at hl ⊢
  have hl : lv_has lz 2 [(0, .ref (g 0)), (1, .ref (a 0))] := hl
  refine lv_aload_n hx hb dX0_foresee_0 rfl (lv_at hl 1 rfl) ?_
  refine va_get (D := (dC, dI)) (ci := 2) (v := .ref (a 2)) (C := RX2) (T := TX2) (N := 10) hx hb hts hin2 hown hK hP 8 rfl rfl 1 (by decide) (hts (.fieldLink RX0 43 "TurnDigits$State" "levels" "[I") (by decide +kernel)) (fun _ h9 => h9) rfl dX0_foresee_1 ?_
  refine lv_iconst (v := 0) hx hb dX0_foresee_4 (by decide) ?_
  refine lv_aload_n hx hb dX0_foresee_5 rfl (lv_at hl 0 rfl) ?_
  refine va_get (D := (dC, dI)) (ci := 0) (v := .ref (g 5)) (C := RX0) (T := TX0) (N := 10) hx hb hts hin0 hown hK hP 0 rfl rfl 4 (by decide) (hts (.fieldLink RX0 24 "TurnDigits$Frame" "levels" "[I") (by decide +kernel)) (fun _ h9 => h9) rfl dX0_foresee_6 ?_
  refine lv_iconst (v := 0) hx hb dX0_foresee_9 (by decide) ?_
  refine lv_bipush (v := 6) hx hb dX0_foresee_10 (by decide) ?_
  refine va_copyi (D := (dC, dI)) hx hb (hml.trans hl.1.symm) hown (hts (.methodLink RX0 46 arraycopyName) (by decide +kernel)) (hts (.native arraycopyName) (by decide +kernel)) (hts (.static arraycopyName) (by decide +kernel)) (hts (.initialized "java/lang/System") (by decide +kernel)) hK hP hD hS 9 5 0 0 (f := slv) (g := lv) rfl rfl rfl rfl rfl (by decide) (by decide) (by decide) (by decide) (by decide) (fun _ _ => rfl) (Nat.le_of_ble_eq_true rfl) (Nat.le_of_ble_eq_true rfl) dX0_foresee_12 (fun H locs hP hD hS => ?_)
  have hP : va_P (dC, dI) vwCl [((g 0), .inr (0, [.ref (g 1), .ref (g 2), .ref (g 3), .ref (g 4), .ref (g 5), .ref (g 6), .ref (g 7), .int ln, .int pe, .int ne])), ((g 1), .inl (cI, 96, .inl ow)), ((g 2), .inl (cI, 96, .inl li)), ((g 3), .inl (cI, 6, .inl gp)), ((g 4), .inl (cI, 6, .inl ls)), ((g 5), .inl (cI, 6, .inl (va_cpy slv lv 0 0 6))), ((g 6), .inl (cI, 6, .inl cr)), ((g 7), .inl (cI, 6, .inl dr)), ((a 0), .inr (2, [.ref (a 1), .ref (a 2), .ref (a 3), .ref (a 4), .ref (a 5), .ref (a 6), .ref (a 7), .int am, .int ti, .int ah])), ((a 2), .inl (cI, 6, .inl slv)), ((a 4), .inl (cI, 6, .inl scr)), ((a 7), .inl (cI, 5, .inl se))] H := hP
  have hD : va_D A [((g 0), .inr (0, [.ref (g 1), .ref (g 2), .ref (g 3), .ref (g 4), .ref (g 5), .ref (g 6), .ref (g 7), .int ln, .int pe, .int ne])), ((g 1), .inl (cI, 96, .inl ow)), ((g 2), .inl (cI, 96, .inl li)), ((g 3), .inl (cI, 6, .inl gp)), ((g 4), .inl (cI, 6, .inl ls)), ((g 5), .inl (cI, 6, .inl (va_cpy slv lv 0 0 6))), ((g 6), .inl (cI, 6, .inl cr)), ((g 7), .inl (cI, 6, .inl dr)), ((a 0), .inr (2, [.ref (a 1), .ref (a 2), .ref (a 3), .ref (a 4), .ref (a 5), .ref (a 6), .ref (a 7), .int am, .int ti, .int ah])), ((a 2), .inl (cI, 6, .inl slv)), ((a 4), .inl (cI, 6, .inl scr)), ((a 7), .inl (cI, 5, .inl se))] := hD
  obtain ⟨hP, hD⟩ := xm_cong hP hD 5 rfl (slv) (fun j hj => (sb_cpy0 hj).symm)
  have hP : va_P (dC, dI) vwCl [((g 0), .inr (0, [.ref (g 1), .ref (g 2), .ref (g 3), .ref (g 4), .ref (g 5), .ref (g 6), .ref (g 7), .int ln, .int pe, .int ne])), ((g 1), .inl (cI, 96, .inl ow)), ((g 2), .inl (cI, 96, .inl li)), ((g 3), .inl (cI, 6, .inl gp)), ((g 4), .inl (cI, 6, .inl ls)), ((g 5), .inl (cI, 6, .inl slv)), ((g 6), .inl (cI, 6, .inl cr)), ((g 7), .inl (cI, 6, .inl dr)), ((a 0), .inr (2, [.ref (a 1), .ref (a 2), .ref (a 3), .ref (a 4), .ref (a 5), .ref (a 6), .ref (a 7), .int am, .int ti, .int ah])), ((a 2), .inl (cI, 6, .inl slv)), ((a 4), .inl (cI, 6, .inl scr)), ((a 7), .inl (cI, 5, .inl se))] H := hP
  have hD : va_D A [((g 0), .inr (0, [.ref (g 1), .ref (g 2), .ref (g 3), .ref (g 4), .ref (g 5), .ref (g 6), .ref (g 7), .int ln, .int pe, .int ne])), ((g 1), .inl (cI, 96, .inl ow)), ((g 2), .inl (cI, 96, .inl li)), ((g 3), .inl (cI, 6, .inl gp)), ((g 4), .inl (cI, 6, .inl ls)), ((g 5), .inl (cI, 6, .inl slv)), ((g 6), .inl (cI, 6, .inl cr)), ((g 7), .inl (cI, 6, .inl dr)), ((a 0), .inr (2, [.ref (a 1), .ref (a 2), .ref (a 3), .ref (a 4), .ref (a 5), .ref (a 6), .ref (a 7), .int am, .int ti, .int ah])), ((a 2), .inl (cI, 6, .inl slv)), ((a 4), .inl (cI, 6, .inl scr)), ((a 7), .inl (cI, 5, .inl se))] := hD
  refine lv_aload_n hx hb dX0_foresee_15 rfl (lv_at hl 1 rfl) ?_
  refine va_get (D := (dC, dI)) (ci := 2) (v := .ref (a 4)) (C := RX2) (T := TX2) (N := 10) hx hb hts hin2 hown hK hP 8 rfl rfl 3 (by decide) (hts (.fieldLink RX0 52 "TurnDigits$State" "credits" "[I") (by decide +kernel)) (fun _ h9 => h9) rfl dX0_foresee_16 ?_
  refine lv_iconst (v := 0) hx hb dX0_foresee_19 (by decide) ?_
  refine lv_aload_n hx hb dX0_foresee_20 rfl (lv_at hl 0 rfl) ?_
  refine va_get (D := (dC, dI)) (ci := 0) (v := .ref (g 6)) (C := RX0) (T := TX0) (N := 10) hx hb hts hin0 hown hK hP 0 rfl rfl 5 (by decide) (hts (.fieldLink RX0 27 "TurnDigits$Frame" "credits" "[I") (by decide +kernel)) (fun _ h9 => h9) rfl dX0_foresee_21 ?_
  refine lv_iconst (v := 0) hx hb dX0_foresee_24 (by decide) ?_
  refine lv_bipush (v := 6) hx hb dX0_foresee_25 (by decide) ?_
  refine va_copyi (D := (dC, dI)) hx hb (hml.trans hl.1.symm) hown (hts (.methodLink RX0 46 arraycopyName) (by decide +kernel)) (hts (.native arraycopyName) (by decide +kernel)) (hts (.static arraycopyName) (by decide +kernel)) (hts (.initialized "java/lang/System") (by decide +kernel)) hK hP hD hS 10 6 0 0 (f := scr) (g := cr) rfl rfl rfl rfl rfl (by decide) (by decide) (by decide) (by decide) (by decide) (fun _ _ => rfl) (Nat.le_of_ble_eq_true rfl) (Nat.le_of_ble_eq_true rfl) dX0_foresee_27 (fun H locs hP hD hS => ?_)
  have hP : va_P (dC, dI) vwCl [((g 0), .inr (0, [.ref (g 1), .ref (g 2), .ref (g 3), .ref (g 4), .ref (g 5), .ref (g 6), .ref (g 7), .int ln, .int pe, .int ne])), ((g 1), .inl (cI, 96, .inl ow)), ((g 2), .inl (cI, 96, .inl li)), ((g 3), .inl (cI, 6, .inl gp)), ((g 4), .inl (cI, 6, .inl ls)), ((g 5), .inl (cI, 6, .inl slv)), ((g 6), .inl (cI, 6, .inl (va_cpy scr cr 0 0 6))), ((g 7), .inl (cI, 6, .inl dr)), ((a 0), .inr (2, [.ref (a 1), .ref (a 2), .ref (a 3), .ref (a 4), .ref (a 5), .ref (a 6), .ref (a 7), .int am, .int ti, .int ah])), ((a 2), .inl (cI, 6, .inl slv)), ((a 4), .inl (cI, 6, .inl scr)), ((a 7), .inl (cI, 5, .inl se))] H := hP
  have hD : va_D A [((g 0), .inr (0, [.ref (g 1), .ref (g 2), .ref (g 3), .ref (g 4), .ref (g 5), .ref (g 6), .ref (g 7), .int ln, .int pe, .int ne])), ((g 1), .inl (cI, 96, .inl ow)), ((g 2), .inl (cI, 96, .inl li)), ((g 3), .inl (cI, 6, .inl gp)), ((g 4), .inl (cI, 6, .inl ls)), ((g 5), .inl (cI, 6, .inl slv)), ((g 6), .inl (cI, 6, .inl (va_cpy scr cr 0 0 6))), ((g 7), .inl (cI, 6, .inl dr)), ((a 0), .inr (2, [.ref (a 1), .ref (a 2), .ref (a 3), .ref (a 4), .ref (a 5), .ref (a 6), .ref (a 7), .int am, .int ti, .int ah])), ((a 2), .inl (cI, 6, .inl slv)), ((a 4), .inl (cI, 6, .inl scr)), ((a 7), .inl (cI, 5, .inl se))] := hD
  obtain ⟨hP, hD⟩ := xm_cong hP hD 6 rfl (scr) (fun j hj => (sb_cpy0 hj).symm)
  have hP : va_P (dC, dI) vwCl [((g 0), .inr (0, [.ref (g 1), .ref (g 2), .ref (g 3), .ref (g 4), .ref (g 5), .ref (g 6), .ref (g 7), .int ln, .int pe, .int ne])), ((g 1), .inl (cI, 96, .inl ow)), ((g 2), .inl (cI, 96, .inl li)), ((g 3), .inl (cI, 6, .inl gp)), ((g 4), .inl (cI, 6, .inl ls)), ((g 5), .inl (cI, 6, .inl slv)), ((g 6), .inl (cI, 6, .inl scr)), ((g 7), .inl (cI, 6, .inl dr)), ((a 0), .inr (2, [.ref (a 1), .ref (a 2), .ref (a 3), .ref (a 4), .ref (a 5), .ref (a 6), .ref (a 7), .int am, .int ti, .int ah])), ((a 2), .inl (cI, 6, .inl slv)), ((a 4), .inl (cI, 6, .inl scr)), ((a 7), .inl (cI, 5, .inl se))] H := hP
  have hD : va_D A [((g 0), .inr (0, [.ref (g 1), .ref (g 2), .ref (g 3), .ref (g 4), .ref (g 5), .ref (g 6), .ref (g 7), .int ln, .int pe, .int ne])), ((g 1), .inl (cI, 96, .inl ow)), ((g 2), .inl (cI, 96, .inl li)), ((g 3), .inl (cI, 6, .inl gp)), ((g 4), .inl (cI, 6, .inl ls)), ((g 5), .inl (cI, 6, .inl slv)), ((g 6), .inl (cI, 6, .inl scr)), ((g 7), .inl (cI, 6, .inl dr)), ((a 0), .inr (2, [.ref (a 1), .ref (a 2), .ref (a 3), .ref (a 4), .ref (a 5), .ref (a 6), .ref (a 7), .int am, .int ti, .int ah])), ((a 2), .inl (cI, 6, .inl slv)), ((a 4), .inl (cI, 6, .inl scr)), ((a 7), .inl (cI, 5, .inl se))] := hD
  refine lv_aload_n hx hb dX0_foresee_30 rfl (lv_at hl 0 rfl) ?_
  refine lv_aload_n hx hb dX0_foresee_31 rfl (lv_at hl 1 rfl) ?_
  have hPc := hP.sub (ws' := [((g 0), .inr (0, [.ref (g 1), .ref (g 2), .ref (g 3), .ref (g 4), .ref (g 5), .ref (g 6), .ref (g 7), .int ln, .int pe, .int ne])), ((g 1), .inl (cI, 96, .inl ow)), ((g 2), .inl (cI, 96, .inl li)), ((g 3), .inl (cI, 6, .inl gp)), ((g 4), .inl (cI, 6, .inl ls)), ((g 5), .inl (cI, 6, .inl slv)), ((g 6), .inl (cI, 6, .inl scr)), ((g 7), .inl (cI, 6, .inl dr)), ((a 0), .inr (2, [.ref (a 1), .ref (a 2), .ref (a 3), .ref (a 4), .ref (a 5), .ref (a 6), .ref (a 7), .int am, .int ti, .int ah])), ((a 7), .inl (cI, 5, .inl se))]) [0, 1, 2, 3, 4, 5, 6, 7, 8, 11] rfl
  have hDc := hD.sub (ws' := [((g 0), .inr (0, [.ref (g 1), .ref (g 2), .ref (g 3), .ref (g 4), .ref (g 5), .ref (g 6), .ref (g 7), .int ln, .int pe, .int ne])), ((g 1), .inl (cI, 96, .inl ow)), ((g 2), .inl (cI, 96, .inl li)), ((g 3), .inl (cI, 6, .inl gp)), ((g 4), .inl (cI, 6, .inl ls)), ((g 5), .inl (cI, 6, .inl slv)), ((g 6), .inl (cI, 6, .inl scr)), ((g 7), .inl (cI, 6, .inl dr)), ((a 0), .inr (2, [.ref (a 1), .ref (a 2), .ref (a 3), .ref (a 4), .ref (a 5), .ref (a 6), .ref (a 7), .int am, .int ti, .int ah])), ((a 7), .inl (cI, 5, .inl se))]) [0, 1, 2, 3, 4, 5, 6, 7, 8, 11] (by decide) rfl
  have hFc := va_free (wc := [((g 0), .inr (0, [.ref (g 1), .ref (g 2), .ref (g 3), .ref (g 4), .ref (g 5), .ref (g 6), .ref (g 7), .int ln, .int pe, .int ne])), ((g 1), .inl (cI, 96, .inl ow)), ((g 2), .inl (cI, 96, .inl li)), ((g 3), .inl (cI, 6, .inl gp)), ((g 4), .inl (cI, 6, .inl ls)), ((g 5), .inl (cI, 6, .inl slv)), ((g 6), .inl (cI, 6, .inl scr)), ((g 7), .inl (cI, 6, .inl dr)), ((a 0), .inr (2, [.ref (a 1), .ref (a 2), .ref (a 3), .ref (a 4), .ref (a 5), .ref (a 6), .ref (a 7), .int am, .int ti, .int ah])), ((a 7), .inl (cI, 5, .inl se))]) hD hS hA [0, 1, 2, 3, 4, 5, 6, 7, 8, 11] rfl
  refine va_callv (va_runV (As := [.ref (a 0)]) (rest := []) ⟨hx, hb, hml, hown, hts⟩ (c_X0_passSlots l dC dI cI cS cJ tt H.size g ow li gp ls slv scr dr ln pe ne a am ti ah se n) (cwV 1 hts gX0_foresee_X0_passSlots rfl rfl rfl (by decide +kernel) ⟨Nat.le_of_ble_eq_true rfl, Nat.le_of_ble_eq_true rfl⟩) ⟨xm_Mblind, va_recv hK hPc (ci := 0) (q0 := 0) rfl rfl, fun U hU hW => ⟨rfl, by rw [hU], by rw [hU]; exact hPc, hE.go hS hFc hU hW, hDc.weaken (fun _ _ _ _ => trivial), hpre⟩⟩ rfl rfl hl.1 rfl (lv_room (Nat.le_of_ble_eq_true rfl)) dX0_foresee_32 ⟨Nat.zero_le _, Nat.zero_le _⟩) hS (fun q _ h => hFc q h) hFc (fun u t H1 locs ht hvm hw hB hz1 hk1 hS => ?_)
  obtain ⟨u_1, u_2, u_3, u_4, u_5, u_6, u_7, u_8, u_9⟩ := u
  obtain ⟨hP1, hD1⟩ := hB
  rw [ht] at hP1
  obtain ⟨hw_10, hw_11, hw_12, hw_13, hw_14, hw_15, hw_16, hw_17, hw_18⟩ := hw
  have hw_10 : u_1 = fm_fl (fr_ow slv scr) ow n := hw_10
  subst hw_10
  have hw_11 : u_2 = fm_fl (fr_li slv scr ah (fm_dk (se 1))) li n := hw_11
  subst hw_11
  have hw_12 : u_3 = fr_gp (fr_li slv scr ah (fm_dk (se 1))) n := hw_12
  subst hw_12
  have hw_13 : u_4 = fr_ls (fr_li slv scr ah (fm_dk (se 1))) n := hw_13
  subst hw_13
  have hw_14 : u_5 = fr_cr slv scr n := hw_14
  subst hw_14
  have hw_15 : u_6 = fr_dr (fr_li slv scr ah (fm_dk (se 1))) n := hw_15
  subst hw_15
  have hw_16 : u_7 = se 0 := hw_16
  subst hw_16
  have hw_17 : u_8 = se 2 := hw_17
  subst hw_17
  have hw_18 : u_9 = se 3 * am := hw_18
  subst hw_18
  obtain ⟨hP, hD⟩ := va_join (wr := [((a 2), .inl (cI, 6, .inl slv)), ((a 4), .inl (cI, 6, .inl scr))]) (w1 := [((g 0), .inr (0, [.ref (g 1), .ref (g 2), .ref (g 3), .ref (g 4), .ref (g 5), .ref (g 6), .ref (g 7), .int (se 0), .int (se 2), .int (se 3 * am)])), ((g 1), .inl (cI, 96, .inl (fm_fl (fr_ow slv scr) ow n))), ((g 2), .inl (cI, 96, .inl (fm_fl (fr_li slv scr ah (fm_dk (se 1))) li n))), ((g 3), .inl (cI, 6, .inl (fr_gp (fr_li slv scr ah (fm_dk (se 1))) n))), ((g 4), .inl (cI, 6, .inl (fr_ls (fr_li slv scr ah (fm_dk (se 1))) n))), ((g 5), .inl (cI, 6, .inl slv)), ((g 6), .inl (cI, 6, .inl (fr_cr slv scr n))), ((g 7), .inl (cI, 6, .inl (fr_dr (fr_li slv scr ah (fm_dk (se 1))) n))), ((a 0), .inr (2, [.ref (a 1), .ref (a 2), .ref (a 3), .ref (a 4), .ref (a 5), .ref (a 6), .ref (a 7), .int am, .int ti, .int ah])), ((a 7), .inl (cI, 5, .inl se))]) hP hD [0, 1, 2, 3, 4, 5, 6, 7, 8, 11] [9, 10] rfl rfl (by decide) (by decide) hk1 hFc hP1 hD1
  generalize H1 = H at hP hS ⊢
  have hP : va_P (dC, dI) vwCl [((a 2), .inl (cI, 6, .inl slv)), ((a 4), .inl (cI, 6, .inl scr)), ((g 0), .inr (0, [.ref (g 1), .ref (g 2), .ref (g 3), .ref (g 4), .ref (g 5), .ref (g 6), .ref (g 7), .int (se 0), .int (se 2), .int (se 3 * am)])), ((g 1), .inl (cI, 96, .inl (fm_fl (fr_ow slv scr) ow n))), ((g 2), .inl (cI, 96, .inl (fm_fl (fr_li slv scr ah (fm_dk (se 1))) li n))), ((g 3), .inl (cI, 6, .inl (fr_gp (fr_li slv scr ah (fm_dk (se 1))) n))), ((g 4), .inl (cI, 6, .inl (fr_ls (fr_li slv scr ah (fm_dk (se 1))) n))), ((g 5), .inl (cI, 6, .inl slv)), ((g 6), .inl (cI, 6, .inl (fr_cr slv scr n))), ((g 7), .inl (cI, 6, .inl (fr_dr (fr_li slv scr ah (fm_dk (se 1))) n))), ((a 0), .inr (2, [.ref (a 1), .ref (a 2), .ref (a 3), .ref (a 4), .ref (a 5), .ref (a 6), .ref (a 7), .int am, .int ti, .int ah])), ((a 7), .inl (cI, 5, .inl se))] H := hP
  have hD : va_D A [((a 2), .inl (cI, 6, .inl slv)), ((a 4), .inl (cI, 6, .inl scr)), ((g 0), .inr (0, [.ref (g 1), .ref (g 2), .ref (g 3), .ref (g 4), .ref (g 5), .ref (g 6), .ref (g 7), .int (se 0), .int (se 2), .int (se 3 * am)])), ((g 1), .inl (cI, 96, .inl (fm_fl (fr_ow slv scr) ow n))), ((g 2), .inl (cI, 96, .inl (fm_fl (fr_li slv scr ah (fm_dk (se 1))) li n))), ((g 3), .inl (cI, 6, .inl (fr_gp (fr_li slv scr ah (fm_dk (se 1))) n))), ((g 4), .inl (cI, 6, .inl (fr_ls (fr_li slv scr ah (fm_dk (se 1))) n))), ((g 5), .inl (cI, 6, .inl slv)), ((g 6), .inl (cI, 6, .inl (fr_cr slv scr n))), ((g 7), .inl (cI, 6, .inl (fr_dr (fr_li slv scr ah (fm_dk (se 1))) n))), ((a 0), .inr (2, [.ref (a 1), .ref (a 2), .ref (a 3), .ref (a 4), .ref (a 5), .ref (a 6), .ref (a 7), .int am, .int ti, .int ah])), ((a 7), .inl (cI, 5, .inl se))] := hD
  have hP9 := hP.sub (ws' := [((g 0), .inr (0, [.ref (g 1), .ref (g 2), .ref (g 3), .ref (g 4), .ref (g 5), .ref (g 6), .ref (g 7), .int (se 0), .int (se 2), .int (se 3 * am)])), ((g 1), .inl (cI, 96, .inl (fm_fl (fr_ow slv scr) ow n))), ((g 2), .inl (cI, 96, .inl (fm_fl (fr_li slv scr ah (fm_dk (se 1))) li n))), ((g 3), .inl (cI, 6, .inl (fr_gp (fr_li slv scr ah (fm_dk (se 1))) n))), ((g 4), .inl (cI, 6, .inl (fr_ls (fr_li slv scr ah (fm_dk (se 1))) n))), ((g 5), .inl (cI, 6, .inl slv)), ((g 6), .inl (cI, 6, .inl (fr_cr slv scr n))), ((g 7), .inl (cI, 6, .inl (fr_dr (fr_li slv scr ah (fm_dk (se 1))) n))), ((a 0), .inr (2, [.ref (a 1), .ref (a 2), .ref (a 3), .ref (a 4), .ref (a 5), .ref (a 6), .ref (a 7), .int am, .int ti, .int ah])), ((a 2), .inl (cI, 6, .inl slv)), ((a 4), .inl (cI, 6, .inl scr)), ((a 7), .inl (cI, 5, .inl se))]) [2, 3, 4, 5, 6, 7, 8, 9, 10, 0, 1, 11] rfl
  have hD9 := hD.sub (ws' := [((g 0), .inr (0, [.ref (g 1), .ref (g 2), .ref (g 3), .ref (g 4), .ref (g 5), .ref (g 6), .ref (g 7), .int (se 0), .int (se 2), .int (se 3 * am)])), ((g 1), .inl (cI, 96, .inl (fm_fl (fr_ow slv scr) ow n))), ((g 2), .inl (cI, 96, .inl (fm_fl (fr_li slv scr ah (fm_dk (se 1))) li n))), ((g 3), .inl (cI, 6, .inl (fr_gp (fr_li slv scr ah (fm_dk (se 1))) n))), ((g 4), .inl (cI, 6, .inl (fr_ls (fr_li slv scr ah (fm_dk (se 1))) n))), ((g 5), .inl (cI, 6, .inl slv)), ((g 6), .inl (cI, 6, .inl (fr_cr slv scr n))), ((g 7), .inl (cI, 6, .inl (fr_dr (fr_li slv scr ah (fm_dk (se 1))) n))), ((a 0), .inr (2, [.ref (a 1), .ref (a 2), .ref (a 3), .ref (a 4), .ref (a 5), .ref (a 6), .ref (a 7), .int am, .int ti, .int ah])), ((a 2), .inl (cI, 6, .inl slv)), ((a 4), .inl (cI, 6, .inl scr)), ((a 7), .inl (cI, 5, .inl se))]) [2, 3, 4, 5, 6, 7, 8, 9, 10, 0, 1, 11] (by decide) rfl
  exact W.vret hx hb hr (fun t ht hW => ⟨⟨((fm_fl (fr_ow slv scr) ow n), (fm_fl (fr_li slv scr ah (fm_dk (se 1))) li n), (fr_gp (fr_li slv scr ah (fm_dk (se 1))) n), (fr_ls (fr_li slv scr ah (fm_dk (se 1))) n), slv, (fr_cr slv scr n), (fr_dr (fr_li slv scr ah (fm_dk (se 1))) n), (se 0), (se 2), (se 3 * am)), rfl, ⟨(rfl), (rfl), (rfl), (rfl), rfl, (rfl), (rfl), (rfl), (rfl), (rfl)⟩, by rw [ht]; exact hP9, hD9⟩, hS.F ht⟩) hS.2.2 dX0_foresee_35



