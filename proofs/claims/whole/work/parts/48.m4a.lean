set_option maxHeartbeats 4000000 in
set_option maxRecDepth 100000 in
theorem c_X5_isFor (l : Launch) (dC : Nat → ClassId) (dI : Nat → Nat → Nat) (cI cS cJ : ClassId) (tt : Nat → Nat) (w0 : Nat) (x0 : Int32) : Met l yX5_isFor wsX5_isFor ({ frames := 1, cells := 0, slots := 0, locals := 22 } : Room) (va_Pc [.int (nI w0), .int x0] (xm_R (dC, dI) cI cS cJ tt [] (w0 < 5))) (k2_QcV (.int (if xt_rg x0 (xm_lo w0) (xm_hi w0) = 0 then 1 else 0))) 0 0 (fun _ => False) := by
  refine Met.ofW (cc := cX5_isFor) (maxL := 2) (ret := (some .boolean)) (by decide) rfl ?_
  intro p e s m args below meth c s₁ B hml hv
  obtain ⟨rfl, hP, hE, hpre⟩ := hv
  have hx := B.exec
  have hb := B.bytes
  have hr := B.returns
  have hts := atoms_spec (ws := wsX5_isFor) B.pre
  have hown : s.vm.findClass RX5 = some m.cls := findClass_of_methodNamed B.named
  have hlocks := B.notSynchronized
  have hK := hE.1
  have hS : va_S (fun _ => False) s.heap s.heap [] := va_S.rf
  have hP : va_P (dC, dI) vwCl [] s.heap := hP
  have hl := lv_entry [.int (nI w0), .int x0] (n := 2) (Nat.le_of_ble_eq_true rfl)
  rw [lg_entry_eq]
  generalize (lg_sl [.int (nI w0), .int x0] ++ List.replicate (2 - (lg_sl [.int (nI w0), .int x0]).length) Slot.unset).toArray = lz at hl ⊢
  have hl : lv_has lz 2 [(0, .int (nI w0)), (1, .int x0)] := hl
  refine lv_iload_n hx hb dX5_isFor_0 rfl (lv_at hl 0 rfl) ?_
  rcases (show w0 = 0 ∨ w0 = 1 ∨ w0 = 2 ∨ w0 = 3 ∨ w0 = 4 from (by omega)) with rfl | rfl | rfl | rfl | rfl
  · refine lv_tableIn (off := 31) (tgt := 32) hx hb dX5_isFor_1 (by decide) (by decide) (by decide) (by decide) ?_
    refine lv_iload_n hx hb dX5_isFor_32 rfl (lv_at hl 1 rfl) ?_
    refine lv_bipush (v := 6) hx hb dX5_isFor_33 (by decide) ?_
    refine lv_bipush (v := 96) hx hb dX5_isFor_35 (by decide) ?_
    have hPc := hP.sub (ws' := []) [] rfl
    refine W.callV ((va_runS (As := [.int x0, .int 6, .int 96]) (rest := []) ⟨hx, hb, hml, hown, hts⟩ (c_X5_in l dC dI cI cS cJ tt x0 6 96) (va_cwS 3 hts gX5_isFor_X5_in rfl rfl rfl (by decide +kernel) ⟨Nat.le_of_ble_eq_true rfl, Nat.le_of_ble_eq_true rfl⟩) ⟨xm_Rblind, fun U hU hW => ⟨rfl, by rw [hU]; exact hPc, hE.go hS (fun _ q => q.elim) hU hW, trivial⟩⟩ rfl rfl hl.1 rfl (lv_room (Nat.le_of_ble_eq_true rfl)) dX5_isFor_37 ⟨Nat.zero_le _, Nat.zero_le _⟩).run) ?_
    refine W.eq (g2 := F0 m 40 lz (.int (if xt_rg x0 6 96 = 0 then 1 else 0) :: [])) rfl ?_
    exact W.zret (v := if xt_rg x0 6 96 = 0 then 1 else 0) hx hb hr (xm_nb _) (fun t ht hW => ⟨congrArg (fun z => Outcome.returned (some (Value.int z))) (rfl), ht⟩) hS.2.2 dX5_isFor_40
  · refine lv_tableIn (off := 40) (tgt := 41) hx hb dX5_isFor_1 (by decide) (by decide) (by decide) (by decide) ?_
    refine lv_iload_n hx hb dX5_isFor_41 rfl (lv_at hl 1 rfl) ?_
    refine lv_iconst (v := 0) hx hb dX5_isFor_42 (by decide) ?_
    refine lv_iconst (v := 1) hx hb dX5_isFor_43 (by decide) ?_
    have hPc := hP.sub (ws' := []) [] rfl
    refine W.callV ((va_runS (As := [.int x0, .int 0, .int 1]) (rest := []) ⟨hx, hb, hml, hown, hts⟩ (c_X5_in l dC dI cI cS cJ tt x0 0 1) (va_cwS 3 hts gX5_isFor_X5_in rfl rfl rfl (by decide +kernel) ⟨Nat.le_of_ble_eq_true rfl, Nat.le_of_ble_eq_true rfl⟩) ⟨xm_Rblind, fun U hU hW => ⟨rfl, by rw [hU]; exact hPc, hE.go hS (fun _ q => q.elim) hU hW, trivial⟩⟩ rfl rfl hl.1 rfl (lv_room (Nat.le_of_ble_eq_true rfl)) dX5_isFor_44 ⟨Nat.zero_le _, Nat.zero_le _⟩).run) ?_
    refine W.eq (g2 := F0 m 47 lz (.int (if xt_rg x0 0 1 = 0 then 1 else 0) :: [])) rfl ?_
    exact W.zret (v := if xt_rg x0 0 1 = 0 then 1 else 0) hx hb hr (xm_nb _) (fun t ht hW => ⟨congrArg (fun z => Outcome.returned (some (Value.int z))) (rfl), ht⟩) hS.2.2 dX5_isFor_47
  · refine lv_tableIn (off := 47) (tgt := 48) hx hb dX5_isFor_1 (by decide) (by decide) (by decide) (by decide) ?_
    refine lv_iload_n hx hb dX5_isFor_48 rfl (lv_at hl 1 rfl) ?_
    refine lv_iconst (v := 1) hx hb dX5_isFor_49 (by decide) ?_
    refine lv_bipush (v := 96) hx hb dX5_isFor_50 (by decide) ?_
    have hPc := hP.sub (ws' := []) [] rfl
    refine W.callV ((va_runS (As := [.int x0, .int 1, .int 96]) (rest := []) ⟨hx, hb, hml, hown, hts⟩ (c_X5_in l dC dI cI cS cJ tt x0 1 96) (va_cwS 3 hts gX5_isFor_X5_in rfl rfl rfl (by decide +kernel) ⟨Nat.le_of_ble_eq_true rfl, Nat.le_of_ble_eq_true rfl⟩) ⟨xm_Rblind, fun U hU hW => ⟨rfl, by rw [hU]; exact hPc, hE.go hS (fun _ q => q.elim) hU hW, trivial⟩⟩ rfl rfl hl.1 rfl (lv_room (Nat.le_of_ble_eq_true rfl)) dX5_isFor_52 ⟨Nat.zero_le _, Nat.zero_le _⟩).run) ?_
    refine W.eq (g2 := F0 m 55 lz (.int (if xt_rg x0 1 96 = 0 then 1 else 0) :: [])) rfl ?_
    exact W.zret (v := if xt_rg x0 1 96 = 0 then 1 else 0) hx hb hr (xm_nb _) (fun t ht hW => ⟨congrArg (fun z => Outcome.returned (some (Value.int z))) (rfl), ht⟩) hS.2.2 dX5_isFor_55
  · refine lv_tableIn (off := 55) (tgt := 56) hx hb dX5_isFor_1 (by decide) (by decide) (by decide) (by decide) ?_
    refine lv_iload_n hx hb dX5_isFor_56 rfl (lv_at hl 1 rfl) ?_
    refine lv_iconst (v := 1) hx hb dX5_isFor_57 (by decide) ?_
    refine lv_bipush (v := 20) hx hb dX5_isFor_58 (by decide) ?_
    have hPc := hP.sub (ws' := []) [] rfl
    refine W.callV ((va_runS (As := [.int x0, .int 1, .int 20]) (rest := []) ⟨hx, hb, hml, hown, hts⟩ (c_X5_in l dC dI cI cS cJ tt x0 1 20) (va_cwS 3 hts gX5_isFor_X5_in rfl rfl rfl (by decide +kernel) ⟨Nat.le_of_ble_eq_true rfl, Nat.le_of_ble_eq_true rfl⟩) ⟨xm_Rblind, fun U hU hW => ⟨rfl, by rw [hU]; exact hPc, hE.go hS (fun _ q => q.elim) hU hW, trivial⟩⟩ rfl rfl hl.1 rfl (lv_room (Nat.le_of_ble_eq_true rfl)) dX5_isFor_60 ⟨Nat.zero_le _, Nat.zero_le _⟩).run) ?_
    refine W.eq (g2 := F0 m 63 lz (.int (if xt_rg x0 1 20 = 0 then 1 else 0) :: [])) rfl ?_
    exact W.zret (v := if xt_rg x0 1 20 = 0 then 1 else 0) hx hb hr (xm_nb _) (fun t ht hW => ⟨congrArg (fun z => Outcome.returned (some (Value.int z))) (rfl), ht⟩) hS.2.2 dX5_isFor_63
  · refine lv_tableOut (tgt := 64) hx hb dX5_isFor_1 (by decide) (by decide) ?_
    refine lv_iload_n hx hb dX5_isFor_64 rfl (lv_at hl 1 rfl) ?_
    refine lv_iconst (v := 0) hx hb dX5_isFor_65 (by decide) ?_
    refine lv_bipush (v := 99) hx hb dX5_isFor_66 (by decide) ?_
    have hPc := hP.sub (ws' := []) [] rfl
    refine W.callV ((va_runS (As := [.int x0, .int 0, .int 99]) (rest := []) ⟨hx, hb, hml, hown, hts⟩ (c_X5_in l dC dI cI cS cJ tt x0 0 99) (va_cwS 3 hts gX5_isFor_X5_in rfl rfl rfl (by decide +kernel) ⟨Nat.le_of_ble_eq_true rfl, Nat.le_of_ble_eq_true rfl⟩) ⟨xm_Rblind, fun U hU hW => ⟨rfl, by rw [hU]; exact hPc, hE.go hS (fun _ q => q.elim) hU hW, trivial⟩⟩ rfl rfl hl.1 rfl (lv_room (Nat.le_of_ble_eq_true rfl)) dX5_isFor_68 ⟨Nat.zero_le _, Nat.zero_le _⟩).run) ?_
    refine W.eq (g2 := F0 m 71 lz (.int (if xt_rg x0 0 99 = 0 then 1 else 0) :: [])) rfl ?_
    exact W.zret (v := if xt_rg x0 0 99 = 0 then 1 else 0) hx hb hr (xm_nb _) (fun t ht hW => ⟨congrArg (fun z => Outcome.returned (some (Value.int z))) (rfl), ht⟩) hS.2.2 dX5_isFor_71

set_option maxHeartbeats 4000000 in
set_option maxRecDepth 100000 in
theorem c_X5_isAt (l : Launch) (dC : Nat → ClassId) (dI : Nat → Nat → Nat) (cI cS cJ : ClassId) (tt : Nat → Nat) (mm : Nat → Nat) (kp : Int32) (th : Int32) (fa : Int32) (ts : Int32) (fr : Int32) (co : Nat → Int32) (a : Nat) (n : Nat) (lo : Int32) (hi : Int32) : Met l yX5_isAt wsX5_isAt ({ frames := 1, cells := 0, slots := 0, locals := 22 } : Room) (va_Pc [.ref (mm 0), .int lo, .int hi] (xm_R (dC, dI) cI cS cJ tt [((mm 0), .inr (5, [.ref (mm 1), .ref (mm 2), .ref (mm 3), .ref (mm 4), .int kp, .ref (mm 5), .int (nI n), .int th, .int (nI a), .int fa, .ref (mm 6), .int ts, .ref (mm 7), .ref (mm 8), .ref (mm 9), .int fr])), ((mm 5), .inl (cI, 60, .inl co))] (a ≤ 60 ∧ n ≤ 60))) (k2_QcV (.int (if tq co n a lo hi then 1 else 0))) 0 0 (fun _ => False) := by
  refine Met.ofW (cc := cX5_isAt) (maxL := 3) (ret := (some .boolean)) (by decide) rfl ?_
  intro p e s m args below meth c s₁ B hml hv
  obtain ⟨rfl, hP, hE, hpre⟩ := hv
  have hx := B.exec
  have hb := B.bytes
  have hr := B.returns
  have hts := atoms_spec (ws := wsX5_isAt) B.pre
  have hown : s.vm.findClass RX5 = some m.cls := findClass_of_methodNamed B.named
  have hlocks := B.notSynchronized
  have hK := hE.1
  have hS : va_S (fun _ => False) s.heap s.heap [] := va_S.rf
  have hP : va_P (dC, dI) vwCl [((mm 0), .inr (5, [.ref (mm 1), .ref (mm 2), .ref (mm 3), .ref (mm 4), .int kp, .ref (mm 5), .int (nI n), .int th, .int (nI a), .int fa, .ref (mm 6), .int ts, .ref (mm 7), .ref (mm 8), .ref (mm 9), .int fr])), ((mm 5), .inl (cI, 60, .inl co))] s.heap := hP
  have hin5 : ∀ w ∈ u_ws RX5 TX5 16, w ∈ wsX5_isAt := by decide +kernel
  have hl := lv_entry [.ref (mm 0), .int lo, .int hi] (n := 3) (Nat.le_of_ble_eq_true rfl)
  rw [lg_entry_eq]
  generalize (lg_sl [.ref (mm 0), .int lo, .int hi] ++ List.replicate (3 - (lg_sl [.ref (mm 0), .int lo, .int hi]).length) Slot.unset).toArray = lz at hl ⊢
  have hl : lv_has lz 3 [(0, .ref (mm 0)), (1, .int lo), (2, .int hi)] := hl
  refine lv_aload_n hx hb dX5_isAt_0 rfl (lv_at hl 0 rfl) ?_
  refine va_get (D := (dC, dI)) (ci := 5) (v := .int (nI a)) (C := RX5) (T := TX5) (N := 16) hx hb hts hin5 hown hK hP 0 rfl rfl 8 (by decide) (hts (.fieldLink RX5 124 "TurnDigitsModel" "at" "I") (by decide +kernel)) (fun _ h9 => h9) rfl dX5_isAt_1 ?_
  refine lv_aload_n hx hb dX5_isAt_4 rfl (lv_at hl 0 rfl) ?_
  refine va_get (D := (dC, dI)) (ci := 5) (v := .int (nI n)) (C := RX5) (T := TX5) (N := 16) hx hb hts hin5 hown hK hP 0 rfl rfl 6 (by decide) (hts (.fieldLink RX5 121 "TurnDigitsModel" "typed" "I") (by decide +kernel)) (fun _ h9 => h9) rfl dX5_isAt_5 ?_
  refine lv_icmp_ge (tgt := 32) hx hb dX5_isAt_8 (by decide) (fun q8 => ?_) (fun q8 => ?_)
  · refine lv_iconst (v := 0) hx hb dX5_isAt_32 (by decide) ?_
    exact W.zret (v := 0) hx hb hr rfl (fun t ht hW => ⟨congrArg (fun z => Outcome.returned (some (Value.int z))) (by rw [if_neg (fun h => absurd h.1 (by have := (nI_leI (a := n) (b := a) (by omega) (by omega)).mp q8; omega))]), ht⟩) hS.2.2 dX5_isAt_33
  · have hlt9 : a < n := by have h := (not_congr (nI_leI (a := n) (b := a) (by omega) (by omega))).mp q8; omega
    refine lv_aload_n hx hb dX5_isAt_11 rfl (lv_at hl 0 rfl) ?_
    refine va_get (D := (dC, dI)) (ci := 5) (v := .ref (mm 5)) (C := RX5) (T := TX5) (N := 16) hx hb hts hin5 hown hK hP 0 rfl rfl 5 (by decide) (hts (.fieldLink RX5 22 "TurnDigitsModel" "text" "[I") (by decide +kernel)) (fun _ h9 => h9) rfl dX5_isAt_12 ?_
    refine lv_aload_n hx hb dX5_isAt_15 rfl (lv_at hl 0 rfl) ?_
    refine va_get (D := (dC, dI)) (ci := 5) (v := .int (nI a)) (C := RX5) (T := TX5) (N := 16) hx hb hts hin5 hown hK hP 0 rfl rfl 8 (by decide) (hts (.fieldLink RX5 124 "TurnDigitsModel" "at" "I") (by decide +kernel)) (fun _ h9 => h9) rfl dX5_isAt_16 ?_
    refine xm_iald (D := (dC, dI)) hx hb hK hP 1 0 a (v := co a) rfl rfl (by decide) rfl (by omega) rfl dX5_isAt_19 ?_
    refine lv_iload_n hx hb dX5_isAt_20 rfl (lv_at hl 1 rfl) ?_
    refine lv_iload_n hx hb dX5_isAt_21 rfl (lv_at hl 2 rfl) ?_
    have hPc := hP.sub (ws' := []) [] rfl
    refine W.callV ((va_runS (As := [.int (co a), .int lo, .int hi]) (rest := []) ⟨hx, hb, hml, hown, hts⟩ (c_X5_in l dC dI cI cS cJ tt (co a) lo hi) (va_cwS 3 hts gX5_isAt_X5_in rfl rfl rfl (by decide +kernel) ⟨Nat.le_of_ble_eq_true rfl, Nat.le_of_ble_eq_true rfl⟩) ⟨xm_Rblind, fun U hU hW => ⟨rfl, by rw [hU]; exact hPc, hE.go hS (fun _ q => q.elim) hU hW, trivial⟩⟩ rfl rfl hl.1 rfl (lv_room (Nat.le_of_ble_eq_true rfl)) dX5_isAt_22 ⟨Nat.zero_le _, Nat.zero_le _⟩).run) ?_
    refine W.eq (g2 := F0 m 25 lz (.int (if xt_rg (co a) lo hi = 0 then 1 else 0) :: [])) rfl ?_
    refine lv_if_eq (tgt := 32) hx hb dX5_isAt_25 (by decide) (fun q25 => ?_) (fun q25 => ?_)
    · have q25b : ¬ xt_rg (co a) lo hi = 0 := xm_bF q25
      refine lv_iconst (v := 0) hx hb dX5_isAt_32 (by decide) ?_
      exact W.zret (v := 0) hx hb hr rfl (fun t ht hW => ⟨congrArg (fun z => Outcome.returned (some (Value.int z))) (by rw [if_neg (fun h => q25b h.2)]), ht⟩) hS.2.2 dX5_isAt_33
    · have q25b : xt_rg (co a) lo hi = 0 := xm_bT q25
      refine lv_iconst (v := 1) hx hb dX5_isAt_28 (by decide) ?_
      refine lv_goto (tgt := 33) hx hb dX5_isAt_29 (by decide) ?_
      exact W.zret (v := 1) hx hb hr rfl (fun t ht hW => ⟨congrArg (fun z => Outcome.returned (some (Value.int z))) (by rw [if_pos ⟨hlt9, q25b⟩]), ht⟩) hS.2.2 dX5_isAt_33

set_option maxHeartbeats 4000000 in
set_option maxRecDepth 100000 in
theorem c_X5_stops (l : Launch) (dC : Nat → ClassId) (dI : Nat → Nat → Nat) (cI cS cJ : ClassId) (tt : Nat → Nat) (sz : Nat) (mm : Nat → Nat) (kp : Int32) (th : Int32) (fa : Int32) (ts : Int32) (fr : Int32) (a : Nat) (n : Nat) : Met l yX5_stops wsX5_stops ({ frames := 0, cells := 0, slots := 0, locals := 0 } : Room) (va_Pc [.ref (mm 0)] (xm_M (dC, dI) cI cS cJ tt [((mm 0), .inr (5, [.ref (mm 1), .ref (mm 2), .ref (mm 3), .ref (mm 4), .int kp, .ref (mm 5), .int (nI n), .int th, .int (nI a), .int fa, .ref (mm 6), .int ts, .ref (mm 7), .ref (mm 8), .ref (mm 9), .int fr]))] sz (True))) (va_Qi (fun (r : Int32) (u : Int32) => r = 0 ∧ u = (if nI a < nI n then 1 else 0)) (xm_B (dC, dI) (fun (u : Int32) => [((mm 0), .inr (5, [.ref (mm 1), .ref (mm 2), .ref (mm 3), .ref (mm 4), .int kp, .ref (mm 5), .int (nI n), .int th, .int (nI a), .int u, .ref (mm 6), .int ts, .ref (mm 7), .ref (mm 8), .ref (mm 9), .int fr]))]) (va_A [((mm 0), .inr (5, [.ref (mm 1), .ref (mm 2), .ref (mm 3), .ref (mm 4), .int kp, .ref (mm 5), .int (nI n), .int th, .int (nI a), .int fa, .ref (mm 6), .int ts, .ref (mm 7), .ref (mm 8), .ref (mm 9), .int fr]))] sz)) (va_A [((mm 0), .inr (5, [.ref (mm 1), .ref (mm 2), .ref (mm 3), .ref (mm 4), .int kp, .ref (mm 5), .int (nI n), .int th, .int (nI a), .int fa, .ref (mm 6), .int ts, .ref (mm 7), .ref (mm 8), .ref (mm 9), .int fr]))] sz)) 0 0 (va_A [((mm 0), .inr (5, [.ref (mm 1), .ref (mm 2), .ref (mm 3), .ref (mm 4), .int kp, .ref (mm 5), .int (nI n), .int th, .int (nI a), .int fa, .ref (mm 6), .int ts, .ref (mm 7), .ref (mm 8), .ref (mm 9), .int fr]))] sz) := by
  refine Met.ofW (cc := cX5_stops) (maxL := 1) (ret := (some .boolean)) (by decide) rfl ?_
  intro p e s m args below meth c s₁ B hml hv
  obtain ⟨rfl, hsz, hP, hE, hD0, hpre⟩ := hv
  have hx := B.exec
  have hb := B.bytes
  have hr := B.returns
  have hts := atoms_spec (ws := wsX5_stops) B.pre
  have hown : s.vm.findClass RX5 = some m.cls := findClass_of_methodNamed B.named
  have hlocks := B.notSynchronized
  have hK := hE.1
  subst hsz
  have hD := hD0.self (sz := s.heap.size)
  generalize hAe : va_A [((mm 0), .inr (5, [.ref (mm 1), .ref (mm 2), .ref (mm 3), .ref (mm 4), .int kp, .ref (mm 5), .int (nI n), .int th, .int (nI a), .int fa, .ref (mm 6), .int ts, .ref (mm 7), .ref (mm 8), .ref (mm 9), .int fr]))] s.heap.size = A at hD hE ⊢
  have hA : ∀ q : Nat, s.heap.size ≤ q → A q := fun q h => by rw [← hAe]; exact Or.inr h
  have hS : va_S A s.heap s.heap [] := va_S.rf
  have hP : va_P (dC, dI) vwCl [((mm 0), .inr (5, [.ref (mm 1), .ref (mm 2), .ref (mm 3), .ref (mm 4), .int kp, .ref (mm 5), .int (nI n), .int th, .int (nI a), .int fa, .ref (mm 6), .int ts, .ref (mm 7), .ref (mm 8), .ref (mm 9), .int fr]))] s.heap := hP
  have hin5 : ∀ w ∈ u_ws RX5 TX5 16, w ∈ wsX5_stops := by decide +kernel
  have hl := lv_entry [.ref (mm 0)] (n := 1) (Nat.le_of_ble_eq_true rfl)
  rw [lg_entry_eq]
  generalize (lg_sl [.ref (mm 0)] ++ List.replicate (1 - (lg_sl [.ref (mm 0)]).length) Slot.unset).toArray = lz at hl ⊢
  have hl : lv_has lz 1 [(0, .ref (mm 0))] := hl
  refine lv_aload_n hx hb dX5_stops_0 rfl (lv_at hl 0 rfl) ?_
  refine lv_aload_n hx hb dX5_stops_1 rfl (lv_at hl 0 rfl) ?_
  refine va_get (D := (dC, dI)) (ci := 5) (v := .int (nI a)) (C := RX5) (T := TX5) (N := 16) hx hb hts hin5 hown hK hP 0 rfl rfl 8 (by decide) (hts (.fieldLink RX5 124 "TurnDigitsModel" "at" "I") (by decide +kernel)) (fun _ h9 => h9) rfl dX5_stops_2 ?_
  refine lv_aload_n hx hb dX5_stops_5 rfl (lv_at hl 0 rfl) ?_
  refine va_get (D := (dC, dI)) (ci := 5) (v := .int (nI n)) (C := RX5) (T := TX5) (N := 16) hx hb hts hin5 hown hK hP 0 rfl rfl 6 (by decide) (hts (.fieldLink RX5 121 "TurnDigitsModel" "typed" "I") (by decide +kernel)) (fun _ h9 => h9) rfl dX5_stops_6 ?_
  refine lv_icmp_ge (tgt := 16) hx hb dX5_stops_9 (by decide) (fun q9 => ?_) (fun q9 => ?_)
  · refine lv_iconst (v := 0) hx hb dX5_stops_16 (by decide) ?_
    refine va_put (D := (dC, dI)) (ci := 5) (v := .int 0) (ty := .boolean) (C := RX5) (T := TX5) (N := 16) hx hb hts hin5 tyX5 tyX5_ok nmX5 hown hK hP hD hS 0 rfl rfl 9 (by decide) (hts (.fieldLink RX5 127 "TurnDigitsModel" "isFault" "Z") (by decide +kernel)) (fun _ h9 => h9) rfl (by decide +kernel) rfl rfl (Nat.le_of_ble_eq_true rfl) dX5_stops_17 (fun H locs hP hD hS => ?_)
    have hP : va_P (dC, dI) vwCl [((mm 0), .inr (5, [.ref (mm 1), .ref (mm 2), .ref (mm 3), .ref (mm 4), .int kp, .ref (mm 5), .int (nI n), .int th, .int (nI a), .int 0, .ref (mm 6), .int ts, .ref (mm 7), .ref (mm 8), .ref (mm 9), .int fr]))] H := hP
    have hD : va_D A [((mm 0), .inr (5, [.ref (mm 1), .ref (mm 2), .ref (mm 3), .ref (mm 4), .int kp, .ref (mm 5), .int (nI n), .int th, .int (nI a), .int 0, .ref (mm 6), .int ts, .ref (mm 7), .ref (mm 8), .ref (mm 9), .int fr]))] := hD
    refine lv_iconst (v := 0) hx hb dX5_stops_20 (by decide) ?_
    have hP9 : va_P (dC, dI) vwCl [((mm 0), .inr (5, [.ref (mm 1), .ref (mm 2), .ref (mm 3), .ref (mm 4), .int kp, .ref (mm 5), .int (nI n), .int th, .int (nI a), .int 0, .ref (mm 6), .int ts, .ref (mm 7), .ref (mm 8), .ref (mm 9), .int fr]))] H := hP
    have hD9 : va_D A [((mm 0), .inr (5, [.ref (mm 1), .ref (mm 2), .ref (mm 3), .ref (mm 4), .int kp, .ref (mm 5), .int (nI n), .int th, .int (nI a), .int 0, .ref (mm 6), .int ts, .ref (mm 7), .ref (mm 8), .ref (mm 9), .int fr]))] := hD
    exact W.zret (v := 0) hx hb hr rfl (fun t ht hW => ⟨⟨0, 0, rfl, ⟨rfl, (by rw [if_neg (Int32.not_lt.mpr q9)])⟩, by rw [ht]; exact hP9, hD9⟩, hS.F ht⟩) hS.2.2 dX5_stops_21
  · refine lv_iconst (v := 1) hx hb dX5_stops_12 (by decide) ?_
    refine lv_goto (tgt := 17) hx hb dX5_stops_13 (by decide) ?_
    refine va_put (D := (dC, dI)) (ci := 5) (v := .int 1) (ty := .boolean) (C := RX5) (T := TX5) (N := 16) hx hb hts hin5 tyX5 tyX5_ok nmX5 hown hK hP hD hS 0 rfl rfl 9 (by decide) (hts (.fieldLink RX5 127 "TurnDigitsModel" "isFault" "Z") (by decide +kernel)) (fun _ h9 => h9) rfl (by decide +kernel) rfl rfl (Nat.le_of_ble_eq_true rfl) dX5_stops_17 (fun H locs hP hD hS => ?_)
    have hP : va_P (dC, dI) vwCl [((mm 0), .inr (5, [.ref (mm 1), .ref (mm 2), .ref (mm 3), .ref (mm 4), .int kp, .ref (mm 5), .int (nI n), .int th, .int (nI a), .int 1, .ref (mm 6), .int ts, .ref (mm 7), .ref (mm 8), .ref (mm 9), .int fr]))] H := hP
    have hD : va_D A [((mm 0), .inr (5, [.ref (mm 1), .ref (mm 2), .ref (mm 3), .ref (mm 4), .int kp, .ref (mm 5), .int (nI n), .int th, .int (nI a), .int 1, .ref (mm 6), .int ts, .ref (mm 7), .ref (mm 8), .ref (mm 9), .int fr]))] := hD
    refine lv_iconst (v := 0) hx hb dX5_stops_20 (by decide) ?_
    have hP9 : va_P (dC, dI) vwCl [((mm 0), .inr (5, [.ref (mm 1), .ref (mm 2), .ref (mm 3), .ref (mm 4), .int kp, .ref (mm 5), .int (nI n), .int th, .int (nI a), .int 1, .ref (mm 6), .int ts, .ref (mm 7), .ref (mm 8), .ref (mm 9), .int fr]))] H := hP
    have hD9 : va_D A [((mm 0), .inr (5, [.ref (mm 1), .ref (mm 2), .ref (mm 3), .ref (mm 4), .int kp, .ref (mm 5), .int (nI n), .int th, .int (nI a), .int 1, .ref (mm 6), .int ts, .ref (mm 7), .ref (mm 8), .ref (mm 9), .int fr]))] := hD
    exact W.zret (v := 0) hx hb hr rfl (fun t ht hW => ⟨⟨0, 1, rfl, ⟨rfl, (by rw [if_pos (Int32.not_le.mp q9)])⟩, by rw [ht]; exact hP9, hD9⟩, hS.F ht⟩) hS.2.2 dX5_stops_21

set_option maxHeartbeats 4000000 in
set_option maxRecDepth 100000 in
theorem c_X5_isPart (l : Launch) (dC : Nat → ClassId) (dI : Nat → Nat → Nat) (cI cS cJ : ClassId) (tt : Nat → Nat) (sz : Nat) (mm : Nat → Nat) (kp : Int32) (th : Int32) (fa : Int32) (fr : Int32) (co : Nat → Int32) (tl : Nat → Int32) (a : Nat) (n : Nat) (j : Nat) : Met l yX5_isPart wsX5_isPart ({ frames := 2, cells := 0, slots := 0, locals := 44 } : Room) (va_Pc [.ref (mm 0)] (xm_M (dC, dI) cI cS cJ tt [((mm 0), .inr (5, [.ref (mm 1), .ref (mm 2), .ref (mm 3), .ref (mm 4), .int kp, .ref (mm 5), .int (nI n), .int th, .int (nI a), .int fa, .ref (mm 6), .int (nI j), .ref (mm 7), .ref (mm 8), .ref (mm 9), .int fr])), ((mm 5), .inl (cI, 60, .inl co)), ((mm 6), .inl (cI, 12, .inl tl))] sz ((a ≤ n ∧ n ≤ 60) ∧ j < 6))) (va_Qi (fun (r : Int32) (u : Int32 × Int32 × (Nat → Int32)) => r = pp_r co n a ∧ u.1 = nI (pp_a co n a) ∧ u.2.1 = (if pp_r co n a = 0 then (if nI (pp_a co n a) < nI n then 1 else 0) else fa) ∧ u.2.2 = pp_t co n a j tl) (xm_B (dC, dI) (fun (u : Int32 × Int32 × (Nat → Int32)) => [((mm 0), .inr (5, [.ref (mm 1), .ref (mm 2), .ref (mm 3), .ref (mm 4), .int kp, .ref (mm 5), .int (nI n), .int th, .int u.1, .int u.2.1, .ref (mm 6), .int (nI j), .ref (mm 7), .ref (mm 8), .ref (mm 9), .int fr])), ((mm 5), .inl (cI, 60, .inl co)), ((mm 6), .inl (cI, 12, .inl u.2.2))]) (va_A [((mm 0), .inr (5, [.ref (mm 1), .ref (mm 2), .ref (mm 3), .ref (mm 4), .int kp, .ref (mm 5), .int (nI n), .int th, .int (nI a), .int fa, .ref (mm 6), .int (nI j), .ref (mm 7), .ref (mm 8), .ref (mm 9), .int fr])), ((mm 5), .inl (cI, 60, .inl co)), ((mm 6), .inl (cI, 12, .inl tl))] sz)) (va_A [((mm 0), .inr (5, [.ref (mm 1), .ref (mm 2), .ref (mm 3), .ref (mm 4), .int kp, .ref (mm 5), .int (nI n), .int th, .int (nI a), .int fa, .ref (mm 6), .int (nI j), .ref (mm 7), .ref (mm 8), .ref (mm 9), .int fr])), ((mm 5), .inl (cI, 60, .inl co)), ((mm 6), .inl (cI, 12, .inl tl))] sz)) 0 0 (va_A [((mm 0), .inr (5, [.ref (mm 1), .ref (mm 2), .ref (mm 3), .ref (mm 4), .int kp, .ref (mm 5), .int (nI n), .int th, .int (nI a), .int fa, .ref (mm 6), .int (nI j), .ref (mm 7), .ref (mm 8), .ref (mm 9), .int fr])), ((mm 5), .inl (cI, 60, .inl co)), ((mm 6), .inl (cI, 12, .inl tl))] sz) := by
  refine Met.ofW (cc := cX5_isPart) (maxL := 3) (ret := (some .boolean)) (by decide) rfl ?_
  intro p e s m args below meth c s₁ B hml hv
  obtain ⟨rfl, hsz, hP, hE, hD0, hpre⟩ := hv
  have hx := B.exec
  have hb := B.bytes
  have hr := B.returns
  have hts := atoms_spec (ws := wsX5_isPart) B.pre
  have hown : s.vm.findClass RX5 = some m.cls := findClass_of_methodNamed B.named
  have hlocks := B.notSynchronized
  have hK := hE.1
  subst hsz
  have hD := hD0.self (sz := s.heap.size)
  generalize hAe : va_A [((mm 0), .inr (5, [.ref (mm 1), .ref (mm 2), .ref (mm 3), .ref (mm 4), .int kp, .ref (mm 5), .int (nI n), .int th, .int (nI a), .int fa, .ref (mm 6), .int (nI j), .ref (mm 7), .ref (mm 8), .ref (mm 9), .int fr])), ((mm 5), .inl (cI, 60, .inl co)), ((mm 6), .inl (cI, 12, .inl tl))] s.heap.size = A at hD hE ⊢
  have hA : ∀ q : Nat, s.heap.size ≤ q → A q := fun q h => by rw [← hAe]; exact Or.inr h
  have hS : va_S A s.heap s.heap [] := va_S.rf
  have hP : va_P (dC, dI) vwCl [((mm 0), .inr (5, [.ref (mm 1), .ref (mm 2), .ref (mm 3), .ref (mm 4), .int kp, .ref (mm 5), .int (nI n), .int th, .int (nI a), .int fa, .ref (mm 6), .int (nI j), .ref (mm 7), .ref (mm 8), .ref (mm 9), .int fr])), ((mm 5), .inl (cI, 60, .inl co)), ((mm 6), .inl (cI, 12, .inl tl))] s.heap := hP
  have hin5 : ∀ w ∈ u_ws RX5 TX5 16, w ∈ wsX5_isPart := by decide +kernel
  have hl := lv_entry [.ref (mm 0)] (n := 3) (Nat.le_of_ble_eq_true rfl)
  rw [lg_entry_eq]
  generalize (lg_sl [.ref (mm 0)] ++ List.replicate (3 - (lg_sl [.ref (mm 0)]).length) Slot.unset).toArray = lz at hl ⊢
  have hl : lv_has lz 3 [(0, .ref (mm 0))] := hl
  obtain ⟨⟨han, hn60⟩, hj6⟩ := hpre
  refine lv_aload_n hx hb dX5_isPart_0 rfl (lv_at hl 0 rfl) ?_
  refine lv_bipush (v := 48) hx hb dX5_isPart_1 (by decide) ?_
  refine lv_bipush (v := 57) hx hb dX5_isPart_3 (by decide) ?_
  have hPc := hP.sub (ws' := [((mm 0), .inr (5, [.ref (mm 1), .ref (mm 2), .ref (mm 3), .ref (mm 4), .int kp, .ref (mm 5), .int (nI n), .int th, .int (nI a), .int fa, .ref (mm 6), .int (nI j), .ref (mm 7), .ref (mm 8), .ref (mm 9), .int fr])), ((mm 5), .inl (cI, 60, .inl co))]) [0, 1] rfl
  refine W.callV ((va_runV (As := [.int 48, .int 57]) (rest := []) ⟨hx, hb, hml, hown, hts⟩ (c_X5_isAt l dC dI cI cS cJ tt mm kp th fa (nI j) fr co a n 48 57) (cwV 2 hts gX5_isPart_X5_isAt rfl rfl rfl (by decide +kernel) ⟨Nat.le_of_ble_eq_true rfl, Nat.le_of_ble_eq_true rfl⟩) ⟨xm_Rblind, va_recv hK hPc (ci := 5) (q0 := 0) rfl rfl, fun U hU hW => ⟨rfl, by rw [hU]; exact hPc, hE.go hS (fun _ q => q.elim) hU hW, ⟨by omega, hn60⟩⟩⟩ rfl rfl hl.1 rfl (lv_room (Nat.le_of_ble_eq_true rfl)) dX5_isPart_5 ⟨Nat.zero_le _, Nat.zero_le _⟩).run) ?_
  refine W.eq (g2 := F0 m 8 lz (.int (if tq co n a 48 57 then 1 else 0) :: [])) rfl ?_
  refine lv_istore_n (lv' := [(1, .int (if tq co n a 48 57 then 1 else 0)), (0, .ref (mm 0))]) hx hb dX5_isPart_8 rfl hl (by decide) rfl (fun lz hl => ?_)
  refine lv_iload_n hx hb dX5_isPart_9 rfl (lv_at hl 0 rfl) ?_
  refine lv_if_ne (tgt := 40) hx hb dX5_isPart_10 (by decide) (fun q10 => ?_) (fun q10 => ?_)
  · have q10b : tq co n a 48 57 := xm_bT q10
    have hlt_a : a < n := q10b.1
    refine lv_aload_n hx hb dX5_isPart_40 rfl (lv_at hl 1 rfl) ?_
    refine va_get (D := (dC, dI)) (ci := 5) (v := .ref (mm 6)) (C := RX5) (T := TX5) (N := 16) hx hb hts hin5 hown hK hP 0 rfl rfl 10 (by decide) (hts (.fieldLink RX5 25 "TurnDigitsModel" "told" "[I") (by decide +kernel)) (fun _ h9 => h9) rfl dX5_isPart_41 ?_
    refine lv_iconst (v := 2) hx hb dX5_isPart_44 (by decide) ?_
    refine lv_aload_n hx hb dX5_isPart_45 rfl (lv_at hl 1 rfl) ?_
    refine va_get (D := (dC, dI)) (ci := 5) (v := .int (nI j)) (C := RX5) (T := TX5) (N := 16) hx hb hts hin5 hown hK hP 0 rfl rfl 11 (by decide) (hts (.fieldLink RX5 138 "TurnDigitsModel" "tolds" "I") (by decide +kernel)) (fun _ h9 => h9) rfl dX5_isPart_46 ?_
    refine lv_imul hx hb dX5_isPart_49 ?_
    refine xm_topi (y := nI (2 * j)) (pk_mul 2 j) ?_
    refine lv_iload_n hx hb dX5_isPart_50 rfl (lv_at hl 0 rfl) ?_
    refine lv_if_eq (tgt := 69) hx hb dX5_isPart_51 (by decide) (fun q51 => absurd q51 (by rw [if_pos q10b]; decide)) (fun q51 => ?_)
    refine lv_aload_n hx hb dX5_isPart_54 rfl (lv_at hl 1 rfl) ?_
    refine va_get (D := (dC, dI)) (ci := 5) (v := .ref (mm 5)) (C := RX5) (T := TX5) (N := 16) hx hb hts hin5 hown hK hP 0 rfl rfl 5 (by decide) (hts (.fieldLink RX5 22 "TurnDigitsModel" "text" "[I") (by decide +kernel)) (fun _ h9 => h9) rfl dX5_isPart_55 ?_
    refine lv_aload_n hx hb dX5_isPart_58 rfl (lv_at hl 1 rfl) ?_
    refine va_get (D := (dC, dI)) (ci := 5) (v := .int (nI a)) (C := RX5) (T := TX5) (N := 16) hx hb hts hin5 hown hK hP 0 rfl rfl 8 (by decide) (hts (.fieldLink RX5 124 "TurnDigitsModel" "at" "I") (by decide +kernel)) (fun _ h9 => h9) rfl dX5_isPart_59 ?_
    refine xm_iald (D := (dC, dI)) hx hb hK hP 1 0 a (v := co a) rfl rfl (by decide) rfl (by omega) rfl dX5_isPart_62 ?_
    refine lv_bipush (v := 48) hx hb dX5_isPart_63 (by decide) ?_
    refine lv_isub hx hb dX5_isPart_65 ?_
    refine lv_goto (tgt := 87) hx hb dX5_isPart_66 (by decide) ?_
    refine xm_iast (D := (dC, dI)) hx hb hK hP hD hS 2 0 (2 * j) rfl rfl (by decide) rfl (by omega) dX5_isPart_87 (fun H locs hP hD hS => ?_)
    have hP : va_P (dC, dI) vwCl [((mm 0), .inr (5, [.ref (mm 1), .ref (mm 2), .ref (mm 3), .ref (mm 4), .int kp, .ref (mm 5), .int (nI n), .int th, .int (nI a), .int fa, .ref (mm 6), .int (nI j), .ref (mm 7), .ref (mm 8), .ref (mm 9), .int fr])), ((mm 5), .inl (cI, 60, .inl co)), ((mm 6), .inl (cI, 12, .inl (upd tl (2 * j) ((co a) - 48))))] H := hP
    have hD : va_D A [((mm 0), .inr (5, [.ref (mm 1), .ref (mm 2), .ref (mm 3), .ref (mm 4), .int kp, .ref (mm 5), .int (nI n), .int th, .int (nI a), .int fa, .ref (mm 6), .int (nI j), .ref (mm 7), .ref (mm 8), .ref (mm 9), .int fr])), ((mm 5), .inl (cI, 60, .inl co)), ((mm 6), .inl (cI, 12, .inl (upd tl (2 * j) ((co a) - 48))))] := hD
    refine lv_aload_n hx hb dX5_isPart_88 rfl (lv_at hl 1 rfl) ?_
    refine va_get (D := (dC, dI)) (ci := 5) (v := .ref (mm 6)) (C := RX5) (T := TX5) (N := 16) hx hb hts hin5 hown hK hP 0 rfl rfl 10 (by decide) (hts (.fieldLink RX5 25 "TurnDigitsModel" "told" "[I") (by decide +kernel)) (fun _ h9 => h9) rfl dX5_isPart_89 ?_
    refine lv_iconst (v := 2) hx hb dX5_isPart_92 (by decide) ?_
    refine lv_aload_n hx hb dX5_isPart_93 rfl (lv_at hl 1 rfl) ?_
    refine va_get (D := (dC, dI)) (ci := 5) (v := .int (nI j)) (C := RX5) (T := TX5) (N := 16) hx hb hts hin5 hown hK hP 0 rfl rfl 11 (by decide) (hts (.fieldLink RX5 138 "TurnDigitsModel" "tolds" "I") (by decide +kernel)) (fun _ h9 => h9) rfl dX5_isPart_94 ?_
    refine lv_imul hx hb dX5_isPart_97 ?_
    refine xm_topi (y := nI (2 * j)) (pk_mul 2 j) ?_
    refine lv_iconst (v := 1) hx hb dX5_isPart_98 (by decide) ?_
    refine lv_iadd hx hb dX5_isPart_99 ?_
    refine xm_topi (y := nI (2 * j + 1)) (nI_add (2 * j) 1) ?_
    refine lv_iconst (v := (-1)) hx hb dX5_isPart_100 (by decide) ?_
    refine xm_iast (D := (dC, dI)) hx hb hK hP hD hS 2 0 (2 * j + 1) rfl rfl (by decide) rfl (by omega) dX5_isPart_101 (fun H locs hP hD hS => ?_)
    have hP : va_P (dC, dI) vwCl [((mm 0), .inr (5, [.ref (mm 1), .ref (mm 2), .ref (mm 3), .ref (mm 4), .int kp, .ref (mm 5), .int (nI n), .int th, .int (nI a), .int fa, .ref (mm 6), .int (nI j), .ref (mm 7), .ref (mm 8), .ref (mm 9), .int fr])), ((mm 5), .inl (cI, 60, .inl co)), ((mm 6), .inl (cI, 12, .inl (upd (upd tl (2 * j) ((co a) - 48)) (2 * j + 1) (-1))))] H := hP
    have hD : va_D A [((mm 0), .inr (5, [.ref (mm 1), .ref (mm 2), .ref (mm 3), .ref (mm 4), .int kp, .ref (mm 5), .int (nI n), .int th, .int (nI a), .int fa, .ref (mm 6), .int (nI j), .ref (mm 7), .ref (mm 8), .ref (mm 9), .int fr])), ((mm 5), .inl (cI, 60, .inl co)), ((mm 6), .inl (cI, 12, .inl (upd (upd tl (2 * j) ((co a) - 48)) (2 * j + 1) (-1))))] := hD
    refine lv_aload_n hx hb dX5_isPart_102 rfl (lv_at hl 1 rfl) ?_
    refine lv_dup hx hb dX5_isPart_103 rfl ?_
    refine va_get (D := (dC, dI)) (ci := 5) (v := .int (nI a)) (C := RX5) (T := TX5) (N := 16) hx hb hts hin5 hown hK hP 0 rfl rfl 8 (by decide) (hts (.fieldLink RX5 124 "TurnDigitsModel" "at" "I") (by decide +kernel)) (fun _ h9 => h9) rfl dX5_isPart_104 ?_
    refine lv_iconst (v := 1) hx hb dX5_isPart_107 (by decide) ?_
    refine lv_iadd hx hb dX5_isPart_108 ?_
    refine xm_topi (y := nI (a + 1)) (nI_add a 1) ?_
    refine va_put (D := (dC, dI)) (ci := 5) (v := .int (nI (a + 1))) (ty := .int) (C := RX5) (T := TX5) (N := 16) hx hb hts hin5 tyX5 tyX5_ok nmX5 hown hK hP hD hS 0 rfl rfl 8 (by decide) (hts (.fieldLink RX5 124 "TurnDigitsModel" "at" "I") (by decide +kernel)) (fun _ h9 => h9) rfl (by decide +kernel) rfl rfl (Nat.le_of_ble_eq_true rfl) dX5_isPart_109 (fun H locs hP hD hS => ?_)
    have hP : va_P (dC, dI) vwCl [((mm 0), .inr (5, [.ref (mm 1), .ref (mm 2), .ref (mm 3), .ref (mm 4), .int kp, .ref (mm 5), .int (nI n), .int th, .int (nI (a + 1)), .int fa, .ref (mm 6), .int (nI j), .ref (mm 7), .ref (mm 8), .ref (mm 9), .int fr])), ((mm 5), .inl (cI, 60, .inl co)), ((mm 6), .inl (cI, 12, .inl (upd (upd tl (2 * j) ((co a) - 48)) (2 * j + 1) (-1))))] H := hP
    have hD : va_D A [((mm 0), .inr (5, [.ref (mm 1), .ref (mm 2), .ref (mm 3), .ref (mm 4), .int kp, .ref (mm 5), .int (nI n), .int th, .int (nI (a + 1)), .int fa, .ref (mm 6), .int (nI j), .ref (mm 7), .ref (mm 8), .ref (mm 9), .int fr])), ((mm 5), .inl (cI, 60, .inl co)), ((mm 6), .inl (cI, 12, .inl (upd (upd tl (2 * j) ((co a) - 48)) (2 * j + 1) (-1))))] := hD
    refine lv_aload_n hx hb dX5_isPart_112 rfl (lv_at hl 1 rfl) ?_
    refine lv_bipush (v := 42) hx hb dX5_isPart_113 (by decide) ?_
    refine lv_bipush (v := 42) hx hb dX5_isPart_115 (by decide) ?_
    have hPc := hP.sub (ws' := [((mm 0), .inr (5, [.ref (mm 1), .ref (mm 2), .ref (mm 3), .ref (mm 4), .int kp, .ref (mm 5), .int (nI n), .int th, .int (nI (a + 1)), .int fa, .ref (mm 6), .int (nI j), .ref (mm 7), .ref (mm 8), .ref (mm 9), .int fr])), ((mm 5), .inl (cI, 60, .inl co))]) [0, 1] rfl
    refine W.callV ((va_runV (As := [.int 42, .int 42]) (rest := []) ⟨hx, hb, hml, hown, hts⟩ (c_X5_isAt l dC dI cI cS cJ tt mm kp th fa (nI j) fr co (a + 1) n 42 42) (cwV 2 hts gX5_isPart_X5_isAt rfl rfl rfl (by decide +kernel) ⟨Nat.le_of_ble_eq_true rfl, Nat.le_of_ble_eq_true rfl⟩) ⟨xm_Rblind, va_recv hK hPc (ci := 5) (q0 := 0) rfl rfl, fun U hU hW => ⟨rfl, by rw [hU]; exact hPc, hE.go hS (fun _ q => q.elim) hU hW, ⟨by have := hlt_a; omega, hn60⟩⟩⟩ rfl rfl hl.1 rfl (lv_room (Nat.le_of_ble_eq_true rfl)) dX5_isPart_117 ⟨Nat.zero_le _, Nat.zero_le _⟩).run) ?_
    refine W.eq (g2 := F0 m 120 lz (.int (if tq co n (a + 1) 42 42 then 1 else 0) :: [])) rfl ?_
    refine lv_if_ne (tgt := 125) hx hb dX5_isPart_120 (by decide) (fun q120 => ?_) (fun q120 => ?_)
    · have q120b : tq co n (a + 1) 42 42 := xm_bT q120
      refine lv_aload_n hx hb dX5_isPart_125 rfl (lv_at hl 1 rfl) ?_
      refine lv_dup hx hb dX5_isPart_126 rfl ?_
      refine va_get (D := (dC, dI)) (ci := 5) (v := .int (nI (a + 1))) (C := RX5) (T := TX5) (N := 16) hx hb hts hin5 hown hK hP 0 rfl rfl 8 (by decide) (hts (.fieldLink RX5 124 "TurnDigitsModel" "at" "I") (by decide +kernel)) (fun _ h9 => h9) rfl dX5_isPart_127 ?_
      refine lv_iconst (v := 1) hx hb dX5_isPart_130 (by decide) ?_
      refine lv_iadd hx hb dX5_isPart_131 ?_
      refine xm_topi (y := nI (a + 1 + 1)) (nI_add (a + 1) 1) ?_
      refine va_put (D := (dC, dI)) (ci := 5) (v := .int (nI (a + 1 + 1))) (ty := .int) (C := RX5) (T := TX5) (N := 16) hx hb hts hin5 tyX5 tyX5_ok nmX5 hown hK hP hD hS 0 rfl rfl 8 (by decide) (hts (.fieldLink RX5 124 "TurnDigitsModel" "at" "I") (by decide +kernel)) (fun _ h9 => h9) rfl (by decide +kernel) rfl rfl (Nat.le_of_ble_eq_true rfl) dX5_isPart_132 (fun H locs hP hD hS => ?_)
      have hP : va_P (dC, dI) vwCl [((mm 0), .inr (5, [.ref (mm 1), .ref (mm 2), .ref (mm 3), .ref (mm 4), .int kp, .ref (mm 5), .int (nI n), .int th, .int (nI (a + 1 + 1)), .int fa, .ref (mm 6), .int (nI j), .ref (mm 7), .ref (mm 8), .ref (mm 9), .int fr])), ((mm 5), .inl (cI, 60, .inl co)), ((mm 6), .inl (cI, 12, .inl (upd (upd tl (2 * j) ((co a) - 48)) (2 * j + 1) (-1))))] H := hP
      have hD : va_D A [((mm 0), .inr (5, [.ref (mm 1), .ref (mm 2), .ref (mm 3), .ref (mm 4), .int kp, .ref (mm 5), .int (nI n), .int th, .int (nI (a + 1 + 1)), .int fa, .ref (mm 6), .int (nI j), .ref (mm 7), .ref (mm 8), .ref (mm 9), .int fr])), ((mm 5), .inl (cI, 60, .inl co)), ((mm 6), .inl (cI, 12, .inl (upd (upd tl (2 * j) ((co a) - 48)) (2 * j + 1) (-1))))] := hD
      refine lv_aload_n hx hb dX5_isPart_135 rfl (lv_at hl 1 rfl) ?_
      refine lv_bipush (v := 48) hx hb dX5_isPart_136 (by decide) ?_
      refine lv_bipush (v := 57) hx hb dX5_isPart_138 (by decide) ?_
      have hPc := hP.sub (ws' := [((mm 0), .inr (5, [.ref (mm 1), .ref (mm 2), .ref (mm 3), .ref (mm 4), .int kp, .ref (mm 5), .int (nI n), .int th, .int (nI (a + 1 + 1)), .int fa, .ref (mm 6), .int (nI j), .ref (mm 7), .ref (mm 8), .ref (mm 9), .int fr])), ((mm 5), .inl (cI, 60, .inl co))]) [0, 1] rfl
      refine W.callV ((va_runV (As := [.int 48, .int 57]) (rest := []) ⟨hx, hb, hml, hown, hts⟩ (c_X5_isAt l dC dI cI cS cJ tt mm kp th fa (nI j) fr co (a + 1 + 1) n 48 57) (cwV 2 hts gX5_isPart_X5_isAt rfl rfl rfl (by decide +kernel) ⟨Nat.le_of_ble_eq_true rfl, Nat.le_of_ble_eq_true rfl⟩) ⟨xm_Rblind, va_recv hK hPc (ci := 5) (q0 := 0) rfl rfl, fun U hU hW => ⟨rfl, by rw [hU]; exact hPc, hE.go hS (fun _ q => q.elim) hU hW, ⟨by have := q120b.1; omega, hn60⟩⟩⟩ rfl rfl hl.1 rfl (lv_room (Nat.le_of_ble_eq_true rfl)) dX5_isPart_140 ⟨Nat.zero_le _, Nat.zero_le _⟩).run) ?_
      refine W.eq (g2 := F0 m 143 lz (.int (if tq co n (a + 1 + 1) 48 57 then 1 else 0) :: [])) rfl ?_
      refine lv_if_ne (tgt := 151) hx hb dX5_isPart_143 (by decide) (fun q143 => ?_) (fun q143 => ?_)
      · have q143b : tq co n (a + 1 + 1) 48 57 := xm_bT q143
        refine lv_aload_n hx hb dX5_isPart_151 rfl (lv_at hl 1 rfl) ?_
        refine va_get (D := (dC, dI)) (ci := 5) (v := .ref (mm 5)) (C := RX5) (T := TX5) (N := 16) hx hb hts hin5 hown hK hP 0 rfl rfl 5 (by decide) (hts (.fieldLink RX5 22 "TurnDigitsModel" "text" "[I") (by decide +kernel)) (fun _ h9 => h9) rfl dX5_isPart_152 ?_
        refine lv_aload_n hx hb dX5_isPart_155 rfl (lv_at hl 1 rfl) ?_
        refine va_get (D := (dC, dI)) (ci := 5) (v := .int (nI (a + 1 + 1))) (C := RX5) (T := TX5) (N := 16) hx hb hts hin5 hown hK hP 0 rfl rfl 8 (by decide) (hts (.fieldLink RX5 124 "TurnDigitsModel" "at" "I") (by decide +kernel)) (fun _ h9 => h9) rfl dX5_isPart_156 ?_
        refine xm_iald (D := (dC, dI)) hx hb hK hP 1 0 (a + 1 + 1) (v := co (a + 1 + 1)) rfl rfl (by decide) rfl (by have := q143b.1; omega) rfl dX5_isPart_159 ?_
        refine lv_bipush (v := 48) hx hb dX5_isPart_160 (by decide) ?_
        refine lv_isub hx hb dX5_isPart_162 ?_
        refine lv_istore_n (lv' := [(2, .int ((co (a + 1 + 1)) - 48)), (1, .int (if tq co n a 48 57 then 1 else 0)), (0, .ref (mm 0))]) hx hb dX5_isPart_163 rfl hl (by decide) rfl (fun lz hl => ?_)
        refine lv_aload_n hx hb dX5_isPart_164 rfl (lv_at hl 2 rfl) ?_
        refine lv_dup hx hb dX5_isPart_165 rfl ?_
        refine va_get (D := (dC, dI)) (ci := 5) (v := .int (nI (a + 1 + 1))) (C := RX5) (T := TX5) (N := 16) hx hb hts hin5 hown hK hP 0 rfl rfl 8 (by decide) (hts (.fieldLink RX5 124 "TurnDigitsModel" "at" "I") (by decide +kernel)) (fun _ h9 => h9) rfl dX5_isPart_166 ?_
        refine lv_iconst (v := 1) hx hb dX5_isPart_169 (by decide) ?_
        refine lv_iadd hx hb dX5_isPart_170 ?_
        refine xm_topi (y := nI (a + 1 + 1 + 1)) (nI_add (a + 1 + 1) 1) ?_
        refine va_put (D := (dC, dI)) (ci := 5) (v := .int (nI (a + 1 + 1 + 1))) (ty := .int) (C := RX5) (T := TX5) (N := 16) hx hb hts hin5 tyX5 tyX5_ok nmX5 hown hK hP hD hS 0 rfl rfl 8 (by decide) (hts (.fieldLink RX5 124 "TurnDigitsModel" "at" "I") (by decide +kernel)) (fun _ h9 => h9) rfl (by decide +kernel) rfl rfl (Nat.le_of_ble_eq_true rfl) dX5_isPart_171 (fun H locs hP hD hS => ?_)
        have hP : va_P (dC, dI) vwCl [((mm 0), .inr (5, [.ref (mm 1), .ref (mm 2), .ref (mm 3), .ref (mm 4), .int kp, .ref (mm 5), .int (nI n), .int th, .int (nI (a + 1 + 1 + 1)), .int fa, .ref (mm 6), .int (nI j), .ref (mm 7), .ref (mm 8), .ref (mm 9), .int fr])), ((mm 5), .inl (cI, 60, .inl co)), ((mm 6), .inl (cI, 12, .inl (upd (upd tl (2 * j) ((co a) - 48)) (2 * j + 1) (-1))))] H := hP
        have hD : va_D A [((mm 0), .inr (5, [.ref (mm 1), .ref (mm 2), .ref (mm 3), .ref (mm 4), .int kp, .ref (mm 5), .int (nI n), .int th, .int (nI (a + 1 + 1 + 1)), .int fa, .ref (mm 6), .int (nI j), .ref (mm 7), .ref (mm 8), .ref (mm 9), .int fr])), ((mm 5), .inl (cI, 60, .inl co)), ((mm 6), .inl (cI, 12, .inl (upd (upd tl (2 * j) ((co a) - 48)) (2 * j + 1) (-1))))] := hD
        refine lv_iload_n hx hb dX5_isPart_174 rfl (lv_at hl 0 rfl) ?_
        refine lv_iconst (v := 1) hx hb dX5_isPart_175 (by decide) ?_
        refine lv_icmp_ne (tgt := 216) hx hb dX5_isPart_176 (by decide) (fun q176 => ?_) (fun q176 => ?_)
        · refine lv_aload_n hx hb dX5_isPart_216 rfl (lv_at hl 2 rfl) ?_
          refine va_get (D := (dC, dI)) (ci := 5) (v := .ref (mm 6)) (C := RX5) (T := TX5) (N := 16) hx hb hts hin5 hown hK hP 0 rfl rfl 10 (by decide) (hts (.fieldLink RX5 25 "TurnDigitsModel" "told" "[I") (by decide +kernel)) (fun _ h9 => h9) rfl dX5_isPart_217 ?_
          refine lv_iconst (v := 2) hx hb dX5_isPart_220 (by decide) ?_
          refine lv_aload_n hx hb dX5_isPart_221 rfl (lv_at hl 2 rfl) ?_
          refine va_get (D := (dC, dI)) (ci := 5) (v := .int (nI j)) (C := RX5) (T := TX5) (N := 16) hx hb hts hin5 hown hK hP 0 rfl rfl 11 (by decide) (hts (.fieldLink RX5 138 "TurnDigitsModel" "tolds" "I") (by decide +kernel)) (fun _ h9 => h9) rfl dX5_isPart_222 ?_
          refine lv_imul hx hb dX5_isPart_225 ?_
          refine xm_topi (y := nI (2 * j)) (pk_mul 2 j) ?_
          refine lv_iconst (v := 1) hx hb dX5_isPart_226 (by decide) ?_
          refine lv_iadd hx hb dX5_isPart_227 ?_
          refine xm_topi (y := nI (2 * j + 1)) (nI_add (2 * j) 1) ?_
          refine lv_iload_n hx hb dX5_isPart_228 rfl (lv_at hl 0 rfl) ?_
          refine xm_iast (D := (dC, dI)) hx hb hK hP hD hS 2 0 (2 * j + 1) rfl rfl (by decide) rfl (by omega) dX5_isPart_229 (fun H locs hP hD hS => ?_)
          have hP : va_P (dC, dI) vwCl [((mm 0), .inr (5, [.ref (mm 1), .ref (mm 2), .ref (mm 3), .ref (mm 4), .int kp, .ref (mm 5), .int (nI n), .int th, .int (nI (a + 1 + 1 + 1)), .int fa, .ref (mm 6), .int (nI j), .ref (mm 7), .ref (mm 8), .ref (mm 9), .int fr])), ((mm 5), .inl (cI, 60, .inl co)), ((mm 6), .inl (cI, 12, .inl (upd (upd (upd tl (2 * j) ((co a) - 48)) (2 * j + 1) (-1)) (2 * j + 1) ((co (a + 1 + 1)) - 48))))] H := hP
          have hD : va_D A [((mm 0), .inr (5, [.ref (mm 1), .ref (mm 2), .ref (mm 3), .ref (mm 4), .int kp, .ref (mm 5), .int (nI n), .int th, .int (nI (a + 1 + 1 + 1)), .int fa, .ref (mm 6), .int (nI j), .ref (mm 7), .ref (mm 8), .ref (mm 9), .int fr])), ((mm 5), .inl (cI, 60, .inl co)), ((mm 6), .inl (cI, 12, .inl (upd (upd (upd tl (2 * j) ((co a) - 48)) (2 * j + 1) (-1)) (2 * j + 1) ((co (a + 1 + 1)) - 48))))] := hD
          refine lv_iconst (v := 1) hx hb dX5_isPart_230 (by decide) ?_
          have hP9 : va_P (dC, dI) vwCl [((mm 0), .inr (5, [.ref (mm 1), .ref (mm 2), .ref (mm 3), .ref (mm 4), .int kp, .ref (mm 5), .int (nI n), .int th, .int (nI (a + 1 + 1 + 1)), .int fa, .ref (mm 6), .int (nI j), .ref (mm 7), .ref (mm 8), .ref (mm 9), .int fr])), ((mm 5), .inl (cI, 60, .inl co)), ((mm 6), .inl (cI, 12, .inl (upd (upd (upd tl (2 * j) ((co a) - 48)) (2 * j + 1) (-1)) (2 * j + 1) ((co (a + 1 + 1)) - 48))))] H := hP
          have hD9 : va_D A [((mm 0), .inr (5, [.ref (mm 1), .ref (mm 2), .ref (mm 3), .ref (mm 4), .int kp, .ref (mm 5), .int (nI n), .int th, .int (nI (a + 1 + 1 + 1)), .int fa, .ref (mm 6), .int (nI j), .ref (mm 7), .ref (mm 8), .ref (mm 9), .int fr])), ((mm 5), .inl (cI, 60, .inl co)), ((mm 6), .inl (cI, 12, .inl (upd (upd (upd tl (2 * j) ((co a) - 48)) (2 * j + 1) (-1)) (2 * j + 1) ((co (a + 1 + 1)) - 48))))] := hD
          exact W.zret (v := 1) hx hb hr rfl (fun t ht hW => ⟨⟨1, (nI (a + 1 + 1 + 1), fa, upd (upd (upd tl (2 * j) ((co a) - 48)) (2 * j + 1) (-1)) (2 * j + 1) ((co (a + 1 + 1)) - 48)), rfl, ⟨(by simp only [pp_r, pp_r1, pp_a, pp_a1, pp_t, pp_t1, pp_g, pp_l, fm_upd_upd, if_pos q10b, if_neg q51, if_pos q120b, if_pos q143b, if_neg q176]), (by simp only [pp_r, pp_r1, pp_a, pp_a1, pp_t, pp_t1, pp_g, pp_l, fm_upd_upd, if_pos q10b, if_neg q51, if_pos q120b, if_pos q143b, if_neg q176]), (by have e9 : pp_r co n a = 1 := (by simp only [pp_r, pp_r1, pp_a, pp_a1, if_pos q10b, if_neg q51, if_pos q120b, if_pos q143b, if_neg q176]); rw [e9]; rfl), (by simp only [pp_r, pp_r1, pp_a, pp_a1, pp_t, pp_t1, pp_g, pp_l, fm_upd_upd, if_pos q10b, if_neg q51, if_pos q120b, if_pos q143b, if_neg q176])⟩, by rw [ht]; exact hP9, hD9⟩, hS.F ht⟩) hS.2.2 dX5_isPart_231
        · refine lv_aload_n hx hb dX5_isPart_179 rfl (lv_at hl 2 rfl) ?_
          refine lv_bipush (v := 48) hx hb dX5_isPart_180 (by decide) ?_
          refine lv_bipush (v := 53) hx hb dX5_isPart_182 (by decide) ?_
          have hPc := hP.sub (ws' := [((mm 0), .inr (5, [.ref (mm 1), .ref (mm 2), .ref (mm 3), .ref (mm 4), .int kp, .ref (mm 5), .int (nI n), .int th, .int (nI (a + 1 + 1 + 1)), .int fa, .ref (mm 6), .int (nI j), .ref (mm 7), .ref (mm 8), .ref (mm 9), .int fr])), ((mm 5), .inl (cI, 60, .inl co))]) [0, 1] rfl
          refine W.callV ((va_runV (As := [.int 48, .int 53]) (rest := []) ⟨hx, hb, hml, hown, hts⟩ (c_X5_isAt l dC dI cI cS cJ tt mm kp th fa (nI j) fr co (a + 1 + 1 + 1) n 48 53) (cwV 2 hts gX5_isPart_X5_isAt rfl rfl rfl (by decide +kernel) ⟨Nat.le_of_ble_eq_true rfl, Nat.le_of_ble_eq_true rfl⟩) ⟨xm_Rblind, va_recv hK hPc (ci := 5) (q0 := 0) rfl rfl, fun U hU hW => ⟨rfl, by rw [hU]; exact hPc, hE.go hS (fun _ q => q.elim) hU hW, ⟨by have := q143b.1; omega, hn60⟩⟩⟩ rfl rfl hl.1 rfl (lv_room (Nat.le_of_ble_eq_true rfl)) dX5_isPart_184 ⟨Nat.zero_le _, Nat.zero_le _⟩).run) ?_
          refine W.eq (g2 := F0 m 187 lz (.int (if tq co n (a + 1 + 1 + 1) 48 53 then 1 else 0) :: [])) rfl ?_
          refine lv_if_eq (tgt := 216) hx hb dX5_isPart_187 (by decide) (fun q187 => ?_) (fun q187 => ?_)
          · have q187b : ¬ tq co n (a + 1 + 1 + 1) 48 53 := xm_bF q187
            refine lv_aload_n hx hb dX5_isPart_216 rfl (lv_at hl 2 rfl) ?_
            refine va_get (D := (dC, dI)) (ci := 5) (v := .ref (mm 6)) (C := RX5) (T := TX5) (N := 16) hx hb hts hin5 hown hK hP 0 rfl rfl 10 (by decide) (hts (.fieldLink RX5 25 "TurnDigitsModel" "told" "[I") (by decide +kernel)) (fun _ h9 => h9) rfl dX5_isPart_217 ?_
            refine lv_iconst (v := 2) hx hb dX5_isPart_220 (by decide) ?_
            refine lv_aload_n hx hb dX5_isPart_221 rfl (lv_at hl 2 rfl) ?_
            refine va_get (D := (dC, dI)) (ci := 5) (v := .int (nI j)) (C := RX5) (T := TX5) (N := 16) hx hb hts hin5 hown hK hP 0 rfl rfl 11 (by decide) (hts (.fieldLink RX5 138 "TurnDigitsModel" "tolds" "I") (by decide +kernel)) (fun _ h9 => h9) rfl dX5_isPart_222 ?_
            refine lv_imul hx hb dX5_isPart_225 ?_
            refine xm_topi (y := nI (2 * j)) (pk_mul 2 j) ?_
            refine lv_iconst (v := 1) hx hb dX5_isPart_226 (by decide) ?_
            refine lv_iadd hx hb dX5_isPart_227 ?_
            refine xm_topi (y := nI (2 * j + 1)) (nI_add (2 * j) 1) ?_
            refine lv_iload_n hx hb dX5_isPart_228 rfl (lv_at hl 0 rfl) ?_
            refine xm_iast (D := (dC, dI)) hx hb hK hP hD hS 2 0 (2 * j + 1) rfl rfl (by decide) rfl (by omega) dX5_isPart_229 (fun H locs hP hD hS => ?_)
            have hP : va_P (dC, dI) vwCl [((mm 0), .inr (5, [.ref (mm 1), .ref (mm 2), .ref (mm 3), .ref (mm 4), .int kp, .ref (mm 5), .int (nI n), .int th, .int (nI (a + 1 + 1 + 1)), .int fa, .ref (mm 6), .int (nI j), .ref (mm 7), .ref (mm 8), .ref (mm 9), .int fr])), ((mm 5), .inl (cI, 60, .inl co)), ((mm 6), .inl (cI, 12, .inl (upd (upd (upd tl (2 * j) ((co a) - 48)) (2 * j + 1) (-1)) (2 * j + 1) ((co (a + 1 + 1)) - 48))))] H := hP
            have hD : va_D A [((mm 0), .inr (5, [.ref (mm 1), .ref (mm 2), .ref (mm 3), .ref (mm 4), .int kp, .ref (mm 5), .int (nI n), .int th, .int (nI (a + 1 + 1 + 1)), .int fa, .ref (mm 6), .int (nI j), .ref (mm 7), .ref (mm 8), .ref (mm 9), .int fr])), ((mm 5), .inl (cI, 60, .inl co)), ((mm 6), .inl (cI, 12, .inl (upd (upd (upd tl (2 * j) ((co a) - 48)) (2 * j + 1) (-1)) (2 * j + 1) ((co (a + 1 + 1)) - 48))))] := hD
            refine lv_iconst (v := 1) hx hb dX5_isPart_230 (by decide) ?_
            have hP9 : va_P (dC, dI) vwCl [((mm 0), .inr (5, [.ref (mm 1), .ref (mm 2), .ref (mm 3), .ref (mm 4), .int kp, .ref (mm 5), .int (nI n), .int th, .int (nI (a + 1 + 1 + 1)), .int fa, .ref (mm 6), .int (nI j), .ref (mm 7), .ref (mm 8), .ref (mm 9), .int fr])), ((mm 5), .inl (cI, 60, .inl co)), ((mm 6), .inl (cI, 12, .inl (upd (upd (upd tl (2 * j) ((co a) - 48)) (2 * j + 1) (-1)) (2 * j + 1) ((co (a + 1 + 1)) - 48))))] H := hP
            have hD9 : va_D A [((mm 0), .inr (5, [.ref (mm 1), .ref (mm 2), .ref (mm 3), .ref (mm 4), .int kp, .ref (mm 5), .int (nI n), .int th, .int (nI (a + 1 + 1 + 1)), .int fa, .ref (mm 6), .int (nI j), .ref (mm 7), .ref (mm 8), .ref (mm 9), .int fr])), ((mm 5), .inl (cI, 60, .inl co)), ((mm 6), .inl (cI, 12, .inl (upd (upd (upd tl (2 * j) ((co a) - 48)) (2 * j + 1) (-1)) (2 * j + 1) ((co (a + 1 + 1)) - 48))))] := hD
            exact W.zret (v := 1) hx hb hr rfl (fun t ht hW => ⟨⟨1, (nI (a + 1 + 1 + 1), fa, upd (upd (upd tl (2 * j) ((co a) - 48)) (2 * j + 1) (-1)) (2 * j + 1) ((co (a + 1 + 1)) - 48)), rfl, ⟨(by simp only [pp_r, pp_r1, pp_a, pp_a1, pp_t, pp_t1, pp_g, pp_l, fm_upd_upd, if_pos q10b, if_neg q51, if_pos q120b, if_pos q143b, if_pos q176, if_neg q187b]), (by simp only [pp_r, pp_r1, pp_a, pp_a1, pp_t, pp_t1, pp_g, pp_l, fm_upd_upd, if_pos q10b, if_neg q51, if_pos q120b, if_pos q143b, if_pos q176, if_neg q187b]), (by have e9 : pp_r co n a = 1 := (by simp only [pp_r, pp_r1, pp_a, pp_a1, if_pos q10b, if_neg q51, if_pos q120b, if_pos q143b, if_pos q176, if_neg q187b]); rw [e9]; rfl), (by simp only [pp_r, pp_r1, pp_a, pp_a1, pp_t, pp_t1, pp_g, pp_l, fm_upd_upd, if_pos q10b, if_neg q51, if_pos q120b, if_pos q143b, if_pos q176, if_neg q187b])⟩, by rw [ht]; exact hP9, hD9⟩, hS.F ht⟩) hS.2.2 dX5_isPart_231
          · have q187b : tq co n (a + 1 + 1 + 1) 48 53 := xm_bT q187
            refine lv_bipush (v := 10) hx hb dX5_isPart_190 (by decide) ?_
            refine lv_aload_n hx hb dX5_isPart_192 rfl (lv_at hl 2 rfl) ?_
            refine va_get (D := (dC, dI)) (ci := 5) (v := .ref (mm 5)) (C := RX5) (T := TX5) (N := 16) hx hb hts hin5 hown hK hP 0 rfl rfl 5 (by decide) (hts (.fieldLink RX5 22 "TurnDigitsModel" "text" "[I") (by decide +kernel)) (fun _ h9 => h9) rfl dX5_isPart_193 ?_
            refine lv_aload_n hx hb dX5_isPart_196 rfl (lv_at hl 2 rfl) ?_
            refine va_get (D := (dC, dI)) (ci := 5) (v := .int (nI (a + 1 + 1 + 1))) (C := RX5) (T := TX5) (N := 16) hx hb hts hin5 hown hK hP 0 rfl rfl 8 (by decide) (hts (.fieldLink RX5 124 "TurnDigitsModel" "at" "I") (by decide +kernel)) (fun _ h9 => h9) rfl dX5_isPart_197 ?_
            refine xm_iald (D := (dC, dI)) hx hb hK hP 1 0 (a + 1 + 1 + 1) (v := co (a + 1 + 1 + 1)) rfl rfl (by decide) rfl (by have := q187b.1; omega) rfl dX5_isPart_200 ?_
            refine lv_iadd hx hb dX5_isPart_201 ?_
            refine lv_bipush (v := 48) hx hb dX5_isPart_202 (by decide) ?_
            refine lv_isub hx hb dX5_isPart_204 ?_
            refine lv_istore_n (lv' := [(2, .int ((10 + (co (a + 1 + 1 + 1))) - 48)), (1, .int (if tq co n a 48 57 then 1 else 0)), (0, .ref (mm 0))]) hx hb dX5_isPart_205 rfl hl (by decide) rfl (fun lz hl => ?_)
            refine lv_aload_n hx hb dX5_isPart_206 rfl (lv_at hl 2 rfl) ?_
            refine lv_dup hx hb dX5_isPart_207 rfl ?_
            refine va_get (D := (dC, dI)) (ci := 5) (v := .int (nI (a + 1 + 1 + 1))) (C := RX5) (T := TX5) (N := 16) hx hb hts hin5 hown hK hP 0 rfl rfl 8 (by decide) (hts (.fieldLink RX5 124 "TurnDigitsModel" "at" "I") (by decide +kernel)) (fun _ h9 => h9) rfl dX5_isPart_208 ?_
            refine lv_iconst (v := 1) hx hb dX5_isPart_211 (by decide) ?_
            refine lv_iadd hx hb dX5_isPart_212 ?_
            refine xm_topi (y := nI (a + 1 + 1 + 1 + 1)) (nI_add (a + 1 + 1 + 1) 1) ?_
            refine va_put (D := (dC, dI)) (ci := 5) (v := .int (nI (a + 1 + 1 + 1 + 1))) (ty := .int) (C := RX5) (T := TX5) (N := 16) hx hb hts hin5 tyX5 tyX5_ok nmX5 hown hK hP hD hS 0 rfl rfl 8 (by decide) (hts (.fieldLink RX5 124 "TurnDigitsModel" "at" "I") (by decide +kernel)) (fun _ h9 => h9) rfl (by decide +kernel) rfl rfl (Nat.le_of_ble_eq_true rfl) dX5_isPart_213 (fun H locs hP hD hS => ?_)
            have hP : va_P (dC, dI) vwCl [((mm 0), .inr (5, [.ref (mm 1), .ref (mm 2), .ref (mm 3), .ref (mm 4), .int kp, .ref (mm 5), .int (nI n), .int th, .int (nI (a + 1 + 1 + 1 + 1)), .int fa, .ref (mm 6), .int (nI j), .ref (mm 7), .ref (mm 8), .ref (mm 9), .int fr])), ((mm 5), .inl (cI, 60, .inl co)), ((mm 6), .inl (cI, 12, .inl (upd (upd tl (2 * j) ((co a) - 48)) (2 * j + 1) (-1))))] H := hP
            have hD : va_D A [((mm 0), .inr (5, [.ref (mm 1), .ref (mm 2), .ref (mm 3), .ref (mm 4), .int kp, .ref (mm 5), .int (nI n), .int th, .int (nI (a + 1 + 1 + 1 + 1)), .int fa, .ref (mm 6), .int (nI j), .ref (mm 7), .ref (mm 8), .ref (mm 9), .int fr])), ((mm 5), .inl (cI, 60, .inl co)), ((mm 6), .inl (cI, 12, .inl (upd (upd tl (2 * j) ((co a) - 48)) (2 * j + 1) (-1))))] := hD
            refine lv_aload_n hx hb dX5_isPart_216 rfl (lv_at hl 2 rfl) ?_
            refine va_get (D := (dC, dI)) (ci := 5) (v := .ref (mm 6)) (C := RX5) (T := TX5) (N := 16) hx hb hts hin5 hown hK hP 0 rfl rfl 10 (by decide) (hts (.fieldLink RX5 25 "TurnDigitsModel" "told" "[I") (by decide +kernel)) (fun _ h9 => h9) rfl dX5_isPart_217 ?_
            refine lv_iconst (v := 2) hx hb dX5_isPart_220 (by decide) ?_
            refine lv_aload_n hx hb dX5_isPart_221 rfl (lv_at hl 2 rfl) ?_
            refine va_get (D := (dC, dI)) (ci := 5) (v := .int (nI j)) (C := RX5) (T := TX5) (N := 16) hx hb hts hin5 hown hK hP 0 rfl rfl 11 (by decide) (hts (.fieldLink RX5 138 "TurnDigitsModel" "tolds" "I") (by decide +kernel)) (fun _ h9 => h9) rfl dX5_isPart_222 ?_
            refine lv_imul hx hb dX5_isPart_225 ?_
            refine xm_topi (y := nI (2 * j)) (pk_mul 2 j) ?_
            refine lv_iconst (v := 1) hx hb dX5_isPart_226 (by decide) ?_
            refine lv_iadd hx hb dX5_isPart_227 ?_
            refine xm_topi (y := nI (2 * j + 1)) (nI_add (2 * j) 1) ?_
            refine lv_iload_n hx hb dX5_isPart_228 rfl (lv_at hl 0 rfl) ?_
            refine xm_iast (D := (dC, dI)) hx hb hK hP hD hS 2 0 (2 * j + 1) rfl rfl (by decide) rfl (by omega) dX5_isPart_229 (fun H locs hP hD hS => ?_)
            have hP : va_P (dC, dI) vwCl [((mm 0), .inr (5, [.ref (mm 1), .ref (mm 2), .ref (mm 3), .ref (mm 4), .int kp, .ref (mm 5), .int (nI n), .int th, .int (nI (a + 1 + 1 + 1 + 1)), .int fa, .ref (mm 6), .int (nI j), .ref (mm 7), .ref (mm 8), .ref (mm 9), .int fr])), ((mm 5), .inl (cI, 60, .inl co)), ((mm 6), .inl (cI, 12, .inl (upd (upd (upd tl (2 * j) ((co a) - 48)) (2 * j + 1) (-1)) (2 * j + 1) ((10 + (co (a + 1 + 1 + 1))) - 48))))] H := hP
            have hD : va_D A [((mm 0), .inr (5, [.ref (mm 1), .ref (mm 2), .ref (mm 3), .ref (mm 4), .int kp, .ref (mm 5), .int (nI n), .int th, .int (nI (a + 1 + 1 + 1 + 1)), .int fa, .ref (mm 6), .int (nI j), .ref (mm 7), .ref (mm 8), .ref (mm 9), .int fr])), ((mm 5), .inl (cI, 60, .inl co)), ((mm 6), .inl (cI, 12, .inl (upd (upd (upd tl (2 * j) ((co a) - 48)) (2 * j + 1) (-1)) (2 * j + 1) ((10 + (co (a + 1 + 1 + 1))) - 48))))] := hD
            refine lv_iconst (v := 1) hx hb dX5_isPart_230 (by decide) ?_
            have hP9 : va_P (dC, dI) vwCl [((mm 0), .inr (5, [.ref (mm 1), .ref (mm 2), .ref (mm 3), .ref (mm 4), .int kp, .ref (mm 5), .int (nI n), .int th, .int (nI (a + 1 + 1 + 1 + 1)), .int fa, .ref (mm 6), .int (nI j), .ref (mm 7), .ref (mm 8), .ref (mm 9), .int fr])), ((mm 5), .inl (cI, 60, .inl co)), ((mm 6), .inl (cI, 12, .inl (upd (upd (upd tl (2 * j) ((co a) - 48)) (2 * j + 1) (-1)) (2 * j + 1) ((10 + (co (a + 1 + 1 + 1))) - 48))))] H := hP
            have hD9 : va_D A [((mm 0), .inr (5, [.ref (mm 1), .ref (mm 2), .ref (mm 3), .ref (mm 4), .int kp, .ref (mm 5), .int (nI n), .int th, .int (nI (a + 1 + 1 + 1 + 1)), .int fa, .ref (mm 6), .int (nI j), .ref (mm 7), .ref (mm 8), .ref (mm 9), .int fr])), ((mm 5), .inl (cI, 60, .inl co)), ((mm 6), .inl (cI, 12, .inl (upd (upd (upd tl (2 * j) ((co a) - 48)) (2 * j + 1) (-1)) (2 * j + 1) ((10 + (co (a + 1 + 1 + 1))) - 48))))] := hD
            exact W.zret (v := 1) hx hb hr rfl (fun t ht hW => ⟨⟨1, (nI (a + 1 + 1 + 1 + 1), fa, upd (upd (upd tl (2 * j) ((co a) - 48)) (2 * j + 1) (-1)) (2 * j + 1) ((10 + (co (a + 1 + 1 + 1))) - 48)), rfl, ⟨(by simp only [pp_r, pp_r1, pp_a, pp_a1, pp_t, pp_t1, pp_g, pp_l, fm_upd_upd, if_pos q10b, if_neg q51, if_pos q120b, if_pos q143b, if_pos q176, if_pos q187b]), (by simp only [pp_r, pp_r1, pp_a, pp_a1, pp_t, pp_t1, pp_g, pp_l, fm_upd_upd, if_pos q10b, if_neg q51, if_pos q120b, if_pos q143b, if_pos q176, if_pos q187b]), (by have e9 : pp_r co n a = 1 := (by simp only [pp_r, pp_r1, pp_a, pp_a1, if_pos q10b, if_neg q51, if_pos q120b, if_pos q143b, if_pos q176, if_pos q187b]); rw [e9]; rfl), (by simp only [pp_r, pp_r1, pp_a, pp_a1, pp_t, pp_t1, pp_g, pp_l, fm_upd_upd, if_pos q10b, if_neg q51, if_pos q120b, if_pos q143b, if_pos q176, if_pos q187b])⟩, by rw [ht]; exact hP9, hD9⟩, hS.F ht⟩) hS.2.2 dX5_isPart_231
      · have q143b : ¬ tq co n (a + 1 + 1) 48 57 := xm_bF q143
        refine lv_aload_n hx hb dX5_isPart_146 rfl (lv_at hl 1 rfl) ?_
        have hPc := hP.sub (ws' := [((mm 0), .inr (5, [.ref (mm 1), .ref (mm 2), .ref (mm 3), .ref (mm 4), .int kp, .ref (mm 5), .int (nI n), .int th, .int (nI (a + 1 + 1)), .int fa, .ref (mm 6), .int (nI j), .ref (mm 7), .ref (mm 8), .ref (mm 9), .int fr]))]) [0] rfl
        have hDc := hD.sub (ws' := [((mm 0), .inr (5, [.ref (mm 1), .ref (mm 2), .ref (mm 3), .ref (mm 4), .int kp, .ref (mm 5), .int (nI n), .int th, .int (nI (a + 1 + 1)), .int fa, .ref (mm 6), .int (nI j), .ref (mm 7), .ref (mm 8), .ref (mm 9), .int fr]))]) [0] (by decide) rfl
        have hFc := va_free (wc := [((mm 0), .inr (5, [.ref (mm 1), .ref (mm 2), .ref (mm 3), .ref (mm 4), .int kp, .ref (mm 5), .int (nI n), .int th, .int (nI (a + 1 + 1)), .int fa, .ref (mm 6), .int (nI j), .ref (mm 7), .ref (mm 8), .ref (mm 9), .int fr]))]) hD hS hA [0] rfl
        refine va_calli (va_runV (As := []) (rest := []) ⟨hx, hb, hml, hown, hts⟩ (c_X5_stops l dC dI cI cS cJ tt H.size mm kp th fa (nI j) fr (a + 1 + 1) n) (cwV 0 hts gX5_isPart_X5_stops rfl rfl rfl (by decide +kernel) ⟨Nat.le_of_ble_eq_true rfl, Nat.le_of_ble_eq_true rfl⟩) ⟨xm_Mblind, va_recv hK hPc (ci := 5) (q0 := 0) rfl rfl, fun U hU hW => ⟨rfl, by rw [hU], by rw [hU]; exact hPc, hE.go hS hFc hU hW, hDc.weaken (fun _ _ _ _ => trivial), trivial⟩⟩ rfl rfl hl.1 rfl (lv_room (Nat.le_of_ble_eq_true rfl)) dX5_isPart_147 ⟨Nat.zero_le _, Nat.zero_le _⟩) hS (fun q _ h => hFc q h) hFc (fun r u t H1 locs ht hvm hw hB hz1 hk1 hS => ?_)
        obtain ⟨u_1, rfl⟩ : ∃ z, z = u := ⟨_, rfl⟩
        obtain ⟨hP1, hD1⟩ := hB
        rw [ht] at hP1
        obtain ⟨hw_2, hw_3⟩ := hw
        have hw_2 : r = 0 := hw_2
        subst hw_2
        have hw_3 : u_1 = (if nI (a + 1 + 1) < nI n then 1 else 0) := hw_3
        subst hw_3
        obtain ⟨hP, hD⟩ := va_join (wr := [((mm 5), .inl (cI, 60, .inl co)), ((mm 6), .inl (cI, 12, .inl (upd (upd tl (2 * j) ((co a) - 48)) (2 * j + 1) (-1))))]) (w1 := [((mm 0), .inr (5, [.ref (mm 1), .ref (mm 2), .ref (mm 3), .ref (mm 4), .int kp, .ref (mm 5), .int (nI n), .int th, .int (nI (a + 1 + 1)), .int (if nI (a + 1 + 1) < nI n then 1 else 0), .ref (mm 6), .int (nI j), .ref (mm 7), .ref (mm 8), .ref (mm 9), .int fr]))]) hP hD [0] [1, 2] rfl rfl (by decide) (by decide) hk1 hFc hP1 hD1
        generalize H1 = H at hP hS ⊢
        have hP : va_P (dC, dI) vwCl [((mm 5), .inl (cI, 60, .inl co)), ((mm 6), .inl (cI, 12, .inl (upd (upd tl (2 * j) ((co a) - 48)) (2 * j + 1) (-1)))), ((mm 0), .inr (5, [.ref (mm 1), .ref (mm 2), .ref (mm 3), .ref (mm 4), .int kp, .ref (mm 5), .int (nI n), .int th, .int (nI (a + 1 + 1)), .int (if nI (a + 1 + 1) < nI n then 1 else 0), .ref (mm 6), .int (nI j), .ref (mm 7), .ref (mm 8), .ref (mm 9), .int fr]))] H := hP
        have hD : va_D A [((mm 5), .inl (cI, 60, .inl co)), ((mm 6), .inl (cI, 12, .inl (upd (upd tl (2 * j) ((co a) - 48)) (2 * j + 1) (-1)))), ((mm 0), .inr (5, [.ref (mm 1), .ref (mm 2), .ref (mm 3), .ref (mm 4), .int kp, .ref (mm 5), .int (nI n), .int th, .int (nI (a + 1 + 1)), .int (if nI (a + 1 + 1) < nI n then 1 else 0), .ref (mm 6), .int (nI j), .ref (mm 7), .ref (mm 8), .ref (mm 9), .int fr]))] := hD
        have hP9 := hP.sub (ws' := [((mm 0), .inr (5, [.ref (mm 1), .ref (mm 2), .ref (mm 3), .ref (mm 4), .int kp, .ref (mm 5), .int (nI n), .int th, .int (nI (a + 1 + 1)), .int (if nI (a + 1 + 1) < nI n then 1 else 0), .ref (mm 6), .int (nI j), .ref (mm 7), .ref (mm 8), .ref (mm 9), .int fr])), ((mm 5), .inl (cI, 60, .inl co)), ((mm 6), .inl (cI, 12, .inl (upd (upd tl (2 * j) ((co a) - 48)) (2 * j + 1) (-1))))]) [2, 0, 1] rfl
        have hD9 := hD.sub (ws' := [((mm 0), .inr (5, [.ref (mm 1), .ref (mm 2), .ref (mm 3), .ref (mm 4), .int kp, .ref (mm 5), .int (nI n), .int th, .int (nI (a + 1 + 1)), .int (if nI (a + 1 + 1) < nI n then 1 else 0), .ref (mm 6), .int (nI j), .ref (mm 7), .ref (mm 8), .ref (mm 9), .int fr])), ((mm 5), .inl (cI, 60, .inl co)), ((mm 6), .inl (cI, 12, .inl (upd (upd tl (2 * j) ((co a) - 48)) (2 * j + 1) (-1))))]) [2, 0, 1] (by decide) rfl
        exact W.zret (v := 0) hx hb hr rfl (fun t ht hW => ⟨⟨0, ((nI (a + 1 + 1)), (if nI (a + 1 + 1) < nI n then 1 else 0), upd (upd tl (2 * j) ((co a) - 48)) (2 * j + 1) (-1)), rfl, ⟨(by simp only [pp_r, pp_r1, pp_a, pp_a1, pp_t, pp_t1, pp_g, pp_l, fm_upd_upd, if_pos q10b, if_neg q51, if_pos q120b, if_neg q143b]), (by simp only [pp_r, pp_r1, pp_a, pp_a1, pp_t, pp_t1, pp_g, pp_l, fm_upd_upd, if_pos q10b, if_neg q51, if_pos q120b, if_neg q143b]), (by have e9 : pp_r co n a = 0 := (by simp only [pp_r, pp_r1, pp_a, pp_a1, if_pos q10b, if_neg q51, if_pos q120b, if_neg q143b]); have e8 : pp_a co n a = a + 1 + 1 := (by simp only [pp_r, pp_r1, pp_a, pp_a1, if_pos q10b, if_neg q51, if_pos q120b, if_neg q143b]); rw [e9, e8]; rfl), (by simp only [pp_r, pp_r1, pp_a, pp_a1, pp_t, pp_t1, pp_g, pp_l, fm_upd_upd, if_pos q10b, if_neg q51, if_pos q120b, if_neg q143b])⟩, by rw [ht]; exact hP9, hD9⟩, hS.F ht⟩) hS.2.2 dX5_isPart_150
    · have q120b : ¬ tq co n (a + 1) 42 42 := xm_bF q120
      refine lv_iconst (v := 1) hx hb dX5_isPart_123 (by decide) ?_
      have hP9 : va_P (dC, dI) vwCl [((mm 0), .inr (5, [.ref (mm 1), .ref (mm 2), .ref (mm 3), .ref (mm 4), .int kp, .ref (mm 5), .int (nI n), .int th, .int (nI (a + 1)), .int fa, .ref (mm 6), .int (nI j), .ref (mm 7), .ref (mm 8), .ref (mm 9), .int fr])), ((mm 5), .inl (cI, 60, .inl co)), ((mm 6), .inl (cI, 12, .inl (upd (upd tl (2 * j) ((co a) - 48)) (2 * j + 1) (-1))))] H := hP
      have hD9 : va_D A [((mm 0), .inr (5, [.ref (mm 1), .ref (mm 2), .ref (mm 3), .ref (mm 4), .int kp, .ref (mm 5), .int (nI n), .int th, .int (nI (a + 1)), .int fa, .ref (mm 6), .int (nI j), .ref (mm 7), .ref (mm 8), .ref (mm 9), .int fr])), ((mm 5), .inl (cI, 60, .inl co)), ((mm 6), .inl (cI, 12, .inl (upd (upd tl (2 * j) ((co a) - 48)) (2 * j + 1) (-1))))] := hD
      exact W.zret (v := 1) hx hb hr rfl (fun t ht hW => ⟨⟨1, (nI (a + 1), fa, upd (upd tl (2 * j) ((co a) - 48)) (2 * j + 1) (-1)), rfl, ⟨(by simp only [pp_r, pp_r1, pp_a, pp_a1, pp_t, pp_t1, pp_g, pp_l, fm_upd_upd, if_pos q10b, if_neg q51, if_neg q120b]), (by simp only [pp_r, pp_r1, pp_a, pp_a1, pp_t, pp_t1, pp_g, pp_l, fm_upd_upd, if_pos q10b, if_neg q51, if_neg q120b]), (by have e9 : pp_r co n a = 1 := (by simp only [pp_r, pp_r1, pp_a, pp_a1, if_pos q10b, if_neg q51, if_neg q120b]); rw [e9]; rfl), (by simp only [pp_r, pp_r1, pp_a, pp_a1, pp_t, pp_t1, pp_g, pp_l, fm_upd_upd, if_pos q10b, if_neg q51, if_neg q120b])⟩, by rw [ht]; exact hP9, hD9⟩, hS.F ht⟩) hS.2.2 dX5_isPart_124
  · have q10b : ¬ tq co n a 48 57 := xm_bF q10
    refine lv_aload_n hx hb dX5_isPart_13 rfl (lv_at hl 1 rfl) ?_
    refine lv_bipush (v := 45) hx hb dX5_isPart_14 (by decide) ?_
    refine lv_bipush (v := 45) hx hb dX5_isPart_16 (by decide) ?_
    have hPc := hP.sub (ws' := [((mm 0), .inr (5, [.ref (mm 1), .ref (mm 2), .ref (mm 3), .ref (mm 4), .int kp, .ref (mm 5), .int (nI n), .int th, .int (nI a), .int fa, .ref (mm 6), .int (nI j), .ref (mm 7), .ref (mm 8), .ref (mm 9), .int fr])), ((mm 5), .inl (cI, 60, .inl co))]) [0, 1] rfl
    refine W.callV ((va_runV (As := [.int 45, .int 45]) (rest := []) ⟨hx, hb, hml, hown, hts⟩ (c_X5_isAt l dC dI cI cS cJ tt mm kp th fa (nI j) fr co a n 45 45) (cwV 2 hts gX5_isPart_X5_isAt rfl rfl rfl (by decide +kernel) ⟨Nat.le_of_ble_eq_true rfl, Nat.le_of_ble_eq_true rfl⟩) ⟨xm_Rblind, va_recv hK hPc (ci := 5) (q0 := 0) rfl rfl, fun U hU hW => ⟨rfl, by rw [hU]; exact hPc, hE.go hS (fun _ q => q.elim) hU hW, ⟨by omega, hn60⟩⟩⟩ rfl rfl hl.1 rfl (lv_room (Nat.le_of_ble_eq_true rfl)) dX5_isPart_18 ⟨Nat.zero_le _, Nat.zero_le _⟩).run) ?_
    refine W.eq (g2 := F0 m 21 lz (.int (if tq co n a 45 45 then 1 else 0) :: [])) rfl ?_
    refine lv_if_ne (tgt := 40) hx hb dX5_isPart_21 (by decide) (fun q21 => ?_) (fun q21 => ?_)
    · have q21b : tq co n a 45 45 := xm_bT q21
      have hlt_a : a < n := q21b.1
      refine lv_aload_n hx hb dX5_isPart_40 rfl (lv_at hl 1 rfl) ?_
      refine va_get (D := (dC, dI)) (ci := 5) (v := .ref (mm 6)) (C := RX5) (T := TX5) (N := 16) hx hb hts hin5 hown hK hP 0 rfl rfl 10 (by decide) (hts (.fieldLink RX5 25 "TurnDigitsModel" "told" "[I") (by decide +kernel)) (fun _ h9 => h9) rfl dX5_isPart_41 ?_
      refine lv_iconst (v := 2) hx hb dX5_isPart_44 (by decide) ?_
      refine lv_aload_n hx hb dX5_isPart_45 rfl (lv_at hl 1 rfl) ?_
      refine va_get (D := (dC, dI)) (ci := 5) (v := .int (nI j)) (C := RX5) (T := TX5) (N := 16) hx hb hts hin5 hown hK hP 0 rfl rfl 11 (by decide) (hts (.fieldLink RX5 138 "TurnDigitsModel" "tolds" "I") (by decide +kernel)) (fun _ h9 => h9) rfl dX5_isPart_46 ?_
      refine lv_imul hx hb dX5_isPart_49 ?_
      refine xm_topi (y := nI (2 * j)) (pk_mul 2 j) ?_
      refine lv_iload_n hx hb dX5_isPart_50 rfl (lv_at hl 0 rfl) ?_
      refine lv_if_eq (tgt := 69) hx hb dX5_isPart_51 (by decide) (fun q51 => ?_) (fun q51 => absurd (by rw [if_neg q10b]) q51)
      refine lv_aload_n hx hb dX5_isPart_69 rfl (lv_at hl 1 rfl) ?_
      refine lv_bipush (v := 45) hx hb dX5_isPart_70 (by decide) ?_
      refine lv_bipush (v := 45) hx hb dX5_isPart_72 (by decide) ?_
      have hPc := hP.sub (ws' := [((mm 0), .inr (5, [.ref (mm 1), .ref (mm 2), .ref (mm 3), .ref (mm 4), .int kp, .ref (mm 5), .int (nI n), .int th, .int (nI a), .int fa, .ref (mm 6), .int (nI j), .ref (mm 7), .ref (mm 8), .ref (mm 9), .int fr])), ((mm 5), .inl (cI, 60, .inl co))]) [0, 1] rfl
      refine W.callV ((va_runV (As := [.int 45, .int 45]) (rest := [.int (nI (2 * j)), .ref (mm 6)]) ⟨hx, hb, hml, hown, hts⟩ (c_X5_isAt l dC dI cI cS cJ tt mm kp th fa (nI j) fr co a n 45 45) (cwV 2 hts gX5_isPart_X5_isAt rfl rfl rfl (by decide +kernel) ⟨Nat.le_of_ble_eq_true rfl, Nat.le_of_ble_eq_true rfl⟩) ⟨xm_Rblind, va_recv hK hPc (ci := 5) (q0 := 0) rfl rfl, fun U hU hW => ⟨rfl, by rw [hU]; exact hPc, hE.go hS (fun _ q => q.elim) hU hW, ⟨by omega, hn60⟩⟩⟩ rfl rfl hl.1 rfl (lv_room (Nat.le_of_ble_eq_true rfl)) dX5_isPart_74 ⟨Nat.zero_le _, Nat.zero_le _⟩).run) ?_
      refine W.eq (g2 := F0 m 77 lz (.int (if tq co n a 45 45 then 1 else 0) :: [.int (nI (2 * j)), .ref (mm 6)])) rfl ?_
      refine lv_if_eq (tgt := 85) hx hb dX5_isPart_77 (by decide) (fun q77 => absurd q77 (by rw [if_pos q21b]; decide)) (fun q77 => ?_)
      refine lv_bipush (v := 10) hx hb dX5_isPart_80 (by decide) ?_
      refine lv_goto (tgt := 87) hx hb dX5_isPart_82 (by decide) ?_
      refine xm_iast (D := (dC, dI)) hx hb hK hP hD hS 2 0 (2 * j) rfl rfl (by decide) rfl (by omega) dX5_isPart_87 (fun H locs hP hD hS => ?_)
      have hP : va_P (dC, dI) vwCl [((mm 0), .inr (5, [.ref (mm 1), .ref (mm 2), .ref (mm 3), .ref (mm 4), .int kp, .ref (mm 5), .int (nI n), .int th, .int (nI a), .int fa, .ref (mm 6), .int (nI j), .ref (mm 7), .ref (mm 8), .ref (mm 9), .int fr])), ((mm 5), .inl (cI, 60, .inl co)), ((mm 6), .inl (cI, 12, .inl (upd tl (2 * j) 10)))] H := hP
      have hD : va_D A [((mm 0), .inr (5, [.ref (mm 1), .ref (mm 2), .ref (mm 3), .ref (mm 4), .int kp, .ref (mm 5), .int (nI n), .int th, .int (nI a), .int fa, .ref (mm 6), .int (nI j), .ref (mm 7), .ref (mm 8), .ref (mm 9), .int fr])), ((mm 5), .inl (cI, 60, .inl co)), ((mm 6), .inl (cI, 12, .inl (upd tl (2 * j) 10)))] := hD
      refine lv_aload_n hx hb dX5_isPart_88 rfl (lv_at hl 1 rfl) ?_
      refine va_get (D := (dC, dI)) (ci := 5) (v := .ref (mm 6)) (C := RX5) (T := TX5) (N := 16) hx hb hts hin5 hown hK hP 0 rfl rfl 10 (by decide) (hts (.fieldLink RX5 25 "TurnDigitsModel" "told" "[I") (by decide +kernel)) (fun _ h9 => h9) rfl dX5_isPart_89 ?_
      refine lv_iconst (v := 2) hx hb dX5_isPart_92 (by decide) ?_
      refine lv_aload_n hx hb dX5_isPart_93 rfl (lv_at hl 1 rfl) ?_
      refine va_get (D := (dC, dI)) (ci := 5) (v := .int (nI j)) (C := RX5) (T := TX5) (N := 16) hx hb hts hin5 hown hK hP 0 rfl rfl 11 (by decide) (hts (.fieldLink RX5 138 "TurnDigitsModel" "tolds" "I") (by decide +kernel)) (fun _ h9 => h9) rfl dX5_isPart_94 ?_
      refine lv_imul hx hb dX5_isPart_97 ?_
      refine xm_topi (y := nI (2 * j)) (pk_mul 2 j) ?_
      refine lv_iconst (v := 1) hx hb dX5_isPart_98 (by decide) ?_
      refine lv_iadd hx hb dX5_isPart_99 ?_
      refine xm_topi (y := nI (2 * j + 1)) (nI_add (2 * j) 1) ?_
      refine lv_iconst (v := (-1)) hx hb dX5_isPart_100 (by decide) ?_
      refine xm_iast (D := (dC, dI)) hx hb hK hP hD hS 2 0 (2 * j + 1) rfl rfl (by decide) rfl (by omega) dX5_isPart_101 (fun H locs hP hD hS => ?_)
      have hP : va_P (dC, dI) vwCl [((mm 0), .inr (5, [.ref (mm 1), .ref (mm 2), .ref (mm 3), .ref (mm 4), .int kp, .ref (mm 5), .int (nI n), .int th, .int (nI a), .int fa, .ref (mm 6), .int (nI j), .ref (mm 7), .ref (mm 8), .ref (mm 9), .int fr])), ((mm 5), .inl (cI, 60, .inl co)), ((mm 6), .inl (cI, 12, .inl (upd (upd tl (2 * j) 10) (2 * j + 1) (-1))))] H := hP
      have hD : va_D A [((mm 0), .inr (5, [.ref (mm 1), .ref (mm 2), .ref (mm 3), .ref (mm 4), .int kp, .ref (mm 5), .int (nI n), .int th, .int (nI a), .int fa, .ref (mm 6), .int (nI j), .ref (mm 7), .ref (mm 8), .ref (mm 9), .int fr])), ((mm 5), .inl (cI, 60, .inl co)), ((mm 6), .inl (cI, 12, .inl (upd (upd tl (2 * j) 10) (2 * j + 1) (-1))))] := hD
      refine lv_aload_n hx hb dX5_isPart_102 rfl (lv_at hl 1 rfl) ?_
      refine lv_dup hx hb dX5_isPart_103 rfl ?_
      refine va_get (D := (dC, dI)) (ci := 5) (v := .int (nI a)) (C := RX5) (T := TX5) (N := 16) hx hb hts hin5 hown hK hP 0 rfl rfl 8 (by decide) (hts (.fieldLink RX5 124 "TurnDigitsModel" "at" "I") (by decide +kernel)) (fun _ h9 => h9) rfl dX5_isPart_104 ?_
      refine lv_iconst (v := 1) hx hb dX5_isPart_107 (by decide) ?_
      refine lv_iadd hx hb dX5_isPart_108 ?_
      refine xm_topi (y := nI (a + 1)) (nI_add a 1) ?_
      refine va_put (D := (dC, dI)) (ci := 5) (v := .int (nI (a + 1))) (ty := .int) (C := RX5) (T := TX5) (N := 16) hx hb hts hin5 tyX5 tyX5_ok nmX5 hown hK hP hD hS 0 rfl rfl 8 (by decide) (hts (.fieldLink RX5 124 "TurnDigitsModel" "at" "I") (by decide +kernel)) (fun _ h9 => h9) rfl (by decide +kernel) rfl rfl (Nat.le_of_ble_eq_true rfl) dX5_isPart_109 (fun H locs hP hD hS => ?_)
      have hP : va_P (dC, dI) vwCl [((mm 0), .inr (5, [.ref (mm 1), .ref (mm 2), .ref (mm 3), .ref (mm 4), .int kp, .ref (mm 5), .int (nI n), .int th, .int (nI (a + 1)), .int fa, .ref (mm 6), .int (nI j), .ref (mm 7), .ref (mm 8), .ref (mm 9), .int fr])), ((mm 5), .inl (cI, 60, .inl co)), ((mm 6), .inl (cI, 12, .inl (upd (upd tl (2 * j) 10) (2 * j + 1) (-1))))] H := hP
      have hD : va_D A [((mm 0), .inr (5, [.ref (mm 1), .ref (mm 2), .ref (mm 3), .ref (mm 4), .int kp, .ref (mm 5), .int (nI n), .int th, .int (nI (a + 1)), .int fa, .ref (mm 6), .int (nI j), .ref (mm 7), .ref (mm 8), .ref (mm 9), .int fr])), ((mm 5), .inl (cI, 60, .inl co)), ((mm 6), .inl (cI, 12, .inl (upd (upd tl (2 * j) 10) (2 * j + 1) (-1))))] := hD
      refine lv_aload_n hx hb dX5_isPart_112 rfl (lv_at hl 1 rfl) ?_
      refine lv_bipush (v := 42) hx hb dX5_isPart_113 (by decide) ?_
      refine lv_bipush (v := 42) hx hb dX5_isPart_115 (by decide) ?_
      have hPc := hP.sub (ws' := [((mm 0), .inr (5, [.ref (mm 1), .ref (mm 2), .ref (mm 3), .ref (mm 4), .int kp, .ref (mm 5), .int (nI n), .int th, .int (nI (a + 1)), .int fa, .ref (mm 6), .int (nI j), .ref (mm 7), .ref (mm 8), .ref (mm 9), .int fr])), ((mm 5), .inl (cI, 60, .inl co))]) [0, 1] rfl
      refine W.callV ((va_runV (As := [.int 42, .int 42]) (rest := []) ⟨hx, hb, hml, hown, hts⟩ (c_X5_isAt l dC dI cI cS cJ tt mm kp th fa (nI j) fr co (a + 1) n 42 42) (cwV 2 hts gX5_isPart_X5_isAt rfl rfl rfl (by decide +kernel) ⟨Nat.le_of_ble_eq_true rfl, Nat.le_of_ble_eq_true rfl⟩) ⟨xm_Rblind, va_recv hK hPc (ci := 5) (q0 := 0) rfl rfl, fun U hU hW => ⟨rfl, by rw [hU]; exact hPc, hE.go hS (fun _ q => q.elim) hU hW, ⟨by have := hlt_a; omega, hn60⟩⟩⟩ rfl rfl hl.1 rfl (lv_room (Nat.le_of_ble_eq_true rfl)) dX5_isPart_117 ⟨Nat.zero_le _, Nat.zero_le _⟩).run) ?_
      refine W.eq (g2 := F0 m 120 lz (.int (if tq co n (a + 1) 42 42 then 1 else 0) :: [])) rfl ?_
      refine lv_if_ne (tgt := 125) hx hb dX5_isPart_120 (by decide) (fun q120 => ?_) (fun q120 => ?_)
      · have q120b : tq co n (a + 1) 42 42 := xm_bT q120
        refine lv_aload_n hx hb dX5_isPart_125 rfl (lv_at hl 1 rfl) ?_
        refine lv_dup hx hb dX5_isPart_126 rfl ?_
        refine va_get (D := (dC, dI)) (ci := 5) (v := .int (nI (a + 1))) (C := RX5) (T := TX5) (N := 16) hx hb hts hin5 hown hK hP 0 rfl rfl 8 (by decide) (hts (.fieldLink RX5 124 "TurnDigitsModel" "at" "I") (by decide +kernel)) (fun _ h9 => h9) rfl dX5_isPart_127 ?_
        refine lv_iconst (v := 1) hx hb dX5_isPart_130 (by decide) ?_
        refine lv_iadd hx hb dX5_isPart_131 ?_
        refine xm_topi (y := nI (a + 1 + 1)) (nI_add (a + 1) 1) ?_
        refine va_put (D := (dC, dI)) (ci := 5) (v := .int (nI (a + 1 + 1))) (ty := .int) (C := RX5) (T := TX5) (N := 16) hx hb hts hin5 tyX5 tyX5_ok nmX5 hown hK hP hD hS 0 rfl rfl 8 (by decide) (hts (.fieldLink RX5 124 "TurnDigitsModel" "at" "I") (by decide +kernel)) (fun _ h9 => h9) rfl (by decide +kernel) rfl rfl (Nat.le_of_ble_eq_true rfl) dX5_isPart_132 (fun H locs hP hD hS => ?_)
        have hP : va_P (dC, dI) vwCl [((mm 0), .inr (5, [.ref (mm 1), .ref (mm 2), .ref (mm 3), .ref (mm 4), .int kp, .ref (mm 5), .int (nI n), .int th, .int (nI (a + 1 + 1)), .int fa, .ref (mm 6), .int (nI j), .ref (mm 7), .ref (mm 8), .ref (mm 9), .int fr])), ((mm 5), .inl (cI, 60, .inl co)), ((mm 6), .inl (cI, 12, .inl (upd (upd tl (2 * j) 10) (2 * j + 1) (-1))))] H := hP
        have hD : va_D A [((mm 0), .inr (5, [.ref (mm 1), .ref (mm 2), .ref (mm 3), .ref (mm 4), .int kp, .ref (mm 5), .int (nI n), .int th, .int (nI (a + 1 + 1)), .int fa, .ref (mm 6), .int (nI j), .ref (mm 7), .ref (mm 8), .ref (mm 9), .int fr])), ((mm 5), .inl (cI, 60, .inl co)), ((mm 6), .inl (cI, 12, .inl (upd (upd tl (2 * j) 10) (2 * j + 1) (-1))))] := hD
        refine lv_aload_n hx hb dX5_isPart_135 rfl (lv_at hl 1 rfl) ?_
        refine lv_bipush (v := 48) hx hb dX5_isPart_136 (by decide) ?_
        refine lv_bipush (v := 57) hx hb dX5_isPart_138 (by decide) ?_
        have hPc := hP.sub (ws' := [((mm 0), .inr (5, [.ref (mm 1), .ref (mm 2), .ref (mm 3), .ref (mm 4), .int kp, .ref (mm 5), .int (nI n), .int th, .int (nI (a + 1 + 1)), .int fa, .ref (mm 6), .int (nI j), .ref (mm 7), .ref (mm 8), .ref (mm 9), .int fr])), ((mm 5), .inl (cI, 60, .inl co))]) [0, 1] rfl
        refine W.callV ((va_runV (As := [.int 48, .int 57]) (rest := []) ⟨hx, hb, hml, hown, hts⟩ (c_X5_isAt l dC dI cI cS cJ tt mm kp th fa (nI j) fr co (a + 1 + 1) n 48 57) (cwV 2 hts gX5_isPart_X5_isAt rfl rfl rfl (by decide +kernel) ⟨Nat.le_of_ble_eq_true rfl, Nat.le_of_ble_eq_true rfl⟩) ⟨xm_Rblind, va_recv hK hPc (ci := 5) (q0 := 0) rfl rfl, fun U hU hW => ⟨rfl, by rw [hU]; exact hPc, hE.go hS (fun _ q => q.elim) hU hW, ⟨by have := q120b.1; omega, hn60⟩⟩⟩ rfl rfl hl.1 rfl (lv_room (Nat.le_of_ble_eq_true rfl)) dX5_isPart_140 ⟨Nat.zero_le _, Nat.zero_le _⟩).run) ?_
        refine W.eq (g2 := F0 m 143 lz (.int (if tq co n (a + 1 + 1) 48 57 then 1 else 0) :: [])) rfl ?_
        refine lv_if_ne (tgt := 151) hx hb dX5_isPart_143 (by decide) (fun q143 => ?_) (fun q143 => ?_)
        · have q143b : tq co n (a + 1 + 1) 48 57 := xm_bT q143
          refine lv_aload_n hx hb dX5_isPart_151 rfl (lv_at hl 1 rfl) ?_
          refine va_get (D := (dC, dI)) (ci := 5) (v := .ref (mm 5)) (C := RX5) (T := TX5) (N := 16) hx hb hts hin5 hown hK hP 0 rfl rfl 5 (by decide) (hts (.fieldLink RX5 22 "TurnDigitsModel" "text" "[I") (by decide +kernel)) (fun _ h9 => h9) rfl dX5_isPart_152 ?_
          refine lv_aload_n hx hb dX5_isPart_155 rfl (lv_at hl 1 rfl) ?_
          refine va_get (D := (dC, dI)) (ci := 5) (v := .int (nI (a + 1 + 1))) (C := RX5) (T := TX5) (N := 16) hx hb hts hin5 hown hK hP 0 rfl rfl 8 (by decide) (hts (.fieldLink RX5 124 "TurnDigitsModel" "at" "I") (by decide +kernel)) (fun _ h9 => h9) rfl dX5_isPart_156 ?_
          refine xm_iald (D := (dC, dI)) hx hb hK hP 1 0 (a + 1 + 1) (v := co (a + 1 + 1)) rfl rfl (by decide) rfl (by have := q143b.1; omega) rfl dX5_isPart_159 ?_
          refine lv_bipush (v := 48) hx hb dX5_isPart_160 (by decide) ?_
          refine lv_isub hx hb dX5_isPart_162 ?_
          refine lv_istore_n (lv' := [(2, .int ((co (a + 1 + 1)) - 48)), (1, .int (if tq co n a 48 57 then 1 else 0)), (0, .ref (mm 0))]) hx hb dX5_isPart_163 rfl hl (by decide) rfl (fun lz hl => ?_)
          refine lv_aload_n hx hb dX5_isPart_164 rfl (lv_at hl 2 rfl) ?_
          refine lv_dup hx hb dX5_isPart_165 rfl ?_
          refine va_get (D := (dC, dI)) (ci := 5) (v := .int (nI (a + 1 + 1))) (C := RX5) (T := TX5) (N := 16) hx hb hts hin5 hown hK hP 0 rfl rfl 8 (by decide) (hts (.fieldLink RX5 124 "TurnDigitsModel" "at" "I") (by decide +kernel)) (fun _ h9 => h9) rfl dX5_isPart_166 ?_
          refine lv_iconst (v := 1) hx hb dX5_isPart_169 (by decide) ?_
          refine lv_iadd hx hb dX5_isPart_170 ?_
          refine xm_topi (y := nI (a + 1 + 1 + 1)) (nI_add (a + 1 + 1) 1) ?_
          refine va_put (D := (dC, dI)) (ci := 5) (v := .int (nI (a + 1 + 1 + 1))) (ty := .int) (C := RX5) (T := TX5) (N := 16) hx hb hts hin5 tyX5 tyX5_ok nmX5 hown hK hP hD hS 0 rfl rfl 8 (by decide) (hts (.fieldLink RX5 124 "TurnDigitsModel" "at" "I") (by decide +kernel)) (fun _ h9 => h9) rfl (by decide +kernel) rfl rfl (Nat.le_of_ble_eq_true rfl) dX5_isPart_171 (fun H locs hP hD hS => ?_)
          have hP : va_P (dC, dI) vwCl [((mm 0), .inr (5, [.ref (mm 1), .ref (mm 2), .ref (mm 3), .ref (mm 4), .int kp, .ref (mm 5), .int (nI n), .int th, .int (nI (a + 1 + 1 + 1)), .int fa, .ref (mm 6), .int (nI j), .ref (mm 7), .ref (mm 8), .ref (mm 9), .int fr])), ((mm 5), .inl (cI, 60, .inl co)), ((mm 6), .inl (cI, 12, .inl (upd (upd tl (2 * j) 10) (2 * j + 1) (-1))))] H := hP
          have hD : va_D A [((mm 0), .inr (5, [.ref (mm 1), .ref (mm 2), .ref (mm 3), .ref (mm 4), .int kp, .ref (mm 5), .int (nI n), .int th, .int (nI (a + 1 + 1 + 1)), .int fa, .ref (mm 6), .int (nI j), .ref (mm 7), .ref (mm 8), .ref (mm 9), .int fr])), ((mm 5), .inl (cI, 60, .inl co)), ((mm 6), .inl (cI, 12, .inl (upd (upd tl (2 * j) 10) (2 * j + 1) (-1))))] := hD
          refine lv_iload_n hx hb dX5_isPart_174 rfl (lv_at hl 0 rfl) ?_
          refine lv_iconst (v := 1) hx hb dX5_isPart_175 (by decide) ?_
          refine lv_icmp_ne (tgt := 216) hx hb dX5_isPart_176 (by decide) (fun q176 => ?_) (fun q176 => ?_)
          · refine lv_aload_n hx hb dX5_isPart_216 rfl (lv_at hl 2 rfl) ?_
            refine va_get (D := (dC, dI)) (ci := 5) (v := .ref (mm 6)) (C := RX5) (T := TX5) (N := 16) hx hb hts hin5 hown hK hP 0 rfl rfl 10 (by decide) (hts (.fieldLink RX5 25 "TurnDigitsModel" "told" "[I") (by decide +kernel)) (fun _ h9 => h9) rfl dX5_isPart_217 ?_
            refine lv_iconst (v := 2) hx hb dX5_isPart_220 (by decide) ?_
            refine lv_aload_n hx hb dX5_isPart_221 rfl (lv_at hl 2 rfl) ?_
            refine va_get (D := (dC, dI)) (ci := 5) (v := .int (nI j)) (C := RX5) (T := TX5) (N := 16) hx hb hts hin5 hown hK hP 0 rfl rfl 11 (by decide) (hts (.fieldLink RX5 138 "TurnDigitsModel" "tolds" "I") (by decide +kernel)) (fun _ h9 => h9) rfl dX5_isPart_222 ?_
            refine lv_imul hx hb dX5_isPart_225 ?_
            refine xm_topi (y := nI (2 * j)) (pk_mul 2 j) ?_
            refine lv_iconst (v := 1) hx hb dX5_isPart_226 (by decide) ?_
            refine lv_iadd hx hb dX5_isPart_227 ?_
            refine xm_topi (y := nI (2 * j + 1)) (nI_add (2 * j) 1) ?_
            refine lv_iload_n hx hb dX5_isPart_228 rfl (lv_at hl 0 rfl) ?_
            refine xm_iast (D := (dC, dI)) hx hb hK hP hD hS 2 0 (2 * j + 1) rfl rfl (by decide) rfl (by omega) dX5_isPart_229 (fun H locs hP hD hS => ?_)
            have hP : va_P (dC, dI) vwCl [((mm 0), .inr (5, [.ref (mm 1), .ref (mm 2), .ref (mm 3), .ref (mm 4), .int kp, .ref (mm 5), .int (nI n), .int th, .int (nI (a + 1 + 1 + 1)), .int fa, .ref (mm 6), .int (nI j), .ref (mm 7), .ref (mm 8), .ref (mm 9), .int fr])), ((mm 5), .inl (cI, 60, .inl co)), ((mm 6), .inl (cI, 12, .inl (upd (upd (upd tl (2 * j) 10) (2 * j + 1) (-1)) (2 * j + 1) ((co (a + 1 + 1)) - 48))))] H := hP
            have hD : va_D A [((mm 0), .inr (5, [.ref (mm 1), .ref (mm 2), .ref (mm 3), .ref (mm 4), .int kp, .ref (mm 5), .int (nI n), .int th, .int (nI (a + 1 + 1 + 1)), .int fa, .ref (mm 6), .int (nI j), .ref (mm 7), .ref (mm 8), .ref (mm 9), .int fr])), ((mm 5), .inl (cI, 60, .inl co)), ((mm 6), .inl (cI, 12, .inl (upd (upd (upd tl (2 * j) 10) (2 * j + 1) (-1)) (2 * j + 1) ((co (a + 1 + 1)) - 48))))] := hD
            refine lv_iconst (v := 1) hx hb dX5_isPart_230 (by decide) ?_
            have hP9 : va_P (dC, dI) vwCl [((mm 0), .inr (5, [.ref (mm 1), .ref (mm 2), .ref (mm 3), .ref (mm 4), .int kp, .ref (mm 5), .int (nI n), .int th, .int (nI (a + 1 + 1 + 1)), .int fa, .ref (mm 6), .int (nI j), .ref (mm 7), .ref (mm 8), .ref (mm 9), .int fr])), ((mm 5), .inl (cI, 60, .inl co)), ((mm 6), .inl (cI, 12, .inl (upd (upd (upd tl (2 * j) 10) (2 * j + 1) (-1)) (2 * j + 1) ((co (a + 1 + 1)) - 48))))] H := hP
            have hD9 : va_D A [((mm 0), .inr (5, [.ref (mm 1), .ref (mm 2), .ref (mm 3), .ref (mm 4), .int kp, .ref (mm 5), .int (nI n), .int th, .int (nI (a + 1 + 1 + 1)), .int fa, .ref (mm 6), .int (nI j), .ref (mm 7), .ref (mm 8), .ref (mm 9), .int fr])), ((mm 5), .inl (cI, 60, .inl co)), ((mm 6), .inl (cI, 12, .inl (upd (upd (upd tl (2 * j) 10) (2 * j + 1) (-1)) (2 * j + 1) ((co (a + 1 + 1)) - 48))))] := hD
            exact W.zret (v := 1) hx hb hr rfl (fun t ht hW => ⟨⟨1, (nI (a + 1 + 1 + 1), fa, upd (upd (upd tl (2 * j) 10) (2 * j + 1) (-1)) (2 * j + 1) ((co (a + 1 + 1)) - 48)), rfl, ⟨(by simp only [pp_r, pp_r1, pp_a, pp_a1, pp_t, pp_t1, pp_g, pp_l, fm_upd_upd, if_neg q10b, if_pos q21b, if_pos q51, if_neg q77, if_pos q120b, if_pos q143b, if_neg q176]), (by simp only [pp_r, pp_r1, pp_a, pp_a1, pp_t, pp_t1, pp_g, pp_l, fm_upd_upd, if_neg q10b, if_pos q21b, if_pos q51, if_neg q77, if_pos q120b, if_pos q143b, if_neg q176]), (by have e9 : pp_r co n a = 1 := (by simp only [pp_r, pp_r1, pp_a, pp_a1, if_neg q10b, if_pos q21b, if_pos q51, if_neg q77, if_pos q120b, if_pos q143b, if_neg q176]); rw [e9]; rfl), (by simp only [pp_r, pp_r1, pp_a, pp_a1, pp_t, pp_t1, pp_g, pp_l, fm_upd_upd, if_neg q10b, if_pos q21b, if_pos q51, if_neg q77, if_pos q120b, if_pos q143b, if_neg q176])⟩, by rw [ht]; exact hP9, hD9⟩, hS.F ht⟩) hS.2.2 dX5_isPart_231
          · refine lv_aload_n hx hb dX5_isPart_179 rfl (lv_at hl 2 rfl) ?_
            refine lv_bipush (v := 48) hx hb dX5_isPart_180 (by decide) ?_
            refine lv_bipush (v := 53) hx hb dX5_isPart_182 (by decide) ?_
            have hPc := hP.sub (ws' := [((mm 0), .inr (5, [.ref (mm 1), .ref (mm 2), .ref (mm 3), .ref (mm 4), .int kp, .ref (mm 5), .int (nI n), .int th, .int (nI (a + 1 + 1 + 1)), .int fa, .ref (mm 6), .int (nI j), .ref (mm 7), .ref (mm 8), .ref (mm 9), .int fr])), ((mm 5), .inl (cI, 60, .inl co))]) [0, 1] rfl
            refine W.callV ((va_runV (As := [.int 48, .int 53]) (rest := []) ⟨hx, hb, hml, hown, hts⟩ (c_X5_isAt l dC dI cI cS cJ tt mm kp th fa (nI j) fr co (a + 1 + 1 + 1) n 48 53) (cwV 2 hts gX5_isPart_X5_isAt rfl rfl rfl (by decide +kernel) ⟨Nat.le_of_ble_eq_true rfl, Nat.le_of_ble_eq_true rfl⟩) ⟨xm_Rblind, va_recv hK hPc (ci := 5) (q0 := 0) rfl rfl, fun U hU hW => ⟨rfl, by rw [hU]; exact hPc, hE.go hS (fun _ q => q.elim) hU hW, ⟨by have := q143b.1; omega, hn60⟩⟩⟩ rfl rfl hl.1 rfl (lv_room (Nat.le_of_ble_eq_true rfl)) dX5_isPart_184 ⟨Nat.zero_le _, Nat.zero_le _⟩).run) ?_
            refine W.eq (g2 := F0 m 187 lz (.int (if tq co n (a + 1 + 1 + 1) 48 53 then 1 else 0) :: [])) rfl ?_
            refine lv_if_eq (tgt := 216) hx hb dX5_isPart_187 (by decide) (fun q187 => ?_) (fun q187 => ?_)
            · have q187b : ¬ tq co n (a + 1 + 1 + 1) 48 53 := xm_bF q187
              refine lv_aload_n hx hb dX5_isPart_216 rfl (lv_at hl 2 rfl) ?_
              refine va_get (D := (dC, dI)) (ci := 5) (v := .ref (mm 6)) (C := RX5) (T := TX5) (N := 16) hx hb hts hin5 hown hK hP 0 rfl rfl 10 (by decide) (hts (.fieldLink RX5 25 "TurnDigitsModel" "told" "[I") (by decide +kernel)) (fun _ h9 => h9) rfl dX5_isPart_217 ?_
              refine lv_iconst (v := 2) hx hb dX5_isPart_220 (by decide) ?_
              refine lv_aload_n hx hb dX5_isPart_221 rfl (lv_at hl 2 rfl) ?_
              refine va_get (D := (dC, dI)) (ci := 5) (v := .int (nI j)) (C := RX5) (T := TX5) (N := 16) hx hb hts hin5 hown hK hP 0 rfl rfl 11 (by decide) (hts (.fieldLink RX5 138 "TurnDigitsModel" "tolds" "I") (by decide +kernel)) (fun _ h9 => h9) rfl dX5_isPart_222 ?_
              refine lv_imul hx hb dX5_isPart_225 ?_
              refine xm_topi (y := nI (2 * j)) (pk_mul 2 j) ?_
              refine lv_iconst (v := 1) hx hb dX5_isPart_226 (by decide) ?_
              refine lv_iadd hx hb dX5_isPart_227 ?_
              refine xm_topi (y := nI (2 * j + 1)) (nI_add (2 * j) 1) ?_
              refine lv_iload_n hx hb dX5_isPart_228 rfl (lv_at hl 0 rfl) ?_
              refine xm_iast (D := (dC, dI)) hx hb hK hP hD hS 2 0 (2 * j + 1) rfl rfl (by decide) rfl (by omega) dX5_isPart_229 (fun H locs hP hD hS => ?_)
              have hP : va_P (dC, dI) vwCl [((mm 0), .inr (5, [.ref (mm 1), .ref (mm 2), .ref (mm 3), .ref (mm 4), .int kp, .ref (mm 5), .int (nI n), .int th, .int (nI (a + 1 + 1 + 1)), .int fa, .ref (mm 6), .int (nI j), .ref (mm 7), .ref (mm 8), .ref (mm 9), .int fr])), ((mm 5), .inl (cI, 60, .inl co)), ((mm 6), .inl (cI, 12, .inl (upd (upd (upd tl (2 * j) 10) (2 * j + 1) (-1)) (2 * j + 1) ((co (a + 1 + 1)) - 48))))] H := hP
              have hD : va_D A [((mm 0), .inr (5, [.ref (mm 1), .ref (mm 2), .ref (mm 3), .ref (mm 4), .int kp, .ref (mm 5), .int (nI n), .int th, .int (nI (a + 1 + 1 + 1)), .int fa, .ref (mm 6), .int (nI j), .ref (mm 7), .ref (mm 8), .ref (mm 9), .int fr])), ((mm 5), .inl (cI, 60, .inl co)), ((mm 6), .inl (cI, 12, .inl (upd (upd (upd tl (2 * j) 10) (2 * j + 1) (-1)) (2 * j + 1) ((co (a + 1 + 1)) - 48))))] := hD
              refine lv_iconst (v := 1) hx hb dX5_isPart_230 (by decide) ?_
              have hP9 : va_P (dC, dI) vwCl [((mm 0), .inr (5, [.ref (mm 1), .ref (mm 2), .ref (mm 3), .ref (mm 4), .int kp, .ref (mm 5), .int (nI n), .int th, .int (nI (a + 1 + 1 + 1)), .int fa, .ref (mm 6), .int (nI j), .ref (mm 7), .ref (mm 8), .ref (mm 9), .int fr])), ((mm 5), .inl (cI, 60, .inl co)), ((mm 6), .inl (cI, 12, .inl (upd (upd (upd tl (2 * j) 10) (2 * j + 1) (-1)) (2 * j + 1) ((co (a + 1 + 1)) - 48))))] H := hP
              have hD9 : va_D A [((mm 0), .inr (5, [.ref (mm 1), .ref (mm 2), .ref (mm 3), .ref (mm 4), .int kp, .ref (mm 5), .int (nI n), .int th, .int (nI (a + 1 + 1 + 1)), .int fa, .ref (mm 6), .int (nI j), .ref (mm 7), .ref (mm 8), .ref (mm 9), .int fr])), ((mm 5), .inl (cI, 60, .inl co)), ((mm 6), .inl (cI, 12, .inl (upd (upd (upd tl (2 * j) 10) (2 * j + 1) (-1)) (2 * j + 1) ((co (a + 1 + 1)) - 48))))] := hD
              exact W.zret (v := 1) hx hb hr rfl (fun t ht hW => ⟨⟨1, (nI (a + 1 + 1 + 1), fa, upd (upd (upd tl (2 * j) 10) (2 * j + 1) (-1)) (2 * j + 1) ((co (a + 1 + 1)) - 48)), rfl, ⟨(by simp only [pp_r, pp_r1, pp_a, pp_a1, pp_t, pp_t1, pp_g, pp_l, fm_upd_upd, if_neg q10b, if_pos q21b, if_pos q51, if_neg q77, if_pos q120b, if_pos q143b, if_pos q176, if_neg q187b]), (by simp only [pp_r, pp_r1, pp_a, pp_a1, pp_t, pp_t1, pp_g, pp_l, fm_upd_upd, if_neg q10b, if_pos q21b, if_pos q51, if_neg q77, if_pos q120b, if_pos q143b, if_pos q176, if_neg q187b]), (by have e9 : pp_r co n a = 1 := (by simp only [pp_r, pp_r1, pp_a, pp_a1, if_neg q10b, if_pos q21b, if_pos q51, if_neg q77, if_pos q120b, if_pos q143b, if_pos q176, if_neg q187b]); rw [e9]; rfl), (by simp only [pp_r, pp_r1, pp_a, pp_a1, pp_t, pp_t1, pp_g, pp_l, fm_upd_upd, if_neg q10b, if_pos q21b, if_pos q51, if_neg q77, if_pos q120b, if_pos q143b, if_pos q176, if_neg q187b])⟩, by rw [ht]; exact hP9, hD9⟩, hS.F ht⟩) hS.2.2 dX5_isPart_231
            · have q187b : tq co n (a + 1 + 1 + 1) 48 53 := xm_bT q187
              refine lv_bipush (v := 10) hx hb dX5_isPart_190 (by decide) ?_
              refine lv_aload_n hx hb dX5_isPart_192 rfl (lv_at hl 2 rfl) ?_
              refine va_get (D := (dC, dI)) (ci := 5) (v := .ref (mm 5)) (C := RX5) (T := TX5) (N := 16) hx hb hts hin5 hown hK hP 0 rfl rfl 5 (by decide) (hts (.fieldLink RX5 22 "TurnDigitsModel" "text" "[I") (by decide +kernel)) (fun _ h9 => h9) rfl dX5_isPart_193 ?_
              refine lv_aload_n hx hb dX5_isPart_196 rfl (lv_at hl 2 rfl) ?_
              refine va_get (D := (dC, dI)) (ci := 5) (v := .int (nI (a + 1 + 1 + 1))) (C := RX5) (T := TX5) (N := 16) hx hb hts hin5 hown hK hP 0 rfl rfl 8 (by decide) (hts (.fieldLink RX5 124 "TurnDigitsModel" "at" "I") (by decide +kernel)) (fun _ h9 => h9) rfl dX5_isPart_197 ?_
              refine xm_iald (D := (dC, dI)) hx hb hK hP 1 0 (a + 1 + 1 + 1) (v := co (a + 1 + 1 + 1)) rfl rfl (by decide) rfl (by have := q187b.1; omega) rfl dX5_isPart_200 ?_
              refine lv_iadd hx hb dX5_isPart_201 ?_
              refine lv_bipush (v := 48) hx hb dX5_isPart_202 (by decide) ?_
              refine lv_isub hx hb dX5_isPart_204 ?_
              refine lv_istore_n (lv' := [(2, .int ((10 + (co (a + 1 + 1 + 1))) - 48)), (1, .int (if tq co n a 48 57 then 1 else 0)), (0, .ref (mm 0))]) hx hb dX5_isPart_205 rfl hl (by decide) rfl (fun lz hl => ?_)
              refine lv_aload_n hx hb dX5_isPart_206 rfl (lv_at hl 2 rfl) ?_
              refine lv_dup hx hb dX5_isPart_207 rfl ?_
              refine va_get (D := (dC, dI)) (ci := 5) (v := .int (nI (a + 1 + 1 + 1))) (C := RX5) (T := TX5) (N := 16) hx hb hts hin5 hown hK hP 0 rfl rfl 8 (by decide) (hts (.fieldLink RX5 124 "TurnDigitsModel" "at" "I") (by decide +kernel)) (fun _ h9 => h9) rfl dX5_isPart_208 ?_
              refine lv_iconst (v := 1) hx hb dX5_isPart_211 (by decide) ?_
              refine lv_iadd hx hb dX5_isPart_212 ?_
              refine xm_topi (y := nI (a + 1 + 1 + 1 + 1)) (nI_add (a + 1 + 1 + 1) 1) ?_
              refine va_put (D := (dC, dI)) (ci := 5) (v := .int (nI (a + 1 + 1 + 1 + 1))) (ty := .int) (C := RX5) (T := TX5) (N := 16) hx hb hts hin5 tyX5 tyX5_ok nmX5 hown hK hP hD hS 0 rfl rfl 8 (by decide) (hts (.fieldLink RX5 124 "TurnDigitsModel" "at" "I") (by decide +kernel)) (fun _ h9 => h9) rfl (by decide +kernel) rfl rfl (Nat.le_of_ble_eq_true rfl) dX5_isPart_213 (fun H locs hP hD hS => ?_)
              have hP : va_P (dC, dI) vwCl [((mm 0), .inr (5, [.ref (mm 1), .ref (mm 2), .ref (mm 3), .ref (mm 4), .int kp, .ref (mm 5), .int (nI n), .int th, .int (nI (a + 1 + 1 + 1 + 1)), .int fa, .ref (mm 6), .int (nI j), .ref (mm 7), .ref (mm 8), .ref (mm 9), .int fr])), ((mm 5), .inl (cI, 60, .inl co)), ((mm 6), .inl (cI, 12, .inl (upd (upd tl (2 * j) 10) (2 * j + 1) (-1))))] H := hP
              have hD : va_D A [((mm 0), .inr (5, [.ref (mm 1), .ref (mm 2), .ref (mm 3), .ref (mm 4), .int kp, .ref (mm 5), .int (nI n), .int th, .int (nI (a + 1 + 1 + 1 + 1)), .int fa, .ref (mm 6), .int (nI j), .ref (mm 7), .ref (mm 8), .ref (mm 9), .int fr])), ((mm 5), .inl (cI, 60, .inl co)), ((mm 6), .inl (cI, 12, .inl (upd (upd tl (2 * j) 10) (2 * j + 1) (-1))))] := hD
              refine lv_aload_n hx hb dX5_isPart_216 rfl (lv_at hl 2 rfl) ?_
              refine va_get (D := (dC, dI)) (ci := 5) (v := .ref (mm 6)) (C := RX5) (T := TX5) (N := 16) hx hb hts hin5 hown hK hP 0 rfl rfl 10 (by decide) (hts (.fieldLink RX5 25 "TurnDigitsModel" "told" "[I") (by decide +kernel)) (fun _ h9 => h9) rfl dX5_isPart_217 ?_
              refine lv_iconst (v := 2) hx hb dX5_isPart_220 (by decide) ?_
              refine lv_aload_n hx hb dX5_isPart_221 rfl (lv_at hl 2 rfl) ?_
              refine va_get (D := (dC, dI)) (ci := 5) (v := .int (nI j)) (C := RX5) (T := TX5) (N := 16) hx hb hts hin5 hown hK hP 0 rfl rfl 11 (by decide) (hts (.fieldLink RX5 138 "TurnDigitsModel" "tolds" "I") (by decide +kernel)) (fun _ h9 => h9) rfl dX5_isPart_222 ?_
              refine lv_imul hx hb dX5_isPart_225 ?_
              refine xm_topi (y := nI (2 * j)) (pk_mul 2 j) ?_
              refine lv_iconst (v := 1) hx hb dX5_isPart_226 (by decide) ?_
              refine lv_iadd hx hb dX5_isPart_227 ?_
              refine xm_topi (y := nI (2 * j + 1)) (nI_add (2 * j) 1) ?_
              refine lv_iload_n hx hb dX5_isPart_228 rfl (lv_at hl 0 rfl) ?_
              refine xm_iast (D := (dC, dI)) hx hb hK hP hD hS 2 0 (2 * j + 1) rfl rfl (by decide) rfl (by omega) dX5_isPart_229 (fun H locs hP hD hS => ?_)
              have hP : va_P (dC, dI) vwCl [((mm 0), .inr (5, [.ref (mm 1), .ref (mm 2), .ref (mm 3), .ref (mm 4), .int kp, .ref (mm 5), .int (nI n), .int th, .int (nI (a + 1 + 1 + 1 + 1)), .int fa, .ref (mm 6), .int (nI j), .ref (mm 7), .ref (mm 8), .ref (mm 9), .int fr])), ((mm 5), .inl (cI, 60, .inl co)), ((mm 6), .inl (cI, 12, .inl (upd (upd (upd tl (2 * j) 10) (2 * j + 1) (-1)) (2 * j + 1) ((10 + (co (a + 1 + 1 + 1))) - 48))))] H := hP
              have hD : va_D A [((mm 0), .inr (5, [.ref (mm 1), .ref (mm 2), .ref (mm 3), .ref (mm 4), .int kp, .ref (mm 5), .int (nI n), .int th, .int (nI (a + 1 + 1 + 1 + 1)), .int fa, .ref (mm 6), .int (nI j), .ref (mm 7), .ref (mm 8), .ref (mm 9), .int fr])), ((mm 5), .inl (cI, 60, .inl co)), ((mm 6), .inl (cI, 12, .inl (upd (upd (upd tl (2 * j) 10) (2 * j + 1) (-1)) (2 * j + 1) ((10 + (co (a + 1 + 1 + 1))) - 48))))] := hD
              refine lv_iconst (v := 1) hx hb dX5_isPart_230 (by decide) ?_
              have hP9 : va_P (dC, dI) vwCl [((mm 0), .inr (5, [.ref (mm 1), .ref (mm 2), .ref (mm 3), .ref (mm 4), .int kp, .ref (mm 5), .int (nI n), .int th, .int (nI (a + 1 + 1 + 1 + 1)), .int fa, .ref (mm 6), .int (nI j), .ref (mm 7), .ref (mm 8), .ref (mm 9), .int fr])), ((mm 5), .inl (cI, 60, .inl co)), ((mm 6), .inl (cI, 12, .inl (upd (upd (upd tl (2 * j) 10) (2 * j + 1) (-1)) (2 * j + 1) ((10 + (co (a + 1 + 1 + 1))) - 48))))] H := hP
              have hD9 : va_D A [((mm 0), .inr (5, [.ref (mm 1), .ref (mm 2), .ref (mm 3), .ref (mm 4), .int kp, .ref (mm 5), .int (nI n), .int th, .int (nI (a + 1 + 1 + 1 + 1)), .int fa, .ref (mm 6), .int (nI j), .ref (mm 7), .ref (mm 8), .ref (mm 9), .int fr])), ((mm 5), .inl (cI, 60, .inl co)), ((mm 6), .inl (cI, 12, .inl (upd (upd (upd tl (2 * j) 10) (2 * j + 1) (-1)) (2 * j + 1) ((10 + (co (a + 1 + 1 + 1))) - 48))))] := hD
              exact W.zret (v := 1) hx hb hr rfl (fun t ht hW => ⟨⟨1, (nI (a + 1 + 1 + 1 + 1), fa, upd (upd (upd tl (2 * j) 10) (2 * j + 1) (-1)) (2 * j + 1) ((10 + (co (a + 1 + 1 + 1))) - 48)), rfl, ⟨(by simp only [pp_r, pp_r1, pp_a, pp_a1, pp_t, pp_t1, pp_g, pp_l, fm_upd_upd, if_neg q10b, if_pos q21b, if_pos q51, if_neg q77, if_pos q120b, if_pos q143b, if_pos q176, if_pos q187b]), (by simp only [pp_r, pp_r1, pp_a, pp_a1, pp_t, pp_t1, pp_g, pp_l, fm_upd_upd, if_neg q10b, if_pos q21b, if_pos q51, if_neg q77, if_pos q120b, if_pos q143b, if_pos q176, if_pos q187b]), (by have e9 : pp_r co n a = 1 := (by simp only [pp_r, pp_r1, pp_a, pp_a1, if_neg q10b, if_pos q21b, if_pos q51, if_neg q77, if_pos q120b, if_pos q143b, if_pos q176, if_pos q187b]); rw [e9]; rfl), (by simp only [pp_r, pp_r1, pp_a, pp_a1, pp_t, pp_t1, pp_g, pp_l, fm_upd_upd, if_neg q10b, if_pos q21b, if_pos q51, if_neg q77, if_pos q120b, if_pos q143b, if_pos q176, if_pos q187b])⟩, by rw [ht]; exact hP9, hD9⟩, hS.F ht⟩) hS.2.2 dX5_isPart_231
        · have q143b : ¬ tq co n (a + 1 + 1) 48 57 := xm_bF q143
          refine lv_aload_n hx hb dX5_isPart_146 rfl (lv_at hl 1 rfl) ?_
          have hPc := hP.sub (ws' := [((mm 0), .inr (5, [.ref (mm 1), .ref (mm 2), .ref (mm 3), .ref (mm 4), .int kp, .ref (mm 5), .int (nI n), .int th, .int (nI (a + 1 + 1)), .int fa, .ref (mm 6), .int (nI j), .ref (mm 7), .ref (mm 8), .ref (mm 9), .int fr]))]) [0] rfl
          have hDc := hD.sub (ws' := [((mm 0), .inr (5, [.ref (mm 1), .ref (mm 2), .ref (mm 3), .ref (mm 4), .int kp, .ref (mm 5), .int (nI n), .int th, .int (nI (a + 1 + 1)), .int fa, .ref (mm 6), .int (nI j), .ref (mm 7), .ref (mm 8), .ref (mm 9), .int fr]))]) [0] (by decide) rfl
          have hFc := va_free (wc := [((mm 0), .inr (5, [.ref (mm 1), .ref (mm 2), .ref (mm 3), .ref (mm 4), .int kp, .ref (mm 5), .int (nI n), .int th, .int (nI (a + 1 + 1)), .int fa, .ref (mm 6), .int (nI j), .ref (mm 7), .ref (mm 8), .ref (mm 9), .int fr]))]) hD hS hA [0] rfl
          refine va_calli (va_runV (As := []) (rest := []) ⟨hx, hb, hml, hown, hts⟩ (c_X5_stops l dC dI cI cS cJ tt H.size mm kp th fa (nI j) fr (a + 1 + 1) n) (cwV 0 hts gX5_isPart_X5_stops rfl rfl rfl (by decide +kernel) ⟨Nat.le_of_ble_eq_true rfl, Nat.le_of_ble_eq_true rfl⟩) ⟨xm_Mblind, va_recv hK hPc (ci := 5) (q0 := 0) rfl rfl, fun U hU hW => ⟨rfl, by rw [hU], by rw [hU]; exact hPc, hE.go hS hFc hU hW, hDc.weaken (fun _ _ _ _ => trivial), trivial⟩⟩ rfl rfl hl.1 rfl (lv_room (Nat.le_of_ble_eq_true rfl)) dX5_isPart_147 ⟨Nat.zero_le _, Nat.zero_le _⟩) hS (fun q _ h => hFc q h) hFc (fun r u t H1 locs ht hvm hw hB hz1 hk1 hS => ?_)
          obtain ⟨u_4, rfl⟩ : ∃ z, z = u := ⟨_, rfl⟩
          obtain ⟨hP1, hD1⟩ := hB
          rw [ht] at hP1
          obtain ⟨hw_5, hw_6⟩ := hw
          have hw_5 : r = 0 := hw_5
          subst hw_5
          have hw_6 : u_4 = (if nI (a + 1 + 1) < nI n then 1 else 0) := hw_6
          subst hw_6
          obtain ⟨hP, hD⟩ := va_join (wr := [((mm 5), .inl (cI, 60, .inl co)), ((mm 6), .inl (cI, 12, .inl (upd (upd tl (2 * j) 10) (2 * j + 1) (-1))))]) (w1 := [((mm 0), .inr (5, [.ref (mm 1), .ref (mm 2), .ref (mm 3), .ref (mm 4), .int kp, .ref (mm 5), .int (nI n), .int th, .int (nI (a + 1 + 1)), .int (if nI (a + 1 + 1) < nI n then 1 else 0), .ref (mm 6), .int (nI j), .ref (mm 7), .ref (mm 8), .ref (mm 9), .int fr]))]) hP hD [0] [1, 2] rfl rfl (by decide) (by decide) hk1 hFc hP1 hD1
          generalize H1 = H at hP hS ⊢
          have hP : va_P (dC, dI) vwCl [((mm 5), .inl (cI, 60, .inl co)), ((mm 6), .inl (cI, 12, .inl (upd (upd tl (2 * j) 10) (2 * j + 1) (-1)))), ((mm 0), .inr (5, [.ref (mm 1), .ref (mm 2), .ref (mm 3), .ref (mm 4), .int kp, .ref (mm 5), .int (nI n), .int th, .int (nI (a + 1 + 1)), .int (if nI (a + 1 + 1) < nI n then 1 else 0), .ref (mm 6), .int (nI j), .ref (mm 7), .ref (mm 8), .ref (mm 9), .int fr]))] H := hP
          have hD : va_D A [((mm 5), .inl (cI, 60, .inl co)), ((mm 6), .inl (cI, 12, .inl (upd (upd tl (2 * j) 10) (2 * j + 1) (-1)))), ((mm 0), .inr (5, [.ref (mm 1), .ref (mm 2), .ref (mm 3), .ref (mm 4), .int kp, .ref (mm 5), .int (nI n), .int th, .int (nI (a + 1 + 1)), .int (if nI (a + 1 + 1) < nI n then 1 else 0), .ref (mm 6), .int (nI j), .ref (mm 7), .ref (mm 8), .ref (mm 9), .int fr]))] := hD
          have hP9 := hP.sub (ws' := [((mm 0), .inr (5, [.ref (mm 1), .ref (mm 2), .ref (mm 3), .ref (mm 4), .int kp, .ref (mm 5), .int (nI n), .int th, .int (nI (a + 1 + 1)), .int (if nI (a + 1 + 1) < nI n then 1 else 0), .ref (mm 6), .int (nI j), .ref (mm 7), .ref (mm 8), .ref (mm 9), .int fr])), ((mm 5), .inl (cI, 60, .inl co)), ((mm 6), .inl (cI, 12, .inl (upd (upd tl (2 * j) 10) (2 * j + 1) (-1))))]) [2, 0, 1] rfl
          have hD9 := hD.sub (ws' := [((mm 0), .inr (5, [.ref (mm 1), .ref (mm 2), .ref (mm 3), .ref (mm 4), .int kp, .ref (mm 5), .int (nI n), .int th, .int (nI (a + 1 + 1)), .int (if nI (a + 1 + 1) < nI n then 1 else 0), .ref (mm 6), .int (nI j), .ref (mm 7), .ref (mm 8), .ref (mm 9), .int fr])), ((mm 5), .inl (cI, 60, .inl co)), ((mm 6), .inl (cI, 12, .inl (upd (upd tl (2 * j) 10) (2 * j + 1) (-1))))]) [2, 0, 1] (by decide) rfl
          exact W.zret (v := 0) hx hb hr rfl (fun t ht hW => ⟨⟨0, ((nI (a + 1 + 1)), (if nI (a + 1 + 1) < nI n then 1 else 0), upd (upd tl (2 * j) 10) (2 * j + 1) (-1)), rfl, ⟨(by simp only [pp_r, pp_r1, pp_a, pp_a1, pp_t, pp_t1, pp_g, pp_l, fm_upd_upd, if_neg q10b, if_pos q21b, if_pos q51, if_neg q77, if_pos q120b, if_neg q143b]), (by simp only [pp_r, pp_r1, pp_a, pp_a1, pp_t, pp_t1, pp_g, pp_l, fm_upd_upd, if_neg q10b, if_pos q21b, if_pos q51, if_neg q77, if_pos q120b, if_neg q143b]), (by have e9 : pp_r co n a = 0 := (by simp only [pp_r, pp_r1, pp_a, pp_a1, if_neg q10b, if_pos q21b, if_pos q51, if_neg q77, if_pos q120b, if_neg q143b]); have e8 : pp_a co n a = a + 1 + 1 := (by simp only [pp_r, pp_r1, pp_a, pp_a1, if_neg q10b, if_pos q21b, if_pos q51, if_neg q77, if_pos q120b, if_neg q143b]); rw [e9, e8]; rfl), (by simp only [pp_r, pp_r1, pp_a, pp_a1, pp_t, pp_t1, pp_g, pp_l, fm_upd_upd, if_neg q10b, if_pos q21b, if_pos q51, if_neg q77, if_pos q120b, if_neg q143b])⟩, by rw [ht]; exact hP9, hD9⟩, hS.F ht⟩) hS.2.2 dX5_isPart_150
      · have q120b : ¬ tq co n (a + 1) 42 42 := xm_bF q120
        refine lv_iconst (v := 1) hx hb dX5_isPart_123 (by decide) ?_
        have hP9 : va_P (dC, dI) vwCl [((mm 0), .inr (5, [.ref (mm 1), .ref (mm 2), .ref (mm 3), .ref (mm 4), .int kp, .ref (mm 5), .int (nI n), .int th, .int (nI (a + 1)), .int fa, .ref (mm 6), .int (nI j), .ref (mm 7), .ref (mm 8), .ref (mm 9), .int fr])), ((mm 5), .inl (cI, 60, .inl co)), ((mm 6), .inl (cI, 12, .inl (upd (upd tl (2 * j) 10) (2 * j + 1) (-1))))] H := hP
        have hD9 : va_D A [((mm 0), .inr (5, [.ref (mm 1), .ref (mm 2), .ref (mm 3), .ref (mm 4), .int kp, .ref (mm 5), .int (nI n), .int th, .int (nI (a + 1)), .int fa, .ref (mm 6), .int (nI j), .ref (mm 7), .ref (mm 8), .ref (mm 9), .int fr])), ((mm 5), .inl (cI, 60, .inl co)), ((mm 6), .inl (cI, 12, .inl (upd (upd tl (2 * j) 10) (2 * j + 1) (-1))))] := hD
        exact W.zret (v := 1) hx hb hr rfl (fun t ht hW => ⟨⟨1, (nI (a + 1), fa, upd (upd tl (2 * j) 10) (2 * j + 1) (-1)), rfl, ⟨(by simp only [pp_r, pp_r1, pp_a, pp_a1, pp_t, pp_t1, pp_g, pp_l, fm_upd_upd, if_neg q10b, if_pos q21b, if_pos q51, if_neg q77, if_neg q120b]), (by simp only [pp_r, pp_r1, pp_a, pp_a1, pp_t, pp_t1, pp_g, pp_l, fm_upd_upd, if_neg q10b, if_pos q21b, if_pos q51, if_neg q77, if_neg q120b]), (by have e9 : pp_r co n a = 1 := (by simp only [pp_r, pp_r1, pp_a, pp_a1, if_neg q10b, if_pos q21b, if_pos q51, if_neg q77, if_neg q120b]); rw [e9]; rfl), (by simp only [pp_r, pp_r1, pp_a, pp_a1, pp_t, pp_t1, pp_g, pp_l, fm_upd_upd, if_neg q10b, if_pos q21b, if_pos q51, if_neg q77, if_neg q120b])⟩, by rw [ht]; exact hP9, hD9⟩, hS.F ht⟩) hS.2.2 dX5_isPart_124
    · have q21b : ¬ tq co n a 45 45 := xm_bF q21
      refine lv_aload_n hx hb dX5_isPart_24 rfl (lv_at hl 1 rfl) ?_
      refine lv_bipush (v := 95) hx hb dX5_isPart_25 (by decide) ?_
      refine lv_bipush (v := 95) hx hb dX5_isPart_27 (by decide) ?_
      have hPc := hP.sub (ws' := [((mm 0), .inr (5, [.ref (mm 1), .ref (mm 2), .ref (mm 3), .ref (mm 4), .int kp, .ref (mm 5), .int (nI n), .int th, .int (nI a), .int fa, .ref (mm 6), .int (nI j), .ref (mm 7), .ref (mm 8), .ref (mm 9), .int fr])), ((mm 5), .inl (cI, 60, .inl co))]) [0, 1] rfl
      refine W.callV ((va_runV (As := [.int 95, .int 95]) (rest := []) ⟨hx, hb, hml, hown, hts⟩ (c_X5_isAt l dC dI cI cS cJ tt mm kp th fa (nI j) fr co a n 95 95) (cwV 2 hts gX5_isPart_X5_isAt rfl rfl rfl (by decide +kernel) ⟨Nat.le_of_ble_eq_true rfl, Nat.le_of_ble_eq_true rfl⟩) ⟨xm_Rblind, va_recv hK hPc (ci := 5) (q0 := 0) rfl rfl, fun U hU hW => ⟨rfl, by rw [hU]; exact hPc, hE.go hS (fun _ q => q.elim) hU hW, ⟨by omega, hn60⟩⟩⟩ rfl rfl hl.1 rfl (lv_room (Nat.le_of_ble_eq_true rfl)) dX5_isPart_29 ⟨Nat.zero_le _, Nat.zero_le _⟩).run) ?_
      refine W.eq (g2 := F0 m 32 lz (.int (if tq co n a 95 95 then 1 else 0) :: [])) rfl ?_
      refine lv_if_ne (tgt := 40) hx hb dX5_isPart_32 (by decide) (fun q32 => ?_) (fun q32 => ?_)
      · have q32b : tq co n a 95 95 := xm_bT q32
        have hlt_a : a < n := q32b.1
        refine lv_aload_n hx hb dX5_isPart_40 rfl (lv_at hl 1 rfl) ?_
        refine va_get (D := (dC, dI)) (ci := 5) (v := .ref (mm 6)) (C := RX5) (T := TX5) (N := 16) hx hb hts hin5 hown hK hP 0 rfl rfl 10 (by decide) (hts (.fieldLink RX5 25 "TurnDigitsModel" "told" "[I") (by decide +kernel)) (fun _ h9 => h9) rfl dX5_isPart_41 ?_
        refine lv_iconst (v := 2) hx hb dX5_isPart_44 (by decide) ?_
        refine lv_aload_n hx hb dX5_isPart_45 rfl (lv_at hl 1 rfl) ?_
        refine va_get (D := (dC, dI)) (ci := 5) (v := .int (nI j)) (C := RX5) (T := TX5) (N := 16) hx hb hts hin5 hown hK hP 0 rfl rfl 11 (by decide) (hts (.fieldLink RX5 138 "TurnDigitsModel" "tolds" "I") (by decide +kernel)) (fun _ h9 => h9) rfl dX5_isPart_46 ?_
        refine lv_imul hx hb dX5_isPart_49 ?_
        refine xm_topi (y := nI (2 * j)) (pk_mul 2 j) ?_
        refine lv_iload_n hx hb dX5_isPart_50 rfl (lv_at hl 0 rfl) ?_
        refine lv_if_eq (tgt := 69) hx hb dX5_isPart_51 (by decide) (fun q51 => ?_) (fun q51 => absurd (by rw [if_neg q10b]) q51)
        refine lv_aload_n hx hb dX5_isPart_69 rfl (lv_at hl 1 rfl) ?_
        refine lv_bipush (v := 45) hx hb dX5_isPart_70 (by decide) ?_
        refine lv_bipush (v := 45) hx hb dX5_isPart_72 (by decide) ?_
        have hPc := hP.sub (ws' := [((mm 0), .inr (5, [.ref (mm 1), .ref (mm 2), .ref (mm 3), .ref (mm 4), .int kp, .ref (mm 5), .int (nI n), .int th, .int (nI a), .int fa, .ref (mm 6), .int (nI j), .ref (mm 7), .ref (mm 8), .ref (mm 9), .int fr])), ((mm 5), .inl (cI, 60, .inl co))]) [0, 1] rfl
        refine W.callV ((va_runV (As := [.int 45, .int 45]) (rest := [.int (nI (2 * j)), .ref (mm 6)]) ⟨hx, hb, hml, hown, hts⟩ (c_X5_isAt l dC dI cI cS cJ tt mm kp th fa (nI j) fr co a n 45 45) (cwV 2 hts gX5_isPart_X5_isAt rfl rfl rfl (by decide +kernel) ⟨Nat.le_of_ble_eq_true rfl, Nat.le_of_ble_eq_true rfl⟩) ⟨xm_Rblind, va_recv hK hPc (ci := 5) (q0 := 0) rfl rfl, fun U hU hW => ⟨rfl, by rw [hU]; exact hPc, hE.go hS (fun _ q => q.elim) hU hW, ⟨by omega, hn60⟩⟩⟩ rfl rfl hl.1 rfl (lv_room (Nat.le_of_ble_eq_true rfl)) dX5_isPart_74 ⟨Nat.zero_le _, Nat.zero_le _⟩).run) ?_
        refine W.eq (g2 := F0 m 77 lz (.int (if tq co n a 45 45 then 1 else 0) :: [.int (nI (2 * j)), .ref (mm 6)])) rfl ?_
        refine lv_if_eq (tgt := 85) hx hb dX5_isPart_77 (by decide) (fun q77 => ?_) (fun q77 => absurd (by rw [if_neg q21b]) q77)
        refine lv_bipush (v := 11) hx hb dX5_isPart_85 (by decide) ?_
        refine xm_iast (D := (dC, dI)) hx hb hK hP hD hS 2 0 (2 * j) rfl rfl (by decide) rfl (by omega) dX5_isPart_87 (fun H locs hP hD hS => ?_)
        have hP : va_P (dC, dI) vwCl [((mm 0), .inr (5, [.ref (mm 1), .ref (mm 2), .ref (mm 3), .ref (mm 4), .int kp, .ref (mm 5), .int (nI n), .int th, .int (nI a), .int fa, .ref (mm 6), .int (nI j), .ref (mm 7), .ref (mm 8), .ref (mm 9), .int fr])), ((mm 5), .inl (cI, 60, .inl co)), ((mm 6), .inl (cI, 12, .inl (upd tl (2 * j) 11)))] H := hP
        have hD : va_D A [((mm 0), .inr (5, [.ref (mm 1), .ref (mm 2), .ref (mm 3), .ref (mm 4), .int kp, .ref (mm 5), .int (nI n), .int th, .int (nI a), .int fa, .ref (mm 6), .int (nI j), .ref (mm 7), .ref (mm 8), .ref (mm 9), .int fr])), ((mm 5), .inl (cI, 60, .inl co)), ((mm 6), .inl (cI, 12, .inl (upd tl (2 * j) 11)))] := hD
        refine lv_aload_n hx hb dX5_isPart_88 rfl (lv_at hl 1 rfl) ?_
        refine va_get (D := (dC, dI)) (ci := 5) (v := .ref (mm 6)) (C := RX5) (T := TX5) (N := 16) hx hb hts hin5 hown hK hP 0 rfl rfl 10 (by decide) (hts (.fieldLink RX5 25 "TurnDigitsModel" "told" "[I") (by decide +kernel)) (fun _ h9 => h9) rfl dX5_isPart_89 ?_
        refine lv_iconst (v := 2) hx hb dX5_isPart_92 (by decide) ?_
        refine lv_aload_n hx hb dX5_isPart_93 rfl (lv_at hl 1 rfl) ?_
        refine va_get (D := (dC, dI)) (ci := 5) (v := .int (nI j)) (C := RX5) (T := TX5) (N := 16) hx hb hts hin5 hown hK hP 0 rfl rfl 11 (by decide) (hts (.fieldLink RX5 138 "TurnDigitsModel" "tolds" "I") (by decide +kernel)) (fun _ h9 => h9) rfl dX5_isPart_94 ?_
        refine lv_imul hx hb dX5_isPart_97 ?_
        refine xm_topi (y := nI (2 * j)) (pk_mul 2 j) ?_
        refine lv_iconst (v := 1) hx hb dX5_isPart_98 (by decide) ?_
        refine lv_iadd hx hb dX5_isPart_99 ?_
        refine xm_topi (y := nI (2 * j + 1)) (nI_add (2 * j) 1) ?_
        refine lv_iconst (v := (-1)) hx hb dX5_isPart_100 (by decide) ?_
        refine xm_iast (D := (dC, dI)) hx hb hK hP hD hS 2 0 (2 * j + 1) rfl rfl (by decide) rfl (by omega) dX5_isPart_101 (fun H locs hP hD hS => ?_)
        have hP : va_P (dC, dI) vwCl [((mm 0), .inr (5, [.ref (mm 1), .ref (mm 2), .ref (mm 3), .ref (mm 4), .int kp, .ref (mm 5), .int (nI n), .int th, .int (nI a), .int fa, .ref (mm 6), .int (nI j), .ref (mm 7), .ref (mm 8), .ref (mm 9), .int fr])), ((mm 5), .inl (cI, 60, .inl co)), ((mm 6), .inl (cI, 12, .inl (upd (upd tl (2 * j) 11) (2 * j + 1) (-1))))] H := hP
        have hD : va_D A [((mm 0), .inr (5, [.ref (mm 1), .ref (mm 2), .ref (mm 3), .ref (mm 4), .int kp, .ref (mm 5), .int (nI n), .int th, .int (nI a), .int fa, .ref (mm 6), .int (nI j), .ref (mm 7), .ref (mm 8), .ref (mm 9), .int fr])), ((mm 5), .inl (cI, 60, .inl co)), ((mm 6), .inl (cI, 12, .inl (upd (upd tl (2 * j) 11) (2 * j + 1) (-1))))] := hD
        refine lv_aload_n hx hb dX5_isPart_102 rfl (lv_at hl 1 rfl) ?_
        refine lv_dup hx hb dX5_isPart_103 rfl ?_
        refine va_get (D := (dC, dI)) (ci := 5) (v := .int (nI a)) (C := RX5) (T := TX5) (N := 16) hx hb hts hin5 hown hK hP 0 rfl rfl 8 (by decide) (hts (.fieldLink RX5 124 "TurnDigitsModel" "at" "I") (by decide +kernel)) (fun _ h9 => h9) rfl dX5_isPart_104 ?_
        refine lv_iconst (v := 1) hx hb dX5_isPart_107 (by decide) ?_
        refine lv_iadd hx hb dX5_isPart_108 ?_
        refine xm_topi (y := nI (a + 1)) (nI_add a 1) ?_
        refine va_put (D := (dC, dI)) (ci := 5) (v := .int (nI (a + 1))) (ty := .int) (C := RX5) (T := TX5) (N := 16) hx hb hts hin5 tyX5 tyX5_ok nmX5 hown hK hP hD hS 0 rfl rfl 8 (by decide) (hts (.fieldLink RX5 124 "TurnDigitsModel" "at" "I") (by decide +kernel)) (fun _ h9 => h9) rfl (by decide +kernel) rfl rfl (Nat.le_of_ble_eq_true rfl) dX5_isPart_109 (fun H locs hP hD hS => ?_)
        have hP : va_P (dC, dI) vwCl [((mm 0), .inr (5, [.ref (mm 1), .ref (mm 2), .ref (mm 3), .ref (mm 4), .int kp, .ref (mm 5), .int (nI n), .int th, .int (nI (a + 1)), .int fa, .ref (mm 6), .int (nI j), .ref (mm 7), .ref (mm 8), .ref (mm 9), .int fr])), ((mm 5), .inl (cI, 60, .inl co)), ((mm 6), .inl (cI, 12, .inl (upd (upd tl (2 * j) 11) (2 * j + 1) (-1))))] H := hP
        have hD : va_D A [((mm 0), .inr (5, [.ref (mm 1), .ref (mm 2), .ref (mm 3), .ref (mm 4), .int kp, .ref (mm 5), .int (nI n), .int th, .int (nI (a + 1)), .int fa, .ref (mm 6), .int (nI j), .ref (mm 7), .ref (mm 8), .ref (mm 9), .int fr])), ((mm 5), .inl (cI, 60, .inl co)), ((mm 6), .inl (cI, 12, .inl (upd (upd tl (2 * j) 11) (2 * j + 1) (-1))))] := hD
        refine lv_aload_n hx hb dX5_isPart_112 rfl (lv_at hl 1 rfl) ?_
        refine lv_bipush (v := 42) hx hb dX5_isPart_113 (by decide) ?_
        refine lv_bipush (v := 42) hx hb dX5_isPart_115 (by decide) ?_
        have hPc := hP.sub (ws' := [((mm 0), .inr (5, [.ref (mm 1), .ref (mm 2), .ref (mm 3), .ref (mm 4), .int kp, .ref (mm 5), .int (nI n), .int th, .int (nI (a + 1)), .int fa, .ref (mm 6), .int (nI j), .ref (mm 7), .ref (mm 8), .ref (mm 9), .int fr])), ((mm 5), .inl (cI, 60, .inl co))]) [0, 1] rfl
        refine W.callV ((va_runV (As := [.int 42, .int 42]) (rest := []) ⟨hx, hb, hml, hown, hts⟩ (c_X5_isAt l dC dI cI cS cJ tt mm kp th fa (nI j) fr co (a + 1) n 42 42) (cwV 2 hts gX5_isPart_X5_isAt rfl rfl rfl (by decide +kernel) ⟨Nat.le_of_ble_eq_true rfl, Nat.le_of_ble_eq_true rfl⟩) ⟨xm_Rblind, va_recv hK hPc (ci := 5) (q0 := 0) rfl rfl, fun U hU hW => ⟨rfl, by rw [hU]; exact hPc, hE.go hS (fun _ q => q.elim) hU hW, ⟨by have := hlt_a; omega, hn60⟩⟩⟩ rfl rfl hl.1 rfl (lv_room (Nat.le_of_ble_eq_true rfl)) dX5_isPart_117 ⟨Nat.zero_le _, Nat.zero_le _⟩).run) ?_
        refine W.eq (g2 := F0 m 120 lz (.int (if tq co n (a + 1) 42 42 then 1 else 0) :: [])) rfl ?_
        refine lv_if_ne (tgt := 125) hx hb dX5_isPart_120 (by decide) (fun q120 => ?_) (fun q120 => ?_)
        · have q120b : tq co n (a + 1) 42 42 := xm_bT q120
          refine lv_aload_n hx hb dX5_isPart_125 rfl (lv_at hl 1 rfl) ?_
          refine lv_dup hx hb dX5_isPart_126 rfl ?_
          refine va_get (D := (dC, dI)) (ci := 5) (v := .int (nI (a + 1))) (C := RX5) (T := TX5) (N := 16) hx hb hts hin5 hown hK hP 0 rfl rfl 8 (by decide) (hts (.fieldLink RX5 124 "TurnDigitsModel" "at" "I") (by decide +kernel)) (fun _ h9 => h9) rfl dX5_isPart_127 ?_
          refine lv_iconst (v := 1) hx hb dX5_isPart_130 (by decide) ?_
          refine lv_iadd hx hb dX5_isPart_131 ?_
          refine xm_topi (y := nI (a + 1 + 1)) (nI_add (a + 1) 1) ?_
          refine va_put (D := (dC, dI)) (ci := 5) (v := .int (nI (a + 1 + 1))) (ty := .int) (C := RX5) (T := TX5) (N := 16) hx hb hts hin5 tyX5 tyX5_ok nmX5 hown hK hP hD hS 0 rfl rfl 8 (by decide) (hts (.fieldLink RX5 124 "TurnDigitsModel" "at" "I") (by decide +kernel)) (fun _ h9 => h9) rfl (by decide +kernel) rfl rfl (Nat.le_of_ble_eq_true rfl) dX5_isPart_132 (fun H locs hP hD hS => ?_)
          have hP : va_P (dC, dI) vwCl [((mm 0), .inr (5, [.ref (mm 1), .ref (mm 2), .ref (mm 3), .ref (mm 4), .int kp, .ref (mm 5), .int (nI n), .int th, .int (nI (a + 1 + 1)), .int fa, .ref (mm 6), .int (nI j), .ref (mm 7), .ref (mm 8), .ref (mm 9), .int fr])), ((mm 5), .inl (cI, 60, .inl co)), ((mm 6), .inl (cI, 12, .inl (upd (upd tl (2 * j) 11) (2 * j + 1) (-1))))] H := hP
          have hD : va_D A [((mm 0), .inr (5, [.ref (mm 1), .ref (mm 2), .ref (mm 3), .ref (mm 4), .int kp, .ref (mm 5), .int (nI n), .int th, .int (nI (a + 1 + 1)), .int fa, .ref (mm 6), .int (nI j), .ref (mm 7), .ref (mm 8), .ref (mm 9), .int fr])), ((mm 5), .inl (cI, 60, .inl co)), ((mm 6), .inl (cI, 12, .inl (upd (upd tl (2 * j) 11) (2 * j + 1) (-1))))] := hD
          refine lv_aload_n hx hb dX5_isPart_135 rfl (lv_at hl 1 rfl) ?_
          refine lv_bipush (v := 48) hx hb dX5_isPart_136 (by decide) ?_
          refine lv_bipush (v := 57) hx hb dX5_isPart_138 (by decide) ?_
          have hPc := hP.sub (ws' := [((mm 0), .inr (5, [.ref (mm 1), .ref (mm 2), .ref (mm 3), .ref (mm 4), .int kp, .ref (mm 5), .int (nI n), .int th, .int (nI (a + 1 + 1)), .int fa, .ref (mm 6), .int (nI j), .ref (mm 7), .ref (mm 8), .ref (mm 9), .int fr])), ((mm 5), .inl (cI, 60, .inl co))]) [0, 1] rfl
          refine W.callV ((va_runV (As := [.int 48, .int 57]) (rest := []) ⟨hx, hb, hml, hown, hts⟩ (c_X5_isAt l dC dI cI cS cJ tt mm kp th fa (nI j) fr co (a + 1 + 1) n 48 57) (cwV 2 hts gX5_isPart_X5_isAt rfl rfl rfl (by decide +kernel) ⟨Nat.le_of_ble_eq_true rfl, Nat.le_of_ble_eq_true rfl⟩) ⟨xm_Rblind, va_recv hK hPc (ci := 5) (q0 := 0) rfl rfl, fun U hU hW => ⟨rfl, by rw [hU]; exact hPc, hE.go hS (fun _ q => q.elim) hU hW, ⟨by have := q120b.1; omega, hn60⟩⟩⟩ rfl rfl hl.1 rfl (lv_room (Nat.le_of_ble_eq_true rfl)) dX5_isPart_140 ⟨Nat.zero_le _, Nat.zero_le _⟩).run) ?_
          refine W.eq (g2 := F0 m 143 lz (.int (if tq co n (a + 1 + 1) 48 57 then 1 else 0) :: [])) rfl ?_
          refine lv_if_ne (tgt := 151) hx hb dX5_isPart_143 (by decide) (fun q143 => ?_) (fun q143 => ?_)
          · have q143b : tq co n (a + 1 + 1) 48 57 := xm_bT q143
            refine lv_aload_n hx hb dX5_isPart_151 rfl (lv_at hl 1 rfl) ?_
            refine va_get (D := (dC, dI)) (ci := 5) (v := .ref (mm 5)) (C := RX5) (T := TX5) (N := 16) hx hb hts hin5 hown hK hP 0 rfl rfl 5 (by decide) (hts (.fieldLink RX5 22 "TurnDigitsModel" "text" "[I") (by decide +kernel)) (fun _ h9 => h9) rfl dX5_isPart_152 ?_
            refine lv_aload_n hx hb dX5_isPart_155 rfl (lv_at hl 1 rfl) ?_
            refine va_get (D := (dC, dI)) (ci := 5) (v := .int (nI (a + 1 + 1))) (C := RX5) (T := TX5) (N := 16) hx hb hts hin5 hown hK hP 0 rfl rfl 8 (by decide) (hts (.fieldLink RX5 124 "TurnDigitsModel" "at" "I") (by decide +kernel)) (fun _ h9 => h9) rfl dX5_isPart_156 ?_
            refine xm_iald (D := (dC, dI)) hx hb hK hP 1 0 (a + 1 + 1) (v := co (a + 1 + 1)) rfl rfl (by decide) rfl (by have := q143b.1; omega) rfl dX5_isPart_159 ?_
            refine lv_bipush (v := 48) hx hb dX5_isPart_160 (by decide) ?_
            refine lv_isub hx hb dX5_isPart_162 ?_
            refine lv_istore_n (lv' := [(2, .int ((co (a + 1 + 1)) - 48)), (1, .int (if tq co n a 48 57 then 1 else 0)), (0, .ref (mm 0))]) hx hb dX5_isPart_163 rfl hl (by decide) rfl (fun lz hl => ?_)
            refine lv_aload_n hx hb dX5_isPart_164 rfl (lv_at hl 2 rfl) ?_
            refine lv_dup hx hb dX5_isPart_165 rfl ?_
            refine va_get (D := (dC, dI)) (ci := 5) (v := .int (nI (a + 1 + 1))) (C := RX5) (T := TX5) (N := 16) hx hb hts hin5 hown hK hP 0 rfl rfl 8 (by decide) (hts (.fieldLink RX5 124 "TurnDigitsModel" "at" "I") (by decide +kernel)) (fun _ h9 => h9) rfl dX5_isPart_166 ?_
            refine lv_iconst (v := 1) hx hb dX5_isPart_169 (by decide) ?_
            refine lv_iadd hx hb dX5_isPart_170 ?_
            refine xm_topi (y := nI (a + 1 + 1 + 1)) (nI_add (a + 1 + 1) 1) ?_
            refine va_put (D := (dC, dI)) (ci := 5) (v := .int (nI (a + 1 + 1 + 1))) (ty := .int) (C := RX5) (T := TX5) (N := 16) hx hb hts hin5 tyX5 tyX5_ok nmX5 hown hK hP hD hS 0 rfl rfl 8 (by decide) (hts (.fieldLink RX5 124 "TurnDigitsModel" "at" "I") (by decide +kernel)) (fun _ h9 => h9) rfl (by decide +kernel) rfl rfl (Nat.le_of_ble_eq_true rfl) dX5_isPart_171 (fun H locs hP hD hS => ?_)
            have hP : va_P (dC, dI) vwCl [((mm 0), .inr (5, [.ref (mm 1), .ref (mm 2), .ref (mm 3), .ref (mm 4), .int kp, .ref (mm 5), .int (nI n), .int th, .int (nI (a + 1 + 1 + 1)), .int fa, .ref (mm 6), .int (nI j), .ref (mm 7), .ref (mm 8), .ref (mm 9), .int fr])), ((mm 5), .inl (cI, 60, .inl co)), ((mm 6), .inl (cI, 12, .inl (upd (upd tl (2 * j) 11) (2 * j + 1) (-1))))] H := hP
            have hD : va_D A [((mm 0), .inr (5, [.ref (mm 1), .ref (mm 2), .ref (mm 3), .ref (mm 4), .int kp, .ref (mm 5), .int (nI n), .int th, .int (nI (a + 1 + 1 + 1)), .int fa, .ref (mm 6), .int (nI j), .ref (mm 7), .ref (mm 8), .ref (mm 9), .int fr])), ((mm 5), .inl (cI, 60, .inl co)), ((mm 6), .inl (cI, 12, .inl (upd (upd tl (2 * j) 11) (2 * j + 1) (-1))))] := hD
            refine lv_iload_n hx hb dX5_isPart_174 rfl (lv_at hl 0 rfl) ?_
            refine lv_iconst (v := 1) hx hb dX5_isPart_175 (by decide) ?_
            refine lv_icmp_ne (tgt := 216) hx hb dX5_isPart_176 (by decide) (fun q176 => ?_) (fun q176 => ?_)
            · refine lv_aload_n hx hb dX5_isPart_216 rfl (lv_at hl 2 rfl) ?_
              refine va_get (D := (dC, dI)) (ci := 5) (v := .ref (mm 6)) (C := RX5) (T := TX5) (N := 16) hx hb hts hin5 hown hK hP 0 rfl rfl 10 (by decide) (hts (.fieldLink RX5 25 "TurnDigitsModel" "told" "[I") (by decide +kernel)) (fun _ h9 => h9) rfl dX5_isPart_217 ?_
              refine lv_iconst (v := 2) hx hb dX5_isPart_220 (by decide) ?_
              refine lv_aload_n hx hb dX5_isPart_221 rfl (lv_at hl 2 rfl) ?_
              refine va_get (D := (dC, dI)) (ci := 5) (v := .int (nI j)) (C := RX5) (T := TX5) (N := 16) hx hb hts hin5 hown hK hP 0 rfl rfl 11 (by decide) (hts (.fieldLink RX5 138 "TurnDigitsModel" "tolds" "I") (by decide +kernel)) (fun _ h9 => h9) rfl dX5_isPart_222 ?_
              refine lv_imul hx hb dX5_isPart_225 ?_
              refine xm_topi (y := nI (2 * j)) (pk_mul 2 j) ?_
              refine lv_iconst (v := 1) hx hb dX5_isPart_226 (by decide) ?_
              refine lv_iadd hx hb dX5_isPart_227 ?_
              refine xm_topi (y := nI (2 * j + 1)) (nI_add (2 * j) 1) ?_
              refine lv_iload_n hx hb dX5_isPart_228 rfl (lv_at hl 0 rfl) ?_
              refine xm_iast (D := (dC, dI)) hx hb hK hP hD hS 2 0 (2 * j + 1) rfl rfl (by decide) rfl (by omega) dX5_isPart_229 (fun H locs hP hD hS => ?_)
              have hP : va_P (dC, dI) vwCl [((mm 0), .inr (5, [.ref (mm 1), .ref (mm 2), .ref (mm 3), .ref (mm 4), .int kp, .ref (mm 5), .int (nI n), .int th, .int (nI (a + 1 + 1 + 1)), .int fa, .ref (mm 6), .int (nI j), .ref (mm 7), .ref (mm 8), .ref (mm 9), .int fr])), ((mm 5), .inl (cI, 60, .inl co)), ((mm 6), .inl (cI, 12, .inl (upd (upd (upd tl (2 * j) 11) (2 * j + 1) (-1)) (2 * j + 1) ((co (a + 1 + 1)) - 48))))] H := hP
              have hD : va_D A [((mm 0), .inr (5, [.ref (mm 1), .ref (mm 2), .ref (mm 3), .ref (mm 4), .int kp, .ref (mm 5), .int (nI n), .int th, .int (nI (a + 1 + 1 + 1)), .int fa, .ref (mm 6), .int (nI j), .ref (mm 7), .ref (mm 8), .ref (mm 9), .int fr])), ((mm 5), .inl (cI, 60, .inl co)), ((mm 6), .inl (cI, 12, .inl (upd (upd (upd tl (2 * j) 11) (2 * j + 1) (-1)) (2 * j + 1) ((co (a + 1 + 1)) - 48))))] := hD
              refine lv_iconst (v := 1) hx hb dX5_isPart_230 (by decide) ?_
              have hP9 : va_P (dC, dI) vwCl [((mm 0), .inr (5, [.ref (mm 1), .ref (mm 2), .ref (mm 3), .ref (mm 4), .int kp, .ref (mm 5), .int (nI n), .int th, .int (nI (a + 1 + 1 + 1)), .int fa, .ref (mm 6), .int (nI j), .ref (mm 7), .ref (mm 8), .ref (mm 9), .int fr])), ((mm 5), .inl (cI, 60, .inl co)), ((mm 6), .inl (cI, 12, .inl (upd (upd (upd tl (2 * j) 11) (2 * j + 1) (-1)) (2 * j + 1) ((co (a + 1 + 1)) - 48))))] H := hP
              have hD9 : va_D A [((mm 0), .inr (5, [.ref (mm 1), .ref (mm 2), .ref (mm 3), .ref (mm 4), .int kp, .ref (mm 5), .int (nI n), .int th, .int (nI (a + 1 + 1 + 1)), .int fa, .ref (mm 6), .int (nI j), .ref (mm 7), .ref (mm 8), .ref (mm 9), .int fr])), ((mm 5), .inl (cI, 60, .inl co)), ((mm 6), .inl (cI, 12, .inl (upd (upd (upd tl (2 * j) 11) (2 * j + 1) (-1)) (2 * j + 1) ((co (a + 1 + 1)) - 48))))] := hD
              exact W.zret (v := 1) hx hb hr rfl (fun t ht hW => ⟨⟨1, (nI (a + 1 + 1 + 1), fa, upd (upd (upd tl (2 * j) 11) (2 * j + 1) (-1)) (2 * j + 1) ((co (a + 1 + 1)) - 48)), rfl, ⟨(by simp only [pp_r, pp_r1, pp_a, pp_a1, pp_t, pp_t1, pp_g, pp_l, fm_upd_upd, if_neg q10b, if_neg q21b, if_pos q32b, if_pos q51, if_pos q77, if_pos q120b, if_pos q143b, if_neg q176]), (by simp only [pp_r, pp_r1, pp_a, pp_a1, pp_t, pp_t1, pp_g, pp_l, fm_upd_upd, if_neg q10b, if_neg q21b, if_pos q32b, if_pos q51, if_pos q77, if_pos q120b, if_pos q143b, if_neg q176]), (by have e9 : pp_r co n a = 1 := (by simp only [pp_r, pp_r1, pp_a, pp_a1, if_neg q10b, if_neg q21b, if_pos q32b, if_pos q51, if_pos q77, if_pos q120b, if_pos q143b, if_neg q176]); rw [e9]; rfl), (by simp only [pp_r, pp_r1, pp_a, pp_a1, pp_t, pp_t1, pp_g, pp_l, fm_upd_upd, if_neg q10b, if_neg q21b, if_pos q32b, if_pos q51, if_pos q77, if_pos q120b, if_pos q143b, if_neg q176])⟩, by rw [ht]; exact hP9, hD9⟩, hS.F ht⟩) hS.2.2 dX5_isPart_231
            · refine lv_aload_n hx hb dX5_isPart_179 rfl (lv_at hl 2 rfl) ?_
              refine lv_bipush (v := 48) hx hb dX5_isPart_180 (by decide) ?_
              refine lv_bipush (v := 53) hx hb dX5_isPart_182 (by decide) ?_
              have hPc := hP.sub (ws' := [((mm 0), .inr (5, [.ref (mm 1), .ref (mm 2), .ref (mm 3), .ref (mm 4), .int kp, .ref (mm 5), .int (nI n), .int th, .int (nI (a + 1 + 1 + 1)), .int fa, .ref (mm 6), .int (nI j), .ref (mm 7), .ref (mm 8), .ref (mm 9), .int fr])), ((mm 5), .inl (cI, 60, .inl co))]) [0, 1] rfl
              refine W.callV ((va_runV (As := [.int 48, .int 53]) (rest := []) ⟨hx, hb, hml, hown, hts⟩ (c_X5_isAt l dC dI cI cS cJ tt mm kp th fa (nI j) fr co (a + 1 + 1 + 1) n 48 53) (cwV 2 hts gX5_isPart_X5_isAt rfl rfl rfl (by decide +kernel) ⟨Nat.le_of_ble_eq_true rfl, Nat.le_of_ble_eq_true rfl⟩) ⟨xm_Rblind, va_recv hK hPc (ci := 5) (q0 := 0) rfl rfl, fun U hU hW => ⟨rfl, by rw [hU]; exact hPc, hE.go hS (fun _ q => q.elim) hU hW, ⟨by have := q143b.1; omega, hn60⟩⟩⟩ rfl rfl hl.1 rfl (lv_room (Nat.le_of_ble_eq_true rfl)) dX5_isPart_184 ⟨Nat.zero_le _, Nat.zero_le _⟩).run) ?_
              refine W.eq (g2 := F0 m 187 lz (.int (if tq co n (a + 1 + 1 + 1) 48 53 then 1 else 0) :: [])) rfl ?_
              refine lv_if_eq (tgt := 216) hx hb dX5_isPart_187 (by decide) (fun q187 => ?_) (fun q187 => ?_)
              · have q187b : ¬ tq co n (a + 1 + 1 + 1) 48 53 := xm_bF q187
                refine lv_aload_n hx hb dX5_isPart_216 rfl (lv_at hl 2 rfl) ?_
                refine va_get (D := (dC, dI)) (ci := 5) (v := .ref (mm 6)) (C := RX5) (T := TX5) (N := 16) hx hb hts hin5 hown hK hP 0 rfl rfl 10 (by decide) (hts (.fieldLink RX5 25 "TurnDigitsModel" "told" "[I") (by decide +kernel)) (fun _ h9 => h9) rfl dX5_isPart_217 ?_
                refine lv_iconst (v := 2) hx hb dX5_isPart_220 (by decide) ?_
                refine lv_aload_n hx hb dX5_isPart_221 rfl (lv_at hl 2 rfl) ?_
                refine va_get (D := (dC, dI)) (ci := 5) (v := .int (nI j)) (C := RX5) (T := TX5) (N := 16) hx hb hts hin5 hown hK hP 0 rfl rfl 11 (by decide) (hts (.fieldLink RX5 138 "TurnDigitsModel" "tolds" "I") (by decide +kernel)) (fun _ h9 => h9) rfl dX5_isPart_222 ?_
                refine lv_imul hx hb dX5_isPart_225 ?_
                refine xm_topi (y := nI (2 * j)) (pk_mul 2 j) ?_
                refine lv_iconst (v := 1) hx hb dX5_isPart_226 (by decide) ?_
                refine lv_iadd hx hb dX5_isPart_227 ?_
                refine xm_topi (y := nI (2 * j + 1)) (nI_add (2 * j) 1) ?_
                refine lv_iload_n hx hb dX5_isPart_228 rfl (lv_at hl 0 rfl) ?_
                refine xm_iast (D := (dC, dI)) hx hb hK hP hD hS 2 0 (2 * j + 1) rfl rfl (by decide) rfl (by omega) dX5_isPart_229 (fun H locs hP hD hS => ?_)
                have hP : va_P (dC, dI) vwCl [((mm 0), .inr (5, [.ref (mm 1), .ref (mm 2), .ref (mm 3), .ref (mm 4), .int kp, .ref (mm 5), .int (nI n), .int th, .int (nI (a + 1 + 1 + 1)), .int fa, .ref (mm 6), .int (nI j), .ref (mm 7), .ref (mm 8), .ref (mm 9), .int fr])), ((mm 5), .inl (cI, 60, .inl co)), ((mm 6), .inl (cI, 12, .inl (upd (upd (upd tl (2 * j) 11) (2 * j + 1) (-1)) (2 * j + 1) ((co (a + 1 + 1)) - 48))))] H := hP
                have hD : va_D A [((mm 0), .inr (5, [.ref (mm 1), .ref (mm 2), .ref (mm 3), .ref (mm 4), .int kp, .ref (mm 5), .int (nI n), .int th, .int (nI (a + 1 + 1 + 1)), .int fa, .ref (mm 6), .int (nI j), .ref (mm 7), .ref (mm 8), .ref (mm 9), .int fr])), ((mm 5), .inl (cI, 60, .inl co)), ((mm 6), .inl (cI, 12, .inl (upd (upd (upd tl (2 * j) 11) (2 * j + 1) (-1)) (2 * j + 1) ((co (a + 1 + 1)) - 48))))] := hD
                refine lv_iconst (v := 1) hx hb dX5_isPart_230 (by decide) ?_
                have hP9 : va_P (dC, dI) vwCl [((mm 0), .inr (5, [.ref (mm 1), .ref (mm 2), .ref (mm 3), .ref (mm 4), .int kp, .ref (mm 5), .int (nI n), .int th, .int (nI (a + 1 + 1 + 1)), .int fa, .ref (mm 6), .int (nI j), .ref (mm 7), .ref (mm 8), .ref (mm 9), .int fr])), ((mm 5), .inl (cI, 60, .inl co)), ((mm 6), .inl (cI, 12, .inl (upd (upd (upd tl (2 * j) 11) (2 * j + 1) (-1)) (2 * j + 1) ((co (a + 1 + 1)) - 48))))] H := hP
                have hD9 : va_D A [((mm 0), .inr (5, [.ref (mm 1), .ref (mm 2), .ref (mm 3), .ref (mm 4), .int kp, .ref (mm 5), .int (nI n), .int th, .int (nI (a + 1 + 1 + 1)), .int fa, .ref (mm 6), .int (nI j), .ref (mm 7), .ref (mm 8), .ref (mm 9), .int fr])), ((mm 5), .inl (cI, 60, .inl co)), ((mm 6), .inl (cI, 12, .inl (upd (upd (upd tl (2 * j) 11) (2 * j + 1) (-1)) (2 * j + 1) ((co (a + 1 + 1)) - 48))))] := hD
                exact W.zret (v := 1) hx hb hr rfl (fun t ht hW => ⟨⟨1, (nI (a + 1 + 1 + 1), fa, upd (upd (upd tl (2 * j) 11) (2 * j + 1) (-1)) (2 * j + 1) ((co (a + 1 + 1)) - 48)), rfl, ⟨(by simp only [pp_r, pp_r1, pp_a, pp_a1, pp_t, pp_t1, pp_g, pp_l, fm_upd_upd, if_neg q10b, if_neg q21b, if_pos q32b, if_pos q51, if_pos q77, if_pos q120b, if_pos q143b, if_pos q176, if_neg q187b]), (by simp only [pp_r, pp_r1, pp_a, pp_a1, pp_t, pp_t1, pp_g, pp_l, fm_upd_upd, if_neg q10b, if_neg q21b, if_pos q32b, if_pos q51, if_pos q77, if_pos q120b, if_pos q143b, if_pos q176, if_neg q187b]), (by have e9 : pp_r co n a = 1 := (by simp only [pp_r, pp_r1, pp_a, pp_a1, if_neg q10b, if_neg q21b, if_pos q32b, if_pos q51, if_pos q77, if_pos q120b, if_pos q143b, if_pos q176, if_neg q187b]); rw [e9]; rfl), (by simp only [pp_r, pp_r1, pp_a, pp_a1, pp_t, pp_t1, pp_g, pp_l, fm_upd_upd, if_neg q10b, if_neg q21b, if_pos q32b, if_pos q51, if_pos q77, if_pos q120b, if_pos q143b, if_pos q176, if_neg q187b])⟩, by rw [ht]; exact hP9, hD9⟩, hS.F ht⟩) hS.2.2 dX5_isPart_231
              · have q187b : tq co n (a + 1 + 1 + 1) 48 53 := xm_bT q187
                refine lv_bipush (v := 10) hx hb dX5_isPart_190 (by decide) ?_
                refine lv_aload_n hx hb dX5_isPart_192 rfl (lv_at hl 2 rfl) ?_
                refine va_get (D := (dC, dI)) (ci := 5) (v := .ref (mm 5)) (C := RX5) (T := TX5) (N := 16) hx hb hts hin5 hown hK hP 0 rfl rfl 5 (by decide) (hts (.fieldLink RX5 22 "TurnDigitsModel" "text" "[I") (by decide +kernel)) (fun _ h9 => h9) rfl dX5_isPart_193 ?_
                refine lv_aload_n hx hb dX5_isPart_196 rfl (lv_at hl 2 rfl) ?_
                refine va_get (D := (dC, dI)) (ci := 5) (v := .int (nI (a + 1 + 1 + 1))) (C := RX5) (T := TX5) (N := 16) hx hb hts hin5 hown hK hP 0 rfl rfl 8 (by decide) (hts (.fieldLink RX5 124 "TurnDigitsModel" "at" "I") (by decide +kernel)) (fun _ h9 => h9) rfl dX5_isPart_197 ?_
                refine xm_iald (D := (dC, dI)) hx hb hK hP 1 0 (a + 1 + 1 + 1) (v := co (a + 1 + 1 + 1)) rfl rfl (by decide) rfl (by have := q187b.1; omega) rfl dX5_isPart_200 ?_
                refine lv_iadd hx hb dX5_isPart_201 ?_
                refine lv_bipush (v := 48) hx hb dX5_isPart_202 (by decide) ?_
                refine lv_isub hx hb dX5_isPart_204 ?_
                refine lv_istore_n (lv' := [(2, .int ((10 + (co (a + 1 + 1 + 1))) - 48)), (1, .int (if tq co n a 48 57 then 1 else 0)), (0, .ref (mm 0))]) hx hb dX5_isPart_205 rfl hl (by decide) rfl (fun lz hl => ?_)
                refine lv_aload_n hx hb dX5_isPart_206 rfl (lv_at hl 2 rfl) ?_
                refine lv_dup hx hb dX5_isPart_207 rfl ?_
                refine va_get (D := (dC, dI)) (ci := 5) (v := .int (nI (a + 1 + 1 + 1))) (C := RX5) (T := TX5) (N := 16) hx hb hts hin5 hown hK hP 0 rfl rfl 8 (by decide) (hts (.fieldLink RX5 124 "TurnDigitsModel" "at" "I") (by decide +kernel)) (fun _ h9 => h9) rfl dX5_isPart_208 ?_
                refine lv_iconst (v := 1) hx hb dX5_isPart_211 (by decide) ?_
                refine lv_iadd hx hb dX5_isPart_212 ?_
                refine xm_topi (y := nI (a + 1 + 1 + 1 + 1)) (nI_add (a + 1 + 1 + 1) 1) ?_
                refine va_put (D := (dC, dI)) (ci := 5) (v := .int (nI (a + 1 + 1 + 1 + 1))) (ty := .int) (C := RX5) (T := TX5) (N := 16) hx hb hts hin5 tyX5 tyX5_ok nmX5 hown hK hP hD hS 0 rfl rfl 8 (by decide) (hts (.fieldLink RX5 124 "TurnDigitsModel" "at" "I") (by decide +kernel)) (fun _ h9 => h9) rfl (by decide +kernel) rfl rfl (Nat.le_of_ble_eq_true rfl) dX5_isPart_213 (fun H locs hP hD hS => ?_)
                have hP : va_P (dC, dI) vwCl [((mm 0), .inr (5, [.ref (mm 1), .ref (mm 2), .ref (mm 3), .ref (mm 4), .int kp, .ref (mm 5), .int (nI n), .int th, .int (nI (a + 1 + 1 + 1 + 1)), .int fa, .ref (mm 6), .int (nI j), .ref (mm 7), .ref (mm 8), .ref (mm 9), .int fr])), ((mm 5), .inl (cI, 60, .inl co)), ((mm 6), .inl (cI, 12, .inl (upd (upd tl (2 * j) 11) (2 * j + 1) (-1))))] H := hP
                have hD : va_D A [((mm 0), .inr (5, [.ref (mm 1), .ref (mm 2), .ref (mm 3), .ref (mm 4), .int kp, .ref (mm 5), .int (nI n), .int th, .int (nI (a + 1 + 1 + 1 + 1)), .int fa, .ref (mm 6), .int (nI j), .ref (mm 7), .ref (mm 8), .ref (mm 9), .int fr])), ((mm 5), .inl (cI, 60, .inl co)), ((mm 6), .inl (cI, 12, .inl (upd (upd tl (2 * j) 11) (2 * j + 1) (-1))))] := hD
                refine lv_aload_n hx hb dX5_isPart_216 rfl (lv_at hl 2 rfl) ?_
                refine va_get (D := (dC, dI)) (ci := 5) (v := .ref (mm 6)) (C := RX5) (T := TX5) (N := 16) hx hb hts hin5 hown hK hP 0 rfl rfl 10 (by decide) (hts (.fieldLink RX5 25 "TurnDigitsModel" "told" "[I") (by decide +kernel)) (fun _ h9 => h9) rfl dX5_isPart_217 ?_
                refine lv_iconst (v := 2) hx hb dX5_isPart_220 (by decide) ?_
                refine lv_aload_n hx hb dX5_isPart_221 rfl (lv_at hl 2 rfl) ?_
                refine va_get (D := (dC, dI)) (ci := 5) (v := .int (nI j)) (C := RX5) (T := TX5) (N := 16) hx hb hts hin5 hown hK hP 0 rfl rfl 11 (by decide) (hts (.fieldLink RX5 138 "TurnDigitsModel" "tolds" "I") (by decide +kernel)) (fun _ h9 => h9) rfl dX5_isPart_222 ?_
                refine lv_imul hx hb dX5_isPart_225 ?_
                refine xm_topi (y := nI (2 * j)) (pk_mul 2 j) ?_
                refine lv_iconst (v := 1) hx hb dX5_isPart_226 (by decide) ?_
                refine lv_iadd hx hb dX5_isPart_227 ?_
                refine xm_topi (y := nI (2 * j + 1)) (nI_add (2 * j) 1) ?_
                refine lv_iload_n hx hb dX5_isPart_228 rfl (lv_at hl 0 rfl) ?_
                refine xm_iast (D := (dC, dI)) hx hb hK hP hD hS 2 0 (2 * j + 1) rfl rfl (by decide) rfl (by omega) dX5_isPart_229 (fun H locs hP hD hS => ?_)
                have hP : va_P (dC, dI) vwCl [((mm 0), .inr (5, [.ref (mm 1), .ref (mm 2), .ref (mm 3), .ref (mm 4), .int kp, .ref (mm 5), .int (nI n), .int th, .int (nI (a + 1 + 1 + 1 + 1)), .int fa, .ref (mm 6), .int (nI j), .ref (mm 7), .ref (mm 8), .ref (mm 9), .int fr])), ((mm 5), .inl (cI, 60, .inl co)), ((mm 6), .inl (cI, 12, .inl (upd (upd (upd tl (2 * j) 11) (2 * j + 1) (-1)) (2 * j + 1) ((10 + (co (a + 1 + 1 + 1))) - 48))))] H := hP
                have hD : va_D A [((mm 0), .inr (5, [.ref (mm 1), .ref (mm 2), .ref (mm 3), .ref (mm 4), .int kp, .ref (mm 5), .int (nI n), .int th, .int (nI (a + 1 + 1 + 1 + 1)), .int fa, .ref (mm 6), .int (nI j), .ref (mm 7), .ref (mm 8), .ref (mm 9), .int fr])), ((mm 5), .inl (cI, 60, .inl co)), ((mm 6), .inl (cI, 12, .inl (upd (upd (upd tl (2 * j) 11) (2 * j + 1) (-1)) (2 * j + 1) ((10 + (co (a + 1 + 1 + 1))) - 48))))] := hD
                refine lv_iconst (v := 1) hx hb dX5_isPart_230 (by decide) ?_
                have hP9 : va_P (dC, dI) vwCl [((mm 0), .inr (5, [.ref (mm 1), .ref (mm 2), .ref (mm 3), .ref (mm 4), .int kp, .ref (mm 5), .int (nI n), .int th, .int (nI (a + 1 + 1 + 1 + 1)), .int fa, .ref (mm 6), .int (nI j), .ref (mm 7), .ref (mm 8), .ref (mm 9), .int fr])), ((mm 5), .inl (cI, 60, .inl co)), ((mm 6), .inl (cI, 12, .inl (upd (upd (upd tl (2 * j) 11) (2 * j + 1) (-1)) (2 * j + 1) ((10 + (co (a + 1 + 1 + 1))) - 48))))] H := hP
                have hD9 : va_D A [((mm 0), .inr (5, [.ref (mm 1), .ref (mm 2), .ref (mm 3), .ref (mm 4), .int kp, .ref (mm 5), .int (nI n), .int th, .int (nI (a + 1 + 1 + 1 + 1)), .int fa, .ref (mm 6), .int (nI j), .ref (mm 7), .ref (mm 8), .ref (mm 9), .int fr])), ((mm 5), .inl (cI, 60, .inl co)), ((mm 6), .inl (cI, 12, .inl (upd (upd (upd tl (2 * j) 11) (2 * j + 1) (-1)) (2 * j + 1) ((10 + (co (a + 1 + 1 + 1))) - 48))))] := hD
                exact W.zret (v := 1) hx hb hr rfl (fun t ht hW => ⟨⟨1, (nI (a + 1 + 1 + 1 + 1), fa, upd (upd (upd tl (2 * j) 11) (2 * j + 1) (-1)) (2 * j + 1) ((10 + (co (a + 1 + 1 + 1))) - 48)), rfl, ⟨(by simp only [pp_r, pp_r1, pp_a, pp_a1, pp_t, pp_t1, pp_g, pp_l, fm_upd_upd, if_neg q10b, if_neg q21b, if_pos q32b, if_pos q51, if_pos q77, if_pos q120b, if_pos q143b, if_pos q176, if_pos q187b]), (by simp only [pp_r, pp_r1, pp_a, pp_a1, pp_t, pp_t1, pp_g, pp_l, fm_upd_upd, if_neg q10b, if_neg q21b, if_pos q32b, if_pos q51, if_pos q77, if_pos q120b, if_pos q143b, if_pos q176, if_pos q187b]), (by have e9 : pp_r co n a = 1 := (by simp only [pp_r, pp_r1, pp_a, pp_a1, if_neg q10b, if_neg q21b, if_pos q32b, if_pos q51, if_pos q77, if_pos q120b, if_pos q143b, if_pos q176, if_pos q187b]); rw [e9]; rfl), (by simp only [pp_r, pp_r1, pp_a, pp_a1, pp_t, pp_t1, pp_g, pp_l, fm_upd_upd, if_neg q10b, if_neg q21b, if_pos q32b, if_pos q51, if_pos q77, if_pos q120b, if_pos q143b, if_pos q176, if_pos q187b])⟩, by rw [ht]; exact hP9, hD9⟩, hS.F ht⟩) hS.2.2 dX5_isPart_231
          · have q143b : ¬ tq co n (a + 1 + 1) 48 57 := xm_bF q143
            refine lv_aload_n hx hb dX5_isPart_146 rfl (lv_at hl 1 rfl) ?_
            have hPc := hP.sub (ws' := [((mm 0), .inr (5, [.ref (mm 1), .ref (mm 2), .ref (mm 3), .ref (mm 4), .int kp, .ref (mm 5), .int (nI n), .int th, .int (nI (a + 1 + 1)), .int fa, .ref (mm 6), .int (nI j), .ref (mm 7), .ref (mm 8), .ref (mm 9), .int fr]))]) [0] rfl
            have hDc := hD.sub (ws' := [((mm 0), .inr (5, [.ref (mm 1), .ref (mm 2), .ref (mm 3), .ref (mm 4), .int kp, .ref (mm 5), .int (nI n), .int th, .int (nI (a + 1 + 1)), .int fa, .ref (mm 6), .int (nI j), .ref (mm 7), .ref (mm 8), .ref (mm 9), .int fr]))]) [0] (by decide) rfl
            have hFc := va_free (wc := [((mm 0), .inr (5, [.ref (mm 1), .ref (mm 2), .ref (mm 3), .ref (mm 4), .int kp, .ref (mm 5), .int (nI n), .int th, .int (nI (a + 1 + 1)), .int fa, .ref (mm 6), .int (nI j), .ref (mm 7), .ref (mm 8), .ref (mm 9), .int fr]))]) hD hS hA [0] rfl
            refine va_calli (va_runV (As := []) (rest := []) ⟨hx, hb, hml, hown, hts⟩ (c_X5_stops l dC dI cI cS cJ tt H.size mm kp th fa (nI j) fr (a + 1 + 1) n) (cwV 0 hts gX5_isPart_X5_stops rfl rfl rfl (by decide +kernel) ⟨Nat.le_of_ble_eq_true rfl, Nat.le_of_ble_eq_true rfl⟩) ⟨xm_Mblind, va_recv hK hPc (ci := 5) (q0 := 0) rfl rfl, fun U hU hW => ⟨rfl, by rw [hU], by rw [hU]; exact hPc, hE.go hS hFc hU hW, hDc.weaken (fun _ _ _ _ => trivial), trivial⟩⟩ rfl rfl hl.1 rfl (lv_room (Nat.le_of_ble_eq_true rfl)) dX5_isPart_147 ⟨Nat.zero_le _, Nat.zero_le _⟩) hS (fun q _ h => hFc q h) hFc (fun r u t H1 locs ht hvm hw hB hz1 hk1 hS => ?_)
            obtain ⟨u_7, rfl⟩ : ∃ z, z = u := ⟨_, rfl⟩
            obtain ⟨hP1, hD1⟩ := hB
            rw [ht] at hP1
            obtain ⟨hw_8, hw_9⟩ := hw
            have hw_8 : r = 0 := hw_8
            subst hw_8
            have hw_9 : u_7 = (if nI (a + 1 + 1) < nI n then 1 else 0) := hw_9
            subst hw_9
            obtain ⟨hP, hD⟩ := va_join (wr := [((mm 5), .inl (cI, 60, .inl co)), ((mm 6), .inl (cI, 12, .inl (upd (upd tl (2 * j) 11) (2 * j + 1) (-1))))]) (w1 := [((mm 0), .inr (5, [.ref (mm 1), .ref (mm 2), .ref (mm 3), .ref (mm 4), .int kp, .ref (mm 5), .int (nI n), .int th, .int (nI (a + 1 + 1)), .int (if nI (a + 1 + 1) < nI n then 1 else 0), .ref (mm 6), .int (nI j), .ref (mm 7), .ref (mm 8), .ref (mm 9), .int fr]))]) hP hD [0] [1, 2] rfl rfl (by decide) (by decide) hk1 hFc hP1 hD1
            generalize H1 = H at hP hS ⊢
            have hP : va_P (dC, dI) vwCl [((mm 5), .inl (cI, 60, .inl co)), ((mm 6), .inl (cI, 12, .inl (upd (upd tl (2 * j) 11) (2 * j + 1) (-1)))), ((mm 0), .inr (5, [.ref (mm 1), .ref (mm 2), .ref (mm 3), .ref (mm 4), .int kp, .ref (mm 5), .int (nI n), .int th, .int (nI (a + 1 + 1)), .int (if nI (a + 1 + 1) < nI n then 1 else 0), .ref (mm 6), .int (nI j), .ref (mm 7), .ref (mm 8), .ref (mm 9), .int fr]))] H := hP
            have hD : va_D A [((mm 5), .inl (cI, 60, .inl co)), ((mm 6), .inl (cI, 12, .inl (upd (upd tl (2 * j) 11) (2 * j + 1) (-1)))), ((mm 0), .inr (5, [.ref (mm 1), .ref (mm 2), .ref (mm 3), .ref (mm 4), .int kp, .ref (mm 5), .int (nI n), .int th, .int (nI (a + 1 + 1)), .int (if nI (a + 1 + 1) < nI n then 1 else 0), .ref (mm 6), .int (nI j), .ref (mm 7), .ref (mm 8), .ref (mm 9), .int fr]))] := hD
            have hP9 := hP.sub (ws' := [((mm 0), .inr (5, [.ref (mm 1), .ref (mm 2), .ref (mm 3), .ref (mm 4), .int kp, .ref (mm 5), .int (nI n), .int th, .int (nI (a + 1 + 1)), .int (if nI (a + 1 + 1) < nI n then 1 else 0), .ref (mm 6), .int (nI j), .ref (mm 7), .ref (mm 8), .ref (mm 9), .int fr])), ((mm 5), .inl (cI, 60, .inl co)), ((mm 6), .inl (cI, 12, .inl (upd (upd tl (2 * j) 11) (2 * j + 1) (-1))))]) [2, 0, 1] rfl
            have hD9 := hD.sub (ws' := [((mm 0), .inr (5, [.ref (mm 1), .ref (mm 2), .ref (mm 3), .ref (mm 4), .int kp, .ref (mm 5), .int (nI n), .int th, .int (nI (a + 1 + 1)), .int (if nI (a + 1 + 1) < nI n then 1 else 0), .ref (mm 6), .int (nI j), .ref (mm 7), .ref (mm 8), .ref (mm 9), .int fr])), ((mm 5), .inl (cI, 60, .inl co)), ((mm 6), .inl (cI, 12, .inl (upd (upd tl (2 * j) 11) (2 * j + 1) (-1))))]) [2, 0, 1] (by decide) rfl
            exact W.zret (v := 0) hx hb hr rfl (fun t ht hW => ⟨⟨0, ((nI (a + 1 + 1)), (if nI (a + 1 + 1) < nI n then 1 else 0), upd (upd tl (2 * j) 11) (2 * j + 1) (-1)), rfl, ⟨(by simp only [pp_r, pp_r1, pp_a, pp_a1, pp_t, pp_t1, pp_g, pp_l, fm_upd_upd, if_neg q10b, if_neg q21b, if_pos q32b, if_pos q51, if_pos q77, if_pos q120b, if_neg q143b]), (by simp only [pp_r, pp_r1, pp_a, pp_a1, pp_t, pp_t1, pp_g, pp_l, fm_upd_upd, if_neg q10b, if_neg q21b, if_pos q32b, if_pos q51, if_pos q77, if_pos q120b, if_neg q143b]), (by have e9 : pp_r co n a = 0 := (by simp only [pp_r, pp_r1, pp_a, pp_a1, if_neg q10b, if_neg q21b, if_pos q32b, if_pos q51, if_pos q77, if_pos q120b, if_neg q143b]); have e8 : pp_a co n a = a + 1 + 1 := (by simp only [pp_r, pp_r1, pp_a, pp_a1, if_neg q10b, if_neg q21b, if_pos q32b, if_pos q51, if_pos q77, if_pos q120b, if_neg q143b]); rw [e9, e8]; rfl), (by simp only [pp_r, pp_r1, pp_a, pp_a1, pp_t, pp_t1, pp_g, pp_l, fm_upd_upd, if_neg q10b, if_neg q21b, if_pos q32b, if_pos q51, if_pos q77, if_pos q120b, if_neg q143b])⟩, by rw [ht]; exact hP9, hD9⟩, hS.F ht⟩) hS.2.2 dX5_isPart_150
        · have q120b : ¬ tq co n (a + 1) 42 42 := xm_bF q120
          refine lv_iconst (v := 1) hx hb dX5_isPart_123 (by decide) ?_
          have hP9 : va_P (dC, dI) vwCl [((mm 0), .inr (5, [.ref (mm 1), .ref (mm 2), .ref (mm 3), .ref (mm 4), .int kp, .ref (mm 5), .int (nI n), .int th, .int (nI (a + 1)), .int fa, .ref (mm 6), .int (nI j), .ref (mm 7), .ref (mm 8), .ref (mm 9), .int fr])), ((mm 5), .inl (cI, 60, .inl co)), ((mm 6), .inl (cI, 12, .inl (upd (upd tl (2 * j) 11) (2 * j + 1) (-1))))] H := hP
          have hD9 : va_D A [((mm 0), .inr (5, [.ref (mm 1), .ref (mm 2), .ref (mm 3), .ref (mm 4), .int kp, .ref (mm 5), .int (nI n), .int th, .int (nI (a + 1)), .int fa, .ref (mm 6), .int (nI j), .ref (mm 7), .ref (mm 8), .ref (mm 9), .int fr])), ((mm 5), .inl (cI, 60, .inl co)), ((mm 6), .inl (cI, 12, .inl (upd (upd tl (2 * j) 11) (2 * j + 1) (-1))))] := hD
          exact W.zret (v := 1) hx hb hr rfl (fun t ht hW => ⟨⟨1, (nI (a + 1), fa, upd (upd tl (2 * j) 11) (2 * j + 1) (-1)), rfl, ⟨(by simp only [pp_r, pp_r1, pp_a, pp_a1, pp_t, pp_t1, pp_g, pp_l, fm_upd_upd, if_neg q10b, if_neg q21b, if_pos q32b, if_pos q51, if_pos q77, if_neg q120b]), (by simp only [pp_r, pp_r1, pp_a, pp_a1, pp_t, pp_t1, pp_g, pp_l, fm_upd_upd, if_neg q10b, if_neg q21b, if_pos q32b, if_pos q51, if_pos q77, if_neg q120b]), (by have e9 : pp_r co n a = 1 := (by simp only [pp_r, pp_r1, pp_a, pp_a1, if_neg q10b, if_neg q21b, if_pos q32b, if_pos q51, if_pos q77, if_neg q120b]); rw [e9]; rfl), (by simp only [pp_r, pp_r1, pp_a, pp_a1, pp_t, pp_t1, pp_g, pp_l, fm_upd_upd, if_neg q10b, if_neg q21b, if_pos q32b, if_pos q51, if_pos q77, if_neg q120b])⟩, by rw [ht]; exact hP9, hD9⟩, hS.F ht⟩) hS.2.2 dX5_isPart_124
      · have q32b : ¬ tq co n a 95 95 := xm_bF q32
        refine lv_aload_n hx hb dX5_isPart_35 rfl (lv_at hl 1 rfl) ?_
        have hPc := hP.sub (ws' := [((mm 0), .inr (5, [.ref (mm 1), .ref (mm 2), .ref (mm 3), .ref (mm 4), .int kp, .ref (mm 5), .int (nI n), .int th, .int (nI a), .int fa, .ref (mm 6), .int (nI j), .ref (mm 7), .ref (mm 8), .ref (mm 9), .int fr]))]) [0] rfl
        have hDc := hD.sub (ws' := [((mm 0), .inr (5, [.ref (mm 1), .ref (mm 2), .ref (mm 3), .ref (mm 4), .int kp, .ref (mm 5), .int (nI n), .int th, .int (nI a), .int fa, .ref (mm 6), .int (nI j), .ref (mm 7), .ref (mm 8), .ref (mm 9), .int fr]))]) [0] (by decide) rfl
        have hFc := va_free (wc := [((mm 0), .inr (5, [.ref (mm 1), .ref (mm 2), .ref (mm 3), .ref (mm 4), .int kp, .ref (mm 5), .int (nI n), .int th, .int (nI a), .int fa, .ref (mm 6), .int (nI j), .ref (mm 7), .ref (mm 8), .ref (mm 9), .int fr]))]) hD hS hA [0] rfl
        refine va_calli (va_runV (As := []) (rest := []) ⟨hx, hb, hml, hown, hts⟩ (c_X5_stops l dC dI cI cS cJ tt s.heap.size mm kp th fa (nI j) fr a n) (cwV 0 hts gX5_isPart_X5_stops rfl rfl rfl (by decide +kernel) ⟨Nat.le_of_ble_eq_true rfl, Nat.le_of_ble_eq_true rfl⟩) ⟨xm_Mblind, va_recv hK hPc (ci := 5) (q0 := 0) rfl rfl, fun U hU hW => ⟨rfl, by rw [hU], by rw [hU]; exact hPc, hE.go hS hFc hU hW, hDc.weaken (fun _ _ _ _ => trivial), trivial⟩⟩ rfl rfl hl.1 rfl (lv_room (Nat.le_of_ble_eq_true rfl)) dX5_isPart_36 ⟨Nat.zero_le _, Nat.zero_le _⟩) hS (fun q _ h => hFc q h) hFc (fun r u t H1 locs ht hvm hw hB hz1 hk1 hS => ?_)
        obtain ⟨u_10, rfl⟩ : ∃ z, z = u := ⟨_, rfl⟩
        obtain ⟨hP1, hD1⟩ := hB
        rw [ht] at hP1
        obtain ⟨hw_11, hw_12⟩ := hw
        have hw_11 : r = 0 := hw_11
        subst hw_11
        have hw_12 : u_10 = (if nI a < nI n then 1 else 0) := hw_12
        subst hw_12
        obtain ⟨hP, hD⟩ := va_join (wr := [((mm 5), .inl (cI, 60, .inl co)), ((mm 6), .inl (cI, 12, .inl tl))]) (w1 := [((mm 0), .inr (5, [.ref (mm 1), .ref (mm 2), .ref (mm 3), .ref (mm 4), .int kp, .ref (mm 5), .int (nI n), .int th, .int (nI a), .int (if nI a < nI n then 1 else 0), .ref (mm 6), .int (nI j), .ref (mm 7), .ref (mm 8), .ref (mm 9), .int fr]))]) hP hD [0] [1, 2] rfl rfl (by decide) (by decide) hk1 hFc hP1 hD1
        generalize H1 = H at hP hS ⊢
        have hP : va_P (dC, dI) vwCl [((mm 5), .inl (cI, 60, .inl co)), ((mm 6), .inl (cI, 12, .inl tl)), ((mm 0), .inr (5, [.ref (mm 1), .ref (mm 2), .ref (mm 3), .ref (mm 4), .int kp, .ref (mm 5), .int (nI n), .int th, .int (nI a), .int (if nI a < nI n then 1 else 0), .ref (mm 6), .int (nI j), .ref (mm 7), .ref (mm 8), .ref (mm 9), .int fr]))] H := hP
        have hD : va_D A [((mm 5), .inl (cI, 60, .inl co)), ((mm 6), .inl (cI, 12, .inl tl)), ((mm 0), .inr (5, [.ref (mm 1), .ref (mm 2), .ref (mm 3), .ref (mm 4), .int kp, .ref (mm 5), .int (nI n), .int th, .int (nI a), .int (if nI a < nI n then 1 else 0), .ref (mm 6), .int (nI j), .ref (mm 7), .ref (mm 8), .ref (mm 9), .int fr]))] := hD
        have hP9 := hP.sub (ws' := [((mm 0), .inr (5, [.ref (mm 1), .ref (mm 2), .ref (mm 3), .ref (mm 4), .int kp, .ref (mm 5), .int (nI n), .int th, .int (nI a), .int (if nI a < nI n then 1 else 0), .ref (mm 6), .int (nI j), .ref (mm 7), .ref (mm 8), .ref (mm 9), .int fr])), ((mm 5), .inl (cI, 60, .inl co)), ((mm 6), .inl (cI, 12, .inl tl))]) [2, 0, 1] rfl
        have hD9 := hD.sub (ws' := [((mm 0), .inr (5, [.ref (mm 1), .ref (mm 2), .ref (mm 3), .ref (mm 4), .int kp, .ref (mm 5), .int (nI n), .int th, .int (nI a), .int (if nI a < nI n then 1 else 0), .ref (mm 6), .int (nI j), .ref (mm 7), .ref (mm 8), .ref (mm 9), .int fr])), ((mm 5), .inl (cI, 60, .inl co)), ((mm 6), .inl (cI, 12, .inl tl))]) [2, 0, 1] (by decide) rfl
        exact W.zret (v := 0) hx hb hr rfl (fun t ht hW => ⟨⟨0, ((nI a), (if nI a < nI n then 1 else 0), tl), rfl, ⟨(by simp only [pp_r, pp_r1, pp_a, pp_a1, pp_t, pp_t1, pp_g, pp_l, fm_upd_upd, if_neg q10b, if_neg q21b, if_neg q32b]), (by simp only [pp_r, pp_r1, pp_a, pp_a1, pp_t, pp_t1, pp_g, pp_l, fm_upd_upd, if_neg q10b, if_neg q21b, if_neg q32b]), (by have e9 : pp_r co n a = 0 := (by simp only [pp_r, pp_r1, pp_a, pp_a1, if_neg q10b, if_neg q21b, if_neg q32b]); have e8 : pp_a co n a = a := (by simp only [pp_r, pp_r1, pp_a, pp_a1, if_neg q10b, if_neg q21b, if_neg q32b]); rw [e9, e8]; rfl), (by simp only [pp_r, pp_r1, pp_a, pp_a1, pp_t, pp_t1, pp_g, pp_l, fm_upd_upd, if_neg q10b, if_neg q21b, if_neg q32b])⟩, by rw [ht]; exact hP9, hD9⟩, hS.F ht⟩) hS.2.2 dX5_isPart_39

set_option maxHeartbeats 4000000 in
set_option maxRecDepth 100000 in
theorem c_X5_isText (l : Launch) (dC : Nat → ClassId) (dI : Nat → Nat → Nat) (cI cS cJ : ClassId) (tt : Nat → Nat) (sz : Nat) (mm : Nat → Nat) (kp : Int32) (th : Int32) (at0 : Int32) (fa : Int32) (ts : Int32) (fr : Int32) (co : Nat → Int32) (tl : Nat → Int32) (n : Nat) : Met l yX5_isText wsX5_isText ({ frames := 3, cells := 0, slots := 0, locals := 66 } : Room) (va_Pc [.ref (mm 0)] (xm_M (dC, dI) cI cS cJ tt [((mm 0), .inr (5, [.ref (mm 1), .ref (mm 2), .ref (mm 3), .ref (mm 4), .int kp, .ref (mm 5), .int (nI n), .int th, .int at0, .int fa, .ref (mm 6), .int ts, .ref (mm 7), .ref (mm 8), .ref (mm 9), .int fr])), ((mm 5), .inl (cI, 60, .inl co)), ((mm 6), .inl (cI, 12, .inl tl))] sz (n ≤ 60))) (va_Qi (fun (r : Int32) (u : Int32 × Int32 × Int32 × (Nat → Int32)) => r = tp_r co n 6 0 0 ∧ u.1 = nI (tp_a co n 6 0 0) ∧ u.2.1 = (if nI (tp_a co n 6 0 0) < nI n then 1 else 0) ∧ u.2.2.1 = nI (tp_j co n 6 0 0) ∧ u.2.2.2 = tp_t co n 6 0 0 tl) (xm_B (dC, dI) (fun (u : Int32 × Int32 × Int32 × (Nat → Int32)) => [((mm 0), .inr (5, [.ref (mm 1), .ref (mm 2), .ref (mm 3), .ref (mm 4), .int kp, .ref (mm 5), .int (nI n), .int th, .int u.1, .int u.2.1, .ref (mm 6), .int u.2.2.1, .ref (mm 7), .ref (mm 8), .ref (mm 9), .int fr])), ((mm 5), .inl (cI, 60, .inl co)), ((mm 6), .inl (cI, 12, .inl u.2.2.2))]) (va_A [((mm 0), .inr (5, [.ref (mm 1), .ref (mm 2), .ref (mm 3), .ref (mm 4), .int kp, .ref (mm 5), .int (nI n), .int th, .int at0, .int fa, .ref (mm 6), .int ts, .ref (mm 7), .ref (mm 8), .ref (mm 9), .int fr])), ((mm 5), .inl (cI, 60, .inl co)), ((mm 6), .inl (cI, 12, .inl tl))] sz)) (va_A [((mm 0), .inr (5, [.ref (mm 1), .ref (mm 2), .ref (mm 3), .ref (mm 4), .int kp, .ref (mm 5), .int (nI n), .int th, .int at0, .int fa, .ref (mm 6), .int ts, .ref (mm 7), .ref (mm 8), .ref (mm 9), .int fr])), ((mm 5), .inl (cI, 60, .inl co)), ((mm 6), .inl (cI, 12, .inl tl))] sz)) 0 0 (va_A [((mm 0), .inr (5, [.ref (mm 1), .ref (mm 2), .ref (mm 3), .ref (mm 4), .int kp, .ref (mm 5), .int (nI n), .int th, .int at0, .int fa, .ref (mm 6), .int ts, .ref (mm 7), .ref (mm 8), .ref (mm 9), .int fr])), ((mm 5), .inl (cI, 60, .inl co)), ((mm 6), .inl (cI, 12, .inl tl))] sz) := by
  refine Met.ofW (cc := cX5_isText) (maxL := 2) (ret := (some .boolean)) (by decide) rfl ?_
  intro p e s m args below meth c s₁ B hml hv
  obtain ⟨rfl, hsz, hP, hE, hD0, hpre⟩ := hv
  have hx := B.exec
  have hb := B.bytes
  have hr := B.returns
  have hts := atoms_spec (ws := wsX5_isText) B.pre
  have hown : s.vm.findClass RX5 = some m.cls := findClass_of_methodNamed B.named
  have hlocks := B.notSynchronized
  have hK := hE.1
  subst hsz
  have hD := hD0.self (sz := s.heap.size)
  generalize hAe : va_A [((mm 0), .inr (5, [.ref (mm 1), .ref (mm 2), .ref (mm 3), .ref (mm 4), .int kp, .ref (mm 5), .int (nI n), .int th, .int at0, .int fa, .ref (mm 6), .int ts, .ref (mm 7), .ref (mm 8), .ref (mm 9), .int fr])), ((mm 5), .inl (cI, 60, .inl co)), ((mm 6), .inl (cI, 12, .inl tl))] s.heap.size = A at hD hE ⊢
  have hA : ∀ q : Nat, s.heap.size ≤ q → A q := fun q h => by rw [← hAe]; exact Or.inr h
  have hS : va_S A s.heap s.heap [] := va_S.rf
  have hP : va_P (dC, dI) vwCl [((mm 0), .inr (5, [.ref (mm 1), .ref (mm 2), .ref (mm 3), .ref (mm 4), .int kp, .ref (mm 5), .int (nI n), .int th, .int at0, .int fa, .ref (mm 6), .int ts, .ref (mm 7), .ref (mm 8), .ref (mm 9), .int fr])), ((mm 5), .inl (cI, 60, .inl co)), ((mm 6), .inl (cI, 12, .inl tl))] s.heap := hP
  have hin5 : ∀ w ∈ u_ws RX5 TX5 16, w ∈ wsX5_isText := by decide +kernel
  have hl := lv_entry [.ref (mm 0)] (n := 2) (Nat.le_of_ble_eq_true rfl)
  rw [lg_entry_eq]
  generalize (lg_sl [.ref (mm 0)] ++ List.replicate (2 - (lg_sl [.ref (mm 0)]).length) Slot.unset).toArray = lz at hl ⊢
  have hl : lv_has lz 2 [(0, .ref (mm 0))] := hl
  refine lv_aload_n hx hb dX5_isText_0 rfl (lv_at hl 0 rfl) ?_
  refine lv_iconst (v := 0) hx hb dX5_isText_1 (by decide) ?_
  refine va_put (D := (dC, dI)) (ci := 5) (v := .int 0) (ty := .int) (C := RX5) (T := TX5) (N := 16) hx hb hts hin5 tyX5 tyX5_ok nmX5 hown hK hP hD hS 0 rfl rfl 8 (by decide) (hts (.fieldLink RX5 124 "TurnDigitsModel" "at" "I") (by decide +kernel)) (fun _ h9 => h9) rfl (by decide +kernel) rfl rfl (Nat.le_of_ble_eq_true rfl) dX5_isText_2 (fun H locs hP hD hS => ?_)
  have hP : va_P (dC, dI) vwCl [((mm 0), .inr (5, [.ref (mm 1), .ref (mm 2), .ref (mm 3), .ref (mm 4), .int kp, .ref (mm 5), .int (nI n), .int th, .int 0, .int fa, .ref (mm 6), .int ts, .ref (mm 7), .ref (mm 8), .ref (mm 9), .int fr])), ((mm 5), .inl (cI, 60, .inl co)), ((mm 6), .inl (cI, 12, .inl tl))] H := hP
  have hD : va_D A [((mm 0), .inr (5, [.ref (mm 1), .ref (mm 2), .ref (mm 3), .ref (mm 4), .int kp, .ref (mm 5), .int (nI n), .int th, .int 0, .int fa, .ref (mm 6), .int ts, .ref (mm 7), .ref (mm 8), .ref (mm 9), .int fr])), ((mm 5), .inl (cI, 60, .inl co)), ((mm 6), .inl (cI, 12, .inl tl))] := hD
  refine lv_aload_n hx hb dX5_isText_5 rfl (lv_at hl 0 rfl) ?_
  refine lv_iconst (v := 0) hx hb dX5_isText_6 (by decide) ?_
  refine va_put (D := (dC, dI)) (ci := 5) (v := .int 0) (ty := .int) (C := RX5) (T := TX5) (N := 16) hx hb hts hin5 tyX5 tyX5_ok nmX5 hown hK hP hD hS 0 rfl rfl 11 (by decide) (hts (.fieldLink RX5 138 "TurnDigitsModel" "tolds" "I") (by decide +kernel)) (fun _ h9 => h9) rfl (by decide +kernel) rfl rfl (Nat.le_of_ble_eq_true rfl) dX5_isText_7 (fun H locs hP hD hS => ?_)
  have hP : va_P (dC, dI) vwCl [((mm 0), .inr (5, [.ref (mm 1), .ref (mm 2), .ref (mm 3), .ref (mm 4), .int kp, .ref (mm 5), .int (nI n), .int th, .int 0, .int fa, .ref (mm 6), .int 0, .ref (mm 7), .ref (mm 8), .ref (mm 9), .int fr])), ((mm 5), .inl (cI, 60, .inl co)), ((mm 6), .inl (cI, 12, .inl tl))] H := hP
  have hD : va_D A [((mm 0), .inr (5, [.ref (mm 1), .ref (mm 2), .ref (mm 3), .ref (mm 4), .int kp, .ref (mm 5), .int (nI n), .int th, .int 0, .int fa, .ref (mm 6), .int 0, .ref (mm 7), .ref (mm 8), .ref (mm 9), .int fr])), ((mm 5), .inl (cI, 60, .inl co)), ((mm 6), .inl (cI, 12, .inl tl))] := hD
  refine lv_aload_n hx hb dX5_isText_10 rfl (lv_at hl 0 rfl) ?_
  refine lv_iconst (v := 0) hx hb dX5_isText_11 (by decide) ?_
  refine va_put (D := (dC, dI)) (ci := 5) (v := .int 0) (ty := .boolean) (C := RX5) (T := TX5) (N := 16) hx hb hts hin5 tyX5 tyX5_ok nmX5 hown hK hP hD hS 0 rfl rfl 9 (by decide) (hts (.fieldLink RX5 127 "TurnDigitsModel" "isFault" "Z") (by decide +kernel)) (fun _ h9 => h9) rfl (by decide +kernel) rfl rfl (Nat.le_of_ble_eq_true rfl) dX5_isText_12 (fun H locs hP hD hS => ?_)
  have hP : va_P (dC, dI) vwCl [((mm 0), .inr (5, [.ref (mm 1), .ref (mm 2), .ref (mm 3), .ref (mm 4), .int kp, .ref (mm 5), .int (nI n), .int th, .int 0, .int 0, .ref (mm 6), .int 0, .ref (mm 7), .ref (mm 8), .ref (mm 9), .int fr])), ((mm 5), .inl (cI, 60, .inl co)), ((mm 6), .inl (cI, 12, .inl tl))] H := hP
  have hD : va_D A [((mm 0), .inr (5, [.ref (mm 1), .ref (mm 2), .ref (mm 3), .ref (mm 4), .int kp, .ref (mm 5), .int (nI n), .int th, .int 0, .int 0, .ref (mm 6), .int 0, .ref (mm 7), .ref (mm 8), .ref (mm 9), .int fr])), ((mm 5), .inl (cI, 60, .inl co)), ((mm 6), .inl (cI, 12, .inl tl))] := hD
  refine lv_iconst (v := 1) hx hb dX5_isText_15 (by decide) ?_
  refine lv_istore_n (lv' := [(1, .int 1), (0, .ref (mm 0))]) hx hb dX5_isText_16 rfl hl (by decide) rfl (fun lz hl => ?_)
  refine lv_iload_n hx hb dX5_isText_17 rfl (lv_at hl 0 rfl) ?_
  refine lv_if_eq (tgt := 69) hx hb dX5_isText_18 (by decide) (fun q9 => absurd q9 (by decide)) (fun q9 => ?_)
  have L21 : ∀ (zz i : Nat), i ≤ 6 → 6 + 1 ≤ i + zz → ∀ (a1 : Nat) (f1 : Nat → Int32) (fa1 : Int32), (i < 6) → (a1 ≤ n) → (tp_r co n (6 - i) i a1 = tp_r co n 6 0 0) → (tp_a co n (6 - i) i a1 = tp_a co n 6 0 0) → (tp_j co n (6 - i) i a1 = tp_j co n 6 0 0) → (tp_t co n (6 - i) i a1 f1 = tp_t co n 6 0 0 tl) → ∀ (H : Heap) (locs : List Loc), va_P (dC, dI) vwCl [((mm 0), .inr (5, [.ref (mm 1), .ref (mm 2), .ref (mm 3), .ref (mm 4), .int kp, .ref (mm 5), .int (nI n), .int th, .int (nI a1), .int fa1, .ref (mm 6), .int (nI i), .ref (mm 7), .ref (mm 8), .ref (mm 9), .int fr])), ((mm 5), .inl (cI, 60, .inl co)), ((mm 6), .inl (cI, 12, .inl f1))] H → va_D A [((mm 0), .inr (5, [.ref (mm 1), .ref (mm 2), .ref (mm 3), .ref (mm 4), .int kp, .ref (mm 5), .int (nI n), .int th, .int (nI a1), .int fa1, .ref (mm 6), .int (nI i), .ref (mm 7), .ref (mm 8), .ref (mm 9), .int fr])), ((mm 5), .inl (cI, 60, .inl co)), ((mm 6), .inl (cI, 12, .inl f1))] → va_S A s.heap H locs → ∀ (lz : Array Slot), lv_has lz 2 [(0, .ref (mm 0))] → W p l e (headSpec wsX5_isText ({ frames := 3, cells := 0, slots := 0, locals := 66 } : Room)).room s m ([.ref (mm 0)] : List Value).toArray below meth c H locs 0 0 (MQ below (va_Qi (fun (r : Int32) (u : Int32 × Int32 × Int32 × (Nat → Int32)) => r = tp_r co n 6 0 0 ∧ u.1 = nI (tp_a co n 6 0 0) ∧ u.2.1 = (if nI (tp_a co n 6 0 0) < nI n then 1 else 0) ∧ u.2.2.1 = nI (tp_j co n 6 0 0) ∧ u.2.2.2 = tp_t co n 6 0 0 tl) (xm_B (dC, dI) (fun (u : Int32 × Int32 × Int32 × (Nat → Int32)) => [((mm 0), .inr (5, [.ref (mm 1), .ref (mm 2), .ref (mm 3), .ref (mm 4), .int kp, .ref (mm 5), .int (nI n), .int th, .int u.1, .int u.2.1, .ref (mm 6), .int u.2.2.1, .ref (mm 7), .ref (mm 8), .ref (mm 9), .int fr])), ((mm 5), .inl (cI, 60, .inl co)), ((mm 6), .inl (cI, 12, .inl u.2.2.2))]) A) A) ([.ref (mm 0)] : List Value).toArray s 0 0 A) (F0 m 21 lz []) := by
    intro zz
    induction zz with
    | zero => intro i hii hni; exact absurd hni (by omega)
    | succ zz ih21 =>
      intro i hii hni a1 f1 fa1  hjl ha1 h_r h_a h_j h_t H locs hP hD hS lz hl
      refine lv_aload_n hx hb dX5_isText_21 rfl (lv_at hl 0 rfl) ?_
      have hPc := hP.sub (ws' := [((mm 0), .inr (5, [.ref (mm 1), .ref (mm 2), .ref (mm 3), .ref (mm 4), .int kp, .ref (mm 5), .int (nI n), .int th, .int (nI a1), .int fa1, .ref (mm 6), .int (nI i), .ref (mm 7), .ref (mm 8), .ref (mm 9), .int fr])), ((mm 5), .inl (cI, 60, .inl co)), ((mm 6), .inl (cI, 12, .inl f1))]) [0, 1, 2] rfl
      have hDc := hD.sub (ws' := [((mm 0), .inr (5, [.ref (mm 1), .ref (mm 2), .ref (mm 3), .ref (mm 4), .int kp, .ref (mm 5), .int (nI n), .int th, .int (nI a1), .int fa1, .ref (mm 6), .int (nI i), .ref (mm 7), .ref (mm 8), .ref (mm 9), .int fr])), ((mm 5), .inl (cI, 60, .inl co)), ((mm 6), .inl (cI, 12, .inl f1))]) [0, 1, 2] (by decide) rfl
      have hFc := va_free (wc := [((mm 0), .inr (5, [.ref (mm 1), .ref (mm 2), .ref (mm 3), .ref (mm 4), .int kp, .ref (mm 5), .int (nI n), .int th, .int (nI a1), .int fa1, .ref (mm 6), .int (nI i), .ref (mm 7), .ref (mm 8), .ref (mm 9), .int fr])), ((mm 5), .inl (cI, 60, .inl co)), ((mm 6), .inl (cI, 12, .inl f1))]) hD hS hA [0, 1, 2] rfl
      refine va_calli (va_runV (As := []) (rest := []) ⟨hx, hb, hml, hown, hts⟩ (c_X5_isPart l dC dI cI cS cJ tt H.size mm kp th fa1 fr co f1 a1 n i) (cwV 0 hts gX5_isText_X5_isPart rfl rfl rfl (by decide +kernel) ⟨Nat.le_of_ble_eq_true rfl, Nat.le_of_ble_eq_true rfl⟩) ⟨xm_Mblind, va_recv hK hPc (ci := 5) (q0 := 0) rfl rfl, fun U hU hW => ⟨rfl, by rw [hU], by rw [hU]; exact hPc, hE.go hS hFc hU hW, hDc.weaken (fun _ _ _ _ => trivial), ⟨⟨ha1, hpre⟩, hjl⟩⟩⟩ rfl rfl hl.1 rfl (lv_room (Nat.le_of_ble_eq_true rfl)) dX5_isText_22 ⟨Nat.zero_le _, Nat.zero_le _⟩) hS (fun q _ h => hFc q h) hFc (fun r u t H1 locs ht hvm hw hB hz1 hk1 hS => ?_)
      obtain ⟨u_1, u_2, u_3⟩ := u
      obtain ⟨hP1, hD1⟩ := hB
      rw [ht] at hP1
      obtain ⟨hw_4, hw_5, hw_6, hw_7⟩ := hw
      have hw_4 : r = pp_r co n a1 := hw_4
      subst hw_4
      have hw_5 : u_1 = nI (pp_a co n a1) := hw_5
      subst hw_5
      have hw_6 : u_2 = (if pp_r co n a1 = 0 then (if nI (pp_a co n a1) < nI n then 1 else 0) else fa1) := hw_6
      subst hw_6
      have hw_7 : u_3 = pp_t co n a1 i f1 := hw_7
      subst hw_7
      obtain ⟨hP, hD⟩ := va_join (wr := []) (w1 := [((mm 0), .inr (5, [.ref (mm 1), .ref (mm 2), .ref (mm 3), .ref (mm 4), .int kp, .ref (mm 5), .int (nI n), .int th, .int (nI (pp_a co n a1)), .int (if pp_r co n a1 = 0 then (if nI (pp_a co n a1) < nI n then 1 else 0) else fa1), .ref (mm 6), .int (nI i), .ref (mm 7), .ref (mm 8), .ref (mm 9), .int fr])), ((mm 5), .inl (cI, 60, .inl co)), ((mm 6), .inl (cI, 12, .inl (pp_t co n a1 i f1)))]) hP hD [0, 1, 2] [] rfl rfl (by decide) (by decide) hk1 hFc hP1 hD1
      generalize H1 = H at hP hS ⊢
      have hP : va_P (dC, dI) vwCl [((mm 0), .inr (5, [.ref (mm 1), .ref (mm 2), .ref (mm 3), .ref (mm 4), .int kp, .ref (mm 5), .int (nI n), .int th, .int (nI (pp_a co n a1)), .int (if pp_r co n a1 = 0 then (if nI (pp_a co n a1) < nI n then 1 else 0) else fa1), .ref (mm 6), .int (nI i), .ref (mm 7), .ref (mm 8), .ref (mm 9), .int fr])), ((mm 5), .inl (cI, 60, .inl co)), ((mm 6), .inl (cI, 12, .inl (pp_t co n a1 i f1)))] H := hP
      have hD : va_D A [((mm 0), .inr (5, [.ref (mm 1), .ref (mm 2), .ref (mm 3), .ref (mm 4), .int kp, .ref (mm 5), .int (nI n), .int th, .int (nI (pp_a co n a1)), .int (if pp_r co n a1 = 0 then (if nI (pp_a co n a1) < nI n then 1 else 0) else fa1), .ref (mm 6), .int (nI i), .ref (mm 7), .ref (mm 8), .ref (mm 9), .int fr])), ((mm 5), .inl (cI, 60, .inl co)), ((mm 6), .inl (cI, 12, .inl (pp_t co n a1 i f1)))] := hD
      refine lv_if_ne (tgt := 30) hx hb dX5_isText_25 (by decide) (fun q25 => ?_) (fun q25 => ?_)
      · have e6 : 6 - i = (6 - (i + 1)) + 1 := by omega
        have hr9 : ¬ (pp_r co n a1) = 0 := q25
        refine lv_aload_n hx hb dX5_isText_30 rfl (lv_at hl 0 rfl) ?_
        refine lv_dup hx hb dX5_isText_31 rfl ?_
        refine va_get (D := (dC, dI)) (ci := 5) (v := .int (nI i)) (C := RX5) (T := TX5) (N := 16) hx hb hts hin5 hown hK hP 0 rfl rfl 11 (by decide) (hts (.fieldLink RX5 138 "TurnDigitsModel" "tolds" "I") (by decide +kernel)) (fun _ h9 => h9) rfl dX5_isText_32 ?_
        refine lv_iconst (v := 1) hx hb dX5_isText_35 (by decide) ?_
        refine lv_iadd hx hb dX5_isText_36 ?_
        refine xm_topi (y := nI (i + 1)) (nI_add i 1) ?_
        refine va_put (D := (dC, dI)) (ci := 5) (v := .int (nI (i + 1))) (ty := .int) (C := RX5) (T := TX5) (N := 16) hx hb hts hin5 tyX5 tyX5_ok nmX5 hown hK hP hD hS 0 rfl rfl 11 (by decide) (hts (.fieldLink RX5 138 "TurnDigitsModel" "tolds" "I") (by decide +kernel)) (fun _ h9 => h9) rfl (by decide +kernel) rfl rfl (Nat.le_of_ble_eq_true rfl) dX5_isText_37 (fun H locs hP hD hS => ?_)
        have hP : va_P (dC, dI) vwCl [((mm 0), .inr (5, [.ref (mm 1), .ref (mm 2), .ref (mm 3), .ref (mm 4), .int kp, .ref (mm 5), .int (nI n), .int th, .int (nI (pp_a co n a1)), .int (if pp_r co n a1 = 0 then (if nI (pp_a co n a1) < nI n then 1 else 0) else fa1), .ref (mm 6), .int (nI (i + 1)), .ref (mm 7), .ref (mm 8), .ref (mm 9), .int fr])), ((mm 5), .inl (cI, 60, .inl co)), ((mm 6), .inl (cI, 12, .inl (pp_t co n a1 i f1)))] H := hP
        have hD : va_D A [((mm 0), .inr (5, [.ref (mm 1), .ref (mm 2), .ref (mm 3), .ref (mm 4), .int kp, .ref (mm 5), .int (nI n), .int th, .int (nI (pp_a co n a1)), .int (if pp_r co n a1 = 0 then (if nI (pp_a co n a1) < nI n then 1 else 0) else fa1), .ref (mm 6), .int (nI (i + 1)), .ref (mm 7), .ref (mm 8), .ref (mm 9), .int fr])), ((mm 5), .inl (cI, 60, .inl co)), ((mm 6), .inl (cI, 12, .inl (pp_t co n a1 i f1)))] := hD
        refine lv_aload_n hx hb dX5_isText_40 rfl (lv_at hl 0 rfl) ?_
        refine va_get (D := (dC, dI)) (ci := 5) (v := .int (nI (i + 1))) (C := RX5) (T := TX5) (N := 16) hx hb hts hin5 hown hK hP 0 rfl rfl 11 (by decide) (hts (.fieldLink RX5 138 "TurnDigitsModel" "tolds" "I") (by decide +kernel)) (fun _ h9 => h9) rfl dX5_isText_41 ?_
        refine lv_bipush (v := 6) hx hb dX5_isText_44 (by decide) ?_
        refine lv_icmp_ge (tgt := 64) hx hb dX5_isText_46 (by decide) (fun q46 => ?_) (fun q46 => ?_)
        · have hz9 : ¬ (i + 1 < 6 ∧ (pp_a co n a1) < n) := fun h => by have := (nI_leI (a := 6) (b := i + 1) (by decide) (by omega)).mp q46; omega
          refine lv_iconst (v := 0) hx hb dX5_isText_64 (by decide) ?_
          refine lv_istore_n (lv' := [(1, .int 0), (0, .ref (mm 0))]) hx hb dX5_isText_65 rfl hl (by decide) rfl (fun lz hl => ?_)
          refine lv_goto (tgt := 17) hx hb dX5_isText_66 (by decide) ?_
          refine lv_iload_n hx hb dX5_isText_17 rfl (lv_at hl 0 rfl) ?_
          refine lv_if_eq (tgt := 69) hx hb dX5_isText_18 (by decide) (fun q9 => ?_) (fun q9 => absurd (by decide) q9)
          refine lv_aload_n hx hb dX5_isText_69 rfl (lv_at hl 1 rfl) ?_
          refine lv_aload_n hx hb dX5_isText_70 rfl (lv_at hl 1 rfl) ?_
          refine va_get (D := (dC, dI)) (ci := 5) (v := .int (nI (pp_a co n a1))) (C := RX5) (T := TX5) (N := 16) hx hb hts hin5 hown hK hP 0 rfl rfl 8 (by decide) (hts (.fieldLink RX5 124 "TurnDigitsModel" "at" "I") (by decide +kernel)) (fun _ h9 => h9) rfl dX5_isText_71 ?_
          refine lv_aload_n hx hb dX5_isText_74 rfl (lv_at hl 1 rfl) ?_
          refine va_get (D := (dC, dI)) (ci := 5) (v := .int (nI n)) (C := RX5) (T := TX5) (N := 16) hx hb hts hin5 hown hK hP 0 rfl rfl 6 (by decide) (hts (.fieldLink RX5 121 "TurnDigitsModel" "typed" "I") (by decide +kernel)) (fun _ h9 => h9) rfl dX5_isText_75 ?_
          refine lv_icmp_ge (tgt := 85) hx hb dX5_isText_78 (by decide) (fun q78 => ?_) (fun q78 => ?_)
          · refine lv_iconst (v := 0) hx hb dX5_isText_85 (by decide) ?_
            refine va_put (D := (dC, dI)) (ci := 5) (v := .int 0) (ty := .boolean) (C := RX5) (T := TX5) (N := 16) hx hb hts hin5 tyX5 tyX5_ok nmX5 hown hK hP hD hS 0 rfl rfl 9 (by decide) (hts (.fieldLink RX5 127 "TurnDigitsModel" "isFault" "Z") (by decide +kernel)) (fun _ h9 => h9) rfl (by decide +kernel) rfl rfl (Nat.le_of_ble_eq_true rfl) dX5_isText_86 (fun H locs hP hD hS => ?_)
            have hP : va_P (dC, dI) vwCl [((mm 0), .inr (5, [.ref (mm 1), .ref (mm 2), .ref (mm 3), .ref (mm 4), .int kp, .ref (mm 5), .int (nI n), .int th, .int (nI (pp_a co n a1)), .int 0, .ref (mm 6), .int (nI (i + 1)), .ref (mm 7), .ref (mm 8), .ref (mm 9), .int fr])), ((mm 5), .inl (cI, 60, .inl co)), ((mm 6), .inl (cI, 12, .inl (pp_t co n a1 i f1)))] H := hP
            have hD : va_D A [((mm 0), .inr (5, [.ref (mm 1), .ref (mm 2), .ref (mm 3), .ref (mm 4), .int kp, .ref (mm 5), .int (nI n), .int th, .int (nI (pp_a co n a1)), .int 0, .ref (mm 6), .int (nI (i + 1)), .ref (mm 7), .ref (mm 8), .ref (mm 9), .int fr])), ((mm 5), .inl (cI, 60, .inl co)), ((mm 6), .inl (cI, 12, .inl (pp_t co n a1 i f1)))] := hD
            refine lv_aload_n hx hb dX5_isText_89 rfl (lv_at hl 1 rfl) ?_
            refine va_get (D := (dC, dI)) (ci := 5) (v := .int (nI (pp_a co n a1))) (C := RX5) (T := TX5) (N := 16) hx hb hts hin5 hown hK hP 0 rfl rfl 8 (by decide) (hts (.fieldLink RX5 124 "TurnDigitsModel" "at" "I") (by decide +kernel)) (fun _ h9 => h9) rfl dX5_isText_90 ?_
            refine lv_aload_n hx hb dX5_isText_93 rfl (lv_at hl 1 rfl) ?_
            refine va_get (D := (dC, dI)) (ci := 5) (v := .int (nI n)) (C := RX5) (T := TX5) (N := 16) hx hb hts hin5 hown hK hP 0 rfl rfl 6 (by decide) (hts (.fieldLink RX5 121 "TurnDigitsModel" "typed" "I") (by decide +kernel)) (fun _ h9 => h9) rfl dX5_isText_94 ?_
            refine lv_icmp_ne (tgt := 104) hx hb dX5_isText_97 (by decide) (fun q97 => ?_) (fun q97 => ?_)
            · refine lv_iconst (v := 0) hx hb dX5_isText_104 (by decide) ?_
              have hP9 : va_P (dC, dI) vwCl [((mm 0), .inr (5, [.ref (mm 1), .ref (mm 2), .ref (mm 3), .ref (mm 4), .int kp, .ref (mm 5), .int (nI n), .int th, .int (nI (pp_a co n a1)), .int 0, .ref (mm 6), .int (nI (i + 1)), .ref (mm 7), .ref (mm 8), .ref (mm 9), .int fr])), ((mm 5), .inl (cI, 60, .inl co)), ((mm 6), .inl (cI, 12, .inl (pp_t co n a1 i f1)))] H := hP
              have hD9 : va_D A [((mm 0), .inr (5, [.ref (mm 1), .ref (mm 2), .ref (mm 3), .ref (mm 4), .int kp, .ref (mm 5), .int (nI n), .int th, .int (nI (pp_a co n a1)), .int 0, .ref (mm 6), .int (nI (i + 1)), .ref (mm 7), .ref (mm 8), .ref (mm 9), .int fr])), ((mm 5), .inl (cI, 60, .inl co)), ((mm 6), .inl (cI, 12, .inl (pp_t co n a1 i f1)))] := hD
              exact W.zret (v := 0) hx hb hr rfl (fun t ht hW => ⟨⟨0, ((nI (pp_a co n a1)), 0, nI (i + 1), (pp_t co n a1 i f1)), rfl, ⟨(by rw [← (by rw [← h_r, e6]; symm; show (if (pp_r co n a1) = 0 then _ else if i + 1 < 6 ∧ (pp_a co n a1) < n then _ else (if (pp_a co n a1) = n then 1 else 0)) = (if (pp_a co n a1) = n then 1 else 0); rw [if_neg hr9, if_neg hz9] : (if (pp_a co n a1) = n then 1 else 0) = tp_r co n 6 0 0), if_neg (fun h => q97 (by rw [h]))]), (by rw [← (by rw [← h_a, e6]; symm; show (if (pp_r co n a1) = 0 then _ else if i + 1 < 6 ∧ (pp_a co n a1) < n then _ else (pp_a co n a1)) = (pp_a co n a1); rw [if_neg hr9, if_neg hz9] : (pp_a co n a1) = tp_a co n 6 0 0)]), (by rw [← (by rw [← h_a, e6]; symm; show (if (pp_r co n a1) = 0 then _ else if i + 1 < 6 ∧ (pp_a co n a1) < n then _ else (pp_a co n a1)) = (pp_a co n a1); rw [if_neg hr9, if_neg hz9] : (pp_a co n a1) = tp_a co n 6 0 0), if_neg (Int32.not_lt.mpr q78)]), (by rw [← (by rw [← h_j, e6]; symm; show (if (pp_r co n a1) = 0 then _ else if i + 1 < 6 ∧ (pp_a co n a1) < n then _ else (i + 1)) = (i + 1); rw [if_neg hr9, if_neg hz9] : (i + 1) = tp_j co n 6 0 0)]), (by rw [← h_t, e6]; symm; show (if (pp_r co n a1) = 0 then _ else if i + 1 < 6 ∧ (pp_a co n a1) < n then _ else (pp_t co n a1 i f1)) = (pp_t co n a1 i f1); rw [if_neg hr9, if_neg hz9])⟩, by rw [ht]; exact hP9, hD9⟩, hS.F ht⟩) hS.2.2 dX5_isText_105
            · refine lv_iconst (v := 1) hx hb dX5_isText_100 (by decide) ?_
              refine lv_goto (tgt := 105) hx hb dX5_isText_101 (by decide) ?_
              have hP9 : va_P (dC, dI) vwCl [((mm 0), .inr (5, [.ref (mm 1), .ref (mm 2), .ref (mm 3), .ref (mm 4), .int kp, .ref (mm 5), .int (nI n), .int th, .int (nI (pp_a co n a1)), .int 0, .ref (mm 6), .int (nI (i + 1)), .ref (mm 7), .ref (mm 8), .ref (mm 9), .int fr])), ((mm 5), .inl (cI, 60, .inl co)), ((mm 6), .inl (cI, 12, .inl (pp_t co n a1 i f1)))] H := hP
              have hD9 : va_D A [((mm 0), .inr (5, [.ref (mm 1), .ref (mm 2), .ref (mm 3), .ref (mm 4), .int kp, .ref (mm 5), .int (nI n), .int th, .int (nI (pp_a co n a1)), .int 0, .ref (mm 6), .int (nI (i + 1)), .ref (mm 7), .ref (mm 8), .ref (mm 9), .int fr])), ((mm 5), .inl (cI, 60, .inl co)), ((mm 6), .inl (cI, 12, .inl (pp_t co n a1 i f1)))] := hD
              exact W.zret (v := 1) hx hb hr rfl (fun t ht hW => ⟨⟨1, ((nI (pp_a co n a1)), 0, nI (i + 1), (pp_t co n a1 i f1)), rfl, ⟨(by rw [← (by rw [← h_r, e6]; symm; show (if (pp_r co n a1) = 0 then _ else if i + 1 < 6 ∧ (pp_a co n a1) < n then _ else (if (pp_a co n a1) = n then 1 else 0)) = (if (pp_a co n a1) = n then 1 else 0); rw [if_neg hr9, if_neg hz9] : (if (pp_a co n a1) = n then 1 else 0) = tp_r co n 6 0 0), if_pos (by have := (nI_eq (a := (pp_a co n a1)) (b := n) (by have := pp_a_in (co := co) ha1; omega) (by omega)).mp q97; exact this)]), (by rw [← (by rw [← h_a, e6]; symm; show (if (pp_r co n a1) = 0 then _ else if i + 1 < 6 ∧ (pp_a co n a1) < n then _ else (pp_a co n a1)) = (pp_a co n a1); rw [if_neg hr9, if_neg hz9] : (pp_a co n a1) = tp_a co n 6 0 0)]), (by rw [← (by rw [← h_a, e6]; symm; show (if (pp_r co n a1) = 0 then _ else if i + 1 < 6 ∧ (pp_a co n a1) < n then _ else (pp_a co n a1)) = (pp_a co n a1); rw [if_neg hr9, if_neg hz9] : (pp_a co n a1) = tp_a co n 6 0 0), if_neg (Int32.not_lt.mpr q78)]), (by rw [← (by rw [← h_j, e6]; symm; show (if (pp_r co n a1) = 0 then _ else if i + 1 < 6 ∧ (pp_a co n a1) < n then _ else (i + 1)) = (i + 1); rw [if_neg hr9, if_neg hz9] : (i + 1) = tp_j co n 6 0 0)]), (by rw [← h_t, e6]; symm; show (if (pp_r co n a1) = 0 then _ else if i + 1 < 6 ∧ (pp_a co n a1) < n then _ else (pp_t co n a1 i f1)) = (pp_t co n a1 i f1); rw [if_neg hr9, if_neg hz9])⟩, by rw [ht]; exact hP9, hD9⟩, hS.F ht⟩) hS.2.2 dX5_isText_105
          · refine lv_iconst (v := 1) hx hb dX5_isText_81 (by decide) ?_
            refine lv_goto (tgt := 86) hx hb dX5_isText_82 (by decide) ?_
            refine va_put (D := (dC, dI)) (ci := 5) (v := .int 1) (ty := .boolean) (C := RX5) (T := TX5) (N := 16) hx hb hts hin5 tyX5 tyX5_ok nmX5 hown hK hP hD hS 0 rfl rfl 9 (by decide) (hts (.fieldLink RX5 127 "TurnDigitsModel" "isFault" "Z") (by decide +kernel)) (fun _ h9 => h9) rfl (by decide +kernel) rfl rfl (Nat.le_of_ble_eq_true rfl) dX5_isText_86 (fun H locs hP hD hS => ?_)
            have hP : va_P (dC, dI) vwCl [((mm 0), .inr (5, [.ref (mm 1), .ref (mm 2), .ref (mm 3), .ref (mm 4), .int kp, .ref (mm 5), .int (nI n), .int th, .int (nI (pp_a co n a1)), .int 1, .ref (mm 6), .int (nI (i + 1)), .ref (mm 7), .ref (mm 8), .ref (mm 9), .int fr])), ((mm 5), .inl (cI, 60, .inl co)), ((mm 6), .inl (cI, 12, .inl (pp_t co n a1 i f1)))] H := hP
            have hD : va_D A [((mm 0), .inr (5, [.ref (mm 1), .ref (mm 2), .ref (mm 3), .ref (mm 4), .int kp, .ref (mm 5), .int (nI n), .int th, .int (nI (pp_a co n a1)), .int 1, .ref (mm 6), .int (nI (i + 1)), .ref (mm 7), .ref (mm 8), .ref (mm 9), .int fr])), ((mm 5), .inl (cI, 60, .inl co)), ((mm 6), .inl (cI, 12, .inl (pp_t co n a1 i f1)))] := hD
            refine lv_aload_n hx hb dX5_isText_89 rfl (lv_at hl 1 rfl) ?_
            refine va_get (D := (dC, dI)) (ci := 5) (v := .int (nI (pp_a co n a1))) (C := RX5) (T := TX5) (N := 16) hx hb hts hin5 hown hK hP 0 rfl rfl 8 (by decide) (hts (.fieldLink RX5 124 "TurnDigitsModel" "at" "I") (by decide +kernel)) (fun _ h9 => h9) rfl dX5_isText_90 ?_
            refine lv_aload_n hx hb dX5_isText_93 rfl (lv_at hl 1 rfl) ?_
            refine va_get (D := (dC, dI)) (ci := 5) (v := .int (nI n)) (C := RX5) (T := TX5) (N := 16) hx hb hts hin5 hown hK hP 0 rfl rfl 6 (by decide) (hts (.fieldLink RX5 121 "TurnDigitsModel" "typed" "I") (by decide +kernel)) (fun _ h9 => h9) rfl dX5_isText_94 ?_
            refine lv_icmp_ne (tgt := 104) hx hb dX5_isText_97 (by decide) (fun q97 => ?_) (fun q97 => ?_)
            · refine lv_iconst (v := 0) hx hb dX5_isText_104 (by decide) ?_
              have hP9 : va_P (dC, dI) vwCl [((mm 0), .inr (5, [.ref (mm 1), .ref (mm 2), .ref (mm 3), .ref (mm 4), .int kp, .ref (mm 5), .int (nI n), .int th, .int (nI (pp_a co n a1)), .int 1, .ref (mm 6), .int (nI (i + 1)), .ref (mm 7), .ref (mm 8), .ref (mm 9), .int fr])), ((mm 5), .inl (cI, 60, .inl co)), ((mm 6), .inl (cI, 12, .inl (pp_t co n a1 i f1)))] H := hP
              have hD9 : va_D A [((mm 0), .inr (5, [.ref (mm 1), .ref (mm 2), .ref (mm 3), .ref (mm 4), .int kp, .ref (mm 5), .int (nI n), .int th, .int (nI (pp_a co n a1)), .int 1, .ref (mm 6), .int (nI (i + 1)), .ref (mm 7), .ref (mm 8), .ref (mm 9), .int fr])), ((mm 5), .inl (cI, 60, .inl co)), ((mm 6), .inl (cI, 12, .inl (pp_t co n a1 i f1)))] := hD
              exact W.zret (v := 0) hx hb hr rfl (fun t ht hW => ⟨⟨0, ((nI (pp_a co n a1)), 1, nI (i + 1), (pp_t co n a1 i f1)), rfl, ⟨(by rw [← (by rw [← h_r, e6]; symm; show (if (pp_r co n a1) = 0 then _ else if i + 1 < 6 ∧ (pp_a co n a1) < n then _ else (if (pp_a co n a1) = n then 1 else 0)) = (if (pp_a co n a1) = n then 1 else 0); rw [if_neg hr9, if_neg hz9] : (if (pp_a co n a1) = n then 1 else 0) = tp_r co n 6 0 0), if_neg (fun h => q97 (by rw [h]))]), (by rw [← (by rw [← h_a, e6]; symm; show (if (pp_r co n a1) = 0 then _ else if i + 1 < 6 ∧ (pp_a co n a1) < n then _ else (pp_a co n a1)) = (pp_a co n a1); rw [if_neg hr9, if_neg hz9] : (pp_a co n a1) = tp_a co n 6 0 0)]), (by rw [← (by rw [← h_a, e6]; symm; show (if (pp_r co n a1) = 0 then _ else if i + 1 < 6 ∧ (pp_a co n a1) < n then _ else (pp_a co n a1)) = (pp_a co n a1); rw [if_neg hr9, if_neg hz9] : (pp_a co n a1) = tp_a co n 6 0 0), if_pos (Int32.not_le.mp q78)]), (by rw [← (by rw [← h_j, e6]; symm; show (if (pp_r co n a1) = 0 then _ else if i + 1 < 6 ∧ (pp_a co n a1) < n then _ else (i + 1)) = (i + 1); rw [if_neg hr9, if_neg hz9] : (i + 1) = tp_j co n 6 0 0)]), (by rw [← h_t, e6]; symm; show (if (pp_r co n a1) = 0 then _ else if i + 1 < 6 ∧ (pp_a co n a1) < n then _ else (pp_t co n a1 i f1)) = (pp_t co n a1 i f1); rw [if_neg hr9, if_neg hz9])⟩, by rw [ht]; exact hP9, hD9⟩, hS.F ht⟩) hS.2.2 dX5_isText_105
            · refine lv_iconst (v := 1) hx hb dX5_isText_100 (by decide) ?_
              refine lv_goto (tgt := 105) hx hb dX5_isText_101 (by decide) ?_
              have hP9 : va_P (dC, dI) vwCl [((mm 0), .inr (5, [.ref (mm 1), .ref (mm 2), .ref (mm 3), .ref (mm 4), .int kp, .ref (mm 5), .int (nI n), .int th, .int (nI (pp_a co n a1)), .int 1, .ref (mm 6), .int (nI (i + 1)), .ref (mm 7), .ref (mm 8), .ref (mm 9), .int fr])), ((mm 5), .inl (cI, 60, .inl co)), ((mm 6), .inl (cI, 12, .inl (pp_t co n a1 i f1)))] H := hP
              have hD9 : va_D A [((mm 0), .inr (5, [.ref (mm 1), .ref (mm 2), .ref (mm 3), .ref (mm 4), .int kp, .ref (mm 5), .int (nI n), .int th, .int (nI (pp_a co n a1)), .int 1, .ref (mm 6), .int (nI (i + 1)), .ref (mm 7), .ref (mm 8), .ref (mm 9), .int fr])), ((mm 5), .inl (cI, 60, .inl co)), ((mm 6), .inl (cI, 12, .inl (pp_t co n a1 i f1)))] := hD
              exact W.zret (v := 1) hx hb hr rfl (fun t ht hW => ⟨⟨1, ((nI (pp_a co n a1)), 1, nI (i + 1), (pp_t co n a1 i f1)), rfl, ⟨(by rw [← (by rw [← h_r, e6]; symm; show (if (pp_r co n a1) = 0 then _ else if i + 1 < 6 ∧ (pp_a co n a1) < n then _ else (if (pp_a co n a1) = n then 1 else 0)) = (if (pp_a co n a1) = n then 1 else 0); rw [if_neg hr9, if_neg hz9] : (if (pp_a co n a1) = n then 1 else 0) = tp_r co n 6 0 0), if_pos (by have := (nI_eq (a := (pp_a co n a1)) (b := n) (by have := pp_a_in (co := co) ha1; omega) (by omega)).mp q97; exact this)]), (by rw [← (by rw [← h_a, e6]; symm; show (if (pp_r co n a1) = 0 then _ else if i + 1 < 6 ∧ (pp_a co n a1) < n then _ else (pp_a co n a1)) = (pp_a co n a1); rw [if_neg hr9, if_neg hz9] : (pp_a co n a1) = tp_a co n 6 0 0)]), (by rw [← (by rw [← h_a, e6]; symm; show (if (pp_r co n a1) = 0 then _ else if i + 1 < 6 ∧ (pp_a co n a1) < n then _ else (pp_a co n a1)) = (pp_a co n a1); rw [if_neg hr9, if_neg hz9] : (pp_a co n a1) = tp_a co n 6 0 0), if_pos (Int32.not_le.mp q78)]), (by rw [← (by rw [← h_j, e6]; symm; show (if (pp_r co n a1) = 0 then _ else if i + 1 < 6 ∧ (pp_a co n a1) < n then _ else (i + 1)) = (i + 1); rw [if_neg hr9, if_neg hz9] : (i + 1) = tp_j co n 6 0 0)]), (by rw [← h_t, e6]; symm; show (if (pp_r co n a1) = 0 then _ else if i + 1 < 6 ∧ (pp_a co n a1) < n then _ else (pp_t co n a1 i f1)) = (pp_t co n a1 i f1); rw [if_neg hr9, if_neg hz9])⟩, by rw [ht]; exact hP9, hD9⟩, hS.F ht⟩) hS.2.2 dX5_isText_105
        · have hj69 : i + 1 < 6 := by have h := (not_congr (nI_leI (a := 6) (b := i + 1) (by decide) (by omega))).mp q46; omega
          refine lv_aload_n hx hb dX5_isText_49 rfl (lv_at hl 0 rfl) ?_
          refine va_get (D := (dC, dI)) (ci := 5) (v := .int (nI (pp_a co n a1))) (C := RX5) (T := TX5) (N := 16) hx hb hts hin5 hown hK hP 0 rfl rfl 8 (by decide) (hts (.fieldLink RX5 124 "TurnDigitsModel" "at" "I") (by decide +kernel)) (fun _ h9 => h9) rfl dX5_isText_50 ?_
          refine lv_aload_n hx hb dX5_isText_53 rfl (lv_at hl 0 rfl) ?_
          refine va_get (D := (dC, dI)) (ci := 5) (v := .int (nI n)) (C := RX5) (T := TX5) (N := 16) hx hb hts hin5 hown hK hP 0 rfl rfl 6 (by decide) (hts (.fieldLink RX5 121 "TurnDigitsModel" "typed" "I") (by decide +kernel)) (fun _ h9 => h9) rfl dX5_isText_54 ?_
          refine lv_icmp_ge (tgt := 64) hx hb dX5_isText_57 (by decide) (fun q57 => ?_) (fun q57 => ?_)
          · have hz9 : ¬ (i + 1 < 6 ∧ (pp_a co n a1) < n) := fun h => by have := (nI_leI (a := n) (b := (pp_a co n a1)) (by omega) (by have := pp_a_in (co := co) ha1; omega)).mp q57; omega
            refine lv_iconst (v := 0) hx hb dX5_isText_64 (by decide) ?_
            refine lv_istore_n (lv' := [(1, .int 0), (0, .ref (mm 0))]) hx hb dX5_isText_65 rfl hl (by decide) rfl (fun lz hl => ?_)
            refine lv_goto (tgt := 17) hx hb dX5_isText_66 (by decide) ?_
            refine lv_iload_n hx hb dX5_isText_17 rfl (lv_at hl 0 rfl) ?_
            refine lv_if_eq (tgt := 69) hx hb dX5_isText_18 (by decide) (fun q9 => ?_) (fun q9 => absurd (by decide) q9)
            refine lv_aload_n hx hb dX5_isText_69 rfl (lv_at hl 1 rfl) ?_
            refine lv_aload_n hx hb dX5_isText_70 rfl (lv_at hl 1 rfl) ?_
            refine va_get (D := (dC, dI)) (ci := 5) (v := .int (nI (pp_a co n a1))) (C := RX5) (T := TX5) (N := 16) hx hb hts hin5 hown hK hP 0 rfl rfl 8 (by decide) (hts (.fieldLink RX5 124 "TurnDigitsModel" "at" "I") (by decide +kernel)) (fun _ h9 => h9) rfl dX5_isText_71 ?_
            refine lv_aload_n hx hb dX5_isText_74 rfl (lv_at hl 1 rfl) ?_
            refine va_get (D := (dC, dI)) (ci := 5) (v := .int (nI n)) (C := RX5) (T := TX5) (N := 16) hx hb hts hin5 hown hK hP 0 rfl rfl 6 (by decide) (hts (.fieldLink RX5 121 "TurnDigitsModel" "typed" "I") (by decide +kernel)) (fun _ h9 => h9) rfl dX5_isText_75 ?_
            refine lv_icmp_ge (tgt := 85) hx hb dX5_isText_78 (by decide) (fun q78 => ?_) (fun q78 => ?_)
            · refine lv_iconst (v := 0) hx hb dX5_isText_85 (by decide) ?_
              refine va_put (D := (dC, dI)) (ci := 5) (v := .int 0) (ty := .boolean) (C := RX5) (T := TX5) (N := 16) hx hb hts hin5 tyX5 tyX5_ok nmX5 hown hK hP hD hS 0 rfl rfl 9 (by decide) (hts (.fieldLink RX5 127 "TurnDigitsModel" "isFault" "Z") (by decide +kernel)) (fun _ h9 => h9) rfl (by decide +kernel) rfl rfl (Nat.le_of_ble_eq_true rfl) dX5_isText_86 (fun H locs hP hD hS => ?_)
              have hP : va_P (dC, dI) vwCl [((mm 0), .inr (5, [.ref (mm 1), .ref (mm 2), .ref (mm 3), .ref (mm 4), .int kp, .ref (mm 5), .int (nI n), .int th, .int (nI (pp_a co n a1)), .int 0, .ref (mm 6), .int (nI (i + 1)), .ref (mm 7), .ref (mm 8), .ref (mm 9), .int fr])), ((mm 5), .inl (cI, 60, .inl co)), ((mm 6), .inl (cI, 12, .inl (pp_t co n a1 i f1)))] H := hP
              have hD : va_D A [((mm 0), .inr (5, [.ref (mm 1), .ref (mm 2), .ref (mm 3), .ref (mm 4), .int kp, .ref (mm 5), .int (nI n), .int th, .int (nI (pp_a co n a1)), .int 0, .ref (mm 6), .int (nI (i + 1)), .ref (mm 7), .ref (mm 8), .ref (mm 9), .int fr])), ((mm 5), .inl (cI, 60, .inl co)), ((mm 6), .inl (cI, 12, .inl (pp_t co n a1 i f1)))] := hD
              refine lv_aload_n hx hb dX5_isText_89 rfl (lv_at hl 1 rfl) ?_
              refine va_get (D := (dC, dI)) (ci := 5) (v := .int (nI (pp_a co n a1))) (C := RX5) (T := TX5) (N := 16) hx hb hts hin5 hown hK hP 0 rfl rfl 8 (by decide) (hts (.fieldLink RX5 124 "TurnDigitsModel" "at" "I") (by decide +kernel)) (fun _ h9 => h9) rfl dX5_isText_90 ?_
              refine lv_aload_n hx hb dX5_isText_93 rfl (lv_at hl 1 rfl) ?_
              refine va_get (D := (dC, dI)) (ci := 5) (v := .int (nI n)) (C := RX5) (T := TX5) (N := 16) hx hb hts hin5 hown hK hP 0 rfl rfl 6 (by decide) (hts (.fieldLink RX5 121 "TurnDigitsModel" "typed" "I") (by decide +kernel)) (fun _ h9 => h9) rfl dX5_isText_94 ?_
              refine lv_icmp_ne (tgt := 104) hx hb dX5_isText_97 (by decide) (fun q97 => ?_) (fun q97 => ?_)
              · refine lv_iconst (v := 0) hx hb dX5_isText_104 (by decide) ?_
                have hP9 : va_P (dC, dI) vwCl [((mm 0), .inr (5, [.ref (mm 1), .ref (mm 2), .ref (mm 3), .ref (mm 4), .int kp, .ref (mm 5), .int (nI n), .int th, .int (nI (pp_a co n a1)), .int 0, .ref (mm 6), .int (nI (i + 1)), .ref (mm 7), .ref (mm 8), .ref (mm 9), .int fr])), ((mm 5), .inl (cI, 60, .inl co)), ((mm 6), .inl (cI, 12, .inl (pp_t co n a1 i f1)))] H := hP
                have hD9 : va_D A [((mm 0), .inr (5, [.ref (mm 1), .ref (mm 2), .ref (mm 3), .ref (mm 4), .int kp, .ref (mm 5), .int (nI n), .int th, .int (nI (pp_a co n a1)), .int 0, .ref (mm 6), .int (nI (i + 1)), .ref (mm 7), .ref (mm 8), .ref (mm 9), .int fr])), ((mm 5), .inl (cI, 60, .inl co)), ((mm 6), .inl (cI, 12, .inl (pp_t co n a1 i f1)))] := hD
                exact W.zret (v := 0) hx hb hr rfl (fun t ht hW => ⟨⟨0, ((nI (pp_a co n a1)), 0, nI (i + 1), (pp_t co n a1 i f1)), rfl, ⟨(by rw [← (by rw [← h_r, e6]; symm; show (if (pp_r co n a1) = 0 then _ else if i + 1 < 6 ∧ (pp_a co n a1) < n then _ else (if (pp_a co n a1) = n then 1 else 0)) = (if (pp_a co n a1) = n then 1 else 0); rw [if_neg hr9, if_neg hz9] : (if (pp_a co n a1) = n then 1 else 0) = tp_r co n 6 0 0), if_neg (fun h => q97 (by rw [h]))]), (by rw [← (by rw [← h_a, e6]; symm; show (if (pp_r co n a1) = 0 then _ else if i + 1 < 6 ∧ (pp_a co n a1) < n then _ else (pp_a co n a1)) = (pp_a co n a1); rw [if_neg hr9, if_neg hz9] : (pp_a co n a1) = tp_a co n 6 0 0)]), (by rw [← (by rw [← h_a, e6]; symm; show (if (pp_r co n a1) = 0 then _ else if i + 1 < 6 ∧ (pp_a co n a1) < n then _ else (pp_a co n a1)) = (pp_a co n a1); rw [if_neg hr9, if_neg hz9] : (pp_a co n a1) = tp_a co n 6 0 0), if_neg (Int32.not_lt.mpr q78)]), (by rw [← (by rw [← h_j, e6]; symm; show (if (pp_r co n a1) = 0 then _ else if i + 1 < 6 ∧ (pp_a co n a1) < n then _ else (i + 1)) = (i + 1); rw [if_neg hr9, if_neg hz9] : (i + 1) = tp_j co n 6 0 0)]), (by rw [← h_t, e6]; symm; show (if (pp_r co n a1) = 0 then _ else if i + 1 < 6 ∧ (pp_a co n a1) < n then _ else (pp_t co n a1 i f1)) = (pp_t co n a1 i f1); rw [if_neg hr9, if_neg hz9])⟩, by rw [ht]; exact hP9, hD9⟩, hS.F ht⟩) hS.2.2 dX5_isText_105
              · refine lv_iconst (v := 1) hx hb dX5_isText_100 (by decide) ?_
                refine lv_goto (tgt := 105) hx hb dX5_isText_101 (by decide) ?_
                have hP9 : va_P (dC, dI) vwCl [((mm 0), .inr (5, [.ref (mm 1), .ref (mm 2), .ref (mm 3), .ref (mm 4), .int kp, .ref (mm 5), .int (nI n), .int th, .int (nI (pp_a co n a1)), .int 0, .ref (mm 6), .int (nI (i + 1)), .ref (mm 7), .ref (mm 8), .ref (mm 9), .int fr])), ((mm 5), .inl (cI, 60, .inl co)), ((mm 6), .inl (cI, 12, .inl (pp_t co n a1 i f1)))] H := hP
                have hD9 : va_D A [((mm 0), .inr (5, [.ref (mm 1), .ref (mm 2), .ref (mm 3), .ref (mm 4), .int kp, .ref (mm 5), .int (nI n), .int th, .int (nI (pp_a co n a1)), .int 0, .ref (mm 6), .int (nI (i + 1)), .ref (mm 7), .ref (mm 8), .ref (mm 9), .int fr])), ((mm 5), .inl (cI, 60, .inl co)), ((mm 6), .inl (cI, 12, .inl (pp_t co n a1 i f1)))] := hD
                exact W.zret (v := 1) hx hb hr rfl (fun t ht hW => ⟨⟨1, ((nI (pp_a co n a1)), 0, nI (i + 1), (pp_t co n a1 i f1)), rfl, ⟨(by rw [← (by rw [← h_r, e6]; symm; show (if (pp_r co n a1) = 0 then _ else if i + 1 < 6 ∧ (pp_a co n a1) < n then _ else (if (pp_a co n a1) = n then 1 else 0)) = (if (pp_a co n a1) = n then 1 else 0); rw [if_neg hr9, if_neg hz9] : (if (pp_a co n a1) = n then 1 else 0) = tp_r co n 6 0 0), if_pos (by have := (nI_eq (a := (pp_a co n a1)) (b := n) (by have := pp_a_in (co := co) ha1; omega) (by omega)).mp q97; exact this)]), (by rw [← (by rw [← h_a, e6]; symm; show (if (pp_r co n a1) = 0 then _ else if i + 1 < 6 ∧ (pp_a co n a1) < n then _ else (pp_a co n a1)) = (pp_a co n a1); rw [if_neg hr9, if_neg hz9] : (pp_a co n a1) = tp_a co n 6 0 0)]), (by rw [← (by rw [← h_a, e6]; symm; show (if (pp_r co n a1) = 0 then _ else if i + 1 < 6 ∧ (pp_a co n a1) < n then _ else (pp_a co n a1)) = (pp_a co n a1); rw [if_neg hr9, if_neg hz9] : (pp_a co n a1) = tp_a co n 6 0 0), if_neg (Int32.not_lt.mpr q78)]), (by rw [← (by rw [← h_j, e6]; symm; show (if (pp_r co n a1) = 0 then _ else if i + 1 < 6 ∧ (pp_a co n a1) < n then _ else (i + 1)) = (i + 1); rw [if_neg hr9, if_neg hz9] : (i + 1) = tp_j co n 6 0 0)]), (by rw [← h_t, e6]; symm; show (if (pp_r co n a1) = 0 then _ else if i + 1 < 6 ∧ (pp_a co n a1) < n then _ else (pp_t co n a1 i f1)) = (pp_t co n a1 i f1); rw [if_neg hr9, if_neg hz9])⟩, by rw [ht]; exact hP9, hD9⟩, hS.F ht⟩) hS.2.2 dX5_isText_105
            · refine lv_iconst (v := 1) hx hb dX5_isText_81 (by decide) ?_
              refine lv_goto (tgt := 86) hx hb dX5_isText_82 (by decide) ?_
              refine va_put (D := (dC, dI)) (ci := 5) (v := .int 1) (ty := .boolean) (C := RX5) (T := TX5) (N := 16) hx hb hts hin5 tyX5 tyX5_ok nmX5 hown hK hP hD hS 0 rfl rfl 9 (by decide) (hts (.fieldLink RX5 127 "TurnDigitsModel" "isFault" "Z") (by decide +kernel)) (fun _ h9 => h9) rfl (by decide +kernel) rfl rfl (Nat.le_of_ble_eq_true rfl) dX5_isText_86 (fun H locs hP hD hS => ?_)
              have hP : va_P (dC, dI) vwCl [((mm 0), .inr (5, [.ref (mm 1), .ref (mm 2), .ref (mm 3), .ref (mm 4), .int kp, .ref (mm 5), .int (nI n), .int th, .int (nI (pp_a co n a1)), .int 1, .ref (mm 6), .int (nI (i + 1)), .ref (mm 7), .ref (mm 8), .ref (mm 9), .int fr])), ((mm 5), .inl (cI, 60, .inl co)), ((mm 6), .inl (cI, 12, .inl (pp_t co n a1 i f1)))] H := hP
              have hD : va_D A [((mm 0), .inr (5, [.ref (mm 1), .ref (mm 2), .ref (mm 3), .ref (mm 4), .int kp, .ref (mm 5), .int (nI n), .int th, .int (nI (pp_a co n a1)), .int 1, .ref (mm 6), .int (nI (i + 1)), .ref (mm 7), .ref (mm 8), .ref (mm 9), .int fr])), ((mm 5), .inl (cI, 60, .inl co)), ((mm 6), .inl (cI, 12, .inl (pp_t co n a1 i f1)))] := hD
              refine lv_aload_n hx hb dX5_isText_89 rfl (lv_at hl 1 rfl) ?_
              refine va_get (D := (dC, dI)) (ci := 5) (v := .int (nI (pp_a co n a1))) (C := RX5) (T := TX5) (N := 16) hx hb hts hin5 hown hK hP 0 rfl rfl 8 (by decide) (hts (.fieldLink RX5 124 "TurnDigitsModel" "at" "I") (by decide +kernel)) (fun _ h9 => h9) rfl dX5_isText_90 ?_
              refine lv_aload_n hx hb dX5_isText_93 rfl (lv_at hl 1 rfl) ?_
              refine va_get (D := (dC, dI)) (ci := 5) (v := .int (nI n)) (C := RX5) (T := TX5) (N := 16) hx hb hts hin5 hown hK hP 0 rfl rfl 6 (by decide) (hts (.fieldLink RX5 121 "TurnDigitsModel" "typed" "I") (by decide +kernel)) (fun _ h9 => h9) rfl dX5_isText_94 ?_
              refine lv_icmp_ne (tgt := 104) hx hb dX5_isText_97 (by decide) (fun q97 => ?_) (fun q97 => ?_)
              · refine lv_iconst (v := 0) hx hb dX5_isText_104 (by decide) ?_
                have hP9 : va_P (dC, dI) vwCl [((mm 0), .inr (5, [.ref (mm 1), .ref (mm 2), .ref (mm 3), .ref (mm 4), .int kp, .ref (mm 5), .int (nI n), .int th, .int (nI (pp_a co n a1)), .int 1, .ref (mm 6), .int (nI (i + 1)), .ref (mm 7), .ref (mm 8), .ref (mm 9), .int fr])), ((mm 5), .inl (cI, 60, .inl co)), ((mm 6), .inl (cI, 12, .inl (pp_t co n a1 i f1)))] H := hP
                have hD9 : va_D A [((mm 0), .inr (5, [.ref (mm 1), .ref (mm 2), .ref (mm 3), .ref (mm 4), .int kp, .ref (mm 5), .int (nI n), .int th, .int (nI (pp_a co n a1)), .int 1, .ref (mm 6), .int (nI (i + 1)), .ref (mm 7), .ref (mm 8), .ref (mm 9), .int fr])), ((mm 5), .inl (cI, 60, .inl co)), ((mm 6), .inl (cI, 12, .inl (pp_t co n a1 i f1)))] := hD
                exact W.zret (v := 0) hx hb hr rfl (fun t ht hW => ⟨⟨0, ((nI (pp_a co n a1)), 1, nI (i + 1), (pp_t co n a1 i f1)), rfl, ⟨(by rw [← (by rw [← h_r, e6]; symm; show (if (pp_r co n a1) = 0 then _ else if i + 1 < 6 ∧ (pp_a co n a1) < n then _ else (if (pp_a co n a1) = n then 1 else 0)) = (if (pp_a co n a1) = n then 1 else 0); rw [if_neg hr9, if_neg hz9] : (if (pp_a co n a1) = n then 1 else 0) = tp_r co n 6 0 0), if_neg (fun h => q97 (by rw [h]))]), (by rw [← (by rw [← h_a, e6]; symm; show (if (pp_r co n a1) = 0 then _ else if i + 1 < 6 ∧ (pp_a co n a1) < n then _ else (pp_a co n a1)) = (pp_a co n a1); rw [if_neg hr9, if_neg hz9] : (pp_a co n a1) = tp_a co n 6 0 0)]), (by rw [← (by rw [← h_a, e6]; symm; show (if (pp_r co n a1) = 0 then _ else if i + 1 < 6 ∧ (pp_a co n a1) < n then _ else (pp_a co n a1)) = (pp_a co n a1); rw [if_neg hr9, if_neg hz9] : (pp_a co n a1) = tp_a co n 6 0 0), if_pos (Int32.not_le.mp q78)]), (by rw [← (by rw [← h_j, e6]; symm; show (if (pp_r co n a1) = 0 then _ else if i + 1 < 6 ∧ (pp_a co n a1) < n then _ else (i + 1)) = (i + 1); rw [if_neg hr9, if_neg hz9] : (i + 1) = tp_j co n 6 0 0)]), (by rw [← h_t, e6]; symm; show (if (pp_r co n a1) = 0 then _ else if i + 1 < 6 ∧ (pp_a co n a1) < n then _ else (pp_t co n a1 i f1)) = (pp_t co n a1 i f1); rw [if_neg hr9, if_neg hz9])⟩, by rw [ht]; exact hP9, hD9⟩, hS.F ht⟩) hS.2.2 dX5_isText_105
              · refine lv_iconst (v := 1) hx hb dX5_isText_100 (by decide) ?_
                refine lv_goto (tgt := 105) hx hb dX5_isText_101 (by decide) ?_
                have hP9 : va_P (dC, dI) vwCl [((mm 0), .inr (5, [.ref (mm 1), .ref (mm 2), .ref (mm 3), .ref (mm 4), .int kp, .ref (mm 5), .int (nI n), .int th, .int (nI (pp_a co n a1)), .int 1, .ref (mm 6), .int (nI (i + 1)), .ref (mm 7), .ref (mm 8), .ref (mm 9), .int fr])), ((mm 5), .inl (cI, 60, .inl co)), ((mm 6), .inl (cI, 12, .inl (pp_t co n a1 i f1)))] H := hP
                have hD9 : va_D A [((mm 0), .inr (5, [.ref (mm 1), .ref (mm 2), .ref (mm 3), .ref (mm 4), .int kp, .ref (mm 5), .int (nI n), .int th, .int (nI (pp_a co n a1)), .int 1, .ref (mm 6), .int (nI (i + 1)), .ref (mm 7), .ref (mm 8), .ref (mm 9), .int fr])), ((mm 5), .inl (cI, 60, .inl co)), ((mm 6), .inl (cI, 12, .inl (pp_t co n a1 i f1)))] := hD
                exact W.zret (v := 1) hx hb hr rfl (fun t ht hW => ⟨⟨1, ((nI (pp_a co n a1)), 1, nI (i + 1), (pp_t co n a1 i f1)), rfl, ⟨(by rw [← (by rw [← h_r, e6]; symm; show (if (pp_r co n a1) = 0 then _ else if i + 1 < 6 ∧ (pp_a co n a1) < n then _ else (if (pp_a co n a1) = n then 1 else 0)) = (if (pp_a co n a1) = n then 1 else 0); rw [if_neg hr9, if_neg hz9] : (if (pp_a co n a1) = n then 1 else 0) = tp_r co n 6 0 0), if_pos (by have := (nI_eq (a := (pp_a co n a1)) (b := n) (by have := pp_a_in (co := co) ha1; omega) (by omega)).mp q97; exact this)]), (by rw [← (by rw [← h_a, e6]; symm; show (if (pp_r co n a1) = 0 then _ else if i + 1 < 6 ∧ (pp_a co n a1) < n then _ else (pp_a co n a1)) = (pp_a co n a1); rw [if_neg hr9, if_neg hz9] : (pp_a co n a1) = tp_a co n 6 0 0)]), (by rw [← (by rw [← h_a, e6]; symm; show (if (pp_r co n a1) = 0 then _ else if i + 1 < 6 ∧ (pp_a co n a1) < n then _ else (pp_a co n a1)) = (pp_a co n a1); rw [if_neg hr9, if_neg hz9] : (pp_a co n a1) = tp_a co n 6 0 0), if_pos (Int32.not_le.mp q78)]), (by rw [← (by rw [← h_j, e6]; symm; show (if (pp_r co n a1) = 0 then _ else if i + 1 < 6 ∧ (pp_a co n a1) < n then _ else (i + 1)) = (i + 1); rw [if_neg hr9, if_neg hz9] : (i + 1) = tp_j co n 6 0 0)]), (by rw [← h_t, e6]; symm; show (if (pp_r co n a1) = 0 then _ else if i + 1 < 6 ∧ (pp_a co n a1) < n then _ else (pp_t co n a1 i f1)) = (pp_t co n a1 i f1); rw [if_neg hr9, if_neg hz9])⟩, by rw [ht]; exact hP9, hD9⟩, hS.F ht⟩) hS.2.2 dX5_isText_105
          · have hlt99 : (pp_a co n a1) < n := by have h := (not_congr (nI_leI (a := n) (b := (pp_a co n a1)) (by omega) (by have := pp_a_in (co := co) ha1; omega))).mp q57; omega
            refine lv_iconst (v := 1) hx hb dX5_isText_60 (by decide) ?_
            refine lv_goto (tgt := 65) hx hb dX5_isText_61 (by decide) ?_
            refine lv_istore_n (lv' := [(1, .int 1), (0, .ref (mm 0))]) hx hb dX5_isText_65 rfl hl (by decide) rfl (fun lz hl => ?_)
            refine lv_goto (tgt := 17) hx hb dX5_isText_66 (by decide) ?_
            refine lv_iload_n hx hb dX5_isText_17 rfl (lv_at hl 0 rfl) ?_
            refine lv_if_eq (tgt := 69) hx hb dX5_isText_18 (by decide) (fun q9 => absurd q9 (by decide)) (fun q9 => ?_)
            exact ih21 (i + 1) (by omega) (by omega) (pp_a co n a1) (pp_t co n a1 i f1) (if pp_r co n a1 = 0 then (if nI (pp_a co n a1) < nI n then 1 else 0) else fa1)    hj69 (pp_a_in ha1) (by rw [← h_r, e6]; show tp_r co n (6 - (i + 1)) (i + 1) (pp_a co n a1) = (if (pp_r co n a1) = 0 then _ else if i + 1 < 6 ∧ (pp_a co n a1) < n then _ else _); rw [if_neg hr9, if_pos ⟨hj69, hlt99⟩]) (by rw [← h_a, e6]; show tp_a co n (6 - (i + 1)) (i + 1) (pp_a co n a1) = (if (pp_r co n a1) = 0 then _ else if i + 1 < 6 ∧ (pp_a co n a1) < n then _ else _); rw [if_neg hr9, if_pos ⟨hj69, hlt99⟩]) (by rw [← h_j, e6]; show tp_j co n (6 - (i + 1)) (i + 1) (pp_a co n a1) = (if (pp_r co n a1) = 0 then _ else if i + 1 < 6 ∧ (pp_a co n a1) < n then _ else _); rw [if_neg hr9, if_pos ⟨hj69, hlt99⟩]) (by rw [← h_t, e6]; show tp_t co n (6 - (i + 1)) (i + 1) (pp_a co n a1) (pp_t co n a1 i f1) = (if (pp_r co n a1) = 0 then _ else if i + 1 < 6 ∧ (pp_a co n a1) < n then _ else _); rw [if_neg hr9, if_pos ⟨hj69, hlt99⟩]) H locs hP hD hS lz (lv_sub hl [1] rfl)
      · have e6 : 6 - i = (6 - (i + 1)) + 1 := by omega
        have hr9 : (pp_r co n a1) = 0 := q25
        refine lv_iconst (v := 0) hx hb dX5_isText_28 (by decide) ?_
        have hP9 : va_P (dC, dI) vwCl [((mm 0), .inr (5, [.ref (mm 1), .ref (mm 2), .ref (mm 3), .ref (mm 4), .int kp, .ref (mm 5), .int (nI n), .int th, .int (nI (pp_a co n a1)), .int (if pp_r co n a1 = 0 then (if nI (pp_a co n a1) < nI n then 1 else 0) else fa1), .ref (mm 6), .int (nI i), .ref (mm 7), .ref (mm 8), .ref (mm 9), .int fr])), ((mm 5), .inl (cI, 60, .inl co)), ((mm 6), .inl (cI, 12, .inl (pp_t co n a1 i f1)))] H := hP
        have hD9 : va_D A [((mm 0), .inr (5, [.ref (mm 1), .ref (mm 2), .ref (mm 3), .ref (mm 4), .int kp, .ref (mm 5), .int (nI n), .int th, .int (nI (pp_a co n a1)), .int (if pp_r co n a1 = 0 then (if nI (pp_a co n a1) < nI n then 1 else 0) else fa1), .ref (mm 6), .int (nI i), .ref (mm 7), .ref (mm 8), .ref (mm 9), .int fr])), ((mm 5), .inl (cI, 60, .inl co)), ((mm 6), .inl (cI, 12, .inl (pp_t co n a1 i f1)))] := hD
        exact W.zret (v := 0) hx hb hr rfl (fun t ht hW => ⟨⟨0, ((nI (pp_a co n a1)), (if pp_r co n a1 = 0 then (if nI (pp_a co n a1) < nI n then 1 else 0) else fa1), (nI i), (pp_t co n a1 i f1)), rfl, ⟨(by rw [← h_r, e6]; symm; show (if (pp_r co n a1) = 0 then 0 else _) = 0; rw [if_pos hr9] : 0 = tp_r co n 6 0 0), (by rw [← (by rw [← h_a, e6]; symm; show (if (pp_r co n a1) = 0 then (pp_a co n a1) else _) = (pp_a co n a1); rw [if_pos hr9] : (pp_a co n a1) = tp_a co n 6 0 0)]), (by rw [← (by rw [← h_a, e6]; symm; show (if (pp_r co n a1) = 0 then (pp_a co n a1) else _) = (pp_a co n a1); rw [if_pos hr9] : (pp_a co n a1) = tp_a co n 6 0 0), if_pos hr9]), (by rw [← (by rw [← h_j, e6]; symm; show (if (pp_r co n a1) = 0 then i else _) = i; rw [if_pos hr9] : i = tp_j co n 6 0 0)]), (by rw [← h_t, e6]; symm; show (if (pp_r co n a1) = 0 then (pp_t co n a1 i f1) else _) = (pp_t co n a1 i f1); rw [if_pos hr9])⟩, by rw [ht]; exact hP9, hD9⟩, hS.F ht⟩) hS.2.2 dX5_isText_29
  exact L21 (6 + 1) 0 (by omega) (by omega) 0 tl 0    (by decide) (Nat.zero_le n) rfl rfl rfl rfl H locs hP hD hS lz (lv_sub hl [1] rfl)

set_option maxHeartbeats 4000000 in
set_option maxRecDepth 100000 in
theorem c_X5_firstError (l : Launch) (dC : Nat → ClassId) (dI : Nat → Nat → Nat) (cI cS cJ : ClassId) (tt : Nat → Nat) (sz : Nat) (mm : Nat → Nat) (kp : Int32) (th : Int32) (at0 : Int32) (fa : Int32) (ts : Int32) (fr : Int32) (co : Nat → Int32) (tl : Nat → Int32) (n : Nat) : Met l yX5_firstError wsX5_firstError ({ frames := 4, cells := 0, slots := 0, locals := 87 } : Room) (va_Pc [.ref (mm 0)] (xm_M (dC, dI) cI cS cJ tt [((mm 0), .inr (5, [.ref (mm 1), .ref (mm 2), .ref (mm 3), .ref (mm 4), .int kp, .ref (mm 5), .int (nI n), .int th, .int at0, .int fa, .ref (mm 6), .int ts, .ref (mm 7), .ref (mm 8), .ref (mm 9), .int fr])), ((mm 5), .inl (cI, 60, .inl co)), ((mm 6), .inl (cI, 12, .inl tl))] sz (n ≤ 60))) (va_Qi (fun (r : Int32) (u : Int32 × Int32 × Int32 × Int32 × (Nat → Int32)) => r = nI (sc_to co n 0) ∧ u.1 = 0) (xm_B (dC, dI) (fun (u : Int32 × Int32 × Int32 × Int32 × (Nat → Int32)) => [((mm 0), .inr (5, [.ref (mm 1), .ref (mm 2), .ref (mm 3), .ref (mm 4), .int kp, .ref (mm 5), .int (nI n), .int u.1, .int u.2.1, .int u.2.2.1, .ref (mm 6), .int u.2.2.2.1, .ref (mm 7), .ref (mm 8), .ref (mm 9), .int fr])), ((mm 5), .inl (cI, 60, .inl co)), ((mm 6), .inl (cI, 12, .inl u.2.2.2.2))]) (va_A [((mm 0), .inr (5, [.ref (mm 1), .ref (mm 2), .ref (mm 3), .ref (mm 4), .int kp, .ref (mm 5), .int (nI n), .int th, .int at0, .int fa, .ref (mm 6), .int ts, .ref (mm 7), .ref (mm 8), .ref (mm 9), .int fr])), ((mm 5), .inl (cI, 60, .inl co)), ((mm 6), .inl (cI, 12, .inl tl))] sz)) (va_A [((mm 0), .inr (5, [.ref (mm 1), .ref (mm 2), .ref (mm 3), .ref (mm 4), .int kp, .ref (mm 5), .int (nI n), .int th, .int at0, .int fa, .ref (mm 6), .int ts, .ref (mm 7), .ref (mm 8), .ref (mm 9), .int fr])), ((mm 5), .inl (cI, 60, .inl co)), ((mm 6), .inl (cI, 12, .inl tl))] sz)) 0 0 (va_A [((mm 0), .inr (5, [.ref (mm 1), .ref (mm 2), .ref (mm 3), .ref (mm 4), .int kp, .ref (mm 5), .int (nI n), .int th, .int at0, .int fa, .ref (mm 6), .int ts, .ref (mm 7), .ref (mm 8), .ref (mm 9), .int fr])), ((mm 5), .inl (cI, 60, .inl co)), ((mm 6), .inl (cI, 12, .inl tl))] sz) := by
  refine Met.ofW (cc := cX5_firstError) (maxL := 2) (ret := (some .int)) (by decide) rfl ?_
  intro p e s m args below meth c s₁ B hml hv
  obtain ⟨rfl, hsz, hP, hE, hD0, hpre⟩ := hv
  have hx := B.exec
  have hb := B.bytes
  have hr := B.returns
  have hts := atoms_spec (ws := wsX5_firstError) B.pre
  have hown : s.vm.findClass RX5 = some m.cls := findClass_of_methodNamed B.named
  have hlocks := B.notSynchronized
  have hK := hE.1
  subst hsz
  have hD := hD0.self (sz := s.heap.size)
  generalize hAe : va_A [((mm 0), .inr (5, [.ref (mm 1), .ref (mm 2), .ref (mm 3), .ref (mm 4), .int kp, .ref (mm 5), .int (nI n), .int th, .int at0, .int fa, .ref (mm 6), .int ts, .ref (mm 7), .ref (mm 8), .ref (mm 9), .int fr])), ((mm 5), .inl (cI, 60, .inl co)), ((mm 6), .inl (cI, 12, .inl tl))] s.heap.size = A at hD hE ⊢
  have hA : ∀ q : Nat, s.heap.size ≤ q → A q := fun q h => by rw [← hAe]; exact Or.inr h
  have hS : va_S A s.heap s.heap [] := va_S.rf
  have hP : va_P (dC, dI) vwCl [((mm 0), .inr (5, [.ref (mm 1), .ref (mm 2), .ref (mm 3), .ref (mm 4), .int kp, .ref (mm 5), .int (nI n), .int th, .int at0, .int fa, .ref (mm 6), .int ts, .ref (mm 7), .ref (mm 8), .ref (mm 9), .int fr])), ((mm 5), .inl (cI, 60, .inl co)), ((mm 6), .inl (cI, 12, .inl tl))] s.heap := hP
  have hin5 : ∀ w ∈ u_ws RX5 TX5 16, w ∈ wsX5_firstError := by decide +kernel
  have hl := lv_entry [.ref (mm 0)] (n := 2) (Nat.le_of_ble_eq_true rfl)
  rw [lg_entry_eq]
  generalize (lg_sl [.ref (mm 0)] ++ List.replicate (2 - (lg_sl [.ref (mm 0)]).length) Slot.unset).toArray = lz at hl ⊢
  have hl : lv_has lz 2 [(0, .ref (mm 0))] := hl
  have hAl := tp_all hpre 6 0 0 tl rfl (by decide) (Nat.zero_le n) (Or.inr ⟨rfl, rfl⟩) (tp_0 co n tl).1 (tp_0 co n tl).2
  refine lv_aload_n hx hb dX5_firstError_0 rfl (lv_at hl 0 rfl) ?_
  refine lv_iconst (v := 0) hx hb dX5_firstError_1 (by decide) ?_
  refine va_put (D := (dC, dI)) (ci := 5) (v := .int 0) (ty := .int) (C := RX5) (T := TX5) (N := 16) hx hb hts hin5 tyX5 tyX5_ok nmX5 hown hK hP hD hS 0 rfl rfl 7 (by decide) (hts (.fieldLink RX5 37 "TurnDigitsModel" "thrown" "I") (by decide +kernel)) (fun _ h9 => h9) rfl (by decide +kernel) rfl rfl (Nat.le_of_ble_eq_true rfl) dX5_firstError_2 (fun H locs hP hD hS => ?_)
  have hP : va_P (dC, dI) vwCl [((mm 0), .inr (5, [.ref (mm 1), .ref (mm 2), .ref (mm 3), .ref (mm 4), .int kp, .ref (mm 5), .int (nI n), .int 0, .int at0, .int fa, .ref (mm 6), .int ts, .ref (mm 7), .ref (mm 8), .ref (mm 9), .int fr])), ((mm 5), .inl (cI, 60, .inl co)), ((mm 6), .inl (cI, 12, .inl tl))] H := hP
  have hD : va_D A [((mm 0), .inr (5, [.ref (mm 1), .ref (mm 2), .ref (mm 3), .ref (mm 4), .int kp, .ref (mm 5), .int (nI n), .int 0, .int at0, .int fa, .ref (mm 6), .int ts, .ref (mm 7), .ref (mm 8), .ref (mm 9), .int fr])), ((mm 5), .inl (cI, 60, .inl co)), ((mm 6), .inl (cI, 12, .inl tl))] := hD
  refine lv_aload_n hx hb dX5_firstError_5 rfl (lv_at hl 0 rfl) ?_
  have hPc := hP.sub (ws' := [((mm 0), .inr (5, [.ref (mm 1), .ref (mm 2), .ref (mm 3), .ref (mm 4), .int kp, .ref (mm 5), .int (nI n), .int 0, .int at0, .int fa, .ref (mm 6), .int ts, .ref (mm 7), .ref (mm 8), .ref (mm 9), .int fr])), ((mm 5), .inl (cI, 60, .inl co)), ((mm 6), .inl (cI, 12, .inl tl))]) [0, 1, 2] rfl
  have hDc := hD.sub (ws' := [((mm 0), .inr (5, [.ref (mm 1), .ref (mm 2), .ref (mm 3), .ref (mm 4), .int kp, .ref (mm 5), .int (nI n), .int 0, .int at0, .int fa, .ref (mm 6), .int ts, .ref (mm 7), .ref (mm 8), .ref (mm 9), .int fr])), ((mm 5), .inl (cI, 60, .inl co)), ((mm 6), .inl (cI, 12, .inl tl))]) [0, 1, 2] (by decide) rfl
  have hFc := va_free (wc := [((mm 0), .inr (5, [.ref (mm 1), .ref (mm 2), .ref (mm 3), .ref (mm 4), .int kp, .ref (mm 5), .int (nI n), .int 0, .int at0, .int fa, .ref (mm 6), .int ts, .ref (mm 7), .ref (mm 8), .ref (mm 9), .int fr])), ((mm 5), .inl (cI, 60, .inl co)), ((mm 6), .inl (cI, 12, .inl tl))]) hD hS hA [0, 1, 2] rfl
  refine va_calli (va_runV (As := []) (rest := []) ⟨hx, hb, hml, hown, hts⟩ (c_X5_isText l dC dI cI cS cJ tt H.size mm kp 0 at0 fa ts fr co tl n) (cwV 0 hts gX5_firstError_X5_isText rfl rfl rfl (by decide +kernel) ⟨Nat.le_of_ble_eq_true rfl, Nat.le_of_ble_eq_true rfl⟩) ⟨xm_Mblind, va_recv hK hPc (ci := 5) (q0 := 0) rfl rfl, fun U hU hW => ⟨rfl, by rw [hU], by rw [hU]; exact hPc, hE.go hS hFc hU hW, hDc.weaken (fun _ _ _ _ => trivial), hpre⟩⟩ rfl rfl hl.1 rfl (lv_room (Nat.le_of_ble_eq_true rfl)) dX5_firstError_6 ⟨Nat.zero_le _, Nat.zero_le _⟩) hS (fun q _ h => hFc q h) hFc (fun r u t H1 locs ht hvm hw hB hz1 hk1 hS => ?_)
  obtain ⟨u_1, u_2, u_3, u_4⟩ := u
  obtain ⟨hP1, hD1⟩ := hB
  rw [ht] at hP1
  obtain ⟨hw_5, hw_6, hw_7, hw_8, hw_9⟩ := hw
  have hw_5 : r = tp_r co n 6 0 0 := hw_5
  subst hw_5
  have hw_6 : u_1 = nI (tp_a co n 6 0 0) := hw_6
  subst hw_6
  have hw_7 : u_2 = (if nI (tp_a co n 6 0 0) < nI n then 1 else 0) := hw_7
  subst hw_7
  have hw_8 : u_3 = nI (tp_j co n 6 0 0) := hw_8
  subst hw_8
  have hw_9 : u_4 = tp_t co n 6 0 0 tl := hw_9
  subst hw_9
  obtain ⟨hP, hD⟩ := va_join (wr := []) (w1 := [((mm 0), .inr (5, [.ref (mm 1), .ref (mm 2), .ref (mm 3), .ref (mm 4), .int kp, .ref (mm 5), .int (nI n), .int 0, .int (nI (tp_a co n 6 0 0)), .int (if nI (tp_a co n 6 0 0) < nI n then 1 else 0), .ref (mm 6), .int (nI (tp_j co n 6 0 0)), .ref (mm 7), .ref (mm 8), .ref (mm 9), .int fr])), ((mm 5), .inl (cI, 60, .inl co)), ((mm 6), .inl (cI, 12, .inl (tp_t co n 6 0 0 tl)))]) hP hD [0, 1, 2] [] rfl rfl (by decide) (by decide) hk1 hFc hP1 hD1
  generalize H1 = H at hP hS ⊢
  have hP : va_P (dC, dI) vwCl [((mm 0), .inr (5, [.ref (mm 1), .ref (mm 2), .ref (mm 3), .ref (mm 4), .int kp, .ref (mm 5), .int (nI n), .int 0, .int (nI (tp_a co n 6 0 0)), .int (if nI (tp_a co n 6 0 0) < nI n then 1 else 0), .ref (mm 6), .int (nI (tp_j co n 6 0 0)), .ref (mm 7), .ref (mm 8), .ref (mm 9), .int fr])), ((mm 5), .inl (cI, 60, .inl co)), ((mm 6), .inl (cI, 12, .inl (tp_t co n 6 0 0 tl)))] H := hP
  have hD : va_D A [((mm 0), .inr (5, [.ref (mm 1), .ref (mm 2), .ref (mm 3), .ref (mm 4), .int kp, .ref (mm 5), .int (nI n), .int 0, .int (nI (tp_a co n 6 0 0)), .int (if nI (tp_a co n 6 0 0) < nI n then 1 else 0), .ref (mm 6), .int (nI (tp_j co n 6 0 0)), .ref (mm 7), .ref (mm 8), .ref (mm 9), .int fr])), ((mm 5), .inl (cI, 60, .inl co)), ((mm 6), .inl (cI, 12, .inl (tp_t co n 6 0 0 tl)))] := hD
  refine lv_istore_n (lv' := [(1, .int (tp_r co n 6 0 0)), (0, .ref (mm 0))]) hx hb dX5_firstError_9 rfl hl (by decide) rfl (fun lz hl => ?_)
  refine lv_iload_n hx hb dX5_firstError_10 rfl (lv_at hl 0 rfl) ?_
  refine lv_if_ne (tgt := 28) hx hb dX5_firstError_11 (by decide) (fun q11 => ?_) (fun q11 => ?_)
  · refine lv_aload_n hx hb dX5_firstError_28 rfl (lv_at hl 1 rfl) ?_
    refine va_get (D := (dC, dI)) (ci := 5) (v := .int (nI n)) (C := RX5) (T := TX5) (N := 16) hx hb hts hin5 hown hK hP 0 rfl rfl 6 (by decide) (hts (.fieldLink RX5 121 "TurnDigitsModel" "typed" "I") (by decide +kernel)) (fun _ h9 => h9) rfl dX5_firstError_29 ?_
    have hP9 : va_P (dC, dI) vwCl [((mm 0), .inr (5, [.ref (mm 1), .ref (mm 2), .ref (mm 3), .ref (mm 4), .int kp, .ref (mm 5), .int (nI n), .int 0, .int (nI (tp_a co n 6 0 0)), .int (if nI (tp_a co n 6 0 0) < nI n then 1 else 0), .ref (mm 6), .int (nI (tp_j co n 6 0 0)), .ref (mm 7), .ref (mm 8), .ref (mm 9), .int fr])), ((mm 5), .inl (cI, 60, .inl co)), ((mm 6), .inl (cI, 12, .inl (tp_t co n 6 0 0 tl)))] H := hP
    have hD9 : va_D A [((mm 0), .inr (5, [.ref (mm 1), .ref (mm 2), .ref (mm 3), .ref (mm 4), .int kp, .ref (mm 5), .int (nI n), .int 0, .int (nI (tp_a co n 6 0 0)), .int (if nI (tp_a co n 6 0 0) < nI n then 1 else 0), .ref (mm 6), .int (nI (tp_j co n 6 0 0)), .ref (mm 7), .ref (mm 8), .ref (mm 9), .int fr])), ((mm 5), .inl (cI, 60, .inl co)), ((mm 6), .inl (cI, 12, .inl (tp_t co n 6 0 0 tl)))] := hD
    exact W.iret (v := (nI n)) hx hb hr (fun t ht hW => ⟨⟨(nI n), (0, (nI (tp_a co n 6 0 0)), (if nI (tp_a co n 6 0 0) < nI n then 1 else 0), (nI (tp_j co n 6 0 0)), (tp_t co n 6 0 0 tl)), rfl, ⟨(by rw [hAl.1, (hAl.2.2.2 (by by_cases h : xc_re co n = 0; exact h; exact absurd (hAl.2.2.1.trans (if_neg h)) q11)).1]), rfl⟩, by rw [ht]; exact hP9, hD9⟩, hS.F ht⟩) hS.2.2 dX5_firstError_32
  · refine lv_aload_n hx hb dX5_firstError_14 rfl (lv_at hl 1 rfl) ?_
    refine va_get (D := (dC, dI)) (ci := 5) (v := .int (if nI (tp_a co n 6 0 0) < nI n then 1 else 0)) (C := RX5) (T := TX5) (N := 16) hx hb hts hin5 hown hK hP 0 rfl rfl 9 (by decide) (hts (.fieldLink RX5 127 "TurnDigitsModel" "isFault" "Z") (by decide +kernel)) (fun _ h9 => h9) rfl dX5_firstError_15 ?_
    refine lv_if_eq (tgt := 28) hx hb dX5_firstError_18 (by decide) (fun q18 => ?_) (fun q18 => ?_)
    · have q18b : ¬ nI (tp_a co n 6 0 0) < nI n := xm_bF q18
      refine lv_aload_n hx hb dX5_firstError_28 rfl (lv_at hl 1 rfl) ?_
      refine va_get (D := (dC, dI)) (ci := 5) (v := .int (nI n)) (C := RX5) (T := TX5) (N := 16) hx hb hts hin5 hown hK hP 0 rfl rfl 6 (by decide) (hts (.fieldLink RX5 121 "TurnDigitsModel" "typed" "I") (by decide +kernel)) (fun _ h9 => h9) rfl dX5_firstError_29 ?_
      have hP9 : va_P (dC, dI) vwCl [((mm 0), .inr (5, [.ref (mm 1), .ref (mm 2), .ref (mm 3), .ref (mm 4), .int kp, .ref (mm 5), .int (nI n), .int 0, .int (nI (tp_a co n 6 0 0)), .int (if nI (tp_a co n 6 0 0) < nI n then 1 else 0), .ref (mm 6), .int (nI (tp_j co n 6 0 0)), .ref (mm 7), .ref (mm 8), .ref (mm 9), .int fr])), ((mm 5), .inl (cI, 60, .inl co)), ((mm 6), .inl (cI, 12, .inl (tp_t co n 6 0 0 tl)))] H := hP
      have hD9 : va_D A [((mm 0), .inr (5, [.ref (mm 1), .ref (mm 2), .ref (mm 3), .ref (mm 4), .int kp, .ref (mm 5), .int (nI n), .int 0, .int (nI (tp_a co n 6 0 0)), .int (if nI (tp_a co n 6 0 0) < nI n then 1 else 0), .ref (mm 6), .int (nI (tp_j co n 6 0 0)), .ref (mm 7), .ref (mm 8), .ref (mm 9), .int fr])), ((mm 5), .inl (cI, 60, .inl co)), ((mm 6), .inl (cI, 12, .inl (tp_t co n 6 0 0 tl)))] := hD
      exact W.iret (v := (nI n)) hx hb hr (fun t ht hW => ⟨⟨(nI n), (0, (nI (tp_a co n 6 0 0)), (if nI (tp_a co n 6 0 0) < nI n then 1 else 0), (nI (tp_j co n 6 0 0)), (tp_t co n 6 0 0 tl)), rfl, ⟨(by rw [hAl.1]; congr 1; have h1 := hAl.2.1; have h2 := (not_congr (nI_ltI (a := tp_a co n 6 0 0) (b := n) (by omega) (by omega))).mp q18b; omega), rfl⟩, by rw [ht]; exact hP9, hD9⟩, hS.F ht⟩) hS.2.2 dX5_firstError_32
    · have q18b : nI (tp_a co n 6 0 0) < nI n := xm_bT q18
      refine lv_aload_n hx hb dX5_firstError_21 rfl (lv_at hl 1 rfl) ?_
      refine va_get (D := (dC, dI)) (ci := 5) (v := .int (nI (tp_a co n 6 0 0))) (C := RX5) (T := TX5) (N := 16) hx hb hts hin5 hown hK hP 0 rfl rfl 8 (by decide) (hts (.fieldLink RX5 124 "TurnDigitsModel" "at" "I") (by decide +kernel)) (fun _ h9 => h9) rfl dX5_firstError_22 ?_
      refine lv_goto (tgt := 32) hx hb dX5_firstError_25 (by decide) ?_
      have hP9 : va_P (dC, dI) vwCl [((mm 0), .inr (5, [.ref (mm 1), .ref (mm 2), .ref (mm 3), .ref (mm 4), .int kp, .ref (mm 5), .int (nI n), .int 0, .int (nI (tp_a co n 6 0 0)), .int (if nI (tp_a co n 6 0 0) < nI n then 1 else 0), .ref (mm 6), .int (nI (tp_j co n 6 0 0)), .ref (mm 7), .ref (mm 8), .ref (mm 9), .int fr])), ((mm 5), .inl (cI, 60, .inl co)), ((mm 6), .inl (cI, 12, .inl (tp_t co n 6 0 0 tl)))] H := hP
      have hD9 : va_D A [((mm 0), .inr (5, [.ref (mm 1), .ref (mm 2), .ref (mm 3), .ref (mm 4), .int kp, .ref (mm 5), .int (nI n), .int 0, .int (nI (tp_a co n 6 0 0)), .int (if nI (tp_a co n 6 0 0) < nI n then 1 else 0), .ref (mm 6), .int (nI (tp_j co n 6 0 0)), .ref (mm 7), .ref (mm 8), .ref (mm 9), .int fr])), ((mm 5), .inl (cI, 60, .inl co)), ((mm 6), .inl (cI, 12, .inl (tp_t co n 6 0 0 tl)))] := hD
      exact W.iret (v := (nI (tp_a co n 6 0 0))) hx hb hr (fun t ht hW => ⟨⟨(nI (tp_a co n 6 0 0)), (0, (nI (tp_a co n 6 0 0)), (if nI (tp_a co n 6 0 0) < nI n then 1 else 0), (nI (tp_j co n 6 0 0)), (tp_t co n 6 0 0 tl)), rfl, ⟨(by rw [hAl.1]), rfl⟩, by rw [ht]; exact hP9, hD9⟩, hS.F ht⟩) hS.2.2 dX5_firstError_32

