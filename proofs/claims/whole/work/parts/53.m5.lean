/-! Doubles that are themselves. -/
theorem fp_c0 {x : UInt64} (h : FP.Core.dIsNaN x = false) : Op.cmpValue (FP.dcmp x x) .l = 0 := by
  have e : FP.dcmp x x = some .eq := FP.Core.dcmp_refl h
  rw [e]
  rfl
theorem fp_ok_n {x : UInt64} (h : fp_ok x) : FP.Core.dIsNaN x = false := by
  rcases h with h | h
  · rw [fp_zero h]
    decide +kernel
  · have hE := fp_E_in h
    exact (fp_nn (fp_eq x) (by omega) (by omega) (fp_T_lt x)).notNaN
def xa_9 (q0 q1 q2 q3 q4 q5 q6 q7 q8 q9 : Nat) : Nat → Nat := fun k => ([q0, q1, q2, q3, q4, q5, q6, q7, q8, q9] : List Nat).getD k 0

set_option maxHeartbeats 4000000 in
set_option maxRecDepth 100000 in
theorem c_Jxe99ae_isNaN_b9ae7 (l : Launch) (dC : Nat → ClassId) (dI : Nat → Nat → Nat) (cI cS cJ : ClassId) (tt : Nat → Nat) (x : UInt64) : Met l yJxe99ae_isNaN_b9ae7 wsJxe99ae_isNaN_b9ae7 ({ frames := 0, cells := 0, slots := 0, locals := 0 } : Room) (va_Pc [.double x] (xm_R (dC, dI) cI cS cJ tt [] (FP.Core.dIsNaN x = false))) (k2_QcV (.int 0)) 0 0 (fun _ => False) := by
  refine Met.ofW (cc := cJxe99ae_isNaN_b9ae7) (maxL := 2) (ret := (some .boolean)) (by decide) rfl ?_
  intro p e s m args below meth c s₁ B hml hv
  obtain ⟨rfl, hP, hE, hpre⟩ := hv
  have hx := B.exec
  have hb := B.bytes
  have hr := B.returns
  have hts := atoms_spec (ws := wsJxe99ae_isNaN_b9ae7) B.pre
  have hown : s.vm.findClass RJxe99ae = some m.cls := findClass_of_methodNamed B.named
  have hlocks := B.notSynchronized
  have hK := hE.1
  have hS : va_S (fun _ => False) s.heap s.heap [] := va_S.rf
  have hP : va_P (dC, dI) vwCl [] s.heap := hP
  have hl := lv_entry [.double x] (n := 2) (Nat.le_of_ble_eq_true rfl)
  rw [lg_entry_eq]
  generalize (lg_sl [.double x] ++ List.replicate (2 - (lg_sl [.double x]).length) Slot.unset).toArray = lz at hl ⊢
  have hl : lv_has lz 2 [(0, .double x)] := hl
  refine lv_dload_n hx hb dJxe99ae_isNaN_b9ae7_0 rfl (lv_at hl 0 rfl) ?_
  refine lv_dload_n hx hb dJxe99ae_isNaN_b9ae7_1 rfl (lv_at hl 0 rfl) ?_
  refine lv_dcmp hx hb dJxe99ae_isNaN_b9ae7_2 ?_
  refine lv_if_eq (tgt := 10) hx hb dJxe99ae_isNaN_b9ae7_3 (by decide) (fun q3 => ?_) (fun q3 => absurd (fp_c0 hpre) q3)
  refine lv_iconst (v := 0) hx hb dJxe99ae_isNaN_b9ae7_10 (by decide) ?_
  exact W.zret (v := 0) hx hb hr rfl (fun t ht hW => ⟨congrArg (fun z => Outcome.returned (some (Value.int z))) rfl, ht⟩) hS.2.2 dJxe99ae_isNaN_b9ae7_11

set_option maxHeartbeats 4000000 in
set_option maxRecDepth 100000 in
theorem c_Jxe99ae_doubleToLongBits_ccdee (l : Launch) (dC : Nat → ClassId) (dI : Nat → Nat → Nat) (cI cS cJ : ClassId) (tt : Nat → Nat) (x : UInt64) : Met l yJxe99ae_doubleToLongBits_ccdee wsJxe99ae_doubleToLongBits_ccdee ({ frames := 1, cells := 0, slots := 0, locals := 32 } : Room) (va_Pc [.double x] (xm_R (dC, dI) cI cS cJ tt [] (FP.Core.dIsNaN x = false))) (k2_QcV (.long x.toInt64)) 0 0 (fun _ => False) := by
  refine Met.ofW (cc := cJxe99ae_doubleToLongBits_ccdee) (maxL := 2) (ret := (some .long)) (by decide) rfl ?_
  intro p e s m args below meth c s₁ B hml hv
  obtain ⟨rfl, hP, hE, hpre⟩ := hv
  have hx := B.exec
  have hb := B.bytes
  have hr := B.returns
  have hts := atoms_spec (ws := wsJxe99ae_doubleToLongBits_ccdee) B.pre
  have hown : s.vm.findClass RJxe99ae = some m.cls := findClass_of_methodNamed B.named
  have hlocks := B.notSynchronized
  have hK := hE.1
  have hS : va_S (fun _ => False) s.heap s.heap [] := va_S.rf
  have hP : va_P (dC, dI) vwCl [] s.heap := hP
  have hl := lv_entry [.double x] (n := 2) (Nat.le_of_ble_eq_true rfl)
  rw [lg_entry_eq]
  generalize (lg_sl [.double x] ++ List.replicate (2 - (lg_sl [.double x]).length) Slot.unset).toArray = lz at hl ⊢
  have hl : lv_has lz 2 [(0, .double x)] := hl
  refine lv_dload_n hx hb dJxe99ae_doubleToLongBits_ccdee_0 rfl (lv_at hl 0 rfl) ?_
  have hPc := hP.sub (ws' := []) [] rfl
  refine W.callV ((va_runS (As := [.double x]) (rest := []) ⟨hx, hb, hml, hown, hts⟩ (c_Jxe99ae_isNaN_b9ae7 l dC dI cI cS cJ tt x) (va_cwS 1 hts gJxe99ae_doubleToLongBits_ccdee_Jxe99ae_isNaN_b9ae7 rfl rfl rfl (by decide +kernel) ⟨Nat.le_of_ble_eq_true rfl, Nat.le_of_ble_eq_true rfl⟩) ⟨xm_Rblind, fun U hU hW => ⟨rfl, by rw [hU]; exact hPc, hE.go hS (fun _ q => q.elim) hU hW, hpre⟩⟩ rfl rfl hl.1 rfl (lv_room (Nat.le_of_ble_eq_true rfl)) dJxe99ae_doubleToLongBits_ccdee_1 ⟨Nat.zero_le _, Nat.zero_le _⟩).run) ?_
  refine W.eq (g2 := F0 m 4 lz (.int 0 :: [])) rfl ?_
  refine lv_if_ne (tgt := 12) hx hb dJxe99ae_doubleToLongBits_ccdee_4 (by decide) (fun q9 => absurd (by decide) q9) (fun q9 => ?_)
  refine lv_dload_n hx hb dJxe99ae_doubleToLongBits_ccdee_7 rfl (lv_at hl 0 rfl) ?_
  refine vn_d2l hx hb (hml.trans hl.1.symm) hown (hts (.methodLink RJxe99ae 134 ⟨"java/lang/Double", "doubleToRawLongBits", "(D)J"⟩) (by decide +kernel)) (hts (.native ⟨"java/lang/Double", "doubleToRawLongBits", "(D)J"⟩) (by decide +kernel)) (hts (.static ⟨"java/lang/Double", "doubleToRawLongBits", "(D)J"⟩) (by decide +kernel)) (hts (.initialized "java/lang/Double") (by decide +kernel)) (Nat.le_of_ble_eq_true rfl) (Nat.le_of_ble_eq_true rfl) dJxe99ae_doubleToLongBits_ccdee_8 ?_
  exact W.lret (v := x.toInt64) hx hb hr (fun t ht hW => ⟨congrArg (fun z => Outcome.returned (some (Value.long z))) rfl, ht⟩) hS.2.2 dJxe99ae_doubleToLongBits_ccdee_11

set_option maxHeartbeats 4000000 in
set_option maxRecDepth 100000 in
theorem c_X5_sizeOf (l : Launch) (dC : Nat → ClassId) (dI : Nat → Nat → Nat) (cI cS cJ : ClassId) (tt : Nat → Nat) (x0 : Int32) : Met l yX5_sizeOf wsX5_sizeOf ({ frames := 0, cells := 0, slots := 0, locals := 0 } : Room) (va_Pc [.int x0] (xm_R (dC, dI) cI cS cJ tt [] (True))) (k2_QcV (.int (nI (nl_0 x0 + sz_h x0)))) 0 0 (fun _ => False) := by
  refine Met.ofW (cc := cX5_sizeOf) (maxL := 3) (ret := (some .int)) (by decide) rfl ?_
  intro p e s m args below meth c s₁ B hml hv
  obtain ⟨rfl, hP, hE, hpre⟩ := hv
  have hx := B.exec
  have hb := B.bytes
  have hr := B.returns
  have hts := atoms_spec (ws := wsX5_sizeOf) B.pre
  have hown : s.vm.findClass RX5 = some m.cls := findClass_of_methodNamed B.named
  have hlocks := B.notSynchronized
  have hK := hE.1
  have hS : va_S (fun _ => False) s.heap s.heap [] := va_S.rf
  have hP : va_P (dC, dI) vwCl [] s.heap := hP
  have hl := lv_entry [.int x0] (n := 3) (Nat.le_of_ble_eq_true rfl)
  rw [lg_entry_eq]
  generalize (lg_sl [.int x0] ++ List.replicate (3 - (lg_sl [.int x0]).length) Slot.unset).toArray = lz at hl ⊢
  have hl : lv_has lz 3 [(0, .int x0)] := hl
  have J9 : ∀ (l0 : Nat), (l0 = nl_0 x0) → ∀ (lz : Array Slot), lv_has lz 3 [(0, .int x0)] → W p l e (headSpec wsX5_sizeOf ({ frames := 0, cells := 0, slots := 0, locals := 0 } : Room)).room s m ([.int x0] : List Value).toArray below meth c s.heap [] 0 0 (MQ below (k2_QcV (.int (nI (nl_0 x0 + sz_h x0)))) ([.int x0] : List Value).toArray s 0 0 (fun _ => False)) (F0 m 9 lz [.int (nI l0)]) := by
    intro l0 el0 lz hl
    subst el0
    refine lv_istore_n (lv' := [(1, .int (nI (nl_0 x0))), (0, .int x0)]) hx hb dX5_sizeOf_9 rfl hl (by decide) rfl (fun lz hl => ?_)
    refine lv_iload_n hx hb dX5_sizeOf_10 rfl (lv_at hl 1 rfl) ?_
    refine lv_bipush (v := 10) hx hb dX5_sizeOf_11 (by decide) ?_
    refine lv_idiv hx hb dX5_sizeOf_13 (by decide) ?_
    refine lv_istore_n (lv' := [(2, .int (x0 / 10)), (1, .int (nI (nl_0 x0))), (0, .int x0)]) hx hb dX5_sizeOf_14 rfl hl (by decide) rfl (fun lz hl => ?_)
    have L15 : ∀ (zz i : Nat), i ≤ 10 → 10 + 1 ≤ i + zz → ∀ (x2 : Int32), x2 = ld x0 (i + 1) → (sz_to x0 (10 - i) i = sz_h x0) → ∀ (lz : Array Slot), lv_has lz 3 [(1, .int (nI (nl_0 x0 + i))), (2, .int x2)] → W p l e (headSpec wsX5_sizeOf ({ frames := 0, cells := 0, slots := 0, locals := 0 } : Room)).room s m ([.int x0] : List Value).toArray below meth c s.heap [] 0 0 (MQ below (k2_QcV (.int (nI (nl_0 x0 + sz_h x0)))) ([.int x0] : List Value).toArray s 0 0 (fun _ => False)) (F0 m 15 lz []) := by
      intro zz
      induction zz with
      | zero => intro i hii hni; exact absurd hni (by omega)
      | succ zz ih15 =>
        intro i hii hni x2 e_x2 hst lz hl
        subst e_x2
        refine lv_iload_n hx hb dX5_sizeOf_15 rfl (lv_at hl 1 rfl) ?_
        refine lv_if_eq (tgt := 30) hx hb dX5_sizeOf_16 (by decide) (fun q16 => ?_) (fun q16 => ?_)
        · have hend : sz_h x0 = i := by rcases Nat.lt_or_ge i 10 with h | h; (rw [← hst, sz_to_s h, if_pos q16]); (rw [← hst, show 10 - i = 0 by omega]; rfl)
          refine lv_iload_n hx hb dX5_sizeOf_30 rfl (lv_at hl 0 rfl) ?_
          exact W.iret (v := nI (nl_0 x0 + i)) hx hb hr (fun t ht hW => ⟨congrArg (fun z => Outcome.returned (some (Value.int z))) (by rw [hend]), ht⟩) hS.2.2 dX5_sizeOf_31
        · have hlti : i < 10 := by rcases Nat.lt_or_ge i 9 with h | h; omega; exact absurd (sz_9 h) q16
          refine lv_iinc (v := nI ((nl_0 x0 + i) + 1)) (lv' := [(1, .int (nI ((nl_0 x0 + i) + 1))), (2, .int (ld x0 (i + 1)))]) hx hb dX5_sizeOf_19 hl (k := 0) rfl (nI_1 (nl_0 x0 + i)) (by decide) rfl (fun lz hl => ?_)
          refine lv_iload_n hx hb dX5_sizeOf_22 rfl (lv_at hl 1 rfl) ?_
          refine lv_bipush (v := 10) hx hb dX5_sizeOf_23 (by decide) ?_
          refine lv_idiv hx hb dX5_sizeOf_25 (by decide) ?_
          refine lv_istore_n (lv' := [(2, .int ((ld x0 (i + 1)) / 10)), (1, .int (nI ((nl_0 x0 + i) + 1)))]) hx hb dX5_sizeOf_26 rfl hl (by decide) rfl (fun lz hl => ?_)
          refine lv_goto (tgt := 15) hx hb dX5_sizeOf_27 (by decide) ?_
          exact ih15 (i + 1) hlti (by omega) ((ld x0 (i + 1)) / 10) rfl (by rw [← hst, sz_to_s hlti, if_neg q16]) lz (lv_sub hl [1, 0] rfl)
    exact L15 (10 + 1) 0 (by omega) (by omega) (x0 / 10) rfl rfl lz (lv_sub hl [1, 0] rfl)
  refine lv_iload_n hx hb dX5_sizeOf_0 rfl (lv_at hl 0 rfl) ?_
  refine lv_if_ge (tgt := 8) hx hb dX5_sizeOf_1 (by decide) (fun q1 => ?_) (fun q1 => ?_)
  · refine lv_iconst (v := 1) hx hb dX5_sizeOf_8 (by decide) ?_
    exact J9 1 (by simp only [nl_0, if_pos q1]) lz (lv_sub hl [0] rfl)
  · refine lv_iconst (v := 2) hx hb dX5_sizeOf_4 (by decide) ?_
    refine lv_goto (tgt := 9) hx hb dX5_sizeOf_5 (by decide) ?_
    exact J9 2 (by simp only [nl_0, if_neg q1]) lz (lv_sub hl [0] rfl)

set_option maxHeartbeats 4000000 in
set_option maxRecDepth 100000 in
theorem c_X5_burn (l : Launch) (dC : Nat → ClassId) (dI : Nat → Nat → Nat) (cI cS cJ : ClassId) (tt : Nat → Nat) (sz : Nat) (mm : Nat → Nat) (ty : Int32) (th : Int32) (at0 : Int32) (fa : Int32) (ts : Int32) (fr : Int32) (p0 : Int32) (p1 : Int32) (p2 : Int32) (z : Nat) (v : Nat → Int32) (pv : Nat → Int32) : Met l yX5_burn wsX5_burn ({ frames := 2, cells := 0, slots := 0, locals := 42 } : Room) (va_Pc [.ref (mm 0), .int p0, .int p1, .int p2] (xm_M (dC, dI) cI cS cJ tt [((mm 0), .inr (5, [.ref (mm 1), .ref (mm 2), .ref (mm 3), .ref (mm 4), .int (nI z), .ref (mm 5), .int ty, .int th, .int at0, .int fa, .ref (mm 6), .int ts, .ref (mm 7), .ref (mm 8), .ref (mm 9), .int fr])), ((mm 2), .inl (cI, 80, .inl v)), ((mm 4), .inl (cI, 480, .inl pv))] sz (z ≤ 6 ∧ vo_b v))) (va_Qi (fun (r : Int32) (u : Int32 × Int32 × (Nat → Int32) × (Nat → Int32)) => r = (if xc_bu p0 p1 = 0 then (if v (20 + p0.toNatClampNeg) &&& ((1 : Int32) <<< (p1 &&& 31)) = 0 then 0 else 1) else 0) ∧ u.1 = xc_bu p0 p1 ∧ u.2.1 = (if xc_bu p0 p1 = 0 then (nI (if z = 6 then 6 else z + 1)) else (nI z)) ∧ u.2.2.1 = (if xc_bu p0 p1 = 0 then (xv_bu v p0.toNatClampNeg p1.toNatClampNeg ((1 : Int32) <<< (p1 &&& 31)) p2) else v) ∧ u.2.2.2 = (if xc_bu p0 p1 = 0 then (mp_sv pv z v) else pv)) (xm_B (dC, dI) (fun (u : Int32 × Int32 × (Nat → Int32) × (Nat → Int32)) => [((mm 0), .inr (5, [.ref (mm 1), .ref (mm 2), .ref (mm 3), .ref (mm 4), .int u.2.1, .ref (mm 5), .int ty, .int u.1, .int at0, .int fa, .ref (mm 6), .int ts, .ref (mm 7), .ref (mm 8), .ref (mm 9), .int fr])), ((mm 2), .inl (cI, 80, .inl u.2.2.1)), ((mm 4), .inl (cI, 480, .inl u.2.2.2))]) (va_A [((mm 0), .inr (5, [.ref (mm 1), .ref (mm 2), .ref (mm 3), .ref (mm 4), .int (nI z), .ref (mm 5), .int ty, .int th, .int at0, .int fa, .ref (mm 6), .int ts, .ref (mm 7), .ref (mm 8), .ref (mm 9), .int fr])), ((mm 2), .inl (cI, 80, .inl v)), ((mm 4), .inl (cI, 480, .inl pv))] sz)) (va_A [((mm 0), .inr (5, [.ref (mm 1), .ref (mm 2), .ref (mm 3), .ref (mm 4), .int (nI z), .ref (mm 5), .int ty, .int th, .int at0, .int fa, .ref (mm 6), .int ts, .ref (mm 7), .ref (mm 8), .ref (mm 9), .int fr])), ((mm 2), .inl (cI, 80, .inl v)), ((mm 4), .inl (cI, 480, .inl pv))] sz)) 0 0 (va_A [((mm 0), .inr (5, [.ref (mm 1), .ref (mm 2), .ref (mm 3), .ref (mm 4), .int (nI z), .ref (mm 5), .int ty, .int th, .int at0, .int fa, .ref (mm 6), .int ts, .ref (mm 7), .ref (mm 8), .ref (mm 9), .int fr])), ((mm 2), .inl (cI, 80, .inl v)), ((mm 4), .inl (cI, 480, .inl pv))] sz) := by
  refine Met.ofW (cc := cX5_burn) (maxL := 6) (ret := (some .int)) (by decide) rfl ?_
  intro p e s m args below meth c s₁ B hml hv
  obtain ⟨rfl, hsz, hP, hE, hD0, hpre⟩ := hv
  have hx := B.exec
  have hb := B.bytes
  have hr := B.returns
  have hts := atoms_spec (ws := wsX5_burn) B.pre
  have hown : s.vm.findClass RX5 = some m.cls := findClass_of_methodNamed B.named
  have hlocks := B.notSynchronized
  have hK := hE.1
  subst hsz
  have hD := hD0.self (sz := s.heap.size)
  generalize hAe : va_A [((mm 0), .inr (5, [.ref (mm 1), .ref (mm 2), .ref (mm 3), .ref (mm 4), .int (nI z), .ref (mm 5), .int ty, .int th, .int at0, .int fa, .ref (mm 6), .int ts, .ref (mm 7), .ref (mm 8), .ref (mm 9), .int fr])), ((mm 2), .inl (cI, 80, .inl v)), ((mm 4), .inl (cI, 480, .inl pv))] s.heap.size = A at hD hE ⊢
  have hA : ∀ q : Nat, s.heap.size ≤ q → A q := fun q h => by rw [← hAe]; exact Or.inr h
  have hS : va_S A s.heap s.heap [] := va_S.rf
  have hP : va_P (dC, dI) vwCl [((mm 0), .inr (5, [.ref (mm 1), .ref (mm 2), .ref (mm 3), .ref (mm 4), .int (nI z), .ref (mm 5), .int ty, .int th, .int at0, .int fa, .ref (mm 6), .int ts, .ref (mm 7), .ref (mm 8), .ref (mm 9), .int fr])), ((mm 2), .inl (cI, 80, .inl v)), ((mm 4), .inl (cI, 480, .inl pv))] s.heap := hP
  have hin5 : ∀ w ∈ u_ws RX5 TX5 16, w ∈ wsX5_burn := by decide +kernel
  have hl := lv_entry [.ref (mm 0), .int p0, .int p1, .int p2] (n := 6) (Nat.le_of_ble_eq_true rfl)
  rw [lg_entry_eq]
  generalize (lg_sl [.ref (mm 0), .int p0, .int p1, .int p2] ++ List.replicate (6 - (lg_sl [.ref (mm 0), .int p0, .int p1, .int p2]).length) Slot.unset).toArray = lz at hl ⊢
  have hl : lv_has lz 6 [(0, .ref (mm 0)), (1, .int p0), (2, .int p1), (3, .int p2)] := hl
  refine lv_aload_n hx hb dX5_burn_0 rfl (lv_at hl 0 rfl) ?_
  refine lv_iconst (v := 0) hx hb dX5_burn_1 (by decide) ?_
  refine va_put (D := (dC, dI)) (ci := 5) (v := .int 0) (ty := .int) (C := RX5) (T := TX5) (N := 16) hx hb hts hin5 tyX5 tyX5_ok nmX5 hown hK hP hD hS 0 rfl rfl 7 (by decide) (hts (.fieldLink RX5 37 "TurnDigitsModel" "thrown" "I") (by decide +kernel)) (fun _ h9 => h9) rfl (by decide +kernel) rfl rfl (Nat.le_of_ble_eq_true rfl) dX5_burn_2 (fun H locs hP hD hS => ?_)
  have hP : va_P (dC, dI) vwCl [((mm 0), .inr (5, [.ref (mm 1), .ref (mm 2), .ref (mm 3), .ref (mm 4), .int (nI z), .ref (mm 5), .int ty, .int 0, .int at0, .int fa, .ref (mm 6), .int ts, .ref (mm 7), .ref (mm 8), .ref (mm 9), .int fr])), ((mm 2), .inl (cI, 80, .inl v)), ((mm 4), .inl (cI, 480, .inl pv))] H := hP
  have hD : va_D A [((mm 0), .inr (5, [.ref (mm 1), .ref (mm 2), .ref (mm 3), .ref (mm 4), .int (nI z), .ref (mm 5), .int ty, .int 0, .int at0, .int fa, .ref (mm 6), .int ts, .ref (mm 7), .ref (mm 8), .ref (mm 9), .int fr])), ((mm 2), .inl (cI, 80, .inl v)), ((mm 4), .inl (cI, 480, .inl pv))] := hD
  refine lv_iload_n hx hb dX5_burn_5 rfl (lv_at hl 1 rfl) ?_
  have hPc := hP.sub (ws' := []) [] rfl
  refine W.callV ((va_runS (As := [.int p0]) (rest := []) ⟨hx, hb, hml, hown, hts⟩ (c_X5_isDigit l dC dI cI cS cJ tt p0) (va_cwS 1 hts gX5_burn_X5_isDigit rfl rfl rfl (by decide +kernel) ⟨Nat.le_of_ble_eq_true rfl, Nat.le_of_ble_eq_true rfl⟩) ⟨xm_Rblind, fun U hU hW => ⟨rfl, by rw [hU]; exact hPc, hE.go hS (fun _ q => q.elim) hU hW, trivial⟩⟩ rfl rfl hl.1 rfl (lv_room (Nat.le_of_ble_eq_true rfl)) dX5_burn_6 ⟨Nat.zero_le _, Nat.zero_le _⟩).run) ?_
  refine W.eq (g2 := F0 m 9 lz (.int (if xt_dg 6 p0 = 0 then 1 else 0) :: [])) rfl ?_
  refine lv_if_eq (tgt := 19) hx hb dX5_burn_9 (by decide) (fun q9 => ?_) (fun q9 => ?_)
  · have q9b : ¬ xt_dg 6 p0 = 0 := xm_bF q9
    refine lv_aload_n hx hb dX5_burn_19 rfl (lv_at hl 0 rfl) ?_
    refine lv_iconst (v := 1) hx hb dX5_burn_20 (by decide) ?_
    have hPc := hP.sub (ws' := [((mm 0), .inr (5, [.ref (mm 1), .ref (mm 2), .ref (mm 3), .ref (mm 4), .int (nI z), .ref (mm 5), .int ty, .int 0, .int at0, .int fa, .ref (mm 6), .int ts, .ref (mm 7), .ref (mm 8), .ref (mm 9), .int fr]))]) [0] rfl
    have hDc := hD.sub (ws' := [((mm 0), .inr (5, [.ref (mm 1), .ref (mm 2), .ref (mm 3), .ref (mm 4), .int (nI z), .ref (mm 5), .int ty, .int 0, .int at0, .int fa, .ref (mm 6), .int ts, .ref (mm 7), .ref (mm 8), .ref (mm 9), .int fr]))]) [0] (by decide) rfl
    have hFc := va_free (wc := [((mm 0), .inr (5, [.ref (mm 1), .ref (mm 2), .ref (mm 3), .ref (mm 4), .int (nI z), .ref (mm 5), .int ty, .int 0, .int at0, .int fa, .ref (mm 6), .int ts, .ref (mm 7), .ref (mm 8), .ref (mm 9), .int fr]))]) hD hS hA [0] rfl
    refine va_calli (va_runV (As := [.int 1]) (rest := []) ⟨hx, hb, hml, hown, hts⟩ (c_X5_fails l dC dI cI cS cJ tt H.size mm (nI z) ty 0 at0 fa ts fr 1) (cwV 1 hts gX5_burn_X5_fails rfl rfl rfl (by decide +kernel) ⟨Nat.le_of_ble_eq_true rfl, Nat.le_of_ble_eq_true rfl⟩) ⟨xm_Mblind, va_recv hK hPc (ci := 5) (q0 := 0) rfl rfl, fun U hU hW => ⟨rfl, by rw [hU], by rw [hU]; exact hPc, hE.go hS hFc hU hW, hDc.weaken (fun _ _ _ _ => trivial), trivial⟩⟩ rfl rfl hl.1 rfl (lv_room (Nat.le_of_ble_eq_true rfl)) dX5_burn_21 ⟨Nat.zero_le _, Nat.zero_le _⟩) hS (fun q _ h => hFc q h) hFc (fun r u t H1 locs ht hvm hw hB hz1 hk1 hS => ?_)
    obtain ⟨u_1, rfl⟩ : ∃ z, z = u := ⟨_, rfl⟩
    obtain ⟨hP1, hD1⟩ := hB
    rw [ht] at hP1
    obtain ⟨hw_2, hw_3⟩ := hw
    have hw_2 : r = 0 := hw_2
    subst hw_2
    have hw_3 : u_1 = 1 := hw_3
    subst hw_3
    obtain ⟨hP, hD⟩ := va_join (wr := [((mm 2), .inl (cI, 80, .inl v)), ((mm 4), .inl (cI, 480, .inl pv))]) (w1 := [((mm 0), .inr (5, [.ref (mm 1), .ref (mm 2), .ref (mm 3), .ref (mm 4), .int (nI z), .ref (mm 5), .int ty, .int 1, .int at0, .int fa, .ref (mm 6), .int ts, .ref (mm 7), .ref (mm 8), .ref (mm 9), .int fr]))]) hP hD [0] [1, 2] rfl rfl (by decide) (by decide) hk1 hFc hP1 hD1
    generalize H1 = H at hP hS ⊢
    have hP : va_P (dC, dI) vwCl [((mm 2), .inl (cI, 80, .inl v)), ((mm 4), .inl (cI, 480, .inl pv)), ((mm 0), .inr (5, [.ref (mm 1), .ref (mm 2), .ref (mm 3), .ref (mm 4), .int (nI z), .ref (mm 5), .int ty, .int 1, .int at0, .int fa, .ref (mm 6), .int ts, .ref (mm 7), .ref (mm 8), .ref (mm 9), .int fr]))] H := hP
    have hD : va_D A [((mm 2), .inl (cI, 80, .inl v)), ((mm 4), .inl (cI, 480, .inl pv)), ((mm 0), .inr (5, [.ref (mm 1), .ref (mm 2), .ref (mm 3), .ref (mm 4), .int (nI z), .ref (mm 5), .int ty, .int 1, .int at0, .int fa, .ref (mm 6), .int ts, .ref (mm 7), .ref (mm 8), .ref (mm 9), .int fr]))] := hD
    have hc9 : xc_bu p0 p1 = 1 := by simp only [xc_bu, if_neg q9b]
    have hn9 : ¬ xc_bu p0 p1 = 0 := by rw [hc9]; decide
    have hP9 := hP.sub (ws' := [((mm 0), .inr (5, [.ref (mm 1), .ref (mm 2), .ref (mm 3), .ref (mm 4), .int (nI z), .ref (mm 5), .int ty, .int 1, .int at0, .int fa, .ref (mm 6), .int ts, .ref (mm 7), .ref (mm 8), .ref (mm 9), .int fr])), ((mm 2), .inl (cI, 80, .inl v)), ((mm 4), .inl (cI, 480, .inl pv))]) [2, 0, 1] rfl
    have hD9 := hD.sub (ws' := [((mm 0), .inr (5, [.ref (mm 1), .ref (mm 2), .ref (mm 3), .ref (mm 4), .int (nI z), .ref (mm 5), .int ty, .int 1, .int at0, .int fa, .ref (mm 6), .int ts, .ref (mm 7), .ref (mm 8), .ref (mm 9), .int fr])), ((mm 2), .inl (cI, 80, .inl v)), ((mm 4), .inl (cI, 480, .inl pv))]) [2, 0, 1] (by decide) rfl
    exact W.iret (v := 0) hx hb hr (fun t ht hW => ⟨⟨0, (1, (nI z), v, pv), rfl, ⟨(if_neg hn9).symm, (hc9.symm), (if_neg hn9).symm, (if_neg hn9).symm, (if_neg hn9).symm⟩, by rw [ht]; exact hP9, hD9⟩, hS.F ht⟩) hS.2.2 dX5_burn_24
  · have q9b : xt_dg 6 p0 = 0 := xm_bT q9
    refine lv_iload_n hx hb dX5_burn_12 rfl (lv_at hl 2 rfl) ?_
    have hPc := hP.sub (ws' := []) [] rfl
    refine W.callV ((va_runS (As := [.int p1]) (rest := []) ⟨hx, hb, hml, hown, hts⟩ (c_X5_isSegment l dC dI cI cS cJ tt p1) (va_cwS 1 hts gX5_burn_X5_isSegment rfl rfl rfl (by decide +kernel) ⟨Nat.le_of_ble_eq_true rfl, Nat.le_of_ble_eq_true rfl⟩) ⟨xm_Rblind, fun U hU hW => ⟨rfl, by rw [hU]; exact hPc, hE.go hS (fun _ q => q.elim) hU hW, trivial⟩⟩ rfl rfl hl.1 rfl (lv_room (Nat.le_of_ble_eq_true rfl)) dX5_burn_13 ⟨Nat.zero_le _, Nat.zero_le _⟩).run) ?_
    refine W.eq (g2 := F0 m 16 lz (.int (if xt_dg 7 p1 = 0 then 1 else 0) :: [])) rfl ?_
    refine lv_if_ne (tgt := 25) hx hb dX5_burn_16 (by decide) (fun q16 => ?_) (fun q16 => ?_)
    · have q16b : xt_dg 7 p1 = 0 := xm_bT q16
      refine lv_aload_n hx hb dX5_burn_25 rfl (lv_at hl 0 rfl) ?_
      have hPc := hP.sub (ws' := [((mm 0), .inr (5, [.ref (mm 1), .ref (mm 2), .ref (mm 3), .ref (mm 4), .int (nI z), .ref (mm 5), .int ty, .int 0, .int at0, .int fa, .ref (mm 6), .int ts, .ref (mm 7), .ref (mm 8), .ref (mm 9), .int fr])), ((mm 2), .inl (cI, 80, .inl v)), ((mm 4), .inl (cI, 480, .inl pv))]) [0, 1, 2] rfl
      have hDc := hD.sub (ws' := [((mm 0), .inr (5, [.ref (mm 1), .ref (mm 2), .ref (mm 3), .ref (mm 4), .int (nI z), .ref (mm 5), .int ty, .int 0, .int at0, .int fa, .ref (mm 6), .int ts, .ref (mm 7), .ref (mm 8), .ref (mm 9), .int fr])), ((mm 2), .inl (cI, 80, .inl v)), ((mm 4), .inl (cI, 480, .inl pv))]) [0, 1, 2] (by decide) rfl
      have hFc := va_free (wc := [((mm 0), .inr (5, [.ref (mm 1), .ref (mm 2), .ref (mm 3), .ref (mm 4), .int (nI z), .ref (mm 5), .int ty, .int 0, .int at0, .int fa, .ref (mm 6), .int ts, .ref (mm 7), .ref (mm 8), .ref (mm 9), .int fr])), ((mm 2), .inl (cI, 80, .inl v)), ((mm 4), .inl (cI, 480, .inl pv))]) hD hS hA [0, 1, 2] rfl
      refine va_callv (va_runV (As := []) (rest := []) ⟨hx, hb, hml, hown, hts⟩ (c_X5_saves l dC dI cI cS cJ tt H.size mm ty 0 at0 fa ts fr z v pv) (cwV 0 hts gX5_burn_X5_saves rfl rfl rfl (by decide +kernel) ⟨Nat.le_of_ble_eq_true rfl, Nat.le_of_ble_eq_true rfl⟩) ⟨xm_Mblind, va_recv hK hPc (ci := 5) (q0 := 0) rfl rfl, fun U hU hW => ⟨rfl, by rw [hU], by rw [hU]; exact hPc, hE.go hS hFc hU hW, hDc.weaken (fun _ _ _ _ => trivial), hpre.1⟩⟩ rfl rfl hl.1 rfl (lv_room (Nat.le_of_ble_eq_true rfl)) dX5_burn_26 ⟨Nat.zero_le _, Nat.zero_le _⟩) hS (fun q _ h => hFc q h) hFc (fun u t H1 locs ht hvm hw hB hz1 hk1 hS => ?_)
      obtain ⟨u_4, u_5⟩ := u
      obtain ⟨hP1, hD1⟩ := hB
      rw [ht] at hP1
      obtain ⟨hw_6, hw_7⟩ := hw
      have hw_6 : u_4 = nI (if z = 6 then 6 else z + 1) := hw_6
      subst hw_6
      have hw_7 : u_5 = mp_sv pv z v := hw_7
      subst hw_7
      obtain ⟨hP, hD⟩ := va_join (wr := []) (w1 := [((mm 0), .inr (5, [.ref (mm 1), .ref (mm 2), .ref (mm 3), .ref (mm 4), .int (nI (if z = 6 then 6 else z + 1)), .ref (mm 5), .int ty, .int 0, .int at0, .int fa, .ref (mm 6), .int ts, .ref (mm 7), .ref (mm 8), .ref (mm 9), .int fr])), ((mm 2), .inl (cI, 80, .inl v)), ((mm 4), .inl (cI, 480, .inl (mp_sv pv z v)))]) hP hD [0, 1, 2] [] rfl rfl (by decide) (by decide) hk1 hFc hP1 hD1
      generalize H1 = H at hP hS ⊢
      have hP : va_P (dC, dI) vwCl [((mm 0), .inr (5, [.ref (mm 1), .ref (mm 2), .ref (mm 3), .ref (mm 4), .int (nI (if z = 6 then 6 else z + 1)), .ref (mm 5), .int ty, .int 0, .int at0, .int fa, .ref (mm 6), .int ts, .ref (mm 7), .ref (mm 8), .ref (mm 9), .int fr])), ((mm 2), .inl (cI, 80, .inl v)), ((mm 4), .inl (cI, 480, .inl (mp_sv pv z v)))] H := hP
      have hD : va_D A [((mm 0), .inr (5, [.ref (mm 1), .ref (mm 2), .ref (mm 3), .ref (mm 4), .int (nI (if z = 6 then 6 else z + 1)), .ref (mm 5), .int ty, .int 0, .int at0, .int fa, .ref (mm 6), .int ts, .ref (mm 7), .ref (mm 8), .ref (mm 9), .int fr])), ((mm 2), .inl (cI, 80, .inl v)), ((mm 4), .inl (cI, 480, .inl (mp_sv pv z v)))] := hD
      refine lv_iconst (v := 1) hx hb dX5_burn_29 (by decide) ?_
      refine lv_iload_n hx hb dX5_burn_30 rfl (lv_at hl 2 rfl) ?_
      refine lv_ishl hx hb dX5_burn_31 ?_
      refine xm_topi (y := ((1 : Int32) <<< (p1 &&& 31))) rfl ?_
      refine lv_istore (lv' := [(4, .int ((1 : Int32) <<< (p1 &&& 31))), (0, .ref (mm 0)), (1, .int p0), (2, .int p1), (3, .int p2)]) hx hb dX5_burn_32 hl (by decide) rfl (fun lz hl => ?_)
      refine lv_aload_n hx hb dX5_burn_34 rfl (lv_at hl 1 rfl) ?_
      refine va_get (D := (dC, dI)) (ci := 5) (v := .ref (mm 2)) (C := RX5) (T := TX5) (N := 16) hx hb hts hin5 hown hK hP 0 rfl rfl 1 (by decide) (hts (.fieldLink RX5 13 "TurnDigitsModel" "now" "[I") (by decide +kernel)) (fun _ h9 => h9) rfl dX5_burn_35 ?_
      refine lv_bipush (v := 20) hx hb dX5_burn_38 (by decide) ?_
      refine lv_iload_n hx hb dX5_burn_40 rfl (lv_at hl 2 rfl) ?_
      refine xm_topi (y := (nI p0.toNatClampNeg)) (xt_dg_ok (n := 6) (by decide) q9b).1 ?_
      refine lv_iadd hx hb dX5_burn_41 ?_
      refine xm_topi (y := nI (20 + p0.toNatClampNeg)) (nI_add 20 p0.toNatClampNeg) ?_
      refine xm_iald (D := (dC, dI)) hx hb hK hP 1 0 (20 + p0.toNatClampNeg) (v := v (20 + p0.toNatClampNeg)) rfl rfl (by decide) rfl (by have := (xt_dg_ok (n := 6) (by decide) q9b).2; have := (xt_dg_ok (n := 7) (by decide) q16b).2; omega) rfl dX5_burn_42 ?_
      refine lv_iload_n hx hb dX5_burn_43 rfl (lv_at hl 3 rfl) ?_
      refine lv_ishr hx hb dX5_burn_44 ?_
      refine lv_iconst (v := 1) hx hb dX5_burn_45 (by decide) ?_
      refine lv_iand hx hb dX5_burn_46 ?_
      refine lv_istore (lv' := [(5, .int (((v (20 + p0.toNatClampNeg)) >>> (p1 &&& 31)) &&& 1)), (4, .int ((1 : Int32) <<< (p1 &&& 31))), (0, .ref (mm 0)), (1, .int p0), (2, .int p1), (3, .int p2)]) hx hb dX5_burn_47 hl (by decide) rfl (fun lz hl => ?_)
      refine lv_aload_n hx hb dX5_burn_49 rfl (lv_at hl 2 rfl) ?_
      refine va_get (D := (dC, dI)) (ci := 5) (v := .ref (mm 2)) (C := RX5) (T := TX5) (N := 16) hx hb hts hin5 hown hK hP 0 rfl rfl 1 (by decide) (hts (.fieldLink RX5 13 "TurnDigitsModel" "now" "[I") (by decide +kernel)) (fun _ h9 => h9) rfl dX5_burn_50 ?_
      refine lv_bipush (v := 20) hx hb dX5_burn_53 (by decide) ?_
      refine lv_iload_n hx hb dX5_burn_55 rfl (lv_at hl 3 rfl) ?_
      refine xm_topi (y := (nI p0.toNatClampNeg)) (xt_dg_ok (n := 6) (by decide) q9b).1 ?_
      refine lv_iadd hx hb dX5_burn_56 ?_
      refine xm_topi (y := nI (20 + p0.toNatClampNeg)) (nI_add 20 p0.toNatClampNeg) ?_
      refine lv_iload_n hx hb dX5_burn_57 rfl (lv_at hl 5 rfl) ?_
      refine lv_if_eq (tgt := 76) hx hb dX5_burn_58 (by decide) (fun q58 => ?_) (fun q58 => ?_)
      · refine lv_aload_n hx hb dX5_burn_76 rfl (lv_at hl 2 rfl) ?_
        refine va_get (D := (dC, dI)) (ci := 5) (v := .ref (mm 2)) (C := RX5) (T := TX5) (N := 16) hx hb hts hin5 hown hK hP 0 rfl rfl 1 (by decide) (hts (.fieldLink RX5 13 "TurnDigitsModel" "now" "[I") (by decide +kernel)) (fun _ h9 => h9) rfl dX5_burn_77 ?_
        refine lv_bipush (v := 20) hx hb dX5_burn_80 (by decide) ?_
        refine lv_iload_n hx hb dX5_burn_82 rfl (lv_at hl 3 rfl) ?_
        refine xm_topi (y := (nI p0.toNatClampNeg)) (xt_dg_ok (n := 6) (by decide) q9b).1 ?_
        refine lv_iadd hx hb dX5_burn_83 ?_
        refine xm_topi (y := nI (20 + p0.toNatClampNeg)) (nI_add 20 p0.toNatClampNeg) ?_
        refine xm_iald (D := (dC, dI)) hx hb hK hP 1 0 (20 + p0.toNatClampNeg) (v := v (20 + p0.toNatClampNeg)) rfl rfl (by decide) rfl (by have := (xt_dg_ok (n := 6) (by decide) q9b).2; have := (xt_dg_ok (n := 7) (by decide) q16b).2; omega) rfl dX5_burn_84 ?_
        refine lv_iload hx hb dX5_burn_85 (lv_at hl 1 rfl) ?_
        refine lv_iconst (v := (-1)) hx hb dX5_burn_87 (by decide) ?_
        refine lv_ixor hx hb dX5_burn_88 ?_
        refine lv_iand hx hb dX5_burn_89 ?_
        refine xm_iast (D := (dC, dI)) hx hb hK hP hD hS 1 0 (20 + p0.toNatClampNeg) rfl rfl (by decide) rfl (by have := (xt_dg_ok (n := 6) (by decide) q9b).2; have := (xt_dg_ok (n := 7) (by decide) q16b).2; omega) dX5_burn_90 (fun H locs hP hD hS => ?_)
        have hP : va_P (dC, dI) vwCl [((mm 0), .inr (5, [.ref (mm 1), .ref (mm 2), .ref (mm 3), .ref (mm 4), .int (nI (if z = 6 then 6 else z + 1)), .ref (mm 5), .int ty, .int 0, .int at0, .int fa, .ref (mm 6), .int ts, .ref (mm 7), .ref (mm 8), .ref (mm 9), .int fr])), ((mm 2), .inl (cI, 80, .inl (upd v (20 + p0.toNatClampNeg) ((v (20 + p0.toNatClampNeg)) &&& (((1 : Int32) <<< (p1 &&& 31)) ^^^ (-1)))))), ((mm 4), .inl (cI, 480, .inl (mp_sv pv z v)))] H := hP
        have hD : va_D A [((mm 0), .inr (5, [.ref (mm 1), .ref (mm 2), .ref (mm 3), .ref (mm 4), .int (nI (if z = 6 then 6 else z + 1)), .ref (mm 5), .int ty, .int 0, .int at0, .int fa, .ref (mm 6), .int ts, .ref (mm 7), .ref (mm 8), .ref (mm 9), .int fr])), ((mm 2), .inl (cI, 80, .inl (upd v (20 + p0.toNatClampNeg) ((v (20 + p0.toNatClampNeg)) &&& (((1 : Int32) <<< (p1 &&& 31)) ^^^ (-1)))))), ((mm 4), .inl (cI, 480, .inl (mp_sv pv z v)))] := hD
        refine lv_iload_n hx hb dX5_burn_91 rfl (lv_at hl 5 rfl) ?_
        refine lv_if_ne (tgt := 110) hx hb dX5_burn_92 (by decide) (fun q92 => absurd q58 q92) (fun q92 => ?_)
        refine lv_aload_n hx hb dX5_burn_95 rfl (lv_at hl 2 rfl) ?_
        refine va_get (D := (dC, dI)) (ci := 5) (v := .ref (mm 2)) (C := RX5) (T := TX5) (N := 16) hx hb hts hin5 hown hK hP 0 rfl rfl 1 (by decide) (hts (.fieldLink RX5 13 "TurnDigitsModel" "now" "[I") (by decide +kernel)) (fun _ h9 => h9) rfl dX5_burn_96 ?_
        refine lv_bipush (v := 38) hx hb dX5_burn_99 (by decide) ?_
        refine lv_bipush (v := 7) hx hb dX5_burn_101 (by decide) ?_
        refine lv_iload_n hx hb dX5_burn_103 rfl (lv_at hl 3 rfl) ?_
        refine xm_topi (y := (nI p0.toNatClampNeg)) (xt_dg_ok (n := 6) (by decide) q9b).1 ?_
        refine lv_imul hx hb dX5_burn_104 ?_
        refine xm_topi (y := nI (7 * p0.toNatClampNeg)) (pk_mul 7 p0.toNatClampNeg) ?_
        refine lv_iadd hx hb dX5_burn_105 ?_
        refine xm_topi (y := nI (38 + (7 * p0.toNatClampNeg))) (nI_add 38 (7 * p0.toNatClampNeg)) ?_
        refine lv_iload_n hx hb dX5_burn_106 rfl (lv_at hl 4 rfl) ?_
        refine xm_topi (y := (nI p1.toNatClampNeg)) (xt_dg_ok (n := 7) (by decide) q16b).1 ?_
        refine lv_iadd hx hb dX5_burn_107 ?_
        refine xm_topi (y := nI (38 + (7 * p0.toNatClampNeg) + p1.toNatClampNeg)) (nI_add (38 + (7 * p0.toNatClampNeg)) p1.toNatClampNeg) ?_
        refine lv_iconst (v := 0) hx hb dX5_burn_108 (by decide) ?_
        refine xm_iast (D := (dC, dI)) hx hb hK hP hD hS 1 0 (38 + 7 * p0.toNatClampNeg + p1.toNatClampNeg) rfl rfl (by decide) rfl (by have := (xt_dg_ok (n := 6) (by decide) q9b).2; have := (xt_dg_ok (n := 7) (by decide) q16b).2; omega) dX5_burn_109 (fun H locs hP hD hS => ?_)
        have hP : va_P (dC, dI) vwCl [((mm 0), .inr (5, [.ref (mm 1), .ref (mm 2), .ref (mm 3), .ref (mm 4), .int (nI (if z = 6 then 6 else z + 1)), .ref (mm 5), .int ty, .int 0, .int at0, .int fa, .ref (mm 6), .int ts, .ref (mm 7), .ref (mm 8), .ref (mm 9), .int fr])), ((mm 2), .inl (cI, 80, .inl (upd (upd v (20 + p0.toNatClampNeg) ((v (20 + p0.toNatClampNeg)) &&& (((1 : Int32) <<< (p1 &&& 31)) ^^^ (-1)))) (38 + 7 * p0.toNatClampNeg + p1.toNatClampNeg) 0))), ((mm 4), .inl (cI, 480, .inl (mp_sv pv z v)))] H := hP
        have hD : va_D A [((mm 0), .inr (5, [.ref (mm 1), .ref (mm 2), .ref (mm 3), .ref (mm 4), .int (nI (if z = 6 then 6 else z + 1)), .ref (mm 5), .int ty, .int 0, .int at0, .int fa, .ref (mm 6), .int ts, .ref (mm 7), .ref (mm 8), .ref (mm 9), .int fr])), ((mm 2), .inl (cI, 80, .inl (upd (upd v (20 + p0.toNatClampNeg) ((v (20 + p0.toNatClampNeg)) &&& (((1 : Int32) <<< (p1 &&& 31)) ^^^ (-1)))) (38 + 7 * p0.toNatClampNeg + p1.toNatClampNeg) 0))), ((mm 4), .inl (cI, 480, .inl (mp_sv pv z v)))] := hD
        refine lv_iload hx hb dX5_burn_110 (lv_at hl 0 rfl) ?_
        have hc9 : xc_bu p0 p1 = 0 := by simp only [xc_bu, if_pos q9b, if_pos q16b, if_pos q58, if_pos q92]
        have hP9 : va_P (dC, dI) vwCl [((mm 0), .inr (5, [.ref (mm 1), .ref (mm 2), .ref (mm 3), .ref (mm 4), .int (nI (if z = 6 then 6 else z + 1)), .ref (mm 5), .int ty, .int 0, .int at0, .int fa, .ref (mm 6), .int ts, .ref (mm 7), .ref (mm 8), .ref (mm 9), .int fr])), ((mm 2), .inl (cI, 80, .inl (upd (upd v (20 + p0.toNatClampNeg) ((v (20 + p0.toNatClampNeg)) &&& (((1 : Int32) <<< (p1 &&& 31)) ^^^ (-1)))) (38 + 7 * p0.toNatClampNeg + p1.toNatClampNeg) 0))), ((mm 4), .inl (cI, 480, .inl (mp_sv pv z v)))] H := hP
        have hD9 : va_D A [((mm 0), .inr (5, [.ref (mm 1), .ref (mm 2), .ref (mm 3), .ref (mm 4), .int (nI (if z = 6 then 6 else z + 1)), .ref (mm 5), .int ty, .int 0, .int at0, .int fa, .ref (mm 6), .int ts, .ref (mm 7), .ref (mm 8), .ref (mm 9), .int fr])), ((mm 2), .inl (cI, 80, .inl (upd (upd v (20 + p0.toNatClampNeg) ((v (20 + p0.toNatClampNeg)) &&& (((1 : Int32) <<< (p1 &&& 31)) ^^^ (-1)))) (38 + 7 * p0.toNatClampNeg + p1.toNatClampNeg) 0))), ((mm 4), .inl (cI, 480, .inl (mp_sv pv z v)))] := hD
        exact W.iret (v := ((v (20 + p0.toNatClampNeg)) >>> (p1 &&& 31)) &&& 1) hx hb hr (fun t ht hW => ⟨⟨((v (20 + p0.toNatClampNeg)) >>> (p1 &&& 31)) &&& 1, (0, (nI (if z = 6 then 6 else z + 1)), upd (upd v (20 + p0.toNatClampNeg) ((v (20 + p0.toNatClampNeg)) &&& (((1 : Int32) <<< (p1 &&& 31)) ^^^ (-1)))) (38 + 7 * p0.toNatClampNeg + p1.toNatClampNeg) 0, (mp_sv pv z v)), rfl, ⟨(by rw [if_pos hc9]; exact mb_bit (hpre.2 _ (xt_dg_ok (n := 6) (by decide) q9b).2) (xt_dg_ok (n := 7) (by decide) q16b).1 (xt_dg_ok (n := 7) (by decide) q16b).2), (hc9.symm), (if_pos hc9).symm, (by rw [if_pos hc9]; unfold xv_bu; rw [if_pos q58, show 38 + 7 * p0.toNatClampNeg + p1.toNatClampNeg = 38 + (p0.toNatClampNeg * 7 + p1.toNatClampNeg) by omega]), (if_pos hc9).symm⟩, by rw [ht]; exact hP9, hD9⟩, hS.F ht⟩) hS.2.2 dX5_burn_112
      · refine lv_aload_n hx hb dX5_burn_61 rfl (lv_at hl 2 rfl) ?_
        refine va_get (D := (dC, dI)) (ci := 5) (v := .ref (mm 2)) (C := RX5) (T := TX5) (N := 16) hx hb hts hin5 hown hK hP 0 rfl rfl 1 (by decide) (hts (.fieldLink RX5 13 "TurnDigitsModel" "now" "[I") (by decide +kernel)) (fun _ h9 => h9) rfl dX5_burn_62 ?_
        refine lv_bipush (v := 20) hx hb dX5_burn_65 (by decide) ?_
        refine lv_iload_n hx hb dX5_burn_67 rfl (lv_at hl 3 rfl) ?_
        refine xm_topi (y := (nI p0.toNatClampNeg)) (xt_dg_ok (n := 6) (by decide) q9b).1 ?_
        refine lv_iadd hx hb dX5_burn_68 ?_
        refine xm_topi (y := nI (20 + p0.toNatClampNeg)) (nI_add 20 p0.toNatClampNeg) ?_
        refine xm_iald (D := (dC, dI)) hx hb hK hP 1 0 (20 + p0.toNatClampNeg) (v := v (20 + p0.toNatClampNeg)) rfl rfl (by decide) rfl (by have := (xt_dg_ok (n := 6) (by decide) q9b).2; have := (xt_dg_ok (n := 7) (by decide) q16b).2; omega) rfl dX5_burn_69 ?_
        refine lv_iload hx hb dX5_burn_70 (lv_at hl 1 rfl) ?_
        refine lv_ior hx hb dX5_burn_72 ?_
        refine lv_goto (tgt := 90) hx hb dX5_burn_73 (by decide) ?_
        refine xm_iast (D := (dC, dI)) hx hb hK hP hD hS 1 0 (20 + p0.toNatClampNeg) rfl rfl (by decide) rfl (by have := (xt_dg_ok (n := 6) (by decide) q9b).2; have := (xt_dg_ok (n := 7) (by decide) q16b).2; omega) dX5_burn_90 (fun H locs hP hD hS => ?_)
        have hP : va_P (dC, dI) vwCl [((mm 0), .inr (5, [.ref (mm 1), .ref (mm 2), .ref (mm 3), .ref (mm 4), .int (nI (if z = 6 then 6 else z + 1)), .ref (mm 5), .int ty, .int 0, .int at0, .int fa, .ref (mm 6), .int ts, .ref (mm 7), .ref (mm 8), .ref (mm 9), .int fr])), ((mm 2), .inl (cI, 80, .inl (upd v (20 + p0.toNatClampNeg) ((v (20 + p0.toNatClampNeg)) ||| ((1 : Int32) <<< (p1 &&& 31)))))), ((mm 4), .inl (cI, 480, .inl (mp_sv pv z v)))] H := hP
        have hD : va_D A [((mm 0), .inr (5, [.ref (mm 1), .ref (mm 2), .ref (mm 3), .ref (mm 4), .int (nI (if z = 6 then 6 else z + 1)), .ref (mm 5), .int ty, .int 0, .int at0, .int fa, .ref (mm 6), .int ts, .ref (mm 7), .ref (mm 8), .ref (mm 9), .int fr])), ((mm 2), .inl (cI, 80, .inl (upd v (20 + p0.toNatClampNeg) ((v (20 + p0.toNatClampNeg)) ||| ((1 : Int32) <<< (p1 &&& 31)))))), ((mm 4), .inl (cI, 480, .inl (mp_sv pv z v)))] := hD
        refine lv_iload_n hx hb dX5_burn_91 rfl (lv_at hl 5 rfl) ?_
        refine lv_if_ne (tgt := 110) hx hb dX5_burn_92 (by decide) (fun q92 => ?_) (fun q92 => absurd q92 q58)
        refine lv_iload hx hb dX5_burn_110 (lv_at hl 0 rfl) ?_
        have hc9 : xc_bu p0 p1 = 0 := by simp only [xc_bu, if_pos q9b, if_pos q16b, if_neg q58, if_neg q92]
        have hP9 : va_P (dC, dI) vwCl [((mm 0), .inr (5, [.ref (mm 1), .ref (mm 2), .ref (mm 3), .ref (mm 4), .int (nI (if z = 6 then 6 else z + 1)), .ref (mm 5), .int ty, .int 0, .int at0, .int fa, .ref (mm 6), .int ts, .ref (mm 7), .ref (mm 8), .ref (mm 9), .int fr])), ((mm 2), .inl (cI, 80, .inl (upd v (20 + p0.toNatClampNeg) ((v (20 + p0.toNatClampNeg)) ||| ((1 : Int32) <<< (p1 &&& 31)))))), ((mm 4), .inl (cI, 480, .inl (mp_sv pv z v)))] H := hP
        have hD9 : va_D A [((mm 0), .inr (5, [.ref (mm 1), .ref (mm 2), .ref (mm 3), .ref (mm 4), .int (nI (if z = 6 then 6 else z + 1)), .ref (mm 5), .int ty, .int 0, .int at0, .int fa, .ref (mm 6), .int ts, .ref (mm 7), .ref (mm 8), .ref (mm 9), .int fr])), ((mm 2), .inl (cI, 80, .inl (upd v (20 + p0.toNatClampNeg) ((v (20 + p0.toNatClampNeg)) ||| ((1 : Int32) <<< (p1 &&& 31)))))), ((mm 4), .inl (cI, 480, .inl (mp_sv pv z v)))] := hD
        exact W.iret (v := ((v (20 + p0.toNatClampNeg)) >>> (p1 &&& 31)) &&& 1) hx hb hr (fun t ht hW => ⟨⟨((v (20 + p0.toNatClampNeg)) >>> (p1 &&& 31)) &&& 1, (0, (nI (if z = 6 then 6 else z + 1)), upd v (20 + p0.toNatClampNeg) ((v (20 + p0.toNatClampNeg)) ||| ((1 : Int32) <<< (p1 &&& 31))), (mp_sv pv z v)), rfl, ⟨(by rw [if_pos hc9]; exact mb_bit (hpre.2 _ (xt_dg_ok (n := 6) (by decide) q9b).2) (xt_dg_ok (n := 7) (by decide) q16b).1 (xt_dg_ok (n := 7) (by decide) q16b).2), (hc9.symm), (if_pos hc9).symm, (by rw [if_pos hc9]; unfold xv_bu; rw [if_neg q58]), (if_pos hc9).symm⟩, by rw [ht]; exact hP9, hD9⟩, hS.F ht⟩) hS.2.2 dX5_burn_112
    · have q16b : ¬ xt_dg 7 p1 = 0 := xm_bF q16
      refine lv_aload_n hx hb dX5_burn_19 rfl (lv_at hl 0 rfl) ?_
      refine lv_iconst (v := 1) hx hb dX5_burn_20 (by decide) ?_
      have hPc := hP.sub (ws' := [((mm 0), .inr (5, [.ref (mm 1), .ref (mm 2), .ref (mm 3), .ref (mm 4), .int (nI z), .ref (mm 5), .int ty, .int 0, .int at0, .int fa, .ref (mm 6), .int ts, .ref (mm 7), .ref (mm 8), .ref (mm 9), .int fr]))]) [0] rfl
      have hDc := hD.sub (ws' := [((mm 0), .inr (5, [.ref (mm 1), .ref (mm 2), .ref (mm 3), .ref (mm 4), .int (nI z), .ref (mm 5), .int ty, .int 0, .int at0, .int fa, .ref (mm 6), .int ts, .ref (mm 7), .ref (mm 8), .ref (mm 9), .int fr]))]) [0] (by decide) rfl
      have hFc := va_free (wc := [((mm 0), .inr (5, [.ref (mm 1), .ref (mm 2), .ref (mm 3), .ref (mm 4), .int (nI z), .ref (mm 5), .int ty, .int 0, .int at0, .int fa, .ref (mm 6), .int ts, .ref (mm 7), .ref (mm 8), .ref (mm 9), .int fr]))]) hD hS hA [0] rfl
      refine va_calli (va_runV (As := [.int 1]) (rest := []) ⟨hx, hb, hml, hown, hts⟩ (c_X5_fails l dC dI cI cS cJ tt H.size mm (nI z) ty 0 at0 fa ts fr 1) (cwV 1 hts gX5_burn_X5_fails rfl rfl rfl (by decide +kernel) ⟨Nat.le_of_ble_eq_true rfl, Nat.le_of_ble_eq_true rfl⟩) ⟨xm_Mblind, va_recv hK hPc (ci := 5) (q0 := 0) rfl rfl, fun U hU hW => ⟨rfl, by rw [hU], by rw [hU]; exact hPc, hE.go hS hFc hU hW, hDc.weaken (fun _ _ _ _ => trivial), trivial⟩⟩ rfl rfl hl.1 rfl (lv_room (Nat.le_of_ble_eq_true rfl)) dX5_burn_21 ⟨Nat.zero_le _, Nat.zero_le _⟩) hS (fun q _ h => hFc q h) hFc (fun r u t H1 locs ht hvm hw hB hz1 hk1 hS => ?_)
      obtain ⟨u_8, rfl⟩ : ∃ z, z = u := ⟨_, rfl⟩
      obtain ⟨hP1, hD1⟩ := hB
      rw [ht] at hP1
      obtain ⟨hw_9, hw_10⟩ := hw
      have hw_9 : r = 0 := hw_9
      subst hw_9
      have hw_10 : u_8 = 1 := hw_10
      subst hw_10
      obtain ⟨hP, hD⟩ := va_join (wr := [((mm 2), .inl (cI, 80, .inl v)), ((mm 4), .inl (cI, 480, .inl pv))]) (w1 := [((mm 0), .inr (5, [.ref (mm 1), .ref (mm 2), .ref (mm 3), .ref (mm 4), .int (nI z), .ref (mm 5), .int ty, .int 1, .int at0, .int fa, .ref (mm 6), .int ts, .ref (mm 7), .ref (mm 8), .ref (mm 9), .int fr]))]) hP hD [0] [1, 2] rfl rfl (by decide) (by decide) hk1 hFc hP1 hD1
      generalize H1 = H at hP hS ⊢
      have hP : va_P (dC, dI) vwCl [((mm 2), .inl (cI, 80, .inl v)), ((mm 4), .inl (cI, 480, .inl pv)), ((mm 0), .inr (5, [.ref (mm 1), .ref (mm 2), .ref (mm 3), .ref (mm 4), .int (nI z), .ref (mm 5), .int ty, .int 1, .int at0, .int fa, .ref (mm 6), .int ts, .ref (mm 7), .ref (mm 8), .ref (mm 9), .int fr]))] H := hP
      have hD : va_D A [((mm 2), .inl (cI, 80, .inl v)), ((mm 4), .inl (cI, 480, .inl pv)), ((mm 0), .inr (5, [.ref (mm 1), .ref (mm 2), .ref (mm 3), .ref (mm 4), .int (nI z), .ref (mm 5), .int ty, .int 1, .int at0, .int fa, .ref (mm 6), .int ts, .ref (mm 7), .ref (mm 8), .ref (mm 9), .int fr]))] := hD
      have hc9 : xc_bu p0 p1 = 1 := by simp only [xc_bu, if_pos q9b, if_neg q16b]
      have hn9 : ¬ xc_bu p0 p1 = 0 := by rw [hc9]; decide
      have hP9 := hP.sub (ws' := [((mm 0), .inr (5, [.ref (mm 1), .ref (mm 2), .ref (mm 3), .ref (mm 4), .int (nI z), .ref (mm 5), .int ty, .int 1, .int at0, .int fa, .ref (mm 6), .int ts, .ref (mm 7), .ref (mm 8), .ref (mm 9), .int fr])), ((mm 2), .inl (cI, 80, .inl v)), ((mm 4), .inl (cI, 480, .inl pv))]) [2, 0, 1] rfl
      have hD9 := hD.sub (ws' := [((mm 0), .inr (5, [.ref (mm 1), .ref (mm 2), .ref (mm 3), .ref (mm 4), .int (nI z), .ref (mm 5), .int ty, .int 1, .int at0, .int fa, .ref (mm 6), .int ts, .ref (mm 7), .ref (mm 8), .ref (mm 9), .int fr])), ((mm 2), .inl (cI, 80, .inl v)), ((mm 4), .inl (cI, 480, .inl pv))]) [2, 0, 1] (by decide) rfl
      exact W.iret (v := 0) hx hb hr (fun t ht hW => ⟨⟨0, (1, (nI z), v, pv), rfl, ⟨(if_neg hn9).symm, (hc9.symm), (if_neg hn9).symm, (if_neg hn9).symm, (if_neg hn9).symm⟩, by rw [ht]; exact hP9, hD9⟩, hS.F ht⟩) hS.2.2 dX5_burn_24

set_option maxHeartbeats 4000000 in
set_option maxRecDepth 100000 in
theorem c_X5_read (l : Launch) (dC : Nat → ClassId) (dI : Nat → Nat → Nat) (cI cS cJ : ClassId) (tt : Nat → Nat) (sz : Nat) (mm : Nat → Nat) (th : Int32) (at0 : Int32) (fa : Int32) (ts : Int32) (fr : Int32) (z : Nat) (v : Nat → Int32) (pv : Nat → Int32) (co : Nat → Int32) (tl : Nat → Int32) (n : Nat) (sg : Nat → Int32) (lv : Nat → Int32) : Met l yX5_read wsX5_read ({ frames := 4, cells := 0, slots := 0, locals := 87 } : Room) (va_Pc [.ref (mm 0)] (xm_M (dC, dI) cI cS cJ tt [((mm 0), .inr (5, [.ref (mm 1), .ref (mm 2), .ref (mm 3), .ref (mm 4), .int (nI z), .ref (mm 5), .int (nI n), .int th, .int at0, .int fa, .ref (mm 6), .int ts, .ref (mm 7), .ref (mm 8), .ref (mm 9), .int fr])), ((mm 2), .inl (cI, 80, .inl v)), ((mm 4), .inl (cI, 480, .inl pv)), ((mm 5), .inl (cI, 60, .inl co)), ((mm 6), .inl (cI, 12, .inl tl))] sz (z ≤ 6 ∧ n ≤ 60))) (va_Qi (fun (r : Int32) (u : Int32 × Int32 × Int32 × Int32 × Int32 × Int32 × (Nat → Int32) × (Nat → Int32) × (Nat → Int32)) => r = (if xc_re co n = 0 then nI (sc_ap co (sc_to co n 0)).1 else 0) ∧ u.1 = xc_re co n ∧ u.2.1 = (if xc_re co n = 0 then (nI (if z = 6 then 6 else z + 1)) else (nI z)) ∧ u.2.2.1 = (if xc_re co n = 0 then 0 else (nI n)) ∧ u.2.2.2.2.2.2.1 = (if xc_re co n = 0 then (xv_re v (sc_ap co (sc_to co n 0)).1 (sc_s co sg (sc_to co n 0)) (sc_l co lv (sc_to co n 0))) else v) ∧ u.2.2.2.2.2.2.2.1 = (if xc_re co n = 0 then (mp_sv pv z v) else pv)) (xm_B (dC, dI) (fun (u : Int32 × Int32 × Int32 × Int32 × Int32 × Int32 × (Nat → Int32) × (Nat → Int32) × (Nat → Int32)) => [((mm 0), .inr (5, [.ref (mm 1), .ref (mm 2), .ref (mm 3), .ref (mm 4), .int u.2.1, .ref (mm 5), .int u.2.2.1, .int u.1, .int u.2.2.2.1, .int u.2.2.2.2.1, .ref (mm 6), .int u.2.2.2.2.2.1, .ref (mm 7), .ref (mm 8), .ref (mm 9), .int fr])), ((mm 2), .inl (cI, 80, .inl u.2.2.2.2.2.2.1)), ((mm 4), .inl (cI, 480, .inl u.2.2.2.2.2.2.2.1)), ((mm 5), .inl (cI, 60, .inl co)), ((mm 6), .inl (cI, 12, .inl u.2.2.2.2.2.2.2.2))]) (va_A [((mm 0), .inr (5, [.ref (mm 1), .ref (mm 2), .ref (mm 3), .ref (mm 4), .int (nI z), .ref (mm 5), .int (nI n), .int th, .int at0, .int fa, .ref (mm 6), .int ts, .ref (mm 7), .ref (mm 8), .ref (mm 9), .int fr])), ((mm 2), .inl (cI, 80, .inl v)), ((mm 4), .inl (cI, 480, .inl pv)), ((mm 5), .inl (cI, 60, .inl co)), ((mm 6), .inl (cI, 12, .inl tl))] sz)) (va_A [((mm 0), .inr (5, [.ref (mm 1), .ref (mm 2), .ref (mm 3), .ref (mm 4), .int (nI z), .ref (mm 5), .int (nI n), .int th, .int at0, .int fa, .ref (mm 6), .int ts, .ref (mm 7), .ref (mm 8), .ref (mm 9), .int fr])), ((mm 2), .inl (cI, 80, .inl v)), ((mm 4), .inl (cI, 480, .inl pv)), ((mm 5), .inl (cI, 60, .inl co)), ((mm 6), .inl (cI, 12, .inl tl))] sz)) 0 0 (va_A [((mm 0), .inr (5, [.ref (mm 1), .ref (mm 2), .ref (mm 3), .ref (mm 4), .int (nI z), .ref (mm 5), .int (nI n), .int th, .int at0, .int fa, .ref (mm 6), .int ts, .ref (mm 7), .ref (mm 8), .ref (mm 9), .int fr])), ((mm 2), .inl (cI, 80, .inl v)), ((mm 4), .inl (cI, 480, .inl pv)), ((mm 5), .inl (cI, 60, .inl co)), ((mm 6), .inl (cI, 12, .inl tl))] sz) := by
  refine Met.ofW (cc := cX5_read) (maxL := 2) (ret := (some .int)) (by decide) rfl ?_
  intro p e s m args below meth c s₁ B hml hv
  obtain ⟨rfl, hsz, hP, hE, hD0, hpre⟩ := hv
  have hx := B.exec
  have hb := B.bytes
  have hr := B.returns
  have hts := atoms_spec (ws := wsX5_read) B.pre
  have hown : s.vm.findClass RX5 = some m.cls := findClass_of_methodNamed B.named
  have hlocks := B.notSynchronized
  have hK := hE.1
  subst hsz
  have hD := hD0.self (sz := s.heap.size)
  generalize hAe : va_A [((mm 0), .inr (5, [.ref (mm 1), .ref (mm 2), .ref (mm 3), .ref (mm 4), .int (nI z), .ref (mm 5), .int (nI n), .int th, .int at0, .int fa, .ref (mm 6), .int ts, .ref (mm 7), .ref (mm 8), .ref (mm 9), .int fr])), ((mm 2), .inl (cI, 80, .inl v)), ((mm 4), .inl (cI, 480, .inl pv)), ((mm 5), .inl (cI, 60, .inl co)), ((mm 6), .inl (cI, 12, .inl tl))] s.heap.size = A at hD hE ⊢
  have hA : ∀ q : Nat, s.heap.size ≤ q → A q := fun q h => by rw [← hAe]; exact Or.inr h
  have hS : va_S A s.heap s.heap [] := va_S.rf
  have hP : va_P (dC, dI) vwCl [((mm 0), .inr (5, [.ref (mm 1), .ref (mm 2), .ref (mm 3), .ref (mm 4), .int (nI z), .ref (mm 5), .int (nI n), .int th, .int at0, .int fa, .ref (mm 6), .int ts, .ref (mm 7), .ref (mm 8), .ref (mm 9), .int fr])), ((mm 2), .inl (cI, 80, .inl v)), ((mm 4), .inl (cI, 480, .inl pv)), ((mm 5), .inl (cI, 60, .inl co)), ((mm 6), .inl (cI, 12, .inl tl))] s.heap := hP
  have hin5 : ∀ w ∈ u_ws RX5 TX5 16, w ∈ wsX5_read := by decide +kernel
  have hl := lv_entry [.ref (mm 0)] (n := 2) (Nat.le_of_ble_eq_true rfl)
  rw [lg_entry_eq]
  generalize (lg_sl [.ref (mm 0)] ++ List.replicate (2 - (lg_sl [.ref (mm 0)]).length) Slot.unset).toArray = lz at hl ⊢
  have hl : lv_has lz 2 [(0, .ref (mm 0))] := hl
  have hAl := tp_all hpre.2 6 0 0 tl rfl (by decide) (Nat.zero_le n) (Or.inr ⟨rfl, rfl⟩) (tp_0 co n tl).1 (tp_0 co n tl).2
  refine lv_aload_n hx hb dX5_read_0 rfl (lv_at hl 0 rfl) ?_
  refine lv_iconst (v := 0) hx hb dX5_read_1 (by decide) ?_
  refine va_put (D := (dC, dI)) (ci := 5) (v := .int 0) (ty := .int) (C := RX5) (T := TX5) (N := 16) hx hb hts hin5 tyX5 tyX5_ok nmX5 hown hK hP hD hS 0 rfl rfl 7 (by decide) (hts (.fieldLink RX5 37 "TurnDigitsModel" "thrown" "I") (by decide +kernel)) (fun _ h9 => h9) rfl (by decide +kernel) rfl rfl (Nat.le_of_ble_eq_true rfl) dX5_read_2 (fun H locs hP hD hS => ?_)
  have hP : va_P (dC, dI) vwCl [((mm 0), .inr (5, [.ref (mm 1), .ref (mm 2), .ref (mm 3), .ref (mm 4), .int (nI z), .ref (mm 5), .int (nI n), .int 0, .int at0, .int fa, .ref (mm 6), .int ts, .ref (mm 7), .ref (mm 8), .ref (mm 9), .int fr])), ((mm 2), .inl (cI, 80, .inl v)), ((mm 4), .inl (cI, 480, .inl pv)), ((mm 5), .inl (cI, 60, .inl co)), ((mm 6), .inl (cI, 12, .inl tl))] H := hP
  have hD : va_D A [((mm 0), .inr (5, [.ref (mm 1), .ref (mm 2), .ref (mm 3), .ref (mm 4), .int (nI z), .ref (mm 5), .int (nI n), .int 0, .int at0, .int fa, .ref (mm 6), .int ts, .ref (mm 7), .ref (mm 8), .ref (mm 9), .int fr])), ((mm 2), .inl (cI, 80, .inl v)), ((mm 4), .inl (cI, 480, .inl pv)), ((mm 5), .inl (cI, 60, .inl co)), ((mm 6), .inl (cI, 12, .inl tl))] := hD
  refine lv_aload_n hx hb dX5_read_5 rfl (lv_at hl 0 rfl) ?_
  have hPc := hP.sub (ws' := [((mm 0), .inr (5, [.ref (mm 1), .ref (mm 2), .ref (mm 3), .ref (mm 4), .int (nI z), .ref (mm 5), .int (nI n), .int 0, .int at0, .int fa, .ref (mm 6), .int ts, .ref (mm 7), .ref (mm 8), .ref (mm 9), .int fr])), ((mm 5), .inl (cI, 60, .inl co)), ((mm 6), .inl (cI, 12, .inl tl))]) [0, 3, 4] rfl
  have hDc := hD.sub (ws' := [((mm 0), .inr (5, [.ref (mm 1), .ref (mm 2), .ref (mm 3), .ref (mm 4), .int (nI z), .ref (mm 5), .int (nI n), .int 0, .int at0, .int fa, .ref (mm 6), .int ts, .ref (mm 7), .ref (mm 8), .ref (mm 9), .int fr])), ((mm 5), .inl (cI, 60, .inl co)), ((mm 6), .inl (cI, 12, .inl tl))]) [0, 3, 4] (by decide) rfl
  have hFc := va_free (wc := [((mm 0), .inr (5, [.ref (mm 1), .ref (mm 2), .ref (mm 3), .ref (mm 4), .int (nI z), .ref (mm 5), .int (nI n), .int 0, .int at0, .int fa, .ref (mm 6), .int ts, .ref (mm 7), .ref (mm 8), .ref (mm 9), .int fr])), ((mm 5), .inl (cI, 60, .inl co)), ((mm 6), .inl (cI, 12, .inl tl))]) hD hS hA [0, 3, 4] rfl
  refine va_calli (va_runV (As := []) (rest := []) ⟨hx, hb, hml, hown, hts⟩ (c_X5_isText l dC dI cI cS cJ tt H.size mm (nI z) 0 at0 fa ts fr co tl n) (cwV 0 hts gX5_read_X5_isText rfl rfl rfl (by decide +kernel) ⟨Nat.le_of_ble_eq_true rfl, Nat.le_of_ble_eq_true rfl⟩) ⟨xm_Mblind, va_recv hK hPc (ci := 5) (q0 := 0) rfl rfl, fun U hU hW => ⟨rfl, by rw [hU], by rw [hU]; exact hPc, hE.go hS hFc hU hW, hDc.weaken (fun _ _ _ _ => trivial), hpre.2⟩⟩ rfl rfl hl.1 rfl (lv_room (Nat.le_of_ble_eq_true rfl)) dX5_read_6 ⟨Nat.zero_le _, Nat.zero_le _⟩) hS (fun q _ h => hFc q h) hFc (fun r u t H1 locs ht hvm hw hB hz1 hk1 hS => ?_)
  obtain ⟨u_1, u_2, u_3, u_4⟩ := u
  obtain ⟨hP1, hD1⟩ := hB
  rw [ht] at hP1
  obtain ⟨hw_5, hw_6, hw_7, hw_8, hw_9⟩ := hw
  have hw_5 : r = tp_r co n 6 0 0 := hw_5
  subst hw_5
  have hw_6 : u_1 = nI (tp_a co n 6 0 0) := hw_6
  subst hw_6
  have hw_7 : u_2 = (if nI (tp_a co n 6 0 0) < nI n then 1 else 0) := hw_7
  subst hw_7
  have hw_8 : u_3 = nI (tp_j co n 6 0 0) := hw_8
  subst hw_8
  have hw_9 : u_4 = tp_t co n 6 0 0 tl := hw_9
  subst hw_9
  obtain ⟨hP, hD⟩ := va_join (wr := [((mm 2), .inl (cI, 80, .inl v)), ((mm 4), .inl (cI, 480, .inl pv))]) (w1 := [((mm 0), .inr (5, [.ref (mm 1), .ref (mm 2), .ref (mm 3), .ref (mm 4), .int (nI z), .ref (mm 5), .int (nI n), .int 0, .int (nI (tp_a co n 6 0 0)), .int (if nI (tp_a co n 6 0 0) < nI n then 1 else 0), .ref (mm 6), .int (nI (tp_j co n 6 0 0)), .ref (mm 7), .ref (mm 8), .ref (mm 9), .int fr])), ((mm 5), .inl (cI, 60, .inl co)), ((mm 6), .inl (cI, 12, .inl (tp_t co n 6 0 0 tl)))]) hP hD [0, 3, 4] [1, 2] rfl rfl (by decide) (by decide) hk1 hFc hP1 hD1
  generalize H1 = H at hP hS ⊢
  have hP : va_P (dC, dI) vwCl [((mm 2), .inl (cI, 80, .inl v)), ((mm 4), .inl (cI, 480, .inl pv)), ((mm 0), .inr (5, [.ref (mm 1), .ref (mm 2), .ref (mm 3), .ref (mm 4), .int (nI z), .ref (mm 5), .int (nI n), .int 0, .int (nI (tp_a co n 6 0 0)), .int (if nI (tp_a co n 6 0 0) < nI n then 1 else 0), .ref (mm 6), .int (nI (tp_j co n 6 0 0)), .ref (mm 7), .ref (mm 8), .ref (mm 9), .int fr])), ((mm 5), .inl (cI, 60, .inl co)), ((mm 6), .inl (cI, 12, .inl (tp_t co n 6 0 0 tl)))] H := hP
  have hD : va_D A [((mm 2), .inl (cI, 80, .inl v)), ((mm 4), .inl (cI, 480, .inl pv)), ((mm 0), .inr (5, [.ref (mm 1), .ref (mm 2), .ref (mm 3), .ref (mm 4), .int (nI z), .ref (mm 5), .int (nI n), .int 0, .int (nI (tp_a co n 6 0 0)), .int (if nI (tp_a co n 6 0 0) < nI n then 1 else 0), .ref (mm 6), .int (nI (tp_j co n 6 0 0)), .ref (mm 7), .ref (mm 8), .ref (mm 9), .int fr])), ((mm 5), .inl (cI, 60, .inl co)), ((mm 6), .inl (cI, 12, .inl (tp_t co n 6 0 0 tl)))] := hD
  refine lv_if_ne (tgt := 18) hx hb dX5_read_9 (by decide) (fun q9 => ?_) (fun q9 => ?_)
  · have hx0 : xc_re co n = 0 := by by_cases h : xc_re co n = 0; exact h; exact absurd (hAl.2.2.1.trans (if_neg h)) q9
    have hAt := hAl.2.2.2 hx0
    have hKn : (sc_to co n 0) = n := hAl.1.trans hAt.1
    have hj6 := hAt.2.2.1
    refine lv_aload_n hx hb dX5_read_18 rfl (lv_at hl 0 rfl) ?_
    have hPc := hP.sub (ws' := [((mm 0), .inr (5, [.ref (mm 1), .ref (mm 2), .ref (mm 3), .ref (mm 4), .int (nI z), .ref (mm 5), .int (nI n), .int 0, .int (nI (tp_a co n 6 0 0)), .int (if nI (tp_a co n 6 0 0) < nI n then 1 else 0), .ref (mm 6), .int (nI (tp_j co n 6 0 0)), .ref (mm 7), .ref (mm 8), .ref (mm 9), .int fr])), ((mm 2), .inl (cI, 80, .inl v)), ((mm 4), .inl (cI, 480, .inl pv))]) [2, 0, 1] rfl
    have hDc := hD.sub (ws' := [((mm 0), .inr (5, [.ref (mm 1), .ref (mm 2), .ref (mm 3), .ref (mm 4), .int (nI z), .ref (mm 5), .int (nI n), .int 0, .int (nI (tp_a co n 6 0 0)), .int (if nI (tp_a co n 6 0 0) < nI n then 1 else 0), .ref (mm 6), .int (nI (tp_j co n 6 0 0)), .ref (mm 7), .ref (mm 8), .ref (mm 9), .int fr])), ((mm 2), .inl (cI, 80, .inl v)), ((mm 4), .inl (cI, 480, .inl pv))]) [2, 0, 1] (by decide) rfl
    have hFc := va_free (wc := [((mm 0), .inr (5, [.ref (mm 1), .ref (mm 2), .ref (mm 3), .ref (mm 4), .int (nI z), .ref (mm 5), .int (nI n), .int 0, .int (nI (tp_a co n 6 0 0)), .int (if nI (tp_a co n 6 0 0) < nI n then 1 else 0), .ref (mm 6), .int (nI (tp_j co n 6 0 0)), .ref (mm 7), .ref (mm 8), .ref (mm 9), .int fr])), ((mm 2), .inl (cI, 80, .inl v)), ((mm 4), .inl (cI, 480, .inl pv))]) hD hS hA [2, 0, 1] rfl
    refine va_callv (va_runV (As := []) (rest := []) ⟨hx, hb, hml, hown, hts⟩ (c_X5_saves l dC dI cI cS cJ tt H.size mm (nI n) 0 (nI (tp_a co n 6 0 0)) (if nI (tp_a co n 6 0 0) < nI n then 1 else 0) (nI (tp_j co n 6 0 0)) fr z v pv) (cwV 0 hts gX5_read_X5_saves rfl rfl rfl (by decide +kernel) ⟨Nat.le_of_ble_eq_true rfl, Nat.le_of_ble_eq_true rfl⟩) ⟨xm_Mblind, va_recv hK hPc (ci := 5) (q0 := 0) rfl rfl, fun U hU hW => ⟨rfl, by rw [hU], by rw [hU]; exact hPc, hE.go hS hFc hU hW, hDc.weaken (fun _ _ _ _ => trivial), hpre.1⟩⟩ rfl rfl hl.1 rfl (lv_room (Nat.le_of_ble_eq_true rfl)) dX5_read_19 ⟨Nat.zero_le _, Nat.zero_le _⟩) hS (fun q _ h => hFc q h) hFc (fun u t H1 locs ht hvm hw hB hz1 hk1 hS => ?_)
    obtain ⟨u_10, u_11⟩ := u
    obtain ⟨hP1, hD1⟩ := hB
    rw [ht] at hP1
    obtain ⟨hw_12, hw_13⟩ := hw
    have hw_12 : u_10 = nI (if z = 6 then 6 else z + 1) := hw_12
    subst hw_12
    have hw_13 : u_11 = mp_sv pv z v := hw_13
    subst hw_13
    obtain ⟨hP, hD⟩ := va_join (wr := [((mm 5), .inl (cI, 60, .inl co)), ((mm 6), .inl (cI, 12, .inl (tp_t co n 6 0 0 tl)))]) (w1 := [((mm 0), .inr (5, [.ref (mm 1), .ref (mm 2), .ref (mm 3), .ref (mm 4), .int (nI (if z = 6 then 6 else z + 1)), .ref (mm 5), .int (nI n), .int 0, .int (nI (tp_a co n 6 0 0)), .int (if nI (tp_a co n 6 0 0) < nI n then 1 else 0), .ref (mm 6), .int (nI (tp_j co n 6 0 0)), .ref (mm 7), .ref (mm 8), .ref (mm 9), .int fr])), ((mm 2), .inl (cI, 80, .inl v)), ((mm 4), .inl (cI, 480, .inl (mp_sv pv z v)))]) hP hD [2, 0, 1] [3, 4] rfl rfl (by decide) (by decide) hk1 hFc hP1 hD1
    generalize H1 = H at hP hS ⊢
    have hP : va_P (dC, dI) vwCl [((mm 5), .inl (cI, 60, .inl co)), ((mm 6), .inl (cI, 12, .inl (tp_t co n 6 0 0 tl))), ((mm 0), .inr (5, [.ref (mm 1), .ref (mm 2), .ref (mm 3), .ref (mm 4), .int (nI (if z = 6 then 6 else z + 1)), .ref (mm 5), .int (nI n), .int 0, .int (nI (tp_a co n 6 0 0)), .int (if nI (tp_a co n 6 0 0) < nI n then 1 else 0), .ref (mm 6), .int (nI (tp_j co n 6 0 0)), .ref (mm 7), .ref (mm 8), .ref (mm 9), .int fr])), ((mm 2), .inl (cI, 80, .inl v)), ((mm 4), .inl (cI, 480, .inl (mp_sv pv z v)))] H := hP
    have hD : va_D A [((mm 5), .inl (cI, 60, .inl co)), ((mm 6), .inl (cI, 12, .inl (tp_t co n 6 0 0 tl))), ((mm 0), .inr (5, [.ref (mm 1), .ref (mm 2), .ref (mm 3), .ref (mm 4), .int (nI (if z = 6 then 6 else z + 1)), .ref (mm 5), .int (nI n), .int 0, .int (nI (tp_a co n 6 0 0)), .int (if nI (tp_a co n 6 0 0) < nI n then 1 else 0), .ref (mm 6), .int (nI (tp_j co n 6 0 0)), .ref (mm 7), .ref (mm 8), .ref (mm 9), .int fr])), ((mm 2), .inl (cI, 80, .inl v)), ((mm 4), .inl (cI, 480, .inl (mp_sv pv z v)))] := hD
    refine lv_aload_n hx hb dX5_read_22 rfl (lv_at hl 0 rfl) ?_
    refine lv_iconst (v := 0) hx hb dX5_read_23 (by decide) ?_
    refine va_put (D := (dC, dI)) (ci := 5) (v := .int 0) (ty := .int) (C := RX5) (T := TX5) (N := 16) hx hb hts hin5 tyX5 tyX5_ok nmX5 hown hK hP hD hS 2 rfl rfl 6 (by decide) (hts (.fieldLink RX5 121 "TurnDigitsModel" "typed" "I") (by decide +kernel)) (fun _ h9 => h9) rfl (by decide +kernel) rfl rfl (Nat.le_of_ble_eq_true rfl) dX5_read_24 (fun H locs hP hD hS => ?_)
    have hP : va_P (dC, dI) vwCl [((mm 5), .inl (cI, 60, .inl co)), ((mm 6), .inl (cI, 12, .inl (tp_t co n 6 0 0 tl))), ((mm 0), .inr (5, [.ref (mm 1), .ref (mm 2), .ref (mm 3), .ref (mm 4), .int (nI (if z = 6 then 6 else z + 1)), .ref (mm 5), .int 0, .int 0, .int (nI (tp_a co n 6 0 0)), .int (if nI (tp_a co n 6 0 0) < nI n then 1 else 0), .ref (mm 6), .int (nI (tp_j co n 6 0 0)), .ref (mm 7), .ref (mm 8), .ref (mm 9), .int fr])), ((mm 2), .inl (cI, 80, .inl v)), ((mm 4), .inl (cI, 480, .inl (mp_sv pv z v)))] H := hP
    have hD : va_D A [((mm 5), .inl (cI, 60, .inl co)), ((mm 6), .inl (cI, 12, .inl (tp_t co n 6 0 0 tl))), ((mm 0), .inr (5, [.ref (mm 1), .ref (mm 2), .ref (mm 3), .ref (mm 4), .int (nI (if z = 6 then 6 else z + 1)), .ref (mm 5), .int 0, .int 0, .int (nI (tp_a co n 6 0 0)), .int (if nI (tp_a co n 6 0 0) < nI n then 1 else 0), .ref (mm 6), .int (nI (tp_j co n 6 0 0)), .ref (mm 7), .ref (mm 8), .ref (mm 9), .int fr])), ((mm 2), .inl (cI, 80, .inl v)), ((mm 4), .inl (cI, 480, .inl (mp_sv pv z v)))] := hD
    refine lv_iconst (v := 0) hx hb dX5_read_27 (by decide) ?_
    refine lv_istore_n (lv' := [(1, .int 0), (0, .ref (mm 0))]) hx hb dX5_read_28 rfl hl (by decide) rfl (fun lz hl => ?_)
    have L29 : ∀ (zz i : Nat), i ≤ (tp_j co n 6 0 0) → (tp_j co n 6 0 0) + 1 ≤ i + zz → ∀ (f : Nat → Int32), f = rr_v v (tp_t co n 6 0 0 tl) i → ∀ (H : Heap) (locs : List Loc), va_P (dC, dI) vwCl [((mm 5), .inl (cI, 60, .inl co)), ((mm 6), .inl (cI, 12, .inl (tp_t co n 6 0 0 tl))), ((mm 0), .inr (5, [.ref (mm 1), .ref (mm 2), .ref (mm 3), .ref (mm 4), .int (nI (if z = 6 then 6 else z + 1)), .ref (mm 5), .int 0, .int 0, .int (nI (tp_a co n 6 0 0)), .int (if nI (tp_a co n 6 0 0) < nI n then 1 else 0), .ref (mm 6), .int (nI (tp_j co n 6 0 0)), .ref (mm 7), .ref (mm 8), .ref (mm 9), .int fr])), ((mm 2), .inl (cI, 80, .inl f)), ((mm 4), .inl (cI, 480, .inl (mp_sv pv z v)))] H → va_D A [((mm 5), .inl (cI, 60, .inl co)), ((mm 6), .inl (cI, 12, .inl (tp_t co n 6 0 0 tl))), ((mm 0), .inr (5, [.ref (mm 1), .ref (mm 2), .ref (mm 3), .ref (mm 4), .int (nI (if z = 6 then 6 else z + 1)), .ref (mm 5), .int 0, .int 0, .int (nI (tp_a co n 6 0 0)), .int (if nI (tp_a co n 6 0 0) < nI n then 1 else 0), .ref (mm 6), .int (nI (tp_j co n 6 0 0)), .ref (mm 7), .ref (mm 8), .ref (mm 9), .int fr])), ((mm 2), .inl (cI, 80, .inl f)), ((mm 4), .inl (cI, 480, .inl (mp_sv pv z v)))] → va_S A s.heap H locs → ∀ (lz : Array Slot), lv_has lz 2 [(0, .ref (mm 0)), (1, .int (nI i))] → W p l e (headSpec wsX5_read ({ frames := 4, cells := 0, slots := 0, locals := 87 } : Room)).room s m ([.ref (mm 0)] : List Value).toArray below meth c H locs 0 0 (MQ below (va_Qi (fun (r : Int32) (u : Int32 × Int32 × Int32 × Int32 × Int32 × Int32 × (Nat → Int32) × (Nat → Int32) × (Nat → Int32)) => r = (if xc_re co n = 0 then nI (sc_ap co (sc_to co n 0)).1 else 0) ∧ u.1 = xc_re co n ∧ u.2.1 = (if xc_re co n = 0 then (nI (if z = 6 then 6 else z + 1)) else (nI z)) ∧ u.2.2.1 = (if xc_re co n = 0 then 0 else (nI n)) ∧ u.2.2.2.2.2.2.1 = (if xc_re co n = 0 then (xv_re v (sc_ap co (sc_to co n 0)).1 (sc_s co sg (sc_to co n 0)) (sc_l co lv (sc_to co n 0))) else v) ∧ u.2.2.2.2.2.2.2.1 = (if xc_re co n = 0 then (mp_sv pv z v) else pv)) (xm_B (dC, dI) (fun (u : Int32 × Int32 × Int32 × Int32 × Int32 × Int32 × (Nat → Int32) × (Nat → Int32) × (Nat → Int32)) => [((mm 0), .inr (5, [.ref (mm 1), .ref (mm 2), .ref (mm 3), .ref (mm 4), .int u.2.1, .ref (mm 5), .int u.2.2.1, .int u.1, .int u.2.2.2.1, .int u.2.2.2.2.1, .ref (mm 6), .int u.2.2.2.2.2.1, .ref (mm 7), .ref (mm 8), .ref (mm 9), .int fr])), ((mm 2), .inl (cI, 80, .inl u.2.2.2.2.2.2.1)), ((mm 4), .inl (cI, 480, .inl u.2.2.2.2.2.2.2.1)), ((mm 5), .inl (cI, 60, .inl co)), ((mm 6), .inl (cI, 12, .inl u.2.2.2.2.2.2.2.2))]) A) A) ([.ref (mm 0)] : List Value).toArray s 0 0 A) (F0 m 29 lz []) := by
      intro zz
      induction zz with
      | zero => intro i hii hni; exact absurd hni (by omega)
      | succ zz ih29 =>
        intro i hii hni f e_f  H locs hP hD hS lz hl
        subst e_f
        refine lv_iload_n hx hb dX5_read_29 rfl (lv_at hl 1 rfl) ?_
        refine lv_aload_n hx hb dX5_read_30 rfl (lv_at hl 0 rfl) ?_
        refine va_get (D := (dC, dI)) (ci := 5) (v := .int (nI (tp_j co n 6 0 0))) (C := RX5) (T := TX5) (N := 16) hx hb hts hin5 hown hK hP 2 rfl rfl 11 (by decide) (hts (.fieldLink RX5 138 "TurnDigitsModel" "tolds" "I") (by decide +kernel)) (fun _ h9 => h9) rfl dX5_read_31 ?_
        refine lv_icmp_ge (tgt := 97) hx hb dX5_read_34 (by decide) (fun q34 => ?_) (fun q34 => ?_)
        · have hNi : (tp_j co n 6 0 0) = i := (xm_end (N := (tp_j co n 6 0 0)) hii (by omega) q34).symm
          subst hNi
          refine lv_aload_n hx hb dX5_read_97 rfl (lv_at hl 0 rfl) ?_
          refine va_get (D := (dC, dI)) (ci := 5) (v := .int (nI (tp_j co n 6 0 0))) (C := RX5) (T := TX5) (N := 16) hx hb hts hin5 hown hK hP 2 rfl rfl 11 (by decide) (hts (.fieldLink RX5 138 "TurnDigitsModel" "tolds" "I") (by decide +kernel)) (fun _ h9 => h9) rfl dX5_read_98 ?_
          have hc9 : xc_re co n = 0 := hx0
          have hP9 := hP.sub (ws' := [((mm 0), .inr (5, [.ref (mm 1), .ref (mm 2), .ref (mm 3), .ref (mm 4), .int (nI (if z = 6 then 6 else z + 1)), .ref (mm 5), .int 0, .int 0, .int (nI (tp_a co n 6 0 0)), .int (if nI (tp_a co n 6 0 0) < nI n then 1 else 0), .ref (mm 6), .int (nI (tp_j co n 6 0 0)), .ref (mm 7), .ref (mm 8), .ref (mm 9), .int fr])), ((mm 2), .inl (cI, 80, .inl (rr_v v (tp_t co n 6 0 0 tl) (tp_j co n 6 0 0)))), ((mm 4), .inl (cI, 480, .inl (mp_sv pv z v))), ((mm 5), .inl (cI, 60, .inl co)), ((mm 6), .inl (cI, 12, .inl (tp_t co n 6 0 0 tl)))]) [2, 3, 4, 0, 1] rfl
          have hD9 := hD.sub (ws' := [((mm 0), .inr (5, [.ref (mm 1), .ref (mm 2), .ref (mm 3), .ref (mm 4), .int (nI (if z = 6 then 6 else z + 1)), .ref (mm 5), .int 0, .int 0, .int (nI (tp_a co n 6 0 0)), .int (if nI (tp_a co n 6 0 0) < nI n then 1 else 0), .ref (mm 6), .int (nI (tp_j co n 6 0 0)), .ref (mm 7), .ref (mm 8), .ref (mm 9), .int fr])), ((mm 2), .inl (cI, 80, .inl (rr_v v (tp_t co n 6 0 0 tl) (tp_j co n 6 0 0)))), ((mm 4), .inl (cI, 480, .inl (mp_sv pv z v))), ((mm 5), .inl (cI, 60, .inl co)), ((mm 6), .inl (cI, 12, .inl (tp_t co n 6 0 0 tl)))]) [2, 3, 4, 0, 1] (by decide) rfl
          exact W.iret (v := (nI (tp_j co n 6 0 0))) hx hb hr (fun t ht hW => ⟨⟨(nI (tp_j co n 6 0 0)), (0, (nI (if z = 6 then 6 else z + 1)), 0, (nI (tp_a co n 6 0 0)), (if nI (tp_a co n 6 0 0) < nI n then 1 else 0), (nI (tp_j co n 6 0 0)), (rr_v v (tp_t co n 6 0 0 tl) (tp_j co n 6 0 0)), (mp_sv pv z v), (tp_t co n 6 0 0 tl)), rfl, ⟨(by rw [if_pos hc9]; rw [hKn, hAt.2.1]), (hc9.symm), (if_pos hc9).symm, (if_pos hc9).symm, (by rw [if_pos hc9]; rw [hKn, hAt.2.1]; exact rr_sc hj6 hAt.2.2.2), (if_pos hc9).symm⟩, by rw [ht]; exact hP9, hD9⟩, hS.F ht⟩) hS.2.2 dX5_read_101
        · have hlti : i < (tp_j co n 6 0 0) := xm_lt (N := (tp_j co n 6 0 0)) hii (by omega) q34
          refine lv_aload_n hx hb dX5_read_37 rfl (lv_at hl 0 rfl) ?_
          refine va_get (D := (dC, dI)) (ci := 5) (v := .ref (mm 2)) (C := RX5) (T := TX5) (N := 16) hx hb hts hin5 hown hK hP 2 rfl rfl 1 (by decide) (hts (.fieldLink RX5 13 "TurnDigitsModel" "now" "[I") (by decide +kernel)) (fun _ h9 => h9) rfl dX5_read_38 ?_
          refine lv_bipush (v := 8) hx hb dX5_read_41 (by decide) ?_
          refine lv_iload_n hx hb dX5_read_43 rfl (lv_at hl 1 rfl) ?_
          refine lv_iadd hx hb dX5_read_44 ?_
          refine xm_topi (y := nI (8 + i)) (nI_add 8 i) ?_
          refine lv_aload_n hx hb dX5_read_45 rfl (lv_at hl 0 rfl) ?_
          refine va_get (D := (dC, dI)) (ci := 5) (v := .ref (mm 6)) (C := RX5) (T := TX5) (N := 16) hx hb hts hin5 hown hK hP 2 rfl rfl 10 (by decide) (hts (.fieldLink RX5 25 "TurnDigitsModel" "told" "[I") (by decide +kernel)) (fun _ h9 => h9) rfl dX5_read_46 ?_
          refine lv_iconst (v := 2) hx hb dX5_read_49 (by decide) ?_
          refine lv_iload_n hx hb dX5_read_50 rfl (lv_at hl 1 rfl) ?_
          refine lv_imul hx hb dX5_read_51 ?_
          refine xm_topi (y := nI (2 * i)) (pk_mul 2 i) ?_
          refine xm_iald (D := (dC, dI)) hx hb hK hP 1 0 (2 * i) (v := (tp_t co n 6 0 0 tl) (2 * i)) rfl rfl (by decide) rfl (by omega) rfl dX5_read_52 ?_
          refine xm_iast (D := (dC, dI)) hx hb hK hP hD hS 3 0 (8 + i) rfl rfl (by decide) rfl (by omega) dX5_read_53 (fun H locs hP hD hS => ?_)
          have hP : va_P (dC, dI) vwCl [((mm 5), .inl (cI, 60, .inl co)), ((mm 6), .inl (cI, 12, .inl (tp_t co n 6 0 0 tl))), ((mm 0), .inr (5, [.ref (mm 1), .ref (mm 2), .ref (mm 3), .ref (mm 4), .int (nI (if z = 6 then 6 else z + 1)), .ref (mm 5), .int 0, .int 0, .int (nI (tp_a co n 6 0 0)), .int (if nI (tp_a co n 6 0 0) < nI n then 1 else 0), .ref (mm 6), .int (nI (tp_j co n 6 0 0)), .ref (mm 7), .ref (mm 8), .ref (mm 9), .int fr])), ((mm 2), .inl (cI, 80, .inl (upd (rr_v v (tp_t co n 6 0 0 tl) i) (8 + i) ((tp_t co n 6 0 0 tl) (2 * i))))), ((mm 4), .inl (cI, 480, .inl (mp_sv pv z v)))] H := hP
          have hD : va_D A [((mm 5), .inl (cI, 60, .inl co)), ((mm 6), .inl (cI, 12, .inl (tp_t co n 6 0 0 tl))), ((mm 0), .inr (5, [.ref (mm 1), .ref (mm 2), .ref (mm 3), .ref (mm 4), .int (nI (if z = 6 then 6 else z + 1)), .ref (mm 5), .int 0, .int 0, .int (nI (tp_a co n 6 0 0)), .int (if nI (tp_a co n 6 0 0) < nI n then 1 else 0), .ref (mm 6), .int (nI (tp_j co n 6 0 0)), .ref (mm 7), .ref (mm 8), .ref (mm 9), .int fr])), ((mm 2), .inl (cI, 80, .inl (upd (rr_v v (tp_t co n 6 0 0 tl) i) (8 + i) ((tp_t co n 6 0 0 tl) (2 * i))))), ((mm 4), .inl (cI, 480, .inl (mp_sv pv z v)))] := hD
          refine lv_aload_n hx hb dX5_read_54 rfl (lv_at hl 0 rfl) ?_
          refine va_get (D := (dC, dI)) (ci := 5) (v := .ref (mm 6)) (C := RX5) (T := TX5) (N := 16) hx hb hts hin5 hown hK hP 2 rfl rfl 10 (by decide) (hts (.fieldLink RX5 25 "TurnDigitsModel" "told" "[I") (by decide +kernel)) (fun _ h9 => h9) rfl dX5_read_55 ?_
          refine lv_iconst (v := 2) hx hb dX5_read_58 (by decide) ?_
          refine lv_iload_n hx hb dX5_read_59 rfl (lv_at hl 1 rfl) ?_
          refine lv_imul hx hb dX5_read_60 ?_
          refine xm_topi (y := nI (2 * i)) (pk_mul 2 i) ?_
          refine lv_iconst (v := 1) hx hb dX5_read_61 (by decide) ?_
          refine lv_iadd hx hb dX5_read_62 ?_
          refine xm_topi (y := nI (2 * i + 1)) (nI_add (2 * i) 1) ?_
          refine xm_iald (D := (dC, dI)) hx hb hK hP 1 0 (2 * i + 1) (v := (tp_t co n 6 0 0 tl) (2 * i + 1)) rfl rfl (by decide) rfl (by omega) rfl dX5_read_63 ?_
          refine lv_iconst (v := (-1)) hx hb dX5_read_64 (by decide) ?_
          refine lv_icmp_eq (tgt := 91) hx hb dX5_read_65 (by decide) (fun q65 => ?_) (fun q65 => ?_)
          · refine lv_iinc (v := nI (i + 1)) (lv' := [(1, .int (nI (i + 1))), (0, .ref (mm 0))]) hx hb dX5_read_91 hl (k := 1) rfl (nI_1 i) (by decide) rfl (fun lz hl => ?_)
            refine lv_goto (tgt := 29) hx hb dX5_read_94 (by decide) ?_
            exact ih29 (i + 1) hlti (by omega) (upd (rr_v v (tp_t co n 6 0 0 tl) i) (8 + i) ((tp_t co n 6 0 0 tl) (2 * i))) (by symm; show (if (tp_t co n 6 0 0 tl) (2 * i + 1) = -1 then _ else _) = _; exact if_pos q65)  H locs hP hD hS lz (lv_sub hl [1, 0] rfl)
          · refine lv_aload_n hx hb dX5_read_68 rfl (lv_at hl 0 rfl) ?_
            refine va_get (D := (dC, dI)) (ci := 5) (v := .ref (mm 2)) (C := RX5) (T := TX5) (N := 16) hx hb hts hin5 hown hK hP 2 rfl rfl 1 (by decide) (hts (.fieldLink RX5 13 "TurnDigitsModel" "now" "[I") (by decide +kernel)) (fun _ h9 => h9) rfl dX5_read_69 ?_
            refine lv_bipush (v := 14) hx hb dX5_read_72 (by decide) ?_
            refine lv_iload_n hx hb dX5_read_74 rfl (lv_at hl 1 rfl) ?_
            refine lv_iadd hx hb dX5_read_75 ?_
            refine xm_topi (y := nI (14 + i)) (nI_add 14 i) ?_
            refine lv_aload_n hx hb dX5_read_76 rfl (lv_at hl 0 rfl) ?_
            refine va_get (D := (dC, dI)) (ci := 5) (v := .ref (mm 6)) (C := RX5) (T := TX5) (N := 16) hx hb hts hin5 hown hK hP 2 rfl rfl 10 (by decide) (hts (.fieldLink RX5 25 "TurnDigitsModel" "told" "[I") (by decide +kernel)) (fun _ h9 => h9) rfl dX5_read_77 ?_
            refine lv_iconst (v := 2) hx hb dX5_read_80 (by decide) ?_
            refine lv_iload_n hx hb dX5_read_81 rfl (lv_at hl 1 rfl) ?_
            refine lv_imul hx hb dX5_read_82 ?_
            refine xm_topi (y := nI (2 * i)) (pk_mul 2 i) ?_
            refine lv_iconst (v := 1) hx hb dX5_read_83 (by decide) ?_
            refine lv_iadd hx hb dX5_read_84 ?_
            refine xm_topi (y := nI (2 * i + 1)) (nI_add (2 * i) 1) ?_
            refine xm_iald (D := (dC, dI)) hx hb hK hP 1 0 (2 * i + 1) (v := (tp_t co n 6 0 0 tl) (2 * i + 1)) rfl rfl (by decide) rfl (by omega) rfl dX5_read_85 ?_
            refine xm_iast (D := (dC, dI)) hx hb hK hP hD hS 3 0 (14 + i) rfl rfl (by decide) rfl (by omega) dX5_read_86 (fun H locs hP hD hS => ?_)
            have hP : va_P (dC, dI) vwCl [((mm 5), .inl (cI, 60, .inl co)), ((mm 6), .inl (cI, 12, .inl (tp_t co n 6 0 0 tl))), ((mm 0), .inr (5, [.ref (mm 1), .ref (mm 2), .ref (mm 3), .ref (mm 4), .int (nI (if z = 6 then 6 else z + 1)), .ref (mm 5), .int 0, .int 0, .int (nI (tp_a co n 6 0 0)), .int (if nI (tp_a co n 6 0 0) < nI n then 1 else 0), .ref (mm 6), .int (nI (tp_j co n 6 0 0)), .ref (mm 7), .ref (mm 8), .ref (mm 9), .int fr])), ((mm 2), .inl (cI, 80, .inl (upd (upd (rr_v v (tp_t co n 6 0 0 tl) i) (8 + i) ((tp_t co n 6 0 0 tl) (2 * i))) (14 + i) ((tp_t co n 6 0 0 tl) (2 * i + 1))))), ((mm 4), .inl (cI, 480, .inl (mp_sv pv z v)))] H := hP
            have hD : va_D A [((mm 5), .inl (cI, 60, .inl co)), ((mm 6), .inl (cI, 12, .inl (tp_t co n 6 0 0 tl))), ((mm 0), .inr (5, [.ref (mm 1), .ref (mm 2), .ref (mm 3), .ref (mm 4), .int (nI (if z = 6 then 6 else z + 1)), .ref (mm 5), .int 0, .int 0, .int (nI (tp_a co n 6 0 0)), .int (if nI (tp_a co n 6 0 0) < nI n then 1 else 0), .ref (mm 6), .int (nI (tp_j co n 6 0 0)), .ref (mm 7), .ref (mm 8), .ref (mm 9), .int fr])), ((mm 2), .inl (cI, 80, .inl (upd (upd (rr_v v (tp_t co n 6 0 0 tl) i) (8 + i) ((tp_t co n 6 0 0 tl) (2 * i))) (14 + i) ((tp_t co n 6 0 0 tl) (2 * i + 1))))), ((mm 4), .inl (cI, 480, .inl (mp_sv pv z v)))] := hD
            refine lv_aload_n hx hb dX5_read_87 rfl (lv_at hl 0 rfl) ?_
            have hPc := hP.sub (ws' := [((mm 0), .inr (5, [.ref (mm 1), .ref (mm 2), .ref (mm 3), .ref (mm 4), .int (nI (if z = 6 then 6 else z + 1)), .ref (mm 5), .int 0, .int 0, .int (nI (tp_a co n 6 0 0)), .int (if nI (tp_a co n 6 0 0) < nI n then 1 else 0), .ref (mm 6), .int (nI (tp_j co n 6 0 0)), .ref (mm 7), .ref (mm 8), .ref (mm 9), .int fr])), ((mm 2), .inl (cI, 80, .inl (upd (upd (rr_v v (tp_t co n 6 0 0 tl) i) (8 + i) ((tp_t co n 6 0 0 tl) (2 * i))) (14 + i) ((tp_t co n 6 0 0 tl) (2 * i + 1)))))]) [2, 3] rfl
            have hDc := hD.sub (ws' := [((mm 0), .inr (5, [.ref (mm 1), .ref (mm 2), .ref (mm 3), .ref (mm 4), .int (nI (if z = 6 then 6 else z + 1)), .ref (mm 5), .int 0, .int 0, .int (nI (tp_a co n 6 0 0)), .int (if nI (tp_a co n 6 0 0) < nI n then 1 else 0), .ref (mm 6), .int (nI (tp_j co n 6 0 0)), .ref (mm 7), .ref (mm 8), .ref (mm 9), .int fr])), ((mm 2), .inl (cI, 80, .inl (upd (upd (rr_v v (tp_t co n 6 0 0 tl) i) (8 + i) ((tp_t co n 6 0 0 tl) (2 * i))) (14 + i) ((tp_t co n 6 0 0 tl) (2 * i + 1)))))]) [2, 3] (by decide) rfl
            have hFc := va_free (wc := [((mm 0), .inr (5, [.ref (mm 1), .ref (mm 2), .ref (mm 3), .ref (mm 4), .int (nI (if z = 6 then 6 else z + 1)), .ref (mm 5), .int 0, .int 0, .int (nI (tp_a co n 6 0 0)), .int (if nI (tp_a co n 6 0 0) < nI n then 1 else 0), .ref (mm 6), .int (nI (tp_j co n 6 0 0)), .ref (mm 7), .ref (mm 8), .ref (mm 9), .int fr])), ((mm 2), .inl (cI, 80, .inl (upd (upd (rr_v v (tp_t co n 6 0 0 tl) i) (8 + i) ((tp_t co n 6 0 0 tl) (2 * i))) (14 + i) ((tp_t co n 6 0 0 tl) (2 * i + 1)))))]) hD hS hA [2, 3] rfl
            refine va_callv (va_runV (As := []) (rest := []) ⟨hx, hb, hml, hown, hts⟩ (c_X5_noCredits l dC dI cI cS cJ tt H.size mm (nI (if z = 6 then 6 else z + 1)) 0 0 (nI (tp_a co n 6 0 0)) (if nI (tp_a co n 6 0 0) < nI n then 1 else 0) (nI (tp_j co n 6 0 0)) fr (upd (upd (rr_v v (tp_t co n 6 0 0 tl) i) (8 + i) ((tp_t co n 6 0 0 tl) (2 * i))) (14 + i) ((tp_t co n 6 0 0 tl) (2 * i + 1)))) (cwV 0 hts gX5_read_X5_noCredits rfl rfl rfl (by decide +kernel) ⟨Nat.le_of_ble_eq_true rfl, Nat.le_of_ble_eq_true rfl⟩) ⟨xm_Mblind, va_recv hK hPc (ci := 5) (q0 := 0) rfl rfl, fun U hU hW => ⟨rfl, by rw [hU], by rw [hU]; exact hPc, hE.go hS hFc hU hW, hDc.weaken (fun _ _ _ _ => trivial), trivial⟩⟩ rfl rfl hl.1 rfl (lv_room (Nat.le_of_ble_eq_true rfl)) dX5_read_88 ⟨Nat.zero_le _, Nat.zero_le _⟩) hS (fun q _ h => hFc q h) hFc (fun u t H1 locs ht hvm hw hB hz1 hk1 hS => ?_)
            obtain ⟨u_14, rfl⟩ : ∃ z, z = u := ⟨_, rfl⟩
            obtain ⟨hP1, hD1⟩ := hB
            rw [ht] at hP1
            have hw_15 := hw
            have hw_15 : u_14 = xv_zc (upd (upd (rr_v v (tp_t co n 6 0 0 tl) i) (8 + i) ((tp_t co n 6 0 0 tl) (2 * i))) (14 + i) ((tp_t co n 6 0 0 tl) (2 * i + 1))) := hw_15
            subst hw_15
            obtain ⟨hP, hD⟩ := va_join (wr := [((mm 5), .inl (cI, 60, .inl co)), ((mm 6), .inl (cI, 12, .inl (tp_t co n 6 0 0 tl))), ((mm 4), .inl (cI, 480, .inl (mp_sv pv z v)))]) (w1 := [((mm 0), .inr (5, [.ref (mm 1), .ref (mm 2), .ref (mm 3), .ref (mm 4), .int (nI (if z = 6 then 6 else z + 1)), .ref (mm 5), .int 0, .int 0, .int (nI (tp_a co n 6 0 0)), .int (if nI (tp_a co n 6 0 0) < nI n then 1 else 0), .ref (mm 6), .int (nI (tp_j co n 6 0 0)), .ref (mm 7), .ref (mm 8), .ref (mm 9), .int fr])), ((mm 2), .inl (cI, 80, .inl (xv_zc (upd (upd (rr_v v (tp_t co n 6 0 0 tl) i) (8 + i) ((tp_t co n 6 0 0 tl) (2 * i))) (14 + i) ((tp_t co n 6 0 0 tl) (2 * i + 1))))))]) hP hD [2, 3] [0, 1, 4] rfl rfl (by decide) (by decide) hk1 hFc hP1 hD1
            generalize H1 = H at hP hS ⊢
            have hP : va_P (dC, dI) vwCl [((mm 5), .inl (cI, 60, .inl co)), ((mm 6), .inl (cI, 12, .inl (tp_t co n 6 0 0 tl))), ((mm 4), .inl (cI, 480, .inl (mp_sv pv z v))), ((mm 0), .inr (5, [.ref (mm 1), .ref (mm 2), .ref (mm 3), .ref (mm 4), .int (nI (if z = 6 then 6 else z + 1)), .ref (mm 5), .int 0, .int 0, .int (nI (tp_a co n 6 0 0)), .int (if nI (tp_a co n 6 0 0) < nI n then 1 else 0), .ref (mm 6), .int (nI (tp_j co n 6 0 0)), .ref (mm 7), .ref (mm 8), .ref (mm 9), .int fr])), ((mm 2), .inl (cI, 80, .inl (xv_zc (upd (upd (rr_v v (tp_t co n 6 0 0 tl) i) (8 + i) ((tp_t co n 6 0 0 tl) (2 * i))) (14 + i) ((tp_t co n 6 0 0 tl) (2 * i + 1))))))] H := hP
            have hD : va_D A [((mm 5), .inl (cI, 60, .inl co)), ((mm 6), .inl (cI, 12, .inl (tp_t co n 6 0 0 tl))), ((mm 4), .inl (cI, 480, .inl (mp_sv pv z v))), ((mm 0), .inr (5, [.ref (mm 1), .ref (mm 2), .ref (mm 3), .ref (mm 4), .int (nI (if z = 6 then 6 else z + 1)), .ref (mm 5), .int 0, .int 0, .int (nI (tp_a co n 6 0 0)), .int (if nI (tp_a co n 6 0 0) < nI n then 1 else 0), .ref (mm 6), .int (nI (tp_j co n 6 0 0)), .ref (mm 7), .ref (mm 8), .ref (mm 9), .int fr])), ((mm 2), .inl (cI, 80, .inl (xv_zc (upd (upd (rr_v v (tp_t co n 6 0 0 tl) i) (8 + i) ((tp_t co n 6 0 0 tl) (2 * i))) (14 + i) ((tp_t co n 6 0 0 tl) (2 * i + 1))))))] := hD
            refine lv_iinc (v := nI (i + 1)) (lv' := [(1, .int (nI (i + 1))), (0, .ref (mm 0))]) hx hb dX5_read_91 hl (k := 1) rfl (nI_1 i) (by decide) rfl (fun lz hl => ?_)
            refine lv_goto (tgt := 29) hx hb dX5_read_94 (by decide) ?_
            have hP := hP.sub (ws' := [((mm 5), .inl (cI, 60, .inl co)), ((mm 6), .inl (cI, 12, .inl (tp_t co n 6 0 0 tl))), ((mm 0), .inr (5, [.ref (mm 1), .ref (mm 2), .ref (mm 3), .ref (mm 4), .int (nI (if z = 6 then 6 else z + 1)), .ref (mm 5), .int 0, .int 0, .int (nI (tp_a co n 6 0 0)), .int (if nI (tp_a co n 6 0 0) < nI n then 1 else 0), .ref (mm 6), .int (nI (tp_j co n 6 0 0)), .ref (mm 7), .ref (mm 8), .ref (mm 9), .int fr])), ((mm 2), .inl (cI, 80, .inl (xv_zc (upd (upd (rr_v v (tp_t co n 6 0 0 tl) i) (8 + i) ((tp_t co n 6 0 0 tl) (2 * i))) (14 + i) ((tp_t co n 6 0 0 tl) (2 * i + 1)))))), ((mm 4), .inl (cI, 480, .inl (mp_sv pv z v)))]) [0, 1, 3, 4, 2] rfl
            have hD := hD.sub (ws' := [((mm 5), .inl (cI, 60, .inl co)), ((mm 6), .inl (cI, 12, .inl (tp_t co n 6 0 0 tl))), ((mm 0), .inr (5, [.ref (mm 1), .ref (mm 2), .ref (mm 3), .ref (mm 4), .int (nI (if z = 6 then 6 else z + 1)), .ref (mm 5), .int 0, .int 0, .int (nI (tp_a co n 6 0 0)), .int (if nI (tp_a co n 6 0 0) < nI n then 1 else 0), .ref (mm 6), .int (nI (tp_j co n 6 0 0)), .ref (mm 7), .ref (mm 8), .ref (mm 9), .int fr])), ((mm 2), .inl (cI, 80, .inl (xv_zc (upd (upd (rr_v v (tp_t co n 6 0 0 tl) i) (8 + i) ((tp_t co n 6 0 0 tl) (2 * i))) (14 + i) ((tp_t co n 6 0 0 tl) (2 * i + 1)))))), ((mm 4), .inl (cI, 480, .inl (mp_sv pv z v)))]) [0, 1, 3, 4, 2] (by decide) rfl
            exact ih29 (i + 1) hlti (by omega) (xv_zc (upd (upd (rr_v v (tp_t co n 6 0 0 tl) i) (8 + i) ((tp_t co n 6 0 0 tl) (2 * i))) (14 + i) ((tp_t co n 6 0 0 tl) (2 * i + 1)))) (by symm; show (if (tp_t co n 6 0 0 tl) (2 * i + 1) = -1 then _ else _) = _; exact if_neg q65)  H locs hP hD hS lz (lv_sub hl [1, 0] rfl)
    exact L29 ((tp_j co n 6 0 0) + 1) 0 (by omega) (by omega) v rfl  H locs hP hD hS lz (lv_sub hl [1, 0] rfl)
  · have hx1 : xc_re co n = 1 := by rcases xc_re_01 co n with h | h; exact absurd (q9.symm.trans (hAl.2.2.1.trans (if_pos h))) (by decide); exact h
    refine lv_aload_n hx hb dX5_read_12 rfl (lv_at hl 0 rfl) ?_
    refine lv_iconst (v := 1) hx hb dX5_read_13 (by decide) ?_
    have hPc := hP.sub (ws' := [((mm 0), .inr (5, [.ref (mm 1), .ref (mm 2), .ref (mm 3), .ref (mm 4), .int (nI z), .ref (mm 5), .int (nI n), .int 0, .int (nI (tp_a co n 6 0 0)), .int (if nI (tp_a co n 6 0 0) < nI n then 1 else 0), .ref (mm 6), .int (nI (tp_j co n 6 0 0)), .ref (mm 7), .ref (mm 8), .ref (mm 9), .int fr]))]) [2] rfl
    have hDc := hD.sub (ws' := [((mm 0), .inr (5, [.ref (mm 1), .ref (mm 2), .ref (mm 3), .ref (mm 4), .int (nI z), .ref (mm 5), .int (nI n), .int 0, .int (nI (tp_a co n 6 0 0)), .int (if nI (tp_a co n 6 0 0) < nI n then 1 else 0), .ref (mm 6), .int (nI (tp_j co n 6 0 0)), .ref (mm 7), .ref (mm 8), .ref (mm 9), .int fr]))]) [2] (by decide) rfl
    have hFc := va_free (wc := [((mm 0), .inr (5, [.ref (mm 1), .ref (mm 2), .ref (mm 3), .ref (mm 4), .int (nI z), .ref (mm 5), .int (nI n), .int 0, .int (nI (tp_a co n 6 0 0)), .int (if nI (tp_a co n 6 0 0) < nI n then 1 else 0), .ref (mm 6), .int (nI (tp_j co n 6 0 0)), .ref (mm 7), .ref (mm 8), .ref (mm 9), .int fr]))]) hD hS hA [2] rfl
    refine va_calli (va_runV (As := [.int 1]) (rest := []) ⟨hx, hb, hml, hown, hts⟩ (c_X5_fails l dC dI cI cS cJ tt H.size mm (nI z) (nI n) 0 (nI (tp_a co n 6 0 0)) (if nI (tp_a co n 6 0 0) < nI n then 1 else 0) (nI (tp_j co n 6 0 0)) fr 1) (cwV 1 hts gX5_read_X5_fails rfl rfl rfl (by decide +kernel) ⟨Nat.le_of_ble_eq_true rfl, Nat.le_of_ble_eq_true rfl⟩) ⟨xm_Mblind, va_recv hK hPc (ci := 5) (q0 := 0) rfl rfl, fun U hU hW => ⟨rfl, by rw [hU], by rw [hU]; exact hPc, hE.go hS hFc hU hW, hDc.weaken (fun _ _ _ _ => trivial), trivial⟩⟩ rfl rfl hl.1 rfl (lv_room (Nat.le_of_ble_eq_true rfl)) dX5_read_14 ⟨Nat.zero_le _, Nat.zero_le _⟩) hS (fun q _ h => hFc q h) hFc (fun r u t H1 locs ht hvm hw hB hz1 hk1 hS => ?_)
    obtain ⟨u_16, rfl⟩ : ∃ z, z = u := ⟨_, rfl⟩
    obtain ⟨hP1, hD1⟩ := hB
    rw [ht] at hP1
    obtain ⟨hw_17, hw_18⟩ := hw
    have hw_17 : r = 0 := hw_17
    subst hw_17
    have hw_18 : u_16 = 1 := hw_18
    subst hw_18
    obtain ⟨hP, hD⟩ := va_join (wr := [((mm 2), .inl (cI, 80, .inl v)), ((mm 4), .inl (cI, 480, .inl pv)), ((mm 5), .inl (cI, 60, .inl co)), ((mm 6), .inl (cI, 12, .inl (tp_t co n 6 0 0 tl)))]) (w1 := [((mm 0), .inr (5, [.ref (mm 1), .ref (mm 2), .ref (mm 3), .ref (mm 4), .int (nI z), .ref (mm 5), .int (nI n), .int 1, .int (nI (tp_a co n 6 0 0)), .int (if nI (tp_a co n 6 0 0) < nI n then 1 else 0), .ref (mm 6), .int (nI (tp_j co n 6 0 0)), .ref (mm 7), .ref (mm 8), .ref (mm 9), .int fr]))]) hP hD [2] [0, 1, 3, 4] rfl rfl (by decide) (by decide) hk1 hFc hP1 hD1
    generalize H1 = H at hP hS ⊢
    have hP : va_P (dC, dI) vwCl [((mm 2), .inl (cI, 80, .inl v)), ((mm 4), .inl (cI, 480, .inl pv)), ((mm 5), .inl (cI, 60, .inl co)), ((mm 6), .inl (cI, 12, .inl (tp_t co n 6 0 0 tl))), ((mm 0), .inr (5, [.ref (mm 1), .ref (mm 2), .ref (mm 3), .ref (mm 4), .int (nI z), .ref (mm 5), .int (nI n), .int 1, .int (nI (tp_a co n 6 0 0)), .int (if nI (tp_a co n 6 0 0) < nI n then 1 else 0), .ref (mm 6), .int (nI (tp_j co n 6 0 0)), .ref (mm 7), .ref (mm 8), .ref (mm 9), .int fr]))] H := hP
    have hD : va_D A [((mm 2), .inl (cI, 80, .inl v)), ((mm 4), .inl (cI, 480, .inl pv)), ((mm 5), .inl (cI, 60, .inl co)), ((mm 6), .inl (cI, 12, .inl (tp_t co n 6 0 0 tl))), ((mm 0), .inr (5, [.ref (mm 1), .ref (mm 2), .ref (mm 3), .ref (mm 4), .int (nI z), .ref (mm 5), .int (nI n), .int 1, .int (nI (tp_a co n 6 0 0)), .int (if nI (tp_a co n 6 0 0) < nI n then 1 else 0), .ref (mm 6), .int (nI (tp_j co n 6 0 0)), .ref (mm 7), .ref (mm 8), .ref (mm 9), .int fr]))] := hD
    have hc9 : xc_re co n = 1 := hx1
    have hn9 : ¬ xc_re co n = 0 := by rw [hc9]; decide
    have hP9 := hP.sub (ws' := [((mm 0), .inr (5, [.ref (mm 1), .ref (mm 2), .ref (mm 3), .ref (mm 4), .int (nI z), .ref (mm 5), .int (nI n), .int 1, .int (nI (tp_a co n 6 0 0)), .int (if nI (tp_a co n 6 0 0) < nI n then 1 else 0), .ref (mm 6), .int (nI (tp_j co n 6 0 0)), .ref (mm 7), .ref (mm 8), .ref (mm 9), .int fr])), ((mm 2), .inl (cI, 80, .inl v)), ((mm 4), .inl (cI, 480, .inl pv)), ((mm 5), .inl (cI, 60, .inl co)), ((mm 6), .inl (cI, 12, .inl (tp_t co n 6 0 0 tl)))]) [4, 0, 1, 2, 3] rfl
    have hD9 := hD.sub (ws' := [((mm 0), .inr (5, [.ref (mm 1), .ref (mm 2), .ref (mm 3), .ref (mm 4), .int (nI z), .ref (mm 5), .int (nI n), .int 1, .int (nI (tp_a co n 6 0 0)), .int (if nI (tp_a co n 6 0 0) < nI n then 1 else 0), .ref (mm 6), .int (nI (tp_j co n 6 0 0)), .ref (mm 7), .ref (mm 8), .ref (mm 9), .int fr])), ((mm 2), .inl (cI, 80, .inl v)), ((mm 4), .inl (cI, 480, .inl pv)), ((mm 5), .inl (cI, 60, .inl co)), ((mm 6), .inl (cI, 12, .inl (tp_t co n 6 0 0 tl)))]) [4, 0, 1, 2, 3] (by decide) rfl
    exact W.iret (v := 0) hx hb hr (fun t ht hW => ⟨⟨0, (1, (nI z), (nI n), (nI (tp_a co n 6 0 0)), (if nI (tp_a co n 6 0 0) < nI n then 1 else 0), (nI (tp_j co n 6 0 0)), v, pv, (tp_t co n 6 0 0 tl)), rfl, ⟨(if_neg hn9).symm, (hc9.symm), (if_neg hn9).symm, (if_neg hn9).symm, (if_neg hn9).symm, (if_neg hn9).symm⟩, by rw [ht]; exact hP9, hD9⟩, hS.F ht⟩) hS.2.2 dX5_read_17

