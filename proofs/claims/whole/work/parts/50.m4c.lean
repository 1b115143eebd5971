set_option maxHeartbeats 4000000 in
set_option maxRecDepth 100000 in
theorem c_X5_digit (l : Launch) (dC : Nat → ClassId) (dI : Nat → Nat → Nat) (cI cS cJ : ClassId) (tt : Nat → Nat) (sz : Nat) (mm : Nat → Nat) (kp : Int32) (ty : Int32) (th : Int32) (at0 : Int32) (fa : Int32) (ts : Int32) (fr : Int32) (p0 : Int32) (p1 : Int32) (v : Nat → Int32) (ow : Nat → Int32) (li : Nat → Int32) (cr : Nat → Int32) (n : Nat) : Met l yX5_digit wsX5_digit ({ frames := 5, cells := 0, slots := 0, locals := 114 } : Room) (va_Pc [.ref (mm 0), .int p0, .int p1] (xm_M (dC, dI) cI cS cJ tt [((mm 0), .inr (5, [.ref (mm 1), .ref (mm 2), .ref (mm 3), .ref (mm 4), .int kp, .ref (mm 5), .int ty, .int th, .int at0, .int fa, .ref (mm 6), .int ts, .ref (mm 7), .ref (mm 8), .ref (mm 9), .int fr])), ((mm 1), .inl (cI, 12, .inl xm_mk)), ((mm 2), .inl (cI, 80, .inl v)), ((mm 7), .inl (cI, 96, .inl ow)), ((mm 8), .inl (cI, 96, .inl li)), ((mm 9), .inl (cI, 6, .inl cr))] sz (vo_f v n ∧ (∀ j, j < 6 → fm_ix (v (8 + j)) 12)))) (va_Qi (fun (r : Int32) (u : Int32 × Int32 × (Nat → Int32) × (Nat → Int32) × (Nat → Int32)) => r = (if xc_dg p0 p1 = 0 then lk_dg v n p0.toNatClampNeg p1.toNatClampNeg else 0) ∧ u.1 = xc_dg p0 p1) (xm_B (dC, dI) (fun (u : Int32 × Int32 × (Nat → Int32) × (Nat → Int32) × (Nat → Int32)) => [((mm 0), .inr (5, [.ref (mm 1), .ref (mm 2), .ref (mm 3), .ref (mm 4), .int kp, .ref (mm 5), .int ty, .int u.1, .int at0, .int fa, .ref (mm 6), .int ts, .ref (mm 7), .ref (mm 8), .ref (mm 9), .int u.2.1])), ((mm 1), .inl (cI, 12, .inl xm_mk)), ((mm 2), .inl (cI, 80, .inl v)), ((mm 7), .inl (cI, 96, .inl u.2.2.1)), ((mm 8), .inl (cI, 96, .inl u.2.2.2.1)), ((mm 9), .inl (cI, 6, .inl u.2.2.2.2))]) (va_A [((mm 0), .inr (5, [.ref (mm 1), .ref (mm 2), .ref (mm 3), .ref (mm 4), .int kp, .ref (mm 5), .int ty, .int th, .int at0, .int fa, .ref (mm 6), .int ts, .ref (mm 7), .ref (mm 8), .ref (mm 9), .int fr])), ((mm 1), .inl (cI, 12, .inl xm_mk)), ((mm 2), .inl (cI, 80, .inl v)), ((mm 7), .inl (cI, 96, .inl ow)), ((mm 8), .inl (cI, 96, .inl li)), ((mm 9), .inl (cI, 6, .inl cr))] sz)) (va_A [((mm 0), .inr (5, [.ref (mm 1), .ref (mm 2), .ref (mm 3), .ref (mm 4), .int kp, .ref (mm 5), .int ty, .int th, .int at0, .int fa, .ref (mm 6), .int ts, .ref (mm 7), .ref (mm 8), .ref (mm 9), .int fr])), ((mm 1), .inl (cI, 12, .inl xm_mk)), ((mm 2), .inl (cI, 80, .inl v)), ((mm 7), .inl (cI, 96, .inl ow)), ((mm 8), .inl (cI, 96, .inl li)), ((mm 9), .inl (cI, 6, .inl cr))] sz)) 0 0 (va_A [((mm 0), .inr (5, [.ref (mm 1), .ref (mm 2), .ref (mm 3), .ref (mm 4), .int kp, .ref (mm 5), .int ty, .int th, .int at0, .int fa, .ref (mm 6), .int ts, .ref (mm 7), .ref (mm 8), .ref (mm 9), .int fr])), ((mm 1), .inl (cI, 12, .inl xm_mk)), ((mm 2), .inl (cI, 80, .inl v)), ((mm 7), .inl (cI, 96, .inl ow)), ((mm 8), .inl (cI, 96, .inl li)), ((mm 9), .inl (cI, 6, .inl cr))] sz) := by
  refine Met.ofW (cc := cX5_digit) (maxL := 3) (ret := (some .int)) (by decide) rfl ?_
  intro p e s m args below meth c s₁ B hml hv
  obtain ⟨rfl, hsz, hP, hE, hD0, hpre⟩ := hv
  have hx := B.exec
  have hb := B.bytes
  have hr := B.returns
  have hts := atoms_spec (ws := wsX5_digit) B.pre
  have hown : s.vm.findClass RX5 = some m.cls := findClass_of_methodNamed B.named
  have hlocks := B.notSynchronized
  have hK := hE.1
  subst hsz
  have hD := hD0.self (sz := s.heap.size)
  generalize hAe : va_A [((mm 0), .inr (5, [.ref (mm 1), .ref (mm 2), .ref (mm 3), .ref (mm 4), .int kp, .ref (mm 5), .int ty, .int th, .int at0, .int fa, .ref (mm 6), .int ts, .ref (mm 7), .ref (mm 8), .ref (mm 9), .int fr])), ((mm 1), .inl (cI, 12, .inl xm_mk)), ((mm 2), .inl (cI, 80, .inl v)), ((mm 7), .inl (cI, 96, .inl ow)), ((mm 8), .inl (cI, 96, .inl li)), ((mm 9), .inl (cI, 6, .inl cr))] s.heap.size = A at hD hE ⊢
  have hA : ∀ q : Nat, s.heap.size ≤ q → A q := fun q h => by rw [← hAe]; exact Or.inr h
  have hS : va_S A s.heap s.heap [] := va_S.rf
  have hP : va_P (dC, dI) vwCl [((mm 0), .inr (5, [.ref (mm 1), .ref (mm 2), .ref (mm 3), .ref (mm 4), .int kp, .ref (mm 5), .int ty, .int th, .int at0, .int fa, .ref (mm 6), .int ts, .ref (mm 7), .ref (mm 8), .ref (mm 9), .int fr])), ((mm 1), .inl (cI, 12, .inl xm_mk)), ((mm 2), .inl (cI, 80, .inl v)), ((mm 7), .inl (cI, 96, .inl ow)), ((mm 8), .inl (cI, 96, .inl li)), ((mm 9), .inl (cI, 6, .inl cr))] s.heap := hP
  have hin5 : ∀ w ∈ u_ws RX5 TX5 16, w ∈ wsX5_digit := by decide +kernel
  have hl := lv_entry [.ref (mm 0), .int p0, .int p1] (n := 3) (Nat.le_of_ble_eq_true rfl)
  rw [lg_entry_eq]
  generalize (lg_sl [.ref (mm 0), .int p0, .int p1] ++ List.replicate (3 - (lg_sl [.ref (mm 0), .int p0, .int p1]).length) Slot.unset).toArray = lz at hl ⊢
  have hl : lv_has lz 3 [(0, .ref (mm 0)), (1, .int p0), (2, .int p1)] := hl
  refine lv_aload_n hx hb dX5_digit_0 rfl (lv_at hl 0 rfl) ?_
  refine lv_iconst (v := 0) hx hb dX5_digit_1 (by decide) ?_
  refine va_put (D := (dC, dI)) (ci := 5) (v := .int 0) (ty := .int) (C := RX5) (T := TX5) (N := 16) hx hb hts hin5 tyX5 tyX5_ok nmX5 hown hK hP hD hS 0 rfl rfl 7 (by decide) (hts (.fieldLink RX5 37 "TurnDigitsModel" "thrown" "I") (by decide +kernel)) (fun _ h9 => h9) rfl (by decide +kernel) rfl rfl (Nat.le_of_ble_eq_true rfl) dX5_digit_2 (fun H locs hP hD hS => ?_)
  have hP : va_P (dC, dI) vwCl [((mm 0), .inr (5, [.ref (mm 1), .ref (mm 2), .ref (mm 3), .ref (mm 4), .int kp, .ref (mm 5), .int ty, .int 0, .int at0, .int fa, .ref (mm 6), .int ts, .ref (mm 7), .ref (mm 8), .ref (mm 9), .int fr])), ((mm 1), .inl (cI, 12, .inl xm_mk)), ((mm 2), .inl (cI, 80, .inl v)), ((mm 7), .inl (cI, 96, .inl ow)), ((mm 8), .inl (cI, 96, .inl li)), ((mm 9), .inl (cI, 6, .inl cr))] H := hP
  have hD : va_D A [((mm 0), .inr (5, [.ref (mm 1), .ref (mm 2), .ref (mm 3), .ref (mm 4), .int kp, .ref (mm 5), .int ty, .int 0, .int at0, .int fa, .ref (mm 6), .int ts, .ref (mm 7), .ref (mm 8), .ref (mm 9), .int fr])), ((mm 1), .inl (cI, 12, .inl xm_mk)), ((mm 2), .inl (cI, 80, .inl v)), ((mm 7), .inl (cI, 96, .inl ow)), ((mm 8), .inl (cI, 96, .inl li)), ((mm 9), .inl (cI, 6, .inl cr))] := hD
  refine lv_iload_n hx hb dX5_digit_5 rfl (lv_at hl 1 rfl) ?_
  have hPc := hP.sub (ws' := []) [] rfl
  refine W.callV ((va_runS (As := [.int p0]) (rest := []) ⟨hx, hb, hml, hown, hts⟩ (c_X5_isDigit l dC dI cI cS cJ tt p0) (va_cwS 1 hts gX5_digit_X5_isDigit rfl rfl rfl (by decide +kernel) ⟨Nat.le_of_ble_eq_true rfl, Nat.le_of_ble_eq_true rfl⟩) ⟨xm_Rblind, fun U hU hW => ⟨rfl, by rw [hU]; exact hPc, hE.go hS (fun _ q => q.elim) hU hW, trivial⟩⟩ rfl rfl hl.1 rfl (lv_room (Nat.le_of_ble_eq_true rfl)) dX5_digit_6 ⟨Nat.zero_le _, Nat.zero_le _⟩).run) ?_
  refine W.eq (g2 := F0 m 9 lz (.int (if xt_dg 6 p0 = 0 then 1 else 0) :: [])) rfl ?_
  refine lv_if_ne (tgt := 18) hx hb dX5_digit_9 (by decide) (fun q9 => ?_) (fun q9 => ?_)
  · have q9b : xt_dg 6 p0 = 0 := xm_bT q9
    refine lv_iload_n hx hb dX5_digit_18 rfl (lv_at hl 2 rfl) ?_
    refine lv_iconst (v := 0) hx hb dX5_digit_19 (by decide) ?_
    refine lv_bipush (v := 11) hx hb dX5_digit_20 (by decide) ?_
    have hPc := hP.sub (ws' := []) [] rfl
    refine W.callV ((va_runS (As := [.int p1, .int 0, .int 11]) (rest := []) ⟨hx, hb, hml, hown, hts⟩ (c_X5_in l dC dI cI cS cJ tt p1 0 11) (va_cwS 3 hts gX5_digit_X5_in rfl rfl rfl (by decide +kernel) ⟨Nat.le_of_ble_eq_true rfl, Nat.le_of_ble_eq_true rfl⟩) ⟨xm_Rblind, fun U hU hW => ⟨rfl, by rw [hU]; exact hPc, hE.go hS (fun _ q => q.elim) hU hW, trivial⟩⟩ rfl rfl hl.1 rfl (lv_room (Nat.le_of_ble_eq_true rfl)) dX5_digit_22 ⟨Nat.zero_le _, Nat.zero_le _⟩).run) ?_
    refine W.eq (g2 := F0 m 25 lz (.int (if xt_rg p1 0 11 = 0 then 1 else 0) :: [])) rfl ?_
    refine lv_if_eq (tgt := 37) hx hb dX5_digit_25 (by decide) (fun q25 => ?_) (fun q25 => ?_)
    · have q25b : ¬ xt_rg p1 0 11 = 0 := xm_bF q25
      refine lv_aload_n hx hb dX5_digit_37 rfl (lv_at hl 0 rfl) ?_
      refine lv_iconst (v := 2) hx hb dX5_digit_38 (by decide) ?_
      have hPc := hP.sub (ws' := [((mm 0), .inr (5, [.ref (mm 1), .ref (mm 2), .ref (mm 3), .ref (mm 4), .int kp, .ref (mm 5), .int ty, .int 0, .int at0, .int fa, .ref (mm 6), .int ts, .ref (mm 7), .ref (mm 8), .ref (mm 9), .int fr]))]) [0] rfl
      have hDc := hD.sub (ws' := [((mm 0), .inr (5, [.ref (mm 1), .ref (mm 2), .ref (mm 3), .ref (mm 4), .int kp, .ref (mm 5), .int ty, .int 0, .int at0, .int fa, .ref (mm 6), .int ts, .ref (mm 7), .ref (mm 8), .ref (mm 9), .int fr]))]) [0] (by decide) rfl
      have hFc := va_free (wc := [((mm 0), .inr (5, [.ref (mm 1), .ref (mm 2), .ref (mm 3), .ref (mm 4), .int kp, .ref (mm 5), .int ty, .int 0, .int at0, .int fa, .ref (mm 6), .int ts, .ref (mm 7), .ref (mm 8), .ref (mm 9), .int fr]))]) hD hS hA [0] rfl
      refine va_calli (va_runV (As := [.int 2]) (rest := []) ⟨hx, hb, hml, hown, hts⟩ (c_X5_fails l dC dI cI cS cJ tt H.size mm kp ty 0 at0 fa ts fr 2) (cwV 1 hts gX5_digit_X5_fails rfl rfl rfl (by decide +kernel) ⟨Nat.le_of_ble_eq_true rfl, Nat.le_of_ble_eq_true rfl⟩) ⟨xm_Mblind, va_recv hK hPc (ci := 5) (q0 := 0) rfl rfl, fun U hU hW => ⟨rfl, by rw [hU], by rw [hU]; exact hPc, hE.go hS hFc hU hW, hDc.weaken (fun _ _ _ _ => trivial), trivial⟩⟩ rfl rfl hl.1 rfl (lv_room (Nat.le_of_ble_eq_true rfl)) dX5_digit_39 ⟨Nat.zero_le _, Nat.zero_le _⟩) hS (fun q _ h => hFc q h) hFc (fun r u t H1 locs ht hvm hw hB hz1 hk1 hS => ?_)
      obtain ⟨u_1, rfl⟩ : ∃ z, z = u := ⟨_, rfl⟩
      obtain ⟨hP1, hD1⟩ := hB
      rw [ht] at hP1
      obtain ⟨hw_2, hw_3⟩ := hw
      have hw_2 : r = 0 := hw_2
      subst hw_2
      have hw_3 : u_1 = 2 := hw_3
      subst hw_3
      obtain ⟨hP, hD⟩ := va_join (wr := [((mm 1), .inl (cI, 12, .inl xm_mk)), ((mm 2), .inl (cI, 80, .inl v)), ((mm 7), .inl (cI, 96, .inl ow)), ((mm 8), .inl (cI, 96, .inl li)), ((mm 9), .inl (cI, 6, .inl cr))]) (w1 := [((mm 0), .inr (5, [.ref (mm 1), .ref (mm 2), .ref (mm 3), .ref (mm 4), .int kp, .ref (mm 5), .int ty, .int 2, .int at0, .int fa, .ref (mm 6), .int ts, .ref (mm 7), .ref (mm 8), .ref (mm 9), .int fr]))]) hP hD [0] [1, 2, 3, 4, 5] rfl rfl (by decide) (by decide) hk1 hFc hP1 hD1
      generalize H1 = H at hP hS ⊢
      have hP : va_P (dC, dI) vwCl [((mm 1), .inl (cI, 12, .inl xm_mk)), ((mm 2), .inl (cI, 80, .inl v)), ((mm 7), .inl (cI, 96, .inl ow)), ((mm 8), .inl (cI, 96, .inl li)), ((mm 9), .inl (cI, 6, .inl cr)), ((mm 0), .inr (5, [.ref (mm 1), .ref (mm 2), .ref (mm 3), .ref (mm 4), .int kp, .ref (mm 5), .int ty, .int 2, .int at0, .int fa, .ref (mm 6), .int ts, .ref (mm 7), .ref (mm 8), .ref (mm 9), .int fr]))] H := hP
      have hD : va_D A [((mm 1), .inl (cI, 12, .inl xm_mk)), ((mm 2), .inl (cI, 80, .inl v)), ((mm 7), .inl (cI, 96, .inl ow)), ((mm 8), .inl (cI, 96, .inl li)), ((mm 9), .inl (cI, 6, .inl cr)), ((mm 0), .inr (5, [.ref (mm 1), .ref (mm 2), .ref (mm 3), .ref (mm 4), .int kp, .ref (mm 5), .int ty, .int 2, .int at0, .int fa, .ref (mm 6), .int ts, .ref (mm 7), .ref (mm 8), .ref (mm 9), .int fr]))] := hD
      have hc9 : xc_dg p0 p1 = 2 := by simp only [xc_dg, if_pos q9b, if_neg q25b]
      have hn9 : ¬ xc_dg p0 p1 = 0 := by rw [hc9]; decide
      have hP9 := hP.sub (ws' := [((mm 0), .inr (5, [.ref (mm 1), .ref (mm 2), .ref (mm 3), .ref (mm 4), .int kp, .ref (mm 5), .int ty, .int 2, .int at0, .int fa, .ref (mm 6), .int ts, .ref (mm 7), .ref (mm 8), .ref (mm 9), .int fr])), ((mm 1), .inl (cI, 12, .inl xm_mk)), ((mm 2), .inl (cI, 80, .inl v)), ((mm 7), .inl (cI, 96, .inl ow)), ((mm 8), .inl (cI, 96, .inl li)), ((mm 9), .inl (cI, 6, .inl cr))]) [5, 0, 1, 2, 3, 4] rfl
      have hD9 := hD.sub (ws' := [((mm 0), .inr (5, [.ref (mm 1), .ref (mm 2), .ref (mm 3), .ref (mm 4), .int kp, .ref (mm 5), .int ty, .int 2, .int at0, .int fa, .ref (mm 6), .int ts, .ref (mm 7), .ref (mm 8), .ref (mm 9), .int fr])), ((mm 1), .inl (cI, 12, .inl xm_mk)), ((mm 2), .inl (cI, 80, .inl v)), ((mm 7), .inl (cI, 96, .inl ow)), ((mm 8), .inl (cI, 96, .inl li)), ((mm 9), .inl (cI, 6, .inl cr))]) [5, 0, 1, 2, 3, 4] (by decide) rfl
      exact W.iret (v := 0) hx hb hr (fun t ht hW => ⟨⟨0, (2, fr, ow, li, cr), rfl, ⟨(if_neg hn9).symm, (hc9.symm)⟩, by rw [ht]; exact hP9, hD9⟩, hS.F ht⟩) hS.2.2 dX5_digit_42
    · have q25b : xt_rg p1 0 11 = 0 := xm_bT q25
      refine lv_aload_n hx hb dX5_digit_28 rfl (lv_at hl 0 rfl) ?_
      refine lv_iload_n hx hb dX5_digit_29 rfl (lv_at hl 1 rfl) ?_
      refine xm_topi (y := (nI p0.toNatClampNeg)) (xt_dg_ok (n := 6) (by decide) q9b).1 ?_
      refine lv_iload_n hx hb dX5_digit_30 rfl (lv_at hl 2 rfl) ?_
      refine xm_topi (y := (nI p1.toNatClampNeg)) (xc_n (a := 0) (b := 11) q25b rfl rfl (by decide) (by decide)).1 ?_
      have hPc := hP.sub (ws' := [((mm 0), .inr (5, [.ref (mm 1), .ref (mm 2), .ref (mm 3), .ref (mm 4), .int kp, .ref (mm 5), .int ty, .int 0, .int at0, .int fa, .ref (mm 6), .int ts, .ref (mm 7), .ref (mm 8), .ref (mm 9), .int fr])), ((mm 1), .inl (cI, 12, .inl xm_mk)), ((mm 2), .inl (cI, 80, .inl v)), ((mm 7), .inl (cI, 96, .inl ow)), ((mm 8), .inl (cI, 96, .inl li)), ((mm 9), .inl (cI, 6, .inl cr))]) [0, 1, 2, 3, 4, 5] rfl
      have hDc := hD.sub (ws' := [((mm 0), .inr (5, [.ref (mm 1), .ref (mm 2), .ref (mm 3), .ref (mm 4), .int kp, .ref (mm 5), .int ty, .int 0, .int at0, .int fa, .ref (mm 6), .int ts, .ref (mm 7), .ref (mm 8), .ref (mm 9), .int fr])), ((mm 1), .inl (cI, 12, .inl xm_mk)), ((mm 2), .inl (cI, 80, .inl v)), ((mm 7), .inl (cI, 96, .inl ow)), ((mm 8), .inl (cI, 96, .inl li)), ((mm 9), .inl (cI, 6, .inl cr))]) [0, 1, 2, 3, 4, 5] (by decide) rfl
      have hFc := va_free (wc := [((mm 0), .inr (5, [.ref (mm 1), .ref (mm 2), .ref (mm 3), .ref (mm 4), .int kp, .ref (mm 5), .int ty, .int 0, .int at0, .int fa, .ref (mm 6), .int ts, .ref (mm 7), .ref (mm 8), .ref (mm 9), .int fr])), ((mm 1), .inl (cI, 12, .inl xm_mk)), ((mm 2), .inl (cI, 80, .inl v)), ((mm 7), .inl (cI, 96, .inl ow)), ((mm 8), .inl (cI, 96, .inl li)), ((mm 9), .inl (cI, 6, .inl cr))]) hD hS hA [0, 1, 2, 3, 4, 5] rfl
      refine va_calli (va_runV (As := [.int (nI p0.toNatClampNeg), .int (nI p1.toNatClampNeg)]) (rest := []) ⟨hx, hb, hml, hown, hts⟩ (c_X5_ofDigit l dC dI cI cS cJ tt H.size mm kp ty 0 at0 fa ts fr v ow li cr n p0.toNatClampNeg p1.toNatClampNeg) (cwV 2 hts gX5_digit_X5_ofDigit rfl rfl rfl (by decide +kernel) ⟨Nat.le_of_ble_eq_true rfl, Nat.le_of_ble_eq_true rfl⟩) ⟨xm_Mblind, va_recv hK hPc (ci := 5) (q0 := 0) rfl rfl, fun U hU hW => ⟨rfl, by rw [hU], by rw [hU]; exact hPc, hE.go hS hFc hU hW, hDc.weaken (fun _ _ _ _ => trivial), ⟨hpre, (xt_dg_ok (n := 6) (by decide) q9b).2, (xc_n (a := 0) (b := 11) q25b rfl rfl (by decide) (by decide)).2.2⟩⟩⟩ rfl rfl hl.1 rfl (lv_room (Nat.le_of_ble_eq_true rfl)) dX5_digit_31 ⟨Nat.zero_le _, Nat.zero_le _⟩) hS (fun q _ h => hFc q h) hFc (fun r u t H1 locs ht hvm hw hB hz1 hk1 hS => ?_)
      obtain ⟨u_4, u_5, u_6, u_7⟩ := u
      obtain ⟨hP1, hD1⟩ := hB
      rw [ht] at hP1
      have hw_8 := hw
      have hw_8 : r = lk_dg v n p0.toNatClampNeg p1.toNatClampNeg := hw_8
      subst hw_8
      obtain ⟨hP, hD⟩ := va_join (wr := []) (w1 := [((mm 0), .inr (5, [.ref (mm 1), .ref (mm 2), .ref (mm 3), .ref (mm 4), .int kp, .ref (mm 5), .int ty, .int 0, .int at0, .int fa, .ref (mm 6), .int ts, .ref (mm 7), .ref (mm 8), .ref (mm 9), .int u_4])), ((mm 1), .inl (cI, 12, .inl xm_mk)), ((mm 2), .inl (cI, 80, .inl v)), ((mm 7), .inl (cI, 96, .inl u_5)), ((mm 8), .inl (cI, 96, .inl u_6)), ((mm 9), .inl (cI, 6, .inl u_7))]) hP hD [0, 1, 2, 3, 4, 5] [] rfl rfl (by decide) (by decide) hk1 hFc hP1 hD1
      generalize H1 = H at hP hS ⊢
      have hP : va_P (dC, dI) vwCl [((mm 0), .inr (5, [.ref (mm 1), .ref (mm 2), .ref (mm 3), .ref (mm 4), .int kp, .ref (mm 5), .int ty, .int 0, .int at0, .int fa, .ref (mm 6), .int ts, .ref (mm 7), .ref (mm 8), .ref (mm 9), .int u_4])), ((mm 1), .inl (cI, 12, .inl xm_mk)), ((mm 2), .inl (cI, 80, .inl v)), ((mm 7), .inl (cI, 96, .inl u_5)), ((mm 8), .inl (cI, 96, .inl u_6)), ((mm 9), .inl (cI, 6, .inl u_7))] H := hP
      have hD : va_D A [((mm 0), .inr (5, [.ref (mm 1), .ref (mm 2), .ref (mm 3), .ref (mm 4), .int kp, .ref (mm 5), .int ty, .int 0, .int at0, .int fa, .ref (mm 6), .int ts, .ref (mm 7), .ref (mm 8), .ref (mm 9), .int u_4])), ((mm 1), .inl (cI, 12, .inl xm_mk)), ((mm 2), .inl (cI, 80, .inl v)), ((mm 7), .inl (cI, 96, .inl u_5)), ((mm 8), .inl (cI, 96, .inl u_6)), ((mm 9), .inl (cI, 6, .inl u_7))] := hD
      refine lv_goto (tgt := 42) hx hb dX5_digit_34 (by decide) ?_
      have hc9 : xc_dg p0 p1 = 0 := by simp only [xc_dg, if_pos q9b, if_pos q25b]
      have hP9 : va_P (dC, dI) vwCl [((mm 0), .inr (5, [.ref (mm 1), .ref (mm 2), .ref (mm 3), .ref (mm 4), .int kp, .ref (mm 5), .int ty, .int 0, .int at0, .int fa, .ref (mm 6), .int ts, .ref (mm 7), .ref (mm 8), .ref (mm 9), .int u_4])), ((mm 1), .inl (cI, 12, .inl xm_mk)), ((mm 2), .inl (cI, 80, .inl v)), ((mm 7), .inl (cI, 96, .inl u_5)), ((mm 8), .inl (cI, 96, .inl u_6)), ((mm 9), .inl (cI, 6, .inl u_7))] H := hP
      have hD9 : va_D A [((mm 0), .inr (5, [.ref (mm 1), .ref (mm 2), .ref (mm 3), .ref (mm 4), .int kp, .ref (mm 5), .int ty, .int 0, .int at0, .int fa, .ref (mm 6), .int ts, .ref (mm 7), .ref (mm 8), .ref (mm 9), .int u_4])), ((mm 1), .inl (cI, 12, .inl xm_mk)), ((mm 2), .inl (cI, 80, .inl v)), ((mm 7), .inl (cI, 96, .inl u_5)), ((mm 8), .inl (cI, 96, .inl u_6)), ((mm 9), .inl (cI, 6, .inl u_7))] := hD
      exact W.iret (v := lk_dg v n p0.toNatClampNeg p1.toNatClampNeg) hx hb hr (fun t ht hW => ⟨⟨lk_dg v n p0.toNatClampNeg p1.toNatClampNeg, (0, u_4, u_5, u_6, u_7), rfl, ⟨(if_pos hc9).symm, (hc9.symm)⟩, by rw [ht]; exact hP9, hD9⟩, hS.F ht⟩) hS.2.2 dX5_digit_42
  · have q9b : ¬ xt_dg 6 p0 = 0 := xm_bF q9
    refine lv_aload_n hx hb dX5_digit_12 rfl (lv_at hl 0 rfl) ?_
    refine lv_iconst (v := 1) hx hb dX5_digit_13 (by decide) ?_
    have hPc := hP.sub (ws' := [((mm 0), .inr (5, [.ref (mm 1), .ref (mm 2), .ref (mm 3), .ref (mm 4), .int kp, .ref (mm 5), .int ty, .int 0, .int at0, .int fa, .ref (mm 6), .int ts, .ref (mm 7), .ref (mm 8), .ref (mm 9), .int fr]))]) [0] rfl
    have hDc := hD.sub (ws' := [((mm 0), .inr (5, [.ref (mm 1), .ref (mm 2), .ref (mm 3), .ref (mm 4), .int kp, .ref (mm 5), .int ty, .int 0, .int at0, .int fa, .ref (mm 6), .int ts, .ref (mm 7), .ref (mm 8), .ref (mm 9), .int fr]))]) [0] (by decide) rfl
    have hFc := va_free (wc := [((mm 0), .inr (5, [.ref (mm 1), .ref (mm 2), .ref (mm 3), .ref (mm 4), .int kp, .ref (mm 5), .int ty, .int 0, .int at0, .int fa, .ref (mm 6), .int ts, .ref (mm 7), .ref (mm 8), .ref (mm 9), .int fr]))]) hD hS hA [0] rfl
    refine va_calli (va_runV (As := [.int 1]) (rest := []) ⟨hx, hb, hml, hown, hts⟩ (c_X5_fails l dC dI cI cS cJ tt H.size mm kp ty 0 at0 fa ts fr 1) (cwV 1 hts gX5_digit_X5_fails rfl rfl rfl (by decide +kernel) ⟨Nat.le_of_ble_eq_true rfl, Nat.le_of_ble_eq_true rfl⟩) ⟨xm_Mblind, va_recv hK hPc (ci := 5) (q0 := 0) rfl rfl, fun U hU hW => ⟨rfl, by rw [hU], by rw [hU]; exact hPc, hE.go hS hFc hU hW, hDc.weaken (fun _ _ _ _ => trivial), trivial⟩⟩ rfl rfl hl.1 rfl (lv_room (Nat.le_of_ble_eq_true rfl)) dX5_digit_14 ⟨Nat.zero_le _, Nat.zero_le _⟩) hS (fun q _ h => hFc q h) hFc (fun r u t H1 locs ht hvm hw hB hz1 hk1 hS => ?_)
    obtain ⟨u_9, rfl⟩ : ∃ z, z = u := ⟨_, rfl⟩
    obtain ⟨hP1, hD1⟩ := hB
    rw [ht] at hP1
    obtain ⟨hw_10, hw_11⟩ := hw
    have hw_10 : r = 0 := hw_10
    subst hw_10
    have hw_11 : u_9 = 1 := hw_11
    subst hw_11
    obtain ⟨hP, hD⟩ := va_join (wr := [((mm 1), .inl (cI, 12, .inl xm_mk)), ((mm 2), .inl (cI, 80, .inl v)), ((mm 7), .inl (cI, 96, .inl ow)), ((mm 8), .inl (cI, 96, .inl li)), ((mm 9), .inl (cI, 6, .inl cr))]) (w1 := [((mm 0), .inr (5, [.ref (mm 1), .ref (mm 2), .ref (mm 3), .ref (mm 4), .int kp, .ref (mm 5), .int ty, .int 1, .int at0, .int fa, .ref (mm 6), .int ts, .ref (mm 7), .ref (mm 8), .ref (mm 9), .int fr]))]) hP hD [0] [1, 2, 3, 4, 5] rfl rfl (by decide) (by decide) hk1 hFc hP1 hD1
    generalize H1 = H at hP hS ⊢
    have hP : va_P (dC, dI) vwCl [((mm 1), .inl (cI, 12, .inl xm_mk)), ((mm 2), .inl (cI, 80, .inl v)), ((mm 7), .inl (cI, 96, .inl ow)), ((mm 8), .inl (cI, 96, .inl li)), ((mm 9), .inl (cI, 6, .inl cr)), ((mm 0), .inr (5, [.ref (mm 1), .ref (mm 2), .ref (mm 3), .ref (mm 4), .int kp, .ref (mm 5), .int ty, .int 1, .int at0, .int fa, .ref (mm 6), .int ts, .ref (mm 7), .ref (mm 8), .ref (mm 9), .int fr]))] H := hP
    have hD : va_D A [((mm 1), .inl (cI, 12, .inl xm_mk)), ((mm 2), .inl (cI, 80, .inl v)), ((mm 7), .inl (cI, 96, .inl ow)), ((mm 8), .inl (cI, 96, .inl li)), ((mm 9), .inl (cI, 6, .inl cr)), ((mm 0), .inr (5, [.ref (mm 1), .ref (mm 2), .ref (mm 3), .ref (mm 4), .int kp, .ref (mm 5), .int ty, .int 1, .int at0, .int fa, .ref (mm 6), .int ts, .ref (mm 7), .ref (mm 8), .ref (mm 9), .int fr]))] := hD
    have hc9 : xc_dg p0 p1 = 1 := by simp only [xc_dg, if_neg q9b]
    have hn9 : ¬ xc_dg p0 p1 = 0 := by rw [hc9]; decide
    have hP9 := hP.sub (ws' := [((mm 0), .inr (5, [.ref (mm 1), .ref (mm 2), .ref (mm 3), .ref (mm 4), .int kp, .ref (mm 5), .int ty, .int 1, .int at0, .int fa, .ref (mm 6), .int ts, .ref (mm 7), .ref (mm 8), .ref (mm 9), .int fr])), ((mm 1), .inl (cI, 12, .inl xm_mk)), ((mm 2), .inl (cI, 80, .inl v)), ((mm 7), .inl (cI, 96, .inl ow)), ((mm 8), .inl (cI, 96, .inl li)), ((mm 9), .inl (cI, 6, .inl cr))]) [5, 0, 1, 2, 3, 4] rfl
    have hD9 := hD.sub (ws' := [((mm 0), .inr (5, [.ref (mm 1), .ref (mm 2), .ref (mm 3), .ref (mm 4), .int kp, .ref (mm 5), .int ty, .int 1, .int at0, .int fa, .ref (mm 6), .int ts, .ref (mm 7), .ref (mm 8), .ref (mm 9), .int fr])), ((mm 1), .inl (cI, 12, .inl xm_mk)), ((mm 2), .inl (cI, 80, .inl v)), ((mm 7), .inl (cI, 96, .inl ow)), ((mm 8), .inl (cI, 96, .inl li)), ((mm 9), .inl (cI, 6, .inl cr))]) [5, 0, 1, 2, 3, 4] (by decide) rfl
    exact W.iret (v := 0) hx hb hr (fun t ht hW => ⟨⟨0, (1, fr, ow, li, cr), rfl, ⟨(if_neg hn9).symm, (hc9.symm)⟩, by rw [ht]; exact hP9, hD9⟩, hS.F ht⟩) hS.2.2 dX5_digit_17

set_option maxHeartbeats 4000000 in
set_option maxRecDepth 100000 in
theorem c_X5_wear (l : Launch) (dC : Nat → ClassId) (dI : Nat → Nat → Nat) (cI cS cJ : ClassId) (tt : Nat → Nat) (sz : Nat) (mm : Nat → Nat) (kp : Int32) (ty : Int32) (th : Int32) (at0 : Int32) (fa : Int32) (ts : Int32) (fr : Int32) (p0 : Int32) (p1 : Int32) (v : Nat → Int32) : Met l yX5_wear wsX5_wear ({ frames := 2, cells := 0, slots := 0, locals := 42 } : Room) (va_Pc [.ref (mm 0), .int p0, .int p1] (xm_M (dC, dI) cI cS cJ tt [((mm 0), .inr (5, [.ref (mm 1), .ref (mm 2), .ref (mm 3), .ref (mm 4), .int kp, .ref (mm 5), .int ty, .int th, .int at0, .int fa, .ref (mm 6), .int ts, .ref (mm 7), .ref (mm 8), .ref (mm 9), .int fr])), ((mm 2), .inl (cI, 80, .inl v))] sz (True))) (va_Qi (fun (r : Int32) (u : Int32) => r = (if xc_wr p0 p1 = 0 then v (38 + (p0.toNatClampNeg * 7 + p1.toNatClampNeg)) else 0) ∧ u = xc_wr p0 p1) (xm_B (dC, dI) (fun (u : Int32) => [((mm 0), .inr (5, [.ref (mm 1), .ref (mm 2), .ref (mm 3), .ref (mm 4), .int kp, .ref (mm 5), .int ty, .int u, .int at0, .int fa, .ref (mm 6), .int ts, .ref (mm 7), .ref (mm 8), .ref (mm 9), .int fr])), ((mm 2), .inl (cI, 80, .inl v))]) (va_A [((mm 0), .inr (5, [.ref (mm 1), .ref (mm 2), .ref (mm 3), .ref (mm 4), .int kp, .ref (mm 5), .int ty, .int th, .int at0, .int fa, .ref (mm 6), .int ts, .ref (mm 7), .ref (mm 8), .ref (mm 9), .int fr])), ((mm 2), .inl (cI, 80, .inl v))] sz)) (va_A [((mm 0), .inr (5, [.ref (mm 1), .ref (mm 2), .ref (mm 3), .ref (mm 4), .int kp, .ref (mm 5), .int ty, .int th, .int at0, .int fa, .ref (mm 6), .int ts, .ref (mm 7), .ref (mm 8), .ref (mm 9), .int fr])), ((mm 2), .inl (cI, 80, .inl v))] sz)) 0 0 (va_A [((mm 0), .inr (5, [.ref (mm 1), .ref (mm 2), .ref (mm 3), .ref (mm 4), .int kp, .ref (mm 5), .int ty, .int th, .int at0, .int fa, .ref (mm 6), .int ts, .ref (mm 7), .ref (mm 8), .ref (mm 9), .int fr])), ((mm 2), .inl (cI, 80, .inl v))] sz) := by
  refine Met.ofW (cc := cX5_wear) (maxL := 3) (ret := (some .int)) (by decide) rfl ?_
  intro p e s m args below meth c s₁ B hml hv
  obtain ⟨rfl, hsz, hP, hE, hD0, hpre⟩ := hv
  have hx := B.exec
  have hb := B.bytes
  have hr := B.returns
  have hts := atoms_spec (ws := wsX5_wear) B.pre
  have hown : s.vm.findClass RX5 = some m.cls := findClass_of_methodNamed B.named
  have hlocks := B.notSynchronized
  have hK := hE.1
  subst hsz
  have hD := hD0.self (sz := s.heap.size)
  generalize hAe : va_A [((mm 0), .inr (5, [.ref (mm 1), .ref (mm 2), .ref (mm 3), .ref (mm 4), .int kp, .ref (mm 5), .int ty, .int th, .int at0, .int fa, .ref (mm 6), .int ts, .ref (mm 7), .ref (mm 8), .ref (mm 9), .int fr])), ((mm 2), .inl (cI, 80, .inl v))] s.heap.size = A at hD hE ⊢
  have hA : ∀ q : Nat, s.heap.size ≤ q → A q := fun q h => by rw [← hAe]; exact Or.inr h
  have hS : va_S A s.heap s.heap [] := va_S.rf
  have hP : va_P (dC, dI) vwCl [((mm 0), .inr (5, [.ref (mm 1), .ref (mm 2), .ref (mm 3), .ref (mm 4), .int kp, .ref (mm 5), .int ty, .int th, .int at0, .int fa, .ref (mm 6), .int ts, .ref (mm 7), .ref (mm 8), .ref (mm 9), .int fr])), ((mm 2), .inl (cI, 80, .inl v))] s.heap := hP
  have hin5 : ∀ w ∈ u_ws RX5 TX5 16, w ∈ wsX5_wear := by decide +kernel
  have hl := lv_entry [.ref (mm 0), .int p0, .int p1] (n := 3) (Nat.le_of_ble_eq_true rfl)
  rw [lg_entry_eq]
  generalize (lg_sl [.ref (mm 0), .int p0, .int p1] ++ List.replicate (3 - (lg_sl [.ref (mm 0), .int p0, .int p1]).length) Slot.unset).toArray = lz at hl ⊢
  have hl : lv_has lz 3 [(0, .ref (mm 0)), (1, .int p0), (2, .int p1)] := hl
  refine lv_aload_n hx hb dX5_wear_0 rfl (lv_at hl 0 rfl) ?_
  refine lv_iconst (v := 0) hx hb dX5_wear_1 (by decide) ?_
  refine va_put (D := (dC, dI)) (ci := 5) (v := .int 0) (ty := .int) (C := RX5) (T := TX5) (N := 16) hx hb hts hin5 tyX5 tyX5_ok nmX5 hown hK hP hD hS 0 rfl rfl 7 (by decide) (hts (.fieldLink RX5 37 "TurnDigitsModel" "thrown" "I") (by decide +kernel)) (fun _ h9 => h9) rfl (by decide +kernel) rfl rfl (Nat.le_of_ble_eq_true rfl) dX5_wear_2 (fun H locs hP hD hS => ?_)
  have hP : va_P (dC, dI) vwCl [((mm 0), .inr (5, [.ref (mm 1), .ref (mm 2), .ref (mm 3), .ref (mm 4), .int kp, .ref (mm 5), .int ty, .int 0, .int at0, .int fa, .ref (mm 6), .int ts, .ref (mm 7), .ref (mm 8), .ref (mm 9), .int fr])), ((mm 2), .inl (cI, 80, .inl v))] H := hP
  have hD : va_D A [((mm 0), .inr (5, [.ref (mm 1), .ref (mm 2), .ref (mm 3), .ref (mm 4), .int kp, .ref (mm 5), .int ty, .int 0, .int at0, .int fa, .ref (mm 6), .int ts, .ref (mm 7), .ref (mm 8), .ref (mm 9), .int fr])), ((mm 2), .inl (cI, 80, .inl v))] := hD
  refine lv_iload_n hx hb dX5_wear_5 rfl (lv_at hl 1 rfl) ?_
  have hPc := hP.sub (ws' := []) [] rfl
  refine W.callV ((va_runS (As := [.int p0]) (rest := []) ⟨hx, hb, hml, hown, hts⟩ (c_X5_isDigit l dC dI cI cS cJ tt p0) (va_cwS 1 hts gX5_wear_X5_isDigit rfl rfl rfl (by decide +kernel) ⟨Nat.le_of_ble_eq_true rfl, Nat.le_of_ble_eq_true rfl⟩) ⟨xm_Rblind, fun U hU hW => ⟨rfl, by rw [hU]; exact hPc, hE.go hS (fun _ q => q.elim) hU hW, trivial⟩⟩ rfl rfl hl.1 rfl (lv_room (Nat.le_of_ble_eq_true rfl)) dX5_wear_6 ⟨Nat.zero_le _, Nat.zero_le _⟩).run) ?_
  refine W.eq (g2 := F0 m 9 lz (.int (if xt_dg 6 p0 = 0 then 1 else 0) :: [])) rfl ?_
  refine lv_if_eq (tgt := 36) hx hb dX5_wear_9 (by decide) (fun q9 => ?_) (fun q9 => ?_)
  · have q9b : ¬ xt_dg 6 p0 = 0 := xm_bF q9
    refine lv_aload_n hx hb dX5_wear_36 rfl (lv_at hl 0 rfl) ?_
    refine lv_iconst (v := 1) hx hb dX5_wear_37 (by decide) ?_
    have hPc := hP.sub (ws' := [((mm 0), .inr (5, [.ref (mm 1), .ref (mm 2), .ref (mm 3), .ref (mm 4), .int kp, .ref (mm 5), .int ty, .int 0, .int at0, .int fa, .ref (mm 6), .int ts, .ref (mm 7), .ref (mm 8), .ref (mm 9), .int fr]))]) [0] rfl
    have hDc := hD.sub (ws' := [((mm 0), .inr (5, [.ref (mm 1), .ref (mm 2), .ref (mm 3), .ref (mm 4), .int kp, .ref (mm 5), .int ty, .int 0, .int at0, .int fa, .ref (mm 6), .int ts, .ref (mm 7), .ref (mm 8), .ref (mm 9), .int fr]))]) [0] (by decide) rfl
    have hFc := va_free (wc := [((mm 0), .inr (5, [.ref (mm 1), .ref (mm 2), .ref (mm 3), .ref (mm 4), .int kp, .ref (mm 5), .int ty, .int 0, .int at0, .int fa, .ref (mm 6), .int ts, .ref (mm 7), .ref (mm 8), .ref (mm 9), .int fr]))]) hD hS hA [0] rfl
    refine va_calli (va_runV (As := [.int 1]) (rest := []) ⟨hx, hb, hml, hown, hts⟩ (c_X5_fails l dC dI cI cS cJ tt H.size mm kp ty 0 at0 fa ts fr 1) (cwV 1 hts gX5_wear_X5_fails rfl rfl rfl (by decide +kernel) ⟨Nat.le_of_ble_eq_true rfl, Nat.le_of_ble_eq_true rfl⟩) ⟨xm_Mblind, va_recv hK hPc (ci := 5) (q0 := 0) rfl rfl, fun U hU hW => ⟨rfl, by rw [hU], by rw [hU]; exact hPc, hE.go hS hFc hU hW, hDc.weaken (fun _ _ _ _ => trivial), trivial⟩⟩ rfl rfl hl.1 rfl (lv_room (Nat.le_of_ble_eq_true rfl)) dX5_wear_38 ⟨Nat.zero_le _, Nat.zero_le _⟩) hS (fun q _ h => hFc q h) hFc (fun r u t H1 locs ht hvm hw hB hz1 hk1 hS => ?_)
    obtain ⟨u_1, rfl⟩ : ∃ z, z = u := ⟨_, rfl⟩
    obtain ⟨hP1, hD1⟩ := hB
    rw [ht] at hP1
    obtain ⟨hw_2, hw_3⟩ := hw
    have hw_2 : r = 0 := hw_2
    subst hw_2
    have hw_3 : u_1 = 1 := hw_3
    subst hw_3
    obtain ⟨hP, hD⟩ := va_join (wr := [((mm 2), .inl (cI, 80, .inl v))]) (w1 := [((mm 0), .inr (5, [.ref (mm 1), .ref (mm 2), .ref (mm 3), .ref (mm 4), .int kp, .ref (mm 5), .int ty, .int 1, .int at0, .int fa, .ref (mm 6), .int ts, .ref (mm 7), .ref (mm 8), .ref (mm 9), .int fr]))]) hP hD [0] [1] rfl rfl (by decide) (by decide) hk1 hFc hP1 hD1
    generalize H1 = H at hP hS ⊢
    have hP : va_P (dC, dI) vwCl [((mm 2), .inl (cI, 80, .inl v)), ((mm 0), .inr (5, [.ref (mm 1), .ref (mm 2), .ref (mm 3), .ref (mm 4), .int kp, .ref (mm 5), .int ty, .int 1, .int at0, .int fa, .ref (mm 6), .int ts, .ref (mm 7), .ref (mm 8), .ref (mm 9), .int fr]))] H := hP
    have hD : va_D A [((mm 2), .inl (cI, 80, .inl v)), ((mm 0), .inr (5, [.ref (mm 1), .ref (mm 2), .ref (mm 3), .ref (mm 4), .int kp, .ref (mm 5), .int ty, .int 1, .int at0, .int fa, .ref (mm 6), .int ts, .ref (mm 7), .ref (mm 8), .ref (mm 9), .int fr]))] := hD
    have hc9 : xc_wr p0 p1 = 1 := by simp only [xc_wr, if_neg q9b]
    have hn9 : ¬ xc_wr p0 p1 = 0 := by rw [hc9]; decide
    have hP9 := hP.sub (ws' := [((mm 0), .inr (5, [.ref (mm 1), .ref (mm 2), .ref (mm 3), .ref (mm 4), .int kp, .ref (mm 5), .int ty, .int 1, .int at0, .int fa, .ref (mm 6), .int ts, .ref (mm 7), .ref (mm 8), .ref (mm 9), .int fr])), ((mm 2), .inl (cI, 80, .inl v))]) [1, 0] rfl
    have hD9 := hD.sub (ws' := [((mm 0), .inr (5, [.ref (mm 1), .ref (mm 2), .ref (mm 3), .ref (mm 4), .int kp, .ref (mm 5), .int ty, .int 1, .int at0, .int fa, .ref (mm 6), .int ts, .ref (mm 7), .ref (mm 8), .ref (mm 9), .int fr])), ((mm 2), .inl (cI, 80, .inl v))]) [1, 0] (by decide) rfl
    exact W.iret (v := 0) hx hb hr (fun t ht hW => ⟨⟨0, 1, rfl, ⟨(if_neg hn9).symm, (hc9.symm)⟩, by rw [ht]; exact hP9, hD9⟩, hS.F ht⟩) hS.2.2 dX5_wear_41
  · have q9b : xt_dg 6 p0 = 0 := xm_bT q9
    refine lv_iload_n hx hb dX5_wear_12 rfl (lv_at hl 2 rfl) ?_
    have hPc := hP.sub (ws' := []) [] rfl
    refine W.callV ((va_runS (As := [.int p1]) (rest := []) ⟨hx, hb, hml, hown, hts⟩ (c_X5_isSegment l dC dI cI cS cJ tt p1) (va_cwS 1 hts gX5_wear_X5_isSegment rfl rfl rfl (by decide +kernel) ⟨Nat.le_of_ble_eq_true rfl, Nat.le_of_ble_eq_true rfl⟩) ⟨xm_Rblind, fun U hU hW => ⟨rfl, by rw [hU]; exact hPc, hE.go hS (fun _ q => q.elim) hU hW, trivial⟩⟩ rfl rfl hl.1 rfl (lv_room (Nat.le_of_ble_eq_true rfl)) dX5_wear_13 ⟨Nat.zero_le _, Nat.zero_le _⟩).run) ?_
    refine W.eq (g2 := F0 m 16 lz (.int (if xt_dg 7 p1 = 0 then 1 else 0) :: [])) rfl ?_
    refine lv_if_eq (tgt := 36) hx hb dX5_wear_16 (by decide) (fun q16 => ?_) (fun q16 => ?_)
    · have q16b : ¬ xt_dg 7 p1 = 0 := xm_bF q16
      refine lv_aload_n hx hb dX5_wear_36 rfl (lv_at hl 0 rfl) ?_
      refine lv_iconst (v := 1) hx hb dX5_wear_37 (by decide) ?_
      have hPc := hP.sub (ws' := [((mm 0), .inr (5, [.ref (mm 1), .ref (mm 2), .ref (mm 3), .ref (mm 4), .int kp, .ref (mm 5), .int ty, .int 0, .int at0, .int fa, .ref (mm 6), .int ts, .ref (mm 7), .ref (mm 8), .ref (mm 9), .int fr]))]) [0] rfl
      have hDc := hD.sub (ws' := [((mm 0), .inr (5, [.ref (mm 1), .ref (mm 2), .ref (mm 3), .ref (mm 4), .int kp, .ref (mm 5), .int ty, .int 0, .int at0, .int fa, .ref (mm 6), .int ts, .ref (mm 7), .ref (mm 8), .ref (mm 9), .int fr]))]) [0] (by decide) rfl
      have hFc := va_free (wc := [((mm 0), .inr (5, [.ref (mm 1), .ref (mm 2), .ref (mm 3), .ref (mm 4), .int kp, .ref (mm 5), .int ty, .int 0, .int at0, .int fa, .ref (mm 6), .int ts, .ref (mm 7), .ref (mm 8), .ref (mm 9), .int fr]))]) hD hS hA [0] rfl
      refine va_calli (va_runV (As := [.int 1]) (rest := []) ⟨hx, hb, hml, hown, hts⟩ (c_X5_fails l dC dI cI cS cJ tt H.size mm kp ty 0 at0 fa ts fr 1) (cwV 1 hts gX5_wear_X5_fails rfl rfl rfl (by decide +kernel) ⟨Nat.le_of_ble_eq_true rfl, Nat.le_of_ble_eq_true rfl⟩) ⟨xm_Mblind, va_recv hK hPc (ci := 5) (q0 := 0) rfl rfl, fun U hU hW => ⟨rfl, by rw [hU], by rw [hU]; exact hPc, hE.go hS hFc hU hW, hDc.weaken (fun _ _ _ _ => trivial), trivial⟩⟩ rfl rfl hl.1 rfl (lv_room (Nat.le_of_ble_eq_true rfl)) dX5_wear_38 ⟨Nat.zero_le _, Nat.zero_le _⟩) hS (fun q _ h => hFc q h) hFc (fun r u t H1 locs ht hvm hw hB hz1 hk1 hS => ?_)
      obtain ⟨u_4, rfl⟩ : ∃ z, z = u := ⟨_, rfl⟩
      obtain ⟨hP1, hD1⟩ := hB
      rw [ht] at hP1
      obtain ⟨hw_5, hw_6⟩ := hw
      have hw_5 : r = 0 := hw_5
      subst hw_5
      have hw_6 : u_4 = 1 := hw_6
      subst hw_6
      obtain ⟨hP, hD⟩ := va_join (wr := [((mm 2), .inl (cI, 80, .inl v))]) (w1 := [((mm 0), .inr (5, [.ref (mm 1), .ref (mm 2), .ref (mm 3), .ref (mm 4), .int kp, .ref (mm 5), .int ty, .int 1, .int at0, .int fa, .ref (mm 6), .int ts, .ref (mm 7), .ref (mm 8), .ref (mm 9), .int fr]))]) hP hD [0] [1] rfl rfl (by decide) (by decide) hk1 hFc hP1 hD1
      generalize H1 = H at hP hS ⊢
      have hP : va_P (dC, dI) vwCl [((mm 2), .inl (cI, 80, .inl v)), ((mm 0), .inr (5, [.ref (mm 1), .ref (mm 2), .ref (mm 3), .ref (mm 4), .int kp, .ref (mm 5), .int ty, .int 1, .int at0, .int fa, .ref (mm 6), .int ts, .ref (mm 7), .ref (mm 8), .ref (mm 9), .int fr]))] H := hP
      have hD : va_D A [((mm 2), .inl (cI, 80, .inl v)), ((mm 0), .inr (5, [.ref (mm 1), .ref (mm 2), .ref (mm 3), .ref (mm 4), .int kp, .ref (mm 5), .int ty, .int 1, .int at0, .int fa, .ref (mm 6), .int ts, .ref (mm 7), .ref (mm 8), .ref (mm 9), .int fr]))] := hD
      have hc9 : xc_wr p0 p1 = 1 := by simp only [xc_wr, if_pos q9b, if_neg q16b]
      have hn9 : ¬ xc_wr p0 p1 = 0 := by rw [hc9]; decide
      have hP9 := hP.sub (ws' := [((mm 0), .inr (5, [.ref (mm 1), .ref (mm 2), .ref (mm 3), .ref (mm 4), .int kp, .ref (mm 5), .int ty, .int 1, .int at0, .int fa, .ref (mm 6), .int ts, .ref (mm 7), .ref (mm 8), .ref (mm 9), .int fr])), ((mm 2), .inl (cI, 80, .inl v))]) [1, 0] rfl
      have hD9 := hD.sub (ws' := [((mm 0), .inr (5, [.ref (mm 1), .ref (mm 2), .ref (mm 3), .ref (mm 4), .int kp, .ref (mm 5), .int ty, .int 1, .int at0, .int fa, .ref (mm 6), .int ts, .ref (mm 7), .ref (mm 8), .ref (mm 9), .int fr])), ((mm 2), .inl (cI, 80, .inl v))]) [1, 0] (by decide) rfl
      exact W.iret (v := 0) hx hb hr (fun t ht hW => ⟨⟨0, 1, rfl, ⟨(if_neg hn9).symm, (hc9.symm)⟩, by rw [ht]; exact hP9, hD9⟩, hS.F ht⟩) hS.2.2 dX5_wear_41
    · have q16b : xt_dg 7 p1 = 0 := xm_bT q16
      refine lv_aload_n hx hb dX5_wear_19 rfl (lv_at hl 0 rfl) ?_
      refine va_get (D := (dC, dI)) (ci := 5) (v := .ref (mm 2)) (C := RX5) (T := TX5) (N := 16) hx hb hts hin5 hown hK hP 0 rfl rfl 1 (by decide) (hts (.fieldLink RX5 13 "TurnDigitsModel" "now" "[I") (by decide +kernel)) (fun _ h9 => h9) rfl dX5_wear_20 ?_
      refine lv_bipush (v := 38) hx hb dX5_wear_23 (by decide) ?_
      refine lv_bipush (v := 7) hx hb dX5_wear_25 (by decide) ?_
      refine lv_iload_n hx hb dX5_wear_27 rfl (lv_at hl 1 rfl) ?_
      refine xm_topi (y := (nI p0.toNatClampNeg)) (xt_dg_ok (n := 6) (by decide) q9b).1 ?_
      refine lv_imul hx hb dX5_wear_28 ?_
      refine xm_topi (y := nI (7 * p0.toNatClampNeg)) (pk_mul 7 p0.toNatClampNeg) ?_
      refine lv_iadd hx hb dX5_wear_29 ?_
      refine xm_topi (y := nI (38 + (7 * p0.toNatClampNeg))) (nI_add 38 (7 * p0.toNatClampNeg)) ?_
      refine lv_iload_n hx hb dX5_wear_30 rfl (lv_at hl 2 rfl) ?_
      refine xm_topi (y := (nI p1.toNatClampNeg)) (xt_dg_ok (n := 7) (by decide) q16b).1 ?_
      refine lv_iadd hx hb dX5_wear_31 ?_
      refine xm_topi (y := nI (38 + (7 * p0.toNatClampNeg) + p1.toNatClampNeg)) (nI_add (38 + (7 * p0.toNatClampNeg)) p1.toNatClampNeg) ?_
      refine xm_iald (D := (dC, dI)) hx hb hK hP 1 0 (38 + 7 * p0.toNatClampNeg + p1.toNatClampNeg) (v := v (38 + 7 * p0.toNatClampNeg + p1.toNatClampNeg)) rfl rfl (by decide) rfl (by have := (xt_dg_ok (n := 6) (by decide) q9b).2; have := (xt_dg_ok (n := 7) (by decide) q16b).2; omega) rfl dX5_wear_32 ?_
      refine lv_goto (tgt := 41) hx hb dX5_wear_33 (by decide) ?_
      have hc9 : xc_wr p0 p1 = 0 := by simp only [xc_wr, if_pos q9b, if_pos q16b]
      have hP9 : va_P (dC, dI) vwCl [((mm 0), .inr (5, [.ref (mm 1), .ref (mm 2), .ref (mm 3), .ref (mm 4), .int kp, .ref (mm 5), .int ty, .int 0, .int at0, .int fa, .ref (mm 6), .int ts, .ref (mm 7), .ref (mm 8), .ref (mm 9), .int fr])), ((mm 2), .inl (cI, 80, .inl v))] H := hP
      have hD9 : va_D A [((mm 0), .inr (5, [.ref (mm 1), .ref (mm 2), .ref (mm 3), .ref (mm 4), .int kp, .ref (mm 5), .int ty, .int 0, .int at0, .int fa, .ref (mm 6), .int ts, .ref (mm 7), .ref (mm 8), .ref (mm 9), .int fr])), ((mm 2), .inl (cI, 80, .inl v))] := hD
      exact W.iret (v := v (38 + 7 * p0.toNatClampNeg + p1.toNatClampNeg)) hx hb hr (fun t ht hW => ⟨⟨v (38 + 7 * p0.toNatClampNeg + p1.toNatClampNeg), 0, rfl, ⟨(by rw [if_pos hc9]; rw [show 38 + 7 * p0.toNatClampNeg + p1.toNatClampNeg = 38 + (p0.toNatClampNeg * 7 + p1.toNatClampNeg) by omega]), (hc9.symm)⟩, by rw [ht]; exact hP9, hD9⟩, hS.F ht⟩) hS.2.2 dX5_wear_41

set_option maxHeartbeats 4000000 in
set_option maxRecDepth 100000 in
theorem c_X5_slot (l : Launch) (dC : Nat → ClassId) (dI : Nat → Nat → Nat) (cI cS cJ : ClassId) (tt : Nat → Nat) (sz : Nat) (mm : Nat → Nat) (kp : Int32) (ty : Int32) (th : Int32) (at0 : Int32) (fa : Int32) (ts : Int32) (fr : Int32) (p0 : Int32) (p1 : Int32) (v : Nat → Int32) (ow : Nat → Int32) (li : Nat → Int32) (cr : Nat → Int32) (n : Nat) : Met l yX5_slot wsX5_slot ({ frames := 3, cells := 0, slots := 0, locals := 68 } : Room) (va_Pc [.ref (mm 0), .int p0, .int p1] (xm_M (dC, dI) cI cS cJ tt [((mm 0), .inr (5, [.ref (mm 1), .ref (mm 2), .ref (mm 3), .ref (mm 4), .int kp, .ref (mm 5), .int ty, .int th, .int at0, .int fa, .ref (mm 6), .int ts, .ref (mm 7), .ref (mm 8), .ref (mm 9), .int fr])), ((mm 2), .inl (cI, 80, .inl v)), ((mm 7), .inl (cI, 96, .inl ow)), ((mm 8), .inl (cI, 96, .inl li)), ((mm 9), .inl (cI, 6, .inl cr))] sz (vo_f v n))) (va_Qi (fun (r : Int32) (u : Int32 × Int32 × (Nat → Int32) × (Nat → Int32) × (Nat → Int32)) => r = (if xc_sl p0 (v 2) = 0 then (if p1 = 0 then fs_ow v p0.toNatClampNeg else fs_li v p0.toNatClampNeg) else 0) ∧ u.1 = xc_sl p0 (v 2)) (xm_B (dC, dI) (fun (u : Int32 × Int32 × (Nat → Int32) × (Nat → Int32) × (Nat → Int32)) => [((mm 0), .inr (5, [.ref (mm 1), .ref (mm 2), .ref (mm 3), .ref (mm 4), .int kp, .ref (mm 5), .int ty, .int u.1, .int at0, .int fa, .ref (mm 6), .int ts, .ref (mm 7), .ref (mm 8), .ref (mm 9), .int u.2.1])), ((mm 2), .inl (cI, 80, .inl v)), ((mm 7), .inl (cI, 96, .inl u.2.2.1)), ((mm 8), .inl (cI, 96, .inl u.2.2.2.1)), ((mm 9), .inl (cI, 6, .inl u.2.2.2.2))]) (va_A [((mm 0), .inr (5, [.ref (mm 1), .ref (mm 2), .ref (mm 3), .ref (mm 4), .int kp, .ref (mm 5), .int ty, .int th, .int at0, .int fa, .ref (mm 6), .int ts, .ref (mm 7), .ref (mm 8), .ref (mm 9), .int fr])), ((mm 2), .inl (cI, 80, .inl v)), ((mm 7), .inl (cI, 96, .inl ow)), ((mm 8), .inl (cI, 96, .inl li)), ((mm 9), .inl (cI, 6, .inl cr))] sz)) (va_A [((mm 0), .inr (5, [.ref (mm 1), .ref (mm 2), .ref (mm 3), .ref (mm 4), .int kp, .ref (mm 5), .int ty, .int th, .int at0, .int fa, .ref (mm 6), .int ts, .ref (mm 7), .ref (mm 8), .ref (mm 9), .int fr])), ((mm 2), .inl (cI, 80, .inl v)), ((mm 7), .inl (cI, 96, .inl ow)), ((mm 8), .inl (cI, 96, .inl li)), ((mm 9), .inl (cI, 6, .inl cr))] sz)) 0 0 (va_A [((mm 0), .inr (5, [.ref (mm 1), .ref (mm 2), .ref (mm 3), .ref (mm 4), .int kp, .ref (mm 5), .int ty, .int th, .int at0, .int fa, .ref (mm 6), .int ts, .ref (mm 7), .ref (mm 8), .ref (mm 9), .int fr])), ((mm 2), .inl (cI, 80, .inl v)), ((mm 7), .inl (cI, 96, .inl ow)), ((mm 8), .inl (cI, 96, .inl li)), ((mm 9), .inl (cI, 6, .inl cr))] sz) := by
  refine Met.ofW (cc := cX5_slot) (maxL := 3) (ret := (some .int)) (by decide) rfl ?_
  intro p e s m args below meth c s₁ B hml hv
  obtain ⟨rfl, hsz, hP, hE, hD0, hpre⟩ := hv
  have hx := B.exec
  have hb := B.bytes
  have hr := B.returns
  have hts := atoms_spec (ws := wsX5_slot) B.pre
  have hown : s.vm.findClass RX5 = some m.cls := findClass_of_methodNamed B.named
  have hlocks := B.notSynchronized
  have hK := hE.1
  subst hsz
  have hD := hD0.self (sz := s.heap.size)
  generalize hAe : va_A [((mm 0), .inr (5, [.ref (mm 1), .ref (mm 2), .ref (mm 3), .ref (mm 4), .int kp, .ref (mm 5), .int ty, .int th, .int at0, .int fa, .ref (mm 6), .int ts, .ref (mm 7), .ref (mm 8), .ref (mm 9), .int fr])), ((mm 2), .inl (cI, 80, .inl v)), ((mm 7), .inl (cI, 96, .inl ow)), ((mm 8), .inl (cI, 96, .inl li)), ((mm 9), .inl (cI, 6, .inl cr))] s.heap.size = A at hD hE ⊢
  have hA : ∀ q : Nat, s.heap.size ≤ q → A q := fun q h => by rw [← hAe]; exact Or.inr h
  have hS : va_S A s.heap s.heap [] := va_S.rf
  have hP : va_P (dC, dI) vwCl [((mm 0), .inr (5, [.ref (mm 1), .ref (mm 2), .ref (mm 3), .ref (mm 4), .int kp, .ref (mm 5), .int ty, .int th, .int at0, .int fa, .ref (mm 6), .int ts, .ref (mm 7), .ref (mm 8), .ref (mm 9), .int fr])), ((mm 2), .inl (cI, 80, .inl v)), ((mm 7), .inl (cI, 96, .inl ow)), ((mm 8), .inl (cI, 96, .inl li)), ((mm 9), .inl (cI, 6, .inl cr))] s.heap := hP
  have hin5 : ∀ w ∈ u_ws RX5 TX5 16, w ∈ wsX5_slot := by decide +kernel
  have hl := lv_entry [.ref (mm 0), .int p0, .int p1] (n := 3) (Nat.le_of_ble_eq_true rfl)
  rw [lg_entry_eq]
  generalize (lg_sl [.ref (mm 0), .int p0, .int p1] ++ List.replicate (3 - (lg_sl [.ref (mm 0), .int p0, .int p1]).length) Slot.unset).toArray = lz at hl ⊢
  have hl : lv_has lz 3 [(0, .ref (mm 0)), (1, .int p0), (2, .int p1)] := hl
  refine lv_aload_n hx hb dX5_slot_0 rfl (lv_at hl 0 rfl) ?_
  refine lv_iconst (v := 0) hx hb dX5_slot_1 (by decide) ?_
  refine va_put (D := (dC, dI)) (ci := 5) (v := .int 0) (ty := .int) (C := RX5) (T := TX5) (N := 16) hx hb hts hin5 tyX5 tyX5_ok nmX5 hown hK hP hD hS 0 rfl rfl 7 (by decide) (hts (.fieldLink RX5 37 "TurnDigitsModel" "thrown" "I") (by decide +kernel)) (fun _ h9 => h9) rfl (by decide +kernel) rfl rfl (Nat.le_of_ble_eq_true rfl) dX5_slot_2 (fun H locs hP hD hS => ?_)
  have hP : va_P (dC, dI) vwCl [((mm 0), .inr (5, [.ref (mm 1), .ref (mm 2), .ref (mm 3), .ref (mm 4), .int kp, .ref (mm 5), .int ty, .int 0, .int at0, .int fa, .ref (mm 6), .int ts, .ref (mm 7), .ref (mm 8), .ref (mm 9), .int fr])), ((mm 2), .inl (cI, 80, .inl v)), ((mm 7), .inl (cI, 96, .inl ow)), ((mm 8), .inl (cI, 96, .inl li)), ((mm 9), .inl (cI, 6, .inl cr))] H := hP
  have hD : va_D A [((mm 0), .inr (5, [.ref (mm 1), .ref (mm 2), .ref (mm 3), .ref (mm 4), .int kp, .ref (mm 5), .int ty, .int 0, .int at0, .int fa, .ref (mm 6), .int ts, .ref (mm 7), .ref (mm 8), .ref (mm 9), .int fr])), ((mm 2), .inl (cI, 80, .inl v)), ((mm 7), .inl (cI, 96, .inl ow)), ((mm 8), .inl (cI, 96, .inl li)), ((mm 9), .inl (cI, 6, .inl cr))] := hD
  refine lv_iload_n hx hb dX5_slot_5 rfl (lv_at hl 1 rfl) ?_
  refine lv_iconst (v := 0) hx hb dX5_slot_6 (by decide) ?_
  refine lv_aload_n hx hb dX5_slot_7 rfl (lv_at hl 0 rfl) ?_
  refine va_get (D := (dC, dI)) (ci := 5) (v := .ref (mm 2)) (C := RX5) (T := TX5) (N := 16) hx hb hts hin5 hown hK hP 0 rfl rfl 1 (by decide) (hts (.fieldLink RX5 13 "TurnDigitsModel" "now" "[I") (by decide +kernel)) (fun _ h9 => h9) rfl dX5_slot_8 ?_
  refine lv_iconst (v := 2) hx hb dX5_slot_11 (by decide) ?_
  refine xm_iald (D := (dC, dI)) hx hb hK hP 1 0 2 (v := v 2) rfl rfl (by decide) rfl (by decide) rfl dX5_slot_12 ?_
  refine lv_iconst (v := 1) hx hb dX5_slot_13 (by decide) ?_
  refine lv_isub hx hb dX5_slot_14 ?_
  have hPc := hP.sub (ws' := []) [] rfl
  refine W.callV ((va_runS (As := [.int p0, .int 0, .int ((v 2) - 1)]) (rest := []) ⟨hx, hb, hml, hown, hts⟩ (c_X5_in l dC dI cI cS cJ tt p0 0 ((v 2) - 1)) (va_cwS 3 hts gX5_slot_X5_in rfl rfl rfl (by decide +kernel) ⟨Nat.le_of_ble_eq_true rfl, Nat.le_of_ble_eq_true rfl⟩) ⟨xm_Rblind, fun U hU hW => ⟨rfl, by rw [hU]; exact hPc, hE.go hS (fun _ q => q.elim) hU hW, trivial⟩⟩ rfl rfl hl.1 rfl (lv_room (Nat.le_of_ble_eq_true rfl)) dX5_slot_15 ⟨Nat.zero_le _, Nat.zero_le _⟩).run) ?_
  refine W.eq (g2 := F0 m 18 lz (.int (if xt_rg p0 0 ((v 2) - 1) = 0 then 1 else 0) :: [])) rfl ?_
  refine lv_if_ne (tgt := 27) hx hb dX5_slot_18 (by decide) (fun q18 => ?_) (fun q18 => ?_)
  · have q18b : xt_rg p0 0 ((v 2) - 1) = 0 := xm_bT q18
    have hsl := xc_n (a := 0) (b := n - 1) q18b rfl (by rw [hpre.1]; exact pk_sub (a := n) (b := 1) (by have := hpre.2.1; omega)) (by have := hpre.2.2.1; omega) (by omega)
    have hsn : p0.toNatClampNeg < n := by have := hpre.2.1; omega
    have hs96 : p0.toNatClampNeg < 96 := by have := hpre.2.2.1; omega
    refine lv_aload_n hx hb dX5_slot_27 rfl (lv_at hl 0 rfl) ?_
    refine lv_aload_n hx hb dX5_slot_28 rfl (lv_at hl 0 rfl) ?_
    refine va_get (D := (dC, dI)) (ci := 5) (v := .ref (mm 2)) (C := RX5) (T := TX5) (N := 16) hx hb hts hin5 hown hK hP 0 rfl rfl 1 (by decide) (hts (.fieldLink RX5 13 "TurnDigitsModel" "now" "[I") (by decide +kernel)) (fun _ h9 => h9) rfl dX5_slot_29 ?_
    have hPc := hP.sub (ws' := [((mm 0), .inr (5, [.ref (mm 1), .ref (mm 2), .ref (mm 3), .ref (mm 4), .int kp, .ref (mm 5), .int ty, .int 0, .int at0, .int fa, .ref (mm 6), .int ts, .ref (mm 7), .ref (mm 8), .ref (mm 9), .int fr])), ((mm 7), .inl (cI, 96, .inl ow)), ((mm 8), .inl (cI, 96, .inl li)), ((mm 9), .inl (cI, 6, .inl cr)), ((mm 2), .inl (cI, 80, .inl v))]) [0, 2, 3, 4, 1] rfl
    have hDc := hD.sub (ws' := [((mm 0), .inr (5, [.ref (mm 1), .ref (mm 2), .ref (mm 3), .ref (mm 4), .int kp, .ref (mm 5), .int ty, .int 0, .int at0, .int fa, .ref (mm 6), .int ts, .ref (mm 7), .ref (mm 8), .ref (mm 9), .int fr])), ((mm 7), .inl (cI, 96, .inl ow)), ((mm 8), .inl (cI, 96, .inl li)), ((mm 9), .inl (cI, 6, .inl cr)), ((mm 2), .inl (cI, 80, .inl v))]) [0, 2, 3, 4, 1] (by decide) rfl
    have hFc := va_free (wc := [((mm 0), .inr (5, [.ref (mm 1), .ref (mm 2), .ref (mm 3), .ref (mm 4), .int kp, .ref (mm 5), .int ty, .int 0, .int at0, .int fa, .ref (mm 6), .int ts, .ref (mm 7), .ref (mm 8), .ref (mm 9), .int fr])), ((mm 7), .inl (cI, 96, .inl ow)), ((mm 8), .inl (cI, 96, .inl li)), ((mm 9), .inl (cI, 6, .inl cr)), ((mm 2), .inl (cI, 80, .inl v))]) hD hS hA [0, 2, 3, 4, 1] rfl
    refine va_callv (va_runV (As := [.ref (mm 2)]) (rest := []) ⟨hx, hb, hml, hown, hts⟩ (c_X5_frames l dC dI cI cS cJ tt H.size mm kp ty 0 at0 fa ts fr (mm 2) v ow li cr n) (cwV 1 hts gX5_slot_X5_frames rfl rfl rfl (by decide +kernel) ⟨Nat.le_of_ble_eq_true rfl, Nat.le_of_ble_eq_true rfl⟩) ⟨xm_Mblind, va_recv hK hPc (ci := 5) (q0 := 0) rfl rfl, fun U hU hW => ⟨rfl, by rw [hU], by rw [hU]; exact hPc, hE.go hS hFc hU hW, hDc.weaken (fun _ _ _ _ => trivial), hpre⟩⟩ rfl rfl hl.1 rfl (lv_room (Nat.le_of_ble_eq_true rfl)) dX5_slot_32 ⟨Nat.zero_le _, Nat.zero_le _⟩) hS (fun q _ h => hFc q h) hFc (fun u t H1 locs ht hvm hw hB hz1 hk1 hS => ?_)
    obtain ⟨u_1, u_2, u_3, u_4⟩ := u
    obtain ⟨hP1, hD1⟩ := hB
    rw [ht] at hP1
    obtain ⟨hw_5, hw_6, hw_7⟩ := hw
    have hw_5 : u_1 = nI n := hw_5
    subst hw_5
    have hw_6 : u_2 = fm_fl (fs_ow v) ow n := hw_6
    subst hw_6
    have hw_7 : u_3 = fm_fl (fs_li v) li n := hw_7
    subst hw_7
    obtain ⟨hP, hD⟩ := va_join (wr := []) (w1 := [((mm 0), .inr (5, [.ref (mm 1), .ref (mm 2), .ref (mm 3), .ref (mm 4), .int kp, .ref (mm 5), .int ty, .int 0, .int at0, .int fa, .ref (mm 6), .int ts, .ref (mm 7), .ref (mm 8), .ref (mm 9), .int (nI n)])), ((mm 7), .inl (cI, 96, .inl (fm_fl (fs_ow v) ow n))), ((mm 8), .inl (cI, 96, .inl (fm_fl (fs_li v) li n))), ((mm 9), .inl (cI, 6, .inl u_4)), ((mm 2), .inl (cI, 80, .inl v))]) hP hD [0, 2, 3, 4, 1] [] rfl rfl (by decide) (by decide) hk1 hFc hP1 hD1
    generalize H1 = H at hP hS ⊢
    have hP : va_P (dC, dI) vwCl [((mm 0), .inr (5, [.ref (mm 1), .ref (mm 2), .ref (mm 3), .ref (mm 4), .int kp, .ref (mm 5), .int ty, .int 0, .int at0, .int fa, .ref (mm 6), .int ts, .ref (mm 7), .ref (mm 8), .ref (mm 9), .int (nI n)])), ((mm 7), .inl (cI, 96, .inl (fm_fl (fs_ow v) ow n))), ((mm 8), .inl (cI, 96, .inl (fm_fl (fs_li v) li n))), ((mm 9), .inl (cI, 6, .inl u_4)), ((mm 2), .inl (cI, 80, .inl v))] H := hP
    have hD : va_D A [((mm 0), .inr (5, [.ref (mm 1), .ref (mm 2), .ref (mm 3), .ref (mm 4), .int kp, .ref (mm 5), .int ty, .int 0, .int at0, .int fa, .ref (mm 6), .int ts, .ref (mm 7), .ref (mm 8), .ref (mm 9), .int (nI n)])), ((mm 7), .inl (cI, 96, .inl (fm_fl (fs_ow v) ow n))), ((mm 8), .inl (cI, 96, .inl (fm_fl (fs_li v) li n))), ((mm 9), .inl (cI, 6, .inl u_4)), ((mm 2), .inl (cI, 80, .inl v))] := hD
    refine lv_iload_n hx hb dX5_slot_35 rfl (lv_at hl 2 rfl) ?_
    refine lv_if_eq (tgt := 48) hx hb dX5_slot_36 (by decide) (fun q36 => ?_) (fun q36 => ?_)
    · refine lv_aload_n hx hb dX5_slot_48 rfl (lv_at hl 0 rfl) ?_
      refine va_get (D := (dC, dI)) (ci := 5) (v := .ref (mm 7)) (C := RX5) (T := TX5) (N := 16) hx hb hts hin5 hown hK hP 0 rfl rfl 12 (by decide) (hts (.fieldLink RX5 28 "TurnDigitsModel" "owners" "[I") (by decide +kernel)) (fun _ h9 => h9) rfl dX5_slot_49 ?_
      refine lv_iload_n hx hb dX5_slot_52 rfl (lv_at hl 1 rfl) ?_
      refine xm_iald (D := (dC, dI)) hx hb hK hP 1 0 p0.toNatClampNeg (v := (fm_fl (fs_ow v) ow n) p0.toNatClampNeg) rfl rfl (by decide) hsl.1 hs96 rfl dX5_slot_53 ?_
      refine xm_topi (y := (fs_ow v p0.toNatClampNeg)) (fm_fl_in hsn) ?_
      have hc9 : xc_sl p0 (v 2) = 0 := by simp only [xc_sl, if_pos q18b, if_pos q36]
      have hP9 := hP.sub (ws' := [((mm 0), .inr (5, [.ref (mm 1), .ref (mm 2), .ref (mm 3), .ref (mm 4), .int kp, .ref (mm 5), .int ty, .int 0, .int at0, .int fa, .ref (mm 6), .int ts, .ref (mm 7), .ref (mm 8), .ref (mm 9), .int (nI n)])), ((mm 2), .inl (cI, 80, .inl v)), ((mm 7), .inl (cI, 96, .inl (fm_fl (fs_ow v) ow n))), ((mm 8), .inl (cI, 96, .inl (fm_fl (fs_li v) li n))), ((mm 9), .inl (cI, 6, .inl u_4))]) [0, 4, 1, 2, 3] rfl
      have hD9 := hD.sub (ws' := [((mm 0), .inr (5, [.ref (mm 1), .ref (mm 2), .ref (mm 3), .ref (mm 4), .int kp, .ref (mm 5), .int ty, .int 0, .int at0, .int fa, .ref (mm 6), .int ts, .ref (mm 7), .ref (mm 8), .ref (mm 9), .int (nI n)])), ((mm 2), .inl (cI, 80, .inl v)), ((mm 7), .inl (cI, 96, .inl (fm_fl (fs_ow v) ow n))), ((mm 8), .inl (cI, 96, .inl (fm_fl (fs_li v) li n))), ((mm 9), .inl (cI, 6, .inl u_4))]) [0, 4, 1, 2, 3] (by decide) rfl
      exact W.iret (v := fs_ow v p0.toNatClampNeg) hx hb hr (fun t ht hW => ⟨⟨fs_ow v p0.toNatClampNeg, (0, (nI n), (fm_fl (fs_ow v) ow n), (fm_fl (fs_li v) li n), u_4), rfl, ⟨(by rw [if_pos hc9]; rw [if_pos q36]), (hc9.symm)⟩, by rw [ht]; exact hP9, hD9⟩, hS.F ht⟩) hS.2.2 dX5_slot_54
    · refine lv_aload_n hx hb dX5_slot_39 rfl (lv_at hl 0 rfl) ?_
      refine va_get (D := (dC, dI)) (ci := 5) (v := .ref (mm 8)) (C := RX5) (T := TX5) (N := 16) hx hb hts hin5 hown hK hP 0 rfl rfl 13 (by decide) (hts (.fieldLink RX5 31 "TurnDigitsModel" "lits" "[I") (by decide +kernel)) (fun _ h9 => h9) rfl dX5_slot_40 ?_
      refine lv_iload_n hx hb dX5_slot_43 rfl (lv_at hl 1 rfl) ?_
      refine xm_iald (D := (dC, dI)) hx hb hK hP 2 0 p0.toNatClampNeg (v := (fm_fl (fs_li v) li n) p0.toNatClampNeg) rfl rfl (by decide) hsl.1 hs96 rfl dX5_slot_44 ?_
      refine xm_topi (y := (fs_li v p0.toNatClampNeg)) (fm_fl_in hsn) ?_
      refine lv_goto (tgt := 54) hx hb dX5_slot_45 (by decide) ?_
      have hc9 : xc_sl p0 (v 2) = 0 := by simp only [xc_sl, if_pos q18b, if_neg q36]
      have hP9 := hP.sub (ws' := [((mm 0), .inr (5, [.ref (mm 1), .ref (mm 2), .ref (mm 3), .ref (mm 4), .int kp, .ref (mm 5), .int ty, .int 0, .int at0, .int fa, .ref (mm 6), .int ts, .ref (mm 7), .ref (mm 8), .ref (mm 9), .int (nI n)])), ((mm 2), .inl (cI, 80, .inl v)), ((mm 7), .inl (cI, 96, .inl (fm_fl (fs_ow v) ow n))), ((mm 8), .inl (cI, 96, .inl (fm_fl (fs_li v) li n))), ((mm 9), .inl (cI, 6, .inl u_4))]) [0, 4, 1, 2, 3] rfl
      have hD9 := hD.sub (ws' := [((mm 0), .inr (5, [.ref (mm 1), .ref (mm 2), .ref (mm 3), .ref (mm 4), .int kp, .ref (mm 5), .int ty, .int 0, .int at0, .int fa, .ref (mm 6), .int ts, .ref (mm 7), .ref (mm 8), .ref (mm 9), .int (nI n)])), ((mm 2), .inl (cI, 80, .inl v)), ((mm 7), .inl (cI, 96, .inl (fm_fl (fs_ow v) ow n))), ((mm 8), .inl (cI, 96, .inl (fm_fl (fs_li v) li n))), ((mm 9), .inl (cI, 6, .inl u_4))]) [0, 4, 1, 2, 3] (by decide) rfl
      exact W.iret (v := fs_li v p0.toNatClampNeg) hx hb hr (fun t ht hW => ⟨⟨fs_li v p0.toNatClampNeg, (0, (nI n), (fm_fl (fs_ow v) ow n), (fm_fl (fs_li v) li n), u_4), rfl, ⟨(by rw [if_pos hc9]; rw [if_neg q36]), (hc9.symm)⟩, by rw [ht]; exact hP9, hD9⟩, hS.F ht⟩) hS.2.2 dX5_slot_54
  · have q18b : ¬ xt_rg p0 0 ((v 2) - 1) = 0 := xm_bF q18
    refine lv_aload_n hx hb dX5_slot_21 rfl (lv_at hl 0 rfl) ?_
    refine lv_iconst (v := 1) hx hb dX5_slot_22 (by decide) ?_
    have hPc := hP.sub (ws' := [((mm 0), .inr (5, [.ref (mm 1), .ref (mm 2), .ref (mm 3), .ref (mm 4), .int kp, .ref (mm 5), .int ty, .int 0, .int at0, .int fa, .ref (mm 6), .int ts, .ref (mm 7), .ref (mm 8), .ref (mm 9), .int fr]))]) [0] rfl
    have hDc := hD.sub (ws' := [((mm 0), .inr (5, [.ref (mm 1), .ref (mm 2), .ref (mm 3), .ref (mm 4), .int kp, .ref (mm 5), .int ty, .int 0, .int at0, .int fa, .ref (mm 6), .int ts, .ref (mm 7), .ref (mm 8), .ref (mm 9), .int fr]))]) [0] (by decide) rfl
    have hFc := va_free (wc := [((mm 0), .inr (5, [.ref (mm 1), .ref (mm 2), .ref (mm 3), .ref (mm 4), .int kp, .ref (mm 5), .int ty, .int 0, .int at0, .int fa, .ref (mm 6), .int ts, .ref (mm 7), .ref (mm 8), .ref (mm 9), .int fr]))]) hD hS hA [0] rfl
    refine va_calli (va_runV (As := [.int 1]) (rest := []) ⟨hx, hb, hml, hown, hts⟩ (c_X5_fails l dC dI cI cS cJ tt H.size mm kp ty 0 at0 fa ts fr 1) (cwV 1 hts gX5_slot_X5_fails rfl rfl rfl (by decide +kernel) ⟨Nat.le_of_ble_eq_true rfl, Nat.le_of_ble_eq_true rfl⟩) ⟨xm_Mblind, va_recv hK hPc (ci := 5) (q0 := 0) rfl rfl, fun U hU hW => ⟨rfl, by rw [hU], by rw [hU]; exact hPc, hE.go hS hFc hU hW, hDc.weaken (fun _ _ _ _ => trivial), trivial⟩⟩ rfl rfl hl.1 rfl (lv_room (Nat.le_of_ble_eq_true rfl)) dX5_slot_23 ⟨Nat.zero_le _, Nat.zero_le _⟩) hS (fun q _ h => hFc q h) hFc (fun r u t H1 locs ht hvm hw hB hz1 hk1 hS => ?_)
    obtain ⟨u_8, rfl⟩ : ∃ z, z = u := ⟨_, rfl⟩
    obtain ⟨hP1, hD1⟩ := hB
    rw [ht] at hP1
    obtain ⟨hw_9, hw_10⟩ := hw
    have hw_9 : r = 0 := hw_9
    subst hw_9
    have hw_10 : u_8 = 1 := hw_10
    subst hw_10
    obtain ⟨hP, hD⟩ := va_join (wr := [((mm 2), .inl (cI, 80, .inl v)), ((mm 7), .inl (cI, 96, .inl ow)), ((mm 8), .inl (cI, 96, .inl li)), ((mm 9), .inl (cI, 6, .inl cr))]) (w1 := [((mm 0), .inr (5, [.ref (mm 1), .ref (mm 2), .ref (mm 3), .ref (mm 4), .int kp, .ref (mm 5), .int ty, .int 1, .int at0, .int fa, .ref (mm 6), .int ts, .ref (mm 7), .ref (mm 8), .ref (mm 9), .int fr]))]) hP hD [0] [1, 2, 3, 4] rfl rfl (by decide) (by decide) hk1 hFc hP1 hD1
    generalize H1 = H at hP hS ⊢
    have hP : va_P (dC, dI) vwCl [((mm 2), .inl (cI, 80, .inl v)), ((mm 7), .inl (cI, 96, .inl ow)), ((mm 8), .inl (cI, 96, .inl li)), ((mm 9), .inl (cI, 6, .inl cr)), ((mm 0), .inr (5, [.ref (mm 1), .ref (mm 2), .ref (mm 3), .ref (mm 4), .int kp, .ref (mm 5), .int ty, .int 1, .int at0, .int fa, .ref (mm 6), .int ts, .ref (mm 7), .ref (mm 8), .ref (mm 9), .int fr]))] H := hP
    have hD : va_D A [((mm 2), .inl (cI, 80, .inl v)), ((mm 7), .inl (cI, 96, .inl ow)), ((mm 8), .inl (cI, 96, .inl li)), ((mm 9), .inl (cI, 6, .inl cr)), ((mm 0), .inr (5, [.ref (mm 1), .ref (mm 2), .ref (mm 3), .ref (mm 4), .int kp, .ref (mm 5), .int ty, .int 1, .int at0, .int fa, .ref (mm 6), .int ts, .ref (mm 7), .ref (mm 8), .ref (mm 9), .int fr]))] := hD
    have hc9 : xc_sl p0 (v 2) = 1 := by simp only [xc_sl, if_neg q18b]
    have hn9 : ¬ xc_sl p0 (v 2) = 0 := by rw [hc9]; decide
    have hP9 := hP.sub (ws' := [((mm 0), .inr (5, [.ref (mm 1), .ref (mm 2), .ref (mm 3), .ref (mm 4), .int kp, .ref (mm 5), .int ty, .int 1, .int at0, .int fa, .ref (mm 6), .int ts, .ref (mm 7), .ref (mm 8), .ref (mm 9), .int fr])), ((mm 2), .inl (cI, 80, .inl v)), ((mm 7), .inl (cI, 96, .inl ow)), ((mm 8), .inl (cI, 96, .inl li)), ((mm 9), .inl (cI, 6, .inl cr))]) [4, 0, 1, 2, 3] rfl
    have hD9 := hD.sub (ws' := [((mm 0), .inr (5, [.ref (mm 1), .ref (mm 2), .ref (mm 3), .ref (mm 4), .int kp, .ref (mm 5), .int ty, .int 1, .int at0, .int fa, .ref (mm 6), .int ts, .ref (mm 7), .ref (mm 8), .ref (mm 9), .int fr])), ((mm 2), .inl (cI, 80, .inl v)), ((mm 7), .inl (cI, 96, .inl ow)), ((mm 8), .inl (cI, 96, .inl li)), ((mm 9), .inl (cI, 6, .inl cr))]) [4, 0, 1, 2, 3] (by decide) rfl
    exact W.iret (v := 0) hx hb hr (fun t ht hW => ⟨⟨0, (1, fr, ow, li, cr), rfl, ⟨(if_neg hn9).symm, (hc9.symm)⟩, by rw [ht]; exact hP9, hD9⟩, hS.F ht⟩) hS.2.2 dX5_slot_26

set_option maxHeartbeats 4000000 in
set_option maxRecDepth 100000 in
theorem c_X5_count (l : Launch) (dC : Nat → ClassId) (dI : Nat → Nat → Nat) (cI cS cJ : ClassId) (tt : Nat → Nat) (sz : Nat) (mm : Nat → Nat) (kp : Int32) (ty : Int32) (th : Int32) (at0 : Int32) (fa : Int32) (ts : Int32) (fr : Int32) (p0 : Int32) (v : Nat → Int32) (ow : Nat → Int32) (li : Nat → Int32) (cr : Nat → Int32) (n : Nat) : Met l yX5_count wsX5_count ({ frames := 6, cells := 0, slots := 0, locals := 137 } : Room) (va_Pc [.ref (mm 0), .int p0] (xm_M (dC, dI) cI cS cJ tt [((mm 0), .inr (5, [.ref (mm 1), .ref (mm 2), .ref (mm 3), .ref (mm 4), .int kp, .ref (mm 5), .int ty, .int th, .int at0, .int fa, .ref (mm 6), .int ts, .ref (mm 7), .ref (mm 8), .ref (mm 9), .int fr])), ((mm 1), .inl (cI, 12, .inl xm_mk)), ((mm 2), .inl (cI, 80, .inl v)), ((mm 7), .inl (cI, 96, .inl ow)), ((mm 8), .inl (cI, 96, .inl li)), ((mm 9), .inl (cI, 6, .inl cr))] sz (vo_f v n ∧ (∀ j, j < 6 → fm_ix (v (8 + j)) 12) ∧ (∀ j, j < 6 → ∃ y, y < 128 ∧ v (20 + j) = nI y)))) (va_Qi (fun (r : Int32) (u : Int32 × Int32 × (Nat → Int32) × (Nat → Int32) × (Nat → Int32)) => r = (if xc_co p0 = 0 then lk_ct v n kp p0.toNatClampNeg else 0) ∧ u.1 = xc_co p0) (xm_B (dC, dI) (fun (u : Int32 × Int32 × (Nat → Int32) × (Nat → Int32) × (Nat → Int32)) => [((mm 0), .inr (5, [.ref (mm 1), .ref (mm 2), .ref (mm 3), .ref (mm 4), .int kp, .ref (mm 5), .int ty, .int u.1, .int at0, .int fa, .ref (mm 6), .int ts, .ref (mm 7), .ref (mm 8), .ref (mm 9), .int u.2.1])), ((mm 1), .inl (cI, 12, .inl xm_mk)), ((mm 2), .inl (cI, 80, .inl v)), ((mm 7), .inl (cI, 96, .inl u.2.2.1)), ((mm 8), .inl (cI, 96, .inl u.2.2.2.1)), ((mm 9), .inl (cI, 6, .inl u.2.2.2.2))]) (va_A [((mm 0), .inr (5, [.ref (mm 1), .ref (mm 2), .ref (mm 3), .ref (mm 4), .int kp, .ref (mm 5), .int ty, .int th, .int at0, .int fa, .ref (mm 6), .int ts, .ref (mm 7), .ref (mm 8), .ref (mm 9), .int fr])), ((mm 1), .inl (cI, 12, .inl xm_mk)), ((mm 2), .inl (cI, 80, .inl v)), ((mm 7), .inl (cI, 96, .inl ow)), ((mm 8), .inl (cI, 96, .inl li)), ((mm 9), .inl (cI, 6, .inl cr))] sz)) (va_A [((mm 0), .inr (5, [.ref (mm 1), .ref (mm 2), .ref (mm 3), .ref (mm 4), .int kp, .ref (mm 5), .int ty, .int th, .int at0, .int fa, .ref (mm 6), .int ts, .ref (mm 7), .ref (mm 8), .ref (mm 9), .int fr])), ((mm 1), .inl (cI, 12, .inl xm_mk)), ((mm 2), .inl (cI, 80, .inl v)), ((mm 7), .inl (cI, 96, .inl ow)), ((mm 8), .inl (cI, 96, .inl li)), ((mm 9), .inl (cI, 6, .inl cr))] sz)) 0 0 (va_A [((mm 0), .inr (5, [.ref (mm 1), .ref (mm 2), .ref (mm 3), .ref (mm 4), .int kp, .ref (mm 5), .int ty, .int th, .int at0, .int fa, .ref (mm 6), .int ts, .ref (mm 7), .ref (mm 8), .ref (mm 9), .int fr])), ((mm 1), .inl (cI, 12, .inl xm_mk)), ((mm 2), .inl (cI, 80, .inl v)), ((mm 7), .inl (cI, 96, .inl ow)), ((mm 8), .inl (cI, 96, .inl li)), ((mm 9), .inl (cI, 6, .inl cr))] sz) := by
  refine Met.ofW (cc := cX5_count) (maxL := 2) (ret := (some .int)) (by decide) rfl ?_
  intro p e s m args below meth c s₁ B hml hv
  obtain ⟨rfl, hsz, hP, hE, hD0, hpre⟩ := hv
  have hx := B.exec
  have hb := B.bytes
  have hr := B.returns
  have hts := atoms_spec (ws := wsX5_count) B.pre
  have hown : s.vm.findClass RX5 = some m.cls := findClass_of_methodNamed B.named
  have hlocks := B.notSynchronized
  have hK := hE.1
  subst hsz
  have hD := hD0.self (sz := s.heap.size)
  generalize hAe : va_A [((mm 0), .inr (5, [.ref (mm 1), .ref (mm 2), .ref (mm 3), .ref (mm 4), .int kp, .ref (mm 5), .int ty, .int th, .int at0, .int fa, .ref (mm 6), .int ts, .ref (mm 7), .ref (mm 8), .ref (mm 9), .int fr])), ((mm 1), .inl (cI, 12, .inl xm_mk)), ((mm 2), .inl (cI, 80, .inl v)), ((mm 7), .inl (cI, 96, .inl ow)), ((mm 8), .inl (cI, 96, .inl li)), ((mm 9), .inl (cI, 6, .inl cr))] s.heap.size = A at hD hE ⊢
  have hA : ∀ q : Nat, s.heap.size ≤ q → A q := fun q h => by rw [← hAe]; exact Or.inr h
  have hS : va_S A s.heap s.heap [] := va_S.rf
  have hP : va_P (dC, dI) vwCl [((mm 0), .inr (5, [.ref (mm 1), .ref (mm 2), .ref (mm 3), .ref (mm 4), .int kp, .ref (mm 5), .int ty, .int th, .int at0, .int fa, .ref (mm 6), .int ts, .ref (mm 7), .ref (mm 8), .ref (mm 9), .int fr])), ((mm 1), .inl (cI, 12, .inl xm_mk)), ((mm 2), .inl (cI, 80, .inl v)), ((mm 7), .inl (cI, 96, .inl ow)), ((mm 8), .inl (cI, 96, .inl li)), ((mm 9), .inl (cI, 6, .inl cr))] s.heap := hP
  have hin5 : ∀ w ∈ u_ws RX5 TX5 16, w ∈ wsX5_count := by decide +kernel
  have hl := lv_entry [.ref (mm 0), .int p0] (n := 2) (Nat.le_of_ble_eq_true rfl)
  rw [lg_entry_eq]
  generalize (lg_sl [.ref (mm 0), .int p0] ++ List.replicate (2 - (lg_sl [.ref (mm 0), .int p0]).length) Slot.unset).toArray = lz at hl ⊢
  have hl : lv_has lz 2 [(0, .ref (mm 0)), (1, .int p0)] := hl
  refine lv_aload_n hx hb dX5_count_0 rfl (lv_at hl 0 rfl) ?_
  refine lv_iconst (v := 0) hx hb dX5_count_1 (by decide) ?_
  refine va_put (D := (dC, dI)) (ci := 5) (v := .int 0) (ty := .int) (C := RX5) (T := TX5) (N := 16) hx hb hts hin5 tyX5 tyX5_ok nmX5 hown hK hP hD hS 0 rfl rfl 7 (by decide) (hts (.fieldLink RX5 37 "TurnDigitsModel" "thrown" "I") (by decide +kernel)) (fun _ h9 => h9) rfl (by decide +kernel) rfl rfl (Nat.le_of_ble_eq_true rfl) dX5_count_2 (fun H locs hP hD hS => ?_)
  have hP : va_P (dC, dI) vwCl [((mm 0), .inr (5, [.ref (mm 1), .ref (mm 2), .ref (mm 3), .ref (mm 4), .int kp, .ref (mm 5), .int ty, .int 0, .int at0, .int fa, .ref (mm 6), .int ts, .ref (mm 7), .ref (mm 8), .ref (mm 9), .int fr])), ((mm 1), .inl (cI, 12, .inl xm_mk)), ((mm 2), .inl (cI, 80, .inl v)), ((mm 7), .inl (cI, 96, .inl ow)), ((mm 8), .inl (cI, 96, .inl li)), ((mm 9), .inl (cI, 6, .inl cr))] H := hP
  have hD : va_D A [((mm 0), .inr (5, [.ref (mm 1), .ref (mm 2), .ref (mm 3), .ref (mm 4), .int kp, .ref (mm 5), .int ty, .int 0, .int at0, .int fa, .ref (mm 6), .int ts, .ref (mm 7), .ref (mm 8), .ref (mm 9), .int fr])), ((mm 1), .inl (cI, 12, .inl xm_mk)), ((mm 2), .inl (cI, 80, .inl v)), ((mm 7), .inl (cI, 96, .inl ow)), ((mm 8), .inl (cI, 96, .inl li)), ((mm 9), .inl (cI, 6, .inl cr))] := hD
  refine lv_iload_n hx hb dX5_count_5 rfl (lv_at hl 1 rfl) ?_
  refine lv_iconst (v := 0) hx hb dX5_count_6 (by decide) ?_
  refine lv_bipush (v := 10) hx hb dX5_count_7 (by decide) ?_
  have hPc := hP.sub (ws' := []) [] rfl
  refine W.callV ((va_runS (As := [.int p0, .int 0, .int 10]) (rest := []) ⟨hx, hb, hml, hown, hts⟩ (c_X5_in l dC dI cI cS cJ tt p0 0 10) (va_cwS 3 hts gX5_count_X5_in rfl rfl rfl (by decide +kernel) ⟨Nat.le_of_ble_eq_true rfl, Nat.le_of_ble_eq_true rfl⟩) ⟨xm_Rblind, fun U hU hW => ⟨rfl, by rw [hU]; exact hPc, hE.go hS (fun _ q => q.elim) hU hW, trivial⟩⟩ rfl rfl hl.1 rfl (lv_room (Nat.le_of_ble_eq_true rfl)) dX5_count_9 ⟨Nat.zero_le _, Nat.zero_le _⟩).run) ?_
  refine W.eq (g2 := F0 m 12 lz (.int (if xt_rg p0 0 10 = 0 then 1 else 0) :: [])) rfl ?_
  refine lv_if_eq (tgt := 23) hx hb dX5_count_12 (by decide) (fun q12 => ?_) (fun q12 => ?_)
  · have q12b : ¬ xt_rg p0 0 10 = 0 := xm_bF q12
    refine lv_aload_n hx hb dX5_count_23 rfl (lv_at hl 0 rfl) ?_
    refine lv_iconst (v := 1) hx hb dX5_count_24 (by decide) ?_
    have hPc := hP.sub (ws' := [((mm 0), .inr (5, [.ref (mm 1), .ref (mm 2), .ref (mm 3), .ref (mm 4), .int kp, .ref (mm 5), .int ty, .int 0, .int at0, .int fa, .ref (mm 6), .int ts, .ref (mm 7), .ref (mm 8), .ref (mm 9), .int fr]))]) [0] rfl
    have hDc := hD.sub (ws' := [((mm 0), .inr (5, [.ref (mm 1), .ref (mm 2), .ref (mm 3), .ref (mm 4), .int kp, .ref (mm 5), .int ty, .int 0, .int at0, .int fa, .ref (mm 6), .int ts, .ref (mm 7), .ref (mm 8), .ref (mm 9), .int fr]))]) [0] (by decide) rfl
    have hFc := va_free (wc := [((mm 0), .inr (5, [.ref (mm 1), .ref (mm 2), .ref (mm 3), .ref (mm 4), .int kp, .ref (mm 5), .int ty, .int 0, .int at0, .int fa, .ref (mm 6), .int ts, .ref (mm 7), .ref (mm 8), .ref (mm 9), .int fr]))]) hD hS hA [0] rfl
    refine va_calli (va_runV (As := [.int 1]) (rest := []) ⟨hx, hb, hml, hown, hts⟩ (c_X5_fails l dC dI cI cS cJ tt H.size mm kp ty 0 at0 fa ts fr 1) (cwV 1 hts gX5_count_X5_fails rfl rfl rfl (by decide +kernel) ⟨Nat.le_of_ble_eq_true rfl, Nat.le_of_ble_eq_true rfl⟩) ⟨xm_Mblind, va_recv hK hPc (ci := 5) (q0 := 0) rfl rfl, fun U hU hW => ⟨rfl, by rw [hU], by rw [hU]; exact hPc, hE.go hS hFc hU hW, hDc.weaken (fun _ _ _ _ => trivial), trivial⟩⟩ rfl rfl hl.1 rfl (lv_room (Nat.le_of_ble_eq_true rfl)) dX5_count_25 ⟨Nat.zero_le _, Nat.zero_le _⟩) hS (fun q _ h => hFc q h) hFc (fun r u t H1 locs ht hvm hw hB hz1 hk1 hS => ?_)
    obtain ⟨u_1, rfl⟩ : ∃ z, z = u := ⟨_, rfl⟩
    obtain ⟨hP1, hD1⟩ := hB
    rw [ht] at hP1
    obtain ⟨hw_2, hw_3⟩ := hw
    have hw_2 : r = 0 := hw_2
    subst hw_2
    have hw_3 : u_1 = 1 := hw_3
    subst hw_3
    obtain ⟨hP, hD⟩ := va_join (wr := [((mm 1), .inl (cI, 12, .inl xm_mk)), ((mm 2), .inl (cI, 80, .inl v)), ((mm 7), .inl (cI, 96, .inl ow)), ((mm 8), .inl (cI, 96, .inl li)), ((mm 9), .inl (cI, 6, .inl cr))]) (w1 := [((mm 0), .inr (5, [.ref (mm 1), .ref (mm 2), .ref (mm 3), .ref (mm 4), .int kp, .ref (mm 5), .int ty, .int 1, .int at0, .int fa, .ref (mm 6), .int ts, .ref (mm 7), .ref (mm 8), .ref (mm 9), .int fr]))]) hP hD [0] [1, 2, 3, 4, 5] rfl rfl (by decide) (by decide) hk1 hFc hP1 hD1
    generalize H1 = H at hP hS ⊢
    have hP : va_P (dC, dI) vwCl [((mm 1), .inl (cI, 12, .inl xm_mk)), ((mm 2), .inl (cI, 80, .inl v)), ((mm 7), .inl (cI, 96, .inl ow)), ((mm 8), .inl (cI, 96, .inl li)), ((mm 9), .inl (cI, 6, .inl cr)), ((mm 0), .inr (5, [.ref (mm 1), .ref (mm 2), .ref (mm 3), .ref (mm 4), .int kp, .ref (mm 5), .int ty, .int 1, .int at0, .int fa, .ref (mm 6), .int ts, .ref (mm 7), .ref (mm 8), .ref (mm 9), .int fr]))] H := hP
    have hD : va_D A [((mm 1), .inl (cI, 12, .inl xm_mk)), ((mm 2), .inl (cI, 80, .inl v)), ((mm 7), .inl (cI, 96, .inl ow)), ((mm 8), .inl (cI, 96, .inl li)), ((mm 9), .inl (cI, 6, .inl cr)), ((mm 0), .inr (5, [.ref (mm 1), .ref (mm 2), .ref (mm 3), .ref (mm 4), .int kp, .ref (mm 5), .int ty, .int 1, .int at0, .int fa, .ref (mm 6), .int ts, .ref (mm 7), .ref (mm 8), .ref (mm 9), .int fr]))] := hD
    have hc9 : xc_co p0 = 1 := by simp only [xc_co, if_neg q12b]
    have hn9 : ¬ xc_co p0 = 0 := by rw [hc9]; decide
    have hP9 := hP.sub (ws' := [((mm 0), .inr (5, [.ref (mm 1), .ref (mm 2), .ref (mm 3), .ref (mm 4), .int kp, .ref (mm 5), .int ty, .int 1, .int at0, .int fa, .ref (mm 6), .int ts, .ref (mm 7), .ref (mm 8), .ref (mm 9), .int fr])), ((mm 1), .inl (cI, 12, .inl xm_mk)), ((mm 2), .inl (cI, 80, .inl v)), ((mm 7), .inl (cI, 96, .inl ow)), ((mm 8), .inl (cI, 96, .inl li)), ((mm 9), .inl (cI, 6, .inl cr))]) [5, 0, 1, 2, 3, 4] rfl
    have hD9 := hD.sub (ws' := [((mm 0), .inr (5, [.ref (mm 1), .ref (mm 2), .ref (mm 3), .ref (mm 4), .int kp, .ref (mm 5), .int ty, .int 1, .int at0, .int fa, .ref (mm 6), .int ts, .ref (mm 7), .ref (mm 8), .ref (mm 9), .int fr])), ((mm 1), .inl (cI, 12, .inl xm_mk)), ((mm 2), .inl (cI, 80, .inl v)), ((mm 7), .inl (cI, 96, .inl ow)), ((mm 8), .inl (cI, 96, .inl li)), ((mm 9), .inl (cI, 6, .inl cr))]) [5, 0, 1, 2, 3, 4] (by decide) rfl
    exact W.iret (v := 0) hx hb hr (fun t ht hW => ⟨⟨0, (1, fr, ow, li, cr), rfl, ⟨(if_neg hn9).symm, (hc9.symm)⟩, by rw [ht]; exact hP9, hD9⟩, hS.F ht⟩) hS.2.2 dX5_count_28
  · have q12b : xt_rg p0 0 10 = 0 := xm_bT q12
    refine lv_aload_n hx hb dX5_count_15 rfl (lv_at hl 0 rfl) ?_
    refine lv_iload_n hx hb dX5_count_16 rfl (lv_at hl 1 rfl) ?_
    refine xm_topi (y := (nI p0.toNatClampNeg)) (xc_n (a := 0) (b := 10) q12b rfl rfl (by decide) (by decide)).1 ?_
    have hPc := hP.sub (ws' := [((mm 0), .inr (5, [.ref (mm 1), .ref (mm 2), .ref (mm 3), .ref (mm 4), .int kp, .ref (mm 5), .int ty, .int 0, .int at0, .int fa, .ref (mm 6), .int ts, .ref (mm 7), .ref (mm 8), .ref (mm 9), .int fr])), ((mm 1), .inl (cI, 12, .inl xm_mk)), ((mm 2), .inl (cI, 80, .inl v)), ((mm 7), .inl (cI, 96, .inl ow)), ((mm 8), .inl (cI, 96, .inl li)), ((mm 9), .inl (cI, 6, .inl cr))]) [0, 1, 2, 3, 4, 5] rfl
    have hDc := hD.sub (ws' := [((mm 0), .inr (5, [.ref (mm 1), .ref (mm 2), .ref (mm 3), .ref (mm 4), .int kp, .ref (mm 5), .int ty, .int 0, .int at0, .int fa, .ref (mm 6), .int ts, .ref (mm 7), .ref (mm 8), .ref (mm 9), .int fr])), ((mm 1), .inl (cI, 12, .inl xm_mk)), ((mm 2), .inl (cI, 80, .inl v)), ((mm 7), .inl (cI, 96, .inl ow)), ((mm 8), .inl (cI, 96, .inl li)), ((mm 9), .inl (cI, 6, .inl cr))]) [0, 1, 2, 3, 4, 5] (by decide) rfl
    have hFc := va_free (wc := [((mm 0), .inr (5, [.ref (mm 1), .ref (mm 2), .ref (mm 3), .ref (mm 4), .int kp, .ref (mm 5), .int ty, .int 0, .int at0, .int fa, .ref (mm 6), .int ts, .ref (mm 7), .ref (mm 8), .ref (mm 9), .int fr])), ((mm 1), .inl (cI, 12, .inl xm_mk)), ((mm 2), .inl (cI, 80, .inl v)), ((mm 7), .inl (cI, 96, .inl ow)), ((mm 8), .inl (cI, 96, .inl li)), ((mm 9), .inl (cI, 6, .inl cr))]) hD hS hA [0, 1, 2, 3, 4, 5] rfl
    refine va_calli (va_runV (As := [.int (nI p0.toNatClampNeg)]) (rest := []) ⟨hx, hb, hml, hown, hts⟩ (c_X5_counted l dC dI cI cS cJ tt H.size mm kp ty 0 at0 fa ts fr v ow li cr n p0.toNatClampNeg) (cwV 1 hts gX5_count_X5_counted rfl rfl rfl (by decide +kernel) ⟨Nat.le_of_ble_eq_true rfl, Nat.le_of_ble_eq_true rfl⟩) ⟨xm_Mblind, va_recv hK hPc (ci := 5) (q0 := 0) rfl rfl, fun U hU hW => ⟨rfl, by rw [hU], by rw [hU]; exact hPc, hE.go hS hFc hU hW, hDc.weaken (fun _ _ _ _ => trivial), ⟨hpre, (xc_n (a := 0) (b := 10) q12b rfl rfl (by decide) (by decide)).2.2⟩⟩⟩ rfl rfl hl.1 rfl (lv_room (Nat.le_of_ble_eq_true rfl)) dX5_count_17 ⟨Nat.zero_le _, Nat.zero_le _⟩) hS (fun q _ h => hFc q h) hFc (fun r u t H1 locs ht hvm hw hB hz1 hk1 hS => ?_)
    obtain ⟨u_4, u_5, u_6, u_7⟩ := u
    obtain ⟨hP1, hD1⟩ := hB
    rw [ht] at hP1
    have hw_8 := hw
    have hw_8 : r = lk_ct v n kp p0.toNatClampNeg := hw_8
    subst hw_8
    obtain ⟨hP, hD⟩ := va_join (wr := []) (w1 := [((mm 0), .inr (5, [.ref (mm 1), .ref (mm 2), .ref (mm 3), .ref (mm 4), .int kp, .ref (mm 5), .int ty, .int 0, .int at0, .int fa, .ref (mm 6), .int ts, .ref (mm 7), .ref (mm 8), .ref (mm 9), .int u_4])), ((mm 1), .inl (cI, 12, .inl xm_mk)), ((mm 2), .inl (cI, 80, .inl v)), ((mm 7), .inl (cI, 96, .inl u_5)), ((mm 8), .inl (cI, 96, .inl u_6)), ((mm 9), .inl (cI, 6, .inl u_7))]) hP hD [0, 1, 2, 3, 4, 5] [] rfl rfl (by decide) (by decide) hk1 hFc hP1 hD1
    generalize H1 = H at hP hS ⊢
    have hP : va_P (dC, dI) vwCl [((mm 0), .inr (5, [.ref (mm 1), .ref (mm 2), .ref (mm 3), .ref (mm 4), .int kp, .ref (mm 5), .int ty, .int 0, .int at0, .int fa, .ref (mm 6), .int ts, .ref (mm 7), .ref (mm 8), .ref (mm 9), .int u_4])), ((mm 1), .inl (cI, 12, .inl xm_mk)), ((mm 2), .inl (cI, 80, .inl v)), ((mm 7), .inl (cI, 96, .inl u_5)), ((mm 8), .inl (cI, 96, .inl u_6)), ((mm 9), .inl (cI, 6, .inl u_7))] H := hP
    have hD : va_D A [((mm 0), .inr (5, [.ref (mm 1), .ref (mm 2), .ref (mm 3), .ref (mm 4), .int kp, .ref (mm 5), .int ty, .int 0, .int at0, .int fa, .ref (mm 6), .int ts, .ref (mm 7), .ref (mm 8), .ref (mm 9), .int u_4])), ((mm 1), .inl (cI, 12, .inl xm_mk)), ((mm 2), .inl (cI, 80, .inl v)), ((mm 7), .inl (cI, 96, .inl u_5)), ((mm 8), .inl (cI, 96, .inl u_6)), ((mm 9), .inl (cI, 6, .inl u_7))] := hD
    refine lv_goto (tgt := 28) hx hb dX5_count_20 (by decide) ?_
    have hc9 : xc_co p0 = 0 := by simp only [xc_co, if_pos q12b]
    have hP9 : va_P (dC, dI) vwCl [((mm 0), .inr (5, [.ref (mm 1), .ref (mm 2), .ref (mm 3), .ref (mm 4), .int kp, .ref (mm 5), .int ty, .int 0, .int at0, .int fa, .ref (mm 6), .int ts, .ref (mm 7), .ref (mm 8), .ref (mm 9), .int u_4])), ((mm 1), .inl (cI, 12, .inl xm_mk)), ((mm 2), .inl (cI, 80, .inl v)), ((mm 7), .inl (cI, 96, .inl u_5)), ((mm 8), .inl (cI, 96, .inl u_6)), ((mm 9), .inl (cI, 6, .inl u_7))] H := hP
    have hD9 : va_D A [((mm 0), .inr (5, [.ref (mm 1), .ref (mm 2), .ref (mm 3), .ref (mm 4), .int kp, .ref (mm 5), .int ty, .int 0, .int at0, .int fa, .ref (mm 6), .int ts, .ref (mm 7), .ref (mm 8), .ref (mm 9), .int u_4])), ((mm 1), .inl (cI, 12, .inl xm_mk)), ((mm 2), .inl (cI, 80, .inl v)), ((mm 7), .inl (cI, 96, .inl u_5)), ((mm 8), .inl (cI, 96, .inl u_6)), ((mm 9), .inl (cI, 6, .inl u_7))] := hD
    exact W.iret (v := lk_ct v n kp p0.toNatClampNeg) hx hb hr (fun t ht hW => ⟨⟨lk_ct v n kp p0.toNatClampNeg, (0, u_4, u_5, u_6, u_7), rfl, ⟨(if_pos hc9).symm, (hc9.symm)⟩, by rw [ht]; exact hP9, hD9⟩, hS.F ht⟩) hS.2.2 dX5_count_28

set_option maxHeartbeats 4000000 in
set_option maxRecDepth 100000 in
theorem c_X5_setting (l : Launch) (dC : Nat → ClassId) (dI : Nat → Nat → Nat) (cI cS cJ : ClassId) (tt : Nat → Nat) (sz : Nat) (mm : Nat → Nat) (kp : Int32) (ty : Int32) (th : Int32) (at0 : Int32) (fa : Int32) (ts : Int32) (fr : Int32) (p0 : Int32) (v : Nat → Int32) : Met l yX5_setting wsX5_setting ({ frames := 1, cells := 0, slots := 0, locals := 22 } : Room) (va_Pc [.ref (mm 0), .int p0] (xm_M (dC, dI) cI cS cJ tt [((mm 0), .inr (5, [.ref (mm 1), .ref (mm 2), .ref (mm 3), .ref (mm 4), .int kp, .ref (mm 5), .int ty, .int th, .int at0, .int fa, .ref (mm 6), .int ts, .ref (mm 7), .ref (mm 8), .ref (mm 9), .int fr])), ((mm 2), .inl (cI, 80, .inl v))] sz (True))) (va_Qi (fun (r : Int32) (u : Int32) => r = (if xc_st p0 = 0 then v (2 + p0.toNatClampNeg) else 0) ∧ u = xc_st p0) (xm_B (dC, dI) (fun (u : Int32) => [((mm 0), .inr (5, [.ref (mm 1), .ref (mm 2), .ref (mm 3), .ref (mm 4), .int kp, .ref (mm 5), .int ty, .int u, .int at0, .int fa, .ref (mm 6), .int ts, .ref (mm 7), .ref (mm 8), .ref (mm 9), .int fr])), ((mm 2), .inl (cI, 80, .inl v))]) (va_A [((mm 0), .inr (5, [.ref (mm 1), .ref (mm 2), .ref (mm 3), .ref (mm 4), .int kp, .ref (mm 5), .int ty, .int th, .int at0, .int fa, .ref (mm 6), .int ts, .ref (mm 7), .ref (mm 8), .ref (mm 9), .int fr])), ((mm 2), .inl (cI, 80, .inl v))] sz)) (va_A [((mm 0), .inr (5, [.ref (mm 1), .ref (mm 2), .ref (mm 3), .ref (mm 4), .int kp, .ref (mm 5), .int ty, .int th, .int at0, .int fa, .ref (mm 6), .int ts, .ref (mm 7), .ref (mm 8), .ref (mm 9), .int fr])), ((mm 2), .inl (cI, 80, .inl v))] sz)) 0 0 (va_A [((mm 0), .inr (5, [.ref (mm 1), .ref (mm 2), .ref (mm 3), .ref (mm 4), .int kp, .ref (mm 5), .int ty, .int th, .int at0, .int fa, .ref (mm 6), .int ts, .ref (mm 7), .ref (mm 8), .ref (mm 9), .int fr])), ((mm 2), .inl (cI, 80, .inl v))] sz) := by
  refine Met.ofW (cc := cX5_setting) (maxL := 2) (ret := (some .int)) (by decide) rfl ?_
  intro p e s m args below meth c s₁ B hml hv
  obtain ⟨rfl, hsz, hP, hE, hD0, hpre⟩ := hv
  have hx := B.exec
  have hb := B.bytes
  have hr := B.returns
  have hts := atoms_spec (ws := wsX5_setting) B.pre
  have hown : s.vm.findClass RX5 = some m.cls := findClass_of_methodNamed B.named
  have hlocks := B.notSynchronized
  have hK := hE.1
  subst hsz
  have hD := hD0.self (sz := s.heap.size)
  generalize hAe : va_A [((mm 0), .inr (5, [.ref (mm 1), .ref (mm 2), .ref (mm 3), .ref (mm 4), .int kp, .ref (mm 5), .int ty, .int th, .int at0, .int fa, .ref (mm 6), .int ts, .ref (mm 7), .ref (mm 8), .ref (mm 9), .int fr])), ((mm 2), .inl (cI, 80, .inl v))] s.heap.size = A at hD hE ⊢
  have hA : ∀ q : Nat, s.heap.size ≤ q → A q := fun q h => by rw [← hAe]; exact Or.inr h
  have hS : va_S A s.heap s.heap [] := va_S.rf
  have hP : va_P (dC, dI) vwCl [((mm 0), .inr (5, [.ref (mm 1), .ref (mm 2), .ref (mm 3), .ref (mm 4), .int kp, .ref (mm 5), .int ty, .int th, .int at0, .int fa, .ref (mm 6), .int ts, .ref (mm 7), .ref (mm 8), .ref (mm 9), .int fr])), ((mm 2), .inl (cI, 80, .inl v))] s.heap := hP
  have hin5 : ∀ w ∈ u_ws RX5 TX5 16, w ∈ wsX5_setting := by decide +kernel
  have hl := lv_entry [.ref (mm 0), .int p0] (n := 2) (Nat.le_of_ble_eq_true rfl)
  rw [lg_entry_eq]
  generalize (lg_sl [.ref (mm 0), .int p0] ++ List.replicate (2 - (lg_sl [.ref (mm 0), .int p0]).length) Slot.unset).toArray = lz at hl ⊢
  have hl : lv_has lz 2 [(0, .ref (mm 0)), (1, .int p0)] := hl
  refine lv_aload_n hx hb dX5_setting_0 rfl (lv_at hl 0 rfl) ?_
  refine lv_iconst (v := 0) hx hb dX5_setting_1 (by decide) ?_
  refine va_put (D := (dC, dI)) (ci := 5) (v := .int 0) (ty := .int) (C := RX5) (T := TX5) (N := 16) hx hb hts hin5 tyX5 tyX5_ok nmX5 hown hK hP hD hS 0 rfl rfl 7 (by decide) (hts (.fieldLink RX5 37 "TurnDigitsModel" "thrown" "I") (by decide +kernel)) (fun _ h9 => h9) rfl (by decide +kernel) rfl rfl (Nat.le_of_ble_eq_true rfl) dX5_setting_2 (fun H locs hP hD hS => ?_)
  have hP : va_P (dC, dI) vwCl [((mm 0), .inr (5, [.ref (mm 1), .ref (mm 2), .ref (mm 3), .ref (mm 4), .int kp, .ref (mm 5), .int ty, .int 0, .int at0, .int fa, .ref (mm 6), .int ts, .ref (mm 7), .ref (mm 8), .ref (mm 9), .int fr])), ((mm 2), .inl (cI, 80, .inl v))] H := hP
  have hD : va_D A [((mm 0), .inr (5, [.ref (mm 1), .ref (mm 2), .ref (mm 3), .ref (mm 4), .int kp, .ref (mm 5), .int ty, .int 0, .int at0, .int fa, .ref (mm 6), .int ts, .ref (mm 7), .ref (mm 8), .ref (mm 9), .int fr])), ((mm 2), .inl (cI, 80, .inl v))] := hD
  refine lv_iload_n hx hb dX5_setting_5 rfl (lv_at hl 1 rfl) ?_
  refine lv_iconst (v := 0) hx hb dX5_setting_6 (by decide) ?_
  refine lv_iconst (v := 4) hx hb dX5_setting_7 (by decide) ?_
  have hPc := hP.sub (ws' := []) [] rfl
  refine W.callV ((va_runS (As := [.int p0, .int 0, .int 4]) (rest := []) ⟨hx, hb, hml, hown, hts⟩ (c_X5_in l dC dI cI cS cJ tt p0 0 4) (va_cwS 3 hts gX5_setting_X5_in rfl rfl rfl (by decide +kernel) ⟨Nat.le_of_ble_eq_true rfl, Nat.le_of_ble_eq_true rfl⟩) ⟨xm_Rblind, fun U hU hW => ⟨rfl, by rw [hU]; exact hPc, hE.go hS (fun _ q => q.elim) hU hW, trivial⟩⟩ rfl rfl hl.1 rfl (lv_room (Nat.le_of_ble_eq_true rfl)) dX5_setting_8 ⟨Nat.zero_le _, Nat.zero_le _⟩).run) ?_
  refine W.eq (g2 := F0 m 11 lz (.int (if xt_rg p0 0 4 = 0 then 1 else 0) :: [])) rfl ?_
  refine xm_topi (y := (if xt_dg 5 p0 = 0 then 1 else 0)) (by rw [show xt_rg p0 0 4 = xt_dg 5 p0 from mi_rd 4 (by decide) p0]) ?_
  refine lv_if_eq (tgt := 25) hx hb dX5_setting_11 (by decide) (fun q11 => ?_) (fun q11 => ?_)
  · have q11b : ¬ xt_dg 5 p0 = 0 := xm_bF q11
    refine lv_aload_n hx hb dX5_setting_25 rfl (lv_at hl 0 rfl) ?_
    refine lv_iconst (v := 1) hx hb dX5_setting_26 (by decide) ?_
    have hPc := hP.sub (ws' := [((mm 0), .inr (5, [.ref (mm 1), .ref (mm 2), .ref (mm 3), .ref (mm 4), .int kp, .ref (mm 5), .int ty, .int 0, .int at0, .int fa, .ref (mm 6), .int ts, .ref (mm 7), .ref (mm 8), .ref (mm 9), .int fr]))]) [0] rfl
    have hDc := hD.sub (ws' := [((mm 0), .inr (5, [.ref (mm 1), .ref (mm 2), .ref (mm 3), .ref (mm 4), .int kp, .ref (mm 5), .int ty, .int 0, .int at0, .int fa, .ref (mm 6), .int ts, .ref (mm 7), .ref (mm 8), .ref (mm 9), .int fr]))]) [0] (by decide) rfl
    have hFc := va_free (wc := [((mm 0), .inr (5, [.ref (mm 1), .ref (mm 2), .ref (mm 3), .ref (mm 4), .int kp, .ref (mm 5), .int ty, .int 0, .int at0, .int fa, .ref (mm 6), .int ts, .ref (mm 7), .ref (mm 8), .ref (mm 9), .int fr]))]) hD hS hA [0] rfl
    refine va_calli (va_runV (As := [.int 1]) (rest := []) ⟨hx, hb, hml, hown, hts⟩ (c_X5_fails l dC dI cI cS cJ tt H.size mm kp ty 0 at0 fa ts fr 1) (cwV 1 hts gX5_setting_X5_fails rfl rfl rfl (by decide +kernel) ⟨Nat.le_of_ble_eq_true rfl, Nat.le_of_ble_eq_true rfl⟩) ⟨xm_Mblind, va_recv hK hPc (ci := 5) (q0 := 0) rfl rfl, fun U hU hW => ⟨rfl, by rw [hU], by rw [hU]; exact hPc, hE.go hS hFc hU hW, hDc.weaken (fun _ _ _ _ => trivial), trivial⟩⟩ rfl rfl hl.1 rfl (lv_room (Nat.le_of_ble_eq_true rfl)) dX5_setting_27 ⟨Nat.zero_le _, Nat.zero_le _⟩) hS (fun q _ h => hFc q h) hFc (fun r u t H1 locs ht hvm hw hB hz1 hk1 hS => ?_)
    obtain ⟨u_1, rfl⟩ : ∃ z, z = u := ⟨_, rfl⟩
    obtain ⟨hP1, hD1⟩ := hB
    rw [ht] at hP1
    obtain ⟨hw_2, hw_3⟩ := hw
    have hw_2 : r = 0 := hw_2
    subst hw_2
    have hw_3 : u_1 = 1 := hw_3
    subst hw_3
    obtain ⟨hP, hD⟩ := va_join (wr := [((mm 2), .inl (cI, 80, .inl v))]) (w1 := [((mm 0), .inr (5, [.ref (mm 1), .ref (mm 2), .ref (mm 3), .ref (mm 4), .int kp, .ref (mm 5), .int ty, .int 1, .int at0, .int fa, .ref (mm 6), .int ts, .ref (mm 7), .ref (mm 8), .ref (mm 9), .int fr]))]) hP hD [0] [1] rfl rfl (by decide) (by decide) hk1 hFc hP1 hD1
    generalize H1 = H at hP hS ⊢
    have hP : va_P (dC, dI) vwCl [((mm 2), .inl (cI, 80, .inl v)), ((mm 0), .inr (5, [.ref (mm 1), .ref (mm 2), .ref (mm 3), .ref (mm 4), .int kp, .ref (mm 5), .int ty, .int 1, .int at0, .int fa, .ref (mm 6), .int ts, .ref (mm 7), .ref (mm 8), .ref (mm 9), .int fr]))] H := hP
    have hD : va_D A [((mm 2), .inl (cI, 80, .inl v)), ((mm 0), .inr (5, [.ref (mm 1), .ref (mm 2), .ref (mm 3), .ref (mm 4), .int kp, .ref (mm 5), .int ty, .int 1, .int at0, .int fa, .ref (mm 6), .int ts, .ref (mm 7), .ref (mm 8), .ref (mm 9), .int fr]))] := hD
    have hc9 : xc_st p0 = 1 := by simp only [xc_st, if_neg q11b]
    have hn9 : ¬ xc_st p0 = 0 := by rw [hc9]; decide
    have hP9 := hP.sub (ws' := [((mm 0), .inr (5, [.ref (mm 1), .ref (mm 2), .ref (mm 3), .ref (mm 4), .int kp, .ref (mm 5), .int ty, .int 1, .int at0, .int fa, .ref (mm 6), .int ts, .ref (mm 7), .ref (mm 8), .ref (mm 9), .int fr])), ((mm 2), .inl (cI, 80, .inl v))]) [1, 0] rfl
    have hD9 := hD.sub (ws' := [((mm 0), .inr (5, [.ref (mm 1), .ref (mm 2), .ref (mm 3), .ref (mm 4), .int kp, .ref (mm 5), .int ty, .int 1, .int at0, .int fa, .ref (mm 6), .int ts, .ref (mm 7), .ref (mm 8), .ref (mm 9), .int fr])), ((mm 2), .inl (cI, 80, .inl v))]) [1, 0] (by decide) rfl
    exact W.iret (v := 0) hx hb hr (fun t ht hW => ⟨⟨0, 1, rfl, ⟨(if_neg hn9).symm, (hc9.symm)⟩, by rw [ht]; exact hP9, hD9⟩, hS.F ht⟩) hS.2.2 dX5_setting_30
  · have q11b : xt_dg 5 p0 = 0 := xm_bT q11
    refine lv_aload_n hx hb dX5_setting_14 rfl (lv_at hl 0 rfl) ?_
    refine va_get (D := (dC, dI)) (ci := 5) (v := .ref (mm 2)) (C := RX5) (T := TX5) (N := 16) hx hb hts hin5 hown hK hP 0 rfl rfl 1 (by decide) (hts (.fieldLink RX5 13 "TurnDigitsModel" "now" "[I") (by decide +kernel)) (fun _ h9 => h9) rfl dX5_setting_15 ?_
    refine lv_iconst (v := 2) hx hb dX5_setting_18 (by decide) ?_
    refine lv_iload_n hx hb dX5_setting_19 rfl (lv_at hl 1 rfl) ?_
    refine xm_topi (y := (nI p0.toNatClampNeg)) (xt_dg_ok (n := 5) (by decide) q11b).1 ?_
    refine lv_iadd hx hb dX5_setting_20 ?_
    refine xm_topi (y := nI (2 + p0.toNatClampNeg)) (nI_add 2 p0.toNatClampNeg) ?_
    refine xm_iald (D := (dC, dI)) hx hb hK hP 1 0 (2 + p0.toNatClampNeg) (v := v (2 + p0.toNatClampNeg)) rfl rfl (by decide) rfl (by have := (xt_dg_ok (n := 5) (by decide) q11b).2; omega) rfl dX5_setting_21 ?_
    refine lv_goto (tgt := 30) hx hb dX5_setting_22 (by decide) ?_
    have hc9 : xc_st p0 = 0 := by simp only [xc_st, if_pos q11b]
    have hP9 : va_P (dC, dI) vwCl [((mm 0), .inr (5, [.ref (mm 1), .ref (mm 2), .ref (mm 3), .ref (mm 4), .int kp, .ref (mm 5), .int ty, .int 0, .int at0, .int fa, .ref (mm 6), .int ts, .ref (mm 7), .ref (mm 8), .ref (mm 9), .int fr])), ((mm 2), .inl (cI, 80, .inl v))] H := hP
    have hD9 : va_D A [((mm 0), .inr (5, [.ref (mm 1), .ref (mm 2), .ref (mm 3), .ref (mm 4), .int kp, .ref (mm 5), .int ty, .int 0, .int at0, .int fa, .ref (mm 6), .int ts, .ref (mm 7), .ref (mm 8), .ref (mm 9), .int fr])), ((mm 2), .inl (cI, 80, .inl v))] := hD
    exact W.iret (v := v (2 + p0.toNatClampNeg)) hx hb hr (fun t ht hW => ⟨⟨v (2 + p0.toNatClampNeg), 0, rfl, ⟨(if_pos hc9).symm, (hc9.symm)⟩, by rw [ht]; exact hP9, hD9⟩, hS.F ht⟩) hS.2.2 dX5_setting_30

set_option maxHeartbeats 4000000 in
set_option maxRecDepth 100000 in
theorem c_X5_ifLevel (l : Launch) (dC : Nat → ClassId) (dI : Nat → Nat → Nat) (cI cS cJ : ClassId) (tt : Nat → Nat) (sz : Nat) (mm : Nat → Nat) (kp : Int32) (ty : Int32) (th : Int32) (at0 : Int32) (fa : Int32) (ts : Int32) (fr : Int32) (p0 : Int32) (p1 : Int32) (p2 : Int32) (v : Nat → Int32) (w9 : Nat → Int32) (ow : Nat → Int32) (li : Nat → Int32) (cr : Nat → Int32) (n : Nat) : Met l yX5_ifLevel wsX5_ifLevel ({ frames := 5, cells := 0, slots := 0, locals := 117 } : Room) (va_Pc [.ref (mm 0), .int p0, .int p1, .int p2] (xm_M (dC, dI) cI cS cJ tt [((mm 0), .inr (5, [.ref (mm 1), .ref (mm 2), .ref (mm 3), .ref (mm 4), .int kp, .ref (mm 5), .int ty, .int th, .int at0, .int fa, .ref (mm 6), .int ts, .ref (mm 7), .ref (mm 8), .ref (mm 9), .int fr])), ((mm 2), .inl (cI, 80, .inl v)), ((mm 3), .inl (cI, 80, .inl w9)), ((mm 7), .inl (cI, 96, .inl ow)), ((mm 8), .inl (cI, 96, .inl li)), ((mm 9), .inl (cI, 6, .inl cr))] sz (vo_f v n))) (va_Qi (fun (r : Int32) (u : Int32 × Int32 × (Nat → Int32) × (Nat → Int32) × (Nat → Int32) × (Nat → Int32)) => r = (if xc_if p0 p1 p2 = 0 then if_tr v n p0.toNatClampNeg p1 p2.toNatClampNeg else 0) ∧ u.1 = xc_if p0 p1 p2) (xm_B (dC, dI) (fun (u : Int32 × Int32 × (Nat → Int32) × (Nat → Int32) × (Nat → Int32) × (Nat → Int32)) => [((mm 0), .inr (5, [.ref (mm 1), .ref (mm 2), .ref (mm 3), .ref (mm 4), .int kp, .ref (mm 5), .int ty, .int u.1, .int at0, .int fa, .ref (mm 6), .int ts, .ref (mm 7), .ref (mm 8), .ref (mm 9), .int u.2.1])), ((mm 2), .inl (cI, 80, .inl v)), ((mm 3), .inl (cI, 80, .inl u.2.2.1)), ((mm 7), .inl (cI, 96, .inl u.2.2.2.1)), ((mm 8), .inl (cI, 96, .inl u.2.2.2.2.1)), ((mm 9), .inl (cI, 6, .inl u.2.2.2.2.2))]) (va_A [((mm 0), .inr (5, [.ref (mm 1), .ref (mm 2), .ref (mm 3), .ref (mm 4), .int kp, .ref (mm 5), .int ty, .int th, .int at0, .int fa, .ref (mm 6), .int ts, .ref (mm 7), .ref (mm 8), .ref (mm 9), .int fr])), ((mm 2), .inl (cI, 80, .inl v)), ((mm 3), .inl (cI, 80, .inl w9)), ((mm 7), .inl (cI, 96, .inl ow)), ((mm 8), .inl (cI, 96, .inl li)), ((mm 9), .inl (cI, 6, .inl cr))] sz)) (va_A [((mm 0), .inr (5, [.ref (mm 1), .ref (mm 2), .ref (mm 3), .ref (mm 4), .int kp, .ref (mm 5), .int ty, .int th, .int at0, .int fa, .ref (mm 6), .int ts, .ref (mm 7), .ref (mm 8), .ref (mm 9), .int fr])), ((mm 2), .inl (cI, 80, .inl v)), ((mm 3), .inl (cI, 80, .inl w9)), ((mm 7), .inl (cI, 96, .inl ow)), ((mm 8), .inl (cI, 96, .inl li)), ((mm 9), .inl (cI, 6, .inl cr))] sz)) 0 0 (va_A [((mm 0), .inr (5, [.ref (mm 1), .ref (mm 2), .ref (mm 3), .ref (mm 4), .int kp, .ref (mm 5), .int ty, .int th, .int at0, .int fa, .ref (mm 6), .int ts, .ref (mm 7), .ref (mm 8), .ref (mm 9), .int fr])), ((mm 2), .inl (cI, 80, .inl v)), ((mm 3), .inl (cI, 80, .inl w9)), ((mm 7), .inl (cI, 96, .inl ow)), ((mm 8), .inl (cI, 96, .inl li)), ((mm 9), .inl (cI, 6, .inl cr))] sz) := by
  refine Met.ofW (cc := cX5_ifLevel) (maxL := 4) (ret := (some .int)) (by decide) rfl ?_
  intro p e s m args below meth c s₁ B hml hv
  obtain ⟨rfl, hsz, hP, hE, hD0, hpre⟩ := hv
  have hx := B.exec
  have hb := B.bytes
  have hr := B.returns
  have hts := atoms_spec (ws := wsX5_ifLevel) B.pre
  have hown : s.vm.findClass RX5 = some m.cls := findClass_of_methodNamed B.named
  have hlocks := B.notSynchronized
  have hK := hE.1
  subst hsz
  have hD := hD0.self (sz := s.heap.size)
  generalize hAe : va_A [((mm 0), .inr (5, [.ref (mm 1), .ref (mm 2), .ref (mm 3), .ref (mm 4), .int kp, .ref (mm 5), .int ty, .int th, .int at0, .int fa, .ref (mm 6), .int ts, .ref (mm 7), .ref (mm 8), .ref (mm 9), .int fr])), ((mm 2), .inl (cI, 80, .inl v)), ((mm 3), .inl (cI, 80, .inl w9)), ((mm 7), .inl (cI, 96, .inl ow)), ((mm 8), .inl (cI, 96, .inl li)), ((mm 9), .inl (cI, 6, .inl cr))] s.heap.size = A at hD hE ⊢
  have hA : ∀ q : Nat, s.heap.size ≤ q → A q := fun q h => by rw [← hAe]; exact Or.inr h
  have hS : va_S A s.heap s.heap [] := va_S.rf
  have hP : va_P (dC, dI) vwCl [((mm 0), .inr (5, [.ref (mm 1), .ref (mm 2), .ref (mm 3), .ref (mm 4), .int kp, .ref (mm 5), .int ty, .int th, .int at0, .int fa, .ref (mm 6), .int ts, .ref (mm 7), .ref (mm 8), .ref (mm 9), .int fr])), ((mm 2), .inl (cI, 80, .inl v)), ((mm 3), .inl (cI, 80, .inl w9)), ((mm 7), .inl (cI, 96, .inl ow)), ((mm 8), .inl (cI, 96, .inl li)), ((mm 9), .inl (cI, 6, .inl cr))] s.heap := hP
  have hin5 : ∀ w ∈ u_ws RX5 TX5 16, w ∈ wsX5_ifLevel := by decide +kernel
  have hl := lv_entry [.ref (mm 0), .int p0, .int p1, .int p2] (n := 4) (Nat.le_of_ble_eq_true rfl)
  rw [lg_entry_eq]
  generalize (lg_sl [.ref (mm 0), .int p0, .int p1, .int p2] ++ List.replicate (4 - (lg_sl [.ref (mm 0), .int p0, .int p1, .int p2]).length) Slot.unset).toArray = lz at hl ⊢
  have hl : lv_has lz 4 [(0, .ref (mm 0)), (1, .int p0), (2, .int p1), (3, .int p2)] := hl
  refine lv_aload_n hx hb dX5_ifLevel_0 rfl (lv_at hl 0 rfl) ?_
  refine lv_iconst (v := 0) hx hb dX5_ifLevel_1 (by decide) ?_
  refine va_put (D := (dC, dI)) (ci := 5) (v := .int 0) (ty := .int) (C := RX5) (T := TX5) (N := 16) hx hb hts hin5 tyX5 tyX5_ok nmX5 hown hK hP hD hS 0 rfl rfl 7 (by decide) (hts (.fieldLink RX5 37 "TurnDigitsModel" "thrown" "I") (by decide +kernel)) (fun _ h9 => h9) rfl (by decide +kernel) rfl rfl (Nat.le_of_ble_eq_true rfl) dX5_ifLevel_2 (fun H locs hP hD hS => ?_)
  have hP : va_P (dC, dI) vwCl [((mm 0), .inr (5, [.ref (mm 1), .ref (mm 2), .ref (mm 3), .ref (mm 4), .int kp, .ref (mm 5), .int ty, .int 0, .int at0, .int fa, .ref (mm 6), .int ts, .ref (mm 7), .ref (mm 8), .ref (mm 9), .int fr])), ((mm 2), .inl (cI, 80, .inl v)), ((mm 3), .inl (cI, 80, .inl w9)), ((mm 7), .inl (cI, 96, .inl ow)), ((mm 8), .inl (cI, 96, .inl li)), ((mm 9), .inl (cI, 6, .inl cr))] H := hP
  have hD : va_D A [((mm 0), .inr (5, [.ref (mm 1), .ref (mm 2), .ref (mm 3), .ref (mm 4), .int kp, .ref (mm 5), .int ty, .int 0, .int at0, .int fa, .ref (mm 6), .int ts, .ref (mm 7), .ref (mm 8), .ref (mm 9), .int fr])), ((mm 2), .inl (cI, 80, .inl v)), ((mm 3), .inl (cI, 80, .inl w9)), ((mm 7), .inl (cI, 96, .inl ow)), ((mm 8), .inl (cI, 96, .inl li)), ((mm 9), .inl (cI, 6, .inl cr))] := hD
  refine lv_iload_n hx hb dX5_ifLevel_5 rfl (lv_at hl 1 rfl) ?_
  have hPc := hP.sub (ws' := []) [] rfl
  refine W.callV ((va_runS (As := [.int p0]) (rest := []) ⟨hx, hb, hml, hown, hts⟩ (c_X5_isDigit l dC dI cI cS cJ tt p0) (va_cwS 1 hts gX5_ifLevel_X5_isDigit rfl rfl rfl (by decide +kernel) ⟨Nat.le_of_ble_eq_true rfl, Nat.le_of_ble_eq_true rfl⟩) ⟨xm_Rblind, fun U hU hW => ⟨rfl, by rw [hU]; exact hPc, hE.go hS (fun _ q => q.elim) hU hW, trivial⟩⟩ rfl rfl hl.1 rfl (lv_room (Nat.le_of_ble_eq_true rfl)) dX5_ifLevel_6 ⟨Nat.zero_le _, Nat.zero_le _⟩).run) ?_
  refine W.eq (g2 := F0 m 9 lz (.int (if xt_dg 6 p0 = 0 then 1 else 0) :: [])) rfl ?_
  refine lv_if_ne (tgt := 18) hx hb dX5_ifLevel_9 (by decide) (fun q9 => ?_) (fun q9 => ?_)
  · have q9b : xt_dg 6 p0 = 0 := xm_bT q9
    refine lv_iload_n hx hb dX5_ifLevel_18 rfl (lv_at hl 2 rfl) ?_
    have hPc := hP.sub (ws' := []) [] rfl
    refine W.callV ((va_runS (As := [.int p1]) (rest := []) ⟨hx, hb, hml, hown, hts⟩ (c_X5_isLevel l dC dI cI cS cJ tt p1) (va_cwS 1 hts gX5_ifLevel_X5_isLevel rfl rfl rfl (by decide +kernel) ⟨Nat.le_of_ble_eq_true rfl, Nat.le_of_ble_eq_true rfl⟩) ⟨xm_Rblind, fun U hU hW => ⟨rfl, by rw [hU]; exact hPc, hE.go hS (fun _ q => q.elim) hU hW, trivial⟩⟩ rfl rfl hl.1 rfl (lv_room (Nat.le_of_ble_eq_true rfl)) dX5_ifLevel_19 ⟨Nat.zero_le _, Nat.zero_le _⟩).run) ?_
    refine W.eq (g2 := F0 m 22 lz (.int (if xt_rg p1 0 15 = 0 then 1 else 0) :: [])) rfl ?_
    refine lv_if_eq (tgt := 44) hx hb dX5_ifLevel_22 (by decide) (fun q22 => ?_) (fun q22 => ?_)
    · have q22b : ¬ xt_rg p1 0 15 = 0 := xm_bF q22
      refine lv_aload_n hx hb dX5_ifLevel_44 rfl (lv_at hl 0 rfl) ?_
      refine lv_iconst (v := 2) hx hb dX5_ifLevel_45 (by decide) ?_
      have hPc := hP.sub (ws' := [((mm 0), .inr (5, [.ref (mm 1), .ref (mm 2), .ref (mm 3), .ref (mm 4), .int kp, .ref (mm 5), .int ty, .int 0, .int at0, .int fa, .ref (mm 6), .int ts, .ref (mm 7), .ref (mm 8), .ref (mm 9), .int fr]))]) [0] rfl
      have hDc := hD.sub (ws' := [((mm 0), .inr (5, [.ref (mm 1), .ref (mm 2), .ref (mm 3), .ref (mm 4), .int kp, .ref (mm 5), .int ty, .int 0, .int at0, .int fa, .ref (mm 6), .int ts, .ref (mm 7), .ref (mm 8), .ref (mm 9), .int fr]))]) [0] (by decide) rfl
      have hFc := va_free (wc := [((mm 0), .inr (5, [.ref (mm 1), .ref (mm 2), .ref (mm 3), .ref (mm 4), .int kp, .ref (mm 5), .int ty, .int 0, .int at0, .int fa, .ref (mm 6), .int ts, .ref (mm 7), .ref (mm 8), .ref (mm 9), .int fr]))]) hD hS hA [0] rfl
      refine va_calli (va_runV (As := [.int 2]) (rest := []) ⟨hx, hb, hml, hown, hts⟩ (c_X5_fails l dC dI cI cS cJ tt H.size mm kp ty 0 at0 fa ts fr 2) (cwV 1 hts gX5_ifLevel_X5_fails rfl rfl rfl (by decide +kernel) ⟨Nat.le_of_ble_eq_true rfl, Nat.le_of_ble_eq_true rfl⟩) ⟨xm_Mblind, va_recv hK hPc (ci := 5) (q0 := 0) rfl rfl, fun U hU hW => ⟨rfl, by rw [hU], by rw [hU]; exact hPc, hE.go hS hFc hU hW, hDc.weaken (fun _ _ _ _ => trivial), trivial⟩⟩ rfl rfl hl.1 rfl (lv_room (Nat.le_of_ble_eq_true rfl)) dX5_ifLevel_46 ⟨Nat.zero_le _, Nat.zero_le _⟩) hS (fun q _ h => hFc q h) hFc (fun r u t H1 locs ht hvm hw hB hz1 hk1 hS => ?_)
      obtain ⟨u_1, rfl⟩ : ∃ z, z = u := ⟨_, rfl⟩
      obtain ⟨hP1, hD1⟩ := hB
      rw [ht] at hP1
      obtain ⟨hw_2, hw_3⟩ := hw
      have hw_2 : r = 0 := hw_2
      subst hw_2
      have hw_3 : u_1 = 2 := hw_3
      subst hw_3
      obtain ⟨hP, hD⟩ := va_join (wr := [((mm 2), .inl (cI, 80, .inl v)), ((mm 3), .inl (cI, 80, .inl w9)), ((mm 7), .inl (cI, 96, .inl ow)), ((mm 8), .inl (cI, 96, .inl li)), ((mm 9), .inl (cI, 6, .inl cr))]) (w1 := [((mm 0), .inr (5, [.ref (mm 1), .ref (mm 2), .ref (mm 3), .ref (mm 4), .int kp, .ref (mm 5), .int ty, .int 2, .int at0, .int fa, .ref (mm 6), .int ts, .ref (mm 7), .ref (mm 8), .ref (mm 9), .int fr]))]) hP hD [0] [1, 2, 3, 4, 5] rfl rfl (by decide) (by decide) hk1 hFc hP1 hD1
      generalize H1 = H at hP hS ⊢
      have hP : va_P (dC, dI) vwCl [((mm 2), .inl (cI, 80, .inl v)), ((mm 3), .inl (cI, 80, .inl w9)), ((mm 7), .inl (cI, 96, .inl ow)), ((mm 8), .inl (cI, 96, .inl li)), ((mm 9), .inl (cI, 6, .inl cr)), ((mm 0), .inr (5, [.ref (mm 1), .ref (mm 2), .ref (mm 3), .ref (mm 4), .int kp, .ref (mm 5), .int ty, .int 2, .int at0, .int fa, .ref (mm 6), .int ts, .ref (mm 7), .ref (mm 8), .ref (mm 9), .int fr]))] H := hP
      have hD : va_D A [((mm 2), .inl (cI, 80, .inl v)), ((mm 3), .inl (cI, 80, .inl w9)), ((mm 7), .inl (cI, 96, .inl ow)), ((mm 8), .inl (cI, 96, .inl li)), ((mm 9), .inl (cI, 6, .inl cr)), ((mm 0), .inr (5, [.ref (mm 1), .ref (mm 2), .ref (mm 3), .ref (mm 4), .int kp, .ref (mm 5), .int ty, .int 2, .int at0, .int fa, .ref (mm 6), .int ts, .ref (mm 7), .ref (mm 8), .ref (mm 9), .int fr]))] := hD
      have hc9 : xc_if p0 p1 p2 = 2 := by simp only [xc_if, if_pos q9b, if_neg q22b]
      have hn9 : ¬ xc_if p0 p1 p2 = 0 := by rw [hc9]; decide
      have hP9 := hP.sub (ws' := [((mm 0), .inr (5, [.ref (mm 1), .ref (mm 2), .ref (mm 3), .ref (mm 4), .int kp, .ref (mm 5), .int ty, .int 2, .int at0, .int fa, .ref (mm 6), .int ts, .ref (mm 7), .ref (mm 8), .ref (mm 9), .int fr])), ((mm 2), .inl (cI, 80, .inl v)), ((mm 3), .inl (cI, 80, .inl w9)), ((mm 7), .inl (cI, 96, .inl ow)), ((mm 8), .inl (cI, 96, .inl li)), ((mm 9), .inl (cI, 6, .inl cr))]) [5, 0, 1, 2, 3, 4] rfl
      have hD9 := hD.sub (ws' := [((mm 0), .inr (5, [.ref (mm 1), .ref (mm 2), .ref (mm 3), .ref (mm 4), .int kp, .ref (mm 5), .int ty, .int 2, .int at0, .int fa, .ref (mm 6), .int ts, .ref (mm 7), .ref (mm 8), .ref (mm 9), .int fr])), ((mm 2), .inl (cI, 80, .inl v)), ((mm 3), .inl (cI, 80, .inl w9)), ((mm 7), .inl (cI, 96, .inl ow)), ((mm 8), .inl (cI, 96, .inl li)), ((mm 9), .inl (cI, 6, .inl cr))]) [5, 0, 1, 2, 3, 4] (by decide) rfl
      exact W.iret (v := 0) hx hb hr (fun t ht hW => ⟨⟨0, (2, fr, w9, ow, li, cr), rfl, ⟨(if_neg hn9).symm, (hc9.symm)⟩, by rw [ht]; exact hP9, hD9⟩, hS.F ht⟩) hS.2.2 dX5_ifLevel_49
    · have q22b : xt_rg p1 0 15 = 0 := xm_bT q22
      refine lv_iload_n hx hb dX5_ifLevel_25 rfl (lv_at hl 3 rfl) ?_
      refine lv_iconst (v := 0) hx hb dX5_ifLevel_26 (by decide) ?_
      refine lv_iconst (v := 2) hx hb dX5_ifLevel_27 (by decide) ?_
      have hPc := hP.sub (ws' := []) [] rfl
      refine W.callV ((va_runS (As := [.int p2, .int 0, .int 2]) (rest := []) ⟨hx, hb, hml, hown, hts⟩ (c_X5_in l dC dI cI cS cJ tt p2 0 2) (va_cwS 3 hts gX5_ifLevel_X5_in rfl rfl rfl (by decide +kernel) ⟨Nat.le_of_ble_eq_true rfl, Nat.le_of_ble_eq_true rfl⟩) ⟨xm_Rblind, fun U hU hW => ⟨rfl, by rw [hU]; exact hPc, hE.go hS (fun _ q => q.elim) hU hW, trivial⟩⟩ rfl rfl hl.1 rfl (lv_room (Nat.le_of_ble_eq_true rfl)) dX5_ifLevel_28 ⟨Nat.zero_le _, Nat.zero_le _⟩).run) ?_
      refine W.eq (g2 := F0 m 31 lz (.int (if xt_rg p2 0 2 = 0 then 1 else 0) :: [])) rfl ?_
      refine lv_if_eq (tgt := 44) hx hb dX5_ifLevel_31 (by decide) (fun q31 => ?_) (fun q31 => ?_)
      · have q31b : ¬ xt_rg p2 0 2 = 0 := xm_bF q31
        refine lv_aload_n hx hb dX5_ifLevel_44 rfl (lv_at hl 0 rfl) ?_
        refine lv_iconst (v := 2) hx hb dX5_ifLevel_45 (by decide) ?_
        have hPc := hP.sub (ws' := [((mm 0), .inr (5, [.ref (mm 1), .ref (mm 2), .ref (mm 3), .ref (mm 4), .int kp, .ref (mm 5), .int ty, .int 0, .int at0, .int fa, .ref (mm 6), .int ts, .ref (mm 7), .ref (mm 8), .ref (mm 9), .int fr]))]) [0] rfl
        have hDc := hD.sub (ws' := [((mm 0), .inr (5, [.ref (mm 1), .ref (mm 2), .ref (mm 3), .ref (mm 4), .int kp, .ref (mm 5), .int ty, .int 0, .int at0, .int fa, .ref (mm 6), .int ts, .ref (mm 7), .ref (mm 8), .ref (mm 9), .int fr]))]) [0] (by decide) rfl
        have hFc := va_free (wc := [((mm 0), .inr (5, [.ref (mm 1), .ref (mm 2), .ref (mm 3), .ref (mm 4), .int kp, .ref (mm 5), .int ty, .int 0, .int at0, .int fa, .ref (mm 6), .int ts, .ref (mm 7), .ref (mm 8), .ref (mm 9), .int fr]))]) hD hS hA [0] rfl
        refine va_calli (va_runV (As := [.int 2]) (rest := []) ⟨hx, hb, hml, hown, hts⟩ (c_X5_fails l dC dI cI cS cJ tt H.size mm kp ty 0 at0 fa ts fr 2) (cwV 1 hts gX5_ifLevel_X5_fails rfl rfl rfl (by decide +kernel) ⟨Nat.le_of_ble_eq_true rfl, Nat.le_of_ble_eq_true rfl⟩) ⟨xm_Mblind, va_recv hK hPc (ci := 5) (q0 := 0) rfl rfl, fun U hU hW => ⟨rfl, by rw [hU], by rw [hU]; exact hPc, hE.go hS hFc hU hW, hDc.weaken (fun _ _ _ _ => trivial), trivial⟩⟩ rfl rfl hl.1 rfl (lv_room (Nat.le_of_ble_eq_true rfl)) dX5_ifLevel_46 ⟨Nat.zero_le _, Nat.zero_le _⟩) hS (fun q _ h => hFc q h) hFc (fun r u t H1 locs ht hvm hw hB hz1 hk1 hS => ?_)
        obtain ⟨u_4, rfl⟩ : ∃ z, z = u := ⟨_, rfl⟩
        obtain ⟨hP1, hD1⟩ := hB
        rw [ht] at hP1
        obtain ⟨hw_5, hw_6⟩ := hw
        have hw_5 : r = 0 := hw_5
        subst hw_5
        have hw_6 : u_4 = 2 := hw_6
        subst hw_6
        obtain ⟨hP, hD⟩ := va_join (wr := [((mm 2), .inl (cI, 80, .inl v)), ((mm 3), .inl (cI, 80, .inl w9)), ((mm 7), .inl (cI, 96, .inl ow)), ((mm 8), .inl (cI, 96, .inl li)), ((mm 9), .inl (cI, 6, .inl cr))]) (w1 := [((mm 0), .inr (5, [.ref (mm 1), .ref (mm 2), .ref (mm 3), .ref (mm 4), .int kp, .ref (mm 5), .int ty, .int 2, .int at0, .int fa, .ref (mm 6), .int ts, .ref (mm 7), .ref (mm 8), .ref (mm 9), .int fr]))]) hP hD [0] [1, 2, 3, 4, 5] rfl rfl (by decide) (by decide) hk1 hFc hP1 hD1
        generalize H1 = H at hP hS ⊢
        have hP : va_P (dC, dI) vwCl [((mm 2), .inl (cI, 80, .inl v)), ((mm 3), .inl (cI, 80, .inl w9)), ((mm 7), .inl (cI, 96, .inl ow)), ((mm 8), .inl (cI, 96, .inl li)), ((mm 9), .inl (cI, 6, .inl cr)), ((mm 0), .inr (5, [.ref (mm 1), .ref (mm 2), .ref (mm 3), .ref (mm 4), .int kp, .ref (mm 5), .int ty, .int 2, .int at0, .int fa, .ref (mm 6), .int ts, .ref (mm 7), .ref (mm 8), .ref (mm 9), .int fr]))] H := hP
        have hD : va_D A [((mm 2), .inl (cI, 80, .inl v)), ((mm 3), .inl (cI, 80, .inl w9)), ((mm 7), .inl (cI, 96, .inl ow)), ((mm 8), .inl (cI, 96, .inl li)), ((mm 9), .inl (cI, 6, .inl cr)), ((mm 0), .inr (5, [.ref (mm 1), .ref (mm 2), .ref (mm 3), .ref (mm 4), .int kp, .ref (mm 5), .int ty, .int 2, .int at0, .int fa, .ref (mm 6), .int ts, .ref (mm 7), .ref (mm 8), .ref (mm 9), .int fr]))] := hD
        have hc9 : xc_if p0 p1 p2 = 2 := by simp only [xc_if, if_pos q9b, if_pos q22b, if_neg q31b]
        have hn9 : ¬ xc_if p0 p1 p2 = 0 := by rw [hc9]; decide
        have hP9 := hP.sub (ws' := [((mm 0), .inr (5, [.ref (mm 1), .ref (mm 2), .ref (mm 3), .ref (mm 4), .int kp, .ref (mm 5), .int ty, .int 2, .int at0, .int fa, .ref (mm 6), .int ts, .ref (mm 7), .ref (mm 8), .ref (mm 9), .int fr])), ((mm 2), .inl (cI, 80, .inl v)), ((mm 3), .inl (cI, 80, .inl w9)), ((mm 7), .inl (cI, 96, .inl ow)), ((mm 8), .inl (cI, 96, .inl li)), ((mm 9), .inl (cI, 6, .inl cr))]) [5, 0, 1, 2, 3, 4] rfl
        have hD9 := hD.sub (ws' := [((mm 0), .inr (5, [.ref (mm 1), .ref (mm 2), .ref (mm 3), .ref (mm 4), .int kp, .ref (mm 5), .int ty, .int 2, .int at0, .int fa, .ref (mm 6), .int ts, .ref (mm 7), .ref (mm 8), .ref (mm 9), .int fr])), ((mm 2), .inl (cI, 80, .inl v)), ((mm 3), .inl (cI, 80, .inl w9)), ((mm 7), .inl (cI, 96, .inl ow)), ((mm 8), .inl (cI, 96, .inl li)), ((mm 9), .inl (cI, 6, .inl cr))]) [5, 0, 1, 2, 3, 4] (by decide) rfl
        exact W.iret (v := 0) hx hb hr (fun t ht hW => ⟨⟨0, (2, fr, w9, ow, li, cr), rfl, ⟨(if_neg hn9).symm, (hc9.symm)⟩, by rw [ht]; exact hP9, hD9⟩, hS.F ht⟩) hS.2.2 dX5_ifLevel_49
      · have q31b : xt_rg p2 0 2 = 0 := xm_bT q31
        refine lv_aload_n hx hb dX5_ifLevel_34 rfl (lv_at hl 0 rfl) ?_
        refine lv_iload_n hx hb dX5_ifLevel_35 rfl (lv_at hl 1 rfl) ?_
        refine xm_topi (y := (nI p0.toNatClampNeg)) (xt_dg_ok (n := 6) (by decide) q9b).1 ?_
        refine lv_iload_n hx hb dX5_ifLevel_36 rfl (lv_at hl 2 rfl) ?_
        refine lv_iload_n hx hb dX5_ifLevel_37 rfl (lv_at hl 3 rfl) ?_
        refine xm_topi (y := (nI p2.toNatClampNeg)) (xc_n (a := 0) (b := 2) q31b rfl rfl (by decide) (by decide)).1 ?_
        have hPc := hP.sub (ws' := [((mm 0), .inr (5, [.ref (mm 1), .ref (mm 2), .ref (mm 3), .ref (mm 4), .int kp, .ref (mm 5), .int ty, .int 0, .int at0, .int fa, .ref (mm 6), .int ts, .ref (mm 7), .ref (mm 8), .ref (mm 9), .int fr])), ((mm 2), .inl (cI, 80, .inl v)), ((mm 3), .inl (cI, 80, .inl w9)), ((mm 7), .inl (cI, 96, .inl ow)), ((mm 8), .inl (cI, 96, .inl li)), ((mm 9), .inl (cI, 6, .inl cr))]) [0, 1, 2, 3, 4, 5] rfl
        have hDc := hD.sub (ws' := [((mm 0), .inr (5, [.ref (mm 1), .ref (mm 2), .ref (mm 3), .ref (mm 4), .int kp, .ref (mm 5), .int ty, .int 0, .int at0, .int fa, .ref (mm 6), .int ts, .ref (mm 7), .ref (mm 8), .ref (mm 9), .int fr])), ((mm 2), .inl (cI, 80, .inl v)), ((mm 3), .inl (cI, 80, .inl w9)), ((mm 7), .inl (cI, 96, .inl ow)), ((mm 8), .inl (cI, 96, .inl li)), ((mm 9), .inl (cI, 6, .inl cr))]) [0, 1, 2, 3, 4, 5] (by decide) rfl
        have hFc := va_free (wc := [((mm 0), .inr (5, [.ref (mm 1), .ref (mm 2), .ref (mm 3), .ref (mm 4), .int kp, .ref (mm 5), .int ty, .int 0, .int at0, .int fa, .ref (mm 6), .int ts, .ref (mm 7), .ref (mm 8), .ref (mm 9), .int fr])), ((mm 2), .inl (cI, 80, .inl v)), ((mm 3), .inl (cI, 80, .inl w9)), ((mm 7), .inl (cI, 96, .inl ow)), ((mm 8), .inl (cI, 96, .inl li)), ((mm 9), .inl (cI, 6, .inl cr))]) hD hS hA [0, 1, 2, 3, 4, 5] rfl
        refine va_calli (va_runV (As := [.int (nI p0.toNatClampNeg), .int p1, .int (nI p2.toNatClampNeg)]) (rest := []) ⟨hx, hb, hml, hown, hts⟩ (c_X5_byLevel l dC dI cI cS cJ tt H.size mm kp ty 0 at0 fa ts fr v w9 ow li cr n p0.toNatClampNeg p1 p2.toNatClampNeg) (cwV 3 hts gX5_ifLevel_X5_byLevel rfl rfl rfl (by decide +kernel) ⟨Nat.le_of_ble_eq_true rfl, Nat.le_of_ble_eq_true rfl⟩) ⟨xm_Mblind, va_recv hK hPc (ci := 5) (q0 := 0) rfl rfl, fun U hU hW => ⟨rfl, by rw [hU], by rw [hU]; exact hPc, hE.go hS hFc hU hW, hDc.weaken (fun _ _ _ _ => trivial), ⟨⟨hpre, (xt_dg_ok (n := 6) (by decide) q9b).2⟩, (xc_n (a := 0) (b := 2) q31b rfl rfl (by decide) (by decide)).2.2⟩⟩⟩ rfl rfl hl.1 rfl (lv_room (Nat.le_of_ble_eq_true rfl)) dX5_ifLevel_38 ⟨Nat.zero_le _, Nat.zero_le _⟩) hS (fun q _ h => hFc q h) hFc (fun r u t H1 locs ht hvm hw hB hz1 hk1 hS => ?_)
        obtain ⟨u_7, u_8, u_9, u_10, u_11⟩ := u
        obtain ⟨hP1, hD1⟩ := hB
        rw [ht] at hP1
        have hw_12 := hw
        have hw_12 : r = if_tr v n p0.toNatClampNeg p1 p2.toNatClampNeg := hw_12
        subst hw_12
        obtain ⟨hP, hD⟩ := va_join (wr := []) (w1 := [((mm 0), .inr (5, [.ref (mm 1), .ref (mm 2), .ref (mm 3), .ref (mm 4), .int kp, .ref (mm 5), .int ty, .int 0, .int at0, .int fa, .ref (mm 6), .int ts, .ref (mm 7), .ref (mm 8), .ref (mm 9), .int u_7])), ((mm 2), .inl (cI, 80, .inl v)), ((mm 3), .inl (cI, 80, .inl u_8)), ((mm 7), .inl (cI, 96, .inl u_9)), ((mm 8), .inl (cI, 96, .inl u_10)), ((mm 9), .inl (cI, 6, .inl u_11))]) hP hD [0, 1, 2, 3, 4, 5] [] rfl rfl (by decide) (by decide) hk1 hFc hP1 hD1
        generalize H1 = H at hP hS ⊢
        have hP : va_P (dC, dI) vwCl [((mm 0), .inr (5, [.ref (mm 1), .ref (mm 2), .ref (mm 3), .ref (mm 4), .int kp, .ref (mm 5), .int ty, .int 0, .int at0, .int fa, .ref (mm 6), .int ts, .ref (mm 7), .ref (mm 8), .ref (mm 9), .int u_7])), ((mm 2), .inl (cI, 80, .inl v)), ((mm 3), .inl (cI, 80, .inl u_8)), ((mm 7), .inl (cI, 96, .inl u_9)), ((mm 8), .inl (cI, 96, .inl u_10)), ((mm 9), .inl (cI, 6, .inl u_11))] H := hP
        have hD : va_D A [((mm 0), .inr (5, [.ref (mm 1), .ref (mm 2), .ref (mm 3), .ref (mm 4), .int kp, .ref (mm 5), .int ty, .int 0, .int at0, .int fa, .ref (mm 6), .int ts, .ref (mm 7), .ref (mm 8), .ref (mm 9), .int u_7])), ((mm 2), .inl (cI, 80, .inl v)), ((mm 3), .inl (cI, 80, .inl u_8)), ((mm 7), .inl (cI, 96, .inl u_9)), ((mm 8), .inl (cI, 96, .inl u_10)), ((mm 9), .inl (cI, 6, .inl u_11))] := hD
        refine lv_goto (tgt := 49) hx hb dX5_ifLevel_41 (by decide) ?_
        have hc9 : xc_if p0 p1 p2 = 0 := by simp only [xc_if, if_pos q9b, if_pos q22b, if_pos q31b]
        have hP9 : va_P (dC, dI) vwCl [((mm 0), .inr (5, [.ref (mm 1), .ref (mm 2), .ref (mm 3), .ref (mm 4), .int kp, .ref (mm 5), .int ty, .int 0, .int at0, .int fa, .ref (mm 6), .int ts, .ref (mm 7), .ref (mm 8), .ref (mm 9), .int u_7])), ((mm 2), .inl (cI, 80, .inl v)), ((mm 3), .inl (cI, 80, .inl u_8)), ((mm 7), .inl (cI, 96, .inl u_9)), ((mm 8), .inl (cI, 96, .inl u_10)), ((mm 9), .inl (cI, 6, .inl u_11))] H := hP
        have hD9 : va_D A [((mm 0), .inr (5, [.ref (mm 1), .ref (mm 2), .ref (mm 3), .ref (mm 4), .int kp, .ref (mm 5), .int ty, .int 0, .int at0, .int fa, .ref (mm 6), .int ts, .ref (mm 7), .ref (mm 8), .ref (mm 9), .int u_7])), ((mm 2), .inl (cI, 80, .inl v)), ((mm 3), .inl (cI, 80, .inl u_8)), ((mm 7), .inl (cI, 96, .inl u_9)), ((mm 8), .inl (cI, 96, .inl u_10)), ((mm 9), .inl (cI, 6, .inl u_11))] := hD
        exact W.iret (v := if_tr v n p0.toNatClampNeg p1 p2.toNatClampNeg) hx hb hr (fun t ht hW => ⟨⟨if_tr v n p0.toNatClampNeg p1 p2.toNatClampNeg, (0, u_7, u_8, u_9, u_10, u_11), rfl, ⟨(if_pos hc9).symm, (hc9.symm)⟩, by rw [ht]; exact hP9, hD9⟩, hS.F ht⟩) hS.2.2 dX5_ifLevel_49
  · have q9b : ¬ xt_dg 6 p0 = 0 := xm_bF q9
    refine lv_aload_n hx hb dX5_ifLevel_12 rfl (lv_at hl 0 rfl) ?_
    refine lv_iconst (v := 1) hx hb dX5_ifLevel_13 (by decide) ?_
    have hPc := hP.sub (ws' := [((mm 0), .inr (5, [.ref (mm 1), .ref (mm 2), .ref (mm 3), .ref (mm 4), .int kp, .ref (mm 5), .int ty, .int 0, .int at0, .int fa, .ref (mm 6), .int ts, .ref (mm 7), .ref (mm 8), .ref (mm 9), .int fr]))]) [0] rfl
    have hDc := hD.sub (ws' := [((mm 0), .inr (5, [.ref (mm 1), .ref (mm 2), .ref (mm 3), .ref (mm 4), .int kp, .ref (mm 5), .int ty, .int 0, .int at0, .int fa, .ref (mm 6), .int ts, .ref (mm 7), .ref (mm 8), .ref (mm 9), .int fr]))]) [0] (by decide) rfl
    have hFc := va_free (wc := [((mm 0), .inr (5, [.ref (mm 1), .ref (mm 2), .ref (mm 3), .ref (mm 4), .int kp, .ref (mm 5), .int ty, .int 0, .int at0, .int fa, .ref (mm 6), .int ts, .ref (mm 7), .ref (mm 8), .ref (mm 9), .int fr]))]) hD hS hA [0] rfl
    refine va_calli (va_runV (As := [.int 1]) (rest := []) ⟨hx, hb, hml, hown, hts⟩ (c_X5_fails l dC dI cI cS cJ tt H.size mm kp ty 0 at0 fa ts fr 1) (cwV 1 hts gX5_ifLevel_X5_fails rfl rfl rfl (by decide +kernel) ⟨Nat.le_of_ble_eq_true rfl, Nat.le_of_ble_eq_true rfl⟩) ⟨xm_Mblind, va_recv hK hPc (ci := 5) (q0 := 0) rfl rfl, fun U hU hW => ⟨rfl, by rw [hU], by rw [hU]; exact hPc, hE.go hS hFc hU hW, hDc.weaken (fun _ _ _ _ => trivial), trivial⟩⟩ rfl rfl hl.1 rfl (lv_room (Nat.le_of_ble_eq_true rfl)) dX5_ifLevel_14 ⟨Nat.zero_le _, Nat.zero_le _⟩) hS (fun q _ h => hFc q h) hFc (fun r u t H1 locs ht hvm hw hB hz1 hk1 hS => ?_)
    obtain ⟨u_13, rfl⟩ : ∃ z, z = u := ⟨_, rfl⟩
    obtain ⟨hP1, hD1⟩ := hB
    rw [ht] at hP1
    obtain ⟨hw_14, hw_15⟩ := hw
    have hw_14 : r = 0 := hw_14
    subst hw_14
    have hw_15 : u_13 = 1 := hw_15
    subst hw_15
    obtain ⟨hP, hD⟩ := va_join (wr := [((mm 2), .inl (cI, 80, .inl v)), ((mm 3), .inl (cI, 80, .inl w9)), ((mm 7), .inl (cI, 96, .inl ow)), ((mm 8), .inl (cI, 96, .inl li)), ((mm 9), .inl (cI, 6, .inl cr))]) (w1 := [((mm 0), .inr (5, [.ref (mm 1), .ref (mm 2), .ref (mm 3), .ref (mm 4), .int kp, .ref (mm 5), .int ty, .int 1, .int at0, .int fa, .ref (mm 6), .int ts, .ref (mm 7), .ref (mm 8), .ref (mm 9), .int fr]))]) hP hD [0] [1, 2, 3, 4, 5] rfl rfl (by decide) (by decide) hk1 hFc hP1 hD1
    generalize H1 = H at hP hS ⊢
    have hP : va_P (dC, dI) vwCl [((mm 2), .inl (cI, 80, .inl v)), ((mm 3), .inl (cI, 80, .inl w9)), ((mm 7), .inl (cI, 96, .inl ow)), ((mm 8), .inl (cI, 96, .inl li)), ((mm 9), .inl (cI, 6, .inl cr)), ((mm 0), .inr (5, [.ref (mm 1), .ref (mm 2), .ref (mm 3), .ref (mm 4), .int kp, .ref (mm 5), .int ty, .int 1, .int at0, .int fa, .ref (mm 6), .int ts, .ref (mm 7), .ref (mm 8), .ref (mm 9), .int fr]))] H := hP
    have hD : va_D A [((mm 2), .inl (cI, 80, .inl v)), ((mm 3), .inl (cI, 80, .inl w9)), ((mm 7), .inl (cI, 96, .inl ow)), ((mm 8), .inl (cI, 96, .inl li)), ((mm 9), .inl (cI, 6, .inl cr)), ((mm 0), .inr (5, [.ref (mm 1), .ref (mm 2), .ref (mm 3), .ref (mm 4), .int kp, .ref (mm 5), .int ty, .int 1, .int at0, .int fa, .ref (mm 6), .int ts, .ref (mm 7), .ref (mm 8), .ref (mm 9), .int fr]))] := hD
    have hc9 : xc_if p0 p1 p2 = 1 := by simp only [xc_if, if_neg q9b]
    have hn9 : ¬ xc_if p0 p1 p2 = 0 := by rw [hc9]; decide
    have hP9 := hP.sub (ws' := [((mm 0), .inr (5, [.ref (mm 1), .ref (mm 2), .ref (mm 3), .ref (mm 4), .int kp, .ref (mm 5), .int ty, .int 1, .int at0, .int fa, .ref (mm 6), .int ts, .ref (mm 7), .ref (mm 8), .ref (mm 9), .int fr])), ((mm 2), .inl (cI, 80, .inl v)), ((mm 3), .inl (cI, 80, .inl w9)), ((mm 7), .inl (cI, 96, .inl ow)), ((mm 8), .inl (cI, 96, .inl li)), ((mm 9), .inl (cI, 6, .inl cr))]) [5, 0, 1, 2, 3, 4] rfl
    have hD9 := hD.sub (ws' := [((mm 0), .inr (5, [.ref (mm 1), .ref (mm 2), .ref (mm 3), .ref (mm 4), .int kp, .ref (mm 5), .int ty, .int 1, .int at0, .int fa, .ref (mm 6), .int ts, .ref (mm 7), .ref (mm 8), .ref (mm 9), .int fr])), ((mm 2), .inl (cI, 80, .inl v)), ((mm 3), .inl (cI, 80, .inl w9)), ((mm 7), .inl (cI, 96, .inl ow)), ((mm 8), .inl (cI, 96, .inl li)), ((mm 9), .inl (cI, 6, .inl cr))]) [5, 0, 1, 2, 3, 4] (by decide) rfl
    exact W.iret (v := 0) hx hb hr (fun t ht hW => ⟨⟨0, (1, fr, w9, ow, li, cr), rfl, ⟨(if_neg hn9).symm, (hc9.symm)⟩, by rw [ht]; exact hP9, hD9⟩, hS.F ht⟩) hS.2.2 dX5_ifLevel_17

set_option maxHeartbeats 4000000 in
set_option maxRecDepth 100000 in
theorem c_X5_leastLevel (l : Launch) (dC : Nat → ClassId) (dI : Nat → Nat → Nat) (cI cS cJ : ClassId) (tt : Nat → Nat) (sz : Nat) (mm : Nat → Nat) (kp : Int32) (ty : Int32) (th : Int32) (at0 : Int32) (fa : Int32) (ts : Int32) (fr : Int32) (p0 : Int32) (v : Nat → Int32) (w9 : Nat → Int32) (ow : Nat → Int32) (li : Nat → Int32) (cr : Nat → Int32) (n : Nat) : Met l yX5_leastLevel wsX5_leastLevel ({ frames := 5, cells := 0, slots := 0, locals := 113 } : Room) (va_Pc [.ref (mm 0), .int p0] (xm_M (dC, dI) cI cS cJ tt [((mm 0), .inr (5, [.ref (mm 1), .ref (mm 2), .ref (mm 3), .ref (mm 4), .int kp, .ref (mm 5), .int ty, .int th, .int at0, .int fa, .ref (mm 6), .int ts, .ref (mm 7), .ref (mm 8), .ref (mm 9), .int fr])), ((mm 2), .inl (cI, 80, .inl v)), ((mm 3), .inl (cI, 80, .inl w9)), ((mm 7), .inl (cI, 96, .inl ow)), ((mm 8), .inl (cI, 96, .inl li)), ((mm 9), .inl (cI, 6, .inl cr))] sz (vo_f v n))) (va_Qi (fun (r : Int32) (u : Int32 × Int32 × (Nat → Int32) × (Nat → Int32) × (Nat → Int32) × (Nat → Int32)) => r = (if xc_d1 p0 = 0 then ls_to v n p0.toNatClampNeg 16 0 else 0) ∧ u.1 = xc_d1 p0) (xm_B (dC, dI) (fun (u : Int32 × Int32 × (Nat → Int32) × (Nat → Int32) × (Nat → Int32) × (Nat → Int32)) => [((mm 0), .inr (5, [.ref (mm 1), .ref (mm 2), .ref (mm 3), .ref (mm 4), .int kp, .ref (mm 5), .int ty, .int u.1, .int at0, .int fa, .ref (mm 6), .int ts, .ref (mm 7), .ref (mm 8), .ref (mm 9), .int u.2.1])), ((mm 2), .inl (cI, 80, .inl v)), ((mm 3), .inl (cI, 80, .inl u.2.2.1)), ((mm 7), .inl (cI, 96, .inl u.2.2.2.1)), ((mm 8), .inl (cI, 96, .inl u.2.2.2.2.1)), ((mm 9), .inl (cI, 6, .inl u.2.2.2.2.2))]) (va_A [((mm 0), .inr (5, [.ref (mm 1), .ref (mm 2), .ref (mm 3), .ref (mm 4), .int kp, .ref (mm 5), .int ty, .int th, .int at0, .int fa, .ref (mm 6), .int ts, .ref (mm 7), .ref (mm 8), .ref (mm 9), .int fr])), ((mm 2), .inl (cI, 80, .inl v)), ((mm 3), .inl (cI, 80, .inl w9)), ((mm 7), .inl (cI, 96, .inl ow)), ((mm 8), .inl (cI, 96, .inl li)), ((mm 9), .inl (cI, 6, .inl cr))] sz)) (va_A [((mm 0), .inr (5, [.ref (mm 1), .ref (mm 2), .ref (mm 3), .ref (mm 4), .int kp, .ref (mm 5), .int ty, .int th, .int at0, .int fa, .ref (mm 6), .int ts, .ref (mm 7), .ref (mm 8), .ref (mm 9), .int fr])), ((mm 2), .inl (cI, 80, .inl v)), ((mm 3), .inl (cI, 80, .inl w9)), ((mm 7), .inl (cI, 96, .inl ow)), ((mm 8), .inl (cI, 96, .inl li)), ((mm 9), .inl (cI, 6, .inl cr))] sz)) 0 0 (va_A [((mm 0), .inr (5, [.ref (mm 1), .ref (mm 2), .ref (mm 3), .ref (mm 4), .int kp, .ref (mm 5), .int ty, .int th, .int at0, .int fa, .ref (mm 6), .int ts, .ref (mm 7), .ref (mm 8), .ref (mm 9), .int fr])), ((mm 2), .inl (cI, 80, .inl v)), ((mm 3), .inl (cI, 80, .inl w9)), ((mm 7), .inl (cI, 96, .inl ow)), ((mm 8), .inl (cI, 96, .inl li)), ((mm 9), .inl (cI, 6, .inl cr))] sz) := by
  refine Met.ofW (cc := cX5_leastLevel) (maxL := 2) (ret := (some .int)) (by decide) rfl ?_
  intro p e s m args below meth c s₁ B hml hv
  obtain ⟨rfl, hsz, hP, hE, hD0, hpre⟩ := hv
  have hx := B.exec
  have hb := B.bytes
  have hr := B.returns
  have hts := atoms_spec (ws := wsX5_leastLevel) B.pre
  have hown : s.vm.findClass RX5 = some m.cls := findClass_of_methodNamed B.named
  have hlocks := B.notSynchronized
  have hK := hE.1
  subst hsz
  have hD := hD0.self (sz := s.heap.size)
  generalize hAe : va_A [((mm 0), .inr (5, [.ref (mm 1), .ref (mm 2), .ref (mm 3), .ref (mm 4), .int kp, .ref (mm 5), .int ty, .int th, .int at0, .int fa, .ref (mm 6), .int ts, .ref (mm 7), .ref (mm 8), .ref (mm 9), .int fr])), ((mm 2), .inl (cI, 80, .inl v)), ((mm 3), .inl (cI, 80, .inl w9)), ((mm 7), .inl (cI, 96, .inl ow)), ((mm 8), .inl (cI, 96, .inl li)), ((mm 9), .inl (cI, 6, .inl cr))] s.heap.size = A at hD hE ⊢
  have hA : ∀ q : Nat, s.heap.size ≤ q → A q := fun q h => by rw [← hAe]; exact Or.inr h
  have hS : va_S A s.heap s.heap [] := va_S.rf
  have hP : va_P (dC, dI) vwCl [((mm 0), .inr (5, [.ref (mm 1), .ref (mm 2), .ref (mm 3), .ref (mm 4), .int kp, .ref (mm 5), .int ty, .int th, .int at0, .int fa, .ref (mm 6), .int ts, .ref (mm 7), .ref (mm 8), .ref (mm 9), .int fr])), ((mm 2), .inl (cI, 80, .inl v)), ((mm 3), .inl (cI, 80, .inl w9)), ((mm 7), .inl (cI, 96, .inl ow)), ((mm 8), .inl (cI, 96, .inl li)), ((mm 9), .inl (cI, 6, .inl cr))] s.heap := hP
  have hin5 : ∀ w ∈ u_ws RX5 TX5 16, w ∈ wsX5_leastLevel := by decide +kernel
  have hl := lv_entry [.ref (mm 0), .int p0] (n := 2) (Nat.le_of_ble_eq_true rfl)
  rw [lg_entry_eq]
  generalize (lg_sl [.ref (mm 0), .int p0] ++ List.replicate (2 - (lg_sl [.ref (mm 0), .int p0]).length) Slot.unset).toArray = lz at hl ⊢
  have hl : lv_has lz 2 [(0, .ref (mm 0)), (1, .int p0)] := hl
  refine lv_aload_n hx hb dX5_leastLevel_0 rfl (lv_at hl 0 rfl) ?_
  refine lv_iconst (v := 0) hx hb dX5_leastLevel_1 (by decide) ?_
  refine va_put (D := (dC, dI)) (ci := 5) (v := .int 0) (ty := .int) (C := RX5) (T := TX5) (N := 16) hx hb hts hin5 tyX5 tyX5_ok nmX5 hown hK hP hD hS 0 rfl rfl 7 (by decide) (hts (.fieldLink RX5 37 "TurnDigitsModel" "thrown" "I") (by decide +kernel)) (fun _ h9 => h9) rfl (by decide +kernel) rfl rfl (Nat.le_of_ble_eq_true rfl) dX5_leastLevel_2 (fun H locs hP hD hS => ?_)
  have hP : va_P (dC, dI) vwCl [((mm 0), .inr (5, [.ref (mm 1), .ref (mm 2), .ref (mm 3), .ref (mm 4), .int kp, .ref (mm 5), .int ty, .int 0, .int at0, .int fa, .ref (mm 6), .int ts, .ref (mm 7), .ref (mm 8), .ref (mm 9), .int fr])), ((mm 2), .inl (cI, 80, .inl v)), ((mm 3), .inl (cI, 80, .inl w9)), ((mm 7), .inl (cI, 96, .inl ow)), ((mm 8), .inl (cI, 96, .inl li)), ((mm 9), .inl (cI, 6, .inl cr))] H := hP
  have hD : va_D A [((mm 0), .inr (5, [.ref (mm 1), .ref (mm 2), .ref (mm 3), .ref (mm 4), .int kp, .ref (mm 5), .int ty, .int 0, .int at0, .int fa, .ref (mm 6), .int ts, .ref (mm 7), .ref (mm 8), .ref (mm 9), .int fr])), ((mm 2), .inl (cI, 80, .inl v)), ((mm 3), .inl (cI, 80, .inl w9)), ((mm 7), .inl (cI, 96, .inl ow)), ((mm 8), .inl (cI, 96, .inl li)), ((mm 9), .inl (cI, 6, .inl cr))] := hD
  refine lv_iload_n hx hb dX5_leastLevel_5 rfl (lv_at hl 1 rfl) ?_
  have hPc := hP.sub (ws' := []) [] rfl
  refine W.callV ((va_runS (As := [.int p0]) (rest := []) ⟨hx, hb, hml, hown, hts⟩ (c_X5_isDigit l dC dI cI cS cJ tt p0) (va_cwS 1 hts gX5_leastLevel_X5_isDigit rfl rfl rfl (by decide +kernel) ⟨Nat.le_of_ble_eq_true rfl, Nat.le_of_ble_eq_true rfl⟩) ⟨xm_Rblind, fun U hU hW => ⟨rfl, by rw [hU]; exact hPc, hE.go hS (fun _ q => q.elim) hU hW, trivial⟩⟩ rfl rfl hl.1 rfl (lv_room (Nat.le_of_ble_eq_true rfl)) dX5_leastLevel_6 ⟨Nat.zero_le _, Nat.zero_le _⟩).run) ?_
  refine W.eq (g2 := F0 m 9 lz (.int (if xt_dg 6 p0 = 0 then 1 else 0) :: [])) rfl ?_
  refine lv_if_eq (tgt := 20) hx hb dX5_leastLevel_9 (by decide) (fun q9 => ?_) (fun q9 => ?_)
  · have q9b : ¬ xt_dg 6 p0 = 0 := xm_bF q9
    refine lv_aload_n hx hb dX5_leastLevel_20 rfl (lv_at hl 0 rfl) ?_
    refine lv_iconst (v := 1) hx hb dX5_leastLevel_21 (by decide) ?_
    have hPc := hP.sub (ws' := [((mm 0), .inr (5, [.ref (mm 1), .ref (mm 2), .ref (mm 3), .ref (mm 4), .int kp, .ref (mm 5), .int ty, .int 0, .int at0, .int fa, .ref (mm 6), .int ts, .ref (mm 7), .ref (mm 8), .ref (mm 9), .int fr]))]) [0] rfl
    have hDc := hD.sub (ws' := [((mm 0), .inr (5, [.ref (mm 1), .ref (mm 2), .ref (mm 3), .ref (mm 4), .int kp, .ref (mm 5), .int ty, .int 0, .int at0, .int fa, .ref (mm 6), .int ts, .ref (mm 7), .ref (mm 8), .ref (mm 9), .int fr]))]) [0] (by decide) rfl
    have hFc := va_free (wc := [((mm 0), .inr (5, [.ref (mm 1), .ref (mm 2), .ref (mm 3), .ref (mm 4), .int kp, .ref (mm 5), .int ty, .int 0, .int at0, .int fa, .ref (mm 6), .int ts, .ref (mm 7), .ref (mm 8), .ref (mm 9), .int fr]))]) hD hS hA [0] rfl
    refine va_calli (va_runV (As := [.int 1]) (rest := []) ⟨hx, hb, hml, hown, hts⟩ (c_X5_fails l dC dI cI cS cJ tt H.size mm kp ty 0 at0 fa ts fr 1) (cwV 1 hts gX5_leastLevel_X5_fails rfl rfl rfl (by decide +kernel) ⟨Nat.le_of_ble_eq_true rfl, Nat.le_of_ble_eq_true rfl⟩) ⟨xm_Mblind, va_recv hK hPc (ci := 5) (q0 := 0) rfl rfl, fun U hU hW => ⟨rfl, by rw [hU], by rw [hU]; exact hPc, hE.go hS hFc hU hW, hDc.weaken (fun _ _ _ _ => trivial), trivial⟩⟩ rfl rfl hl.1 rfl (lv_room (Nat.le_of_ble_eq_true rfl)) dX5_leastLevel_22 ⟨Nat.zero_le _, Nat.zero_le _⟩) hS (fun q _ h => hFc q h) hFc (fun r u t H1 locs ht hvm hw hB hz1 hk1 hS => ?_)
    obtain ⟨u_1, rfl⟩ : ∃ z, z = u := ⟨_, rfl⟩
    obtain ⟨hP1, hD1⟩ := hB
    rw [ht] at hP1
    obtain ⟨hw_2, hw_3⟩ := hw
    have hw_2 : r = 0 := hw_2
    subst hw_2
    have hw_3 : u_1 = 1 := hw_3
    subst hw_3
    obtain ⟨hP, hD⟩ := va_join (wr := [((mm 2), .inl (cI, 80, .inl v)), ((mm 3), .inl (cI, 80, .inl w9)), ((mm 7), .inl (cI, 96, .inl ow)), ((mm 8), .inl (cI, 96, .inl li)), ((mm 9), .inl (cI, 6, .inl cr))]) (w1 := [((mm 0), .inr (5, [.ref (mm 1), .ref (mm 2), .ref (mm 3), .ref (mm 4), .int kp, .ref (mm 5), .int ty, .int 1, .int at0, .int fa, .ref (mm 6), .int ts, .ref (mm 7), .ref (mm 8), .ref (mm 9), .int fr]))]) hP hD [0] [1, 2, 3, 4, 5] rfl rfl (by decide) (by decide) hk1 hFc hP1 hD1
    generalize H1 = H at hP hS ⊢
    have hP : va_P (dC, dI) vwCl [((mm 2), .inl (cI, 80, .inl v)), ((mm 3), .inl (cI, 80, .inl w9)), ((mm 7), .inl (cI, 96, .inl ow)), ((mm 8), .inl (cI, 96, .inl li)), ((mm 9), .inl (cI, 6, .inl cr)), ((mm 0), .inr (5, [.ref (mm 1), .ref (mm 2), .ref (mm 3), .ref (mm 4), .int kp, .ref (mm 5), .int ty, .int 1, .int at0, .int fa, .ref (mm 6), .int ts, .ref (mm 7), .ref (mm 8), .ref (mm 9), .int fr]))] H := hP
    have hD : va_D A [((mm 2), .inl (cI, 80, .inl v)), ((mm 3), .inl (cI, 80, .inl w9)), ((mm 7), .inl (cI, 96, .inl ow)), ((mm 8), .inl (cI, 96, .inl li)), ((mm 9), .inl (cI, 6, .inl cr)), ((mm 0), .inr (5, [.ref (mm 1), .ref (mm 2), .ref (mm 3), .ref (mm 4), .int kp, .ref (mm 5), .int ty, .int 1, .int at0, .int fa, .ref (mm 6), .int ts, .ref (mm 7), .ref (mm 8), .ref (mm 9), .int fr]))] := hD
    have hc9 : xc_d1 p0 = 1 := by simp only [xc_d1, if_neg q9b]
    have hn9 : ¬ xc_d1 p0 = 0 := by rw [hc9]; decide
    have hP9 := hP.sub (ws' := [((mm 0), .inr (5, [.ref (mm 1), .ref (mm 2), .ref (mm 3), .ref (mm 4), .int kp, .ref (mm 5), .int ty, .int 1, .int at0, .int fa, .ref (mm 6), .int ts, .ref (mm 7), .ref (mm 8), .ref (mm 9), .int fr])), ((mm 2), .inl (cI, 80, .inl v)), ((mm 3), .inl (cI, 80, .inl w9)), ((mm 7), .inl (cI, 96, .inl ow)), ((mm 8), .inl (cI, 96, .inl li)), ((mm 9), .inl (cI, 6, .inl cr))]) [5, 0, 1, 2, 3, 4] rfl
    have hD9 := hD.sub (ws' := [((mm 0), .inr (5, [.ref (mm 1), .ref (mm 2), .ref (mm 3), .ref (mm 4), .int kp, .ref (mm 5), .int ty, .int 1, .int at0, .int fa, .ref (mm 6), .int ts, .ref (mm 7), .ref (mm 8), .ref (mm 9), .int fr])), ((mm 2), .inl (cI, 80, .inl v)), ((mm 3), .inl (cI, 80, .inl w9)), ((mm 7), .inl (cI, 96, .inl ow)), ((mm 8), .inl (cI, 96, .inl li)), ((mm 9), .inl (cI, 6, .inl cr))]) [5, 0, 1, 2, 3, 4] (by decide) rfl
    exact W.iret (v := 0) hx hb hr (fun t ht hW => ⟨⟨0, (1, fr, w9, ow, li, cr), rfl, ⟨(if_neg hn9).symm, (hc9.symm)⟩, by rw [ht]; exact hP9, hD9⟩, hS.F ht⟩) hS.2.2 dX5_leastLevel_25
  · have q9b : xt_dg 6 p0 = 0 := xm_bT q9
    refine lv_aload_n hx hb dX5_leastLevel_12 rfl (lv_at hl 0 rfl) ?_
    refine lv_iload_n hx hb dX5_leastLevel_13 rfl (lv_at hl 1 rfl) ?_
    refine xm_topi (y := (nI p0.toNatClampNeg)) (xt_dg_ok (n := 6) (by decide) q9b).1 ?_
    have hPc := hP.sub (ws' := [((mm 0), .inr (5, [.ref (mm 1), .ref (mm 2), .ref (mm 3), .ref (mm 4), .int kp, .ref (mm 5), .int ty, .int 0, .int at0, .int fa, .ref (mm 6), .int ts, .ref (mm 7), .ref (mm 8), .ref (mm 9), .int fr])), ((mm 2), .inl (cI, 80, .inl v)), ((mm 3), .inl (cI, 80, .inl w9)), ((mm 7), .inl (cI, 96, .inl ow)), ((mm 8), .inl (cI, 96, .inl li)), ((mm 9), .inl (cI, 6, .inl cr))]) [0, 1, 2, 3, 4, 5] rfl
    have hDc := hD.sub (ws' := [((mm 0), .inr (5, [.ref (mm 1), .ref (mm 2), .ref (mm 3), .ref (mm 4), .int kp, .ref (mm 5), .int ty, .int 0, .int at0, .int fa, .ref (mm 6), .int ts, .ref (mm 7), .ref (mm 8), .ref (mm 9), .int fr])), ((mm 2), .inl (cI, 80, .inl v)), ((mm 3), .inl (cI, 80, .inl w9)), ((mm 7), .inl (cI, 96, .inl ow)), ((mm 8), .inl (cI, 96, .inl li)), ((mm 9), .inl (cI, 6, .inl cr))]) [0, 1, 2, 3, 4, 5] (by decide) rfl
    have hFc := va_free (wc := [((mm 0), .inr (5, [.ref (mm 1), .ref (mm 2), .ref (mm 3), .ref (mm 4), .int kp, .ref (mm 5), .int ty, .int 0, .int at0, .int fa, .ref (mm 6), .int ts, .ref (mm 7), .ref (mm 8), .ref (mm 9), .int fr])), ((mm 2), .inl (cI, 80, .inl v)), ((mm 3), .inl (cI, 80, .inl w9)), ((mm 7), .inl (cI, 96, .inl ow)), ((mm 8), .inl (cI, 96, .inl li)), ((mm 9), .inl (cI, 6, .inl cr))]) hD hS hA [0, 1, 2, 3, 4, 5] rfl
    refine va_calli (va_runV (As := [.int (nI p0.toNatClampNeg)]) (rest := []) ⟨hx, hb, hml, hown, hts⟩ (c_X5_least l dC dI cI cS cJ tt H.size mm kp ty 0 at0 fa ts fr v w9 ow li cr n p0.toNatClampNeg) (cwV 1 hts gX5_leastLevel_X5_least rfl rfl rfl (by decide +kernel) ⟨Nat.le_of_ble_eq_true rfl, Nat.le_of_ble_eq_true rfl⟩) ⟨xm_Mblind, va_recv hK hPc (ci := 5) (q0 := 0) rfl rfl, fun U hU hW => ⟨rfl, by rw [hU], by rw [hU]; exact hPc, hE.go hS hFc hU hW, hDc.weaken (fun _ _ _ _ => trivial), ⟨hpre, (xt_dg_ok (n := 6) (by decide) q9b).2⟩⟩⟩ rfl rfl hl.1 rfl (lv_room (Nat.le_of_ble_eq_true rfl)) dX5_leastLevel_14 ⟨Nat.zero_le _, Nat.zero_le _⟩) hS (fun q _ h => hFc q h) hFc (fun r u t H1 locs ht hvm hw hB hz1 hk1 hS => ?_)
    obtain ⟨u_4, u_5, u_6, u_7, u_8⟩ := u
    obtain ⟨hP1, hD1⟩ := hB
    rw [ht] at hP1
    have hw_9 := hw
    have hw_9 : r = ls_to v n p0.toNatClampNeg 16 0 := hw_9
    subst hw_9
    obtain ⟨hP, hD⟩ := va_join (wr := []) (w1 := [((mm 0), .inr (5, [.ref (mm 1), .ref (mm 2), .ref (mm 3), .ref (mm 4), .int kp, .ref (mm 5), .int ty, .int 0, .int at0, .int fa, .ref (mm 6), .int ts, .ref (mm 7), .ref (mm 8), .ref (mm 9), .int u_4])), ((mm 2), .inl (cI, 80, .inl v)), ((mm 3), .inl (cI, 80, .inl u_5)), ((mm 7), .inl (cI, 96, .inl u_6)), ((mm 8), .inl (cI, 96, .inl u_7)), ((mm 9), .inl (cI, 6, .inl u_8))]) hP hD [0, 1, 2, 3, 4, 5] [] rfl rfl (by decide) (by decide) hk1 hFc hP1 hD1
    generalize H1 = H at hP hS ⊢
    have hP : va_P (dC, dI) vwCl [((mm 0), .inr (5, [.ref (mm 1), .ref (mm 2), .ref (mm 3), .ref (mm 4), .int kp, .ref (mm 5), .int ty, .int 0, .int at0, .int fa, .ref (mm 6), .int ts, .ref (mm 7), .ref (mm 8), .ref (mm 9), .int u_4])), ((mm 2), .inl (cI, 80, .inl v)), ((mm 3), .inl (cI, 80, .inl u_5)), ((mm 7), .inl (cI, 96, .inl u_6)), ((mm 8), .inl (cI, 96, .inl u_7)), ((mm 9), .inl (cI, 6, .inl u_8))] H := hP
    have hD : va_D A [((mm 0), .inr (5, [.ref (mm 1), .ref (mm 2), .ref (mm 3), .ref (mm 4), .int kp, .ref (mm 5), .int ty, .int 0, .int at0, .int fa, .ref (mm 6), .int ts, .ref (mm 7), .ref (mm 8), .ref (mm 9), .int u_4])), ((mm 2), .inl (cI, 80, .inl v)), ((mm 3), .inl (cI, 80, .inl u_5)), ((mm 7), .inl (cI, 96, .inl u_6)), ((mm 8), .inl (cI, 96, .inl u_7)), ((mm 9), .inl (cI, 6, .inl u_8))] := hD
    refine lv_goto (tgt := 25) hx hb dX5_leastLevel_17 (by decide) ?_
    have hc9 : xc_d1 p0 = 0 := by simp only [xc_d1, if_pos q9b]
    have hP9 : va_P (dC, dI) vwCl [((mm 0), .inr (5, [.ref (mm 1), .ref (mm 2), .ref (mm 3), .ref (mm 4), .int kp, .ref (mm 5), .int ty, .int 0, .int at0, .int fa, .ref (mm 6), .int ts, .ref (mm 7), .ref (mm 8), .ref (mm 9), .int u_4])), ((mm 2), .inl (cI, 80, .inl v)), ((mm 3), .inl (cI, 80, .inl u_5)), ((mm 7), .inl (cI, 96, .inl u_6)), ((mm 8), .inl (cI, 96, .inl u_7)), ((mm 9), .inl (cI, 6, .inl u_8))] H := hP
    have hD9 : va_D A [((mm 0), .inr (5, [.ref (mm 1), .ref (mm 2), .ref (mm 3), .ref (mm 4), .int kp, .ref (mm 5), .int ty, .int 0, .int at0, .int fa, .ref (mm 6), .int ts, .ref (mm 7), .ref (mm 8), .ref (mm 9), .int u_4])), ((mm 2), .inl (cI, 80, .inl v)), ((mm 3), .inl (cI, 80, .inl u_5)), ((mm 7), .inl (cI, 96, .inl u_6)), ((mm 8), .inl (cI, 96, .inl u_7)), ((mm 9), .inl (cI, 6, .inl u_8))] := hD
    exact W.iret (v := ls_to v n p0.toNatClampNeg 16 0) hx hb hr (fun t ht hW => ⟨⟨ls_to v n p0.toNatClampNeg 16 0, (0, u_4, u_5, u_6, u_7, u_8), rfl, ⟨(if_pos hc9).symm, (hc9.symm)⟩, by rw [ht]; exact hP9, hD9⟩, hS.F ht⟩) hS.2.2 dX5_leastLevel_25

set_option maxHeartbeats 4000000 in
set_option maxRecDepth 100000 in
theorem c_X5_alikeSigns (l : Launch) (dC : Nat → ClassId) (dI : Nat → Nat → Nat) (cI cS cJ : ClassId) (tt : Nat → Nat) (sz : Nat) (mm : Nat → Nat) (kp : Int32) (ty : Int32) (th : Int32) (at0 : Int32) (fa : Int32) (ts : Int32) (fr : Int32) (p0 : Int32) (v : Nat → Int32) : Met l yX5_alikeSigns wsX5_alikeSigns ({ frames := 2, cells := 0, slots := 0, locals := 46 } : Room) (va_Pc [.ref (mm 0), .int p0] (xm_M (dC, dI) cI cS cJ tt [((mm 0), .inr (5, [.ref (mm 1), .ref (mm 2), .ref (mm 3), .ref (mm 4), .int kp, .ref (mm 5), .int ty, .int th, .int at0, .int fa, .ref (mm 6), .int ts, .ref (mm 7), .ref (mm 8), .ref (mm 9), .int fr])), ((mm 1), .inl (cI, 12, .inl xm_mk)), ((mm 2), .inl (cI, 80, .inl v))] sz (True))) (va_Qi (fun (r : Int32) (u : Int32) => r = (if xc_d1 p0 = 0 then ap_to (v (20 + p0.toNatClampNeg) ^^^ (-1)) 12 else 0) ∧ u = xc_d1 p0) (xm_B (dC, dI) (fun (u : Int32) => [((mm 0), .inr (5, [.ref (mm 1), .ref (mm 2), .ref (mm 3), .ref (mm 4), .int kp, .ref (mm 5), .int ty, .int u, .int at0, .int fa, .ref (mm 6), .int ts, .ref (mm 7), .ref (mm 8), .ref (mm 9), .int fr])), ((mm 1), .inl (cI, 12, .inl xm_mk)), ((mm 2), .inl (cI, 80, .inl v))]) (va_A [((mm 0), .inr (5, [.ref (mm 1), .ref (mm 2), .ref (mm 3), .ref (mm 4), .int kp, .ref (mm 5), .int ty, .int th, .int at0, .int fa, .ref (mm 6), .int ts, .ref (mm 7), .ref (mm 8), .ref (mm 9), .int fr])), ((mm 1), .inl (cI, 12, .inl xm_mk)), ((mm 2), .inl (cI, 80, .inl v))] sz)) (va_A [((mm 0), .inr (5, [.ref (mm 1), .ref (mm 2), .ref (mm 3), .ref (mm 4), .int kp, .ref (mm 5), .int ty, .int th, .int at0, .int fa, .ref (mm 6), .int ts, .ref (mm 7), .ref (mm 8), .ref (mm 9), .int fr])), ((mm 1), .inl (cI, 12, .inl xm_mk)), ((mm 2), .inl (cI, 80, .inl v))] sz)) 0 0 (va_A [((mm 0), .inr (5, [.ref (mm 1), .ref (mm 2), .ref (mm 3), .ref (mm 4), .int kp, .ref (mm 5), .int ty, .int th, .int at0, .int fa, .ref (mm 6), .int ts, .ref (mm 7), .ref (mm 8), .ref (mm 9), .int fr])), ((mm 1), .inl (cI, 12, .inl xm_mk)), ((mm 2), .inl (cI, 80, .inl v))] sz) := by
  refine Met.ofW (cc := cX5_alikeSigns) (maxL := 2) (ret := (some .int)) (by decide) rfl ?_
  intro p e s m args below meth c s₁ B hml hv
  obtain ⟨rfl, hsz, hP, hE, hD0, hpre⟩ := hv
  have hx := B.exec
  have hb := B.bytes
  have hr := B.returns
  have hts := atoms_spec (ws := wsX5_alikeSigns) B.pre
  have hown : s.vm.findClass RX5 = some m.cls := findClass_of_methodNamed B.named
  have hlocks := B.notSynchronized
  have hK := hE.1
  subst hsz
  have hD := hD0.self (sz := s.heap.size)
  generalize hAe : va_A [((mm 0), .inr (5, [.ref (mm 1), .ref (mm 2), .ref (mm 3), .ref (mm 4), .int kp, .ref (mm 5), .int ty, .int th, .int at0, .int fa, .ref (mm 6), .int ts, .ref (mm 7), .ref (mm 8), .ref (mm 9), .int fr])), ((mm 1), .inl (cI, 12, .inl xm_mk)), ((mm 2), .inl (cI, 80, .inl v))] s.heap.size = A at hD hE ⊢
  have hA : ∀ q : Nat, s.heap.size ≤ q → A q := fun q h => by rw [← hAe]; exact Or.inr h
  have hS : va_S A s.heap s.heap [] := va_S.rf
  have hP : va_P (dC, dI) vwCl [((mm 0), .inr (5, [.ref (mm 1), .ref (mm 2), .ref (mm 3), .ref (mm 4), .int kp, .ref (mm 5), .int ty, .int th, .int at0, .int fa, .ref (mm 6), .int ts, .ref (mm 7), .ref (mm 8), .ref (mm 9), .int fr])), ((mm 1), .inl (cI, 12, .inl xm_mk)), ((mm 2), .inl (cI, 80, .inl v))] s.heap := hP
  have hin5 : ∀ w ∈ u_ws RX5 TX5 16, w ∈ wsX5_alikeSigns := by decide +kernel
  have hl := lv_entry [.ref (mm 0), .int p0] (n := 2) (Nat.le_of_ble_eq_true rfl)
  rw [lg_entry_eq]
  generalize (lg_sl [.ref (mm 0), .int p0] ++ List.replicate (2 - (lg_sl [.ref (mm 0), .int p0]).length) Slot.unset).toArray = lz at hl ⊢
  have hl : lv_has lz 2 [(0, .ref (mm 0)), (1, .int p0)] := hl
  refine lv_aload_n hx hb dX5_alikeSigns_0 rfl (lv_at hl 0 rfl) ?_
  refine lv_iconst (v := 0) hx hb dX5_alikeSigns_1 (by decide) ?_
  refine va_put (D := (dC, dI)) (ci := 5) (v := .int 0) (ty := .int) (C := RX5) (T := TX5) (N := 16) hx hb hts hin5 tyX5 tyX5_ok nmX5 hown hK hP hD hS 0 rfl rfl 7 (by decide) (hts (.fieldLink RX5 37 "TurnDigitsModel" "thrown" "I") (by decide +kernel)) (fun _ h9 => h9) rfl (by decide +kernel) rfl rfl (Nat.le_of_ble_eq_true rfl) dX5_alikeSigns_2 (fun H locs hP hD hS => ?_)
  have hP : va_P (dC, dI) vwCl [((mm 0), .inr (5, [.ref (mm 1), .ref (mm 2), .ref (mm 3), .ref (mm 4), .int kp, .ref (mm 5), .int ty, .int 0, .int at0, .int fa, .ref (mm 6), .int ts, .ref (mm 7), .ref (mm 8), .ref (mm 9), .int fr])), ((mm 1), .inl (cI, 12, .inl xm_mk)), ((mm 2), .inl (cI, 80, .inl v))] H := hP
  have hD : va_D A [((mm 0), .inr (5, [.ref (mm 1), .ref (mm 2), .ref (mm 3), .ref (mm 4), .int kp, .ref (mm 5), .int ty, .int 0, .int at0, .int fa, .ref (mm 6), .int ts, .ref (mm 7), .ref (mm 8), .ref (mm 9), .int fr])), ((mm 1), .inl (cI, 12, .inl xm_mk)), ((mm 2), .inl (cI, 80, .inl v))] := hD
  refine lv_iload_n hx hb dX5_alikeSigns_5 rfl (lv_at hl 1 rfl) ?_
  have hPc := hP.sub (ws' := []) [] rfl
  refine W.callV ((va_runS (As := [.int p0]) (rest := []) ⟨hx, hb, hml, hown, hts⟩ (c_X5_isDigit l dC dI cI cS cJ tt p0) (va_cwS 1 hts gX5_alikeSigns_X5_isDigit rfl rfl rfl (by decide +kernel) ⟨Nat.le_of_ble_eq_true rfl, Nat.le_of_ble_eq_true rfl⟩) ⟨xm_Rblind, fun U hU hW => ⟨rfl, by rw [hU]; exact hPc, hE.go hS (fun _ q => q.elim) hU hW, trivial⟩⟩ rfl rfl hl.1 rfl (lv_room (Nat.le_of_ble_eq_true rfl)) dX5_alikeSigns_6 ⟨Nat.zero_le _, Nat.zero_le _⟩).run) ?_
  refine W.eq (g2 := F0 m 9 lz (.int (if xt_dg 6 p0 = 0 then 1 else 0) :: [])) rfl ?_
  refine lv_if_eq (tgt := 20) hx hb dX5_alikeSigns_9 (by decide) (fun q9 => ?_) (fun q9 => ?_)
  · have q9b : ¬ xt_dg 6 p0 = 0 := xm_bF q9
    refine lv_aload_n hx hb dX5_alikeSigns_20 rfl (lv_at hl 0 rfl) ?_
    refine lv_iconst (v := 1) hx hb dX5_alikeSigns_21 (by decide) ?_
    have hPc := hP.sub (ws' := [((mm 0), .inr (5, [.ref (mm 1), .ref (mm 2), .ref (mm 3), .ref (mm 4), .int kp, .ref (mm 5), .int ty, .int 0, .int at0, .int fa, .ref (mm 6), .int ts, .ref (mm 7), .ref (mm 8), .ref (mm 9), .int fr]))]) [0] rfl
    have hDc := hD.sub (ws' := [((mm 0), .inr (5, [.ref (mm 1), .ref (mm 2), .ref (mm 3), .ref (mm 4), .int kp, .ref (mm 5), .int ty, .int 0, .int at0, .int fa, .ref (mm 6), .int ts, .ref (mm 7), .ref (mm 8), .ref (mm 9), .int fr]))]) [0] (by decide) rfl
    have hFc := va_free (wc := [((mm 0), .inr (5, [.ref (mm 1), .ref (mm 2), .ref (mm 3), .ref (mm 4), .int kp, .ref (mm 5), .int ty, .int 0, .int at0, .int fa, .ref (mm 6), .int ts, .ref (mm 7), .ref (mm 8), .ref (mm 9), .int fr]))]) hD hS hA [0] rfl
    refine va_calli (va_runV (As := [.int 1]) (rest := []) ⟨hx, hb, hml, hown, hts⟩ (c_X5_fails l dC dI cI cS cJ tt H.size mm kp ty 0 at0 fa ts fr 1) (cwV 1 hts gX5_alikeSigns_X5_fails rfl rfl rfl (by decide +kernel) ⟨Nat.le_of_ble_eq_true rfl, Nat.le_of_ble_eq_true rfl⟩) ⟨xm_Mblind, va_recv hK hPc (ci := 5) (q0 := 0) rfl rfl, fun U hU hW => ⟨rfl, by rw [hU], by rw [hU]; exact hPc, hE.go hS hFc hU hW, hDc.weaken (fun _ _ _ _ => trivial), trivial⟩⟩ rfl rfl hl.1 rfl (lv_room (Nat.le_of_ble_eq_true rfl)) dX5_alikeSigns_22 ⟨Nat.zero_le _, Nat.zero_le _⟩) hS (fun q _ h => hFc q h) hFc (fun r u t H1 locs ht hvm hw hB hz1 hk1 hS => ?_)
    obtain ⟨u_1, rfl⟩ : ∃ z, z = u := ⟨_, rfl⟩
    obtain ⟨hP1, hD1⟩ := hB
    rw [ht] at hP1
    obtain ⟨hw_2, hw_3⟩ := hw
    have hw_2 : r = 0 := hw_2
    subst hw_2
    have hw_3 : u_1 = 1 := hw_3
    subst hw_3
    obtain ⟨hP, hD⟩ := va_join (wr := [((mm 1), .inl (cI, 12, .inl xm_mk)), ((mm 2), .inl (cI, 80, .inl v))]) (w1 := [((mm 0), .inr (5, [.ref (mm 1), .ref (mm 2), .ref (mm 3), .ref (mm 4), .int kp, .ref (mm 5), .int ty, .int 1, .int at0, .int fa, .ref (mm 6), .int ts, .ref (mm 7), .ref (mm 8), .ref (mm 9), .int fr]))]) hP hD [0] [1, 2] rfl rfl (by decide) (by decide) hk1 hFc hP1 hD1
    generalize H1 = H at hP hS ⊢
    have hP : va_P (dC, dI) vwCl [((mm 1), .inl (cI, 12, .inl xm_mk)), ((mm 2), .inl (cI, 80, .inl v)), ((mm 0), .inr (5, [.ref (mm 1), .ref (mm 2), .ref (mm 3), .ref (mm 4), .int kp, .ref (mm 5), .int ty, .int 1, .int at0, .int fa, .ref (mm 6), .int ts, .ref (mm 7), .ref (mm 8), .ref (mm 9), .int fr]))] H := hP
    have hD : va_D A [((mm 1), .inl (cI, 12, .inl xm_mk)), ((mm 2), .inl (cI, 80, .inl v)), ((mm 0), .inr (5, [.ref (mm 1), .ref (mm 2), .ref (mm 3), .ref (mm 4), .int kp, .ref (mm 5), .int ty, .int 1, .int at0, .int fa, .ref (mm 6), .int ts, .ref (mm 7), .ref (mm 8), .ref (mm 9), .int fr]))] := hD
    have hc9 : xc_d1 p0 = 1 := by simp only [xc_d1, if_neg q9b]
    have hn9 : ¬ xc_d1 p0 = 0 := by rw [hc9]; decide
    have hP9 := hP.sub (ws' := [((mm 0), .inr (5, [.ref (mm 1), .ref (mm 2), .ref (mm 3), .ref (mm 4), .int kp, .ref (mm 5), .int ty, .int 1, .int at0, .int fa, .ref (mm 6), .int ts, .ref (mm 7), .ref (mm 8), .ref (mm 9), .int fr])), ((mm 1), .inl (cI, 12, .inl xm_mk)), ((mm 2), .inl (cI, 80, .inl v))]) [2, 0, 1] rfl
    have hD9 := hD.sub (ws' := [((mm 0), .inr (5, [.ref (mm 1), .ref (mm 2), .ref (mm 3), .ref (mm 4), .int kp, .ref (mm 5), .int ty, .int 1, .int at0, .int fa, .ref (mm 6), .int ts, .ref (mm 7), .ref (mm 8), .ref (mm 9), .int fr])), ((mm 1), .inl (cI, 12, .inl xm_mk)), ((mm 2), .inl (cI, 80, .inl v))]) [2, 0, 1] (by decide) rfl
    exact W.iret (v := 0) hx hb hr (fun t ht hW => ⟨⟨0, 1, rfl, ⟨(if_neg hn9).symm, (hc9.symm)⟩, by rw [ht]; exact hP9, hD9⟩, hS.F ht⟩) hS.2.2 dX5_alikeSigns_25
  · have q9b : xt_dg 6 p0 = 0 := xm_bT q9
    refine lv_aload_n hx hb dX5_alikeSigns_12 rfl (lv_at hl 0 rfl) ?_
    refine lv_iload_n hx hb dX5_alikeSigns_13 rfl (lv_at hl 1 rfl) ?_
    refine xm_topi (y := (nI p0.toNatClampNeg)) (xt_dg_ok (n := 6) (by decide) q9b).1 ?_
    have hPc := hP.sub (ws' := [((mm 0), .inr (5, [.ref (mm 1), .ref (mm 2), .ref (mm 3), .ref (mm 4), .int kp, .ref (mm 5), .int ty, .int 0, .int at0, .int fa, .ref (mm 6), .int ts, .ref (mm 7), .ref (mm 8), .ref (mm 9), .int fr])), ((mm 1), .inl (cI, 12, .inl xm_mk)), ((mm 2), .inl (cI, 80, .inl v))]) [0, 1, 2] rfl
    refine W.callV ((va_runV (As := [.int (nI p0.toNatClampNeg)]) (rest := []) ⟨hx, hb, hml, hown, hts⟩ (c_X5_alike l dC dI cI cS cJ tt mm kp ty 0 at0 fa ts fr v p0.toNatClampNeg) (cwV 1 hts gX5_alikeSigns_X5_alike rfl rfl rfl (by decide +kernel) ⟨Nat.le_of_ble_eq_true rfl, Nat.le_of_ble_eq_true rfl⟩) ⟨xm_Rblind, va_recv hK hPc (ci := 5) (q0 := 0) rfl rfl, fun U hU hW => ⟨rfl, by rw [hU]; exact hPc, hE.go hS (fun _ q => q.elim) hU hW, (xt_dg_ok (n := 6) (by decide) q9b).2⟩⟩ rfl rfl hl.1 rfl (lv_room (Nat.le_of_ble_eq_true rfl)) dX5_alikeSigns_14 ⟨Nat.zero_le _, Nat.zero_le _⟩).run) ?_
    refine W.eq (g2 := F0 m 17 lz (.int (ap_to (v (20 + p0.toNatClampNeg) ^^^ (-1)) 12) :: [])) rfl ?_
    refine lv_goto (tgt := 25) hx hb dX5_alikeSigns_17 (by decide) ?_
    have hc9 : xc_d1 p0 = 0 := by simp only [xc_d1, if_pos q9b]
    have hP9 : va_P (dC, dI) vwCl [((mm 0), .inr (5, [.ref (mm 1), .ref (mm 2), .ref (mm 3), .ref (mm 4), .int kp, .ref (mm 5), .int ty, .int 0, .int at0, .int fa, .ref (mm 6), .int ts, .ref (mm 7), .ref (mm 8), .ref (mm 9), .int fr])), ((mm 1), .inl (cI, 12, .inl xm_mk)), ((mm 2), .inl (cI, 80, .inl v))] H := hP
    have hD9 : va_D A [((mm 0), .inr (5, [.ref (mm 1), .ref (mm 2), .ref (mm 3), .ref (mm 4), .int kp, .ref (mm 5), .int ty, .int 0, .int at0, .int fa, .ref (mm 6), .int ts, .ref (mm 7), .ref (mm 8), .ref (mm 9), .int fr])), ((mm 1), .inl (cI, 12, .inl xm_mk)), ((mm 2), .inl (cI, 80, .inl v))] := hD
    exact W.iret (v := ap_to (v (20 + p0.toNatClampNeg) ^^^ (-1)) 12) hx hb hr (fun t ht hW => ⟨⟨ap_to (v (20 + p0.toNatClampNeg) ^^^ (-1)) 12, 0, rfl, ⟨(if_pos hc9).symm, (hc9.symm)⟩, by rw [ht]; exact hP9, hD9⟩, hS.F ht⟩) hS.2.2 dX5_alikeSigns_25

set_option maxHeartbeats 4000000 in
set_option maxRecDepth 100000 in
theorem c_X5_numberShown (l : Launch) (dC : Nat → ClassId) (dI : Nat → Nat → Nat) (cI cS cJ : ClassId) (tt : Nat → Nat) (sz : Nat) (mm : Nat → Nat) (kp : Int32) (ty : Int32) (th : Int32) (at0 : Int32) (fa : Int32) (ts : Int32) (fr : Int32) (v : Nat → Int32) (ow : Nat → Int32) (li : Nat → Int32) (cr : Nat → Int32) (n : Nat) : Met l yX5_numberShown wsX5_numberShown ({ frames := 5, cells := 0, slots := 0, locals := 116 } : Room) (va_Pc [.ref (mm 0)] (xm_M (dC, dI) cI cS cJ tt [((mm 0), .inr (5, [.ref (mm 1), .ref (mm 2), .ref (mm 3), .ref (mm 4), .int kp, .ref (mm 5), .int ty, .int th, .int at0, .int fa, .ref (mm 6), .int ts, .ref (mm 7), .ref (mm 8), .ref (mm 9), .int fr])), ((mm 1), .inl (cI, 12, .inl xm_mk)), ((mm 2), .inl (cI, 80, .inl v)), ((mm 7), .inl (cI, 96, .inl ow)), ((mm 8), .inl (cI, 96, .inl li)), ((mm 9), .inl (cI, 6, .inl cr))] sz (vo_f v n ∧ (∀ j, j < 6 → fm_ix (v (8 + j)) 12)))) (va_Qi (fun (r : Int32) (u : Int32 × Int32 × (Nat → Int32) × (Nat → Int32) × (Nat → Int32)) => r = cn_all (lk_cl v n) v ∧ u.1 = 0) (xm_B (dC, dI) (fun (u : Int32 × Int32 × (Nat → Int32) × (Nat → Int32) × (Nat → Int32)) => [((mm 0), .inr (5, [.ref (mm 1), .ref (mm 2), .ref (mm 3), .ref (mm 4), .int kp, .ref (mm 5), .int ty, .int u.1, .int at0, .int fa, .ref (mm 6), .int ts, .ref (mm 7), .ref (mm 8), .ref (mm 9), .int u.2.1])), ((mm 1), .inl (cI, 12, .inl xm_mk)), ((mm 2), .inl (cI, 80, .inl v)), ((mm 7), .inl (cI, 96, .inl u.2.2.1)), ((mm 8), .inl (cI, 96, .inl u.2.2.2.1)), ((mm 9), .inl (cI, 6, .inl u.2.2.2.2))]) (va_A [((mm 0), .inr (5, [.ref (mm 1), .ref (mm 2), .ref (mm 3), .ref (mm 4), .int kp, .ref (mm 5), .int ty, .int th, .int at0, .int fa, .ref (mm 6), .int ts, .ref (mm 7), .ref (mm 8), .ref (mm 9), .int fr])), ((mm 1), .inl (cI, 12, .inl xm_mk)), ((mm 2), .inl (cI, 80, .inl v)), ((mm 7), .inl (cI, 96, .inl ow)), ((mm 8), .inl (cI, 96, .inl li)), ((mm 9), .inl (cI, 6, .inl cr))] sz)) (va_A [((mm 0), .inr (5, [.ref (mm 1), .ref (mm 2), .ref (mm 3), .ref (mm 4), .int kp, .ref (mm 5), .int ty, .int th, .int at0, .int fa, .ref (mm 6), .int ts, .ref (mm 7), .ref (mm 8), .ref (mm 9), .int fr])), ((mm 1), .inl (cI, 12, .inl xm_mk)), ((mm 2), .inl (cI, 80, .inl v)), ((mm 7), .inl (cI, 96, .inl ow)), ((mm 8), .inl (cI, 96, .inl li)), ((mm 9), .inl (cI, 6, .inl cr))] sz)) 0 0 (va_A [((mm 0), .inr (5, [.ref (mm 1), .ref (mm 2), .ref (mm 3), .ref (mm 4), .int kp, .ref (mm 5), .int ty, .int th, .int at0, .int fa, .ref (mm 6), .int ts, .ref (mm 7), .ref (mm 8), .ref (mm 9), .int fr])), ((mm 1), .inl (cI, 12, .inl xm_mk)), ((mm 2), .inl (cI, 80, .inl v)), ((mm 7), .inl (cI, 96, .inl ow)), ((mm 8), .inl (cI, 96, .inl li)), ((mm 9), .inl (cI, 6, .inl cr))] sz) := by
  refine Met.ofW (cc := cX5_numberShown) (maxL := 1) (ret := (some .int)) (by decide) rfl ?_
  intro p e s m args below meth c s₁ B hml hv
  obtain ⟨rfl, hsz, hP, hE, hD0, hpre⟩ := hv
  have hx := B.exec
  have hb := B.bytes
  have hr := B.returns
  have hts := atoms_spec (ws := wsX5_numberShown) B.pre
  have hown : s.vm.findClass RX5 = some m.cls := findClass_of_methodNamed B.named
  have hlocks := B.notSynchronized
  have hK := hE.1
  subst hsz
  have hD := hD0.self (sz := s.heap.size)
  generalize hAe : va_A [((mm 0), .inr (5, [.ref (mm 1), .ref (mm 2), .ref (mm 3), .ref (mm 4), .int kp, .ref (mm 5), .int ty, .int th, .int at0, .int fa, .ref (mm 6), .int ts, .ref (mm 7), .ref (mm 8), .ref (mm 9), .int fr])), ((mm 1), .inl (cI, 12, .inl xm_mk)), ((mm 2), .inl (cI, 80, .inl v)), ((mm 7), .inl (cI, 96, .inl ow)), ((mm 8), .inl (cI, 96, .inl li)), ((mm 9), .inl (cI, 6, .inl cr))] s.heap.size = A at hD hE ⊢
  have hA : ∀ q : Nat, s.heap.size ≤ q → A q := fun q h => by rw [← hAe]; exact Or.inr h
  have hS : va_S A s.heap s.heap [] := va_S.rf
  have hP : va_P (dC, dI) vwCl [((mm 0), .inr (5, [.ref (mm 1), .ref (mm 2), .ref (mm 3), .ref (mm 4), .int kp, .ref (mm 5), .int ty, .int th, .int at0, .int fa, .ref (mm 6), .int ts, .ref (mm 7), .ref (mm 8), .ref (mm 9), .int fr])), ((mm 1), .inl (cI, 12, .inl xm_mk)), ((mm 2), .inl (cI, 80, .inl v)), ((mm 7), .inl (cI, 96, .inl ow)), ((mm 8), .inl (cI, 96, .inl li)), ((mm 9), .inl (cI, 6, .inl cr))] s.heap := hP
  have hin5 : ∀ w ∈ u_ws RX5 TX5 16, w ∈ wsX5_numberShown := by decide +kernel
  have hl := lv_entry [.ref (mm 0)] (n := 1) (Nat.le_of_ble_eq_true rfl)
  rw [lg_entry_eq]
  generalize (lg_sl [.ref (mm 0)] ++ List.replicate (1 - (lg_sl [.ref (mm 0)]).length) Slot.unset).toArray = lz at hl ⊢
  have hl : lv_has lz 1 [(0, .ref (mm 0))] := hl
  refine lv_aload_n hx hb dX5_numberShown_0 rfl (lv_at hl 0 rfl) ?_
  refine lv_iconst (v := 0) hx hb dX5_numberShown_1 (by decide) ?_
  refine va_put (D := (dC, dI)) (ci := 5) (v := .int 0) (ty := .int) (C := RX5) (T := TX5) (N := 16) hx hb hts hin5 tyX5 tyX5_ok nmX5 hown hK hP hD hS 0 rfl rfl 7 (by decide) (hts (.fieldLink RX5 37 "TurnDigitsModel" "thrown" "I") (by decide +kernel)) (fun _ h9 => h9) rfl (by decide +kernel) rfl rfl (Nat.le_of_ble_eq_true rfl) dX5_numberShown_2 (fun H locs hP hD hS => ?_)
  have hP : va_P (dC, dI) vwCl [((mm 0), .inr (5, [.ref (mm 1), .ref (mm 2), .ref (mm 3), .ref (mm 4), .int kp, .ref (mm 5), .int ty, .int 0, .int at0, .int fa, .ref (mm 6), .int ts, .ref (mm 7), .ref (mm 8), .ref (mm 9), .int fr])), ((mm 1), .inl (cI, 12, .inl xm_mk)), ((mm 2), .inl (cI, 80, .inl v)), ((mm 7), .inl (cI, 96, .inl ow)), ((mm 8), .inl (cI, 96, .inl li)), ((mm 9), .inl (cI, 6, .inl cr))] H := hP
  have hD : va_D A [((mm 0), .inr (5, [.ref (mm 1), .ref (mm 2), .ref (mm 3), .ref (mm 4), .int kp, .ref (mm 5), .int ty, .int 0, .int at0, .int fa, .ref (mm 6), .int ts, .ref (mm 7), .ref (mm 8), .ref (mm 9), .int fr])), ((mm 1), .inl (cI, 12, .inl xm_mk)), ((mm 2), .inl (cI, 80, .inl v)), ((mm 7), .inl (cI, 96, .inl ow)), ((mm 8), .inl (cI, 96, .inl li)), ((mm 9), .inl (cI, 6, .inl cr))] := hD
  refine lv_aload_n hx hb dX5_numberShown_5 rfl (lv_at hl 0 rfl) ?_
  have hPc := hP.sub (ws' := [((mm 0), .inr (5, [.ref (mm 1), .ref (mm 2), .ref (mm 3), .ref (mm 4), .int kp, .ref (mm 5), .int ty, .int 0, .int at0, .int fa, .ref (mm 6), .int ts, .ref (mm 7), .ref (mm 8), .ref (mm 9), .int fr])), ((mm 1), .inl (cI, 12, .inl xm_mk)), ((mm 2), .inl (cI, 80, .inl v)), ((mm 7), .inl (cI, 96, .inl ow)), ((mm 8), .inl (cI, 96, .inl li)), ((mm 9), .inl (cI, 6, .inl cr))]) [0, 1, 2, 3, 4, 5] rfl
  have hDc := hD.sub (ws' := [((mm 0), .inr (5, [.ref (mm 1), .ref (mm 2), .ref (mm 3), .ref (mm 4), .int kp, .ref (mm 5), .int ty, .int 0, .int at0, .int fa, .ref (mm 6), .int ts, .ref (mm 7), .ref (mm 8), .ref (mm 9), .int fr])), ((mm 1), .inl (cI, 12, .inl xm_mk)), ((mm 2), .inl (cI, 80, .inl v)), ((mm 7), .inl (cI, 96, .inl ow)), ((mm 8), .inl (cI, 96, .inl li)), ((mm 9), .inl (cI, 6, .inl cr))]) [0, 1, 2, 3, 4, 5] (by decide) rfl
  have hFc := va_free (wc := [((mm 0), .inr (5, [.ref (mm 1), .ref (mm 2), .ref (mm 3), .ref (mm 4), .int kp, .ref (mm 5), .int ty, .int 0, .int at0, .int fa, .ref (mm 6), .int ts, .ref (mm 7), .ref (mm 8), .ref (mm 9), .int fr])), ((mm 1), .inl (cI, 12, .inl xm_mk)), ((mm 2), .inl (cI, 80, .inl v)), ((mm 7), .inl (cI, 96, .inl ow)), ((mm 8), .inl (cI, 96, .inl li)), ((mm 9), .inl (cI, 6, .inl cr))]) hD hS hA [0, 1, 2, 3, 4, 5] rfl
  refine va_calli (va_runV (As := []) (rest := []) ⟨hx, hb, hml, hown, hts⟩ (c_X5_shownNumber l dC dI cI cS cJ tt H.size mm kp ty 0 at0 fa ts fr v ow li cr n) (cwV 0 hts gX5_numberShown_X5_shownNumber rfl rfl rfl (by decide +kernel) ⟨Nat.le_of_ble_eq_true rfl, Nat.le_of_ble_eq_true rfl⟩) ⟨xm_Mblind, va_recv hK hPc (ci := 5) (q0 := 0) rfl rfl, fun U hU hW => ⟨rfl, by rw [hU], by rw [hU]; exact hPc, hE.go hS hFc hU hW, hDc.weaken (fun _ _ _ _ => trivial), hpre⟩⟩ rfl rfl hl.1 rfl (lv_room (Nat.le_of_ble_eq_true rfl)) dX5_numberShown_6 ⟨Nat.zero_le _, Nat.zero_le _⟩) hS (fun q _ h => hFc q h) hFc (fun r u t H1 locs ht hvm hw hB hz1 hk1 hS => ?_)
  obtain ⟨u_1, u_2, u_3, u_4⟩ := u
  obtain ⟨hP1, hD1⟩ := hB
  rw [ht] at hP1
  have hw_5 := hw
  have hw_5 : r = cn_all (lk_cl v n) v := hw_5
  subst hw_5
  obtain ⟨hP, hD⟩ := va_join (wr := []) (w1 := [((mm 0), .inr (5, [.ref (mm 1), .ref (mm 2), .ref (mm 3), .ref (mm 4), .int kp, .ref (mm 5), .int ty, .int 0, .int at0, .int fa, .ref (mm 6), .int ts, .ref (mm 7), .ref (mm 8), .ref (mm 9), .int u_1])), ((mm 1), .inl (cI, 12, .inl xm_mk)), ((mm 2), .inl (cI, 80, .inl v)), ((mm 7), .inl (cI, 96, .inl u_2)), ((mm 8), .inl (cI, 96, .inl u_3)), ((mm 9), .inl (cI, 6, .inl u_4))]) hP hD [0, 1, 2, 3, 4, 5] [] rfl rfl (by decide) (by decide) hk1 hFc hP1 hD1
  generalize H1 = H at hP hS ⊢
  have hP : va_P (dC, dI) vwCl [((mm 0), .inr (5, [.ref (mm 1), .ref (mm 2), .ref (mm 3), .ref (mm 4), .int kp, .ref (mm 5), .int ty, .int 0, .int at0, .int fa, .ref (mm 6), .int ts, .ref (mm 7), .ref (mm 8), .ref (mm 9), .int u_1])), ((mm 1), .inl (cI, 12, .inl xm_mk)), ((mm 2), .inl (cI, 80, .inl v)), ((mm 7), .inl (cI, 96, .inl u_2)), ((mm 8), .inl (cI, 96, .inl u_3)), ((mm 9), .inl (cI, 6, .inl u_4))] H := hP
  have hD : va_D A [((mm 0), .inr (5, [.ref (mm 1), .ref (mm 2), .ref (mm 3), .ref (mm 4), .int kp, .ref (mm 5), .int ty, .int 0, .int at0, .int fa, .ref (mm 6), .int ts, .ref (mm 7), .ref (mm 8), .ref (mm 9), .int u_1])), ((mm 1), .inl (cI, 12, .inl xm_mk)), ((mm 2), .inl (cI, 80, .inl v)), ((mm 7), .inl (cI, 96, .inl u_2)), ((mm 8), .inl (cI, 96, .inl u_3)), ((mm 9), .inl (cI, 6, .inl u_4))] := hD
  have hP9 : va_P (dC, dI) vwCl [((mm 0), .inr (5, [.ref (mm 1), .ref (mm 2), .ref (mm 3), .ref (mm 4), .int kp, .ref (mm 5), .int ty, .int 0, .int at0, .int fa, .ref (mm 6), .int ts, .ref (mm 7), .ref (mm 8), .ref (mm 9), .int u_1])), ((mm 1), .inl (cI, 12, .inl xm_mk)), ((mm 2), .inl (cI, 80, .inl v)), ((mm 7), .inl (cI, 96, .inl u_2)), ((mm 8), .inl (cI, 96, .inl u_3)), ((mm 9), .inl (cI, 6, .inl u_4))] H := hP
  have hD9 : va_D A [((mm 0), .inr (5, [.ref (mm 1), .ref (mm 2), .ref (mm 3), .ref (mm 4), .int kp, .ref (mm 5), .int ty, .int 0, .int at0, .int fa, .ref (mm 6), .int ts, .ref (mm 7), .ref (mm 8), .ref (mm 9), .int u_1])), ((mm 1), .inl (cI, 12, .inl xm_mk)), ((mm 2), .inl (cI, 80, .inl v)), ((mm 7), .inl (cI, 96, .inl u_2)), ((mm 8), .inl (cI, 96, .inl u_3)), ((mm 9), .inl (cI, 6, .inl u_4))] := hD
  exact W.iret (v := cn_all (lk_cl v n) v) hx hb hr (fun t ht hW => ⟨⟨cn_all (lk_cl v n) v, (0, u_1, u_2, u_3, u_4), rfl, ⟨rfl, rfl⟩, by rw [ht]; exact hP9, hD9⟩, hS.F ht⟩) hS.2.2 dX5_numberShown_9

set_option maxHeartbeats 4000000 in
set_option maxRecDepth 100000 in
theorem c_X5_evenness (l : Launch) (dC : Nat → ClassId) (dI : Nat → Nat → Nat) (cI cS cJ : ClassId) (tt : Nat → Nat) (sz : Nat) (mm : Nat → Nat) (kp : Int32) (ty : Int32) (th : Int32) (at0 : Int32) (fa : Int32) (ts : Int32) (fr : Int32) (v : Nat → Int32) (ow : Nat → Int32) (li : Nat → Int32) (cr : Nat → Int32) (n : Nat) : Met l yX5_evenness wsX5_evenness ({ frames := 4, cells := 0, slots := 0, locals := 92 } : Room) (va_Pc [.ref (mm 0)] (xm_M (dC, dI) cI cS cJ tt [((mm 0), .inr (5, [.ref (mm 1), .ref (mm 2), .ref (mm 3), .ref (mm 4), .int kp, .ref (mm 5), .int ty, .int th, .int at0, .int fa, .ref (mm 6), .int ts, .ref (mm 7), .ref (mm 8), .ref (mm 9), .int fr])), ((mm 2), .inl (cI, 80, .inl v)), ((mm 7), .inl (cI, 96, .inl ow)), ((mm 8), .inl (cI, 96, .inl li)), ((mm 9), .inl (cI, 6, .inl cr))] sz (vo_f v n))) (va_Qd (fun (r : UInt64) (u : Int32 × Int32 × (Nat → Int32) × (Nat → Int32) × (Nat → Int32)) => r = lk_ev v n ∧ u.1 = 0) (xm_B (dC, dI) (fun (u : Int32 × Int32 × (Nat → Int32) × (Nat → Int32) × (Nat → Int32)) => [((mm 0), .inr (5, [.ref (mm 1), .ref (mm 2), .ref (mm 3), .ref (mm 4), .int kp, .ref (mm 5), .int ty, .int u.1, .int at0, .int fa, .ref (mm 6), .int ts, .ref (mm 7), .ref (mm 8), .ref (mm 9), .int u.2.1])), ((mm 2), .inl (cI, 80, .inl v)), ((mm 7), .inl (cI, 96, .inl u.2.2.1)), ((mm 8), .inl (cI, 96, .inl u.2.2.2.1)), ((mm 9), .inl (cI, 6, .inl u.2.2.2.2))]) (va_A [((mm 0), .inr (5, [.ref (mm 1), .ref (mm 2), .ref (mm 3), .ref (mm 4), .int kp, .ref (mm 5), .int ty, .int th, .int at0, .int fa, .ref (mm 6), .int ts, .ref (mm 7), .ref (mm 8), .ref (mm 9), .int fr])), ((mm 2), .inl (cI, 80, .inl v)), ((mm 7), .inl (cI, 96, .inl ow)), ((mm 8), .inl (cI, 96, .inl li)), ((mm 9), .inl (cI, 6, .inl cr))] sz)) (va_A [((mm 0), .inr (5, [.ref (mm 1), .ref (mm 2), .ref (mm 3), .ref (mm 4), .int kp, .ref (mm 5), .int ty, .int th, .int at0, .int fa, .ref (mm 6), .int ts, .ref (mm 7), .ref (mm 8), .ref (mm 9), .int fr])), ((mm 2), .inl (cI, 80, .inl v)), ((mm 7), .inl (cI, 96, .inl ow)), ((mm 8), .inl (cI, 96, .inl li)), ((mm 9), .inl (cI, 6, .inl cr))] sz)) 0 0 (va_A [((mm 0), .inr (5, [.ref (mm 1), .ref (mm 2), .ref (mm 3), .ref (mm 4), .int kp, .ref (mm 5), .int ty, .int th, .int at0, .int fa, .ref (mm 6), .int ts, .ref (mm 7), .ref (mm 8), .ref (mm 9), .int fr])), ((mm 2), .inl (cI, 80, .inl v)), ((mm 7), .inl (cI, 96, .inl ow)), ((mm 8), .inl (cI, 96, .inl li)), ((mm 9), .inl (cI, 6, .inl cr))] sz) := by
  refine Met.ofW (cc := cX5_evenness) (maxL := 1) (ret := (some .double)) (by decide) rfl ?_
  intro p e s m args below meth c s₁ B hml hv
  obtain ⟨rfl, hsz, hP, hE, hD0, hpre⟩ := hv
  have hx := B.exec
  have hb := B.bytes
  have hr := B.returns
  have hts := atoms_spec (ws := wsX5_evenness) B.pre
  have hown : s.vm.findClass RX5 = some m.cls := findClass_of_methodNamed B.named
  have hlocks := B.notSynchronized
  have hK := hE.1
  subst hsz
  have hD := hD0.self (sz := s.heap.size)
  generalize hAe : va_A [((mm 0), .inr (5, [.ref (mm 1), .ref (mm 2), .ref (mm 3), .ref (mm 4), .int kp, .ref (mm 5), .int ty, .int th, .int at0, .int fa, .ref (mm 6), .int ts, .ref (mm 7), .ref (mm 8), .ref (mm 9), .int fr])), ((mm 2), .inl (cI, 80, .inl v)), ((mm 7), .inl (cI, 96, .inl ow)), ((mm 8), .inl (cI, 96, .inl li)), ((mm 9), .inl (cI, 6, .inl cr))] s.heap.size = A at hD hE ⊢
  have hA : ∀ q : Nat, s.heap.size ≤ q → A q := fun q h => by rw [← hAe]; exact Or.inr h
  have hS : va_S A s.heap s.heap [] := va_S.rf
  have hP : va_P (dC, dI) vwCl [((mm 0), .inr (5, [.ref (mm 1), .ref (mm 2), .ref (mm 3), .ref (mm 4), .int kp, .ref (mm 5), .int ty, .int th, .int at0, .int fa, .ref (mm 6), .int ts, .ref (mm 7), .ref (mm 8), .ref (mm 9), .int fr])), ((mm 2), .inl (cI, 80, .inl v)), ((mm 7), .inl (cI, 96, .inl ow)), ((mm 8), .inl (cI, 96, .inl li)), ((mm 9), .inl (cI, 6, .inl cr))] s.heap := hP
  have hin5 : ∀ w ∈ u_ws RX5 TX5 16, w ∈ wsX5_evenness := by decide +kernel
  have hl := lv_entry [.ref (mm 0)] (n := 1) (Nat.le_of_ble_eq_true rfl)
  rw [lg_entry_eq]
  generalize (lg_sl [.ref (mm 0)] ++ List.replicate (1 - (lg_sl [.ref (mm 0)]).length) Slot.unset).toArray = lz at hl ⊢
  have hl : lv_has lz 1 [(0, .ref (mm 0))] := hl
  refine lv_aload_n hx hb dX5_evenness_0 rfl (lv_at hl 0 rfl) ?_
  refine lv_iconst (v := 0) hx hb dX5_evenness_1 (by decide) ?_
  refine va_put (D := (dC, dI)) (ci := 5) (v := .int 0) (ty := .int) (C := RX5) (T := TX5) (N := 16) hx hb hts hin5 tyX5 tyX5_ok nmX5 hown hK hP hD hS 0 rfl rfl 7 (by decide) (hts (.fieldLink RX5 37 "TurnDigitsModel" "thrown" "I") (by decide +kernel)) (fun _ h9 => h9) rfl (by decide +kernel) rfl rfl (Nat.le_of_ble_eq_true rfl) dX5_evenness_2 (fun H locs hP hD hS => ?_)
  have hP : va_P (dC, dI) vwCl [((mm 0), .inr (5, [.ref (mm 1), .ref (mm 2), .ref (mm 3), .ref (mm 4), .int kp, .ref (mm 5), .int ty, .int 0, .int at0, .int fa, .ref (mm 6), .int ts, .ref (mm 7), .ref (mm 8), .ref (mm 9), .int fr])), ((mm 2), .inl (cI, 80, .inl v)), ((mm 7), .inl (cI, 96, .inl ow)), ((mm 8), .inl (cI, 96, .inl li)), ((mm 9), .inl (cI, 6, .inl cr))] H := hP
  have hD : va_D A [((mm 0), .inr (5, [.ref (mm 1), .ref (mm 2), .ref (mm 3), .ref (mm 4), .int kp, .ref (mm 5), .int ty, .int 0, .int at0, .int fa, .ref (mm 6), .int ts, .ref (mm 7), .ref (mm 8), .ref (mm 9), .int fr])), ((mm 2), .inl (cI, 80, .inl v)), ((mm 7), .inl (cI, 96, .inl ow)), ((mm 8), .inl (cI, 96, .inl li)), ((mm 9), .inl (cI, 6, .inl cr))] := hD
  refine lv_aload_n hx hb dX5_evenness_5 rfl (lv_at hl 0 rfl) ?_
  have hPc := hP.sub (ws' := [((mm 0), .inr (5, [.ref (mm 1), .ref (mm 2), .ref (mm 3), .ref (mm 4), .int kp, .ref (mm 5), .int ty, .int 0, .int at0, .int fa, .ref (mm 6), .int ts, .ref (mm 7), .ref (mm 8), .ref (mm 9), .int fr])), ((mm 2), .inl (cI, 80, .inl v)), ((mm 7), .inl (cI, 96, .inl ow)), ((mm 8), .inl (cI, 96, .inl li)), ((mm 9), .inl (cI, 6, .inl cr))]) [0, 1, 2, 3, 4] rfl
  have hDc := hD.sub (ws' := [((mm 0), .inr (5, [.ref (mm 1), .ref (mm 2), .ref (mm 3), .ref (mm 4), .int kp, .ref (mm 5), .int ty, .int 0, .int at0, .int fa, .ref (mm 6), .int ts, .ref (mm 7), .ref (mm 8), .ref (mm 9), .int fr])), ((mm 2), .inl (cI, 80, .inl v)), ((mm 7), .inl (cI, 96, .inl ow)), ((mm 8), .inl (cI, 96, .inl li)), ((mm 9), .inl (cI, 6, .inl cr))]) [0, 1, 2, 3, 4] (by decide) rfl
  have hFc := va_free (wc := [((mm 0), .inr (5, [.ref (mm 1), .ref (mm 2), .ref (mm 3), .ref (mm 4), .int kp, .ref (mm 5), .int ty, .int 0, .int at0, .int fa, .ref (mm 6), .int ts, .ref (mm 7), .ref (mm 8), .ref (mm 9), .int fr])), ((mm 2), .inl (cI, 80, .inl v)), ((mm 7), .inl (cI, 96, .inl ow)), ((mm 8), .inl (cI, 96, .inl li)), ((mm 9), .inl (cI, 6, .inl cr))]) hD hS hA [0, 1, 2, 3, 4] rfl
  refine va_calld (va_runV (As := []) (rest := []) ⟨hx, hb, hml, hown, hts⟩ (c_X5_even l dC dI cI cS cJ tt H.size mm kp ty 0 at0 fa ts fr v ow li cr n) (cwV 0 hts gX5_evenness_X5_even rfl rfl rfl (by decide +kernel) ⟨Nat.le_of_ble_eq_true rfl, Nat.le_of_ble_eq_true rfl⟩) ⟨xm_Mblind, va_recv hK hPc (ci := 5) (q0 := 0) rfl rfl, fun U hU hW => ⟨rfl, by rw [hU], by rw [hU]; exact hPc, hE.go hS hFc hU hW, hDc.weaken (fun _ _ _ _ => trivial), hpre⟩⟩ rfl rfl hl.1 rfl (lv_room (Nat.le_of_ble_eq_true rfl)) dX5_evenness_6 ⟨Nat.zero_le _, Nat.zero_le _⟩) hS (fun q _ h => hFc q h) hFc (fun r u t H1 locs ht hvm hw hB hz1 hk1 hS => ?_)
  obtain ⟨u_1, u_2, u_3, u_4⟩ := u
  obtain ⟨hP1, hD1⟩ := hB
  rw [ht] at hP1
  have hw_5 := hw
  have hw_5 : r = lk_ev v n := hw_5
  subst hw_5
  obtain ⟨hP, hD⟩ := va_join (wr := []) (w1 := [((mm 0), .inr (5, [.ref (mm 1), .ref (mm 2), .ref (mm 3), .ref (mm 4), .int kp, .ref (mm 5), .int ty, .int 0, .int at0, .int fa, .ref (mm 6), .int ts, .ref (mm 7), .ref (mm 8), .ref (mm 9), .int u_1])), ((mm 2), .inl (cI, 80, .inl v)), ((mm 7), .inl (cI, 96, .inl u_2)), ((mm 8), .inl (cI, 96, .inl u_3)), ((mm 9), .inl (cI, 6, .inl u_4))]) hP hD [0, 1, 2, 3, 4] [] rfl rfl (by decide) (by decide) hk1 hFc hP1 hD1
  generalize H1 = H at hP hS ⊢
  have hP : va_P (dC, dI) vwCl [((mm 0), .inr (5, [.ref (mm 1), .ref (mm 2), .ref (mm 3), .ref (mm 4), .int kp, .ref (mm 5), .int ty, .int 0, .int at0, .int fa, .ref (mm 6), .int ts, .ref (mm 7), .ref (mm 8), .ref (mm 9), .int u_1])), ((mm 2), .inl (cI, 80, .inl v)), ((mm 7), .inl (cI, 96, .inl u_2)), ((mm 8), .inl (cI, 96, .inl u_3)), ((mm 9), .inl (cI, 6, .inl u_4))] H := hP
  have hD : va_D A [((mm 0), .inr (5, [.ref (mm 1), .ref (mm 2), .ref (mm 3), .ref (mm 4), .int kp, .ref (mm 5), .int ty, .int 0, .int at0, .int fa, .ref (mm 6), .int ts, .ref (mm 7), .ref (mm 8), .ref (mm 9), .int u_1])), ((mm 2), .inl (cI, 80, .inl v)), ((mm 7), .inl (cI, 96, .inl u_2)), ((mm 8), .inl (cI, 96, .inl u_3)), ((mm 9), .inl (cI, 6, .inl u_4))] := hD
  have hP9 : va_P (dC, dI) vwCl [((mm 0), .inr (5, [.ref (mm 1), .ref (mm 2), .ref (mm 3), .ref (mm 4), .int kp, .ref (mm 5), .int ty, .int 0, .int at0, .int fa, .ref (mm 6), .int ts, .ref (mm 7), .ref (mm 8), .ref (mm 9), .int u_1])), ((mm 2), .inl (cI, 80, .inl v)), ((mm 7), .inl (cI, 96, .inl u_2)), ((mm 8), .inl (cI, 96, .inl u_3)), ((mm 9), .inl (cI, 6, .inl u_4))] H := hP
  have hD9 : va_D A [((mm 0), .inr (5, [.ref (mm 1), .ref (mm 2), .ref (mm 3), .ref (mm 4), .int kp, .ref (mm 5), .int ty, .int 0, .int at0, .int fa, .ref (mm 6), .int ts, .ref (mm 7), .ref (mm 8), .ref (mm 9), .int u_1])), ((mm 2), .inl (cI, 80, .inl v)), ((mm 7), .inl (cI, 96, .inl u_2)), ((mm 8), .inl (cI, 96, .inl u_3)), ((mm 9), .inl (cI, 6, .inl u_4))] := hD
  exact W.dret (v := lk_ev v n) hx hb hr (fun t ht hW => ⟨⟨lk_ev v n, (0, u_1, u_2, u_3, u_4), rfl, ⟨rfl, rfl⟩, by rw [ht]; exact hP9, hD9⟩, hS.F ht⟩) hS.2.2 dX5_evenness_9

