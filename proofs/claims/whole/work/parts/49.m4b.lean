set_option maxHeartbeats 4000000 in
set_option maxRecDepth 100000 in
theorem c_X5_show (l : Launch) (dC : Nat → ClassId) (dI : Nat → Nat → Nat) (cI cS cJ : ClassId) (tt : Nat → Nat) (sz : Nat) (mm : Nat → Nat) (ty : Int32) (th : Int32) (at0 : Int32) (fa : Int32) (ts : Int32) (fr : Int32) (p0 : Int32) (p1 : Int32) (z : Nat) (v : Nat → Int32) (pv : Nat → Int32) : Met l yX5_show wsX5_show ({ frames := 2, cells := 0, slots := 0, locals := 42 } : Room) (va_Pc [.ref (mm 0), .int p0, .int p1] (xm_M (dC, dI) cI cS cJ tt [((mm 0), .inr (5, [.ref (mm 1), .ref (mm 2), .ref (mm 3), .ref (mm 4), .int (nI z), .ref (mm 5), .int ty, .int th, .int at0, .int fa, .ref (mm 6), .int ts, .ref (mm 7), .ref (mm 8), .ref (mm 9), .int fr])), ((mm 2), .inl (cI, 80, .inl v)), ((mm 4), .inl (cI, 480, .inl pv))] sz (z ≤ 6))) (va_Qi (fun (r : Int32) (u : Int32 × Int32 × (Nat → Int32) × (Nat → Int32)) => r = (if xc_sh p0 p1 = 0 then v (8 + p0.toNatClampNeg) else 0) ∧ u.1 = xc_sh p0 p1 ∧ u.2.1 = (if xc_sh p0 p1 = 0 then (nI (if z = 6 then 6 else z + 1)) else (nI z)) ∧ u.2.2.1 = (if xc_sh p0 p1 = 0 then (upd v (8 + p0.toNatClampNeg) p1) else v) ∧ u.2.2.2 = (if xc_sh p0 p1 = 0 then (mp_sv pv z v) else pv)) (xm_B (dC, dI) (fun (u : Int32 × Int32 × (Nat → Int32) × (Nat → Int32)) => [((mm 0), .inr (5, [.ref (mm 1), .ref (mm 2), .ref (mm 3), .ref (mm 4), .int u.2.1, .ref (mm 5), .int ty, .int u.1, .int at0, .int fa, .ref (mm 6), .int ts, .ref (mm 7), .ref (mm 8), .ref (mm 9), .int fr])), ((mm 2), .inl (cI, 80, .inl u.2.2.1)), ((mm 4), .inl (cI, 480, .inl u.2.2.2))]) (va_A [((mm 0), .inr (5, [.ref (mm 1), .ref (mm 2), .ref (mm 3), .ref (mm 4), .int (nI z), .ref (mm 5), .int ty, .int th, .int at0, .int fa, .ref (mm 6), .int ts, .ref (mm 7), .ref (mm 8), .ref (mm 9), .int fr])), ((mm 2), .inl (cI, 80, .inl v)), ((mm 4), .inl (cI, 480, .inl pv))] sz)) (va_A [((mm 0), .inr (5, [.ref (mm 1), .ref (mm 2), .ref (mm 3), .ref (mm 4), .int (nI z), .ref (mm 5), .int ty, .int th, .int at0, .int fa, .ref (mm 6), .int ts, .ref (mm 7), .ref (mm 8), .ref (mm 9), .int fr])), ((mm 2), .inl (cI, 80, .inl v)), ((mm 4), .inl (cI, 480, .inl pv))] sz)) 0 0 (va_A [((mm 0), .inr (5, [.ref (mm 1), .ref (mm 2), .ref (mm 3), .ref (mm 4), .int (nI z), .ref (mm 5), .int ty, .int th, .int at0, .int fa, .ref (mm 6), .int ts, .ref (mm 7), .ref (mm 8), .ref (mm 9), .int fr])), ((mm 2), .inl (cI, 80, .inl v)), ((mm 4), .inl (cI, 480, .inl pv))] sz) := by
  refine Met.ofW (cc := cX5_show) (maxL := 3) (ret := (some .int)) (by decide) rfl ?_
  intro p e s m args below meth c s₁ B hml hv
  obtain ⟨rfl, hsz, hP, hE, hD0, hpre⟩ := hv
  have hx := B.exec
  have hb := B.bytes
  have hr := B.returns
  have hts := atoms_spec (ws := wsX5_show) B.pre
  have hown : s.vm.findClass RX5 = some m.cls := findClass_of_methodNamed B.named
  have hlocks := B.notSynchronized
  have hK := hE.1
  subst hsz
  have hD := hD0.self (sz := s.heap.size)
  generalize hAe : va_A [((mm 0), .inr (5, [.ref (mm 1), .ref (mm 2), .ref (mm 3), .ref (mm 4), .int (nI z), .ref (mm 5), .int ty, .int th, .int at0, .int fa, .ref (mm 6), .int ts, .ref (mm 7), .ref (mm 8), .ref (mm 9), .int fr])), ((mm 2), .inl (cI, 80, .inl v)), ((mm 4), .inl (cI, 480, .inl pv))] s.heap.size = A at hD hE ⊢
  have hA : ∀ q : Nat, s.heap.size ≤ q → A q := fun q h => by rw [← hAe]; exact Or.inr h
  have hS : va_S A s.heap s.heap [] := va_S.rf
  have hP : va_P (dC, dI) vwCl [((mm 0), .inr (5, [.ref (mm 1), .ref (mm 2), .ref (mm 3), .ref (mm 4), .int (nI z), .ref (mm 5), .int ty, .int th, .int at0, .int fa, .ref (mm 6), .int ts, .ref (mm 7), .ref (mm 8), .ref (mm 9), .int fr])), ((mm 2), .inl (cI, 80, .inl v)), ((mm 4), .inl (cI, 480, .inl pv))] s.heap := hP
  have hin5 : ∀ w ∈ u_ws RX5 TX5 16, w ∈ wsX5_show := by decide +kernel
  have hl := lv_entry [.ref (mm 0), .int p0, .int p1] (n := 3) (Nat.le_of_ble_eq_true rfl)
  rw [lg_entry_eq]
  generalize (lg_sl [.ref (mm 0), .int p0, .int p1] ++ List.replicate (3 - (lg_sl [.ref (mm 0), .int p0, .int p1]).length) Slot.unset).toArray = lz at hl ⊢
  have hl : lv_has lz 3 [(0, .ref (mm 0)), (1, .int p0), (2, .int p1)] := hl
  refine lv_aload_n hx hb dX5_show_0 rfl (lv_at hl 0 rfl) ?_
  refine lv_iconst (v := 0) hx hb dX5_show_1 (by decide) ?_
  refine va_put (D := (dC, dI)) (ci := 5) (v := .int 0) (ty := .int) (C := RX5) (T := TX5) (N := 16) hx hb hts hin5 tyX5 tyX5_ok nmX5 hown hK hP hD hS 0 rfl rfl 7 (by decide) (hts (.fieldLink RX5 37 "TurnDigitsModel" "thrown" "I") (by decide +kernel)) (fun _ h9 => h9) rfl (by decide +kernel) rfl rfl (Nat.le_of_ble_eq_true rfl) dX5_show_2 (fun H locs hP hD hS => ?_)
  have hP : va_P (dC, dI) vwCl [((mm 0), .inr (5, [.ref (mm 1), .ref (mm 2), .ref (mm 3), .ref (mm 4), .int (nI z), .ref (mm 5), .int ty, .int 0, .int at0, .int fa, .ref (mm 6), .int ts, .ref (mm 7), .ref (mm 8), .ref (mm 9), .int fr])), ((mm 2), .inl (cI, 80, .inl v)), ((mm 4), .inl (cI, 480, .inl pv))] H := hP
  have hD : va_D A [((mm 0), .inr (5, [.ref (mm 1), .ref (mm 2), .ref (mm 3), .ref (mm 4), .int (nI z), .ref (mm 5), .int ty, .int 0, .int at0, .int fa, .ref (mm 6), .int ts, .ref (mm 7), .ref (mm 8), .ref (mm 9), .int fr])), ((mm 2), .inl (cI, 80, .inl v)), ((mm 4), .inl (cI, 480, .inl pv))] := hD
  refine lv_iload_n hx hb dX5_show_5 rfl (lv_at hl 1 rfl) ?_
  have hPc := hP.sub (ws' := []) [] rfl
  refine W.callV ((va_runS (As := [.int p0]) (rest := []) ⟨hx, hb, hml, hown, hts⟩ (c_X5_isDigit l dC dI cI cS cJ tt p0) (va_cwS 1 hts gX5_show_X5_isDigit rfl rfl rfl (by decide +kernel) ⟨Nat.le_of_ble_eq_true rfl, Nat.le_of_ble_eq_true rfl⟩) ⟨xm_Rblind, fun U hU hW => ⟨rfl, by rw [hU]; exact hPc, hE.go hS (fun _ q => q.elim) hU hW, trivial⟩⟩ rfl rfl hl.1 rfl (lv_room (Nat.le_of_ble_eq_true rfl)) dX5_show_6 ⟨Nat.zero_le _, Nat.zero_le _⟩).run) ?_
  refine W.eq (g2 := F0 m 9 lz (.int (if xt_dg 6 p0 = 0 then 1 else 0) :: [])) rfl ?_
  refine lv_if_ne (tgt := 18) hx hb dX5_show_9 (by decide) (fun q9 => ?_) (fun q9 => ?_)
  · have q9b : xt_dg 6 p0 = 0 := xm_bT q9
    refine lv_iload_n hx hb dX5_show_18 rfl (lv_at hl 2 rfl) ?_
    have hPc := hP.sub (ws' := []) [] rfl
    refine W.callV ((va_runS (As := [.int p1]) (rest := []) ⟨hx, hb, hml, hown, hts⟩ (c_X5_isSign l dC dI cI cS cJ tt p1) (va_cwS 1 hts gX5_show_X5_isSign rfl rfl rfl (by decide +kernel) ⟨Nat.le_of_ble_eq_true rfl, Nat.le_of_ble_eq_true rfl⟩) ⟨xm_Rblind, fun U hU hW => ⟨rfl, by rw [hU]; exact hPc, hE.go hS (fun _ q => q.elim) hU hW, trivial⟩⟩ rfl rfl hl.1 rfl (lv_room (Nat.le_of_ble_eq_true rfl)) dX5_show_19 ⟨Nat.zero_le _, Nat.zero_le _⟩).run) ?_
    refine W.eq (g2 := F0 m 22 lz (.int (if xt_rg p1 0 11 = 0 then 1 else 0) :: [])) rfl ?_
    refine lv_if_ne (tgt := 31) hx hb dX5_show_22 (by decide) (fun q22 => ?_) (fun q22 => ?_)
    · have q22b : xt_rg p1 0 11 = 0 := xm_bT q22
      refine lv_aload_n hx hb dX5_show_31 rfl (lv_at hl 0 rfl) ?_
      have hPc := hP.sub (ws' := [((mm 0), .inr (5, [.ref (mm 1), .ref (mm 2), .ref (mm 3), .ref (mm 4), .int (nI z), .ref (mm 5), .int ty, .int 0, .int at0, .int fa, .ref (mm 6), .int ts, .ref (mm 7), .ref (mm 8), .ref (mm 9), .int fr])), ((mm 2), .inl (cI, 80, .inl v)), ((mm 4), .inl (cI, 480, .inl pv))]) [0, 1, 2] rfl
      have hDc := hD.sub (ws' := [((mm 0), .inr (5, [.ref (mm 1), .ref (mm 2), .ref (mm 3), .ref (mm 4), .int (nI z), .ref (mm 5), .int ty, .int 0, .int at0, .int fa, .ref (mm 6), .int ts, .ref (mm 7), .ref (mm 8), .ref (mm 9), .int fr])), ((mm 2), .inl (cI, 80, .inl v)), ((mm 4), .inl (cI, 480, .inl pv))]) [0, 1, 2] (by decide) rfl
      have hFc := va_free (wc := [((mm 0), .inr (5, [.ref (mm 1), .ref (mm 2), .ref (mm 3), .ref (mm 4), .int (nI z), .ref (mm 5), .int ty, .int 0, .int at0, .int fa, .ref (mm 6), .int ts, .ref (mm 7), .ref (mm 8), .ref (mm 9), .int fr])), ((mm 2), .inl (cI, 80, .inl v)), ((mm 4), .inl (cI, 480, .inl pv))]) hD hS hA [0, 1, 2] rfl
      refine va_callv (va_runV (As := []) (rest := []) ⟨hx, hb, hml, hown, hts⟩ (c_X5_saves l dC dI cI cS cJ tt H.size mm ty 0 at0 fa ts fr z v pv) (cwV 0 hts gX5_show_X5_saves rfl rfl rfl (by decide +kernel) ⟨Nat.le_of_ble_eq_true rfl, Nat.le_of_ble_eq_true rfl⟩) ⟨xm_Mblind, va_recv hK hPc (ci := 5) (q0 := 0) rfl rfl, fun U hU hW => ⟨rfl, by rw [hU], by rw [hU]; exact hPc, hE.go hS hFc hU hW, hDc.weaken (fun _ _ _ _ => trivial), hpre⟩⟩ rfl rfl hl.1 rfl (lv_room (Nat.le_of_ble_eq_true rfl)) dX5_show_32 ⟨Nat.zero_le _, Nat.zero_le _⟩) hS (fun q _ h => hFc q h) hFc (fun u t H1 locs ht hvm hw hB hz1 hk1 hS => ?_)
      obtain ⟨u_1, u_2⟩ := u
      obtain ⟨hP1, hD1⟩ := hB
      rw [ht] at hP1
      obtain ⟨hw_3, hw_4⟩ := hw
      have hw_3 : u_1 = nI (if z = 6 then 6 else z + 1) := hw_3
      subst hw_3
      have hw_4 : u_2 = mp_sv pv z v := hw_4
      subst hw_4
      obtain ⟨hP, hD⟩ := va_join (wr := []) (w1 := [((mm 0), .inr (5, [.ref (mm 1), .ref (mm 2), .ref (mm 3), .ref (mm 4), .int (nI (if z = 6 then 6 else z + 1)), .ref (mm 5), .int ty, .int 0, .int at0, .int fa, .ref (mm 6), .int ts, .ref (mm 7), .ref (mm 8), .ref (mm 9), .int fr])), ((mm 2), .inl (cI, 80, .inl v)), ((mm 4), .inl (cI, 480, .inl (mp_sv pv z v)))]) hP hD [0, 1, 2] [] rfl rfl (by decide) (by decide) hk1 hFc hP1 hD1
      generalize H1 = H at hP hS ⊢
      have hP : va_P (dC, dI) vwCl [((mm 0), .inr (5, [.ref (mm 1), .ref (mm 2), .ref (mm 3), .ref (mm 4), .int (nI (if z = 6 then 6 else z + 1)), .ref (mm 5), .int ty, .int 0, .int at0, .int fa, .ref (mm 6), .int ts, .ref (mm 7), .ref (mm 8), .ref (mm 9), .int fr])), ((mm 2), .inl (cI, 80, .inl v)), ((mm 4), .inl (cI, 480, .inl (mp_sv pv z v)))] H := hP
      have hD : va_D A [((mm 0), .inr (5, [.ref (mm 1), .ref (mm 2), .ref (mm 3), .ref (mm 4), .int (nI (if z = 6 then 6 else z + 1)), .ref (mm 5), .int ty, .int 0, .int at0, .int fa, .ref (mm 6), .int ts, .ref (mm 7), .ref (mm 8), .ref (mm 9), .int fr])), ((mm 2), .inl (cI, 80, .inl v)), ((mm 4), .inl (cI, 480, .inl (mp_sv pv z v)))] := hD
      refine lv_aload_n hx hb dX5_show_35 rfl (lv_at hl 0 rfl) ?_
      refine lv_bipush (v := 8) hx hb dX5_show_36 (by decide) ?_
      refine lv_iload_n hx hb dX5_show_38 rfl (lv_at hl 1 rfl) ?_
      refine xm_topi (y := (nI p0.toNatClampNeg)) (xt_dg_ok (n := 6) (by decide) q9b).1 ?_
      refine lv_iadd hx hb dX5_show_39 ?_
      refine xm_topi (y := nI (8 + p0.toNatClampNeg)) (nI_add 8 p0.toNatClampNeg) ?_
      refine lv_iload_n hx hb dX5_show_40 rfl (lv_at hl 2 rfl) ?_
      have hPc := hP.sub (ws' := [((mm 0), .inr (5, [.ref (mm 1), .ref (mm 2), .ref (mm 3), .ref (mm 4), .int (nI (if z = 6 then 6 else z + 1)), .ref (mm 5), .int ty, .int 0, .int at0, .int fa, .ref (mm 6), .int ts, .ref (mm 7), .ref (mm 8), .ref (mm 9), .int fr])), ((mm 2), .inl (cI, 80, .inl v))]) [0, 1] rfl
      have hDc := hD.sub (ws' := [((mm 0), .inr (5, [.ref (mm 1), .ref (mm 2), .ref (mm 3), .ref (mm 4), .int (nI (if z = 6 then 6 else z + 1)), .ref (mm 5), .int ty, .int 0, .int at0, .int fa, .ref (mm 6), .int ts, .ref (mm 7), .ref (mm 8), .ref (mm 9), .int fr])), ((mm 2), .inl (cI, 80, .inl v))]) [0, 1] (by decide) rfl
      have hFc := va_free (wc := [((mm 0), .inr (5, [.ref (mm 1), .ref (mm 2), .ref (mm 3), .ref (mm 4), .int (nI (if z = 6 then 6 else z + 1)), .ref (mm 5), .int ty, .int 0, .int at0, .int fa, .ref (mm 6), .int ts, .ref (mm 7), .ref (mm 8), .ref (mm 9), .int fr])), ((mm 2), .inl (cI, 80, .inl v))]) hD hS hA [0, 1] rfl
      refine va_calli (va_runV (As := [.int (nI (8 + p0.toNatClampNeg)), .int p1]) (rest := []) ⟨hx, hb, hml, hown, hts⟩ (c_X5_changes l dC dI cI cS cJ tt H.size mm (nI (if z = 6 then 6 else z + 1)) ty 0 at0 fa ts fr v (8 + p0.toNatClampNeg) p1) (cwV 2 hts gX5_show_X5_changes rfl rfl rfl (by decide +kernel) ⟨Nat.le_of_ble_eq_true rfl, Nat.le_of_ble_eq_true rfl⟩) ⟨xm_Mblind, va_recv hK hPc (ci := 5) (q0 := 0) rfl rfl, fun U hU hW => ⟨rfl, by rw [hU], by rw [hU]; exact hPc, hE.go hS hFc hU hW, hDc.weaken (fun _ _ _ _ => trivial), (by have := (xt_dg_ok (n := 6) (by decide) q9b).2; omega)⟩⟩ rfl rfl hl.1 rfl (lv_room (Nat.le_of_ble_eq_true rfl)) dX5_show_41 ⟨Nat.zero_le _, Nat.zero_le _⟩) hS (fun q _ h => hFc q h) hFc (fun r u t H1 locs ht hvm hw hB hz1 hk1 hS => ?_)
      obtain ⟨u_5, rfl⟩ : ∃ z, z = u := ⟨_, rfl⟩
      obtain ⟨hP1, hD1⟩ := hB
      rw [ht] at hP1
      obtain ⟨hw_6, hw_7⟩ := hw
      have hw_6 : r = v (8 + p0.toNatClampNeg) := hw_6
      subst hw_6
      have hw_7 : u_5 = upd v (8 + p0.toNatClampNeg) p1 := hw_7
      subst hw_7
      obtain ⟨hP, hD⟩ := va_join (wr := [((mm 4), .inl (cI, 480, .inl (mp_sv pv z v)))]) (w1 := [((mm 0), .inr (5, [.ref (mm 1), .ref (mm 2), .ref (mm 3), .ref (mm 4), .int (nI (if z = 6 then 6 else z + 1)), .ref (mm 5), .int ty, .int 0, .int at0, .int fa, .ref (mm 6), .int ts, .ref (mm 7), .ref (mm 8), .ref (mm 9), .int fr])), ((mm 2), .inl (cI, 80, .inl (upd v (8 + p0.toNatClampNeg) p1)))]) hP hD [0, 1] [2] rfl rfl (by decide) (by decide) hk1 hFc hP1 hD1
      generalize H1 = H at hP hS ⊢
      have hP : va_P (dC, dI) vwCl [((mm 4), .inl (cI, 480, .inl (mp_sv pv z v))), ((mm 0), .inr (5, [.ref (mm 1), .ref (mm 2), .ref (mm 3), .ref (mm 4), .int (nI (if z = 6 then 6 else z + 1)), .ref (mm 5), .int ty, .int 0, .int at0, .int fa, .ref (mm 6), .int ts, .ref (mm 7), .ref (mm 8), .ref (mm 9), .int fr])), ((mm 2), .inl (cI, 80, .inl (upd v (8 + p0.toNatClampNeg) p1)))] H := hP
      have hD : va_D A [((mm 4), .inl (cI, 480, .inl (mp_sv pv z v))), ((mm 0), .inr (5, [.ref (mm 1), .ref (mm 2), .ref (mm 3), .ref (mm 4), .int (nI (if z = 6 then 6 else z + 1)), .ref (mm 5), .int ty, .int 0, .int at0, .int fa, .ref (mm 6), .int ts, .ref (mm 7), .ref (mm 8), .ref (mm 9), .int fr])), ((mm 2), .inl (cI, 80, .inl (upd v (8 + p0.toNatClampNeg) p1)))] := hD
      have hc9 : xc_sh p0 p1 = 0 := by simp only [xc_sh, if_pos q9b, if_pos q22b]
      have hP9 := hP.sub (ws' := [((mm 0), .inr (5, [.ref (mm 1), .ref (mm 2), .ref (mm 3), .ref (mm 4), .int (nI (if z = 6 then 6 else z + 1)), .ref (mm 5), .int ty, .int 0, .int at0, .int fa, .ref (mm 6), .int ts, .ref (mm 7), .ref (mm 8), .ref (mm 9), .int fr])), ((mm 2), .inl (cI, 80, .inl (upd v (8 + p0.toNatClampNeg) p1))), ((mm 4), .inl (cI, 480, .inl (mp_sv pv z v)))]) [1, 2, 0] rfl
      have hD9 := hD.sub (ws' := [((mm 0), .inr (5, [.ref (mm 1), .ref (mm 2), .ref (mm 3), .ref (mm 4), .int (nI (if z = 6 then 6 else z + 1)), .ref (mm 5), .int ty, .int 0, .int at0, .int fa, .ref (mm 6), .int ts, .ref (mm 7), .ref (mm 8), .ref (mm 9), .int fr])), ((mm 2), .inl (cI, 80, .inl (upd v (8 + p0.toNatClampNeg) p1))), ((mm 4), .inl (cI, 480, .inl (mp_sv pv z v)))]) [1, 2, 0] (by decide) rfl
      exact W.iret (v := v (8 + p0.toNatClampNeg)) hx hb hr (fun t ht hW => ⟨⟨v (8 + p0.toNatClampNeg), (0, (nI (if z = 6 then 6 else z + 1)), (upd v (8 + p0.toNatClampNeg) p1), (mp_sv pv z v)), rfl, ⟨(if_pos hc9).symm, (hc9.symm), (if_pos hc9).symm, (if_pos hc9).symm, (if_pos hc9).symm⟩, by rw [ht]; exact hP9, hD9⟩, hS.F ht⟩) hS.2.2 dX5_show_44
    · have q22b : ¬ xt_rg p1 0 11 = 0 := xm_bF q22
      refine lv_aload_n hx hb dX5_show_25 rfl (lv_at hl 0 rfl) ?_
      refine lv_iconst (v := 2) hx hb dX5_show_26 (by decide) ?_
      have hPc := hP.sub (ws' := [((mm 0), .inr (5, [.ref (mm 1), .ref (mm 2), .ref (mm 3), .ref (mm 4), .int (nI z), .ref (mm 5), .int ty, .int 0, .int at0, .int fa, .ref (mm 6), .int ts, .ref (mm 7), .ref (mm 8), .ref (mm 9), .int fr]))]) [0] rfl
      have hDc := hD.sub (ws' := [((mm 0), .inr (5, [.ref (mm 1), .ref (mm 2), .ref (mm 3), .ref (mm 4), .int (nI z), .ref (mm 5), .int ty, .int 0, .int at0, .int fa, .ref (mm 6), .int ts, .ref (mm 7), .ref (mm 8), .ref (mm 9), .int fr]))]) [0] (by decide) rfl
      have hFc := va_free (wc := [((mm 0), .inr (5, [.ref (mm 1), .ref (mm 2), .ref (mm 3), .ref (mm 4), .int (nI z), .ref (mm 5), .int ty, .int 0, .int at0, .int fa, .ref (mm 6), .int ts, .ref (mm 7), .ref (mm 8), .ref (mm 9), .int fr]))]) hD hS hA [0] rfl
      refine va_calli (va_runV (As := [.int 2]) (rest := []) ⟨hx, hb, hml, hown, hts⟩ (c_X5_fails l dC dI cI cS cJ tt H.size mm (nI z) ty 0 at0 fa ts fr 2) (cwV 1 hts gX5_show_X5_fails rfl rfl rfl (by decide +kernel) ⟨Nat.le_of_ble_eq_true rfl, Nat.le_of_ble_eq_true rfl⟩) ⟨xm_Mblind, va_recv hK hPc (ci := 5) (q0 := 0) rfl rfl, fun U hU hW => ⟨rfl, by rw [hU], by rw [hU]; exact hPc, hE.go hS hFc hU hW, hDc.weaken (fun _ _ _ _ => trivial), trivial⟩⟩ rfl rfl hl.1 rfl (lv_room (Nat.le_of_ble_eq_true rfl)) dX5_show_27 ⟨Nat.zero_le _, Nat.zero_le _⟩) hS (fun q _ h => hFc q h) hFc (fun r u t H1 locs ht hvm hw hB hz1 hk1 hS => ?_)
      obtain ⟨u_8, rfl⟩ : ∃ z, z = u := ⟨_, rfl⟩
      obtain ⟨hP1, hD1⟩ := hB
      rw [ht] at hP1
      obtain ⟨hw_9, hw_10⟩ := hw
      have hw_9 : r = 0 := hw_9
      subst hw_9
      have hw_10 : u_8 = 2 := hw_10
      subst hw_10
      obtain ⟨hP, hD⟩ := va_join (wr := [((mm 2), .inl (cI, 80, .inl v)), ((mm 4), .inl (cI, 480, .inl pv))]) (w1 := [((mm 0), .inr (5, [.ref (mm 1), .ref (mm 2), .ref (mm 3), .ref (mm 4), .int (nI z), .ref (mm 5), .int ty, .int 2, .int at0, .int fa, .ref (mm 6), .int ts, .ref (mm 7), .ref (mm 8), .ref (mm 9), .int fr]))]) hP hD [0] [1, 2] rfl rfl (by decide) (by decide) hk1 hFc hP1 hD1
      generalize H1 = H at hP hS ⊢
      have hP : va_P (dC, dI) vwCl [((mm 2), .inl (cI, 80, .inl v)), ((mm 4), .inl (cI, 480, .inl pv)), ((mm 0), .inr (5, [.ref (mm 1), .ref (mm 2), .ref (mm 3), .ref (mm 4), .int (nI z), .ref (mm 5), .int ty, .int 2, .int at0, .int fa, .ref (mm 6), .int ts, .ref (mm 7), .ref (mm 8), .ref (mm 9), .int fr]))] H := hP
      have hD : va_D A [((mm 2), .inl (cI, 80, .inl v)), ((mm 4), .inl (cI, 480, .inl pv)), ((mm 0), .inr (5, [.ref (mm 1), .ref (mm 2), .ref (mm 3), .ref (mm 4), .int (nI z), .ref (mm 5), .int ty, .int 2, .int at0, .int fa, .ref (mm 6), .int ts, .ref (mm 7), .ref (mm 8), .ref (mm 9), .int fr]))] := hD
      have hc9 : xc_sh p0 p1 = 2 := by simp only [xc_sh, if_pos q9b, if_neg q22b]
      have hn9 : ¬ xc_sh p0 p1 = 0 := by rw [hc9]; decide
      have hP9 := hP.sub (ws' := [((mm 0), .inr (5, [.ref (mm 1), .ref (mm 2), .ref (mm 3), .ref (mm 4), .int (nI z), .ref (mm 5), .int ty, .int 2, .int at0, .int fa, .ref (mm 6), .int ts, .ref (mm 7), .ref (mm 8), .ref (mm 9), .int fr])), ((mm 2), .inl (cI, 80, .inl v)), ((mm 4), .inl (cI, 480, .inl pv))]) [2, 0, 1] rfl
      have hD9 := hD.sub (ws' := [((mm 0), .inr (5, [.ref (mm 1), .ref (mm 2), .ref (mm 3), .ref (mm 4), .int (nI z), .ref (mm 5), .int ty, .int 2, .int at0, .int fa, .ref (mm 6), .int ts, .ref (mm 7), .ref (mm 8), .ref (mm 9), .int fr])), ((mm 2), .inl (cI, 80, .inl v)), ((mm 4), .inl (cI, 480, .inl pv))]) [2, 0, 1] (by decide) rfl
      exact W.iret (v := 0) hx hb hr (fun t ht hW => ⟨⟨0, (2, (nI z), v, pv), rfl, ⟨(if_neg hn9).symm, (hc9.symm), (if_neg hn9).symm, (if_neg hn9).symm, (if_neg hn9).symm⟩, by rw [ht]; exact hP9, hD9⟩, hS.F ht⟩) hS.2.2 dX5_show_30
  · have q9b : ¬ xt_dg 6 p0 = 0 := xm_bF q9
    refine lv_aload_n hx hb dX5_show_12 rfl (lv_at hl 0 rfl) ?_
    refine lv_iconst (v := 1) hx hb dX5_show_13 (by decide) ?_
    have hPc := hP.sub (ws' := [((mm 0), .inr (5, [.ref (mm 1), .ref (mm 2), .ref (mm 3), .ref (mm 4), .int (nI z), .ref (mm 5), .int ty, .int 0, .int at0, .int fa, .ref (mm 6), .int ts, .ref (mm 7), .ref (mm 8), .ref (mm 9), .int fr]))]) [0] rfl
    have hDc := hD.sub (ws' := [((mm 0), .inr (5, [.ref (mm 1), .ref (mm 2), .ref (mm 3), .ref (mm 4), .int (nI z), .ref (mm 5), .int ty, .int 0, .int at0, .int fa, .ref (mm 6), .int ts, .ref (mm 7), .ref (mm 8), .ref (mm 9), .int fr]))]) [0] (by decide) rfl
    have hFc := va_free (wc := [((mm 0), .inr (5, [.ref (mm 1), .ref (mm 2), .ref (mm 3), .ref (mm 4), .int (nI z), .ref (mm 5), .int ty, .int 0, .int at0, .int fa, .ref (mm 6), .int ts, .ref (mm 7), .ref (mm 8), .ref (mm 9), .int fr]))]) hD hS hA [0] rfl
    refine va_calli (va_runV (As := [.int 1]) (rest := []) ⟨hx, hb, hml, hown, hts⟩ (c_X5_fails l dC dI cI cS cJ tt H.size mm (nI z) ty 0 at0 fa ts fr 1) (cwV 1 hts gX5_show_X5_fails rfl rfl rfl (by decide +kernel) ⟨Nat.le_of_ble_eq_true rfl, Nat.le_of_ble_eq_true rfl⟩) ⟨xm_Mblind, va_recv hK hPc (ci := 5) (q0 := 0) rfl rfl, fun U hU hW => ⟨rfl, by rw [hU], by rw [hU]; exact hPc, hE.go hS hFc hU hW, hDc.weaken (fun _ _ _ _ => trivial), trivial⟩⟩ rfl rfl hl.1 rfl (lv_room (Nat.le_of_ble_eq_true rfl)) dX5_show_14 ⟨Nat.zero_le _, Nat.zero_le _⟩) hS (fun q _ h => hFc q h) hFc (fun r u t H1 locs ht hvm hw hB hz1 hk1 hS => ?_)
    obtain ⟨u_11, rfl⟩ : ∃ z, z = u := ⟨_, rfl⟩
    obtain ⟨hP1, hD1⟩ := hB
    rw [ht] at hP1
    obtain ⟨hw_12, hw_13⟩ := hw
    have hw_12 : r = 0 := hw_12
    subst hw_12
    have hw_13 : u_11 = 1 := hw_13
    subst hw_13
    obtain ⟨hP, hD⟩ := va_join (wr := [((mm 2), .inl (cI, 80, .inl v)), ((mm 4), .inl (cI, 480, .inl pv))]) (w1 := [((mm 0), .inr (5, [.ref (mm 1), .ref (mm 2), .ref (mm 3), .ref (mm 4), .int (nI z), .ref (mm 5), .int ty, .int 1, .int at0, .int fa, .ref (mm 6), .int ts, .ref (mm 7), .ref (mm 8), .ref (mm 9), .int fr]))]) hP hD [0] [1, 2] rfl rfl (by decide) (by decide) hk1 hFc hP1 hD1
    generalize H1 = H at hP hS ⊢
    have hP : va_P (dC, dI) vwCl [((mm 2), .inl (cI, 80, .inl v)), ((mm 4), .inl (cI, 480, .inl pv)), ((mm 0), .inr (5, [.ref (mm 1), .ref (mm 2), .ref (mm 3), .ref (mm 4), .int (nI z), .ref (mm 5), .int ty, .int 1, .int at0, .int fa, .ref (mm 6), .int ts, .ref (mm 7), .ref (mm 8), .ref (mm 9), .int fr]))] H := hP
    have hD : va_D A [((mm 2), .inl (cI, 80, .inl v)), ((mm 4), .inl (cI, 480, .inl pv)), ((mm 0), .inr (5, [.ref (mm 1), .ref (mm 2), .ref (mm 3), .ref (mm 4), .int (nI z), .ref (mm 5), .int ty, .int 1, .int at0, .int fa, .ref (mm 6), .int ts, .ref (mm 7), .ref (mm 8), .ref (mm 9), .int fr]))] := hD
    have hc9 : xc_sh p0 p1 = 1 := by simp only [xc_sh, if_neg q9b]
    have hn9 : ¬ xc_sh p0 p1 = 0 := by rw [hc9]; decide
    have hP9 := hP.sub (ws' := [((mm 0), .inr (5, [.ref (mm 1), .ref (mm 2), .ref (mm 3), .ref (mm 4), .int (nI z), .ref (mm 5), .int ty, .int 1, .int at0, .int fa, .ref (mm 6), .int ts, .ref (mm 7), .ref (mm 8), .ref (mm 9), .int fr])), ((mm 2), .inl (cI, 80, .inl v)), ((mm 4), .inl (cI, 480, .inl pv))]) [2, 0, 1] rfl
    have hD9 := hD.sub (ws' := [((mm 0), .inr (5, [.ref (mm 1), .ref (mm 2), .ref (mm 3), .ref (mm 4), .int (nI z), .ref (mm 5), .int ty, .int 1, .int at0, .int fa, .ref (mm 6), .int ts, .ref (mm 7), .ref (mm 8), .ref (mm 9), .int fr])), ((mm 2), .inl (cI, 80, .inl v)), ((mm 4), .inl (cI, 480, .inl pv))]) [2, 0, 1] (by decide) rfl
    exact W.iret (v := 0) hx hb hr (fun t ht hW => ⟨⟨0, (1, (nI z), v, pv), rfl, ⟨(if_neg hn9).symm, (hc9.symm), (if_neg hn9).symm, (if_neg hn9).symm, (if_neg hn9).symm⟩, by rw [ht]; exact hP9, hD9⟩, hS.F ht⟩) hS.2.2 dX5_show_17

set_option maxHeartbeats 4000000 in
set_option maxRecDepth 100000 in
theorem c_X5_level (l : Launch) (dC : Nat → ClassId) (dI : Nat → Nat → Nat) (cI cS cJ : ClassId) (tt : Nat → Nat) (sz : Nat) (mm : Nat → Nat) (ty : Int32) (th : Int32) (at0 : Int32) (fa : Int32) (ts : Int32) (fr : Int32) (p0 : Int32) (p1 : Int32) (z : Nat) (v : Nat → Int32) (pv : Nat → Int32) : Met l yX5_level wsX5_level ({ frames := 2, cells := 0, slots := 0, locals := 42 } : Room) (va_Pc [.ref (mm 0), .int p0, .int p1] (xm_M (dC, dI) cI cS cJ tt [((mm 0), .inr (5, [.ref (mm 1), .ref (mm 2), .ref (mm 3), .ref (mm 4), .int (nI z), .ref (mm 5), .int ty, .int th, .int at0, .int fa, .ref (mm 6), .int ts, .ref (mm 7), .ref (mm 8), .ref (mm 9), .int fr])), ((mm 2), .inl (cI, 80, .inl v)), ((mm 4), .inl (cI, 480, .inl pv))] sz (z ≤ 6))) (va_Qi (fun (r : Int32) (u : Int32 × Int32 × (Nat → Int32) × (Nat → Int32)) => r = (if xc_lv p0 p1 = 0 then v (14 + p0.toNatClampNeg) else 0) ∧ u.1 = xc_lv p0 p1 ∧ u.2.1 = (if xc_lv p0 p1 = 0 then (nI (if z = 6 then 6 else z + 1)) else (nI z)) ∧ u.2.2.1 = (if xc_lv p0 p1 = 0 then (xv_zc (upd v (14 + p0.toNatClampNeg) p1)) else v) ∧ u.2.2.2 = (if xc_lv p0 p1 = 0 then (mp_sv pv z v) else pv)) (xm_B (dC, dI) (fun (u : Int32 × Int32 × (Nat → Int32) × (Nat → Int32)) => [((mm 0), .inr (5, [.ref (mm 1), .ref (mm 2), .ref (mm 3), .ref (mm 4), .int u.2.1, .ref (mm 5), .int ty, .int u.1, .int at0, .int fa, .ref (mm 6), .int ts, .ref (mm 7), .ref (mm 8), .ref (mm 9), .int fr])), ((mm 2), .inl (cI, 80, .inl u.2.2.1)), ((mm 4), .inl (cI, 480, .inl u.2.2.2))]) (va_A [((mm 0), .inr (5, [.ref (mm 1), .ref (mm 2), .ref (mm 3), .ref (mm 4), .int (nI z), .ref (mm 5), .int ty, .int th, .int at0, .int fa, .ref (mm 6), .int ts, .ref (mm 7), .ref (mm 8), .ref (mm 9), .int fr])), ((mm 2), .inl (cI, 80, .inl v)), ((mm 4), .inl (cI, 480, .inl pv))] sz)) (va_A [((mm 0), .inr (5, [.ref (mm 1), .ref (mm 2), .ref (mm 3), .ref (mm 4), .int (nI z), .ref (mm 5), .int ty, .int th, .int at0, .int fa, .ref (mm 6), .int ts, .ref (mm 7), .ref (mm 8), .ref (mm 9), .int fr])), ((mm 2), .inl (cI, 80, .inl v)), ((mm 4), .inl (cI, 480, .inl pv))] sz)) 0 0 (va_A [((mm 0), .inr (5, [.ref (mm 1), .ref (mm 2), .ref (mm 3), .ref (mm 4), .int (nI z), .ref (mm 5), .int ty, .int th, .int at0, .int fa, .ref (mm 6), .int ts, .ref (mm 7), .ref (mm 8), .ref (mm 9), .int fr])), ((mm 2), .inl (cI, 80, .inl v)), ((mm 4), .inl (cI, 480, .inl pv))] sz) := by
  refine Met.ofW (cc := cX5_level) (maxL := 3) (ret := (some .int)) (by decide) rfl ?_
  intro p e s m args below meth c s₁ B hml hv
  obtain ⟨rfl, hsz, hP, hE, hD0, hpre⟩ := hv
  have hx := B.exec
  have hb := B.bytes
  have hr := B.returns
  have hts := atoms_spec (ws := wsX5_level) B.pre
  have hown : s.vm.findClass RX5 = some m.cls := findClass_of_methodNamed B.named
  have hlocks := B.notSynchronized
  have hK := hE.1
  subst hsz
  have hD := hD0.self (sz := s.heap.size)
  generalize hAe : va_A [((mm 0), .inr (5, [.ref (mm 1), .ref (mm 2), .ref (mm 3), .ref (mm 4), .int (nI z), .ref (mm 5), .int ty, .int th, .int at0, .int fa, .ref (mm 6), .int ts, .ref (mm 7), .ref (mm 8), .ref (mm 9), .int fr])), ((mm 2), .inl (cI, 80, .inl v)), ((mm 4), .inl (cI, 480, .inl pv))] s.heap.size = A at hD hE ⊢
  have hA : ∀ q : Nat, s.heap.size ≤ q → A q := fun q h => by rw [← hAe]; exact Or.inr h
  have hS : va_S A s.heap s.heap [] := va_S.rf
  have hP : va_P (dC, dI) vwCl [((mm 0), .inr (5, [.ref (mm 1), .ref (mm 2), .ref (mm 3), .ref (mm 4), .int (nI z), .ref (mm 5), .int ty, .int th, .int at0, .int fa, .ref (mm 6), .int ts, .ref (mm 7), .ref (mm 8), .ref (mm 9), .int fr])), ((mm 2), .inl (cI, 80, .inl v)), ((mm 4), .inl (cI, 480, .inl pv))] s.heap := hP
  have hin5 : ∀ w ∈ u_ws RX5 TX5 16, w ∈ wsX5_level := by decide +kernel
  have hl := lv_entry [.ref (mm 0), .int p0, .int p1] (n := 3) (Nat.le_of_ble_eq_true rfl)
  rw [lg_entry_eq]
  generalize (lg_sl [.ref (mm 0), .int p0, .int p1] ++ List.replicate (3 - (lg_sl [.ref (mm 0), .int p0, .int p1]).length) Slot.unset).toArray = lz at hl ⊢
  have hl : lv_has lz 3 [(0, .ref (mm 0)), (1, .int p0), (2, .int p1)] := hl
  refine lv_aload_n hx hb dX5_level_0 rfl (lv_at hl 0 rfl) ?_
  refine lv_iconst (v := 0) hx hb dX5_level_1 (by decide) ?_
  refine va_put (D := (dC, dI)) (ci := 5) (v := .int 0) (ty := .int) (C := RX5) (T := TX5) (N := 16) hx hb hts hin5 tyX5 tyX5_ok nmX5 hown hK hP hD hS 0 rfl rfl 7 (by decide) (hts (.fieldLink RX5 37 "TurnDigitsModel" "thrown" "I") (by decide +kernel)) (fun _ h9 => h9) rfl (by decide +kernel) rfl rfl (Nat.le_of_ble_eq_true rfl) dX5_level_2 (fun H locs hP hD hS => ?_)
  have hP : va_P (dC, dI) vwCl [((mm 0), .inr (5, [.ref (mm 1), .ref (mm 2), .ref (mm 3), .ref (mm 4), .int (nI z), .ref (mm 5), .int ty, .int 0, .int at0, .int fa, .ref (mm 6), .int ts, .ref (mm 7), .ref (mm 8), .ref (mm 9), .int fr])), ((mm 2), .inl (cI, 80, .inl v)), ((mm 4), .inl (cI, 480, .inl pv))] H := hP
  have hD : va_D A [((mm 0), .inr (5, [.ref (mm 1), .ref (mm 2), .ref (mm 3), .ref (mm 4), .int (nI z), .ref (mm 5), .int ty, .int 0, .int at0, .int fa, .ref (mm 6), .int ts, .ref (mm 7), .ref (mm 8), .ref (mm 9), .int fr])), ((mm 2), .inl (cI, 80, .inl v)), ((mm 4), .inl (cI, 480, .inl pv))] := hD
  refine lv_iload_n hx hb dX5_level_5 rfl (lv_at hl 1 rfl) ?_
  have hPc := hP.sub (ws' := []) [] rfl
  refine W.callV ((va_runS (As := [.int p0]) (rest := []) ⟨hx, hb, hml, hown, hts⟩ (c_X5_isDigit l dC dI cI cS cJ tt p0) (va_cwS 1 hts gX5_level_X5_isDigit rfl rfl rfl (by decide +kernel) ⟨Nat.le_of_ble_eq_true rfl, Nat.le_of_ble_eq_true rfl⟩) ⟨xm_Rblind, fun U hU hW => ⟨rfl, by rw [hU]; exact hPc, hE.go hS (fun _ q => q.elim) hU hW, trivial⟩⟩ rfl rfl hl.1 rfl (lv_room (Nat.le_of_ble_eq_true rfl)) dX5_level_6 ⟨Nat.zero_le _, Nat.zero_le _⟩).run) ?_
  refine W.eq (g2 := F0 m 9 lz (.int (if xt_dg 6 p0 = 0 then 1 else 0) :: [])) rfl ?_
  refine lv_if_ne (tgt := 18) hx hb dX5_level_9 (by decide) (fun q9 => ?_) (fun q9 => ?_)
  · have q9b : xt_dg 6 p0 = 0 := xm_bT q9
    refine lv_iload_n hx hb dX5_level_18 rfl (lv_at hl 2 rfl) ?_
    have hPc := hP.sub (ws' := []) [] rfl
    refine W.callV ((va_runS (As := [.int p1]) (rest := []) ⟨hx, hb, hml, hown, hts⟩ (c_X5_isLevel l dC dI cI cS cJ tt p1) (va_cwS 1 hts gX5_level_X5_isLevel rfl rfl rfl (by decide +kernel) ⟨Nat.le_of_ble_eq_true rfl, Nat.le_of_ble_eq_true rfl⟩) ⟨xm_Rblind, fun U hU hW => ⟨rfl, by rw [hU]; exact hPc, hE.go hS (fun _ q => q.elim) hU hW, trivial⟩⟩ rfl rfl hl.1 rfl (lv_room (Nat.le_of_ble_eq_true rfl)) dX5_level_19 ⟨Nat.zero_le _, Nat.zero_le _⟩).run) ?_
    refine W.eq (g2 := F0 m 22 lz (.int (if xt_rg p1 0 15 = 0 then 1 else 0) :: [])) rfl ?_
    refine lv_if_ne (tgt := 31) hx hb dX5_level_22 (by decide) (fun q22 => ?_) (fun q22 => ?_)
    · have q22b : xt_rg p1 0 15 = 0 := xm_bT q22
      refine lv_aload_n hx hb dX5_level_31 rfl (lv_at hl 0 rfl) ?_
      have hPc := hP.sub (ws' := [((mm 0), .inr (5, [.ref (mm 1), .ref (mm 2), .ref (mm 3), .ref (mm 4), .int (nI z), .ref (mm 5), .int ty, .int 0, .int at0, .int fa, .ref (mm 6), .int ts, .ref (mm 7), .ref (mm 8), .ref (mm 9), .int fr])), ((mm 2), .inl (cI, 80, .inl v)), ((mm 4), .inl (cI, 480, .inl pv))]) [0, 1, 2] rfl
      have hDc := hD.sub (ws' := [((mm 0), .inr (5, [.ref (mm 1), .ref (mm 2), .ref (mm 3), .ref (mm 4), .int (nI z), .ref (mm 5), .int ty, .int 0, .int at0, .int fa, .ref (mm 6), .int ts, .ref (mm 7), .ref (mm 8), .ref (mm 9), .int fr])), ((mm 2), .inl (cI, 80, .inl v)), ((mm 4), .inl (cI, 480, .inl pv))]) [0, 1, 2] (by decide) rfl
      have hFc := va_free (wc := [((mm 0), .inr (5, [.ref (mm 1), .ref (mm 2), .ref (mm 3), .ref (mm 4), .int (nI z), .ref (mm 5), .int ty, .int 0, .int at0, .int fa, .ref (mm 6), .int ts, .ref (mm 7), .ref (mm 8), .ref (mm 9), .int fr])), ((mm 2), .inl (cI, 80, .inl v)), ((mm 4), .inl (cI, 480, .inl pv))]) hD hS hA [0, 1, 2] rfl
      refine va_callv (va_runV (As := []) (rest := []) ⟨hx, hb, hml, hown, hts⟩ (c_X5_saves l dC dI cI cS cJ tt H.size mm ty 0 at0 fa ts fr z v pv) (cwV 0 hts gX5_level_X5_saves rfl rfl rfl (by decide +kernel) ⟨Nat.le_of_ble_eq_true rfl, Nat.le_of_ble_eq_true rfl⟩) ⟨xm_Mblind, va_recv hK hPc (ci := 5) (q0 := 0) rfl rfl, fun U hU hW => ⟨rfl, by rw [hU], by rw [hU]; exact hPc, hE.go hS hFc hU hW, hDc.weaken (fun _ _ _ _ => trivial), hpre⟩⟩ rfl rfl hl.1 rfl (lv_room (Nat.le_of_ble_eq_true rfl)) dX5_level_32 ⟨Nat.zero_le _, Nat.zero_le _⟩) hS (fun q _ h => hFc q h) hFc (fun u t H1 locs ht hvm hw hB hz1 hk1 hS => ?_)
      obtain ⟨u_1, u_2⟩ := u
      obtain ⟨hP1, hD1⟩ := hB
      rw [ht] at hP1
      obtain ⟨hw_3, hw_4⟩ := hw
      have hw_3 : u_1 = nI (if z = 6 then 6 else z + 1) := hw_3
      subst hw_3
      have hw_4 : u_2 = mp_sv pv z v := hw_4
      subst hw_4
      obtain ⟨hP, hD⟩ := va_join (wr := []) (w1 := [((mm 0), .inr (5, [.ref (mm 1), .ref (mm 2), .ref (mm 3), .ref (mm 4), .int (nI (if z = 6 then 6 else z + 1)), .ref (mm 5), .int ty, .int 0, .int at0, .int fa, .ref (mm 6), .int ts, .ref (mm 7), .ref (mm 8), .ref (mm 9), .int fr])), ((mm 2), .inl (cI, 80, .inl v)), ((mm 4), .inl (cI, 480, .inl (mp_sv pv z v)))]) hP hD [0, 1, 2] [] rfl rfl (by decide) (by decide) hk1 hFc hP1 hD1
      generalize H1 = H at hP hS ⊢
      have hP : va_P (dC, dI) vwCl [((mm 0), .inr (5, [.ref (mm 1), .ref (mm 2), .ref (mm 3), .ref (mm 4), .int (nI (if z = 6 then 6 else z + 1)), .ref (mm 5), .int ty, .int 0, .int at0, .int fa, .ref (mm 6), .int ts, .ref (mm 7), .ref (mm 8), .ref (mm 9), .int fr])), ((mm 2), .inl (cI, 80, .inl v)), ((mm 4), .inl (cI, 480, .inl (mp_sv pv z v)))] H := hP
      have hD : va_D A [((mm 0), .inr (5, [.ref (mm 1), .ref (mm 2), .ref (mm 3), .ref (mm 4), .int (nI (if z = 6 then 6 else z + 1)), .ref (mm 5), .int ty, .int 0, .int at0, .int fa, .ref (mm 6), .int ts, .ref (mm 7), .ref (mm 8), .ref (mm 9), .int fr])), ((mm 2), .inl (cI, 80, .inl v)), ((mm 4), .inl (cI, 480, .inl (mp_sv pv z v)))] := hD
      refine lv_aload_n hx hb dX5_level_35 rfl (lv_at hl 0 rfl) ?_
      have hPc := hP.sub (ws' := [((mm 0), .inr (5, [.ref (mm 1), .ref (mm 2), .ref (mm 3), .ref (mm 4), .int (nI (if z = 6 then 6 else z + 1)), .ref (mm 5), .int ty, .int 0, .int at0, .int fa, .ref (mm 6), .int ts, .ref (mm 7), .ref (mm 8), .ref (mm 9), .int fr])), ((mm 2), .inl (cI, 80, .inl v))]) [0, 1] rfl
      have hDc := hD.sub (ws' := [((mm 0), .inr (5, [.ref (mm 1), .ref (mm 2), .ref (mm 3), .ref (mm 4), .int (nI (if z = 6 then 6 else z + 1)), .ref (mm 5), .int ty, .int 0, .int at0, .int fa, .ref (mm 6), .int ts, .ref (mm 7), .ref (mm 8), .ref (mm 9), .int fr])), ((mm 2), .inl (cI, 80, .inl v))]) [0, 1] (by decide) rfl
      have hFc := va_free (wc := [((mm 0), .inr (5, [.ref (mm 1), .ref (mm 2), .ref (mm 3), .ref (mm 4), .int (nI (if z = 6 then 6 else z + 1)), .ref (mm 5), .int ty, .int 0, .int at0, .int fa, .ref (mm 6), .int ts, .ref (mm 7), .ref (mm 8), .ref (mm 9), .int fr])), ((mm 2), .inl (cI, 80, .inl v))]) hD hS hA [0, 1] rfl
      refine va_callv (va_runV (As := []) (rest := []) ⟨hx, hb, hml, hown, hts⟩ (c_X5_noCredits l dC dI cI cS cJ tt H.size mm (nI (if z = 6 then 6 else z + 1)) ty 0 at0 fa ts fr v) (cwV 0 hts gX5_level_X5_noCredits rfl rfl rfl (by decide +kernel) ⟨Nat.le_of_ble_eq_true rfl, Nat.le_of_ble_eq_true rfl⟩) ⟨xm_Mblind, va_recv hK hPc (ci := 5) (q0 := 0) rfl rfl, fun U hU hW => ⟨rfl, by rw [hU], by rw [hU]; exact hPc, hE.go hS hFc hU hW, hDc.weaken (fun _ _ _ _ => trivial), trivial⟩⟩ rfl rfl hl.1 rfl (lv_room (Nat.le_of_ble_eq_true rfl)) dX5_level_36 ⟨Nat.zero_le _, Nat.zero_le _⟩) hS (fun q _ h => hFc q h) hFc (fun u t H1 locs ht hvm hw hB hz1 hk1 hS => ?_)
      obtain ⟨u_5, rfl⟩ : ∃ z, z = u := ⟨_, rfl⟩
      obtain ⟨hP1, hD1⟩ := hB
      rw [ht] at hP1
      have hw_6 := hw
      have hw_6 : u_5 = xv_zc v := hw_6
      subst hw_6
      obtain ⟨hP, hD⟩ := va_join (wr := [((mm 4), .inl (cI, 480, .inl (mp_sv pv z v)))]) (w1 := [((mm 0), .inr (5, [.ref (mm 1), .ref (mm 2), .ref (mm 3), .ref (mm 4), .int (nI (if z = 6 then 6 else z + 1)), .ref (mm 5), .int ty, .int 0, .int at0, .int fa, .ref (mm 6), .int ts, .ref (mm 7), .ref (mm 8), .ref (mm 9), .int fr])), ((mm 2), .inl (cI, 80, .inl (xv_zc v)))]) hP hD [0, 1] [2] rfl rfl (by decide) (by decide) hk1 hFc hP1 hD1
      generalize H1 = H at hP hS ⊢
      have hP : va_P (dC, dI) vwCl [((mm 4), .inl (cI, 480, .inl (mp_sv pv z v))), ((mm 0), .inr (5, [.ref (mm 1), .ref (mm 2), .ref (mm 3), .ref (mm 4), .int (nI (if z = 6 then 6 else z + 1)), .ref (mm 5), .int ty, .int 0, .int at0, .int fa, .ref (mm 6), .int ts, .ref (mm 7), .ref (mm 8), .ref (mm 9), .int fr])), ((mm 2), .inl (cI, 80, .inl (xv_zc v)))] H := hP
      have hD : va_D A [((mm 4), .inl (cI, 480, .inl (mp_sv pv z v))), ((mm 0), .inr (5, [.ref (mm 1), .ref (mm 2), .ref (mm 3), .ref (mm 4), .int (nI (if z = 6 then 6 else z + 1)), .ref (mm 5), .int ty, .int 0, .int at0, .int fa, .ref (mm 6), .int ts, .ref (mm 7), .ref (mm 8), .ref (mm 9), .int fr])), ((mm 2), .inl (cI, 80, .inl (xv_zc v)))] := hD
      refine lv_aload_n hx hb dX5_level_39 rfl (lv_at hl 0 rfl) ?_
      refine lv_bipush (v := 14) hx hb dX5_level_40 (by decide) ?_
      refine lv_iload_n hx hb dX5_level_42 rfl (lv_at hl 1 rfl) ?_
      refine xm_topi (y := (nI p0.toNatClampNeg)) (xt_dg_ok (n := 6) (by decide) q9b).1 ?_
      refine lv_iadd hx hb dX5_level_43 ?_
      refine xm_topi (y := nI (14 + p0.toNatClampNeg)) (nI_add 14 p0.toNatClampNeg) ?_
      refine lv_iload_n hx hb dX5_level_44 rfl (lv_at hl 2 rfl) ?_
      have hPc := hP.sub (ws' := [((mm 0), .inr (5, [.ref (mm 1), .ref (mm 2), .ref (mm 3), .ref (mm 4), .int (nI (if z = 6 then 6 else z + 1)), .ref (mm 5), .int ty, .int 0, .int at0, .int fa, .ref (mm 6), .int ts, .ref (mm 7), .ref (mm 8), .ref (mm 9), .int fr])), ((mm 2), .inl (cI, 80, .inl (xv_zc v)))]) [1, 2] rfl
      have hDc := hD.sub (ws' := [((mm 0), .inr (5, [.ref (mm 1), .ref (mm 2), .ref (mm 3), .ref (mm 4), .int (nI (if z = 6 then 6 else z + 1)), .ref (mm 5), .int ty, .int 0, .int at0, .int fa, .ref (mm 6), .int ts, .ref (mm 7), .ref (mm 8), .ref (mm 9), .int fr])), ((mm 2), .inl (cI, 80, .inl (xv_zc v)))]) [1, 2] (by decide) rfl
      have hFc := va_free (wc := [((mm 0), .inr (5, [.ref (mm 1), .ref (mm 2), .ref (mm 3), .ref (mm 4), .int (nI (if z = 6 then 6 else z + 1)), .ref (mm 5), .int ty, .int 0, .int at0, .int fa, .ref (mm 6), .int ts, .ref (mm 7), .ref (mm 8), .ref (mm 9), .int fr])), ((mm 2), .inl (cI, 80, .inl (xv_zc v)))]) hD hS hA [1, 2] rfl
      refine va_calli (va_runV (As := [.int (nI (14 + p0.toNatClampNeg)), .int p1]) (rest := []) ⟨hx, hb, hml, hown, hts⟩ (c_X5_changes l dC dI cI cS cJ tt H.size mm (nI (if z = 6 then 6 else z + 1)) ty 0 at0 fa ts fr (xv_zc v) (14 + p0.toNatClampNeg) p1) (cwV 2 hts gX5_level_X5_changes rfl rfl rfl (by decide +kernel) ⟨Nat.le_of_ble_eq_true rfl, Nat.le_of_ble_eq_true rfl⟩) ⟨xm_Mblind, va_recv hK hPc (ci := 5) (q0 := 0) rfl rfl, fun U hU hW => ⟨rfl, by rw [hU], by rw [hU]; exact hPc, hE.go hS hFc hU hW, hDc.weaken (fun _ _ _ _ => trivial), (by have := (xt_dg_ok (n := 6) (by decide) q9b).2; omega)⟩⟩ rfl rfl hl.1 rfl (lv_room (Nat.le_of_ble_eq_true rfl)) dX5_level_45 ⟨Nat.zero_le _, Nat.zero_le _⟩) hS (fun q _ h => hFc q h) hFc (fun r u t H1 locs ht hvm hw hB hz1 hk1 hS => ?_)
      obtain ⟨u_7, rfl⟩ : ∃ z, z = u := ⟨_, rfl⟩
      obtain ⟨hP1, hD1⟩ := hB
      rw [ht] at hP1
      obtain ⟨hw_8, hw_9⟩ := hw
      have hw_8 : r = (xv_zc v) (14 + p0.toNatClampNeg) := hw_8
      subst hw_8
      have hw_9 : u_7 = upd (xv_zc v) (14 + p0.toNatClampNeg) p1 := hw_9
      subst hw_9
      obtain ⟨hP, hD⟩ := va_join (wr := [((mm 4), .inl (cI, 480, .inl (mp_sv pv z v)))]) (w1 := [((mm 0), .inr (5, [.ref (mm 1), .ref (mm 2), .ref (mm 3), .ref (mm 4), .int (nI (if z = 6 then 6 else z + 1)), .ref (mm 5), .int ty, .int 0, .int at0, .int fa, .ref (mm 6), .int ts, .ref (mm 7), .ref (mm 8), .ref (mm 9), .int fr])), ((mm 2), .inl (cI, 80, .inl (upd (xv_zc v) (14 + p0.toNatClampNeg) p1)))]) hP hD [1, 2] [0] rfl rfl (by decide) (by decide) hk1 hFc hP1 hD1
      generalize H1 = H at hP hS ⊢
      have hP : va_P (dC, dI) vwCl [((mm 4), .inl (cI, 480, .inl (mp_sv pv z v))), ((mm 0), .inr (5, [.ref (mm 1), .ref (mm 2), .ref (mm 3), .ref (mm 4), .int (nI (if z = 6 then 6 else z + 1)), .ref (mm 5), .int ty, .int 0, .int at0, .int fa, .ref (mm 6), .int ts, .ref (mm 7), .ref (mm 8), .ref (mm 9), .int fr])), ((mm 2), .inl (cI, 80, .inl (upd (xv_zc v) (14 + p0.toNatClampNeg) p1)))] H := hP
      have hD : va_D A [((mm 4), .inl (cI, 480, .inl (mp_sv pv z v))), ((mm 0), .inr (5, [.ref (mm 1), .ref (mm 2), .ref (mm 3), .ref (mm 4), .int (nI (if z = 6 then 6 else z + 1)), .ref (mm 5), .int ty, .int 0, .int at0, .int fa, .ref (mm 6), .int ts, .ref (mm 7), .ref (mm 8), .ref (mm 9), .int fr])), ((mm 2), .inl (cI, 80, .inl (upd (xv_zc v) (14 + p0.toNatClampNeg) p1)))] := hD
      have hc9 : xc_lv p0 p1 = 0 := by simp only [xc_lv, if_pos q9b, if_pos q22b]
      have hP9 := hP.sub (ws' := [((mm 0), .inr (5, [.ref (mm 1), .ref (mm 2), .ref (mm 3), .ref (mm 4), .int (nI (if z = 6 then 6 else z + 1)), .ref (mm 5), .int ty, .int 0, .int at0, .int fa, .ref (mm 6), .int ts, .ref (mm 7), .ref (mm 8), .ref (mm 9), .int fr])), ((mm 2), .inl (cI, 80, .inl (upd (xv_zc v) (14 + p0.toNatClampNeg) p1))), ((mm 4), .inl (cI, 480, .inl (mp_sv pv z v)))]) [1, 2, 0] rfl
      have hD9 := hD.sub (ws' := [((mm 0), .inr (5, [.ref (mm 1), .ref (mm 2), .ref (mm 3), .ref (mm 4), .int (nI (if z = 6 then 6 else z + 1)), .ref (mm 5), .int ty, .int 0, .int at0, .int fa, .ref (mm 6), .int ts, .ref (mm 7), .ref (mm 8), .ref (mm 9), .int fr])), ((mm 2), .inl (cI, 80, .inl (upd (xv_zc v) (14 + p0.toNatClampNeg) p1))), ((mm 4), .inl (cI, 480, .inl (mp_sv pv z v)))]) [1, 2, 0] (by decide) rfl
      exact W.iret (v := (xv_zc v) (14 + p0.toNatClampNeg)) hx hb hr (fun t ht hW => ⟨⟨(xv_zc v) (14 + p0.toNatClampNeg), (0, (nI (if z = 6 then 6 else z + 1)), (upd (xv_zc v) (14 + p0.toNatClampNeg) p1), (mp_sv pv z v)), rfl, ⟨(by rw [if_pos hc9]; exact xv_zc_lo (by have := (xt_dg_ok (n := 6) (by decide) q9b).2; omega)), (hc9.symm), (if_pos hc9).symm, (by rw [if_pos hc9]; exact xv_zc_up (by have := (xt_dg_ok (n := 6) (by decide) q9b).2; omega)), (if_pos hc9).symm⟩, by rw [ht]; exact hP9, hD9⟩, hS.F ht⟩) hS.2.2 dX5_level_48
    · have q22b : ¬ xt_rg p1 0 15 = 0 := xm_bF q22
      refine lv_aload_n hx hb dX5_level_25 rfl (lv_at hl 0 rfl) ?_
      refine lv_iconst (v := 2) hx hb dX5_level_26 (by decide) ?_
      have hPc := hP.sub (ws' := [((mm 0), .inr (5, [.ref (mm 1), .ref (mm 2), .ref (mm 3), .ref (mm 4), .int (nI z), .ref (mm 5), .int ty, .int 0, .int at0, .int fa, .ref (mm 6), .int ts, .ref (mm 7), .ref (mm 8), .ref (mm 9), .int fr]))]) [0] rfl
      have hDc := hD.sub (ws' := [((mm 0), .inr (5, [.ref (mm 1), .ref (mm 2), .ref (mm 3), .ref (mm 4), .int (nI z), .ref (mm 5), .int ty, .int 0, .int at0, .int fa, .ref (mm 6), .int ts, .ref (mm 7), .ref (mm 8), .ref (mm 9), .int fr]))]) [0] (by decide) rfl
      have hFc := va_free (wc := [((mm 0), .inr (5, [.ref (mm 1), .ref (mm 2), .ref (mm 3), .ref (mm 4), .int (nI z), .ref (mm 5), .int ty, .int 0, .int at0, .int fa, .ref (mm 6), .int ts, .ref (mm 7), .ref (mm 8), .ref (mm 9), .int fr]))]) hD hS hA [0] rfl
      refine va_calli (va_runV (As := [.int 2]) (rest := []) ⟨hx, hb, hml, hown, hts⟩ (c_X5_fails l dC dI cI cS cJ tt H.size mm (nI z) ty 0 at0 fa ts fr 2) (cwV 1 hts gX5_level_X5_fails rfl rfl rfl (by decide +kernel) ⟨Nat.le_of_ble_eq_true rfl, Nat.le_of_ble_eq_true rfl⟩) ⟨xm_Mblind, va_recv hK hPc (ci := 5) (q0 := 0) rfl rfl, fun U hU hW => ⟨rfl, by rw [hU], by rw [hU]; exact hPc, hE.go hS hFc hU hW, hDc.weaken (fun _ _ _ _ => trivial), trivial⟩⟩ rfl rfl hl.1 rfl (lv_room (Nat.le_of_ble_eq_true rfl)) dX5_level_27 ⟨Nat.zero_le _, Nat.zero_le _⟩) hS (fun q _ h => hFc q h) hFc (fun r u t H1 locs ht hvm hw hB hz1 hk1 hS => ?_)
      obtain ⟨u_10, rfl⟩ : ∃ z, z = u := ⟨_, rfl⟩
      obtain ⟨hP1, hD1⟩ := hB
      rw [ht] at hP1
      obtain ⟨hw_11, hw_12⟩ := hw
      have hw_11 : r = 0 := hw_11
      subst hw_11
      have hw_12 : u_10 = 2 := hw_12
      subst hw_12
      obtain ⟨hP, hD⟩ := va_join (wr := [((mm 2), .inl (cI, 80, .inl v)), ((mm 4), .inl (cI, 480, .inl pv))]) (w1 := [((mm 0), .inr (5, [.ref (mm 1), .ref (mm 2), .ref (mm 3), .ref (mm 4), .int (nI z), .ref (mm 5), .int ty, .int 2, .int at0, .int fa, .ref (mm 6), .int ts, .ref (mm 7), .ref (mm 8), .ref (mm 9), .int fr]))]) hP hD [0] [1, 2] rfl rfl (by decide) (by decide) hk1 hFc hP1 hD1
      generalize H1 = H at hP hS ⊢
      have hP : va_P (dC, dI) vwCl [((mm 2), .inl (cI, 80, .inl v)), ((mm 4), .inl (cI, 480, .inl pv)), ((mm 0), .inr (5, [.ref (mm 1), .ref (mm 2), .ref (mm 3), .ref (mm 4), .int (nI z), .ref (mm 5), .int ty, .int 2, .int at0, .int fa, .ref (mm 6), .int ts, .ref (mm 7), .ref (mm 8), .ref (mm 9), .int fr]))] H := hP
      have hD : va_D A [((mm 2), .inl (cI, 80, .inl v)), ((mm 4), .inl (cI, 480, .inl pv)), ((mm 0), .inr (5, [.ref (mm 1), .ref (mm 2), .ref (mm 3), .ref (mm 4), .int (nI z), .ref (mm 5), .int ty, .int 2, .int at0, .int fa, .ref (mm 6), .int ts, .ref (mm 7), .ref (mm 8), .ref (mm 9), .int fr]))] := hD
      have hc9 : xc_lv p0 p1 = 2 := by simp only [xc_lv, if_pos q9b, if_neg q22b]
      have hn9 : ¬ xc_lv p0 p1 = 0 := by rw [hc9]; decide
      have hP9 := hP.sub (ws' := [((mm 0), .inr (5, [.ref (mm 1), .ref (mm 2), .ref (mm 3), .ref (mm 4), .int (nI z), .ref (mm 5), .int ty, .int 2, .int at0, .int fa, .ref (mm 6), .int ts, .ref (mm 7), .ref (mm 8), .ref (mm 9), .int fr])), ((mm 2), .inl (cI, 80, .inl v)), ((mm 4), .inl (cI, 480, .inl pv))]) [2, 0, 1] rfl
      have hD9 := hD.sub (ws' := [((mm 0), .inr (5, [.ref (mm 1), .ref (mm 2), .ref (mm 3), .ref (mm 4), .int (nI z), .ref (mm 5), .int ty, .int 2, .int at0, .int fa, .ref (mm 6), .int ts, .ref (mm 7), .ref (mm 8), .ref (mm 9), .int fr])), ((mm 2), .inl (cI, 80, .inl v)), ((mm 4), .inl (cI, 480, .inl pv))]) [2, 0, 1] (by decide) rfl
      exact W.iret (v := 0) hx hb hr (fun t ht hW => ⟨⟨0, (2, (nI z), v, pv), rfl, ⟨(if_neg hn9).symm, (hc9.symm), (if_neg hn9).symm, (if_neg hn9).symm, (if_neg hn9).symm⟩, by rw [ht]; exact hP9, hD9⟩, hS.F ht⟩) hS.2.2 dX5_level_30
  · have q9b : ¬ xt_dg 6 p0 = 0 := xm_bF q9
    refine lv_aload_n hx hb dX5_level_12 rfl (lv_at hl 0 rfl) ?_
    refine lv_iconst (v := 1) hx hb dX5_level_13 (by decide) ?_
    have hPc := hP.sub (ws' := [((mm 0), .inr (5, [.ref (mm 1), .ref (mm 2), .ref (mm 3), .ref (mm 4), .int (nI z), .ref (mm 5), .int ty, .int 0, .int at0, .int fa, .ref (mm 6), .int ts, .ref (mm 7), .ref (mm 8), .ref (mm 9), .int fr]))]) [0] rfl
    have hDc := hD.sub (ws' := [((mm 0), .inr (5, [.ref (mm 1), .ref (mm 2), .ref (mm 3), .ref (mm 4), .int (nI z), .ref (mm 5), .int ty, .int 0, .int at0, .int fa, .ref (mm 6), .int ts, .ref (mm 7), .ref (mm 8), .ref (mm 9), .int fr]))]) [0] (by decide) rfl
    have hFc := va_free (wc := [((mm 0), .inr (5, [.ref (mm 1), .ref (mm 2), .ref (mm 3), .ref (mm 4), .int (nI z), .ref (mm 5), .int ty, .int 0, .int at0, .int fa, .ref (mm 6), .int ts, .ref (mm 7), .ref (mm 8), .ref (mm 9), .int fr]))]) hD hS hA [0] rfl
    refine va_calli (va_runV (As := [.int 1]) (rest := []) ⟨hx, hb, hml, hown, hts⟩ (c_X5_fails l dC dI cI cS cJ tt H.size mm (nI z) ty 0 at0 fa ts fr 1) (cwV 1 hts gX5_level_X5_fails rfl rfl rfl (by decide +kernel) ⟨Nat.le_of_ble_eq_true rfl, Nat.le_of_ble_eq_true rfl⟩) ⟨xm_Mblind, va_recv hK hPc (ci := 5) (q0 := 0) rfl rfl, fun U hU hW => ⟨rfl, by rw [hU], by rw [hU]; exact hPc, hE.go hS hFc hU hW, hDc.weaken (fun _ _ _ _ => trivial), trivial⟩⟩ rfl rfl hl.1 rfl (lv_room (Nat.le_of_ble_eq_true rfl)) dX5_level_14 ⟨Nat.zero_le _, Nat.zero_le _⟩) hS (fun q _ h => hFc q h) hFc (fun r u t H1 locs ht hvm hw hB hz1 hk1 hS => ?_)
    obtain ⟨u_13, rfl⟩ : ∃ z, z = u := ⟨_, rfl⟩
    obtain ⟨hP1, hD1⟩ := hB
    rw [ht] at hP1
    obtain ⟨hw_14, hw_15⟩ := hw
    have hw_14 : r = 0 := hw_14
    subst hw_14
    have hw_15 : u_13 = 1 := hw_15
    subst hw_15
    obtain ⟨hP, hD⟩ := va_join (wr := [((mm 2), .inl (cI, 80, .inl v)), ((mm 4), .inl (cI, 480, .inl pv))]) (w1 := [((mm 0), .inr (5, [.ref (mm 1), .ref (mm 2), .ref (mm 3), .ref (mm 4), .int (nI z), .ref (mm 5), .int ty, .int 1, .int at0, .int fa, .ref (mm 6), .int ts, .ref (mm 7), .ref (mm 8), .ref (mm 9), .int fr]))]) hP hD [0] [1, 2] rfl rfl (by decide) (by decide) hk1 hFc hP1 hD1
    generalize H1 = H at hP hS ⊢
    have hP : va_P (dC, dI) vwCl [((mm 2), .inl (cI, 80, .inl v)), ((mm 4), .inl (cI, 480, .inl pv)), ((mm 0), .inr (5, [.ref (mm 1), .ref (mm 2), .ref (mm 3), .ref (mm 4), .int (nI z), .ref (mm 5), .int ty, .int 1, .int at0, .int fa, .ref (mm 6), .int ts, .ref (mm 7), .ref (mm 8), .ref (mm 9), .int fr]))] H := hP
    have hD : va_D A [((mm 2), .inl (cI, 80, .inl v)), ((mm 4), .inl (cI, 480, .inl pv)), ((mm 0), .inr (5, [.ref (mm 1), .ref (mm 2), .ref (mm 3), .ref (mm 4), .int (nI z), .ref (mm 5), .int ty, .int 1, .int at0, .int fa, .ref (mm 6), .int ts, .ref (mm 7), .ref (mm 8), .ref (mm 9), .int fr]))] := hD
    have hc9 : xc_lv p0 p1 = 1 := by simp only [xc_lv, if_neg q9b]
    have hn9 : ¬ xc_lv p0 p1 = 0 := by rw [hc9]; decide
    have hP9 := hP.sub (ws' := [((mm 0), .inr (5, [.ref (mm 1), .ref (mm 2), .ref (mm 3), .ref (mm 4), .int (nI z), .ref (mm 5), .int ty, .int 1, .int at0, .int fa, .ref (mm 6), .int ts, .ref (mm 7), .ref (mm 8), .ref (mm 9), .int fr])), ((mm 2), .inl (cI, 80, .inl v)), ((mm 4), .inl (cI, 480, .inl pv))]) [2, 0, 1] rfl
    have hD9 := hD.sub (ws' := [((mm 0), .inr (5, [.ref (mm 1), .ref (mm 2), .ref (mm 3), .ref (mm 4), .int (nI z), .ref (mm 5), .int ty, .int 1, .int at0, .int fa, .ref (mm 6), .int ts, .ref (mm 7), .ref (mm 8), .ref (mm 9), .int fr])), ((mm 2), .inl (cI, 80, .inl v)), ((mm 4), .inl (cI, 480, .inl pv))]) [2, 0, 1] (by decide) rfl
    exact W.iret (v := 0) hx hb hr (fun t ht hW => ⟨⟨0, (1, (nI z), v, pv), rfl, ⟨(if_neg hn9).symm, (hc9.symm), (if_neg hn9).symm, (if_neg hn9).symm, (if_neg hn9).symm⟩, by rw [ht]; exact hP9, hD9⟩, hS.F ht⟩) hS.2.2 dX5_level_17

set_option maxHeartbeats 4000000 in
set_option maxRecDepth 100000 in
theorem c_X5_ambient (l : Launch) (dC : Nat → ClassId) (dI : Nat → Nat → Nat) (cI cS cJ : ClassId) (tt : Nat → Nat) (sz : Nat) (mm : Nat → Nat) (ty : Int32) (th : Int32) (at0 : Int32) (fa : Int32) (ts : Int32) (fr : Int32) (p0 : Int32) (z : Nat) (v : Nat → Int32) (pv : Nat → Int32) : Met l yX5_ambient wsX5_ambient ({ frames := 1, cells := 0, slots := 0, locals := 23 } : Room) (va_Pc [.ref (mm 0), .int p0] (xm_M (dC, dI) cI cS cJ tt [((mm 0), .inr (5, [.ref (mm 1), .ref (mm 2), .ref (mm 3), .ref (mm 4), .int (nI z), .ref (mm 5), .int ty, .int th, .int at0, .int fa, .ref (mm 6), .int ts, .ref (mm 7), .ref (mm 8), .ref (mm 9), .int fr])), ((mm 2), .inl (cI, 80, .inl v)), ((mm 4), .inl (cI, 480, .inl pv))] sz (z ≤ 6))) (va_Qi (fun (r : Int32) (u : Int32 × Int32 × (Nat → Int32) × (Nat → Int32)) => r = (if xc_am p0 = 0 then v 1 else 0) ∧ u.1 = xc_am p0 ∧ u.2.1 = (if xc_am p0 = 0 then (nI (if z = 6 then 6 else z + 1)) else (nI z)) ∧ u.2.2.1 = (if xc_am p0 = 0 then (upd v 1 p0) else v) ∧ u.2.2.2 = (if xc_am p0 = 0 then (mp_sv pv z v) else pv)) (xm_B (dC, dI) (fun (u : Int32 × Int32 × (Nat → Int32) × (Nat → Int32)) => [((mm 0), .inr (5, [.ref (mm 1), .ref (mm 2), .ref (mm 3), .ref (mm 4), .int u.2.1, .ref (mm 5), .int ty, .int u.1, .int at0, .int fa, .ref (mm 6), .int ts, .ref (mm 7), .ref (mm 8), .ref (mm 9), .int fr])), ((mm 2), .inl (cI, 80, .inl u.2.2.1)), ((mm 4), .inl (cI, 480, .inl u.2.2.2))]) (va_A [((mm 0), .inr (5, [.ref (mm 1), .ref (mm 2), .ref (mm 3), .ref (mm 4), .int (nI z), .ref (mm 5), .int ty, .int th, .int at0, .int fa, .ref (mm 6), .int ts, .ref (mm 7), .ref (mm 8), .ref (mm 9), .int fr])), ((mm 2), .inl (cI, 80, .inl v)), ((mm 4), .inl (cI, 480, .inl pv))] sz)) (va_A [((mm 0), .inr (5, [.ref (mm 1), .ref (mm 2), .ref (mm 3), .ref (mm 4), .int (nI z), .ref (mm 5), .int ty, .int th, .int at0, .int fa, .ref (mm 6), .int ts, .ref (mm 7), .ref (mm 8), .ref (mm 9), .int fr])), ((mm 2), .inl (cI, 80, .inl v)), ((mm 4), .inl (cI, 480, .inl pv))] sz)) 0 0 (va_A [((mm 0), .inr (5, [.ref (mm 1), .ref (mm 2), .ref (mm 3), .ref (mm 4), .int (nI z), .ref (mm 5), .int ty, .int th, .int at0, .int fa, .ref (mm 6), .int ts, .ref (mm 7), .ref (mm 8), .ref (mm 9), .int fr])), ((mm 2), .inl (cI, 80, .inl v)), ((mm 4), .inl (cI, 480, .inl pv))] sz) := by
  refine Met.ofW (cc := cX5_ambient) (maxL := 2) (ret := (some .int)) (by decide) rfl ?_
  intro p e s m args below meth c s₁ B hml hv
  obtain ⟨rfl, hsz, hP, hE, hD0, hpre⟩ := hv
  have hx := B.exec
  have hb := B.bytes
  have hr := B.returns
  have hts := atoms_spec (ws := wsX5_ambient) B.pre
  have hown : s.vm.findClass RX5 = some m.cls := findClass_of_methodNamed B.named
  have hlocks := B.notSynchronized
  have hK := hE.1
  subst hsz
  have hD := hD0.self (sz := s.heap.size)
  generalize hAe : va_A [((mm 0), .inr (5, [.ref (mm 1), .ref (mm 2), .ref (mm 3), .ref (mm 4), .int (nI z), .ref (mm 5), .int ty, .int th, .int at0, .int fa, .ref (mm 6), .int ts, .ref (mm 7), .ref (mm 8), .ref (mm 9), .int fr])), ((mm 2), .inl (cI, 80, .inl v)), ((mm 4), .inl (cI, 480, .inl pv))] s.heap.size = A at hD hE ⊢
  have hA : ∀ q : Nat, s.heap.size ≤ q → A q := fun q h => by rw [← hAe]; exact Or.inr h
  have hS : va_S A s.heap s.heap [] := va_S.rf
  have hP : va_P (dC, dI) vwCl [((mm 0), .inr (5, [.ref (mm 1), .ref (mm 2), .ref (mm 3), .ref (mm 4), .int (nI z), .ref (mm 5), .int ty, .int th, .int at0, .int fa, .ref (mm 6), .int ts, .ref (mm 7), .ref (mm 8), .ref (mm 9), .int fr])), ((mm 2), .inl (cI, 80, .inl v)), ((mm 4), .inl (cI, 480, .inl pv))] s.heap := hP
  have hin5 : ∀ w ∈ u_ws RX5 TX5 16, w ∈ wsX5_ambient := by decide +kernel
  have hl := lv_entry [.ref (mm 0), .int p0] (n := 2) (Nat.le_of_ble_eq_true rfl)
  rw [lg_entry_eq]
  generalize (lg_sl [.ref (mm 0), .int p0] ++ List.replicate (2 - (lg_sl [.ref (mm 0), .int p0]).length) Slot.unset).toArray = lz at hl ⊢
  have hl : lv_has lz 2 [(0, .ref (mm 0)), (1, .int p0)] := hl
  refine lv_aload_n hx hb dX5_ambient_0 rfl (lv_at hl 0 rfl) ?_
  refine lv_iconst (v := 0) hx hb dX5_ambient_1 (by decide) ?_
  refine va_put (D := (dC, dI)) (ci := 5) (v := .int 0) (ty := .int) (C := RX5) (T := TX5) (N := 16) hx hb hts hin5 tyX5 tyX5_ok nmX5 hown hK hP hD hS 0 rfl rfl 7 (by decide) (hts (.fieldLink RX5 37 "TurnDigitsModel" "thrown" "I") (by decide +kernel)) (fun _ h9 => h9) rfl (by decide +kernel) rfl rfl (Nat.le_of_ble_eq_true rfl) dX5_ambient_2 (fun H locs hP hD hS => ?_)
  have hP : va_P (dC, dI) vwCl [((mm 0), .inr (5, [.ref (mm 1), .ref (mm 2), .ref (mm 3), .ref (mm 4), .int (nI z), .ref (mm 5), .int ty, .int 0, .int at0, .int fa, .ref (mm 6), .int ts, .ref (mm 7), .ref (mm 8), .ref (mm 9), .int fr])), ((mm 2), .inl (cI, 80, .inl v)), ((mm 4), .inl (cI, 480, .inl pv))] H := hP
  have hD : va_D A [((mm 0), .inr (5, [.ref (mm 1), .ref (mm 2), .ref (mm 3), .ref (mm 4), .int (nI z), .ref (mm 5), .int ty, .int 0, .int at0, .int fa, .ref (mm 6), .int ts, .ref (mm 7), .ref (mm 8), .ref (mm 9), .int fr])), ((mm 2), .inl (cI, 80, .inl v)), ((mm 4), .inl (cI, 480, .inl pv))] := hD
  refine lv_iload_n hx hb dX5_ambient_5 rfl (lv_at hl 1 rfl) ?_
  refine lv_iconst (v := 0) hx hb dX5_ambient_6 (by decide) ?_
  refine lv_bipush (v := 20) hx hb dX5_ambient_7 (by decide) ?_
  have hPc := hP.sub (ws' := []) [] rfl
  refine W.callV ((va_runS (As := [.int p0, .int 0, .int 20]) (rest := []) ⟨hx, hb, hml, hown, hts⟩ (c_X5_in l dC dI cI cS cJ tt p0 0 20) (va_cwS 3 hts gX5_ambient_X5_in rfl rfl rfl (by decide +kernel) ⟨Nat.le_of_ble_eq_true rfl, Nat.le_of_ble_eq_true rfl⟩) ⟨xm_Rblind, fun U hU hW => ⟨rfl, by rw [hU]; exact hPc, hE.go hS (fun _ q => q.elim) hU hW, trivial⟩⟩ rfl rfl hl.1 rfl (lv_room (Nat.le_of_ble_eq_true rfl)) dX5_ambient_9 ⟨Nat.zero_le _, Nat.zero_le _⟩).run) ?_
  refine W.eq (g2 := F0 m 12 lz (.int (if xt_rg p0 0 20 = 0 then 1 else 0) :: [])) rfl ?_
  refine lv_if_ne (tgt := 21) hx hb dX5_ambient_12 (by decide) (fun q12 => ?_) (fun q12 => ?_)
  · have q12b : xt_rg p0 0 20 = 0 := xm_bT q12
    refine lv_aload_n hx hb dX5_ambient_21 rfl (lv_at hl 0 rfl) ?_
    have hPc := hP.sub (ws' := [((mm 0), .inr (5, [.ref (mm 1), .ref (mm 2), .ref (mm 3), .ref (mm 4), .int (nI z), .ref (mm 5), .int ty, .int 0, .int at0, .int fa, .ref (mm 6), .int ts, .ref (mm 7), .ref (mm 8), .ref (mm 9), .int fr])), ((mm 2), .inl (cI, 80, .inl v)), ((mm 4), .inl (cI, 480, .inl pv))]) [0, 1, 2] rfl
    have hDc := hD.sub (ws' := [((mm 0), .inr (5, [.ref (mm 1), .ref (mm 2), .ref (mm 3), .ref (mm 4), .int (nI z), .ref (mm 5), .int ty, .int 0, .int at0, .int fa, .ref (mm 6), .int ts, .ref (mm 7), .ref (mm 8), .ref (mm 9), .int fr])), ((mm 2), .inl (cI, 80, .inl v)), ((mm 4), .inl (cI, 480, .inl pv))]) [0, 1, 2] (by decide) rfl
    have hFc := va_free (wc := [((mm 0), .inr (5, [.ref (mm 1), .ref (mm 2), .ref (mm 3), .ref (mm 4), .int (nI z), .ref (mm 5), .int ty, .int 0, .int at0, .int fa, .ref (mm 6), .int ts, .ref (mm 7), .ref (mm 8), .ref (mm 9), .int fr])), ((mm 2), .inl (cI, 80, .inl v)), ((mm 4), .inl (cI, 480, .inl pv))]) hD hS hA [0, 1, 2] rfl
    refine va_callv (va_runV (As := []) (rest := []) ⟨hx, hb, hml, hown, hts⟩ (c_X5_saves l dC dI cI cS cJ tt H.size mm ty 0 at0 fa ts fr z v pv) (cwV 0 hts gX5_ambient_X5_saves rfl rfl rfl (by decide +kernel) ⟨Nat.le_of_ble_eq_true rfl, Nat.le_of_ble_eq_true rfl⟩) ⟨xm_Mblind, va_recv hK hPc (ci := 5) (q0 := 0) rfl rfl, fun U hU hW => ⟨rfl, by rw [hU], by rw [hU]; exact hPc, hE.go hS hFc hU hW, hDc.weaken (fun _ _ _ _ => trivial), hpre⟩⟩ rfl rfl hl.1 rfl (lv_room (Nat.le_of_ble_eq_true rfl)) dX5_ambient_22 ⟨Nat.zero_le _, Nat.zero_le _⟩) hS (fun q _ h => hFc q h) hFc (fun u t H1 locs ht hvm hw hB hz1 hk1 hS => ?_)
    obtain ⟨u_1, u_2⟩ := u
    obtain ⟨hP1, hD1⟩ := hB
    rw [ht] at hP1
    obtain ⟨hw_3, hw_4⟩ := hw
    have hw_3 : u_1 = nI (if z = 6 then 6 else z + 1) := hw_3
    subst hw_3
    have hw_4 : u_2 = mp_sv pv z v := hw_4
    subst hw_4
    obtain ⟨hP, hD⟩ := va_join (wr := []) (w1 := [((mm 0), .inr (5, [.ref (mm 1), .ref (mm 2), .ref (mm 3), .ref (mm 4), .int (nI (if z = 6 then 6 else z + 1)), .ref (mm 5), .int ty, .int 0, .int at0, .int fa, .ref (mm 6), .int ts, .ref (mm 7), .ref (mm 8), .ref (mm 9), .int fr])), ((mm 2), .inl (cI, 80, .inl v)), ((mm 4), .inl (cI, 480, .inl (mp_sv pv z v)))]) hP hD [0, 1, 2] [] rfl rfl (by decide) (by decide) hk1 hFc hP1 hD1
    generalize H1 = H at hP hS ⊢
    have hP : va_P (dC, dI) vwCl [((mm 0), .inr (5, [.ref (mm 1), .ref (mm 2), .ref (mm 3), .ref (mm 4), .int (nI (if z = 6 then 6 else z + 1)), .ref (mm 5), .int ty, .int 0, .int at0, .int fa, .ref (mm 6), .int ts, .ref (mm 7), .ref (mm 8), .ref (mm 9), .int fr])), ((mm 2), .inl (cI, 80, .inl v)), ((mm 4), .inl (cI, 480, .inl (mp_sv pv z v)))] H := hP
    have hD : va_D A [((mm 0), .inr (5, [.ref (mm 1), .ref (mm 2), .ref (mm 3), .ref (mm 4), .int (nI (if z = 6 then 6 else z + 1)), .ref (mm 5), .int ty, .int 0, .int at0, .int fa, .ref (mm 6), .int ts, .ref (mm 7), .ref (mm 8), .ref (mm 9), .int fr])), ((mm 2), .inl (cI, 80, .inl v)), ((mm 4), .inl (cI, 480, .inl (mp_sv pv z v)))] := hD
    refine lv_aload_n hx hb dX5_ambient_25 rfl (lv_at hl 0 rfl) ?_
    refine lv_iconst (v := 1) hx hb dX5_ambient_26 (by decide) ?_
    refine lv_iload_n hx hb dX5_ambient_27 rfl (lv_at hl 1 rfl) ?_
    have hPc := hP.sub (ws' := [((mm 0), .inr (5, [.ref (mm 1), .ref (mm 2), .ref (mm 3), .ref (mm 4), .int (nI (if z = 6 then 6 else z + 1)), .ref (mm 5), .int ty, .int 0, .int at0, .int fa, .ref (mm 6), .int ts, .ref (mm 7), .ref (mm 8), .ref (mm 9), .int fr])), ((mm 2), .inl (cI, 80, .inl v))]) [0, 1] rfl
    have hDc := hD.sub (ws' := [((mm 0), .inr (5, [.ref (mm 1), .ref (mm 2), .ref (mm 3), .ref (mm 4), .int (nI (if z = 6 then 6 else z + 1)), .ref (mm 5), .int ty, .int 0, .int at0, .int fa, .ref (mm 6), .int ts, .ref (mm 7), .ref (mm 8), .ref (mm 9), .int fr])), ((mm 2), .inl (cI, 80, .inl v))]) [0, 1] (by decide) rfl
    have hFc := va_free (wc := [((mm 0), .inr (5, [.ref (mm 1), .ref (mm 2), .ref (mm 3), .ref (mm 4), .int (nI (if z = 6 then 6 else z + 1)), .ref (mm 5), .int ty, .int 0, .int at0, .int fa, .ref (mm 6), .int ts, .ref (mm 7), .ref (mm 8), .ref (mm 9), .int fr])), ((mm 2), .inl (cI, 80, .inl v))]) hD hS hA [0, 1] rfl
    refine va_calli (va_runV (As := [.int 1, .int p0]) (rest := []) ⟨hx, hb, hml, hown, hts⟩ (c_X5_changes l dC dI cI cS cJ tt H.size mm (nI (if z = 6 then 6 else z + 1)) ty 0 at0 fa ts fr v 1 p0) (cwV 2 hts gX5_ambient_X5_changes rfl rfl rfl (by decide +kernel) ⟨Nat.le_of_ble_eq_true rfl, Nat.le_of_ble_eq_true rfl⟩) ⟨xm_Mblind, va_recv hK hPc (ci := 5) (q0 := 0) rfl rfl, fun U hU hW => ⟨rfl, by rw [hU], by rw [hU]; exact hPc, hE.go hS hFc hU hW, hDc.weaken (fun _ _ _ _ => trivial), (by decide)⟩⟩ rfl rfl hl.1 rfl (lv_room (Nat.le_of_ble_eq_true rfl)) dX5_ambient_28 ⟨Nat.zero_le _, Nat.zero_le _⟩) hS (fun q _ h => hFc q h) hFc (fun r u t H1 locs ht hvm hw hB hz1 hk1 hS => ?_)
    obtain ⟨u_5, rfl⟩ : ∃ z, z = u := ⟨_, rfl⟩
    obtain ⟨hP1, hD1⟩ := hB
    rw [ht] at hP1
    obtain ⟨hw_6, hw_7⟩ := hw
    have hw_6 : r = v 1 := hw_6
    subst hw_6
    have hw_7 : u_5 = upd v 1 p0 := hw_7
    subst hw_7
    obtain ⟨hP, hD⟩ := va_join (wr := [((mm 4), .inl (cI, 480, .inl (mp_sv pv z v)))]) (w1 := [((mm 0), .inr (5, [.ref (mm 1), .ref (mm 2), .ref (mm 3), .ref (mm 4), .int (nI (if z = 6 then 6 else z + 1)), .ref (mm 5), .int ty, .int 0, .int at0, .int fa, .ref (mm 6), .int ts, .ref (mm 7), .ref (mm 8), .ref (mm 9), .int fr])), ((mm 2), .inl (cI, 80, .inl (upd v 1 p0)))]) hP hD [0, 1] [2] rfl rfl (by decide) (by decide) hk1 hFc hP1 hD1
    generalize H1 = H at hP hS ⊢
    have hP : va_P (dC, dI) vwCl [((mm 4), .inl (cI, 480, .inl (mp_sv pv z v))), ((mm 0), .inr (5, [.ref (mm 1), .ref (mm 2), .ref (mm 3), .ref (mm 4), .int (nI (if z = 6 then 6 else z + 1)), .ref (mm 5), .int ty, .int 0, .int at0, .int fa, .ref (mm 6), .int ts, .ref (mm 7), .ref (mm 8), .ref (mm 9), .int fr])), ((mm 2), .inl (cI, 80, .inl (upd v 1 p0)))] H := hP
    have hD : va_D A [((mm 4), .inl (cI, 480, .inl (mp_sv pv z v))), ((mm 0), .inr (5, [.ref (mm 1), .ref (mm 2), .ref (mm 3), .ref (mm 4), .int (nI (if z = 6 then 6 else z + 1)), .ref (mm 5), .int ty, .int 0, .int at0, .int fa, .ref (mm 6), .int ts, .ref (mm 7), .ref (mm 8), .ref (mm 9), .int fr])), ((mm 2), .inl (cI, 80, .inl (upd v 1 p0)))] := hD
    have hc9 : xc_am p0 = 0 := by simp only [xc_am, if_pos q12b]
    have hP9 := hP.sub (ws' := [((mm 0), .inr (5, [.ref (mm 1), .ref (mm 2), .ref (mm 3), .ref (mm 4), .int (nI (if z = 6 then 6 else z + 1)), .ref (mm 5), .int ty, .int 0, .int at0, .int fa, .ref (mm 6), .int ts, .ref (mm 7), .ref (mm 8), .ref (mm 9), .int fr])), ((mm 2), .inl (cI, 80, .inl (upd v 1 p0))), ((mm 4), .inl (cI, 480, .inl (mp_sv pv z v)))]) [1, 2, 0] rfl
    have hD9 := hD.sub (ws' := [((mm 0), .inr (5, [.ref (mm 1), .ref (mm 2), .ref (mm 3), .ref (mm 4), .int (nI (if z = 6 then 6 else z + 1)), .ref (mm 5), .int ty, .int 0, .int at0, .int fa, .ref (mm 6), .int ts, .ref (mm 7), .ref (mm 8), .ref (mm 9), .int fr])), ((mm 2), .inl (cI, 80, .inl (upd v 1 p0))), ((mm 4), .inl (cI, 480, .inl (mp_sv pv z v)))]) [1, 2, 0] (by decide) rfl
    exact W.iret (v := v 1) hx hb hr (fun t ht hW => ⟨⟨v 1, (0, (nI (if z = 6 then 6 else z + 1)), (upd v 1 p0), (mp_sv pv z v)), rfl, ⟨(if_pos hc9).symm, (hc9.symm), (if_pos hc9).symm, (if_pos hc9).symm, (if_pos hc9).symm⟩, by rw [ht]; exact hP9, hD9⟩, hS.F ht⟩) hS.2.2 dX5_ambient_31
  · have q12b : ¬ xt_rg p0 0 20 = 0 := xm_bF q12
    refine lv_aload_n hx hb dX5_ambient_15 rfl (lv_at hl 0 rfl) ?_
    refine lv_iconst (v := 1) hx hb dX5_ambient_16 (by decide) ?_
    have hPc := hP.sub (ws' := [((mm 0), .inr (5, [.ref (mm 1), .ref (mm 2), .ref (mm 3), .ref (mm 4), .int (nI z), .ref (mm 5), .int ty, .int 0, .int at0, .int fa, .ref (mm 6), .int ts, .ref (mm 7), .ref (mm 8), .ref (mm 9), .int fr]))]) [0] rfl
    have hDc := hD.sub (ws' := [((mm 0), .inr (5, [.ref (mm 1), .ref (mm 2), .ref (mm 3), .ref (mm 4), .int (nI z), .ref (mm 5), .int ty, .int 0, .int at0, .int fa, .ref (mm 6), .int ts, .ref (mm 7), .ref (mm 8), .ref (mm 9), .int fr]))]) [0] (by decide) rfl
    have hFc := va_free (wc := [((mm 0), .inr (5, [.ref (mm 1), .ref (mm 2), .ref (mm 3), .ref (mm 4), .int (nI z), .ref (mm 5), .int ty, .int 0, .int at0, .int fa, .ref (mm 6), .int ts, .ref (mm 7), .ref (mm 8), .ref (mm 9), .int fr]))]) hD hS hA [0] rfl
    refine va_calli (va_runV (As := [.int 1]) (rest := []) ⟨hx, hb, hml, hown, hts⟩ (c_X5_fails l dC dI cI cS cJ tt H.size mm (nI z) ty 0 at0 fa ts fr 1) (cwV 1 hts gX5_ambient_X5_fails rfl rfl rfl (by decide +kernel) ⟨Nat.le_of_ble_eq_true rfl, Nat.le_of_ble_eq_true rfl⟩) ⟨xm_Mblind, va_recv hK hPc (ci := 5) (q0 := 0) rfl rfl, fun U hU hW => ⟨rfl, by rw [hU], by rw [hU]; exact hPc, hE.go hS hFc hU hW, hDc.weaken (fun _ _ _ _ => trivial), trivial⟩⟩ rfl rfl hl.1 rfl (lv_room (Nat.le_of_ble_eq_true rfl)) dX5_ambient_17 ⟨Nat.zero_le _, Nat.zero_le _⟩) hS (fun q _ h => hFc q h) hFc (fun r u t H1 locs ht hvm hw hB hz1 hk1 hS => ?_)
    obtain ⟨u_8, rfl⟩ : ∃ z, z = u := ⟨_, rfl⟩
    obtain ⟨hP1, hD1⟩ := hB
    rw [ht] at hP1
    obtain ⟨hw_9, hw_10⟩ := hw
    have hw_9 : r = 0 := hw_9
    subst hw_9
    have hw_10 : u_8 = 1 := hw_10
    subst hw_10
    obtain ⟨hP, hD⟩ := va_join (wr := [((mm 2), .inl (cI, 80, .inl v)), ((mm 4), .inl (cI, 480, .inl pv))]) (w1 := [((mm 0), .inr (5, [.ref (mm 1), .ref (mm 2), .ref (mm 3), .ref (mm 4), .int (nI z), .ref (mm 5), .int ty, .int 1, .int at0, .int fa, .ref (mm 6), .int ts, .ref (mm 7), .ref (mm 8), .ref (mm 9), .int fr]))]) hP hD [0] [1, 2] rfl rfl (by decide) (by decide) hk1 hFc hP1 hD1
    generalize H1 = H at hP hS ⊢
    have hP : va_P (dC, dI) vwCl [((mm 2), .inl (cI, 80, .inl v)), ((mm 4), .inl (cI, 480, .inl pv)), ((mm 0), .inr (5, [.ref (mm 1), .ref (mm 2), .ref (mm 3), .ref (mm 4), .int (nI z), .ref (mm 5), .int ty, .int 1, .int at0, .int fa, .ref (mm 6), .int ts, .ref (mm 7), .ref (mm 8), .ref (mm 9), .int fr]))] H := hP
    have hD : va_D A [((mm 2), .inl (cI, 80, .inl v)), ((mm 4), .inl (cI, 480, .inl pv)), ((mm 0), .inr (5, [.ref (mm 1), .ref (mm 2), .ref (mm 3), .ref (mm 4), .int (nI z), .ref (mm 5), .int ty, .int 1, .int at0, .int fa, .ref (mm 6), .int ts, .ref (mm 7), .ref (mm 8), .ref (mm 9), .int fr]))] := hD
    have hc9 : xc_am p0 = 1 := by simp only [xc_am, if_neg q12b]
    have hn9 : ¬ xc_am p0 = 0 := by rw [hc9]; decide
    have hP9 := hP.sub (ws' := [((mm 0), .inr (5, [.ref (mm 1), .ref (mm 2), .ref (mm 3), .ref (mm 4), .int (nI z), .ref (mm 5), .int ty, .int 1, .int at0, .int fa, .ref (mm 6), .int ts, .ref (mm 7), .ref (mm 8), .ref (mm 9), .int fr])), ((mm 2), .inl (cI, 80, .inl v)), ((mm 4), .inl (cI, 480, .inl pv))]) [2, 0, 1] rfl
    have hD9 := hD.sub (ws' := [((mm 0), .inr (5, [.ref (mm 1), .ref (mm 2), .ref (mm 3), .ref (mm 4), .int (nI z), .ref (mm 5), .int ty, .int 1, .int at0, .int fa, .ref (mm 6), .int ts, .ref (mm 7), .ref (mm 8), .ref (mm 9), .int fr])), ((mm 2), .inl (cI, 80, .inl v)), ((mm 4), .inl (cI, 480, .inl pv))]) [2, 0, 1] (by decide) rfl
    exact W.iret (v := 0) hx hb hr (fun t ht hW => ⟨⟨0, (1, (nI z), v, pv), rfl, ⟨(if_neg hn9).symm, (hc9.symm), (if_neg hn9).symm, (if_neg hn9).symm, (if_neg hn9).symm⟩, by rw [ht]; exact hP9, hD9⟩, hS.F ht⟩) hS.2.2 dX5_ambient_20

set_option maxHeartbeats 4000000 in
set_option maxRecDepth 100000 in
theorem c_X5_set (l : Launch) (dC : Nat → ClassId) (dI : Nat → Nat → Nat) (cI cS cJ : ClassId) (tt : Nat → Nat) (sz : Nat) (mm : Nat → Nat) (ty : Int32) (th : Int32) (at0 : Int32) (fa : Int32) (ts : Int32) (fr : Int32) (p0 : Int32) (p1 : Int32) (z : Nat) (v : Nat → Int32) (pv : Nat → Int32) : Met l yX5_set wsX5_set ({ frames := 2, cells := 0, slots := 0, locals := 43 } : Room) (va_Pc [.ref (mm 0), .int p0, .int p1] (xm_M (dC, dI) cI cS cJ tt [((mm 0), .inr (5, [.ref (mm 1), .ref (mm 2), .ref (mm 3), .ref (mm 4), .int (nI z), .ref (mm 5), .int ty, .int th, .int at0, .int fa, .ref (mm 6), .int ts, .ref (mm 7), .ref (mm 8), .ref (mm 9), .int fr])), ((mm 2), .inl (cI, 80, .inl v)), ((mm 4), .inl (cI, 480, .inl pv))] sz (z ≤ 6))) (va_Qi (fun (r : Int32) (u : Int32 × Int32 × (Nat → Int32) × (Nat → Int32)) => r = (if xc_se p0 p1 = 0 then v (2 + p0.toNatClampNeg) else 0) ∧ u.1 = xc_se p0 p1 ∧ u.2.1 = (if xc_se p0 p1 = 0 then (nI (if z = 6 then 6 else z + 1)) else (nI z)) ∧ u.2.2.1 = (if xc_se p0 p1 = 0 then (upd v (2 + p0.toNatClampNeg) p1) else v) ∧ u.2.2.2 = (if xc_se p0 p1 = 0 then (mp_sv pv z v) else pv)) (xm_B (dC, dI) (fun (u : Int32 × Int32 × (Nat → Int32) × (Nat → Int32)) => [((mm 0), .inr (5, [.ref (mm 1), .ref (mm 2), .ref (mm 3), .ref (mm 4), .int u.2.1, .ref (mm 5), .int ty, .int u.1, .int at0, .int fa, .ref (mm 6), .int ts, .ref (mm 7), .ref (mm 8), .ref (mm 9), .int fr])), ((mm 2), .inl (cI, 80, .inl u.2.2.1)), ((mm 4), .inl (cI, 480, .inl u.2.2.2))]) (va_A [((mm 0), .inr (5, [.ref (mm 1), .ref (mm 2), .ref (mm 3), .ref (mm 4), .int (nI z), .ref (mm 5), .int ty, .int th, .int at0, .int fa, .ref (mm 6), .int ts, .ref (mm 7), .ref (mm 8), .ref (mm 9), .int fr])), ((mm 2), .inl (cI, 80, .inl v)), ((mm 4), .inl (cI, 480, .inl pv))] sz)) (va_A [((mm 0), .inr (5, [.ref (mm 1), .ref (mm 2), .ref (mm 3), .ref (mm 4), .int (nI z), .ref (mm 5), .int ty, .int th, .int at0, .int fa, .ref (mm 6), .int ts, .ref (mm 7), .ref (mm 8), .ref (mm 9), .int fr])), ((mm 2), .inl (cI, 80, .inl v)), ((mm 4), .inl (cI, 480, .inl pv))] sz)) 0 0 (va_A [((mm 0), .inr (5, [.ref (mm 1), .ref (mm 2), .ref (mm 3), .ref (mm 4), .int (nI z), .ref (mm 5), .int ty, .int th, .int at0, .int fa, .ref (mm 6), .int ts, .ref (mm 7), .ref (mm 8), .ref (mm 9), .int fr])), ((mm 2), .inl (cI, 80, .inl v)), ((mm 4), .inl (cI, 480, .inl pv))] sz) := by
  refine Met.ofW (cc := cX5_set) (maxL := 3) (ret := (some .int)) (by decide) rfl ?_
  intro p e s m args below meth c s₁ B hml hv
  obtain ⟨rfl, hsz, hP, hE, hD0, hpre⟩ := hv
  have hx := B.exec
  have hb := B.bytes
  have hr := B.returns
  have hts := atoms_spec (ws := wsX5_set) B.pre
  have hown : s.vm.findClass RX5 = some m.cls := findClass_of_methodNamed B.named
  have hlocks := B.notSynchronized
  have hK := hE.1
  subst hsz
  have hD := hD0.self (sz := s.heap.size)
  generalize hAe : va_A [((mm 0), .inr (5, [.ref (mm 1), .ref (mm 2), .ref (mm 3), .ref (mm 4), .int (nI z), .ref (mm 5), .int ty, .int th, .int at0, .int fa, .ref (mm 6), .int ts, .ref (mm 7), .ref (mm 8), .ref (mm 9), .int fr])), ((mm 2), .inl (cI, 80, .inl v)), ((mm 4), .inl (cI, 480, .inl pv))] s.heap.size = A at hD hE ⊢
  have hA : ∀ q : Nat, s.heap.size ≤ q → A q := fun q h => by rw [← hAe]; exact Or.inr h
  have hS : va_S A s.heap s.heap [] := va_S.rf
  have hP : va_P (dC, dI) vwCl [((mm 0), .inr (5, [.ref (mm 1), .ref (mm 2), .ref (mm 3), .ref (mm 4), .int (nI z), .ref (mm 5), .int ty, .int th, .int at0, .int fa, .ref (mm 6), .int ts, .ref (mm 7), .ref (mm 8), .ref (mm 9), .int fr])), ((mm 2), .inl (cI, 80, .inl v)), ((mm 4), .inl (cI, 480, .inl pv))] s.heap := hP
  have hin5 : ∀ w ∈ u_ws RX5 TX5 16, w ∈ wsX5_set := by decide +kernel
  have hl := lv_entry [.ref (mm 0), .int p0, .int p1] (n := 3) (Nat.le_of_ble_eq_true rfl)
  rw [lg_entry_eq]
  generalize (lg_sl [.ref (mm 0), .int p0, .int p1] ++ List.replicate (3 - (lg_sl [.ref (mm 0), .int p0, .int p1]).length) Slot.unset).toArray = lz at hl ⊢
  have hl : lv_has lz 3 [(0, .ref (mm 0)), (1, .int p0), (2, .int p1)] := hl
  refine lv_aload_n hx hb dX5_set_0 rfl (lv_at hl 0 rfl) ?_
  refine lv_iconst (v := 0) hx hb dX5_set_1 (by decide) ?_
  refine va_put (D := (dC, dI)) (ci := 5) (v := .int 0) (ty := .int) (C := RX5) (T := TX5) (N := 16) hx hb hts hin5 tyX5 tyX5_ok nmX5 hown hK hP hD hS 0 rfl rfl 7 (by decide) (hts (.fieldLink RX5 37 "TurnDigitsModel" "thrown" "I") (by decide +kernel)) (fun _ h9 => h9) rfl (by decide +kernel) rfl rfl (Nat.le_of_ble_eq_true rfl) dX5_set_2 (fun H locs hP hD hS => ?_)
  have hP : va_P (dC, dI) vwCl [((mm 0), .inr (5, [.ref (mm 1), .ref (mm 2), .ref (mm 3), .ref (mm 4), .int (nI z), .ref (mm 5), .int ty, .int 0, .int at0, .int fa, .ref (mm 6), .int ts, .ref (mm 7), .ref (mm 8), .ref (mm 9), .int fr])), ((mm 2), .inl (cI, 80, .inl v)), ((mm 4), .inl (cI, 480, .inl pv))] H := hP
  have hD : va_D A [((mm 0), .inr (5, [.ref (mm 1), .ref (mm 2), .ref (mm 3), .ref (mm 4), .int (nI z), .ref (mm 5), .int ty, .int 0, .int at0, .int fa, .ref (mm 6), .int ts, .ref (mm 7), .ref (mm 8), .ref (mm 9), .int fr])), ((mm 2), .inl (cI, 80, .inl v)), ((mm 4), .inl (cI, 480, .inl pv))] := hD
  refine lv_iload_n hx hb dX5_set_5 rfl (lv_at hl 1 rfl) ?_
  refine lv_iconst (v := 0) hx hb dX5_set_6 (by decide) ?_
  refine lv_iconst (v := 4) hx hb dX5_set_7 (by decide) ?_
  have hPc := hP.sub (ws' := []) [] rfl
  refine W.callV ((va_runS (As := [.int p0, .int 0, .int 4]) (rest := []) ⟨hx, hb, hml, hown, hts⟩ (c_X5_in l dC dI cI cS cJ tt p0 0 4) (va_cwS 3 hts gX5_set_X5_in rfl rfl rfl (by decide +kernel) ⟨Nat.le_of_ble_eq_true rfl, Nat.le_of_ble_eq_true rfl⟩) ⟨xm_Rblind, fun U hU hW => ⟨rfl, by rw [hU]; exact hPc, hE.go hS (fun _ q => q.elim) hU hW, trivial⟩⟩ rfl rfl hl.1 rfl (lv_room (Nat.le_of_ble_eq_true rfl)) dX5_set_8 ⟨Nat.zero_le _, Nat.zero_le _⟩).run) ?_
  refine W.eq (g2 := F0 m 11 lz (.int (if xt_rg p0 0 4 = 0 then 1 else 0) :: [])) rfl ?_
  refine xm_topi (y := (if xt_dg 5 p0 = 0 then 1 else 0)) (by rw [show xt_rg p0 0 4 = xt_dg 5 p0 from mi_rd 4 (by decide) p0]) ?_
  refine lv_if_ne (tgt := 20) hx hb dX5_set_11 (by decide) (fun q11 => ?_) (fun q11 => ?_)
  · have q11b : xt_dg 5 p0 = 0 := xm_bT q11
    refine lv_iload_n hx hb dX5_set_20 rfl (lv_at hl 1 rfl) ?_
    refine xm_topi (y := (nI p0.toNatClampNeg)) (xt_dg_ok (n := 5) (by decide) q11b).1 ?_
    refine lv_iload_n hx hb dX5_set_21 rfl (lv_at hl 2 rfl) ?_
    have hPc := hP.sub (ws' := []) [] rfl
    refine W.callV ((va_runS (As := [.int (nI p0.toNatClampNeg), .int p1]) (rest := []) ⟨hx, hb, hml, hown, hts⟩ (c_X5_isFor l dC dI cI cS cJ tt p0.toNatClampNeg p1) (va_cwS 2 hts gX5_set_X5_isFor rfl rfl rfl (by decide +kernel) ⟨Nat.le_of_ble_eq_true rfl, Nat.le_of_ble_eq_true rfl⟩) ⟨xm_Rblind, fun U hU hW => ⟨rfl, by rw [hU]; exact hPc, hE.go hS (fun _ q => q.elim) hU hW, (xt_dg_ok (n := 5) (by decide) q11b).2⟩⟩ rfl rfl hl.1 rfl (lv_room (Nat.le_of_ble_eq_true rfl)) dX5_set_22 ⟨Nat.zero_le _, Nat.zero_le _⟩).run) ?_
    refine W.eq (g2 := F0 m 25 lz (.int (if xt_rg p1 (xm_lo p0.toNatClampNeg) (xm_hi p0.toNatClampNeg) = 0 then 1 else 0) :: [])) rfl ?_
    refine lv_if_ne (tgt := 34) hx hb dX5_set_25 (by decide) (fun q25 => ?_) (fun q25 => ?_)
    · have q25b : xt_rg p1 (xm_lo p0.toNatClampNeg) (xm_hi p0.toNatClampNeg) = 0 := xm_bT q25
      refine lv_aload_n hx hb dX5_set_34 rfl (lv_at hl 0 rfl) ?_
      have hPc := hP.sub (ws' := [((mm 0), .inr (5, [.ref (mm 1), .ref (mm 2), .ref (mm 3), .ref (mm 4), .int (nI z), .ref (mm 5), .int ty, .int 0, .int at0, .int fa, .ref (mm 6), .int ts, .ref (mm 7), .ref (mm 8), .ref (mm 9), .int fr])), ((mm 2), .inl (cI, 80, .inl v)), ((mm 4), .inl (cI, 480, .inl pv))]) [0, 1, 2] rfl
      have hDc := hD.sub (ws' := [((mm 0), .inr (5, [.ref (mm 1), .ref (mm 2), .ref (mm 3), .ref (mm 4), .int (nI z), .ref (mm 5), .int ty, .int 0, .int at0, .int fa, .ref (mm 6), .int ts, .ref (mm 7), .ref (mm 8), .ref (mm 9), .int fr])), ((mm 2), .inl (cI, 80, .inl v)), ((mm 4), .inl (cI, 480, .inl pv))]) [0, 1, 2] (by decide) rfl
      have hFc := va_free (wc := [((mm 0), .inr (5, [.ref (mm 1), .ref (mm 2), .ref (mm 3), .ref (mm 4), .int (nI z), .ref (mm 5), .int ty, .int 0, .int at0, .int fa, .ref (mm 6), .int ts, .ref (mm 7), .ref (mm 8), .ref (mm 9), .int fr])), ((mm 2), .inl (cI, 80, .inl v)), ((mm 4), .inl (cI, 480, .inl pv))]) hD hS hA [0, 1, 2] rfl
      refine va_callv (va_runV (As := []) (rest := []) ⟨hx, hb, hml, hown, hts⟩ (c_X5_saves l dC dI cI cS cJ tt H.size mm ty 0 at0 fa ts fr z v pv) (cwV 0 hts gX5_set_X5_saves rfl rfl rfl (by decide +kernel) ⟨Nat.le_of_ble_eq_true rfl, Nat.le_of_ble_eq_true rfl⟩) ⟨xm_Mblind, va_recv hK hPc (ci := 5) (q0 := 0) rfl rfl, fun U hU hW => ⟨rfl, by rw [hU], by rw [hU]; exact hPc, hE.go hS hFc hU hW, hDc.weaken (fun _ _ _ _ => trivial), hpre⟩⟩ rfl rfl hl.1 rfl (lv_room (Nat.le_of_ble_eq_true rfl)) dX5_set_35 ⟨Nat.zero_le _, Nat.zero_le _⟩) hS (fun q _ h => hFc q h) hFc (fun u t H1 locs ht hvm hw hB hz1 hk1 hS => ?_)
      obtain ⟨u_1, u_2⟩ := u
      obtain ⟨hP1, hD1⟩ := hB
      rw [ht] at hP1
      obtain ⟨hw_3, hw_4⟩ := hw
      have hw_3 : u_1 = nI (if z = 6 then 6 else z + 1) := hw_3
      subst hw_3
      have hw_4 : u_2 = mp_sv pv z v := hw_4
      subst hw_4
      obtain ⟨hP, hD⟩ := va_join (wr := []) (w1 := [((mm 0), .inr (5, [.ref (mm 1), .ref (mm 2), .ref (mm 3), .ref (mm 4), .int (nI (if z = 6 then 6 else z + 1)), .ref (mm 5), .int ty, .int 0, .int at0, .int fa, .ref (mm 6), .int ts, .ref (mm 7), .ref (mm 8), .ref (mm 9), .int fr])), ((mm 2), .inl (cI, 80, .inl v)), ((mm 4), .inl (cI, 480, .inl (mp_sv pv z v)))]) hP hD [0, 1, 2] [] rfl rfl (by decide) (by decide) hk1 hFc hP1 hD1
      generalize H1 = H at hP hS ⊢
      have hP : va_P (dC, dI) vwCl [((mm 0), .inr (5, [.ref (mm 1), .ref (mm 2), .ref (mm 3), .ref (mm 4), .int (nI (if z = 6 then 6 else z + 1)), .ref (mm 5), .int ty, .int 0, .int at0, .int fa, .ref (mm 6), .int ts, .ref (mm 7), .ref (mm 8), .ref (mm 9), .int fr])), ((mm 2), .inl (cI, 80, .inl v)), ((mm 4), .inl (cI, 480, .inl (mp_sv pv z v)))] H := hP
      have hD : va_D A [((mm 0), .inr (5, [.ref (mm 1), .ref (mm 2), .ref (mm 3), .ref (mm 4), .int (nI (if z = 6 then 6 else z + 1)), .ref (mm 5), .int ty, .int 0, .int at0, .int fa, .ref (mm 6), .int ts, .ref (mm 7), .ref (mm 8), .ref (mm 9), .int fr])), ((mm 2), .inl (cI, 80, .inl v)), ((mm 4), .inl (cI, 480, .inl (mp_sv pv z v)))] := hD
      refine lv_aload_n hx hb dX5_set_38 rfl (lv_at hl 0 rfl) ?_
      refine lv_iconst (v := 2) hx hb dX5_set_39 (by decide) ?_
      refine lv_iload_n hx hb dX5_set_40 rfl (lv_at hl 1 rfl) ?_
      refine xm_topi (y := (nI p0.toNatClampNeg)) (xt_dg_ok (n := 5) (by decide) q11b).1 ?_
      refine lv_iadd hx hb dX5_set_41 ?_
      refine xm_topi (y := nI (2 + p0.toNatClampNeg)) (nI_add 2 p0.toNatClampNeg) ?_
      refine lv_iload_n hx hb dX5_set_42 rfl (lv_at hl 2 rfl) ?_
      have hPc := hP.sub (ws' := [((mm 0), .inr (5, [.ref (mm 1), .ref (mm 2), .ref (mm 3), .ref (mm 4), .int (nI (if z = 6 then 6 else z + 1)), .ref (mm 5), .int ty, .int 0, .int at0, .int fa, .ref (mm 6), .int ts, .ref (mm 7), .ref (mm 8), .ref (mm 9), .int fr])), ((mm 2), .inl (cI, 80, .inl v))]) [0, 1] rfl
      have hDc := hD.sub (ws' := [((mm 0), .inr (5, [.ref (mm 1), .ref (mm 2), .ref (mm 3), .ref (mm 4), .int (nI (if z = 6 then 6 else z + 1)), .ref (mm 5), .int ty, .int 0, .int at0, .int fa, .ref (mm 6), .int ts, .ref (mm 7), .ref (mm 8), .ref (mm 9), .int fr])), ((mm 2), .inl (cI, 80, .inl v))]) [0, 1] (by decide) rfl
      have hFc := va_free (wc := [((mm 0), .inr (5, [.ref (mm 1), .ref (mm 2), .ref (mm 3), .ref (mm 4), .int (nI (if z = 6 then 6 else z + 1)), .ref (mm 5), .int ty, .int 0, .int at0, .int fa, .ref (mm 6), .int ts, .ref (mm 7), .ref (mm 8), .ref (mm 9), .int fr])), ((mm 2), .inl (cI, 80, .inl v))]) hD hS hA [0, 1] rfl
      refine va_calli (va_runV (As := [.int (nI (2 + p0.toNatClampNeg)), .int p1]) (rest := []) ⟨hx, hb, hml, hown, hts⟩ (c_X5_changes l dC dI cI cS cJ tt H.size mm (nI (if z = 6 then 6 else z + 1)) ty 0 at0 fa ts fr v (2 + p0.toNatClampNeg) p1) (cwV 2 hts gX5_set_X5_changes rfl rfl rfl (by decide +kernel) ⟨Nat.le_of_ble_eq_true rfl, Nat.le_of_ble_eq_true rfl⟩) ⟨xm_Mblind, va_recv hK hPc (ci := 5) (q0 := 0) rfl rfl, fun U hU hW => ⟨rfl, by rw [hU], by rw [hU]; exact hPc, hE.go hS hFc hU hW, hDc.weaken (fun _ _ _ _ => trivial), (by have := (xt_dg_ok (n := 5) (by decide) q11b).2; omega)⟩⟩ rfl rfl hl.1 rfl (lv_room (Nat.le_of_ble_eq_true rfl)) dX5_set_43 ⟨Nat.zero_le _, Nat.zero_le _⟩) hS (fun q _ h => hFc q h) hFc (fun r u t H1 locs ht hvm hw hB hz1 hk1 hS => ?_)
      obtain ⟨u_5, rfl⟩ : ∃ z, z = u := ⟨_, rfl⟩
      obtain ⟨hP1, hD1⟩ := hB
      rw [ht] at hP1
      obtain ⟨hw_6, hw_7⟩ := hw
      have hw_6 : r = v (2 + p0.toNatClampNeg) := hw_6
      subst hw_6
      have hw_7 : u_5 = upd v (2 + p0.toNatClampNeg) p1 := hw_7
      subst hw_7
      obtain ⟨hP, hD⟩ := va_join (wr := [((mm 4), .inl (cI, 480, .inl (mp_sv pv z v)))]) (w1 := [((mm 0), .inr (5, [.ref (mm 1), .ref (mm 2), .ref (mm 3), .ref (mm 4), .int (nI (if z = 6 then 6 else z + 1)), .ref (mm 5), .int ty, .int 0, .int at0, .int fa, .ref (mm 6), .int ts, .ref (mm 7), .ref (mm 8), .ref (mm 9), .int fr])), ((mm 2), .inl (cI, 80, .inl (upd v (2 + p0.toNatClampNeg) p1)))]) hP hD [0, 1] [2] rfl rfl (by decide) (by decide) hk1 hFc hP1 hD1
      generalize H1 = H at hP hS ⊢
      have hP : va_P (dC, dI) vwCl [((mm 4), .inl (cI, 480, .inl (mp_sv pv z v))), ((mm 0), .inr (5, [.ref (mm 1), .ref (mm 2), .ref (mm 3), .ref (mm 4), .int (nI (if z = 6 then 6 else z + 1)), .ref (mm 5), .int ty, .int 0, .int at0, .int fa, .ref (mm 6), .int ts, .ref (mm 7), .ref (mm 8), .ref (mm 9), .int fr])), ((mm 2), .inl (cI, 80, .inl (upd v (2 + p0.toNatClampNeg) p1)))] H := hP
      have hD : va_D A [((mm 4), .inl (cI, 480, .inl (mp_sv pv z v))), ((mm 0), .inr (5, [.ref (mm 1), .ref (mm 2), .ref (mm 3), .ref (mm 4), .int (nI (if z = 6 then 6 else z + 1)), .ref (mm 5), .int ty, .int 0, .int at0, .int fa, .ref (mm 6), .int ts, .ref (mm 7), .ref (mm 8), .ref (mm 9), .int fr])), ((mm 2), .inl (cI, 80, .inl (upd v (2 + p0.toNatClampNeg) p1)))] := hD
      have hc9 : xc_se p0 p1 = 0 := by simp only [xc_se, if_pos q11b, if_pos q25b]
      have hP9 := hP.sub (ws' := [((mm 0), .inr (5, [.ref (mm 1), .ref (mm 2), .ref (mm 3), .ref (mm 4), .int (nI (if z = 6 then 6 else z + 1)), .ref (mm 5), .int ty, .int 0, .int at0, .int fa, .ref (mm 6), .int ts, .ref (mm 7), .ref (mm 8), .ref (mm 9), .int fr])), ((mm 2), .inl (cI, 80, .inl (upd v (2 + p0.toNatClampNeg) p1))), ((mm 4), .inl (cI, 480, .inl (mp_sv pv z v)))]) [1, 2, 0] rfl
      have hD9 := hD.sub (ws' := [((mm 0), .inr (5, [.ref (mm 1), .ref (mm 2), .ref (mm 3), .ref (mm 4), .int (nI (if z = 6 then 6 else z + 1)), .ref (mm 5), .int ty, .int 0, .int at0, .int fa, .ref (mm 6), .int ts, .ref (mm 7), .ref (mm 8), .ref (mm 9), .int fr])), ((mm 2), .inl (cI, 80, .inl (upd v (2 + p0.toNatClampNeg) p1))), ((mm 4), .inl (cI, 480, .inl (mp_sv pv z v)))]) [1, 2, 0] (by decide) rfl
      exact W.iret (v := v (2 + p0.toNatClampNeg)) hx hb hr (fun t ht hW => ⟨⟨v (2 + p0.toNatClampNeg), (0, (nI (if z = 6 then 6 else z + 1)), (upd v (2 + p0.toNatClampNeg) p1), (mp_sv pv z v)), rfl, ⟨(if_pos hc9).symm, (hc9.symm), (if_pos hc9).symm, (if_pos hc9).symm, (if_pos hc9).symm⟩, by rw [ht]; exact hP9, hD9⟩, hS.F ht⟩) hS.2.2 dX5_set_46
    · have q25b : ¬ xt_rg p1 (xm_lo p0.toNatClampNeg) (xm_hi p0.toNatClampNeg) = 0 := xm_bF q25
      refine lv_aload_n hx hb dX5_set_28 rfl (lv_at hl 0 rfl) ?_
      refine lv_iconst (v := 2) hx hb dX5_set_29 (by decide) ?_
      have hPc := hP.sub (ws' := [((mm 0), .inr (5, [.ref (mm 1), .ref (mm 2), .ref (mm 3), .ref (mm 4), .int (nI z), .ref (mm 5), .int ty, .int 0, .int at0, .int fa, .ref (mm 6), .int ts, .ref (mm 7), .ref (mm 8), .ref (mm 9), .int fr]))]) [0] rfl
      have hDc := hD.sub (ws' := [((mm 0), .inr (5, [.ref (mm 1), .ref (mm 2), .ref (mm 3), .ref (mm 4), .int (nI z), .ref (mm 5), .int ty, .int 0, .int at0, .int fa, .ref (mm 6), .int ts, .ref (mm 7), .ref (mm 8), .ref (mm 9), .int fr]))]) [0] (by decide) rfl
      have hFc := va_free (wc := [((mm 0), .inr (5, [.ref (mm 1), .ref (mm 2), .ref (mm 3), .ref (mm 4), .int (nI z), .ref (mm 5), .int ty, .int 0, .int at0, .int fa, .ref (mm 6), .int ts, .ref (mm 7), .ref (mm 8), .ref (mm 9), .int fr]))]) hD hS hA [0] rfl
      refine va_calli (va_runV (As := [.int 2]) (rest := []) ⟨hx, hb, hml, hown, hts⟩ (c_X5_fails l dC dI cI cS cJ tt H.size mm (nI z) ty 0 at0 fa ts fr 2) (cwV 1 hts gX5_set_X5_fails rfl rfl rfl (by decide +kernel) ⟨Nat.le_of_ble_eq_true rfl, Nat.le_of_ble_eq_true rfl⟩) ⟨xm_Mblind, va_recv hK hPc (ci := 5) (q0 := 0) rfl rfl, fun U hU hW => ⟨rfl, by rw [hU], by rw [hU]; exact hPc, hE.go hS hFc hU hW, hDc.weaken (fun _ _ _ _ => trivial), trivial⟩⟩ rfl rfl hl.1 rfl (lv_room (Nat.le_of_ble_eq_true rfl)) dX5_set_30 ⟨Nat.zero_le _, Nat.zero_le _⟩) hS (fun q _ h => hFc q h) hFc (fun r u t H1 locs ht hvm hw hB hz1 hk1 hS => ?_)
      obtain ⟨u_8, rfl⟩ : ∃ z, z = u := ⟨_, rfl⟩
      obtain ⟨hP1, hD1⟩ := hB
      rw [ht] at hP1
      obtain ⟨hw_9, hw_10⟩ := hw
      have hw_9 : r = 0 := hw_9
      subst hw_9
      have hw_10 : u_8 = 2 := hw_10
      subst hw_10
      obtain ⟨hP, hD⟩ := va_join (wr := [((mm 2), .inl (cI, 80, .inl v)), ((mm 4), .inl (cI, 480, .inl pv))]) (w1 := [((mm 0), .inr (5, [.ref (mm 1), .ref (mm 2), .ref (mm 3), .ref (mm 4), .int (nI z), .ref (mm 5), .int ty, .int 2, .int at0, .int fa, .ref (mm 6), .int ts, .ref (mm 7), .ref (mm 8), .ref (mm 9), .int fr]))]) hP hD [0] [1, 2] rfl rfl (by decide) (by decide) hk1 hFc hP1 hD1
      generalize H1 = H at hP hS ⊢
      have hP : va_P (dC, dI) vwCl [((mm 2), .inl (cI, 80, .inl v)), ((mm 4), .inl (cI, 480, .inl pv)), ((mm 0), .inr (5, [.ref (mm 1), .ref (mm 2), .ref (mm 3), .ref (mm 4), .int (nI z), .ref (mm 5), .int ty, .int 2, .int at0, .int fa, .ref (mm 6), .int ts, .ref (mm 7), .ref (mm 8), .ref (mm 9), .int fr]))] H := hP
      have hD : va_D A [((mm 2), .inl (cI, 80, .inl v)), ((mm 4), .inl (cI, 480, .inl pv)), ((mm 0), .inr (5, [.ref (mm 1), .ref (mm 2), .ref (mm 3), .ref (mm 4), .int (nI z), .ref (mm 5), .int ty, .int 2, .int at0, .int fa, .ref (mm 6), .int ts, .ref (mm 7), .ref (mm 8), .ref (mm 9), .int fr]))] := hD
      have hc9 : xc_se p0 p1 = 2 := by simp only [xc_se, if_pos q11b, if_neg q25b]
      have hn9 : ¬ xc_se p0 p1 = 0 := by rw [hc9]; decide
      have hP9 := hP.sub (ws' := [((mm 0), .inr (5, [.ref (mm 1), .ref (mm 2), .ref (mm 3), .ref (mm 4), .int (nI z), .ref (mm 5), .int ty, .int 2, .int at0, .int fa, .ref (mm 6), .int ts, .ref (mm 7), .ref (mm 8), .ref (mm 9), .int fr])), ((mm 2), .inl (cI, 80, .inl v)), ((mm 4), .inl (cI, 480, .inl pv))]) [2, 0, 1] rfl
      have hD9 := hD.sub (ws' := [((mm 0), .inr (5, [.ref (mm 1), .ref (mm 2), .ref (mm 3), .ref (mm 4), .int (nI z), .ref (mm 5), .int ty, .int 2, .int at0, .int fa, .ref (mm 6), .int ts, .ref (mm 7), .ref (mm 8), .ref (mm 9), .int fr])), ((mm 2), .inl (cI, 80, .inl v)), ((mm 4), .inl (cI, 480, .inl pv))]) [2, 0, 1] (by decide) rfl
      exact W.iret (v := 0) hx hb hr (fun t ht hW => ⟨⟨0, (2, (nI z), v, pv), rfl, ⟨(if_neg hn9).symm, (hc9.symm), (if_neg hn9).symm, (if_neg hn9).symm, (if_neg hn9).symm⟩, by rw [ht]; exact hP9, hD9⟩, hS.F ht⟩) hS.2.2 dX5_set_33
  · have q11b : ¬ xt_dg 5 p0 = 0 := xm_bF q11
    refine lv_aload_n hx hb dX5_set_14 rfl (lv_at hl 0 rfl) ?_
    refine lv_iconst (v := 1) hx hb dX5_set_15 (by decide) ?_
    have hPc := hP.sub (ws' := [((mm 0), .inr (5, [.ref (mm 1), .ref (mm 2), .ref (mm 3), .ref (mm 4), .int (nI z), .ref (mm 5), .int ty, .int 0, .int at0, .int fa, .ref (mm 6), .int ts, .ref (mm 7), .ref (mm 8), .ref (mm 9), .int fr]))]) [0] rfl
    have hDc := hD.sub (ws' := [((mm 0), .inr (5, [.ref (mm 1), .ref (mm 2), .ref (mm 3), .ref (mm 4), .int (nI z), .ref (mm 5), .int ty, .int 0, .int at0, .int fa, .ref (mm 6), .int ts, .ref (mm 7), .ref (mm 8), .ref (mm 9), .int fr]))]) [0] (by decide) rfl
    have hFc := va_free (wc := [((mm 0), .inr (5, [.ref (mm 1), .ref (mm 2), .ref (mm 3), .ref (mm 4), .int (nI z), .ref (mm 5), .int ty, .int 0, .int at0, .int fa, .ref (mm 6), .int ts, .ref (mm 7), .ref (mm 8), .ref (mm 9), .int fr]))]) hD hS hA [0] rfl
    refine va_calli (va_runV (As := [.int 1]) (rest := []) ⟨hx, hb, hml, hown, hts⟩ (c_X5_fails l dC dI cI cS cJ tt H.size mm (nI z) ty 0 at0 fa ts fr 1) (cwV 1 hts gX5_set_X5_fails rfl rfl rfl (by decide +kernel) ⟨Nat.le_of_ble_eq_true rfl, Nat.le_of_ble_eq_true rfl⟩) ⟨xm_Mblind, va_recv hK hPc (ci := 5) (q0 := 0) rfl rfl, fun U hU hW => ⟨rfl, by rw [hU], by rw [hU]; exact hPc, hE.go hS hFc hU hW, hDc.weaken (fun _ _ _ _ => trivial), trivial⟩⟩ rfl rfl hl.1 rfl (lv_room (Nat.le_of_ble_eq_true rfl)) dX5_set_16 ⟨Nat.zero_le _, Nat.zero_le _⟩) hS (fun q _ h => hFc q h) hFc (fun r u t H1 locs ht hvm hw hB hz1 hk1 hS => ?_)
    obtain ⟨u_11, rfl⟩ : ∃ z, z = u := ⟨_, rfl⟩
    obtain ⟨hP1, hD1⟩ := hB
    rw [ht] at hP1
    obtain ⟨hw_12, hw_13⟩ := hw
    have hw_12 : r = 0 := hw_12
    subst hw_12
    have hw_13 : u_11 = 1 := hw_13
    subst hw_13
    obtain ⟨hP, hD⟩ := va_join (wr := [((mm 2), .inl (cI, 80, .inl v)), ((mm 4), .inl (cI, 480, .inl pv))]) (w1 := [((mm 0), .inr (5, [.ref (mm 1), .ref (mm 2), .ref (mm 3), .ref (mm 4), .int (nI z), .ref (mm 5), .int ty, .int 1, .int at0, .int fa, .ref (mm 6), .int ts, .ref (mm 7), .ref (mm 8), .ref (mm 9), .int fr]))]) hP hD [0] [1, 2] rfl rfl (by decide) (by decide) hk1 hFc hP1 hD1
    generalize H1 = H at hP hS ⊢
    have hP : va_P (dC, dI) vwCl [((mm 2), .inl (cI, 80, .inl v)), ((mm 4), .inl (cI, 480, .inl pv)), ((mm 0), .inr (5, [.ref (mm 1), .ref (mm 2), .ref (mm 3), .ref (mm 4), .int (nI z), .ref (mm 5), .int ty, .int 1, .int at0, .int fa, .ref (mm 6), .int ts, .ref (mm 7), .ref (mm 8), .ref (mm 9), .int fr]))] H := hP
    have hD : va_D A [((mm 2), .inl (cI, 80, .inl v)), ((mm 4), .inl (cI, 480, .inl pv)), ((mm 0), .inr (5, [.ref (mm 1), .ref (mm 2), .ref (mm 3), .ref (mm 4), .int (nI z), .ref (mm 5), .int ty, .int 1, .int at0, .int fa, .ref (mm 6), .int ts, .ref (mm 7), .ref (mm 8), .ref (mm 9), .int fr]))] := hD
    have hc9 : xc_se p0 p1 = 1 := by simp only [xc_se, if_neg q11b]
    have hn9 : ¬ xc_se p0 p1 = 0 := by rw [hc9]; decide
    have hP9 := hP.sub (ws' := [((mm 0), .inr (5, [.ref (mm 1), .ref (mm 2), .ref (mm 3), .ref (mm 4), .int (nI z), .ref (mm 5), .int ty, .int 1, .int at0, .int fa, .ref (mm 6), .int ts, .ref (mm 7), .ref (mm 8), .ref (mm 9), .int fr])), ((mm 2), .inl (cI, 80, .inl v)), ((mm 4), .inl (cI, 480, .inl pv))]) [2, 0, 1] rfl
    have hD9 := hD.sub (ws' := [((mm 0), .inr (5, [.ref (mm 1), .ref (mm 2), .ref (mm 3), .ref (mm 4), .int (nI z), .ref (mm 5), .int ty, .int 1, .int at0, .int fa, .ref (mm 6), .int ts, .ref (mm 7), .ref (mm 8), .ref (mm 9), .int fr])), ((mm 2), .inl (cI, 80, .inl v)), ((mm 4), .inl (cI, 480, .inl pv))]) [2, 0, 1] (by decide) rfl
    exact W.iret (v := 0) hx hb hr (fun t ht hW => ⟨⟨0, (1, (nI z), v, pv), rfl, ⟨(if_neg hn9).symm, (hc9.symm), (if_neg hn9).symm, (if_neg hn9).symm, (if_neg hn9).symm⟩, by rw [ht]; exact hP9, hD9⟩, hS.F ht⟩) hS.2.2 dX5_set_19

set_option maxHeartbeats 4000000 in
set_option maxRecDepth 100000 in
theorem c_X5_append (l : Launch) (dC : Nat → ClassId) (dI : Nat → Nat → Nat) (cI cS cJ : ClassId) (tt : Nat → Nat) (sz : Nat) (mm : Nat → Nat) (kp : Int32) (th : Int32) (at0 : Int32) (fa : Int32) (ts : Int32) (fr : Int32) (p0 : Int32) (n : Nat) (co : Nat → Int32) : Met l yX5_append wsX5_append ({ frames := 1, cells := 0, slots := 0, locals := 22 } : Room) (va_Pc [.ref (mm 0), .int p0] (xm_M (dC, dI) cI cS cJ tt [((mm 0), .inr (5, [.ref (mm 1), .ref (mm 2), .ref (mm 3), .ref (mm 4), .int kp, .ref (mm 5), .int (nI n), .int th, .int at0, .int fa, .ref (mm 6), .int ts, .ref (mm 7), .ref (mm 8), .ref (mm 9), .int fr])), ((mm 5), .inl (cI, 60, .inl co))] sz (n ≤ 60))) (va_Qi (fun (r : Int32) (u : Int32 × Int32 × (Nat → Int32)) => r = (if xc_ap p0 n = 0 then nI (n + 1) else 0) ∧ u.1 = xc_ap p0 n ∧ u.2.1 = (if xc_ap p0 n = 0 then (nI (n + 1)) else (nI n)) ∧ u.2.2 = (if xc_ap p0 n = 0 then (upd co n p0) else co)) (xm_B (dC, dI) (fun (u : Int32 × Int32 × (Nat → Int32)) => [((mm 0), .inr (5, [.ref (mm 1), .ref (mm 2), .ref (mm 3), .ref (mm 4), .int kp, .ref (mm 5), .int u.2.1, .int u.1, .int at0, .int fa, .ref (mm 6), .int ts, .ref (mm 7), .ref (mm 8), .ref (mm 9), .int fr])), ((mm 5), .inl (cI, 60, .inl u.2.2))]) (va_A [((mm 0), .inr (5, [.ref (mm 1), .ref (mm 2), .ref (mm 3), .ref (mm 4), .int kp, .ref (mm 5), .int (nI n), .int th, .int at0, .int fa, .ref (mm 6), .int ts, .ref (mm 7), .ref (mm 8), .ref (mm 9), .int fr])), ((mm 5), .inl (cI, 60, .inl co))] sz)) (va_A [((mm 0), .inr (5, [.ref (mm 1), .ref (mm 2), .ref (mm 3), .ref (mm 4), .int kp, .ref (mm 5), .int (nI n), .int th, .int at0, .int fa, .ref (mm 6), .int ts, .ref (mm 7), .ref (mm 8), .ref (mm 9), .int fr])), ((mm 5), .inl (cI, 60, .inl co))] sz)) 0 0 (va_A [((mm 0), .inr (5, [.ref (mm 1), .ref (mm 2), .ref (mm 3), .ref (mm 4), .int kp, .ref (mm 5), .int (nI n), .int th, .int at0, .int fa, .ref (mm 6), .int ts, .ref (mm 7), .ref (mm 8), .ref (mm 9), .int fr])), ((mm 5), .inl (cI, 60, .inl co))] sz) := by
  refine Met.ofW (cc := cX5_append) (maxL := 2) (ret := (some .int)) (by decide) rfl ?_
  intro p e s m args below meth c s₁ B hml hv
  obtain ⟨rfl, hsz, hP, hE, hD0, hpre⟩ := hv
  have hx := B.exec
  have hb := B.bytes
  have hr := B.returns
  have hts := atoms_spec (ws := wsX5_append) B.pre
  have hown : s.vm.findClass RX5 = some m.cls := findClass_of_methodNamed B.named
  have hlocks := B.notSynchronized
  have hK := hE.1
  subst hsz
  have hD := hD0.self (sz := s.heap.size)
  generalize hAe : va_A [((mm 0), .inr (5, [.ref (mm 1), .ref (mm 2), .ref (mm 3), .ref (mm 4), .int kp, .ref (mm 5), .int (nI n), .int th, .int at0, .int fa, .ref (mm 6), .int ts, .ref (mm 7), .ref (mm 8), .ref (mm 9), .int fr])), ((mm 5), .inl (cI, 60, .inl co))] s.heap.size = A at hD hE ⊢
  have hA : ∀ q : Nat, s.heap.size ≤ q → A q := fun q h => by rw [← hAe]; exact Or.inr h
  have hS : va_S A s.heap s.heap [] := va_S.rf
  have hP : va_P (dC, dI) vwCl [((mm 0), .inr (5, [.ref (mm 1), .ref (mm 2), .ref (mm 3), .ref (mm 4), .int kp, .ref (mm 5), .int (nI n), .int th, .int at0, .int fa, .ref (mm 6), .int ts, .ref (mm 7), .ref (mm 8), .ref (mm 9), .int fr])), ((mm 5), .inl (cI, 60, .inl co))] s.heap := hP
  have hin5 : ∀ w ∈ u_ws RX5 TX5 16, w ∈ wsX5_append := by decide +kernel
  have hl := lv_entry [.ref (mm 0), .int p0] (n := 2) (Nat.le_of_ble_eq_true rfl)
  rw [lg_entry_eq]
  generalize (lg_sl [.ref (mm 0), .int p0] ++ List.replicate (2 - (lg_sl [.ref (mm 0), .int p0]).length) Slot.unset).toArray = lz at hl ⊢
  have hl : lv_has lz 2 [(0, .ref (mm 0)), (1, .int p0)] := hl
  refine lv_aload_n hx hb dX5_append_0 rfl (lv_at hl 0 rfl) ?_
  refine lv_iconst (v := 0) hx hb dX5_append_1 (by decide) ?_
  refine va_put (D := (dC, dI)) (ci := 5) (v := .int 0) (ty := .int) (C := RX5) (T := TX5) (N := 16) hx hb hts hin5 tyX5 tyX5_ok nmX5 hown hK hP hD hS 0 rfl rfl 7 (by decide) (hts (.fieldLink RX5 37 "TurnDigitsModel" "thrown" "I") (by decide +kernel)) (fun _ h9 => h9) rfl (by decide +kernel) rfl rfl (Nat.le_of_ble_eq_true rfl) dX5_append_2 (fun H locs hP hD hS => ?_)
  have hP : va_P (dC, dI) vwCl [((mm 0), .inr (5, [.ref (mm 1), .ref (mm 2), .ref (mm 3), .ref (mm 4), .int kp, .ref (mm 5), .int (nI n), .int 0, .int at0, .int fa, .ref (mm 6), .int ts, .ref (mm 7), .ref (mm 8), .ref (mm 9), .int fr])), ((mm 5), .inl (cI, 60, .inl co))] H := hP
  have hD : va_D A [((mm 0), .inr (5, [.ref (mm 1), .ref (mm 2), .ref (mm 3), .ref (mm 4), .int kp, .ref (mm 5), .int (nI n), .int 0, .int at0, .int fa, .ref (mm 6), .int ts, .ref (mm 7), .ref (mm 8), .ref (mm 9), .int fr])), ((mm 5), .inl (cI, 60, .inl co))] := hD
  refine lv_iload_n hx hb dX5_append_5 rfl (lv_at hl 1 rfl) ?_
  refine lv_bipush (v := 33) hx hb dX5_append_6 (by decide) ?_
  refine lv_bipush (v := 126) hx hb dX5_append_8 (by decide) ?_
  have hPc := hP.sub (ws' := []) [] rfl
  refine W.callV ((va_runS (As := [.int p0, .int 33, .int 126]) (rest := []) ⟨hx, hb, hml, hown, hts⟩ (c_X5_in l dC dI cI cS cJ tt p0 33 126) (va_cwS 3 hts gX5_append_X5_in rfl rfl rfl (by decide +kernel) ⟨Nat.le_of_ble_eq_true rfl, Nat.le_of_ble_eq_true rfl⟩) ⟨xm_Rblind, fun U hU hW => ⟨rfl, by rw [hU]; exact hPc, hE.go hS (fun _ q => q.elim) hU hW, trivial⟩⟩ rfl rfl hl.1 rfl (lv_room (Nat.le_of_ble_eq_true rfl)) dX5_append_10 ⟨Nat.zero_le _, Nat.zero_le _⟩).run) ?_
  refine W.eq (g2 := F0 m 13 lz (.int (if xt_rg p0 33 126 = 0 then 1 else 0) :: [])) rfl ?_
  refine lv_if_ne (tgt := 22) hx hb dX5_append_13 (by decide) (fun q13 => ?_) (fun q13 => ?_)
  · have q13b : xt_rg p0 33 126 = 0 := xm_bT q13
    refine lv_aload_n hx hb dX5_append_22 rfl (lv_at hl 0 rfl) ?_
    refine va_get (D := (dC, dI)) (ci := 5) (v := .int (nI n)) (C := RX5) (T := TX5) (N := 16) hx hb hts hin5 hown hK hP 0 rfl rfl 6 (by decide) (hts (.fieldLink RX5 121 "TurnDigitsModel" "typed" "I") (by decide +kernel)) (fun _ h9 => h9) rfl dX5_append_23 ?_
    refine lv_bipush (v := 60) hx hb dX5_append_26 (by decide) ?_
    refine lv_icmp_ne (tgt := 37) hx hb dX5_append_28 (by decide) (fun q28 => ?_) (fun q28 => ?_)
    · have hn6 : nI n < 60 := (ap_60 hpre).mp q28
      have hn7 : n < 60 := (nI_ltI (a := n) (b := 60) (by omega) (by decide)).mp hn6
      refine lv_aload_n hx hb dX5_append_37 rfl (lv_at hl 0 rfl) ?_
      refine va_get (D := (dC, dI)) (ci := 5) (v := .ref (mm 5)) (C := RX5) (T := TX5) (N := 16) hx hb hts hin5 hown hK hP 0 rfl rfl 5 (by decide) (hts (.fieldLink RX5 22 "TurnDigitsModel" "text" "[I") (by decide +kernel)) (fun _ h9 => h9) rfl dX5_append_38 ?_
      refine lv_aload_n hx hb dX5_append_41 rfl (lv_at hl 0 rfl) ?_
      refine va_get (D := (dC, dI)) (ci := 5) (v := .int (nI n)) (C := RX5) (T := TX5) (N := 16) hx hb hts hin5 hown hK hP 0 rfl rfl 6 (by decide) (hts (.fieldLink RX5 121 "TurnDigitsModel" "typed" "I") (by decide +kernel)) (fun _ h9 => h9) rfl dX5_append_42 ?_
      refine lv_iload_n hx hb dX5_append_45 rfl (lv_at hl 1 rfl) ?_
      refine xm_iast (D := (dC, dI)) hx hb hK hP hD hS 1 0 n rfl rfl (by decide) rfl (by omega) dX5_append_46 (fun H locs hP hD hS => ?_)
      have hP : va_P (dC, dI) vwCl [((mm 0), .inr (5, [.ref (mm 1), .ref (mm 2), .ref (mm 3), .ref (mm 4), .int kp, .ref (mm 5), .int (nI n), .int 0, .int at0, .int fa, .ref (mm 6), .int ts, .ref (mm 7), .ref (mm 8), .ref (mm 9), .int fr])), ((mm 5), .inl (cI, 60, .inl (upd co n p0)))] H := hP
      have hD : va_D A [((mm 0), .inr (5, [.ref (mm 1), .ref (mm 2), .ref (mm 3), .ref (mm 4), .int kp, .ref (mm 5), .int (nI n), .int 0, .int at0, .int fa, .ref (mm 6), .int ts, .ref (mm 7), .ref (mm 8), .ref (mm 9), .int fr])), ((mm 5), .inl (cI, 60, .inl (upd co n p0)))] := hD
      refine lv_aload_n hx hb dX5_append_47 rfl (lv_at hl 0 rfl) ?_
      refine lv_dup hx hb dX5_append_48 rfl ?_
      refine va_get (D := (dC, dI)) (ci := 5) (v := .int (nI n)) (C := RX5) (T := TX5) (N := 16) hx hb hts hin5 hown hK hP 0 rfl rfl 6 (by decide) (hts (.fieldLink RX5 121 "TurnDigitsModel" "typed" "I") (by decide +kernel)) (fun _ h9 => h9) rfl dX5_append_49 ?_
      refine lv_iconst (v := 1) hx hb dX5_append_52 (by decide) ?_
      refine lv_iadd hx hb dX5_append_53 ?_
      refine xm_topi (y := nI (n + 1)) (nI_add n 1) ?_
      refine va_put (D := (dC, dI)) (ci := 5) (v := .int (nI (n + 1))) (ty := .int) (C := RX5) (T := TX5) (N := 16) hx hb hts hin5 tyX5 tyX5_ok nmX5 hown hK hP hD hS 0 rfl rfl 6 (by decide) (hts (.fieldLink RX5 121 "TurnDigitsModel" "typed" "I") (by decide +kernel)) (fun _ h9 => h9) rfl (by decide +kernel) rfl rfl (Nat.le_of_ble_eq_true rfl) dX5_append_54 (fun H locs hP hD hS => ?_)
      have hP : va_P (dC, dI) vwCl [((mm 0), .inr (5, [.ref (mm 1), .ref (mm 2), .ref (mm 3), .ref (mm 4), .int kp, .ref (mm 5), .int (nI (n + 1)), .int 0, .int at0, .int fa, .ref (mm 6), .int ts, .ref (mm 7), .ref (mm 8), .ref (mm 9), .int fr])), ((mm 5), .inl (cI, 60, .inl (upd co n p0)))] H := hP
      have hD : va_D A [((mm 0), .inr (5, [.ref (mm 1), .ref (mm 2), .ref (mm 3), .ref (mm 4), .int kp, .ref (mm 5), .int (nI (n + 1)), .int 0, .int at0, .int fa, .ref (mm 6), .int ts, .ref (mm 7), .ref (mm 8), .ref (mm 9), .int fr])), ((mm 5), .inl (cI, 60, .inl (upd co n p0)))] := hD
      refine lv_aload_n hx hb dX5_append_57 rfl (lv_at hl 0 rfl) ?_
      refine va_get (D := (dC, dI)) (ci := 5) (v := .int (nI (n + 1))) (C := RX5) (T := TX5) (N := 16) hx hb hts hin5 hown hK hP 0 rfl rfl 6 (by decide) (hts (.fieldLink RX5 121 "TurnDigitsModel" "typed" "I") (by decide +kernel)) (fun _ h9 => h9) rfl dX5_append_58 ?_
      have hc9 : xc_ap p0 n = 0 := by simp only [xc_ap, if_pos q13b, if_pos hn6]
      have hP9 : va_P (dC, dI) vwCl [((mm 0), .inr (5, [.ref (mm 1), .ref (mm 2), .ref (mm 3), .ref (mm 4), .int kp, .ref (mm 5), .int (nI (n + 1)), .int 0, .int at0, .int fa, .ref (mm 6), .int ts, .ref (mm 7), .ref (mm 8), .ref (mm 9), .int fr])), ((mm 5), .inl (cI, 60, .inl (upd co n p0)))] H := hP
      have hD9 : va_D A [((mm 0), .inr (5, [.ref (mm 1), .ref (mm 2), .ref (mm 3), .ref (mm 4), .int kp, .ref (mm 5), .int (nI (n + 1)), .int 0, .int at0, .int fa, .ref (mm 6), .int ts, .ref (mm 7), .ref (mm 8), .ref (mm 9), .int fr])), ((mm 5), .inl (cI, 60, .inl (upd co n p0)))] := hD
      exact W.iret (v := nI (n + 1)) hx hb hr (fun t ht hW => ⟨⟨nI (n + 1), (0, nI (n + 1), upd co n p0), rfl, ⟨(if_pos hc9).symm, (hc9.symm), (if_pos hc9).symm, (if_pos hc9).symm⟩, by rw [ht]; exact hP9, hD9⟩, hS.F ht⟩) hS.2.2 dX5_append_61
    · have hn6 : ¬ nI n < 60 := fun h => ((ap_60 hpre).mpr h) q28
      refine lv_aload_n hx hb dX5_append_31 rfl (lv_at hl 0 rfl) ?_
      refine lv_iconst (v := 2) hx hb dX5_append_32 (by decide) ?_
      have hPc := hP.sub (ws' := [((mm 0), .inr (5, [.ref (mm 1), .ref (mm 2), .ref (mm 3), .ref (mm 4), .int kp, .ref (mm 5), .int (nI n), .int 0, .int at0, .int fa, .ref (mm 6), .int ts, .ref (mm 7), .ref (mm 8), .ref (mm 9), .int fr]))]) [0] rfl
      have hDc := hD.sub (ws' := [((mm 0), .inr (5, [.ref (mm 1), .ref (mm 2), .ref (mm 3), .ref (mm 4), .int kp, .ref (mm 5), .int (nI n), .int 0, .int at0, .int fa, .ref (mm 6), .int ts, .ref (mm 7), .ref (mm 8), .ref (mm 9), .int fr]))]) [0] (by decide) rfl
      have hFc := va_free (wc := [((mm 0), .inr (5, [.ref (mm 1), .ref (mm 2), .ref (mm 3), .ref (mm 4), .int kp, .ref (mm 5), .int (nI n), .int 0, .int at0, .int fa, .ref (mm 6), .int ts, .ref (mm 7), .ref (mm 8), .ref (mm 9), .int fr]))]) hD hS hA [0] rfl
      refine va_calli (va_runV (As := [.int 2]) (rest := []) ⟨hx, hb, hml, hown, hts⟩ (c_X5_fails l dC dI cI cS cJ tt H.size mm kp (nI n) 0 at0 fa ts fr 2) (cwV 1 hts gX5_append_X5_fails rfl rfl rfl (by decide +kernel) ⟨Nat.le_of_ble_eq_true rfl, Nat.le_of_ble_eq_true rfl⟩) ⟨xm_Mblind, va_recv hK hPc (ci := 5) (q0 := 0) rfl rfl, fun U hU hW => ⟨rfl, by rw [hU], by rw [hU]; exact hPc, hE.go hS hFc hU hW, hDc.weaken (fun _ _ _ _ => trivial), trivial⟩⟩ rfl rfl hl.1 rfl (lv_room (Nat.le_of_ble_eq_true rfl)) dX5_append_33 ⟨Nat.zero_le _, Nat.zero_le _⟩) hS (fun q _ h => hFc q h) hFc (fun r u t H1 locs ht hvm hw hB hz1 hk1 hS => ?_)
      obtain ⟨u_1, rfl⟩ : ∃ z, z = u := ⟨_, rfl⟩
      obtain ⟨hP1, hD1⟩ := hB
      rw [ht] at hP1
      obtain ⟨hw_2, hw_3⟩ := hw
      have hw_2 : r = 0 := hw_2
      subst hw_2
      have hw_3 : u_1 = 2 := hw_3
      subst hw_3
      obtain ⟨hP, hD⟩ := va_join (wr := [((mm 5), .inl (cI, 60, .inl co))]) (w1 := [((mm 0), .inr (5, [.ref (mm 1), .ref (mm 2), .ref (mm 3), .ref (mm 4), .int kp, .ref (mm 5), .int (nI n), .int 2, .int at0, .int fa, .ref (mm 6), .int ts, .ref (mm 7), .ref (mm 8), .ref (mm 9), .int fr]))]) hP hD [0] [1] rfl rfl (by decide) (by decide) hk1 hFc hP1 hD1
      generalize H1 = H at hP hS ⊢
      have hP : va_P (dC, dI) vwCl [((mm 5), .inl (cI, 60, .inl co)), ((mm 0), .inr (5, [.ref (mm 1), .ref (mm 2), .ref (mm 3), .ref (mm 4), .int kp, .ref (mm 5), .int (nI n), .int 2, .int at0, .int fa, .ref (mm 6), .int ts, .ref (mm 7), .ref (mm 8), .ref (mm 9), .int fr]))] H := hP
      have hD : va_D A [((mm 5), .inl (cI, 60, .inl co)), ((mm 0), .inr (5, [.ref (mm 1), .ref (mm 2), .ref (mm 3), .ref (mm 4), .int kp, .ref (mm 5), .int (nI n), .int 2, .int at0, .int fa, .ref (mm 6), .int ts, .ref (mm 7), .ref (mm 8), .ref (mm 9), .int fr]))] := hD
      have hc9 : xc_ap p0 n = 2 := by simp only [xc_ap, if_pos q13b, if_neg hn6]
      have hn9 : ¬ xc_ap p0 n = 0 := by rw [hc9]; decide
      have hP9 := hP.sub (ws' := [((mm 0), .inr (5, [.ref (mm 1), .ref (mm 2), .ref (mm 3), .ref (mm 4), .int kp, .ref (mm 5), .int (nI n), .int 2, .int at0, .int fa, .ref (mm 6), .int ts, .ref (mm 7), .ref (mm 8), .ref (mm 9), .int fr])), ((mm 5), .inl (cI, 60, .inl co))]) [1, 0] rfl
      have hD9 := hD.sub (ws' := [((mm 0), .inr (5, [.ref (mm 1), .ref (mm 2), .ref (mm 3), .ref (mm 4), .int kp, .ref (mm 5), .int (nI n), .int 2, .int at0, .int fa, .ref (mm 6), .int ts, .ref (mm 7), .ref (mm 8), .ref (mm 9), .int fr])), ((mm 5), .inl (cI, 60, .inl co))]) [1, 0] (by decide) rfl
      exact W.iret (v := 0) hx hb hr (fun t ht hW => ⟨⟨0, (2, (nI n), co), rfl, ⟨(if_neg hn9).symm, (hc9.symm), (if_neg hn9).symm, (if_neg hn9).symm⟩, by rw [ht]; exact hP9, hD9⟩, hS.F ht⟩) hS.2.2 dX5_append_36
  · have q13b : ¬ xt_rg p0 33 126 = 0 := xm_bF q13
    refine lv_aload_n hx hb dX5_append_16 rfl (lv_at hl 0 rfl) ?_
    refine lv_iconst (v := 1) hx hb dX5_append_17 (by decide) ?_
    have hPc := hP.sub (ws' := [((mm 0), .inr (5, [.ref (mm 1), .ref (mm 2), .ref (mm 3), .ref (mm 4), .int kp, .ref (mm 5), .int (nI n), .int 0, .int at0, .int fa, .ref (mm 6), .int ts, .ref (mm 7), .ref (mm 8), .ref (mm 9), .int fr]))]) [0] rfl
    have hDc := hD.sub (ws' := [((mm 0), .inr (5, [.ref (mm 1), .ref (mm 2), .ref (mm 3), .ref (mm 4), .int kp, .ref (mm 5), .int (nI n), .int 0, .int at0, .int fa, .ref (mm 6), .int ts, .ref (mm 7), .ref (mm 8), .ref (mm 9), .int fr]))]) [0] (by decide) rfl
    have hFc := va_free (wc := [((mm 0), .inr (5, [.ref (mm 1), .ref (mm 2), .ref (mm 3), .ref (mm 4), .int kp, .ref (mm 5), .int (nI n), .int 0, .int at0, .int fa, .ref (mm 6), .int ts, .ref (mm 7), .ref (mm 8), .ref (mm 9), .int fr]))]) hD hS hA [0] rfl
    refine va_calli (va_runV (As := [.int 1]) (rest := []) ⟨hx, hb, hml, hown, hts⟩ (c_X5_fails l dC dI cI cS cJ tt H.size mm kp (nI n) 0 at0 fa ts fr 1) (cwV 1 hts gX5_append_X5_fails rfl rfl rfl (by decide +kernel) ⟨Nat.le_of_ble_eq_true rfl, Nat.le_of_ble_eq_true rfl⟩) ⟨xm_Mblind, va_recv hK hPc (ci := 5) (q0 := 0) rfl rfl, fun U hU hW => ⟨rfl, by rw [hU], by rw [hU]; exact hPc, hE.go hS hFc hU hW, hDc.weaken (fun _ _ _ _ => trivial), trivial⟩⟩ rfl rfl hl.1 rfl (lv_room (Nat.le_of_ble_eq_true rfl)) dX5_append_18 ⟨Nat.zero_le _, Nat.zero_le _⟩) hS (fun q _ h => hFc q h) hFc (fun r u t H1 locs ht hvm hw hB hz1 hk1 hS => ?_)
    obtain ⟨u_4, rfl⟩ : ∃ z, z = u := ⟨_, rfl⟩
    obtain ⟨hP1, hD1⟩ := hB
    rw [ht] at hP1
    obtain ⟨hw_5, hw_6⟩ := hw
    have hw_5 : r = 0 := hw_5
    subst hw_5
    have hw_6 : u_4 = 1 := hw_6
    subst hw_6
    obtain ⟨hP, hD⟩ := va_join (wr := [((mm 5), .inl (cI, 60, .inl co))]) (w1 := [((mm 0), .inr (5, [.ref (mm 1), .ref (mm 2), .ref (mm 3), .ref (mm 4), .int kp, .ref (mm 5), .int (nI n), .int 1, .int at0, .int fa, .ref (mm 6), .int ts, .ref (mm 7), .ref (mm 8), .ref (mm 9), .int fr]))]) hP hD [0] [1] rfl rfl (by decide) (by decide) hk1 hFc hP1 hD1
    generalize H1 = H at hP hS ⊢
    have hP : va_P (dC, dI) vwCl [((mm 5), .inl (cI, 60, .inl co)), ((mm 0), .inr (5, [.ref (mm 1), .ref (mm 2), .ref (mm 3), .ref (mm 4), .int kp, .ref (mm 5), .int (nI n), .int 1, .int at0, .int fa, .ref (mm 6), .int ts, .ref (mm 7), .ref (mm 8), .ref (mm 9), .int fr]))] H := hP
    have hD : va_D A [((mm 5), .inl (cI, 60, .inl co)), ((mm 0), .inr (5, [.ref (mm 1), .ref (mm 2), .ref (mm 3), .ref (mm 4), .int kp, .ref (mm 5), .int (nI n), .int 1, .int at0, .int fa, .ref (mm 6), .int ts, .ref (mm 7), .ref (mm 8), .ref (mm 9), .int fr]))] := hD
    have hc9 : xc_ap p0 n = 1 := by simp only [xc_ap, if_neg q13b]
    have hn9 : ¬ xc_ap p0 n = 0 := by rw [hc9]; decide
    have hP9 := hP.sub (ws' := [((mm 0), .inr (5, [.ref (mm 1), .ref (mm 2), .ref (mm 3), .ref (mm 4), .int kp, .ref (mm 5), .int (nI n), .int 1, .int at0, .int fa, .ref (mm 6), .int ts, .ref (mm 7), .ref (mm 8), .ref (mm 9), .int fr])), ((mm 5), .inl (cI, 60, .inl co))]) [1, 0] rfl
    have hD9 := hD.sub (ws' := [((mm 0), .inr (5, [.ref (mm 1), .ref (mm 2), .ref (mm 3), .ref (mm 4), .int kp, .ref (mm 5), .int (nI n), .int 1, .int at0, .int fa, .ref (mm 6), .int ts, .ref (mm 7), .ref (mm 8), .ref (mm 9), .int fr])), ((mm 5), .inl (cI, 60, .inl co))]) [1, 0] (by decide) rfl
    exact W.iret (v := 0) hx hb hr (fun t ht hW => ⟨⟨0, (1, (nI n), co), rfl, ⟨(if_neg hn9).symm, (hc9.symm), (if_neg hn9).symm, (if_neg hn9).symm⟩, by rw [ht]; exact hP9, hD9⟩, hS.F ht⟩) hS.2.2 dX5_append_21

set_option maxHeartbeats 4000000 in
set_option maxRecDepth 100000 in
theorem c_X5_clearBuffer (l : Launch) (dC : Nat → ClassId) (dI : Nat → Nat → Nat) (cI cS cJ : ClassId) (tt : Nat → Nat) (sz : Nat) (mm : Nat → Nat) (kp : Int32) (ty : Int32) (th : Int32) (at0 : Int32) (fa : Int32) (ts : Int32) (fr : Int32) : Met l yX5_clearBuffer wsX5_clearBuffer ({ frames := 0, cells := 0, slots := 0, locals := 0 } : Room) (va_Pc [.ref (mm 0)] (xm_M (dC, dI) cI cS cJ tt [((mm 0), .inr (5, [.ref (mm 1), .ref (mm 2), .ref (mm 3), .ref (mm 4), .int kp, .ref (mm 5), .int ty, .int th, .int at0, .int fa, .ref (mm 6), .int ts, .ref (mm 7), .ref (mm 8), .ref (mm 9), .int fr]))] sz (True))) (va_Qi (fun (r : Int32) (u : Int32 × Int32) => r = ty ∧ u.1 = 0 ∧ u.2 = 0) (xm_B (dC, dI) (fun (u : Int32 × Int32) => [((mm 0), .inr (5, [.ref (mm 1), .ref (mm 2), .ref (mm 3), .ref (mm 4), .int kp, .ref (mm 5), .int u.2, .int u.1, .int at0, .int fa, .ref (mm 6), .int ts, .ref (mm 7), .ref (mm 8), .ref (mm 9), .int fr]))]) (va_A [((mm 0), .inr (5, [.ref (mm 1), .ref (mm 2), .ref (mm 3), .ref (mm 4), .int kp, .ref (mm 5), .int ty, .int th, .int at0, .int fa, .ref (mm 6), .int ts, .ref (mm 7), .ref (mm 8), .ref (mm 9), .int fr]))] sz)) (va_A [((mm 0), .inr (5, [.ref (mm 1), .ref (mm 2), .ref (mm 3), .ref (mm 4), .int kp, .ref (mm 5), .int ty, .int th, .int at0, .int fa, .ref (mm 6), .int ts, .ref (mm 7), .ref (mm 8), .ref (mm 9), .int fr]))] sz)) 0 0 (va_A [((mm 0), .inr (5, [.ref (mm 1), .ref (mm 2), .ref (mm 3), .ref (mm 4), .int kp, .ref (mm 5), .int ty, .int th, .int at0, .int fa, .ref (mm 6), .int ts, .ref (mm 7), .ref (mm 8), .ref (mm 9), .int fr]))] sz) := by
  refine Met.ofW (cc := cX5_clearBuffer) (maxL := 2) (ret := (some .int)) (by decide) rfl ?_
  intro p e s m args below meth c s₁ B hml hv
  obtain ⟨rfl, hsz, hP, hE, hD0, hpre⟩ := hv
  have hx := B.exec
  have hb := B.bytes
  have hr := B.returns
  have hts := atoms_spec (ws := wsX5_clearBuffer) B.pre
  have hown : s.vm.findClass RX5 = some m.cls := findClass_of_methodNamed B.named
  have hlocks := B.notSynchronized
  have hK := hE.1
  subst hsz
  have hD := hD0.self (sz := s.heap.size)
  generalize hAe : va_A [((mm 0), .inr (5, [.ref (mm 1), .ref (mm 2), .ref (mm 3), .ref (mm 4), .int kp, .ref (mm 5), .int ty, .int th, .int at0, .int fa, .ref (mm 6), .int ts, .ref (mm 7), .ref (mm 8), .ref (mm 9), .int fr]))] s.heap.size = A at hD hE ⊢
  have hA : ∀ q : Nat, s.heap.size ≤ q → A q := fun q h => by rw [← hAe]; exact Or.inr h
  have hS : va_S A s.heap s.heap [] := va_S.rf
  have hP : va_P (dC, dI) vwCl [((mm 0), .inr (5, [.ref (mm 1), .ref (mm 2), .ref (mm 3), .ref (mm 4), .int kp, .ref (mm 5), .int ty, .int th, .int at0, .int fa, .ref (mm 6), .int ts, .ref (mm 7), .ref (mm 8), .ref (mm 9), .int fr]))] s.heap := hP
  have hin5 : ∀ w ∈ u_ws RX5 TX5 16, w ∈ wsX5_clearBuffer := by decide +kernel
  have hl := lv_entry [.ref (mm 0)] (n := 2) (Nat.le_of_ble_eq_true rfl)
  rw [lg_entry_eq]
  generalize (lg_sl [.ref (mm 0)] ++ List.replicate (2 - (lg_sl [.ref (mm 0)]).length) Slot.unset).toArray = lz at hl ⊢
  have hl : lv_has lz 2 [(0, .ref (mm 0))] := hl
  refine lv_aload_n hx hb dX5_clearBuffer_0 rfl (lv_at hl 0 rfl) ?_
  refine lv_iconst (v := 0) hx hb dX5_clearBuffer_1 (by decide) ?_
  refine va_put (D := (dC, dI)) (ci := 5) (v := .int 0) (ty := .int) (C := RX5) (T := TX5) (N := 16) hx hb hts hin5 tyX5 tyX5_ok nmX5 hown hK hP hD hS 0 rfl rfl 7 (by decide) (hts (.fieldLink RX5 37 "TurnDigitsModel" "thrown" "I") (by decide +kernel)) (fun _ h9 => h9) rfl (by decide +kernel) rfl rfl (Nat.le_of_ble_eq_true rfl) dX5_clearBuffer_2 (fun H locs hP hD hS => ?_)
  have hP : va_P (dC, dI) vwCl [((mm 0), .inr (5, [.ref (mm 1), .ref (mm 2), .ref (mm 3), .ref (mm 4), .int kp, .ref (mm 5), .int ty, .int 0, .int at0, .int fa, .ref (mm 6), .int ts, .ref (mm 7), .ref (mm 8), .ref (mm 9), .int fr]))] H := hP
  have hD : va_D A [((mm 0), .inr (5, [.ref (mm 1), .ref (mm 2), .ref (mm 3), .ref (mm 4), .int kp, .ref (mm 5), .int ty, .int 0, .int at0, .int fa, .ref (mm 6), .int ts, .ref (mm 7), .ref (mm 8), .ref (mm 9), .int fr]))] := hD
  refine lv_aload_n hx hb dX5_clearBuffer_5 rfl (lv_at hl 0 rfl) ?_
  refine va_get (D := (dC, dI)) (ci := 5) (v := .int ty) (C := RX5) (T := TX5) (N := 16) hx hb hts hin5 hown hK hP 0 rfl rfl 6 (by decide) (hts (.fieldLink RX5 121 "TurnDigitsModel" "typed" "I") (by decide +kernel)) (fun _ h9 => h9) rfl dX5_clearBuffer_6 ?_
  refine lv_istore_n (lv' := [(1, .int ty), (0, .ref (mm 0))]) hx hb dX5_clearBuffer_9 rfl hl (by decide) rfl (fun lz hl => ?_)
  refine lv_aload_n hx hb dX5_clearBuffer_10 rfl (lv_at hl 1 rfl) ?_
  refine lv_iconst (v := 0) hx hb dX5_clearBuffer_11 (by decide) ?_
  refine va_put (D := (dC, dI)) (ci := 5) (v := .int 0) (ty := .int) (C := RX5) (T := TX5) (N := 16) hx hb hts hin5 tyX5 tyX5_ok nmX5 hown hK hP hD hS 0 rfl rfl 6 (by decide) (hts (.fieldLink RX5 121 "TurnDigitsModel" "typed" "I") (by decide +kernel)) (fun _ h9 => h9) rfl (by decide +kernel) rfl rfl (Nat.le_of_ble_eq_true rfl) dX5_clearBuffer_12 (fun H locs hP hD hS => ?_)
  have hP : va_P (dC, dI) vwCl [((mm 0), .inr (5, [.ref (mm 1), .ref (mm 2), .ref (mm 3), .ref (mm 4), .int kp, .ref (mm 5), .int 0, .int 0, .int at0, .int fa, .ref (mm 6), .int ts, .ref (mm 7), .ref (mm 8), .ref (mm 9), .int fr]))] H := hP
  have hD : va_D A [((mm 0), .inr (5, [.ref (mm 1), .ref (mm 2), .ref (mm 3), .ref (mm 4), .int kp, .ref (mm 5), .int 0, .int 0, .int at0, .int fa, .ref (mm 6), .int ts, .ref (mm 7), .ref (mm 8), .ref (mm 9), .int fr]))] := hD
  refine lv_iload_n hx hb dX5_clearBuffer_15 rfl (lv_at hl 0 rfl) ?_
  have hP9 : va_P (dC, dI) vwCl [((mm 0), .inr (5, [.ref (mm 1), .ref (mm 2), .ref (mm 3), .ref (mm 4), .int kp, .ref (mm 5), .int 0, .int 0, .int at0, .int fa, .ref (mm 6), .int ts, .ref (mm 7), .ref (mm 8), .ref (mm 9), .int fr]))] H := hP
  have hD9 : va_D A [((mm 0), .inr (5, [.ref (mm 1), .ref (mm 2), .ref (mm 3), .ref (mm 4), .int kp, .ref (mm 5), .int 0, .int 0, .int at0, .int fa, .ref (mm 6), .int ts, .ref (mm 7), .ref (mm 8), .ref (mm 9), .int fr]))] := hD
  exact W.iret (v := ty) hx hb hr (fun t ht hW => ⟨⟨ty, (0, 0), rfl, ⟨rfl, rfl, rfl⟩, by rw [ht]; exact hP9, hD9⟩, hS.F ht⟩) hS.2.2 dX5_clearBuffer_16

set_option maxHeartbeats 4000000 in
set_option maxRecDepth 100000 in
theorem c_X5_undo (l : Launch) (dC : Nat → ClassId) (dI : Nat → Nat → Nat) (cI cS cJ : ClassId) (tt : Nat → Nat) (sz : Nat) (mm : Nat → Nat) (ty : Int32) (th : Int32) (at0 : Int32) (fa : Int32) (ts : Int32) (fr : Int32) (z : Nat) (v : Nat → Int32) (pv : Nat → Int32) : Met l yX5_undo wsX5_undo ({ frames := 1, cells := 0, slots := 0, locals := 21 } : Room) (va_Pc [.ref (mm 0)] (xm_M (dC, dI) cI cS cJ tt [((mm 0), .inr (5, [.ref (mm 1), .ref (mm 2), .ref (mm 3), .ref (mm 4), .int (nI z), .ref (mm 5), .int ty, .int th, .int at0, .int fa, .ref (mm 6), .int ts, .ref (mm 7), .ref (mm 8), .ref (mm 9), .int fr])), ((mm 2), .inl (cI, 80, .inl v)), ((mm 4), .inl (cI, 480, .inl pv))] sz (z ≤ 6))) (va_Qi (fun (r : Int32) (u : Int32 × Int32 × (Nat → Int32)) => r = (if xc_un z = 0 then nI (z - 1) else 0) ∧ u.1 = xc_un z ∧ u.2.1 = (if xc_un z = 0 then (nI (z - 1)) else (nI z)) ∧ u.2.2 = (if xc_un z = 0 then (fun j => pv (80 * (z - 1) + j)) else v)) (xm_B (dC, dI) (fun (u : Int32 × Int32 × (Nat → Int32)) => [((mm 0), .inr (5, [.ref (mm 1), .ref (mm 2), .ref (mm 3), .ref (mm 4), .int u.2.1, .ref (mm 5), .int ty, .int u.1, .int at0, .int fa, .ref (mm 6), .int ts, .ref (mm 7), .ref (mm 8), .ref (mm 9), .int fr])), ((mm 2), .inl (cI, 80, .inl u.2.2)), ((mm 4), .inl (cI, 480, .inl pv))]) (va_A [((mm 0), .inr (5, [.ref (mm 1), .ref (mm 2), .ref (mm 3), .ref (mm 4), .int (nI z), .ref (mm 5), .int ty, .int th, .int at0, .int fa, .ref (mm 6), .int ts, .ref (mm 7), .ref (mm 8), .ref (mm 9), .int fr])), ((mm 2), .inl (cI, 80, .inl v)), ((mm 4), .inl (cI, 480, .inl pv))] sz)) (va_A [((mm 0), .inr (5, [.ref (mm 1), .ref (mm 2), .ref (mm 3), .ref (mm 4), .int (nI z), .ref (mm 5), .int ty, .int th, .int at0, .int fa, .ref (mm 6), .int ts, .ref (mm 7), .ref (mm 8), .ref (mm 9), .int fr])), ((mm 2), .inl (cI, 80, .inl v)), ((mm 4), .inl (cI, 480, .inl pv))] sz)) 0 0 (va_A [((mm 0), .inr (5, [.ref (mm 1), .ref (mm 2), .ref (mm 3), .ref (mm 4), .int (nI z), .ref (mm 5), .int ty, .int th, .int at0, .int fa, .ref (mm 6), .int ts, .ref (mm 7), .ref (mm 8), .ref (mm 9), .int fr])), ((mm 2), .inl (cI, 80, .inl v)), ((mm 4), .inl (cI, 480, .inl pv))] sz) := by
  refine Met.ofW (cc := cX5_undo) (maxL := 2) (ret := (some .int)) (by decide) rfl ?_
  intro p e s m args below meth c s₁ B hml hv
  obtain ⟨rfl, hsz, hP, hE, hD0, hpre⟩ := hv
  have hx := B.exec
  have hb := B.bytes
  have hr := B.returns
  have hts := atoms_spec (ws := wsX5_undo) B.pre
  have hown : s.vm.findClass RX5 = some m.cls := findClass_of_methodNamed B.named
  have hlocks := B.notSynchronized
  have hK := hE.1
  subst hsz
  have hD := hD0.self (sz := s.heap.size)
  generalize hAe : va_A [((mm 0), .inr (5, [.ref (mm 1), .ref (mm 2), .ref (mm 3), .ref (mm 4), .int (nI z), .ref (mm 5), .int ty, .int th, .int at0, .int fa, .ref (mm 6), .int ts, .ref (mm 7), .ref (mm 8), .ref (mm 9), .int fr])), ((mm 2), .inl (cI, 80, .inl v)), ((mm 4), .inl (cI, 480, .inl pv))] s.heap.size = A at hD hE ⊢
  have hA : ∀ q : Nat, s.heap.size ≤ q → A q := fun q h => by rw [← hAe]; exact Or.inr h
  have hS : va_S A s.heap s.heap [] := va_S.rf
  have hP : va_P (dC, dI) vwCl [((mm 0), .inr (5, [.ref (mm 1), .ref (mm 2), .ref (mm 3), .ref (mm 4), .int (nI z), .ref (mm 5), .int ty, .int th, .int at0, .int fa, .ref (mm 6), .int ts, .ref (mm 7), .ref (mm 8), .ref (mm 9), .int fr])), ((mm 2), .inl (cI, 80, .inl v)), ((mm 4), .inl (cI, 480, .inl pv))] s.heap := hP
  have hin5 : ∀ w ∈ u_ws RX5 TX5 16, w ∈ wsX5_undo := by decide +kernel
  have hl := lv_entry [.ref (mm 0)] (n := 2) (Nat.le_of_ble_eq_true rfl)
  rw [lg_entry_eq]
  generalize (lg_sl [.ref (mm 0)] ++ List.replicate (2 - (lg_sl [.ref (mm 0)]).length) Slot.unset).toArray = lz at hl ⊢
  have hl : lv_has lz 2 [(0, .ref (mm 0))] := hl
  refine lv_aload_n hx hb dX5_undo_0 rfl (lv_at hl 0 rfl) ?_
  refine lv_iconst (v := 0) hx hb dX5_undo_1 (by decide) ?_
  refine va_put (D := (dC, dI)) (ci := 5) (v := .int 0) (ty := .int) (C := RX5) (T := TX5) (N := 16) hx hb hts hin5 tyX5 tyX5_ok nmX5 hown hK hP hD hS 0 rfl rfl 7 (by decide) (hts (.fieldLink RX5 37 "TurnDigitsModel" "thrown" "I") (by decide +kernel)) (fun _ h9 => h9) rfl (by decide +kernel) rfl rfl (Nat.le_of_ble_eq_true rfl) dX5_undo_2 (fun H locs hP hD hS => ?_)
  have hP : va_P (dC, dI) vwCl [((mm 0), .inr (5, [.ref (mm 1), .ref (mm 2), .ref (mm 3), .ref (mm 4), .int (nI z), .ref (mm 5), .int ty, .int 0, .int at0, .int fa, .ref (mm 6), .int ts, .ref (mm 7), .ref (mm 8), .ref (mm 9), .int fr])), ((mm 2), .inl (cI, 80, .inl v)), ((mm 4), .inl (cI, 480, .inl pv))] H := hP
  have hD : va_D A [((mm 0), .inr (5, [.ref (mm 1), .ref (mm 2), .ref (mm 3), .ref (mm 4), .int (nI z), .ref (mm 5), .int ty, .int 0, .int at0, .int fa, .ref (mm 6), .int ts, .ref (mm 7), .ref (mm 8), .ref (mm 9), .int fr])), ((mm 2), .inl (cI, 80, .inl v)), ((mm 4), .inl (cI, 480, .inl pv))] := hD
  refine lv_aload_n hx hb dX5_undo_5 rfl (lv_at hl 0 rfl) ?_
  refine va_get (D := (dC, dI)) (ci := 5) (v := .int (nI z)) (C := RX5) (T := TX5) (N := 16) hx hb hts hin5 hown hK hP 0 rfl rfl 4 (by decide) (hts (.fieldLink RX5 45 "TurnDigitsModel" "kept" "I") (by decide +kernel)) (fun _ h9 => h9) rfl dX5_undo_6 ?_
  refine lv_if_ne (tgt := 18) hx hb dX5_undo_9 (by decide) (fun q9 => ?_) (fun q9 => ?_)
  · have hz0 : 0 < z := nI_pos0 (by omega) q9
    refine lv_aload_n hx hb dX5_undo_18 rfl (lv_at hl 0 rfl) ?_
    refine lv_dup hx hb dX5_undo_19 rfl ?_
    refine va_get (D := (dC, dI)) (ci := 5) (v := .int (nI z)) (C := RX5) (T := TX5) (N := 16) hx hb hts hin5 hown hK hP 0 rfl rfl 4 (by decide) (hts (.fieldLink RX5 45 "TurnDigitsModel" "kept" "I") (by decide +kernel)) (fun _ h9 => h9) rfl dX5_undo_20 ?_
    refine lv_iconst (v := 1) hx hb dX5_undo_23 (by decide) ?_
    refine lv_isub hx hb dX5_undo_24 ?_
    refine xm_topi (y := (nI (z - 1))) (pk_sub (a := z) (b := 1) hz0) ?_
    refine va_put (D := (dC, dI)) (ci := 5) (v := .int (nI (z - 1))) (ty := .int) (C := RX5) (T := TX5) (N := 16) hx hb hts hin5 tyX5 tyX5_ok nmX5 hown hK hP hD hS 0 rfl rfl 4 (by decide) (hts (.fieldLink RX5 45 "TurnDigitsModel" "kept" "I") (by decide +kernel)) (fun _ h9 => h9) rfl (by decide +kernel) rfl rfl (Nat.le_of_ble_eq_true rfl) dX5_undo_25 (fun H locs hP hD hS => ?_)
    have hP : va_P (dC, dI) vwCl [((mm 0), .inr (5, [.ref (mm 1), .ref (mm 2), .ref (mm 3), .ref (mm 4), .int (nI (z - 1)), .ref (mm 5), .int ty, .int 0, .int at0, .int fa, .ref (mm 6), .int ts, .ref (mm 7), .ref (mm 8), .ref (mm 9), .int fr])), ((mm 2), .inl (cI, 80, .inl v)), ((mm 4), .inl (cI, 480, .inl pv))] H := hP
    have hD : va_D A [((mm 0), .inr (5, [.ref (mm 1), .ref (mm 2), .ref (mm 3), .ref (mm 4), .int (nI (z - 1)), .ref (mm 5), .int ty, .int 0, .int at0, .int fa, .ref (mm 6), .int ts, .ref (mm 7), .ref (mm 8), .ref (mm 9), .int fr])), ((mm 2), .inl (cI, 80, .inl v)), ((mm 4), .inl (cI, 480, .inl pv))] := hD
    refine lv_iconst (v := 0) hx hb dX5_undo_28 (by decide) ?_
    refine lv_istore_n (lv' := [(1, .int 0), (0, .ref (mm 0))]) hx hb dX5_undo_29 rfl hl (by decide) rfl (fun lz hl => ?_)
    have L30 : ∀ (zz i : Nat), i ≤ 80 → 80 + 1 ≤ i + zz → ∀ (f : Nat → Int32), f = fm_fl (fun j => pv (80 * (z - 1) + j)) v i → ∀ (H : Heap) (locs : List Loc), va_P (dC, dI) vwCl [((mm 0), .inr (5, [.ref (mm 1), .ref (mm 2), .ref (mm 3), .ref (mm 4), .int (nI (z - 1)), .ref (mm 5), .int ty, .int 0, .int at0, .int fa, .ref (mm 6), .int ts, .ref (mm 7), .ref (mm 8), .ref (mm 9), .int fr])), ((mm 2), .inl (cI, 80, .inl f)), ((mm 4), .inl (cI, 480, .inl pv))] H → va_D A [((mm 0), .inr (5, [.ref (mm 1), .ref (mm 2), .ref (mm 3), .ref (mm 4), .int (nI (z - 1)), .ref (mm 5), .int ty, .int 0, .int at0, .int fa, .ref (mm 6), .int ts, .ref (mm 7), .ref (mm 8), .ref (mm 9), .int fr])), ((mm 2), .inl (cI, 80, .inl f)), ((mm 4), .inl (cI, 480, .inl pv))] → va_S A s.heap H locs → ∀ (lz : Array Slot), lv_has lz 2 [(0, .ref (mm 0)), (1, .int (nI i))] → W p l e (headSpec wsX5_undo ({ frames := 1, cells := 0, slots := 0, locals := 21 } : Room)).room s m ([.ref (mm 0)] : List Value).toArray below meth c H locs 0 0 (MQ below (va_Qi (fun (r : Int32) (u : Int32 × Int32 × (Nat → Int32)) => r = (if xc_un z = 0 then nI (z - 1) else 0) ∧ u.1 = xc_un z ∧ u.2.1 = (if xc_un z = 0 then (nI (z - 1)) else (nI z)) ∧ u.2.2 = (if xc_un z = 0 then (fun j => pv (80 * (z - 1) + j)) else v)) (xm_B (dC, dI) (fun (u : Int32 × Int32 × (Nat → Int32)) => [((mm 0), .inr (5, [.ref (mm 1), .ref (mm 2), .ref (mm 3), .ref (mm 4), .int u.2.1, .ref (mm 5), .int ty, .int u.1, .int at0, .int fa, .ref (mm 6), .int ts, .ref (mm 7), .ref (mm 8), .ref (mm 9), .int fr])), ((mm 2), .inl (cI, 80, .inl u.2.2)), ((mm 4), .inl (cI, 480, .inl pv))]) A) A) ([.ref (mm 0)] : List Value).toArray s 0 0 A) (F0 m 30 lz []) := by
      intro zz
      induction zz with
      | zero => intro i hii hni; exact absurd hni (by omega)
      | succ zz ih30 =>
        intro i hii hni f e_f  H locs hP hD hS lz hl
        subst e_f
        refine lv_iload_n hx hb dX5_undo_30 rfl (lv_at hl 1 rfl) ?_
        refine lv_bipush (v := 80) hx hb dX5_undo_31 (by decide) ?_
        refine lv_icmp_ge (tgt := 62) hx hb dX5_undo_33 (by decide) (fun q33 => ?_) (fun q33 => ?_)
        · have hNi : 80 = i := (xm_end (N := 80) hii (by decide) q33).symm
          subst hNi
          obtain ⟨hP, hD⟩ := xm_cong hP hD 1 rfl ((fun j => pv (80 * (z - 1) + j))) (fun j hj => by rw [fm_fl_in hj])
          have hP : va_P (dC, dI) vwCl [((mm 0), .inr (5, [.ref (mm 1), .ref (mm 2), .ref (mm 3), .ref (mm 4), .int (nI (z - 1)), .ref (mm 5), .int ty, .int 0, .int at0, .int fa, .ref (mm 6), .int ts, .ref (mm 7), .ref (mm 8), .ref (mm 9), .int fr])), ((mm 2), .inl (cI, 80, .inl (fun j => pv (80 * (z - 1) + j)))), ((mm 4), .inl (cI, 480, .inl pv))] H := hP
          have hD : va_D A [((mm 0), .inr (5, [.ref (mm 1), .ref (mm 2), .ref (mm 3), .ref (mm 4), .int (nI (z - 1)), .ref (mm 5), .int ty, .int 0, .int at0, .int fa, .ref (mm 6), .int ts, .ref (mm 7), .ref (mm 8), .ref (mm 9), .int fr])), ((mm 2), .inl (cI, 80, .inl (fun j => pv (80 * (z - 1) + j)))), ((mm 4), .inl (cI, 480, .inl pv))] := hD
          refine lv_aload_n hx hb dX5_undo_62 rfl (lv_at hl 0 rfl) ?_
          refine va_get (D := (dC, dI)) (ci := 5) (v := .int (nI (z - 1))) (C := RX5) (T := TX5) (N := 16) hx hb hts hin5 hown hK hP 0 rfl rfl 4 (by decide) (hts (.fieldLink RX5 45 "TurnDigitsModel" "kept" "I") (by decide +kernel)) (fun _ h9 => h9) rfl dX5_undo_63 ?_
          have hc9 : xc_un z = 0 := by unfold xc_un; rw [if_pos q9]
          have hP9 : va_P (dC, dI) vwCl [((mm 0), .inr (5, [.ref (mm 1), .ref (mm 2), .ref (mm 3), .ref (mm 4), .int (nI (z - 1)), .ref (mm 5), .int ty, .int 0, .int at0, .int fa, .ref (mm 6), .int ts, .ref (mm 7), .ref (mm 8), .ref (mm 9), .int fr])), ((mm 2), .inl (cI, 80, .inl (fun j => pv (80 * (z - 1) + j)))), ((mm 4), .inl (cI, 480, .inl pv))] H := hP
          have hD9 : va_D A [((mm 0), .inr (5, [.ref (mm 1), .ref (mm 2), .ref (mm 3), .ref (mm 4), .int (nI (z - 1)), .ref (mm 5), .int ty, .int 0, .int at0, .int fa, .ref (mm 6), .int ts, .ref (mm 7), .ref (mm 8), .ref (mm 9), .int fr])), ((mm 2), .inl (cI, 80, .inl (fun j => pv (80 * (z - 1) + j)))), ((mm 4), .inl (cI, 480, .inl pv))] := hD
          exact W.iret (v := nI (z - 1)) hx hb hr (fun t ht hW => ⟨⟨nI (z - 1), (0, nI (z - 1), (fun j => pv (80 * (z - 1) + j))), rfl, ⟨(if_pos hc9).symm, (hc9.symm), (if_pos hc9).symm, (if_pos hc9).symm⟩, by rw [ht]; exact hP9, hD9⟩, hS.F ht⟩) hS.2.2 dX5_undo_66
        · have hlti : i < 80 := xm_lt (N := 80) hii (by decide) q33
          refine lv_aload_n hx hb dX5_undo_36 rfl (lv_at hl 0 rfl) ?_
          refine va_get (D := (dC, dI)) (ci := 5) (v := .ref (mm 2)) (C := RX5) (T := TX5) (N := 16) hx hb hts hin5 hown hK hP 0 rfl rfl 1 (by decide) (hts (.fieldLink RX5 13 "TurnDigitsModel" "now" "[I") (by decide +kernel)) (fun _ h9 => h9) rfl dX5_undo_37 ?_
          refine lv_iload_n hx hb dX5_undo_40 rfl (lv_at hl 1 rfl) ?_
          refine lv_aload_n hx hb dX5_undo_41 rfl (lv_at hl 0 rfl) ?_
          refine va_get (D := (dC, dI)) (ci := 5) (v := .ref (mm 4)) (C := RX5) (T := TX5) (N := 16) hx hb hts hin5 hown hK hP 0 rfl rfl 3 (by decide) (hts (.fieldLink RX5 19 "TurnDigitsModel" "past" "[I") (by decide +kernel)) (fun _ h9 => h9) rfl dX5_undo_42 ?_
          refine lv_bipush (v := 80) hx hb dX5_undo_45 (by decide) ?_
          refine lv_aload_n hx hb dX5_undo_47 rfl (lv_at hl 0 rfl) ?_
          refine va_get (D := (dC, dI)) (ci := 5) (v := .int (nI (z - 1))) (C := RX5) (T := TX5) (N := 16) hx hb hts hin5 hown hK hP 0 rfl rfl 4 (by decide) (hts (.fieldLink RX5 45 "TurnDigitsModel" "kept" "I") (by decide +kernel)) (fun _ h9 => h9) rfl dX5_undo_48 ?_
          refine lv_imul hx hb dX5_undo_51 ?_
          refine xm_topi (y := nI (80 * (z - 1))) (pk_mul 80 (z - 1)) ?_
          refine lv_iload_n hx hb dX5_undo_52 rfl (lv_at hl 1 rfl) ?_
          refine lv_iadd hx hb dX5_undo_53 ?_
          refine xm_topi (y := nI (80 * (z - 1) + i)) (nI_add (80 * (z - 1)) i) ?_
          refine xm_iald (D := (dC, dI)) hx hb hK hP 2 0 (80 * (z - 1) + i) (v := pv (80 * (z - 1) + i)) rfl rfl (by decide) rfl (by omega) rfl dX5_undo_54 ?_
          refine xm_iast (D := (dC, dI)) hx hb hK hP hD hS 1 0 i rfl rfl (by decide) rfl (by omega) dX5_undo_55 (fun H locs hP hD hS => ?_)
          have hP : va_P (dC, dI) vwCl [((mm 0), .inr (5, [.ref (mm 1), .ref (mm 2), .ref (mm 3), .ref (mm 4), .int (nI (z - 1)), .ref (mm 5), .int ty, .int 0, .int at0, .int fa, .ref (mm 6), .int ts, .ref (mm 7), .ref (mm 8), .ref (mm 9), .int fr])), ((mm 2), .inl (cI, 80, .inl (upd (fm_fl (fun j => pv (80 * (z - 1) + j)) v i) i (pv (80 * (z - 1) + i))))), ((mm 4), .inl (cI, 480, .inl pv))] H := hP
          have hD : va_D A [((mm 0), .inr (5, [.ref (mm 1), .ref (mm 2), .ref (mm 3), .ref (mm 4), .int (nI (z - 1)), .ref (mm 5), .int ty, .int 0, .int at0, .int fa, .ref (mm 6), .int ts, .ref (mm 7), .ref (mm 8), .ref (mm 9), .int fr])), ((mm 2), .inl (cI, 80, .inl (upd (fm_fl (fun j => pv (80 * (z - 1) + j)) v i) i (pv (80 * (z - 1) + i))))), ((mm 4), .inl (cI, 480, .inl pv))] := hD
          refine lv_iinc (v := nI (i + 1)) (lv' := [(1, .int (nI (i + 1))), (0, .ref (mm 0))]) hx hb dX5_undo_56 hl (k := 1) rfl (nI_1 i) (by decide) rfl (fun lz hl => ?_)
          refine lv_goto (tgt := 30) hx hb dX5_undo_59 (by decide) ?_
          exact ih30 (i + 1) hlti (by omega) (upd (fm_fl (fun j => pv (80 * (z - 1) + j)) v i) i (pv (80 * (z - 1) + i))) (fm_fl_t rfl)  H locs hP hD hS lz (lv_sub hl [1, 0] rfl)
    exact L30 (80 + 1) 0 (by omega) (by omega) v (fm_fl_0 _ _).symm  H locs hP hD hS lz (lv_sub hl [1, 0] rfl)
  · refine lv_aload_n hx hb dX5_undo_12 rfl (lv_at hl 0 rfl) ?_
    refine lv_iconst (v := 1) hx hb dX5_undo_13 (by decide) ?_
    have hPc := hP.sub (ws' := [((mm 0), .inr (5, [.ref (mm 1), .ref (mm 2), .ref (mm 3), .ref (mm 4), .int (nI z), .ref (mm 5), .int ty, .int 0, .int at0, .int fa, .ref (mm 6), .int ts, .ref (mm 7), .ref (mm 8), .ref (mm 9), .int fr]))]) [0] rfl
    have hDc := hD.sub (ws' := [((mm 0), .inr (5, [.ref (mm 1), .ref (mm 2), .ref (mm 3), .ref (mm 4), .int (nI z), .ref (mm 5), .int ty, .int 0, .int at0, .int fa, .ref (mm 6), .int ts, .ref (mm 7), .ref (mm 8), .ref (mm 9), .int fr]))]) [0] (by decide) rfl
    have hFc := va_free (wc := [((mm 0), .inr (5, [.ref (mm 1), .ref (mm 2), .ref (mm 3), .ref (mm 4), .int (nI z), .ref (mm 5), .int ty, .int 0, .int at0, .int fa, .ref (mm 6), .int ts, .ref (mm 7), .ref (mm 8), .ref (mm 9), .int fr]))]) hD hS hA [0] rfl
    refine va_calli (va_runV (As := [.int 1]) (rest := []) ⟨hx, hb, hml, hown, hts⟩ (c_X5_fails l dC dI cI cS cJ tt H.size mm (nI z) ty 0 at0 fa ts fr 1) (cwV 1 hts gX5_undo_X5_fails rfl rfl rfl (by decide +kernel) ⟨Nat.le_of_ble_eq_true rfl, Nat.le_of_ble_eq_true rfl⟩) ⟨xm_Mblind, va_recv hK hPc (ci := 5) (q0 := 0) rfl rfl, fun U hU hW => ⟨rfl, by rw [hU], by rw [hU]; exact hPc, hE.go hS hFc hU hW, hDc.weaken (fun _ _ _ _ => trivial), trivial⟩⟩ rfl rfl hl.1 rfl (lv_room (Nat.le_of_ble_eq_true rfl)) dX5_undo_14 ⟨Nat.zero_le _, Nat.zero_le _⟩) hS (fun q _ h => hFc q h) hFc (fun r u t H1 locs ht hvm hw hB hz1 hk1 hS => ?_)
    obtain ⟨u_1, rfl⟩ : ∃ z, z = u := ⟨_, rfl⟩
    obtain ⟨hP1, hD1⟩ := hB
    rw [ht] at hP1
    obtain ⟨hw_2, hw_3⟩ := hw
    have hw_2 : r = 0 := hw_2
    subst hw_2
    have hw_3 : u_1 = 1 := hw_3
    subst hw_3
    obtain ⟨hP, hD⟩ := va_join (wr := [((mm 2), .inl (cI, 80, .inl v)), ((mm 4), .inl (cI, 480, .inl pv))]) (w1 := [((mm 0), .inr (5, [.ref (mm 1), .ref (mm 2), .ref (mm 3), .ref (mm 4), .int (nI z), .ref (mm 5), .int ty, .int 1, .int at0, .int fa, .ref (mm 6), .int ts, .ref (mm 7), .ref (mm 8), .ref (mm 9), .int fr]))]) hP hD [0] [1, 2] rfl rfl (by decide) (by decide) hk1 hFc hP1 hD1
    generalize H1 = H at hP hS ⊢
    have hP : va_P (dC, dI) vwCl [((mm 2), .inl (cI, 80, .inl v)), ((mm 4), .inl (cI, 480, .inl pv)), ((mm 0), .inr (5, [.ref (mm 1), .ref (mm 2), .ref (mm 3), .ref (mm 4), .int (nI z), .ref (mm 5), .int ty, .int 1, .int at0, .int fa, .ref (mm 6), .int ts, .ref (mm 7), .ref (mm 8), .ref (mm 9), .int fr]))] H := hP
    have hD : va_D A [((mm 2), .inl (cI, 80, .inl v)), ((mm 4), .inl (cI, 480, .inl pv)), ((mm 0), .inr (5, [.ref (mm 1), .ref (mm 2), .ref (mm 3), .ref (mm 4), .int (nI z), .ref (mm 5), .int ty, .int 1, .int at0, .int fa, .ref (mm 6), .int ts, .ref (mm 7), .ref (mm 8), .ref (mm 9), .int fr]))] := hD
    have hc9 : xc_un z = 1 := by unfold xc_un; rw [if_neg (fun h => h q9)]
    have hn9 : ¬ xc_un z = 0 := by rw [hc9]; decide
    have hP9 := hP.sub (ws' := [((mm 0), .inr (5, [.ref (mm 1), .ref (mm 2), .ref (mm 3), .ref (mm 4), .int (nI z), .ref (mm 5), .int ty, .int 1, .int at0, .int fa, .ref (mm 6), .int ts, .ref (mm 7), .ref (mm 8), .ref (mm 9), .int fr])), ((mm 2), .inl (cI, 80, .inl v)), ((mm 4), .inl (cI, 480, .inl pv))]) [2, 0, 1] rfl
    have hD9 := hD.sub (ws' := [((mm 0), .inr (5, [.ref (mm 1), .ref (mm 2), .ref (mm 3), .ref (mm 4), .int (nI z), .ref (mm 5), .int ty, .int 1, .int at0, .int fa, .ref (mm 6), .int ts, .ref (mm 7), .ref (mm 8), .ref (mm 9), .int fr])), ((mm 2), .inl (cI, 80, .inl v)), ((mm 4), .inl (cI, 480, .inl pv))]) [2, 0, 1] (by decide) rfl
    exact W.iret (v := 0) hx hb hr (fun t ht hW => ⟨⟨0, (1, (nI z), v), rfl, ⟨(if_neg hn9).symm, (hc9.symm), (if_neg hn9).symm, (if_neg hn9).symm⟩, by rw [ht]; exact hP9, hD9⟩, hS.F ht⟩) hS.2.2 dX5_undo_17

