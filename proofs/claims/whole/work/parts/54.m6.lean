set_option maxHeartbeats 4000000 in
set_option maxRecDepth 100000 in
theorem c_X5_number (l : Launch) (dC : Nat → ClassId) (dI : Nat → Nat → Nat) (cI cS cJ : ClassId) (tt : Nat → Nat) (sz : Nat) (mm : Nat → Nat) (ty : Int32) (th : Int32) (at0 : Int32) (fa : Int32) (ts : Int32) (fr : Int32) (p0 : Int32) (p1 : Int32) (p2 : Int32) (z : Nat) (v : Nat → Int32) (pv : Nat → Int32) : Met l yX5_number wsX5_number ({ frames := 2, cells := 0, slots := 0, locals := 42 } : Room) (va_Pc [.ref (mm 0), .int p0, .int p1, .int p2] (xm_M (dC, dI) cI cS cJ tt [((mm 0), .inr (5, [.ref (mm 1), .ref (mm 2), .ref (mm 3), .ref (mm 4), .int (nI z), .ref (mm 5), .int ty, .int th, .int at0, .int fa, .ref (mm 6), .int ts, .ref (mm 7), .ref (mm 8), .ref (mm 9), .int fr])), ((mm 2), .inl (cI, 80, .inl v)), ((mm 4), .inl (cI, 480, .inl pv))] sz (z ≤ 6))) (va_Qi (fun (r : Int32) (u : Int32 × Int32 × (Nat → Int32) × (Nat → Int32)) => r = (if xc_nu p0 p1 p2 = 0 then (nI (nl_n p2)) else 0) ∧ u.1 = xc_nu p0 p1 p2 ∧ u.2.1 = (if xc_nu p0 p1 p2 = 0 then (nI (if z = 6 then 6 else z + 1)) else (nI z)) ∧ u.2.2.1 = (if xc_nu p0 p1 p2 = 0 then (xv_rw 8 6 (fm_pa (fm_fg p2 (nI (nl_n p2))) (nI (nl_n p2)) (fm_mag p2) p1.toNatClampNeg (fun j => v (8 + j)) (p1.toNatClampNeg + 1 - p0.toNatClampNeg)) v) else v) ∧ u.2.2.2 = (if xc_nu p0 p1 p2 = 0 then (mp_sv pv z v) else pv)) (xm_B (dC, dI) (fun (u : Int32 × Int32 × (Nat → Int32) × (Nat → Int32)) => [((mm 0), .inr (5, [.ref (mm 1), .ref (mm 2), .ref (mm 3), .ref (mm 4), .int u.2.1, .ref (mm 5), .int ty, .int u.1, .int at0, .int fa, .ref (mm 6), .int ts, .ref (mm 7), .ref (mm 8), .ref (mm 9), .int fr])), ((mm 2), .inl (cI, 80, .inl u.2.2.1)), ((mm 4), .inl (cI, 480, .inl u.2.2.2))]) (va_A [((mm 0), .inr (5, [.ref (mm 1), .ref (mm 2), .ref (mm 3), .ref (mm 4), .int (nI z), .ref (mm 5), .int ty, .int th, .int at0, .int fa, .ref (mm 6), .int ts, .ref (mm 7), .ref (mm 8), .ref (mm 9), .int fr])), ((mm 2), .inl (cI, 80, .inl v)), ((mm 4), .inl (cI, 480, .inl pv))] sz)) (va_A [((mm 0), .inr (5, [.ref (mm 1), .ref (mm 2), .ref (mm 3), .ref (mm 4), .int (nI z), .ref (mm 5), .int ty, .int th, .int at0, .int fa, .ref (mm 6), .int ts, .ref (mm 7), .ref (mm 8), .ref (mm 9), .int fr])), ((mm 2), .inl (cI, 80, .inl v)), ((mm 4), .inl (cI, 480, .inl pv))] sz)) 0 0 (va_A [((mm 0), .inr (5, [.ref (mm 1), .ref (mm 2), .ref (mm 3), .ref (mm 4), .int (nI z), .ref (mm 5), .int ty, .int th, .int at0, .int fa, .ref (mm 6), .int ts, .ref (mm 7), .ref (mm 8), .ref (mm 9), .int fr])), ((mm 2), .inl (cI, 80, .inl v)), ((mm 4), .inl (cI, 480, .inl pv))] sz) := by
  refine Met.ofW (cc := cX5_number) (maxL := 10) (ret := (some .int)) (by decide) rfl ?_
  intro p e s m args below meth c s₁ B hml hv
  obtain ⟨rfl, hsz, hP, hE, hD0, hpre⟩ := hv
  have hx := B.exec
  have hb := B.bytes
  have hr := B.returns
  have hts := atoms_spec (ws := wsX5_number) B.pre
  have hown : s.vm.findClass RX5 = some m.cls := findClass_of_methodNamed B.named
  have hlocks := B.notSynchronized
  have hK := hE.1
  subst hsz
  have hD := hD0.self (sz := s.heap.size)
  generalize hAe : va_A [((mm 0), .inr (5, [.ref (mm 1), .ref (mm 2), .ref (mm 3), .ref (mm 4), .int (nI z), .ref (mm 5), .int ty, .int th, .int at0, .int fa, .ref (mm 6), .int ts, .ref (mm 7), .ref (mm 8), .ref (mm 9), .int fr])), ((mm 2), .inl (cI, 80, .inl v)), ((mm 4), .inl (cI, 480, .inl pv))] s.heap.size = A at hD hE ⊢
  have hA : ∀ q : Nat, s.heap.size ≤ q → A q := fun q h => by rw [← hAe]; exact Or.inr h
  have hS : va_S A s.heap s.heap [] := va_S.rf
  have hP : va_P (dC, dI) vwCl [((mm 0), .inr (5, [.ref (mm 1), .ref (mm 2), .ref (mm 3), .ref (mm 4), .int (nI z), .ref (mm 5), .int ty, .int th, .int at0, .int fa, .ref (mm 6), .int ts, .ref (mm 7), .ref (mm 8), .ref (mm 9), .int fr])), ((mm 2), .inl (cI, 80, .inl v)), ((mm 4), .inl (cI, 480, .inl pv))] s.heap := hP
  have hin5 : ∀ w ∈ u_ws RX5 TX5 16, w ∈ wsX5_number := by decide +kernel
  have hl := lv_entry [.ref (mm 0), .int p0, .int p1, .int p2] (n := 10) (Nat.le_of_ble_eq_true rfl)
  rw [lg_entry_eq]
  generalize (lg_sl [.ref (mm 0), .int p0, .int p1, .int p2] ++ List.replicate (10 - (lg_sl [.ref (mm 0), .int p0, .int p1, .int p2]).length) Slot.unset).toArray = lz at hl ⊢
  have hl : lv_has lz 10 [(0, .ref (mm 0)), (1, .int p0), (2, .int p1), (3, .int p2)] := hl
  refine lv_aload_n hx hb dX5_number_0 rfl (lv_at hl 0 rfl) ?_
  refine lv_iconst (v := 0) hx hb dX5_number_1 (by decide) ?_
  refine va_put (D := (dC, dI)) (ci := 5) (v := .int 0) (ty := .int) (C := RX5) (T := TX5) (N := 16) hx hb hts hin5 tyX5 tyX5_ok nmX5 hown hK hP hD hS 0 rfl rfl 7 (by decide) (hts (.fieldLink RX5 37 "TurnDigitsModel" "thrown" "I") (by decide +kernel)) (fun _ h9 => h9) rfl (by decide +kernel) rfl rfl (Nat.le_of_ble_eq_true rfl) dX5_number_2 (fun H locs hP hD hS => ?_)
  have hP : va_P (dC, dI) vwCl [((mm 0), .inr (5, [.ref (mm 1), .ref (mm 2), .ref (mm 3), .ref (mm 4), .int (nI z), .ref (mm 5), .int ty, .int 0, .int at0, .int fa, .ref (mm 6), .int ts, .ref (mm 7), .ref (mm 8), .ref (mm 9), .int fr])), ((mm 2), .inl (cI, 80, .inl v)), ((mm 4), .inl (cI, 480, .inl pv))] H := hP
  have hD : va_D A [((mm 0), .inr (5, [.ref (mm 1), .ref (mm 2), .ref (mm 3), .ref (mm 4), .int (nI z), .ref (mm 5), .int ty, .int 0, .int at0, .int fa, .ref (mm 6), .int ts, .ref (mm 7), .ref (mm 8), .ref (mm 9), .int fr])), ((mm 2), .inl (cI, 80, .inl v)), ((mm 4), .inl (cI, 480, .inl pv))] := hD
  refine lv_iload_n hx hb dX5_number_5 rfl (lv_at hl 1 rfl) ?_
  have hPc := hP.sub (ws' := []) [] rfl
  refine W.callV ((va_runS (As := [.int p0]) (rest := []) ⟨hx, hb, hml, hown, hts⟩ (c_X5_isDigit l dC dI cI cS cJ tt p0) (va_cwS 1 hts gX5_number_X5_isDigit rfl rfl rfl (by decide +kernel) ⟨Nat.le_of_ble_eq_true rfl, Nat.le_of_ble_eq_true rfl⟩) ⟨xm_Rblind, fun U hU hW => ⟨rfl, by rw [hU]; exact hPc, hE.go hS (fun _ q => q.elim) hU hW, trivial⟩⟩ rfl rfl hl.1 rfl (lv_room (Nat.le_of_ble_eq_true rfl)) dX5_number_6 ⟨Nat.zero_le _, Nat.zero_le _⟩).run) ?_
  refine W.eq (g2 := F0 m 9 lz (.int (if xt_dg 6 p0 = 0 then 1 else 0) :: [])) rfl ?_
  refine lv_if_eq (tgt := 19) hx hb dX5_number_9 (by decide) (fun q9 => ?_) (fun q9 => ?_)
  · have q9b : ¬ xt_dg 6 p0 = 0 := xm_bF q9
    refine lv_aload_n hx hb dX5_number_19 rfl (lv_at hl 0 rfl) ?_
    refine lv_iconst (v := 1) hx hb dX5_number_20 (by decide) ?_
    have hPc := hP.sub (ws' := [((mm 0), .inr (5, [.ref (mm 1), .ref (mm 2), .ref (mm 3), .ref (mm 4), .int (nI z), .ref (mm 5), .int ty, .int 0, .int at0, .int fa, .ref (mm 6), .int ts, .ref (mm 7), .ref (mm 8), .ref (mm 9), .int fr]))]) [0] rfl
    have hDc := hD.sub (ws' := [((mm 0), .inr (5, [.ref (mm 1), .ref (mm 2), .ref (mm 3), .ref (mm 4), .int (nI z), .ref (mm 5), .int ty, .int 0, .int at0, .int fa, .ref (mm 6), .int ts, .ref (mm 7), .ref (mm 8), .ref (mm 9), .int fr]))]) [0] (by decide) rfl
    have hFc := va_free (wc := [((mm 0), .inr (5, [.ref (mm 1), .ref (mm 2), .ref (mm 3), .ref (mm 4), .int (nI z), .ref (mm 5), .int ty, .int 0, .int at0, .int fa, .ref (mm 6), .int ts, .ref (mm 7), .ref (mm 8), .ref (mm 9), .int fr]))]) hD hS hA [0] rfl
    refine va_calli (va_runV (As := [.int 1]) (rest := []) ⟨hx, hb, hml, hown, hts⟩ (c_X5_fails l dC dI cI cS cJ tt H.size mm (nI z) ty 0 at0 fa ts fr 1) (cwV 1 hts gX5_number_X5_fails rfl rfl rfl (by decide +kernel) ⟨Nat.le_of_ble_eq_true rfl, Nat.le_of_ble_eq_true rfl⟩) ⟨xm_Mblind, va_recv hK hPc (ci := 5) (q0 := 0) rfl rfl, fun U hU hW => ⟨rfl, by rw [hU], by rw [hU]; exact hPc, hE.go hS hFc hU hW, hDc.weaken (fun _ _ _ _ => trivial), trivial⟩⟩ rfl rfl hl.1 rfl (lv_room (Nat.le_of_ble_eq_true rfl)) dX5_number_21 ⟨Nat.zero_le _, Nat.zero_le _⟩) hS (fun q _ h => hFc q h) hFc (fun r u t H1 locs ht hvm hw hB hz1 hk1 hS => ?_)
    obtain ⟨u_1, rfl⟩ : ∃ z, z = u := ⟨_, rfl⟩
    obtain ⟨hP1, hD1⟩ := hB
    rw [ht] at hP1
    obtain ⟨hw_2, hw_3⟩ := hw
    have hw_2 : r = 0 := hw_2
    subst hw_2
    have hw_3 : u_1 = 1 := hw_3
    subst hw_3
    obtain ⟨hP, hD⟩ := va_join (wr := [((mm 2), .inl (cI, 80, .inl v)), ((mm 4), .inl (cI, 480, .inl pv))]) (w1 := [((mm 0), .inr (5, [.ref (mm 1), .ref (mm 2), .ref (mm 3), .ref (mm 4), .int (nI z), .ref (mm 5), .int ty, .int 1, .int at0, .int fa, .ref (mm 6), .int ts, .ref (mm 7), .ref (mm 8), .ref (mm 9), .int fr]))]) hP hD [0] [1, 2] rfl rfl (by decide) (by decide) hk1 hFc hP1 hD1
    generalize H1 = H at hP hS ⊢
    have hP : va_P (dC, dI) vwCl [((mm 2), .inl (cI, 80, .inl v)), ((mm 4), .inl (cI, 480, .inl pv)), ((mm 0), .inr (5, [.ref (mm 1), .ref (mm 2), .ref (mm 3), .ref (mm 4), .int (nI z), .ref (mm 5), .int ty, .int 1, .int at0, .int fa, .ref (mm 6), .int ts, .ref (mm 7), .ref (mm 8), .ref (mm 9), .int fr]))] H := hP
    have hD : va_D A [((mm 2), .inl (cI, 80, .inl v)), ((mm 4), .inl (cI, 480, .inl pv)), ((mm 0), .inr (5, [.ref (mm 1), .ref (mm 2), .ref (mm 3), .ref (mm 4), .int (nI z), .ref (mm 5), .int ty, .int 1, .int at0, .int fa, .ref (mm 6), .int ts, .ref (mm 7), .ref (mm 8), .ref (mm 9), .int fr]))] := hD
    have hc9 : xc_nu p0 p1 p2 = 1 := by simp only [xc_nu, if_neg q9b]
    have hn9 : ¬ xc_nu p0 p1 p2 = 0 := by rw [hc9]; decide
    have hP9 := hP.sub (ws' := [((mm 0), .inr (5, [.ref (mm 1), .ref (mm 2), .ref (mm 3), .ref (mm 4), .int (nI z), .ref (mm 5), .int ty, .int 1, .int at0, .int fa, .ref (mm 6), .int ts, .ref (mm 7), .ref (mm 8), .ref (mm 9), .int fr])), ((mm 2), .inl (cI, 80, .inl v)), ((mm 4), .inl (cI, 480, .inl pv))]) [2, 0, 1] rfl
    have hD9 := hD.sub (ws' := [((mm 0), .inr (5, [.ref (mm 1), .ref (mm 2), .ref (mm 3), .ref (mm 4), .int (nI z), .ref (mm 5), .int ty, .int 1, .int at0, .int fa, .ref (mm 6), .int ts, .ref (mm 7), .ref (mm 8), .ref (mm 9), .int fr])), ((mm 2), .inl (cI, 80, .inl v)), ((mm 4), .inl (cI, 480, .inl pv))]) [2, 0, 1] (by decide) rfl
    exact W.iret (v := 0) hx hb hr (fun t ht hW => ⟨⟨0, (1, (nI z), v, pv), rfl, ⟨(if_neg hn9).symm, (hc9.symm), (if_neg hn9).symm, (if_neg hn9).symm, (if_neg hn9).symm⟩, by rw [ht]; exact hP9, hD9⟩, hS.F ht⟩) hS.2.2 dX5_number_24
  · have q9b : xt_dg 6 p0 = 0 := xm_bT q9
    refine lv_iload_n hx hb dX5_number_12 rfl (lv_at hl 2 rfl) ?_
    have hPc := hP.sub (ws' := []) [] rfl
    refine W.callV ((va_runS (As := [.int p1]) (rest := []) ⟨hx, hb, hml, hown, hts⟩ (c_X5_isDigit l dC dI cI cS cJ tt p1) (va_cwS 1 hts gX5_number_X5_isDigit rfl rfl rfl (by decide +kernel) ⟨Nat.le_of_ble_eq_true rfl, Nat.le_of_ble_eq_true rfl⟩) ⟨xm_Rblind, fun U hU hW => ⟨rfl, by rw [hU]; exact hPc, hE.go hS (fun _ q => q.elim) hU hW, trivial⟩⟩ rfl rfl hl.1 rfl (lv_room (Nat.le_of_ble_eq_true rfl)) dX5_number_13 ⟨Nat.zero_le _, Nat.zero_le _⟩).run) ?_
    refine W.eq (g2 := F0 m 16 lz (.int (if xt_dg 6 p1 = 0 then 1 else 0) :: [])) rfl ?_
    refine lv_if_ne (tgt := 25) hx hb dX5_number_16 (by decide) (fun q16 => ?_) (fun q16 => ?_)
    · have q16b : xt_dg 6 p1 = 0 := xm_bT q16
      refine lv_iload_n hx hb dX5_number_25 rfl (lv_at hl 3 rfl) ?_
      have hPc := hP.sub (ws' := []) [] rfl
      refine W.callV ((va_runS (As := [.int p2]) (rest := []) ⟨hx, hb, hml, hown, hts⟩ (c_X5_sizeOf l dC dI cI cS cJ tt p2) (va_cwS 1 hts gX5_number_X5_sizeOf rfl rfl rfl (by decide +kernel) ⟨Nat.le_of_ble_eq_true rfl, Nat.le_of_ble_eq_true rfl⟩) ⟨xm_Rblind, fun U hU hW => ⟨rfl, by rw [hU]; exact hPc, hE.go hS (fun _ q => q.elim) hU hW, trivial⟩⟩ rfl rfl hl.1 rfl (lv_room (Nat.le_of_ble_eq_true rfl)) dX5_number_26 ⟨Nat.zero_le _, Nat.zero_le _⟩).run) ?_
      refine W.eq (g2 := F0 m 29 lz (.int (nI (nl_0 p2 + sz_h p2)) :: [])) rfl ?_
      refine lv_istore (lv' := [(4, .int (nI (nl_0 p2 + sz_h p2))), (0, .ref (mm 0)), (1, .int p0), (2, .int p1), (3, .int p2)]) hx hb dX5_number_29 hl (by decide) rfl (fun lz hl => ?_)
      refine lv_iload_n hx hb dX5_number_31 rfl (lv_at hl 3 rfl) ?_
      refine lv_iload_n hx hb dX5_number_32 rfl (lv_at hl 2 rfl) ?_
      refine lv_icmp_lt (tgt := 46) hx hb dX5_number_33 (by decide) (fun q33 => ?_) (fun q33 => ?_)
      · have hk := (xt_dg_ok (n := 6) (by decide) q9b)
        have hs := (xt_dg_ok (n := 6) (by decide) q16b)
        have hnu : ¬ xt_rg (nI (nl_n p2)) 1 (p1 - p0 + 1) = 0 := fun h => by rw [hk.1, hs.1] at h; exact ((nu_ok (x := p2) (a := p0.toNatClampNeg) (b := p1.toNatClampNeg) (xt_dg_ok (n := 6) (by decide) q9b).2 (xt_dg_ok (n := 6) (by decide) q16b).2).mp h).1 (by rw [← hk.1, ← hs.1]; exact q33)
        refine lv_aload_n hx hb dX5_number_46 rfl (lv_at hl 1 rfl) ?_
        refine lv_iconst (v := 2) hx hb dX5_number_47 (by decide) ?_
        have hPc := hP.sub (ws' := [((mm 0), .inr (5, [.ref (mm 1), .ref (mm 2), .ref (mm 3), .ref (mm 4), .int (nI z), .ref (mm 5), .int ty, .int 0, .int at0, .int fa, .ref (mm 6), .int ts, .ref (mm 7), .ref (mm 8), .ref (mm 9), .int fr]))]) [0] rfl
        have hDc := hD.sub (ws' := [((mm 0), .inr (5, [.ref (mm 1), .ref (mm 2), .ref (mm 3), .ref (mm 4), .int (nI z), .ref (mm 5), .int ty, .int 0, .int at0, .int fa, .ref (mm 6), .int ts, .ref (mm 7), .ref (mm 8), .ref (mm 9), .int fr]))]) [0] (by decide) rfl
        have hFc := va_free (wc := [((mm 0), .inr (5, [.ref (mm 1), .ref (mm 2), .ref (mm 3), .ref (mm 4), .int (nI z), .ref (mm 5), .int ty, .int 0, .int at0, .int fa, .ref (mm 6), .int ts, .ref (mm 7), .ref (mm 8), .ref (mm 9), .int fr]))]) hD hS hA [0] rfl
        refine va_calli (va_runV (As := [.int 2]) (rest := []) ⟨hx, hb, hml, hown, hts⟩ (c_X5_fails l dC dI cI cS cJ tt H.size mm (nI z) ty 0 at0 fa ts fr 2) (cwV 1 hts gX5_number_X5_fails rfl rfl rfl (by decide +kernel) ⟨Nat.le_of_ble_eq_true rfl, Nat.le_of_ble_eq_true rfl⟩) ⟨xm_Mblind, va_recv hK hPc (ci := 5) (q0 := 0) rfl rfl, fun U hU hW => ⟨rfl, by rw [hU], by rw [hU]; exact hPc, hE.go hS hFc hU hW, hDc.weaken (fun _ _ _ _ => trivial), trivial⟩⟩ rfl rfl hl.1 rfl (lv_room (Nat.le_of_ble_eq_true rfl)) dX5_number_48 ⟨Nat.zero_le _, Nat.zero_le _⟩) hS (fun q _ h => hFc q h) hFc (fun r u t H1 locs ht hvm hw hB hz1 hk1 hS => ?_)
        obtain ⟨u_4, rfl⟩ : ∃ z, z = u := ⟨_, rfl⟩
        obtain ⟨hP1, hD1⟩ := hB
        rw [ht] at hP1
        obtain ⟨hw_5, hw_6⟩ := hw
        have hw_5 : r = 0 := hw_5
        subst hw_5
        have hw_6 : u_4 = 2 := hw_6
        subst hw_6
        obtain ⟨hP, hD⟩ := va_join (wr := [((mm 2), .inl (cI, 80, .inl v)), ((mm 4), .inl (cI, 480, .inl pv))]) (w1 := [((mm 0), .inr (5, [.ref (mm 1), .ref (mm 2), .ref (mm 3), .ref (mm 4), .int (nI z), .ref (mm 5), .int ty, .int 2, .int at0, .int fa, .ref (mm 6), .int ts, .ref (mm 7), .ref (mm 8), .ref (mm 9), .int fr]))]) hP hD [0] [1, 2] rfl rfl (by decide) (by decide) hk1 hFc hP1 hD1
        generalize H1 = H at hP hS ⊢
        have hP : va_P (dC, dI) vwCl [((mm 2), .inl (cI, 80, .inl v)), ((mm 4), .inl (cI, 480, .inl pv)), ((mm 0), .inr (5, [.ref (mm 1), .ref (mm 2), .ref (mm 3), .ref (mm 4), .int (nI z), .ref (mm 5), .int ty, .int 2, .int at0, .int fa, .ref (mm 6), .int ts, .ref (mm 7), .ref (mm 8), .ref (mm 9), .int fr]))] H := hP
        have hD : va_D A [((mm 2), .inl (cI, 80, .inl v)), ((mm 4), .inl (cI, 480, .inl pv)), ((mm 0), .inr (5, [.ref (mm 1), .ref (mm 2), .ref (mm 3), .ref (mm 4), .int (nI z), .ref (mm 5), .int ty, .int 2, .int at0, .int fa, .ref (mm 6), .int ts, .ref (mm 7), .ref (mm 8), .ref (mm 9), .int fr]))] := hD
        have hc9 : xc_nu p0 p1 p2 = 2 := by simp only [xc_nu, if_pos q9b, if_pos q16b, if_neg hnu]
        have hn9 : ¬ xc_nu p0 p1 p2 = 0 := by rw [hc9]; decide
        have hP9 := hP.sub (ws' := [((mm 0), .inr (5, [.ref (mm 1), .ref (mm 2), .ref (mm 3), .ref (mm 4), .int (nI z), .ref (mm 5), .int ty, .int 2, .int at0, .int fa, .ref (mm 6), .int ts, .ref (mm 7), .ref (mm 8), .ref (mm 9), .int fr])), ((mm 2), .inl (cI, 80, .inl v)), ((mm 4), .inl (cI, 480, .inl pv))]) [2, 0, 1] rfl
        have hD9 := hD.sub (ws' := [((mm 0), .inr (5, [.ref (mm 1), .ref (mm 2), .ref (mm 3), .ref (mm 4), .int (nI z), .ref (mm 5), .int ty, .int 2, .int at0, .int fa, .ref (mm 6), .int ts, .ref (mm 7), .ref (mm 8), .ref (mm 9), .int fr])), ((mm 2), .inl (cI, 80, .inl v)), ((mm 4), .inl (cI, 480, .inl pv))]) [2, 0, 1] (by decide) rfl
        exact W.iret (v := 0) hx hb hr (fun t ht hW => ⟨⟨0, (2, (nI z), v, pv), rfl, ⟨(if_neg hn9).symm, (hc9.symm), (if_neg hn9).symm, (if_neg hn9).symm, (if_neg hn9).symm⟩, by rw [ht]; exact hP9, hD9⟩, hS.F ht⟩) hS.2.2 dX5_number_51
      · have hk := (xt_dg_ok (n := 6) (by decide) q9b)
        have hs := (xt_dg_ok (n := 6) (by decide) q16b)
        refine lv_iload hx hb dX5_number_36 (lv_at hl 0 rfl) ?_
        refine lv_iload_n hx hb dX5_number_38 rfl (lv_at hl 3 rfl) ?_
        refine lv_iload_n hx hb dX5_number_39 rfl (lv_at hl 2 rfl) ?_
        refine lv_isub hx hb dX5_number_40 ?_
        refine lv_iconst (v := 1) hx hb dX5_number_41 (by decide) ?_
        refine lv_iadd hx hb dX5_number_42 ?_
        refine lv_icmp_le (tgt := 52) hx hb dX5_number_43 (by decide) (fun q43 => ?_) (fun q43 => ?_)
        · have hnu : xt_rg (nI (nl_n p2)) 1 (p1 - p0 + 1) = 0 := by rw [hk.1, hs.1]; exact (nu_ok (x := p2) (a := p0.toNatClampNeg) (b := p1.toNatClampNeg) (xt_dg_ok (n := 6) (by decide) q9b).2 (xt_dg_ok (n := 6) (by decide) q16b).2).mpr ⟨(by rw [← hk.1, ← hs.1]; exact q33), (by rw [← hk.1, ← hs.1]; exact q43)⟩
          have hfl := xc_nu_le (n := 0) hk hs hnu
          have hnl := nl_sz p2
          have hl0 := nl_0_in p2
          have hszI := q43
          rw [hk.1, hs.1, show nI p1.toNatClampNeg - nI p0.toNatClampNeg + 1 = nI (p1.toNatClampNeg + 1 - p0.toNatClampNeg) by rw [show nI p1.toNatClampNeg - nI p0.toNatClampNeg + 1 = nI (p1.toNatClampNeg + 1) - nI p0.toNatClampNeg by rw [← nI_1, Int32.sub_eq_add_neg, Int32.sub_eq_add_neg, Int32.add_assoc, Int32.add_comm (-_) 1, ← Int32.add_assoc], pk_sub (by omega)]] at hszI
          have hsh : sz_h p2 ≤ 0 + 10 := sz_h9 p2 10 0 (by decide)
          have hszn := (nI_leI (a := (nl_0 p2 + sz_h p2)) (b := p1.toNatClampNeg + 1 - p0.toNatClampNeg) (by omega) (by have := hs.2; omega)).mp hszI
          have hk6 := hk.2
          have hs6 := hs.2
          have hLs : nl_n p2 = (nl_0 p2 + sz_h p2) := by omega
          have hL7 : nl_n p2 ≤ 7 := by omega
          have hL1 : 1 ≤ nl_n p2 := by omega
          refine lv_aload_n hx hb dX5_number_52 rfl (lv_at hl 1 rfl) ?_
          have hPc := hP.sub (ws' := [((mm 0), .inr (5, [.ref (mm 1), .ref (mm 2), .ref (mm 3), .ref (mm 4), .int (nI z), .ref (mm 5), .int ty, .int 0, .int at0, .int fa, .ref (mm 6), .int ts, .ref (mm 7), .ref (mm 8), .ref (mm 9), .int fr])), ((mm 2), .inl (cI, 80, .inl v)), ((mm 4), .inl (cI, 480, .inl pv))]) [0, 1, 2] rfl
          have hDc := hD.sub (ws' := [((mm 0), .inr (5, [.ref (mm 1), .ref (mm 2), .ref (mm 3), .ref (mm 4), .int (nI z), .ref (mm 5), .int ty, .int 0, .int at0, .int fa, .ref (mm 6), .int ts, .ref (mm 7), .ref (mm 8), .ref (mm 9), .int fr])), ((mm 2), .inl (cI, 80, .inl v)), ((mm 4), .inl (cI, 480, .inl pv))]) [0, 1, 2] (by decide) rfl
          have hFc := va_free (wc := [((mm 0), .inr (5, [.ref (mm 1), .ref (mm 2), .ref (mm 3), .ref (mm 4), .int (nI z), .ref (mm 5), .int ty, .int 0, .int at0, .int fa, .ref (mm 6), .int ts, .ref (mm 7), .ref (mm 8), .ref (mm 9), .int fr])), ((mm 2), .inl (cI, 80, .inl v)), ((mm 4), .inl (cI, 480, .inl pv))]) hD hS hA [0, 1, 2] rfl
          refine va_callv (va_runV (As := []) (rest := []) ⟨hx, hb, hml, hown, hts⟩ (c_X5_saves l dC dI cI cS cJ tt H.size mm ty 0 at0 fa ts fr z v pv) (cwV 0 hts gX5_number_X5_saves rfl rfl rfl (by decide +kernel) ⟨Nat.le_of_ble_eq_true rfl, Nat.le_of_ble_eq_true rfl⟩) ⟨xm_Mblind, va_recv hK hPc (ci := 5) (q0 := 0) rfl rfl, fun U hU hW => ⟨rfl, by rw [hU], by rw [hU]; exact hPc, hE.go hS hFc hU hW, hDc.weaken (fun _ _ _ _ => trivial), hpre⟩⟩ rfl rfl hl.1 rfl (lv_room (Nat.le_of_ble_eq_true rfl)) dX5_number_53 ⟨Nat.zero_le _, Nat.zero_le _⟩) hS (fun q _ h => hFc q h) hFc (fun u t H1 locs ht hvm hw hB hz1 hk1 hS => ?_)
          obtain ⟨u_7, u_8⟩ := u
          obtain ⟨hP1, hD1⟩ := hB
          rw [ht] at hP1
          obtain ⟨hw_9, hw_10⟩ := hw
          have hw_9 : u_7 = nI (if z = 6 then 6 else z + 1) := hw_9
          subst hw_9
          have hw_10 : u_8 = mp_sv pv z v := hw_10
          subst hw_10
          obtain ⟨hP, hD⟩ := va_join (wr := []) (w1 := [((mm 0), .inr (5, [.ref (mm 1), .ref (mm 2), .ref (mm 3), .ref (mm 4), .int (nI (if z = 6 then 6 else z + 1)), .ref (mm 5), .int ty, .int 0, .int at0, .int fa, .ref (mm 6), .int ts, .ref (mm 7), .ref (mm 8), .ref (mm 9), .int fr])), ((mm 2), .inl (cI, 80, .inl v)), ((mm 4), .inl (cI, 480, .inl (mp_sv pv z v)))]) hP hD [0, 1, 2] [] rfl rfl (by decide) (by decide) hk1 hFc hP1 hD1
          generalize H1 = H at hP hS ⊢
          have hP : va_P (dC, dI) vwCl [((mm 0), .inr (5, [.ref (mm 1), .ref (mm 2), .ref (mm 3), .ref (mm 4), .int (nI (if z = 6 then 6 else z + 1)), .ref (mm 5), .int ty, .int 0, .int at0, .int fa, .ref (mm 6), .int ts, .ref (mm 7), .ref (mm 8), .ref (mm 9), .int fr])), ((mm 2), .inl (cI, 80, .inl v)), ((mm 4), .inl (cI, 480, .inl (mp_sv pv z v)))] H := hP
          have hD : va_D A [((mm 0), .inr (5, [.ref (mm 1), .ref (mm 2), .ref (mm 3), .ref (mm 4), .int (nI (if z = 6 then 6 else z + 1)), .ref (mm 5), .int ty, .int 0, .int at0, .int fa, .ref (mm 6), .int ts, .ref (mm 7), .ref (mm 8), .ref (mm 9), .int fr])), ((mm 2), .inl (cI, 80, .inl v)), ((mm 4), .inl (cI, 480, .inl (mp_sv pv z v)))] := hD
          refine lv_iload_n hx hb dX5_number_56 rfl (lv_at hl 4 rfl) ?_
          refine lv_istore (lv' := [(5, .int p2), (4, .int (nI (nl_0 p2 + sz_h p2))), (0, .ref (mm 0)), (1, .int p0), (2, .int p1), (3, .int p2)]) hx hb dX5_number_57 hl (by decide) rfl (fun lz hl => ?_)
          refine lv_iload_n hx hb dX5_number_59 rfl (lv_at hl 4 rfl) ?_
          refine xm_topi (y := (nI p1.toNatClampNeg)) hs.1 ?_
          refine lv_istore (lv' := [(6, .int (nI p1.toNatClampNeg)), (5, .int p2), (4, .int (nI (nl_0 p2 + sz_h p2))), (0, .ref (mm 0)), (1, .int p0), (2, .int p1), (3, .int p2)]) hx hb dX5_number_60 hl (by decide) rfl (fun lz hl => ?_)
          have L62 : ∀ (zz i : Nat), i ≤ (p1.toNatClampNeg + 1 - p0.toNatClampNeg) → (p1.toNatClampNeg + 1 - p0.toNatClampNeg) + 1 ≤ i + zz → ∀ (x5 : Int32) (x6 : Int32) (f : Nat → Int32), x5 = ld p2 i → x6 = nI (p1.toNatClampNeg + 1 - i) - 1 → f = xv_rw 8 6 (fm_pa (fm_fg p2 (nI (nl_n p2))) (nI (nl_n p2)) (fm_mag p2) p1.toNatClampNeg (fun j => v (8 + j)) i) v → ∀ (H : Heap) (locs : List Loc), va_P (dC, dI) vwCl [((mm 0), .inr (5, [.ref (mm 1), .ref (mm 2), .ref (mm 3), .ref (mm 4), .int (nI (if z = 6 then 6 else z + 1)), .ref (mm 5), .int ty, .int 0, .int at0, .int fa, .ref (mm 6), .int ts, .ref (mm 7), .ref (mm 8), .ref (mm 9), .int fr])), ((mm 2), .inl (cI, 80, .inl f)), ((mm 4), .inl (cI, 480, .inl (mp_sv pv z v)))] H → va_D A [((mm 0), .inr (5, [.ref (mm 1), .ref (mm 2), .ref (mm 3), .ref (mm 4), .int (nI (if z = 6 then 6 else z + 1)), .ref (mm 5), .int ty, .int 0, .int at0, .int fa, .ref (mm 6), .int ts, .ref (mm 7), .ref (mm 8), .ref (mm 9), .int fr])), ((mm 2), .inl (cI, 80, .inl f)), ((mm 4), .inl (cI, 480, .inl (mp_sv pv z v)))] → va_S A s.heap H locs → ∀ (lz : Array Slot), lv_has lz 10 [(0, .ref (mm 0)), (1, .int p0), (2, .int p1), (3, .int p2), (4, .int (nI (nl_0 p2 + sz_h p2))), (5, .int x5), (6, .int x6)] → W p l e (headSpec wsX5_number ({ frames := 2, cells := 0, slots := 0, locals := 42 } : Room)).room s m ([.ref (mm 0), .int p0, .int p1, .int p2] : List Value).toArray below meth c H locs 0 0 (MQ below (va_Qi (fun (r : Int32) (u : Int32 × Int32 × (Nat → Int32) × (Nat → Int32)) => r = (if xc_nu p0 p1 p2 = 0 then (nI (nl_n p2)) else 0) ∧ u.1 = xc_nu p0 p1 p2 ∧ u.2.1 = (if xc_nu p0 p1 p2 = 0 then (nI (if z = 6 then 6 else z + 1)) else (nI z)) ∧ u.2.2.1 = (if xc_nu p0 p1 p2 = 0 then (xv_rw 8 6 (fm_pa (fm_fg p2 (nI (nl_n p2))) (nI (nl_n p2)) (fm_mag p2) p1.toNatClampNeg (fun j => v (8 + j)) (p1.toNatClampNeg + 1 - p0.toNatClampNeg)) v) else v) ∧ u.2.2.2 = (if xc_nu p0 p1 p2 = 0 then (mp_sv pv z v) else pv)) (xm_B (dC, dI) (fun (u : Int32 × Int32 × (Nat → Int32) × (Nat → Int32)) => [((mm 0), .inr (5, [.ref (mm 1), .ref (mm 2), .ref (mm 3), .ref (mm 4), .int u.2.1, .ref (mm 5), .int ty, .int u.1, .int at0, .int fa, .ref (mm 6), .int ts, .ref (mm 7), .ref (mm 8), .ref (mm 9), .int fr])), ((mm 2), .inl (cI, 80, .inl u.2.2.1)), ((mm 4), .inl (cI, 480, .inl u.2.2.2))]) A) A) ([.ref (mm 0), .int p0, .int p1, .int p2] : List Value).toArray s 0 0 A) (F0 m 62 lz []) := by
            intro zz
            induction zz with
            | zero => intro i hii hni; exact absurd hni (by omega)
            | succ zz ih62 =>
              intro i hii hni x5 x6 f e_x5 e_x6 e_f  H locs hP hD hS lz hl
              subst e_x5 e_f
              refine lv_iload hx hb dX5_number_62 (lv_at hl 6 rfl) ?_
              refine lv_iload_n hx hb dX5_number_64 rfl (lv_at hl 1 rfl) ?_
              refine lv_icmp_lt (tgt := 159) hx hb dX5_number_65 (by decide) (fun q65 => ?_) (fun q65 => ?_)
              · have hNi : (p1.toNatClampNeg + 1 - p0.toNatClampNeg) = i := fm_pn_i hfl hs6 hii (by rw [← e_x6, ← hk.1]; exact q65)
                subst hNi
                refine lv_iload hx hb dX5_number_159 (lv_at hl 4 rfl) ?_
                have hc9 : xc_nu p0 p1 p2 = 0 := by simp only [xc_nu, if_pos q9b, if_pos q16b, if_pos hnu]
                have hP9 : va_P (dC, dI) vwCl [((mm 0), .inr (5, [.ref (mm 1), .ref (mm 2), .ref (mm 3), .ref (mm 4), .int (nI (if z = 6 then 6 else z + 1)), .ref (mm 5), .int ty, .int 0, .int at0, .int fa, .ref (mm 6), .int ts, .ref (mm 7), .ref (mm 8), .ref (mm 9), .int fr])), ((mm 2), .inl (cI, 80, .inl (xv_rw 8 6 (fm_pa (fm_fg p2 (nI (nl_n p2))) (nI (nl_n p2)) (fm_mag p2) p1.toNatClampNeg (fun j => v (8 + j)) (p1.toNatClampNeg + 1 - p0.toNatClampNeg)) v))), ((mm 4), .inl (cI, 480, .inl (mp_sv pv z v)))] H := hP
                have hD9 : va_D A [((mm 0), .inr (5, [.ref (mm 1), .ref (mm 2), .ref (mm 3), .ref (mm 4), .int (nI (if z = 6 then 6 else z + 1)), .ref (mm 5), .int ty, .int 0, .int at0, .int fa, .ref (mm 6), .int ts, .ref (mm 7), .ref (mm 8), .ref (mm 9), .int fr])), ((mm 2), .inl (cI, 80, .inl (xv_rw 8 6 (fm_pa (fm_fg p2 (nI (nl_n p2))) (nI (nl_n p2)) (fm_mag p2) p1.toNatClampNeg (fun j => v (8 + j)) (p1.toNatClampNeg + 1 - p0.toNatClampNeg)) v))), ((mm 4), .inl (cI, 480, .inl (mp_sv pv z v)))] := hD
                exact W.iret (v := (nI (nl_0 p2 + sz_h p2))) hx hb hr (fun t ht hW => ⟨⟨(nI (nl_0 p2 + sz_h p2)), (0, (nI (if z = 6 then 6 else z + 1)), (xv_rw 8 6 (fm_pa (fm_fg p2 (nI (nl_n p2))) (nI (nl_n p2)) (fm_mag p2) p1.toNatClampNeg (fun j => v (8 + j)) (p1.toNatClampNeg + 1 - p0.toNatClampNeg)) v), (mp_sv pv z v)), rfl, ⟨(by rw [if_pos hc9]; rw [hLs]), (hc9.symm), (if_pos hc9).symm, (if_pos hc9).symm, (if_pos hc9).symm⟩, by rw [ht]; exact hP9, hD9⟩, hS.F ht⟩) hS.2.2 dX5_number_161
              · have hx6 := fm_pn_o hfl hs6 (i := i) (by rw [← e_x6, ← hk.1]; exact q65)
                refine lv_iload_n hx hb dX5_number_68 rfl (lv_at hl 2 rfl) ?_
                refine lv_iload hx hb dX5_number_69 (lv_at hl 6 rfl) ?_
                refine lv_isub hx hb dX5_number_71 ?_
                refine xm_topi (y := (nI i)) (by rw [hs.1, e_x6, hx6.2, pk_sub (by omega), show p1.toNatClampNeg - (p1.toNatClampNeg - i) = i by omega]) ?_
                refine lv_istore (lv' := [(7, .int (nI i)), (0, .ref (mm 0)), (1, .int p0), (2, .int p1), (3, .int p2), (4, .int (nI (nl_0 p2 + sz_h p2))), (5, .int (ld p2 i)), (6, .int x6)]) hx hb dX5_number_72 hl (by decide) rfl (fun lz hl => ?_)
                refine lv_iload_n hx hb dX5_number_74 rfl (lv_at hl 4 rfl) ?_
                refine lv_if_ge (tgt := 91) hx hb dX5_number_75 (by decide) (fun q75 => ?_) (fun q75 => ?_)
                · refine lv_iconst (v := 0) hx hb dX5_number_91 (by decide) ?_
                  refine lv_istore (lv' := [(8, .int 0), (7, .int (nI i)), (0, .ref (mm 0)), (1, .int p0), (2, .int p1), (3, .int p2), (4, .int (nI (nl_0 p2 + sz_h p2))), (5, .int (ld p2 i)), (6, .int x6)]) hx hb dX5_number_92 hl (by decide) rfl (fun lz hl => ?_)
                  refine lv_iload hx hb dX5_number_94 (lv_at hl 7 rfl) ?_
                  refine lv_bipush (v := 10) hx hb dX5_number_96 (by decide) ?_
                  refine lv_irem hx hb dX5_number_98 (by decide) ?_
                  refine lv_istore (lv' := [(9, .int ((ld p2 i) - (ld p2 i) / 10 * 10)), (8, .int 0), (7, .int (nI i)), (0, .ref (mm 0)), (1, .int p0), (2, .int p1), (3, .int p2), (4, .int (nI (nl_0 p2 + sz_h p2))), (5, .int (ld p2 i)), (6, .int x6)]) hx hb dX5_number_99 hl (by decide) rfl (fun lz hl => ?_)
                  refine lv_aload_n hx hb dX5_number_101 rfl (lv_at hl 3 rfl) ?_
                  refine va_get (D := (dC, dI)) (ci := 5) (v := .ref (mm 2)) (C := RX5) (T := TX5) (N := 16) hx hb hts hin5 hown hK hP 0 rfl rfl 1 (by decide) (hts (.fieldLink RX5 13 "TurnDigitsModel" "now" "[I") (by decide +kernel)) (fun _ h9 => h9) rfl dX5_number_102 ?_
                  refine lv_bipush (v := 8) hx hb dX5_number_105 (by decide) ?_
                  refine lv_iload hx hb dX5_number_107 (lv_at hl 9 rfl) ?_
                  refine lv_iadd hx hb dX5_number_109 ?_
                  refine lv_iload hx hb dX5_number_110 (lv_at hl 2 rfl) ?_
                  refine lv_iload hx hb dX5_number_112 (lv_at hl 7 rfl) ?_
                  refine lv_icmp_lt (tgt := 122) hx hb dX5_number_114 (by decide) (fun q114 => ?_) (fun q114 => ?_)
                  · refine lv_iload hx hb dX5_number_122 (lv_at hl 1 rfl) ?_
                    refine lv_if_eq (tgt := 132) hx hb dX5_number_124 (by decide) (fun q9 => ?_) (fun q9 => absurd (by decide) q9)
                    refine lv_iload hx hb dX5_number_132 (lv_at hl 0 rfl) ?_
                    refine lv_if_ge (tgt := 143) hx hb dX5_number_134 (by decide) (fun q134 => ?_) (fun q134 => ?_)
                    · refine lv_iload hx hb dX5_number_143 (lv_at hl 0 rfl) ?_
                      refine xm_iast (D := (dC, dI)) hx hb hK hP hD hS 1 0 (8 + (p1.toNatClampNeg - i)) rfl rfl (by decide) (show (8 : Int32) + x6 = nI (8 + (p1.toNatClampNeg - i)) by rw [e_x6, hx6.2]; exact nI_add 8 _) (by omega) dX5_number_145 (fun H locs hP hD hS => ?_)
                      have hP : va_P (dC, dI) vwCl [((mm 0), .inr (5, [.ref (mm 1), .ref (mm 2), .ref (mm 3), .ref (mm 4), .int (nI (if z = 6 then 6 else z + 1)), .ref (mm 5), .int ty, .int 0, .int at0, .int fa, .ref (mm 6), .int ts, .ref (mm 7), .ref (mm 8), .ref (mm 9), .int fr])), ((mm 2), .inl (cI, 80, .inl (upd (xv_rw 8 6 (fm_pa (fm_fg p2 (nI (nl_n p2))) (nI (nl_n p2)) (fm_mag p2) p1.toNatClampNeg (fun j => v (8 + j)) i) v) (8 + (p1.toNatClampNeg - i)) ((ld p2 i) - (ld p2 i) / 10 * 10)))), ((mm 4), .inl (cI, 480, .inl (mp_sv pv z v)))] H := hP
                      have hD : va_D A [((mm 0), .inr (5, [.ref (mm 1), .ref (mm 2), .ref (mm 3), .ref (mm 4), .int (nI (if z = 6 then 6 else z + 1)), .ref (mm 5), .int ty, .int 0, .int at0, .int fa, .ref (mm 6), .int ts, .ref (mm 7), .ref (mm 8), .ref (mm 9), .int fr])), ((mm 2), .inl (cI, 80, .inl (upd (xv_rw 8 6 (fm_pa (fm_fg p2 (nI (nl_n p2))) (nI (nl_n p2)) (fm_mag p2) p1.toNatClampNeg (fun j => v (8 + j)) i) v) (8 + (p1.toNatClampNeg - i)) ((ld p2 i) - (ld p2 i) / 10 * 10)))), ((mm 4), .inl (cI, 480, .inl (mp_sv pv z v)))] := hD
                      refine lv_iload hx hb dX5_number_146 (lv_at hl 8 rfl) ?_
                      refine lv_bipush (v := 10) hx hb dX5_number_148 (by decide) ?_
                      refine lv_idiv hx hb dX5_number_150 (by decide) ?_
                      refine lv_istore (lv' := [(5, .int ((ld p2 i) / 10)), (9, .int ((ld p2 i) - (ld p2 i) / 10 * 10)), (8, .int 0), (7, .int (nI i)), (0, .ref (mm 0)), (1, .int p0), (2, .int p1), (3, .int p2), (4, .int (nI (nl_0 p2 + sz_h p2))), (6, .int x6)]) hx hb dX5_number_151 hl (by decide) rfl (fun lz hl => ?_)
                      refine lv_iinc (v := (x6 + (-1))) (lv' := [(6, .int (x6 + (-1))), (5, .int ((ld p2 i) / 10)), (9, .int ((ld p2 i) - (ld p2 i) / 10 * 10)), (8, .int 0), (7, .int (nI i)), (0, .ref (mm 0)), (1, .int p0), (2, .int p1), (3, .int p2), (4, .int (nI (nl_0 p2 + sz_h p2)))]) hx hb dX5_number_153 hl (k := 9) rfl rfl (by decide) rfl (fun lz hl => ?_)
                      refine lv_goto (tgt := 62) hx hb dX5_number_156 (by decide) ?_
                      exact ih62 (i + 1) hx6.1 (by omega) ((ld p2 i) / 10) (x6 + (-1)) (upd (xv_rw 8 6 (fm_pa (fm_fg p2 (nI (nl_n p2))) (nI (nl_n p2)) (fm_mag p2) p1.toNatClampNeg (fun j => v (8 + j)) i) v) (8 + (p1.toNatClampNeg - i)) ((ld p2 i) - (ld p2 i) / 10 * 10)) rfl (by rw [e_x6, hx6.2, show p1.toNatClampNeg + 1 - (i + 1) = p1.toNatClampNeg - i by omega]; exact (Int32.sub_eq_add_neg _ _).symm) (by rw [xv_rw_u (by omega)]; show xv_rw 8 6 (upd _ _ _) v = xv_rw 8 6 (upd _ _ _) v; congr 2; exact nv_p (L := nl_n p2) rfl hL7 (by rw [hLs]; exact (nI_ltI (a := i) (b := (nl_0 p2 + sz_h p2)) (by omega) (by omega)).mp q114) (Or.inl q75) q134)  H locs hP hD hS lz (lv_sub hl [5, 6, 7, 8, 9, 1, 0] rfl)
                    · refine lv_iload hx hb dX5_number_137 (lv_at hl 0 rfl) ?_
                      refine lv_ineg hx hb dX5_number_139 ?_
                      refine lv_goto (tgt := 145) hx hb dX5_number_140 (by decide) ?_
                      refine xm_iast (D := (dC, dI)) hx hb hK hP hD hS 1 0 (8 + (p1.toNatClampNeg - i)) rfl rfl (by decide) (show (8 : Int32) + x6 = nI (8 + (p1.toNatClampNeg - i)) by rw [e_x6, hx6.2]; exact nI_add 8 _) (by omega) dX5_number_145 (fun H locs hP hD hS => ?_)
                      have hP : va_P (dC, dI) vwCl [((mm 0), .inr (5, [.ref (mm 1), .ref (mm 2), .ref (mm 3), .ref (mm 4), .int (nI (if z = 6 then 6 else z + 1)), .ref (mm 5), .int ty, .int 0, .int at0, .int fa, .ref (mm 6), .int ts, .ref (mm 7), .ref (mm 8), .ref (mm 9), .int fr])), ((mm 2), .inl (cI, 80, .inl (upd (xv_rw 8 6 (fm_pa (fm_fg p2 (nI (nl_n p2))) (nI (nl_n p2)) (fm_mag p2) p1.toNatClampNeg (fun j => v (8 + j)) i) v) (8 + (p1.toNatClampNeg - i)) (-((ld p2 i) - (ld p2 i) / 10 * 10))))), ((mm 4), .inl (cI, 480, .inl (mp_sv pv z v)))] H := hP
                      have hD : va_D A [((mm 0), .inr (5, [.ref (mm 1), .ref (mm 2), .ref (mm 3), .ref (mm 4), .int (nI (if z = 6 then 6 else z + 1)), .ref (mm 5), .int ty, .int 0, .int at0, .int fa, .ref (mm 6), .int ts, .ref (mm 7), .ref (mm 8), .ref (mm 9), .int fr])), ((mm 2), .inl (cI, 80, .inl (upd (xv_rw 8 6 (fm_pa (fm_fg p2 (nI (nl_n p2))) (nI (nl_n p2)) (fm_mag p2) p1.toNatClampNeg (fun j => v (8 + j)) i) v) (8 + (p1.toNatClampNeg - i)) (-((ld p2 i) - (ld p2 i) / 10 * 10))))), ((mm 4), .inl (cI, 480, .inl (mp_sv pv z v)))] := hD
                      refine lv_iload hx hb dX5_number_146 (lv_at hl 8 rfl) ?_
                      refine lv_bipush (v := 10) hx hb dX5_number_148 (by decide) ?_
                      refine lv_idiv hx hb dX5_number_150 (by decide) ?_
                      refine lv_istore (lv' := [(5, .int ((ld p2 i) / 10)), (9, .int ((ld p2 i) - (ld p2 i) / 10 * 10)), (8, .int 0), (7, .int (nI i)), (0, .ref (mm 0)), (1, .int p0), (2, .int p1), (3, .int p2), (4, .int (nI (nl_0 p2 + sz_h p2))), (6, .int x6)]) hx hb dX5_number_151 hl (by decide) rfl (fun lz hl => ?_)
                      refine lv_iinc (v := (x6 + (-1))) (lv' := [(6, .int (x6 + (-1))), (5, .int ((ld p2 i) / 10)), (9, .int ((ld p2 i) - (ld p2 i) / 10 * 10)), (8, .int 0), (7, .int (nI i)), (0, .ref (mm 0)), (1, .int p0), (2, .int p1), (3, .int p2), (4, .int (nI (nl_0 p2 + sz_h p2)))]) hx hb dX5_number_153 hl (k := 9) rfl rfl (by decide) rfl (fun lz hl => ?_)
                      refine lv_goto (tgt := 62) hx hb dX5_number_156 (by decide) ?_
                      exact ih62 (i + 1) hx6.1 (by omega) ((ld p2 i) / 10) (x6 + (-1)) (upd (xv_rw 8 6 (fm_pa (fm_fg p2 (nI (nl_n p2))) (nI (nl_n p2)) (fm_mag p2) p1.toNatClampNeg (fun j => v (8 + j)) i) v) (8 + (p1.toNatClampNeg - i)) (-((ld p2 i) - (ld p2 i) / 10 * 10))) rfl (by rw [e_x6, hx6.2, show p1.toNatClampNeg + 1 - (i + 1) = p1.toNatClampNeg - i by omega]; exact (Int32.sub_eq_add_neg _ _).symm) (by rw [xv_rw_u (by omega)]; show xv_rw 8 6 (upd _ _ _) v = xv_rw 8 6 (upd _ _ _) v; congr 2; exact nv_m (L := nl_n p2) rfl hL7 (by rw [hLs]; exact (nI_ltI (a := i) (b := (nl_0 p2 + sz_h p2)) (by omega) (by omega)).mp q114) (Or.inl q75) q134)  H locs hP hD hS lz (lv_sub hl [5, 6, 7, 8, 9, 1, 0] rfl)
                  · refine lv_bipush (v := 11) hx hb dX5_number_117 (by decide) ?_
                    refine lv_goto (tgt := 145) hx hb dX5_number_119 (by decide) ?_
                    refine xm_iast (D := (dC, dI)) hx hb hK hP hD hS 1 0 (8 + (p1.toNatClampNeg - i)) rfl rfl (by decide) (show (8 : Int32) + x6 = nI (8 + (p1.toNatClampNeg - i)) by rw [e_x6, hx6.2]; exact nI_add 8 _) (by omega) dX5_number_145 (fun H locs hP hD hS => ?_)
                    have hP : va_P (dC, dI) vwCl [((mm 0), .inr (5, [.ref (mm 1), .ref (mm 2), .ref (mm 3), .ref (mm 4), .int (nI (if z = 6 then 6 else z + 1)), .ref (mm 5), .int ty, .int 0, .int at0, .int fa, .ref (mm 6), .int ts, .ref (mm 7), .ref (mm 8), .ref (mm 9), .int fr])), ((mm 2), .inl (cI, 80, .inl (upd (xv_rw 8 6 (fm_pa (fm_fg p2 (nI (nl_n p2))) (nI (nl_n p2)) (fm_mag p2) p1.toNatClampNeg (fun j => v (8 + j)) i) v) (8 + (p1.toNatClampNeg - i)) 11))), ((mm 4), .inl (cI, 480, .inl (mp_sv pv z v)))] H := hP
                    have hD : va_D A [((mm 0), .inr (5, [.ref (mm 1), .ref (mm 2), .ref (mm 3), .ref (mm 4), .int (nI (if z = 6 then 6 else z + 1)), .ref (mm 5), .int ty, .int 0, .int at0, .int fa, .ref (mm 6), .int ts, .ref (mm 7), .ref (mm 8), .ref (mm 9), .int fr])), ((mm 2), .inl (cI, 80, .inl (upd (xv_rw 8 6 (fm_pa (fm_fg p2 (nI (nl_n p2))) (nI (nl_n p2)) (fm_mag p2) p1.toNatClampNeg (fun j => v (8 + j)) i) v) (8 + (p1.toNatClampNeg - i)) 11))), ((mm 4), .inl (cI, 480, .inl (mp_sv pv z v)))] := hD
                    refine lv_iload hx hb dX5_number_146 (lv_at hl 8 rfl) ?_
                    refine lv_bipush (v := 10) hx hb dX5_number_148 (by decide) ?_
                    refine lv_idiv hx hb dX5_number_150 (by decide) ?_
                    refine lv_istore (lv' := [(5, .int ((ld p2 i) / 10)), (9, .int ((ld p2 i) - (ld p2 i) / 10 * 10)), (8, .int 0), (7, .int (nI i)), (0, .ref (mm 0)), (1, .int p0), (2, .int p1), (3, .int p2), (4, .int (nI (nl_0 p2 + sz_h p2))), (6, .int x6)]) hx hb dX5_number_151 hl (by decide) rfl (fun lz hl => ?_)
                    refine lv_iinc (v := (x6 + (-1))) (lv' := [(6, .int (x6 + (-1))), (5, .int ((ld p2 i) / 10)), (9, .int ((ld p2 i) - (ld p2 i) / 10 * 10)), (8, .int 0), (7, .int (nI i)), (0, .ref (mm 0)), (1, .int p0), (2, .int p1), (3, .int p2), (4, .int (nI (nl_0 p2 + sz_h p2)))]) hx hb dX5_number_153 hl (k := 9) rfl rfl (by decide) rfl (fun lz hl => ?_)
                    refine lv_goto (tgt := 62) hx hb dX5_number_156 (by decide) ?_
                    exact ih62 (i + 1) hx6.1 (by omega) ((ld p2 i) / 10) (x6 + (-1)) (upd (xv_rw 8 6 (fm_pa (fm_fg p2 (nI (nl_n p2))) (nI (nl_n p2)) (fm_mag p2) p1.toNatClampNeg (fun j => v (8 + j)) i) v) (8 + (p1.toNatClampNeg - i)) 11) rfl (by rw [e_x6, hx6.2, show p1.toNatClampNeg + 1 - (i + 1) = p1.toNatClampNeg - i by omega]; exact (Int32.sub_eq_add_neg _ _).symm) (by rw [xv_rw_u (by omega)]; show xv_rw 8 6 (upd _ _ _) v = xv_rw 8 6 (upd _ _ _) v; congr 2; exact nv_11 (L := nl_n p2) rfl hL7 hL1 (by rw [hLs]; have h := (not_congr (nI_ltI (a := i) (b := (nl_0 p2 + sz_h p2)) (by omega) (by omega))).mp q114; omega) (by omega))  H locs hP hD hS lz (lv_sub hl [5, 6, 7, 8, 9, 1, 0] rfl)
                · refine lv_iload hx hb dX5_number_78 (lv_at hl 0 rfl) ?_
                  refine lv_iload hx hb dX5_number_80 (lv_at hl 5 rfl) ?_
                  refine lv_iconst (v := 1) hx hb dX5_number_82 (by decide) ?_
                  refine lv_isub hx hb dX5_number_83 ?_
                  refine xm_topi (y := (nI ((nl_0 p2 + sz_h p2) - 1))) (pk_sub (b := 1) (by omega)) ?_
                  refine lv_icmp_ne (tgt := 91) hx hb dX5_number_84 (by decide) (fun q84 => ?_) (fun q84 => ?_)
                  · refine lv_iconst (v := 0) hx hb dX5_number_91 (by decide) ?_
                    refine lv_istore (lv' := [(8, .int 0), (7, .int (nI i)), (0, .ref (mm 0)), (1, .int p0), (2, .int p1), (3, .int p2), (4, .int (nI (nl_0 p2 + sz_h p2))), (5, .int (ld p2 i)), (6, .int x6)]) hx hb dX5_number_92 hl (by decide) rfl (fun lz hl => ?_)
                    refine lv_iload hx hb dX5_number_94 (lv_at hl 7 rfl) ?_
                    refine lv_bipush (v := 10) hx hb dX5_number_96 (by decide) ?_
                    refine lv_irem hx hb dX5_number_98 (by decide) ?_
                    refine lv_istore (lv' := [(9, .int ((ld p2 i) - (ld p2 i) / 10 * 10)), (8, .int 0), (7, .int (nI i)), (0, .ref (mm 0)), (1, .int p0), (2, .int p1), (3, .int p2), (4, .int (nI (nl_0 p2 + sz_h p2))), (5, .int (ld p2 i)), (6, .int x6)]) hx hb dX5_number_99 hl (by decide) rfl (fun lz hl => ?_)
                    refine lv_aload_n hx hb dX5_number_101 rfl (lv_at hl 3 rfl) ?_
                    refine va_get (D := (dC, dI)) (ci := 5) (v := .ref (mm 2)) (C := RX5) (T := TX5) (N := 16) hx hb hts hin5 hown hK hP 0 rfl rfl 1 (by decide) (hts (.fieldLink RX5 13 "TurnDigitsModel" "now" "[I") (by decide +kernel)) (fun _ h9 => h9) rfl dX5_number_102 ?_
                    refine lv_bipush (v := 8) hx hb dX5_number_105 (by decide) ?_
                    refine lv_iload hx hb dX5_number_107 (lv_at hl 9 rfl) ?_
                    refine lv_iadd hx hb dX5_number_109 ?_
                    refine lv_iload hx hb dX5_number_110 (lv_at hl 2 rfl) ?_
                    refine lv_iload hx hb dX5_number_112 (lv_at hl 7 rfl) ?_
                    refine lv_icmp_lt (tgt := 122) hx hb dX5_number_114 (by decide) (fun q114 => ?_) (fun q114 => ?_)
                    · refine lv_iload hx hb dX5_number_122 (lv_at hl 1 rfl) ?_
                      refine lv_if_eq (tgt := 132) hx hb dX5_number_124 (by decide) (fun q9 => ?_) (fun q9 => absurd (by decide) q9)
                      refine lv_iload hx hb dX5_number_132 (lv_at hl 0 rfl) ?_
                      refine lv_if_ge (tgt := 143) hx hb dX5_number_134 (by decide) (fun q134 => ?_) (fun q134 => ?_)
                      · refine lv_iload hx hb dX5_number_143 (lv_at hl 0 rfl) ?_
                        refine xm_iast (D := (dC, dI)) hx hb hK hP hD hS 1 0 (8 + (p1.toNatClampNeg - i)) rfl rfl (by decide) (show (8 : Int32) + x6 = nI (8 + (p1.toNatClampNeg - i)) by rw [e_x6, hx6.2]; exact nI_add 8 _) (by omega) dX5_number_145 (fun H locs hP hD hS => ?_)
                        have hP : va_P (dC, dI) vwCl [((mm 0), .inr (5, [.ref (mm 1), .ref (mm 2), .ref (mm 3), .ref (mm 4), .int (nI (if z = 6 then 6 else z + 1)), .ref (mm 5), .int ty, .int 0, .int at0, .int fa, .ref (mm 6), .int ts, .ref (mm 7), .ref (mm 8), .ref (mm 9), .int fr])), ((mm 2), .inl (cI, 80, .inl (upd (xv_rw 8 6 (fm_pa (fm_fg p2 (nI (nl_n p2))) (nI (nl_n p2)) (fm_mag p2) p1.toNatClampNeg (fun j => v (8 + j)) i) v) (8 + (p1.toNatClampNeg - i)) ((ld p2 i) - (ld p2 i) / 10 * 10)))), ((mm 4), .inl (cI, 480, .inl (mp_sv pv z v)))] H := hP
                        have hD : va_D A [((mm 0), .inr (5, [.ref (mm 1), .ref (mm 2), .ref (mm 3), .ref (mm 4), .int (nI (if z = 6 then 6 else z + 1)), .ref (mm 5), .int ty, .int 0, .int at0, .int fa, .ref (mm 6), .int ts, .ref (mm 7), .ref (mm 8), .ref (mm 9), .int fr])), ((mm 2), .inl (cI, 80, .inl (upd (xv_rw 8 6 (fm_pa (fm_fg p2 (nI (nl_n p2))) (nI (nl_n p2)) (fm_mag p2) p1.toNatClampNeg (fun j => v (8 + j)) i) v) (8 + (p1.toNatClampNeg - i)) ((ld p2 i) - (ld p2 i) / 10 * 10)))), ((mm 4), .inl (cI, 480, .inl (mp_sv pv z v)))] := hD
                        refine lv_iload hx hb dX5_number_146 (lv_at hl 8 rfl) ?_
                        refine lv_bipush (v := 10) hx hb dX5_number_148 (by decide) ?_
                        refine lv_idiv hx hb dX5_number_150 (by decide) ?_
                        refine lv_istore (lv' := [(5, .int ((ld p2 i) / 10)), (9, .int ((ld p2 i) - (ld p2 i) / 10 * 10)), (8, .int 0), (7, .int (nI i)), (0, .ref (mm 0)), (1, .int p0), (2, .int p1), (3, .int p2), (4, .int (nI (nl_0 p2 + sz_h p2))), (6, .int x6)]) hx hb dX5_number_151 hl (by decide) rfl (fun lz hl => ?_)
                        refine lv_iinc (v := (x6 + (-1))) (lv' := [(6, .int (x6 + (-1))), (5, .int ((ld p2 i) / 10)), (9, .int ((ld p2 i) - (ld p2 i) / 10 * 10)), (8, .int 0), (7, .int (nI i)), (0, .ref (mm 0)), (1, .int p0), (2, .int p1), (3, .int p2), (4, .int (nI (nl_0 p2 + sz_h p2)))]) hx hb dX5_number_153 hl (k := 9) rfl rfl (by decide) rfl (fun lz hl => ?_)
                        refine lv_goto (tgt := 62) hx hb dX5_number_156 (by decide) ?_
                        exact ih62 (i + 1) hx6.1 (by omega) ((ld p2 i) / 10) (x6 + (-1)) (upd (xv_rw 8 6 (fm_pa (fm_fg p2 (nI (nl_n p2))) (nI (nl_n p2)) (fm_mag p2) p1.toNatClampNeg (fun j => v (8 + j)) i) v) (8 + (p1.toNatClampNeg - i)) ((ld p2 i) - (ld p2 i) / 10 * 10)) rfl (by rw [e_x6, hx6.2, show p1.toNatClampNeg + 1 - (i + 1) = p1.toNatClampNeg - i by omega]; exact (Int32.sub_eq_add_neg _ _).symm) (by rw [xv_rw_u (by omega)]; show xv_rw 8 6 (upd _ _ _) v = xv_rw 8 6 (upd _ _ _) v; congr 2; exact nv_p (L := nl_n p2) rfl hL7 (by rw [hLs]; exact (nI_ltI (a := i) (b := (nl_0 p2 + sz_h p2)) (by omega) (by omega)).mp q114) (Or.inr (fun h => q84 (by rw [h, hLs]))) q134)  H locs hP hD hS lz (lv_sub hl [5, 6, 7, 8, 9, 1, 0] rfl)
                      · refine lv_iload hx hb dX5_number_137 (lv_at hl 0 rfl) ?_
                        refine lv_ineg hx hb dX5_number_139 ?_
                        refine lv_goto (tgt := 145) hx hb dX5_number_140 (by decide) ?_
                        refine xm_iast (D := (dC, dI)) hx hb hK hP hD hS 1 0 (8 + (p1.toNatClampNeg - i)) rfl rfl (by decide) (show (8 : Int32) + x6 = nI (8 + (p1.toNatClampNeg - i)) by rw [e_x6, hx6.2]; exact nI_add 8 _) (by omega) dX5_number_145 (fun H locs hP hD hS => ?_)
                        have hP : va_P (dC, dI) vwCl [((mm 0), .inr (5, [.ref (mm 1), .ref (mm 2), .ref (mm 3), .ref (mm 4), .int (nI (if z = 6 then 6 else z + 1)), .ref (mm 5), .int ty, .int 0, .int at0, .int fa, .ref (mm 6), .int ts, .ref (mm 7), .ref (mm 8), .ref (mm 9), .int fr])), ((mm 2), .inl (cI, 80, .inl (upd (xv_rw 8 6 (fm_pa (fm_fg p2 (nI (nl_n p2))) (nI (nl_n p2)) (fm_mag p2) p1.toNatClampNeg (fun j => v (8 + j)) i) v) (8 + (p1.toNatClampNeg - i)) (-((ld p2 i) - (ld p2 i) / 10 * 10))))), ((mm 4), .inl (cI, 480, .inl (mp_sv pv z v)))] H := hP
                        have hD : va_D A [((mm 0), .inr (5, [.ref (mm 1), .ref (mm 2), .ref (mm 3), .ref (mm 4), .int (nI (if z = 6 then 6 else z + 1)), .ref (mm 5), .int ty, .int 0, .int at0, .int fa, .ref (mm 6), .int ts, .ref (mm 7), .ref (mm 8), .ref (mm 9), .int fr])), ((mm 2), .inl (cI, 80, .inl (upd (xv_rw 8 6 (fm_pa (fm_fg p2 (nI (nl_n p2))) (nI (nl_n p2)) (fm_mag p2) p1.toNatClampNeg (fun j => v (8 + j)) i) v) (8 + (p1.toNatClampNeg - i)) (-((ld p2 i) - (ld p2 i) / 10 * 10))))), ((mm 4), .inl (cI, 480, .inl (mp_sv pv z v)))] := hD
                        refine lv_iload hx hb dX5_number_146 (lv_at hl 8 rfl) ?_
                        refine lv_bipush (v := 10) hx hb dX5_number_148 (by decide) ?_
                        refine lv_idiv hx hb dX5_number_150 (by decide) ?_
                        refine lv_istore (lv' := [(5, .int ((ld p2 i) / 10)), (9, .int ((ld p2 i) - (ld p2 i) / 10 * 10)), (8, .int 0), (7, .int (nI i)), (0, .ref (mm 0)), (1, .int p0), (2, .int p1), (3, .int p2), (4, .int (nI (nl_0 p2 + sz_h p2))), (6, .int x6)]) hx hb dX5_number_151 hl (by decide) rfl (fun lz hl => ?_)
                        refine lv_iinc (v := (x6 + (-1))) (lv' := [(6, .int (x6 + (-1))), (5, .int ((ld p2 i) / 10)), (9, .int ((ld p2 i) - (ld p2 i) / 10 * 10)), (8, .int 0), (7, .int (nI i)), (0, .ref (mm 0)), (1, .int p0), (2, .int p1), (3, .int p2), (4, .int (nI (nl_0 p2 + sz_h p2)))]) hx hb dX5_number_153 hl (k := 9) rfl rfl (by decide) rfl (fun lz hl => ?_)
                        refine lv_goto (tgt := 62) hx hb dX5_number_156 (by decide) ?_
                        exact ih62 (i + 1) hx6.1 (by omega) ((ld p2 i) / 10) (x6 + (-1)) (upd (xv_rw 8 6 (fm_pa (fm_fg p2 (nI (nl_n p2))) (nI (nl_n p2)) (fm_mag p2) p1.toNatClampNeg (fun j => v (8 + j)) i) v) (8 + (p1.toNatClampNeg - i)) (-((ld p2 i) - (ld p2 i) / 10 * 10))) rfl (by rw [e_x6, hx6.2, show p1.toNatClampNeg + 1 - (i + 1) = p1.toNatClampNeg - i by omega]; exact (Int32.sub_eq_add_neg _ _).symm) (by rw [xv_rw_u (by omega)]; show xv_rw 8 6 (upd _ _ _) v = xv_rw 8 6 (upd _ _ _) v; congr 2; exact nv_m (L := nl_n p2) rfl hL7 (by rw [hLs]; exact (nI_ltI (a := i) (b := (nl_0 p2 + sz_h p2)) (by omega) (by omega)).mp q114) (Or.inr (fun h => q84 (by rw [h, hLs]))) q134)  H locs hP hD hS lz (lv_sub hl [5, 6, 7, 8, 9, 1, 0] rfl)
                    · refine lv_bipush (v := 11) hx hb dX5_number_117 (by decide) ?_
                      refine lv_goto (tgt := 145) hx hb dX5_number_119 (by decide) ?_
                      refine xm_iast (D := (dC, dI)) hx hb hK hP hD hS 1 0 (8 + (p1.toNatClampNeg - i)) rfl rfl (by decide) (show (8 : Int32) + x6 = nI (8 + (p1.toNatClampNeg - i)) by rw [e_x6, hx6.2]; exact nI_add 8 _) (by omega) dX5_number_145 (fun H locs hP hD hS => ?_)
                      have hP : va_P (dC, dI) vwCl [((mm 0), .inr (5, [.ref (mm 1), .ref (mm 2), .ref (mm 3), .ref (mm 4), .int (nI (if z = 6 then 6 else z + 1)), .ref (mm 5), .int ty, .int 0, .int at0, .int fa, .ref (mm 6), .int ts, .ref (mm 7), .ref (mm 8), .ref (mm 9), .int fr])), ((mm 2), .inl (cI, 80, .inl (upd (xv_rw 8 6 (fm_pa (fm_fg p2 (nI (nl_n p2))) (nI (nl_n p2)) (fm_mag p2) p1.toNatClampNeg (fun j => v (8 + j)) i) v) (8 + (p1.toNatClampNeg - i)) 11))), ((mm 4), .inl (cI, 480, .inl (mp_sv pv z v)))] H := hP
                      have hD : va_D A [((mm 0), .inr (5, [.ref (mm 1), .ref (mm 2), .ref (mm 3), .ref (mm 4), .int (nI (if z = 6 then 6 else z + 1)), .ref (mm 5), .int ty, .int 0, .int at0, .int fa, .ref (mm 6), .int ts, .ref (mm 7), .ref (mm 8), .ref (mm 9), .int fr])), ((mm 2), .inl (cI, 80, .inl (upd (xv_rw 8 6 (fm_pa (fm_fg p2 (nI (nl_n p2))) (nI (nl_n p2)) (fm_mag p2) p1.toNatClampNeg (fun j => v (8 + j)) i) v) (8 + (p1.toNatClampNeg - i)) 11))), ((mm 4), .inl (cI, 480, .inl (mp_sv pv z v)))] := hD
                      refine lv_iload hx hb dX5_number_146 (lv_at hl 8 rfl) ?_
                      refine lv_bipush (v := 10) hx hb dX5_number_148 (by decide) ?_
                      refine lv_idiv hx hb dX5_number_150 (by decide) ?_
                      refine lv_istore (lv' := [(5, .int ((ld p2 i) / 10)), (9, .int ((ld p2 i) - (ld p2 i) / 10 * 10)), (8, .int 0), (7, .int (nI i)), (0, .ref (mm 0)), (1, .int p0), (2, .int p1), (3, .int p2), (4, .int (nI (nl_0 p2 + sz_h p2))), (6, .int x6)]) hx hb dX5_number_151 hl (by decide) rfl (fun lz hl => ?_)
                      refine lv_iinc (v := (x6 + (-1))) (lv' := [(6, .int (x6 + (-1))), (5, .int ((ld p2 i) / 10)), (9, .int ((ld p2 i) - (ld p2 i) / 10 * 10)), (8, .int 0), (7, .int (nI i)), (0, .ref (mm 0)), (1, .int p0), (2, .int p1), (3, .int p2), (4, .int (nI (nl_0 p2 + sz_h p2)))]) hx hb dX5_number_153 hl (k := 9) rfl rfl (by decide) rfl (fun lz hl => ?_)
                      refine lv_goto (tgt := 62) hx hb dX5_number_156 (by decide) ?_
                      exact ih62 (i + 1) hx6.1 (by omega) ((ld p2 i) / 10) (x6 + (-1)) (upd (xv_rw 8 6 (fm_pa (fm_fg p2 (nI (nl_n p2))) (nI (nl_n p2)) (fm_mag p2) p1.toNatClampNeg (fun j => v (8 + j)) i) v) (8 + (p1.toNatClampNeg - i)) 11) rfl (by rw [e_x6, hx6.2, show p1.toNatClampNeg + 1 - (i + 1) = p1.toNatClampNeg - i by omega]; exact (Int32.sub_eq_add_neg _ _).symm) (by rw [xv_rw_u (by omega)]; show xv_rw 8 6 (upd _ _ _) v = xv_rw 8 6 (upd _ _ _) v; congr 2; exact nv_11 (L := nl_n p2) rfl hL7 hL1 (by rw [hLs]; have h := (not_congr (nI_ltI (a := i) (b := (nl_0 p2 + sz_h p2)) (by omega) (by omega))).mp q114; omega) (by omega))  H locs hP hD hS lz (lv_sub hl [5, 6, 7, 8, 9, 1, 0] rfl)
                  · refine lv_iconst (v := 1) hx hb dX5_number_87 (by decide) ?_
                    refine lv_goto (tgt := 92) hx hb dX5_number_88 (by decide) ?_
                    refine lv_istore (lv' := [(8, .int 1), (7, .int (nI i)), (0, .ref (mm 0)), (1, .int p0), (2, .int p1), (3, .int p2), (4, .int (nI (nl_0 p2 + sz_h p2))), (5, .int (ld p2 i)), (6, .int x6)]) hx hb dX5_number_92 hl (by decide) rfl (fun lz hl => ?_)
                    refine lv_iload hx hb dX5_number_94 (lv_at hl 7 rfl) ?_
                    refine lv_bipush (v := 10) hx hb dX5_number_96 (by decide) ?_
                    refine lv_irem hx hb dX5_number_98 (by decide) ?_
                    refine lv_istore (lv' := [(9, .int ((ld p2 i) - (ld p2 i) / 10 * 10)), (8, .int 1), (7, .int (nI i)), (0, .ref (mm 0)), (1, .int p0), (2, .int p1), (3, .int p2), (4, .int (nI (nl_0 p2 + sz_h p2))), (5, .int (ld p2 i)), (6, .int x6)]) hx hb dX5_number_99 hl (by decide) rfl (fun lz hl => ?_)
                    refine lv_aload_n hx hb dX5_number_101 rfl (lv_at hl 3 rfl) ?_
                    refine va_get (D := (dC, dI)) (ci := 5) (v := .ref (mm 2)) (C := RX5) (T := TX5) (N := 16) hx hb hts hin5 hown hK hP 0 rfl rfl 1 (by decide) (hts (.fieldLink RX5 13 "TurnDigitsModel" "now" "[I") (by decide +kernel)) (fun _ h9 => h9) rfl dX5_number_102 ?_
                    refine lv_bipush (v := 8) hx hb dX5_number_105 (by decide) ?_
                    refine lv_iload hx hb dX5_number_107 (lv_at hl 9 rfl) ?_
                    refine lv_iadd hx hb dX5_number_109 ?_
                    refine lv_iload hx hb dX5_number_110 (lv_at hl 2 rfl) ?_
                    refine lv_iload hx hb dX5_number_112 (lv_at hl 7 rfl) ?_
                    refine lv_icmp_lt (tgt := 122) hx hb dX5_number_114 (by decide) (fun q114 => ?_) (fun q114 => ?_)
                    · refine lv_iload hx hb dX5_number_122 (lv_at hl 1 rfl) ?_
                      refine lv_if_eq (tgt := 132) hx hb dX5_number_124 (by decide) (fun q9 => absurd q9 (by decide)) (fun q9 => ?_)
                      refine lv_bipush (v := 10) hx hb dX5_number_127 (by decide) ?_
                      refine lv_goto (tgt := 145) hx hb dX5_number_129 (by decide) ?_
                      refine xm_iast (D := (dC, dI)) hx hb hK hP hD hS 1 0 (8 + (p1.toNatClampNeg - i)) rfl rfl (by decide) (show (8 : Int32) + x6 = nI (8 + (p1.toNatClampNeg - i)) by rw [e_x6, hx6.2]; exact nI_add 8 _) (by omega) dX5_number_145 (fun H locs hP hD hS => ?_)
                      have hP : va_P (dC, dI) vwCl [((mm 0), .inr (5, [.ref (mm 1), .ref (mm 2), .ref (mm 3), .ref (mm 4), .int (nI (if z = 6 then 6 else z + 1)), .ref (mm 5), .int ty, .int 0, .int at0, .int fa, .ref (mm 6), .int ts, .ref (mm 7), .ref (mm 8), .ref (mm 9), .int fr])), ((mm 2), .inl (cI, 80, .inl (upd (xv_rw 8 6 (fm_pa (fm_fg p2 (nI (nl_n p2))) (nI (nl_n p2)) (fm_mag p2) p1.toNatClampNeg (fun j => v (8 + j)) i) v) (8 + (p1.toNatClampNeg - i)) 10))), ((mm 4), .inl (cI, 480, .inl (mp_sv pv z v)))] H := hP
                      have hD : va_D A [((mm 0), .inr (5, [.ref (mm 1), .ref (mm 2), .ref (mm 3), .ref (mm 4), .int (nI (if z = 6 then 6 else z + 1)), .ref (mm 5), .int ty, .int 0, .int at0, .int fa, .ref (mm 6), .int ts, .ref (mm 7), .ref (mm 8), .ref (mm 9), .int fr])), ((mm 2), .inl (cI, 80, .inl (upd (xv_rw 8 6 (fm_pa (fm_fg p2 (nI (nl_n p2))) (nI (nl_n p2)) (fm_mag p2) p1.toNatClampNeg (fun j => v (8 + j)) i) v) (8 + (p1.toNatClampNeg - i)) 10))), ((mm 4), .inl (cI, 480, .inl (mp_sv pv z v)))] := hD
                      refine lv_iload hx hb dX5_number_146 (lv_at hl 8 rfl) ?_
                      refine lv_bipush (v := 10) hx hb dX5_number_148 (by decide) ?_
                      refine lv_idiv hx hb dX5_number_150 (by decide) ?_
                      refine lv_istore (lv' := [(5, .int ((ld p2 i) / 10)), (9, .int ((ld p2 i) - (ld p2 i) / 10 * 10)), (8, .int 1), (7, .int (nI i)), (0, .ref (mm 0)), (1, .int p0), (2, .int p1), (3, .int p2), (4, .int (nI (nl_0 p2 + sz_h p2))), (6, .int x6)]) hx hb dX5_number_151 hl (by decide) rfl (fun lz hl => ?_)
                      refine lv_iinc (v := (x6 + (-1))) (lv' := [(6, .int (x6 + (-1))), (5, .int ((ld p2 i) / 10)), (9, .int ((ld p2 i) - (ld p2 i) / 10 * 10)), (8, .int 1), (7, .int (nI i)), (0, .ref (mm 0)), (1, .int p0), (2, .int p1), (3, .int p2), (4, .int (nI (nl_0 p2 + sz_h p2)))]) hx hb dX5_number_153 hl (k := 9) rfl rfl (by decide) rfl (fun lz hl => ?_)
                      refine lv_goto (tgt := 62) hx hb dX5_number_156 (by decide) ?_
                      exact ih62 (i + 1) hx6.1 (by omega) ((ld p2 i) / 10) (x6 + (-1)) (upd (xv_rw 8 6 (fm_pa (fm_fg p2 (nI (nl_n p2))) (nI (nl_n p2)) (fm_mag p2) p1.toNatClampNeg (fun j => v (8 + j)) i) v) (8 + (p1.toNatClampNeg - i)) 10) rfl (by rw [e_x6, hx6.2, show p1.toNatClampNeg + 1 - (i + 1) = p1.toNatClampNeg - i by omega]; exact (Int32.sub_eq_add_neg _ _).symm) (by rw [xv_rw_u (by omega)]; show xv_rw 8 6 (upd _ _ _) v = xv_rw 8 6 (upd _ _ _) v; congr 2; exact nv_10 (L := nl_n p2) rfl hL7 (by rw [hLs]; exact (nI_ltI (a := i) (b := (nl_0 p2 + sz_h p2)) (by omega) (by omega)).mp q114) q75 (by rw [hLs]; exact (nI_eq (a := i) (b := (nl_0 p2 + sz_h p2) - 1) (by omega) (by omega)).mp q84))  H locs hP hD hS lz (lv_sub hl [5, 6, 7, 8, 9, 1, 0] rfl)
                    · refine lv_bipush (v := 11) hx hb dX5_number_117 (by decide) ?_
                      refine lv_goto (tgt := 145) hx hb dX5_number_119 (by decide) ?_
                      refine xm_iast (D := (dC, dI)) hx hb hK hP hD hS 1 0 (8 + (p1.toNatClampNeg - i)) rfl rfl (by decide) (show (8 : Int32) + x6 = nI (8 + (p1.toNatClampNeg - i)) by rw [e_x6, hx6.2]; exact nI_add 8 _) (by omega) dX5_number_145 (fun H locs hP hD hS => ?_)
                      have hP : va_P (dC, dI) vwCl [((mm 0), .inr (5, [.ref (mm 1), .ref (mm 2), .ref (mm 3), .ref (mm 4), .int (nI (if z = 6 then 6 else z + 1)), .ref (mm 5), .int ty, .int 0, .int at0, .int fa, .ref (mm 6), .int ts, .ref (mm 7), .ref (mm 8), .ref (mm 9), .int fr])), ((mm 2), .inl (cI, 80, .inl (upd (xv_rw 8 6 (fm_pa (fm_fg p2 (nI (nl_n p2))) (nI (nl_n p2)) (fm_mag p2) p1.toNatClampNeg (fun j => v (8 + j)) i) v) (8 + (p1.toNatClampNeg - i)) 11))), ((mm 4), .inl (cI, 480, .inl (mp_sv pv z v)))] H := hP
                      have hD : va_D A [((mm 0), .inr (5, [.ref (mm 1), .ref (mm 2), .ref (mm 3), .ref (mm 4), .int (nI (if z = 6 then 6 else z + 1)), .ref (mm 5), .int ty, .int 0, .int at0, .int fa, .ref (mm 6), .int ts, .ref (mm 7), .ref (mm 8), .ref (mm 9), .int fr])), ((mm 2), .inl (cI, 80, .inl (upd (xv_rw 8 6 (fm_pa (fm_fg p2 (nI (nl_n p2))) (nI (nl_n p2)) (fm_mag p2) p1.toNatClampNeg (fun j => v (8 + j)) i) v) (8 + (p1.toNatClampNeg - i)) 11))), ((mm 4), .inl (cI, 480, .inl (mp_sv pv z v)))] := hD
                      refine lv_iload hx hb dX5_number_146 (lv_at hl 8 rfl) ?_
                      refine lv_bipush (v := 10) hx hb dX5_number_148 (by decide) ?_
                      refine lv_idiv hx hb dX5_number_150 (by decide) ?_
                      refine lv_istore (lv' := [(5, .int ((ld p2 i) / 10)), (9, .int ((ld p2 i) - (ld p2 i) / 10 * 10)), (8, .int 1), (7, .int (nI i)), (0, .ref (mm 0)), (1, .int p0), (2, .int p1), (3, .int p2), (4, .int (nI (nl_0 p2 + sz_h p2))), (6, .int x6)]) hx hb dX5_number_151 hl (by decide) rfl (fun lz hl => ?_)
                      refine lv_iinc (v := (x6 + (-1))) (lv' := [(6, .int (x6 + (-1))), (5, .int ((ld p2 i) / 10)), (9, .int ((ld p2 i) - (ld p2 i) / 10 * 10)), (8, .int 1), (7, .int (nI i)), (0, .ref (mm 0)), (1, .int p0), (2, .int p1), (3, .int p2), (4, .int (nI (nl_0 p2 + sz_h p2)))]) hx hb dX5_number_153 hl (k := 9) rfl rfl (by decide) rfl (fun lz hl => ?_)
                      refine lv_goto (tgt := 62) hx hb dX5_number_156 (by decide) ?_
                      exact ih62 (i + 1) hx6.1 (by omega) ((ld p2 i) / 10) (x6 + (-1)) (upd (xv_rw 8 6 (fm_pa (fm_fg p2 (nI (nl_n p2))) (nI (nl_n p2)) (fm_mag p2) p1.toNatClampNeg (fun j => v (8 + j)) i) v) (8 + (p1.toNatClampNeg - i)) 11) rfl (by rw [e_x6, hx6.2, show p1.toNatClampNeg + 1 - (i + 1) = p1.toNatClampNeg - i by omega]; exact (Int32.sub_eq_add_neg _ _).symm) (by rw [xv_rw_u (by omega)]; show xv_rw 8 6 (upd _ _ _) v = xv_rw 8 6 (upd _ _ _) v; congr 2; exact nv_11 (L := nl_n p2) rfl hL7 hL1 (by rw [hLs]; have h := (not_congr (nI_ltI (a := i) (b := (nl_0 p2 + sz_h p2)) (by omega) (by omega))).mp q114; omega) (by omega))  H locs hP hD hS lz (lv_sub hl [5, 6, 7, 8, 9, 1, 0] rfl)
          exact L62 ((p1.toNatClampNeg + 1 - p0.toNatClampNeg) + 1) 0 (by omega) (by omega) p2 (nI p1.toNatClampNeg) v rfl (nI_pred p1.toNatClampNeg).symm (xv_rw_id v)  H locs hP hD hS lz (lv_sub hl [3, 4, 5, 6, 2, 1, 0] rfl)
        · have hnu : ¬ xt_rg (nI (nl_n p2)) 1 (p1 - p0 + 1) = 0 := fun h => by rw [hk.1, hs.1] at h; exact q43 (by rw [hk.1, hs.1]; exact ((nu_ok (x := p2) (a := p0.toNatClampNeg) (b := p1.toNatClampNeg) (xt_dg_ok (n := 6) (by decide) q9b).2 (xt_dg_ok (n := 6) (by decide) q16b).2).mp h).2)
          refine lv_aload_n hx hb dX5_number_46 rfl (lv_at hl 1 rfl) ?_
          refine lv_iconst (v := 2) hx hb dX5_number_47 (by decide) ?_
          have hPc := hP.sub (ws' := [((mm 0), .inr (5, [.ref (mm 1), .ref (mm 2), .ref (mm 3), .ref (mm 4), .int (nI z), .ref (mm 5), .int ty, .int 0, .int at0, .int fa, .ref (mm 6), .int ts, .ref (mm 7), .ref (mm 8), .ref (mm 9), .int fr]))]) [0] rfl
          have hDc := hD.sub (ws' := [((mm 0), .inr (5, [.ref (mm 1), .ref (mm 2), .ref (mm 3), .ref (mm 4), .int (nI z), .ref (mm 5), .int ty, .int 0, .int at0, .int fa, .ref (mm 6), .int ts, .ref (mm 7), .ref (mm 8), .ref (mm 9), .int fr]))]) [0] (by decide) rfl
          have hFc := va_free (wc := [((mm 0), .inr (5, [.ref (mm 1), .ref (mm 2), .ref (mm 3), .ref (mm 4), .int (nI z), .ref (mm 5), .int ty, .int 0, .int at0, .int fa, .ref (mm 6), .int ts, .ref (mm 7), .ref (mm 8), .ref (mm 9), .int fr]))]) hD hS hA [0] rfl
          refine va_calli (va_runV (As := [.int 2]) (rest := []) ⟨hx, hb, hml, hown, hts⟩ (c_X5_fails l dC dI cI cS cJ tt H.size mm (nI z) ty 0 at0 fa ts fr 2) (cwV 1 hts gX5_number_X5_fails rfl rfl rfl (by decide +kernel) ⟨Nat.le_of_ble_eq_true rfl, Nat.le_of_ble_eq_true rfl⟩) ⟨xm_Mblind, va_recv hK hPc (ci := 5) (q0 := 0) rfl rfl, fun U hU hW => ⟨rfl, by rw [hU], by rw [hU]; exact hPc, hE.go hS hFc hU hW, hDc.weaken (fun _ _ _ _ => trivial), trivial⟩⟩ rfl rfl hl.1 rfl (lv_room (Nat.le_of_ble_eq_true rfl)) dX5_number_48 ⟨Nat.zero_le _, Nat.zero_le _⟩) hS (fun q _ h => hFc q h) hFc (fun r u t H1 locs ht hvm hw hB hz1 hk1 hS => ?_)
          obtain ⟨u_11, rfl⟩ : ∃ z, z = u := ⟨_, rfl⟩
          obtain ⟨hP1, hD1⟩ := hB
          rw [ht] at hP1
          obtain ⟨hw_12, hw_13⟩ := hw
          have hw_12 : r = 0 := hw_12
          subst hw_12
          have hw_13 : u_11 = 2 := hw_13
          subst hw_13
          obtain ⟨hP, hD⟩ := va_join (wr := [((mm 2), .inl (cI, 80, .inl v)), ((mm 4), .inl (cI, 480, .inl pv))]) (w1 := [((mm 0), .inr (5, [.ref (mm 1), .ref (mm 2), .ref (mm 3), .ref (mm 4), .int (nI z), .ref (mm 5), .int ty, .int 2, .int at0, .int fa, .ref (mm 6), .int ts, .ref (mm 7), .ref (mm 8), .ref (mm 9), .int fr]))]) hP hD [0] [1, 2] rfl rfl (by decide) (by decide) hk1 hFc hP1 hD1
          generalize H1 = H at hP hS ⊢
          have hP : va_P (dC, dI) vwCl [((mm 2), .inl (cI, 80, .inl v)), ((mm 4), .inl (cI, 480, .inl pv)), ((mm 0), .inr (5, [.ref (mm 1), .ref (mm 2), .ref (mm 3), .ref (mm 4), .int (nI z), .ref (mm 5), .int ty, .int 2, .int at0, .int fa, .ref (mm 6), .int ts, .ref (mm 7), .ref (mm 8), .ref (mm 9), .int fr]))] H := hP
          have hD : va_D A [((mm 2), .inl (cI, 80, .inl v)), ((mm 4), .inl (cI, 480, .inl pv)), ((mm 0), .inr (5, [.ref (mm 1), .ref (mm 2), .ref (mm 3), .ref (mm 4), .int (nI z), .ref (mm 5), .int ty, .int 2, .int at0, .int fa, .ref (mm 6), .int ts, .ref (mm 7), .ref (mm 8), .ref (mm 9), .int fr]))] := hD
          have hc9 : xc_nu p0 p1 p2 = 2 := by simp only [xc_nu, if_pos q9b, if_pos q16b, if_neg hnu]
          have hn9 : ¬ xc_nu p0 p1 p2 = 0 := by rw [hc9]; decide
          have hP9 := hP.sub (ws' := [((mm 0), .inr (5, [.ref (mm 1), .ref (mm 2), .ref (mm 3), .ref (mm 4), .int (nI z), .ref (mm 5), .int ty, .int 2, .int at0, .int fa, .ref (mm 6), .int ts, .ref (mm 7), .ref (mm 8), .ref (mm 9), .int fr])), ((mm 2), .inl (cI, 80, .inl v)), ((mm 4), .inl (cI, 480, .inl pv))]) [2, 0, 1] rfl
          have hD9 := hD.sub (ws' := [((mm 0), .inr (5, [.ref (mm 1), .ref (mm 2), .ref (mm 3), .ref (mm 4), .int (nI z), .ref (mm 5), .int ty, .int 2, .int at0, .int fa, .ref (mm 6), .int ts, .ref (mm 7), .ref (mm 8), .ref (mm 9), .int fr])), ((mm 2), .inl (cI, 80, .inl v)), ((mm 4), .inl (cI, 480, .inl pv))]) [2, 0, 1] (by decide) rfl
          exact W.iret (v := 0) hx hb hr (fun t ht hW => ⟨⟨0, (2, (nI z), v, pv), rfl, ⟨(if_neg hn9).symm, (hc9.symm), (if_neg hn9).symm, (if_neg hn9).symm, (if_neg hn9).symm⟩, by rw [ht]; exact hP9, hD9⟩, hS.F ht⟩) hS.2.2 dX5_number_51
    · have q16b : ¬ xt_dg 6 p1 = 0 := xm_bF q16
      refine lv_aload_n hx hb dX5_number_19 rfl (lv_at hl 0 rfl) ?_
      refine lv_iconst (v := 1) hx hb dX5_number_20 (by decide) ?_
      have hPc := hP.sub (ws' := [((mm 0), .inr (5, [.ref (mm 1), .ref (mm 2), .ref (mm 3), .ref (mm 4), .int (nI z), .ref (mm 5), .int ty, .int 0, .int at0, .int fa, .ref (mm 6), .int ts, .ref (mm 7), .ref (mm 8), .ref (mm 9), .int fr]))]) [0] rfl
      have hDc := hD.sub (ws' := [((mm 0), .inr (5, [.ref (mm 1), .ref (mm 2), .ref (mm 3), .ref (mm 4), .int (nI z), .ref (mm 5), .int ty, .int 0, .int at0, .int fa, .ref (mm 6), .int ts, .ref (mm 7), .ref (mm 8), .ref (mm 9), .int fr]))]) [0] (by decide) rfl
      have hFc := va_free (wc := [((mm 0), .inr (5, [.ref (mm 1), .ref (mm 2), .ref (mm 3), .ref (mm 4), .int (nI z), .ref (mm 5), .int ty, .int 0, .int at0, .int fa, .ref (mm 6), .int ts, .ref (mm 7), .ref (mm 8), .ref (mm 9), .int fr]))]) hD hS hA [0] rfl
      refine va_calli (va_runV (As := [.int 1]) (rest := []) ⟨hx, hb, hml, hown, hts⟩ (c_X5_fails l dC dI cI cS cJ tt H.size mm (nI z) ty 0 at0 fa ts fr 1) (cwV 1 hts gX5_number_X5_fails rfl rfl rfl (by decide +kernel) ⟨Nat.le_of_ble_eq_true rfl, Nat.le_of_ble_eq_true rfl⟩) ⟨xm_Mblind, va_recv hK hPc (ci := 5) (q0 := 0) rfl rfl, fun U hU hW => ⟨rfl, by rw [hU], by rw [hU]; exact hPc, hE.go hS hFc hU hW, hDc.weaken (fun _ _ _ _ => trivial), trivial⟩⟩ rfl rfl hl.1 rfl (lv_room (Nat.le_of_ble_eq_true rfl)) dX5_number_21 ⟨Nat.zero_le _, Nat.zero_le _⟩) hS (fun q _ h => hFc q h) hFc (fun r u t H1 locs ht hvm hw hB hz1 hk1 hS => ?_)
      obtain ⟨u_14, rfl⟩ : ∃ z, z = u := ⟨_, rfl⟩
      obtain ⟨hP1, hD1⟩ := hB
      rw [ht] at hP1
      obtain ⟨hw_15, hw_16⟩ := hw
      have hw_15 : r = 0 := hw_15
      subst hw_15
      have hw_16 : u_14 = 1 := hw_16
      subst hw_16
      obtain ⟨hP, hD⟩ := va_join (wr := [((mm 2), .inl (cI, 80, .inl v)), ((mm 4), .inl (cI, 480, .inl pv))]) (w1 := [((mm 0), .inr (5, [.ref (mm 1), .ref (mm 2), .ref (mm 3), .ref (mm 4), .int (nI z), .ref (mm 5), .int ty, .int 1, .int at0, .int fa, .ref (mm 6), .int ts, .ref (mm 7), .ref (mm 8), .ref (mm 9), .int fr]))]) hP hD [0] [1, 2] rfl rfl (by decide) (by decide) hk1 hFc hP1 hD1
      generalize H1 = H at hP hS ⊢
      have hP : va_P (dC, dI) vwCl [((mm 2), .inl (cI, 80, .inl v)), ((mm 4), .inl (cI, 480, .inl pv)), ((mm 0), .inr (5, [.ref (mm 1), .ref (mm 2), .ref (mm 3), .ref (mm 4), .int (nI z), .ref (mm 5), .int ty, .int 1, .int at0, .int fa, .ref (mm 6), .int ts, .ref (mm 7), .ref (mm 8), .ref (mm 9), .int fr]))] H := hP
      have hD : va_D A [((mm 2), .inl (cI, 80, .inl v)), ((mm 4), .inl (cI, 480, .inl pv)), ((mm 0), .inr (5, [.ref (mm 1), .ref (mm 2), .ref (mm 3), .ref (mm 4), .int (nI z), .ref (mm 5), .int ty, .int 1, .int at0, .int fa, .ref (mm 6), .int ts, .ref (mm 7), .ref (mm 8), .ref (mm 9), .int fr]))] := hD
      have hc9 : xc_nu p0 p1 p2 = 1 := by simp only [xc_nu, if_pos q9b, if_neg q16b]
      have hn9 : ¬ xc_nu p0 p1 p2 = 0 := by rw [hc9]; decide
      have hP9 := hP.sub (ws' := [((mm 0), .inr (5, [.ref (mm 1), .ref (mm 2), .ref (mm 3), .ref (mm 4), .int (nI z), .ref (mm 5), .int ty, .int 1, .int at0, .int fa, .ref (mm 6), .int ts, .ref (mm 7), .ref (mm 8), .ref (mm 9), .int fr])), ((mm 2), .inl (cI, 80, .inl v)), ((mm 4), .inl (cI, 480, .inl pv))]) [2, 0, 1] rfl
      have hD9 := hD.sub (ws' := [((mm 0), .inr (5, [.ref (mm 1), .ref (mm 2), .ref (mm 3), .ref (mm 4), .int (nI z), .ref (mm 5), .int ty, .int 1, .int at0, .int fa, .ref (mm 6), .int ts, .ref (mm 7), .ref (mm 8), .ref (mm 9), .int fr])), ((mm 2), .inl (cI, 80, .inl v)), ((mm 4), .inl (cI, 480, .inl pv))]) [2, 0, 1] (by decide) rfl
      exact W.iret (v := 0) hx hb hr (fun t ht hW => ⟨⟨0, (1, (nI z), v, pv), rfl, ⟨(if_neg hn9).symm, (hc9.symm), (if_neg hn9).symm, (if_neg hn9).symm, (if_neg hn9).symm⟩, by rw [ht]; exact hP9, hD9⟩, hS.F ht⟩) hS.2.2 dX5_number_24

set_option maxHeartbeats 4000000 in
set_option maxRecDepth 100000 in
theorem c_X5_goes (l : Launch) (dC : Nat → ClassId) (dI : Nat → Nat → Nat) (cI cS cJ : ClassId) (tt : Nat → Nat) (sz : Nat) (mm : Nat → Nat) (kp : Int32) (ty : Int32) (th : Int32) (at0 : Int32) (fa : Int32) (ts : Int32) (fr : Int32) (v : Nat → Int32) : Met l yX5_goes wsX5_goes ({ frames := 2, cells := 0, slots := 0, locals := 46 } : Room) (va_Pc [.ref (mm 0)] (xm_M (dC, dI) cI cS cJ tt [((mm 0), .inr (5, [.ref (mm 1), .ref (mm 2), .ref (mm 3), .ref (mm 4), .int kp, .ref (mm 5), .int ty, .int th, .int at0, .int fa, .ref (mm 6), .int ts, .ref (mm 7), .ref (mm 8), .ref (mm 9), .int fr])), ((mm 1), .inl (cI, 12, .inl xm_mk)), ((mm 2), .inl (cI, 80, .inl v))] sz (vo_s v ∧ vo_l v ∧ vo_t v))) (va_Qi (fun (r : Int32) (u : (Nat → Int32)) => r = xv_sn v ∧ u = xv_slot v) (xm_B (dC, dI) (fun (u : (Nat → Int32)) => [((mm 0), .inr (5, [.ref (mm 1), .ref (mm 2), .ref (mm 3), .ref (mm 4), .int kp, .ref (mm 5), .int ty, .int th, .int at0, .int fa, .ref (mm 6), .int ts, .ref (mm 7), .ref (mm 8), .ref (mm 9), .int fr])), ((mm 1), .inl (cI, 12, .inl xm_mk)), ((mm 2), .inl (cI, 80, .inl u))]) (va_A [((mm 0), .inr (5, [.ref (mm 1), .ref (mm 2), .ref (mm 3), .ref (mm 4), .int kp, .ref (mm 5), .int ty, .int th, .int at0, .int fa, .ref (mm 6), .int ts, .ref (mm 7), .ref (mm 8), .ref (mm 9), .int fr])), ((mm 1), .inl (cI, 12, .inl xm_mk)), ((mm 2), .inl (cI, 80, .inl v))] sz)) (va_A [((mm 0), .inr (5, [.ref (mm 1), .ref (mm 2), .ref (mm 3), .ref (mm 4), .int kp, .ref (mm 5), .int ty, .int th, .int at0, .int fa, .ref (mm 6), .int ts, .ref (mm 7), .ref (mm 8), .ref (mm 9), .int fr])), ((mm 1), .inl (cI, 12, .inl xm_mk)), ((mm 2), .inl (cI, 80, .inl v))] sz)) 0 0 (va_A [((mm 0), .inr (5, [.ref (mm 1), .ref (mm 2), .ref (mm 3), .ref (mm 4), .int kp, .ref (mm 5), .int ty, .int th, .int at0, .int fa, .ref (mm 6), .int ts, .ref (mm 7), .ref (mm 8), .ref (mm 9), .int fr])), ((mm 1), .inl (cI, 12, .inl xm_mk)), ((mm 2), .inl (cI, 80, .inl v))] sz) := by
  refine Met.ofW (cc := cX5_goes) (maxL := 7) (ret := (some .int)) (by decide) rfl ?_
  intro p e s m args below meth c s₁ B hml hv
  obtain ⟨rfl, hsz, hP, hE, hD0, hpre⟩ := hv
  have hx := B.exec
  have hb := B.bytes
  have hr := B.returns
  have hts := atoms_spec (ws := wsX5_goes) B.pre
  have hown : s.vm.findClass RX5 = some m.cls := findClass_of_methodNamed B.named
  have hlocks := B.notSynchronized
  have hK := hE.1
  subst hsz
  have hD := hD0.self (sz := s.heap.size)
  generalize hAe : va_A [((mm 0), .inr (5, [.ref (mm 1), .ref (mm 2), .ref (mm 3), .ref (mm 4), .int kp, .ref (mm 5), .int ty, .int th, .int at0, .int fa, .ref (mm 6), .int ts, .ref (mm 7), .ref (mm 8), .ref (mm 9), .int fr])), ((mm 1), .inl (cI, 12, .inl xm_mk)), ((mm 2), .inl (cI, 80, .inl v))] s.heap.size = A at hD hE ⊢
  have hA : ∀ q : Nat, s.heap.size ≤ q → A q := fun q h => by rw [← hAe]; exact Or.inr h
  have hS : va_S A s.heap s.heap [] := va_S.rf
  have hP : va_P (dC, dI) vwCl [((mm 0), .inr (5, [.ref (mm 1), .ref (mm 2), .ref (mm 3), .ref (mm 4), .int kp, .ref (mm 5), .int ty, .int th, .int at0, .int fa, .ref (mm 6), .int ts, .ref (mm 7), .ref (mm 8), .ref (mm 9), .int fr])), ((mm 1), .inl (cI, 12, .inl xm_mk)), ((mm 2), .inl (cI, 80, .inl v))] s.heap := hP
  have hin5 : ∀ w ∈ u_ws RX5 TX5 16, w ∈ wsX5_goes := by decide +kernel
  have hl := lv_entry [.ref (mm 0)] (n := 7) (Nat.le_of_ble_eq_true rfl)
  rw [lg_entry_eq]
  generalize (lg_sl [.ref (mm 0)] ++ List.replicate (7 - (lg_sl [.ref (mm 0)]).length) Slot.unset).toArray = lz at hl ⊢
  have hl : lv_has lz 7 [(0, .ref (mm 0))] := hl
  obtain ⟨hsg, hlf, hvt⟩ := hpre
  refine lv_aload_n hx hb dX5_goes_0 rfl (lv_at hl 0 rfl) ?_
  refine va_get (D := (dC, dI)) (ci := 5) (v := .ref (mm 2)) (C := RX5) (T := TX5) (N := 16) hx hb hts hin5 hown hK hP 0 rfl rfl 1 (by decide) (hts (.fieldLink RX5 13 "TurnDigitsModel" "now" "[I") (by decide +kernel)) (fun _ h9 => h9) rfl dX5_goes_1 ?_
  refine lv_aload_n hx hb dX5_goes_4 rfl (lv_at hl 0 rfl) ?_
  refine va_get (D := (dC, dI)) (ci := 5) (v := .ref (mm 2)) (C := RX5) (T := TX5) (N := 16) hx hb hts hin5 hown hK hP 0 rfl rfl 1 (by decide) (hts (.fieldLink RX5 13 "TurnDigitsModel" "now" "[I") (by decide +kernel)) (fun _ h9 => h9) rfl dX5_goes_5 ?_
  refine lv_bipush (v := 26) hx hb dX5_goes_8 (by decide) ?_
  have hPc := hP.sub (ws' := [((mm 2), .inl (cI, 80, .inl v))]) [2] rfl
  have hDc := hD.sub (ws' := [((mm 2), .inl (cI, 80, .inl v))]) [2] (by decide) rfl
  have hFc := va_free (wc := [((mm 2), .inl (cI, 80, .inl v))]) hD hS hA [2] rfl
  refine va_calli (va_runS (As := [.ref (mm 2), .ref (mm 2), .int 26]) (rest := []) ⟨hx, hb, hml, hown, hts⟩ (c_X5_turns_a l dC dI cI cS cJ tt s.heap.size (mm 2) v) (va_cwS 3 hts gX5_goes_X5_turns rfl rfl rfl (by decide +kernel) ⟨Nat.le_of_ble_eq_true rfl, Nat.le_of_ble_eq_true rfl⟩) ⟨xm_Mblind, fun U hU hW => ⟨rfl, by rw [hU], by rw [hU]; exact hPc, hE.go hS hFc hU hW, hDc.weaken (fun _ _ _ _ => trivial), trivial⟩⟩ rfl rfl hl.1 rfl (lv_room (Nat.le_of_ble_eq_true rfl)) dX5_goes_10 ⟨Nat.zero_le _, Nat.zero_le _⟩) hS (fun q _ h => hFc q h) hFc (fun r u t H1 locs ht hvm hw hB hz1 hk1 hS => ?_)
  obtain ⟨u_1, rfl⟩ : ∃ z, z = u := ⟨_, rfl⟩
  obtain ⟨hP1, hD1⟩ := hB
  rw [ht] at hP1
  obtain ⟨hw_2, hw_3⟩ := hw
  have hw_2 : r = fm_own (fun j => v (14 + j)) (fun j => v (26 + j)) 6 := hw_2
  subst hw_2
  have hw_3 : u_1 = xv_rw 26 6 (fm_crd (fun j => v (14 + j)) (fun j => v (26 + j))) v := hw_3
  subst hw_3
  obtain ⟨hP, hD⟩ := va_join (wr := [((mm 0), .inr (5, [.ref (mm 1), .ref (mm 2), .ref (mm 3), .ref (mm 4), .int kp, .ref (mm 5), .int ty, .int th, .int at0, .int fa, .ref (mm 6), .int ts, .ref (mm 7), .ref (mm 8), .ref (mm 9), .int fr])), ((mm 1), .inl (cI, 12, .inl xm_mk))]) (w1 := [((mm 2), .inl (cI, 80, .inl (xv_rw 26 6 (fm_crd (fun j => v (14 + j)) (fun j => v (26 + j))) v)))]) hP hD [2] [0, 1] rfl rfl (by decide) (by decide) hk1 hFc hP1 hD1
  generalize H1 = H at hP hS ⊢
  have hP : va_P (dC, dI) vwCl [((mm 0), .inr (5, [.ref (mm 1), .ref (mm 2), .ref (mm 3), .ref (mm 4), .int kp, .ref (mm 5), .int ty, .int th, .int at0, .int fa, .ref (mm 6), .int ts, .ref (mm 7), .ref (mm 8), .ref (mm 9), .int fr])), ((mm 1), .inl (cI, 12, .inl xm_mk)), ((mm 2), .inl (cI, 80, .inl (xv_rw 26 6 (fm_crd (fun j => v (14 + j)) (fun j => v (26 + j))) v)))] H := hP
  have hD : va_D A [((mm 0), .inr (5, [.ref (mm 1), .ref (mm 2), .ref (mm 3), .ref (mm 4), .int kp, .ref (mm 5), .int ty, .int th, .int at0, .int fa, .ref (mm 6), .int ts, .ref (mm 7), .ref (mm 8), .ref (mm 9), .int fr])), ((mm 1), .inl (cI, 12, .inl xm_mk)), ((mm 2), .inl (cI, 80, .inl (xv_rw 26 6 (fm_crd (fun j => v (14 + j)) (fun j => v (26 + j))) v)))] := hD
  refine xm_topi (y := (go_O v)) rfl ?_
  refine lv_istore_n (lv' := [(1, .int (go_O v)), (0, .ref (mm 0))]) hx hb dX5_goes_13 rfl hl (by decide) rfl (fun lz hl => ?_)
  refine lv_aload_n hx hb dX5_goes_14 rfl (lv_at hl 1 rfl) ?_
  refine va_get (D := (dC, dI)) (ci := 5) (v := .ref (mm 2)) (C := RX5) (T := TX5) (N := 16) hx hb hts hin5 hown hK hP 0 rfl rfl 1 (by decide) (hts (.fieldLink RX5 13 "TurnDigitsModel" "now" "[I") (by decide +kernel)) (fun _ h9 => h9) rfl dX5_goes_15 ?_
  refine lv_iload_n hx hb dX5_goes_18 rfl (lv_at hl 0 rfl) ?_
  refine lv_aload_n hx hb dX5_goes_19 rfl (lv_at hl 1 rfl) ?_
  refine va_get (D := (dC, dI)) (ci := 5) (v := .ref (mm 2)) (C := RX5) (T := TX5) (N := 16) hx hb hts hin5 hown hK hP 0 rfl rfl 1 (by decide) (hts (.fieldLink RX5 13 "TurnDigitsModel" "now" "[I") (by decide +kernel)) (fun _ h9 => h9) rfl dX5_goes_20 ?_
  refine lv_bipush (v := 7) hx hb dX5_goes_23 (by decide) ?_
  refine xm_iald (D := (dC, dI)) hx hb hK hP 2 0 7 (v := (xv_rw 26 6 (fm_crd (fun j => v (14 + j)) (fun j => v (26 + j))) v) 7) rfl rfl (by decide) rfl (by decide) rfl dX5_goes_25 ?_
  refine xm_topi (y := (v 7)) (xv_rw_o (by decide)) ?_
  refine lv_aload_n hx hb dX5_goes_26 rfl (lv_at hl 1 rfl) ?_
  refine va_get (D := (dC, dI)) (ci := 5) (v := .ref (mm 2)) (C := RX5) (T := TX5) (N := 16) hx hb hts hin5 hown hK hP 0 rfl rfl 1 (by decide) (hts (.fieldLink RX5 13 "TurnDigitsModel" "now" "[I") (by decide +kernel)) (fun _ h9 => h9) rfl dX5_goes_27 ?_
  refine lv_iconst (v := 0) hx hb dX5_goes_30 (by decide) ?_
  refine xm_iald (D := (dC, dI)) hx hb hK hP 2 0 0 (v := (xv_rw 26 6 (fm_crd (fun j => v (14 + j)) (fun j => v (26 + j))) v) 0) rfl rfl (by decide) rfl (by decide) rfl dX5_goes_31 ?_
  refine xm_topi (y := (v 0)) (xv_rw_o (by decide)) ?_
  have hPc := hP.sub (ws' := [((mm 2), .inl (cI, 80, .inl (xv_rw 26 6 (fm_crd (fun j => v (14 + j)) (fun j => v (26 + j))) v)))]) [2] rfl
  refine W.callV ((va_runS (As := [.ref (mm 2), .int (go_O v), .int (v 7), .int (v 0)]) (rest := []) ⟨hx, hb, hml, hown, hts⟩ (c_X5_litBy l dC dI cI cS cJ tt (mm 2) (xv_rw 26 6 (fm_crd (fun j => v (14 + j)) (fun j => v (26 + j))) v) (go_O v) (v 7) (v 0)) (va_cwS 4 hts gX5_goes_X5_litBy rfl rfl rfl (by decide +kernel) ⟨Nat.le_of_ble_eq_true rfl, Nat.le_of_ble_eq_true rfl⟩) ⟨xm_Rblind, fun U hU hW => ⟨rfl, by rw [hU]; exact hPc, hE.go hS (fun _ q => q.elim) hU hW, trivial⟩⟩ rfl rfl hl.1 rfl (lv_room (Nat.le_of_ble_eq_true rfl)) dX5_goes_32 ⟨Nat.zero_le _, Nat.zero_le _⟩).run) ?_
  refine W.eq (g2 := F0 m 35 lz (.int (ml_by ((xv_rw 26 6 (fm_crd (fun j => v (14 + j)) (fun j => v (26 + j))) v) 3) (go_O v) (v 7) (v 0)) :: [])) rfl ?_
  refine xm_topi (y := (xv_X v)) (show ml_by (xv_rw 26 6 (fm_crd (fun j => v (14 + j)) (fun j => v (26 + j))) v 3) (go_O v) (v 7) (v 0) = xv_X v by rw [xv_rw_o (by decide)]; exact ml_lit hvt) ?_
  refine lv_istore_n (lv' := [(2, .int (xv_X v)), (1, .int (go_O v)), (0, .ref (mm 0))]) hx hb dX5_goes_35 rfl hl (by decide) rfl (fun lz hl => ?_)
  refine lv_aload_n hx hb dX5_goes_36 rfl (lv_at hl 2 rfl) ?_
  refine va_get (D := (dC, dI)) (ci := 5) (v := .ref (mm 2)) (C := RX5) (T := TX5) (N := 16) hx hb hts hin5 hown hK hP 0 rfl rfl 1 (by decide) (hts (.fieldLink RX5 13 "TurnDigitsModel" "now" "[I") (by decide +kernel)) (fun _ h9 => h9) rfl dX5_goes_37 ?_
  refine lv_bipush (v := 7) hx hb dX5_goes_40 (by decide) ?_
  refine lv_iload_n hx hb dX5_goes_42 rfl (lv_at hl 1 rfl) ?_
  refine xm_iast (D := (dC, dI)) hx hb hK hP hD hS 2 0 7 rfl rfl (by decide) rfl (by decide) dX5_goes_43 (fun H locs hP hD hS => ?_)
  have hP : va_P (dC, dI) vwCl [((mm 0), .inr (5, [.ref (mm 1), .ref (mm 2), .ref (mm 3), .ref (mm 4), .int kp, .ref (mm 5), .int ty, .int th, .int at0, .int fa, .ref (mm 6), .int ts, .ref (mm 7), .ref (mm 8), .ref (mm 9), .int fr])), ((mm 1), .inl (cI, 12, .inl xm_mk)), ((mm 2), .inl (cI, 80, .inl (upd (xv_rw 26 6 (fm_crd (fun j => v (14 + j)) (fun j => v (26 + j))) v) 7 (go_O v))))] H := hP
  have hD : va_D A [((mm 0), .inr (5, [.ref (mm 1), .ref (mm 2), .ref (mm 3), .ref (mm 4), .int kp, .ref (mm 5), .int ty, .int th, .int at0, .int fa, .ref (mm 6), .int ts, .ref (mm 7), .ref (mm 8), .ref (mm 9), .int fr])), ((mm 1), .inl (cI, 12, .inl xm_mk)), ((mm 2), .inl (cI, 80, .inl (upd (xv_rw 26 6 (fm_crd (fun j => v (14 + j)) (fun j => v (26 + j))) v) 7 (go_O v))))] := hD
  refine lv_aload_n hx hb dX5_goes_44 rfl (lv_at hl 2 rfl) ?_
  refine va_get (D := (dC, dI)) (ci := 5) (v := .ref (mm 2)) (C := RX5) (T := TX5) (N := 16) hx hb hts hin5 hown hK hP 0 rfl rfl 1 (by decide) (hts (.fieldLink RX5 13 "TurnDigitsModel" "now" "[I") (by decide +kernel)) (fun _ h9 => h9) rfl dX5_goes_45 ?_
  refine lv_iconst (v := 0) hx hb dX5_goes_48 (by decide) ?_
  refine lv_dup2_11 hx hb dX5_goes_49 rfl rfl ?_
  refine xm_iald (D := (dC, dI)) hx hb hK hP 2 0 0 (v := (upd (xv_rw 26 6 (fm_crd (fun j => v (14 + j)) (fun j => v (26 + j))) v) 7 (go_O v)) 0) rfl rfl (by decide) rfl (by decide) rfl dX5_goes_50 ?_
  refine xm_topi (y := (v 0)) ((pk_un (by decide)).trans (xv_rw_o (by decide))) ?_
  refine lv_iconst (v := 1) hx hb dX5_goes_51 (by decide) ?_
  refine lv_iadd hx hb dX5_goes_52 ?_
  refine xm_iast (D := (dC, dI)) hx hb hK hP hD hS 2 0 0 rfl rfl (by decide) rfl (by decide) dX5_goes_53 (fun H locs hP hD hS => ?_)
  have hP : va_P (dC, dI) vwCl [((mm 0), .inr (5, [.ref (mm 1), .ref (mm 2), .ref (mm 3), .ref (mm 4), .int kp, .ref (mm 5), .int ty, .int th, .int at0, .int fa, .ref (mm 6), .int ts, .ref (mm 7), .ref (mm 8), .ref (mm 9), .int fr])), ((mm 1), .inl (cI, 12, .inl xm_mk)), ((mm 2), .inl (cI, 80, .inl (upd (upd (xv_rw 26 6 (fm_crd (fun j => v (14 + j)) (fun j => v (26 + j))) v) 7 (go_O v)) 0 ((v 0) + 1))))] H := hP
  have hD : va_D A [((mm 0), .inr (5, [.ref (mm 1), .ref (mm 2), .ref (mm 3), .ref (mm 4), .int kp, .ref (mm 5), .int ty, .int th, .int at0, .int fa, .ref (mm 6), .int ts, .ref (mm 7), .ref (mm 8), .ref (mm 9), .int fr])), ((mm 1), .inl (cI, 12, .inl xm_mk)), ((mm 2), .inl (cI, 80, .inl (upd (upd (xv_rw 26 6 (fm_crd (fun j => v (14 + j)) (fun j => v (26 + j))) v) 7 (go_O v)) 0 ((v 0) + 1))))] := hD
  refine lv_iconst (v := 0) hx hb dX5_goes_54 (by decide) ?_
  refine lv_istore_n (lv' := [(3, .int 0), (2, .int (xv_X v)), (1, .int (go_O v)), (0, .ref (mm 0))]) hx hb dX5_goes_55 rfl hl (by decide) rfl (fun lz hl => ?_)
  refine lv_iload_n hx hb dX5_goes_56 rfl (lv_at hl 1 rfl) ?_
  refine lv_iconst (v := (-1)) hx hb dX5_goes_57 (by decide) ?_
  refine lv_icmp_eq (tgt := 219) hx hb dX5_goes_58 (by decide) (fun q58 => ?_) (fun q58 => ?_)
  · have q57 := q58
    obtain ⟨hP, hD⟩ := xm_cong hP hD 2 rfl (xv_slot v) (go_e0 q57)
    have hP : va_P (dC, dI) vwCl [((mm 0), .inr (5, [.ref (mm 1), .ref (mm 2), .ref (mm 3), .ref (mm 4), .int kp, .ref (mm 5), .int ty, .int th, .int at0, .int fa, .ref (mm 6), .int ts, .ref (mm 7), .ref (mm 8), .ref (mm 9), .int fr])), ((mm 1), .inl (cI, 12, .inl xm_mk)), ((mm 2), .inl (cI, 80, .inl (xv_slot v)))] H := hP
    have hD : va_D A [((mm 0), .inr (5, [.ref (mm 1), .ref (mm 2), .ref (mm 3), .ref (mm 4), .int kp, .ref (mm 5), .int ty, .int th, .int at0, .int fa, .ref (mm 6), .int ts, .ref (mm 7), .ref (mm 8), .ref (mm 9), .int fr])), ((mm 1), .inl (cI, 12, .inl xm_mk)), ((mm 2), .inl (cI, 80, .inl (xv_slot v)))] := hD
    refine lv_iload_n hx hb dX5_goes_219 rfl (lv_at hl 0 rfl) ?_
    have hP9 : va_P (dC, dI) vwCl [((mm 0), .inr (5, [.ref (mm 1), .ref (mm 2), .ref (mm 3), .ref (mm 4), .int kp, .ref (mm 5), .int ty, .int th, .int at0, .int fa, .ref (mm 6), .int ts, .ref (mm 7), .ref (mm 8), .ref (mm 9), .int fr])), ((mm 1), .inl (cI, 12, .inl xm_mk)), ((mm 2), .inl (cI, 80, .inl (xv_slot v)))] H := hP
    have hD9 : va_D A [((mm 0), .inr (5, [.ref (mm 1), .ref (mm 2), .ref (mm 3), .ref (mm 4), .int kp, .ref (mm 5), .int ty, .int th, .int at0, .int fa, .ref (mm 6), .int ts, .ref (mm 7), .ref (mm 8), .ref (mm 9), .int fr])), ((mm 1), .inl (cI, 12, .inl xm_mk)), ((mm 2), .inl (cI, 80, .inl (xv_slot v)))] := hD
    exact W.iret (v := 0) hx hb hr (fun t ht hW => ⟨⟨0, xv_slot v, rfl, ⟨(go_n0 q57), rfl⟩, by rw [ht]; exact hP9, hD9⟩, hS.F ht⟩) hS.2.2 dX5_goes_220
  · have q57 := q58
    have hX := (go_at q57).2
    refine lv_aload_n hx hb dX5_goes_61 rfl (lv_at hl 3 rfl) ?_
    refine lv_iload_n hx hb dX5_goes_62 rfl (lv_at hl 1 rfl) ?_
    refine xm_topi (y := (nI (go_X v))) (go_at q57).1 ?_
    refine lv_aload_n hx hb dX5_goes_63 rfl (lv_at hl 3 rfl) ?_
    refine va_get (D := (dC, dI)) (ci := 5) (v := .ref (mm 2)) (C := RX5) (T := TX5) (N := 16) hx hb hts hin5 hown hK hP 0 rfl rfl 1 (by decide) (hts (.fieldLink RX5 13 "TurnDigitsModel" "now" "[I") (by decide +kernel)) (fun _ h9 => h9) rfl dX5_goes_64 ?_
    refine lv_bipush (v := 8) hx hb dX5_goes_67 (by decide) ?_
    refine lv_iload_n hx hb dX5_goes_69 rfl (lv_at hl 1 rfl) ?_
    refine xm_topi (y := (nI (go_X v))) (go_at q57).1 ?_
    refine lv_iadd hx hb dX5_goes_70 ?_
    refine xm_topi (y := nI (8 + (go_X v))) (nI_add 8 (go_X v)) ?_
    refine xm_iald (D := (dC, dI)) hx hb hK hP 2 0 (8 + (go_X v)) (v := (upd (upd (xv_rw 26 6 (fm_crd (fun j => v (14 + j)) (fun j => v (26 + j))) v) 7 (go_O v)) 0 ((v 0) + 1)) (8 + (go_X v))) rfl rfl (by decide) rfl (by omega) rfl dX5_goes_71 ?_
    refine xm_topi (y := (nI (v (8 + (go_X v))).toNatClampNeg)) ((go_3o (v := v) (j := 8 + (go_X v)) (by omega)).trans (hsg _ hX).1) ?_
    have hPc := hP.sub (ws' := [((mm 0), .inr (5, [.ref (mm 1), .ref (mm 2), .ref (mm 3), .ref (mm 4), .int kp, .ref (mm 5), .int ty, .int th, .int at0, .int fa, .ref (mm 6), .int ts, .ref (mm 7), .ref (mm 8), .ref (mm 9), .int fr])), ((mm 1), .inl (cI, 12, .inl xm_mk)), ((mm 2), .inl (cI, 80, .inl (upd (upd (xv_rw 26 6 (fm_crd (fun j => v (14 + j)) (fun j => v (26 + j))) v) 7 (go_O v)) 0 ((v 0) + 1))))]) [0, 1, 2] rfl
    refine W.callV ((va_runV (As := [.int (nI (go_X v)), .int (nI (v (8 + (go_X v))).toNatClampNeg)]) (rest := []) ⟨hx, hb, hml, hown, hts⟩ (c_X5_shownAs l dC dI cI cS cJ tt mm kp ty th at0 fa ts fr (upd (upd (xv_rw 26 6 (fm_crd (fun j => v (14 + j)) (fun j => v (26 + j))) v) 7 (go_O v)) 0 ((v 0) + 1)) (go_X v) ((v (8 + (go_X v))).toNatClampNeg)) (cwV 2 hts gX5_goes_X5_shownAs rfl rfl rfl (by decide +kernel) ⟨Nat.le_of_ble_eq_true rfl, Nat.le_of_ble_eq_true rfl⟩) ⟨xm_Rblind, va_recv hK hPc (ci := 5) (q0 := 0) rfl rfl, fun U hU hW => ⟨rfl, by rw [hU]; exact hPc, hE.go hS (fun _ q => q.elim) hU hW, ⟨hX, (hsg _ hX).2⟩⟩⟩ rfl rfl hl.1 rfl (lv_room (Nat.le_of_ble_eq_true rfl)) dX5_goes_72 ⟨Nat.zero_le _, Nat.zero_le _⟩).run) ?_
    refine W.eq (g2 := F0 m 75 lz (.int (xm_mk ((v (8 + (go_X v))).toNatClampNeg) &&& ((upd (upd (xv_rw 26 6 (fm_crd (fun j => v (14 + j)) (fun j => v (26 + j))) v) 7 (go_O v)) 0 ((v 0) + 1)) (20 + (go_X v)) ^^^ (-1))) :: [])) rfl ?_
    refine xm_topi (y := (go_S v)) (by show _ &&& (go_3 v (20 + (go_X v)) ^^^ (-1)) = _; rw [go_3o (by omega)]; rfl) ?_
    refine lv_istore (lv' := [(4, .int (go_S v)), (3, .int 0), (2, .int (xv_X v)), (1, .int (go_O v)), (0, .ref (mm 0))]) hx hb dX5_goes_75 hl (by decide) rfl (fun lz hl => ?_)
    refine lv_aload_n hx hb dX5_goes_77 rfl (lv_at hl 4 rfl) ?_
    refine va_get (D := (dC, dI)) (ci := 5) (v := .ref (mm 2)) (C := RX5) (T := TX5) (N := 16) hx hb hts hin5 hown hK hP 0 rfl rfl 1 (by decide) (hts (.fieldLink RX5 13 "TurnDigitsModel" "now" "[I") (by decide +kernel)) (fun _ h9 => h9) rfl dX5_goes_78 ?_
    refine lv_bipush (v := 32) hx hb dX5_goes_81 (by decide) ?_
    refine lv_iload_n hx hb dX5_goes_83 rfl (lv_at hl 2 rfl) ?_
    refine xm_topi (y := (nI (go_X v))) (go_at q57).1 ?_
    refine lv_iadd hx hb dX5_goes_84 ?_
    refine xm_topi (y := nI (32 + (go_X v))) (nI_add 32 (go_X v)) ?_
    refine lv_dup2_11 hx hb dX5_goes_85 rfl rfl ?_
    refine xm_iald (D := (dC, dI)) hx hb hK hP 2 0 (32 + (go_X v)) (v := (upd (upd (xv_rw 26 6 (fm_crd (fun j => v (14 + j)) (fun j => v (26 + j))) v) 7 (go_O v)) 0 ((v 0) + 1)) (32 + (go_X v))) rfl rfl (by decide) rfl (by omega) rfl dX5_goes_86 ?_
    refine xm_topi (y := (v (32 + (go_X v)))) (go_3o (v := v) (by omega)) ?_
    refine lv_iconst (v := 1) hx hb dX5_goes_87 (by decide) ?_
    refine lv_iadd hx hb dX5_goes_88 ?_
    refine xm_iast (D := (dC, dI)) hx hb hK hP hD hS 2 0 (32 + (go_X v)) rfl rfl (by decide) rfl (by omega) dX5_goes_89 (fun H locs hP hD hS => ?_)
    have hP : va_P (dC, dI) vwCl [((mm 0), .inr (5, [.ref (mm 1), .ref (mm 2), .ref (mm 3), .ref (mm 4), .int kp, .ref (mm 5), .int ty, .int th, .int at0, .int fa, .ref (mm 6), .int ts, .ref (mm 7), .ref (mm 8), .ref (mm 9), .int fr])), ((mm 1), .inl (cI, 12, .inl xm_mk)), ((mm 2), .inl (cI, 80, .inl (upd (upd (upd (xv_rw 26 6 (fm_crd (fun j => v (14 + j)) (fun j => v (26 + j))) v) 7 (go_O v)) 0 ((v 0) + 1)) (32 + (go_X v)) ((v (32 + (go_X v))) + 1))))] H := hP
    have hD : va_D A [((mm 0), .inr (5, [.ref (mm 1), .ref (mm 2), .ref (mm 3), .ref (mm 4), .int kp, .ref (mm 5), .int ty, .int th, .int at0, .int fa, .ref (mm 6), .int ts, .ref (mm 7), .ref (mm 8), .ref (mm 9), .int fr])), ((mm 1), .inl (cI, 12, .inl xm_mk)), ((mm 2), .inl (cI, 80, .inl (upd (upd (upd (xv_rw 26 6 (fm_crd (fun j => v (14 + j)) (fun j => v (26 + j))) v) 7 (go_O v)) 0 ((v 0) + 1)) (32 + (go_X v)) ((v (32 + (go_X v))) + 1))))] := hD
    refine lv_iconst (v := 0) hx hb dX5_goes_90 (by decide) ?_
    refine lv_istore (lv' := [(5, .int 0), (4, .int (go_S v)), (3, .int 0), (2, .int (xv_X v)), (1, .int (go_O v)), (0, .ref (mm 0))]) hx hb dX5_goes_91 hl (by decide) rfl (fun lz hl => ?_)
    have L93 : ∀ (zz i : Nat), i ≤ 7 → 7 + 1 ≤ i + zz → ∀ (x3 : Int32) (f : Nat → Int32), x3 = go_N v i → f = go_r v i → ∀ (H : Heap) (locs : List Loc), va_P (dC, dI) vwCl [((mm 0), .inr (5, [.ref (mm 1), .ref (mm 2), .ref (mm 3), .ref (mm 4), .int kp, .ref (mm 5), .int ty, .int th, .int at0, .int fa, .ref (mm 6), .int ts, .ref (mm 7), .ref (mm 8), .ref (mm 9), .int fr])), ((mm 1), .inl (cI, 12, .inl xm_mk)), ((mm 2), .inl (cI, 80, .inl f))] H → va_D A [((mm 0), .inr (5, [.ref (mm 1), .ref (mm 2), .ref (mm 3), .ref (mm 4), .int kp, .ref (mm 5), .int ty, .int th, .int at0, .int fa, .ref (mm 6), .int ts, .ref (mm 7), .ref (mm 8), .ref (mm 9), .int fr])), ((mm 1), .inl (cI, 12, .inl xm_mk)), ((mm 2), .inl (cI, 80, .inl f))] → va_S A s.heap H locs → ∀ (lz : Array Slot), lv_has lz 7 [(0, .ref (mm 0)), (2, .int (xv_X v)), (3, .int x3), (4, .int (go_S v)), (5, .int (nI i))] → W p l e (headSpec wsX5_goes ({ frames := 2, cells := 0, slots := 0, locals := 46 } : Room)).room s m ([.ref (mm 0)] : List Value).toArray below meth c H locs 0 0 (MQ below (va_Qi (fun (r : Int32) (u : (Nat → Int32)) => r = xv_sn v ∧ u = xv_slot v) (xm_B (dC, dI) (fun (u : (Nat → Int32)) => [((mm 0), .inr (5, [.ref (mm 1), .ref (mm 2), .ref (mm 3), .ref (mm 4), .int kp, .ref (mm 5), .int ty, .int th, .int at0, .int fa, .ref (mm 6), .int ts, .ref (mm 7), .ref (mm 8), .ref (mm 9), .int fr])), ((mm 1), .inl (cI, 12, .inl xm_mk)), ((mm 2), .inl (cI, 80, .inl u))]) A) A) ([.ref (mm 0)] : List Value).toArray s 0 0 A) (F0 m 93 lz []) := by
      intro zz
      induction zz with
      | zero => intro i hii hni; exact absurd hni (by omega)
      | succ zz ih93 =>
        intro i hii hni x3 f e_x3 e_f  H locs hP hD hS lz hl
        subst e_x3 e_f
        refine lv_iload hx hb dX5_goes_93 (lv_at hl 4 rfl) ?_
        refine lv_bipush (v := 7) hx hb dX5_goes_95 (by decide) ?_
        refine lv_icmp_ge (tgt := 219) hx hb dX5_goes_97 (by decide) (fun q97 => ?_) (fun q97 => ?_)
        · have hNi : 7 = i := (xm_end (N := 7) hii (by decide) q97).symm
          subst hNi
          obtain ⟨hP, hD⟩ := xm_cong hP hD 2 rfl (xv_slot v) (go_e1 q57)
          have hP : va_P (dC, dI) vwCl [((mm 0), .inr (5, [.ref (mm 1), .ref (mm 2), .ref (mm 3), .ref (mm 4), .int kp, .ref (mm 5), .int ty, .int th, .int at0, .int fa, .ref (mm 6), .int ts, .ref (mm 7), .ref (mm 8), .ref (mm 9), .int fr])), ((mm 1), .inl (cI, 12, .inl xm_mk)), ((mm 2), .inl (cI, 80, .inl (xv_slot v)))] H := hP
          have hD : va_D A [((mm 0), .inr (5, [.ref (mm 1), .ref (mm 2), .ref (mm 3), .ref (mm 4), .int kp, .ref (mm 5), .int ty, .int th, .int at0, .int fa, .ref (mm 6), .int ts, .ref (mm 7), .ref (mm 8), .ref (mm 9), .int fr])), ((mm 1), .inl (cI, 12, .inl xm_mk)), ((mm 2), .inl (cI, 80, .inl (xv_slot v)))] := hD
          refine lv_iload_n hx hb dX5_goes_219 rfl (lv_at hl 2 rfl) ?_
          have hP9 : va_P (dC, dI) vwCl [((mm 0), .inr (5, [.ref (mm 1), .ref (mm 2), .ref (mm 3), .ref (mm 4), .int kp, .ref (mm 5), .int ty, .int th, .int at0, .int fa, .ref (mm 6), .int ts, .ref (mm 7), .ref (mm 8), .ref (mm 9), .int fr])), ((mm 1), .inl (cI, 12, .inl xm_mk)), ((mm 2), .inl (cI, 80, .inl (xv_slot v)))] H := hP
          have hD9 : va_D A [((mm 0), .inr (5, [.ref (mm 1), .ref (mm 2), .ref (mm 3), .ref (mm 4), .int kp, .ref (mm 5), .int ty, .int th, .int at0, .int fa, .ref (mm 6), .int ts, .ref (mm 7), .ref (mm 8), .ref (mm 9), .int fr])), ((mm 1), .inl (cI, 12, .inl xm_mk)), ((mm 2), .inl (cI, 80, .inl (xv_slot v)))] := hD
          exact W.iret (v := (go_N v 7)) hx hb hr (fun t ht hW => ⟨⟨(go_N v 7), xv_slot v, rfl, ⟨(go_n1 q57), rfl⟩, by rw [ht]; exact hP9, hD9⟩, hS.F ht⟩) hS.2.2 dX5_goes_220
        · have hlti : i < 7 := xm_lt (N := 7) hii (by decide) q97
          refine lv_iload hx hb dX5_goes_100 (lv_at hl 3 rfl) ?_
          refine lv_iload hx hb dX5_goes_102 (lv_at hl 4 rfl) ?_
          refine lv_ishr hx hb dX5_goes_104 ?_
          refine lv_iconst (v := 1) hx hb dX5_goes_105 (by decide) ?_
          refine lv_iand hx hb dX5_goes_106 ?_
          refine xm_topi (y := (fm_bit (go_S v) i)) rfl ?_
          refine lv_iconst (v := 1) hx hb dX5_goes_107 (by decide) ?_
          refine lv_icmp_ne (tgt := 213) hx hb dX5_goes_108 (by decide) (fun q108 => ?_) (fun q108 => ?_)
          · refine lv_iinc (v := nI (i + 1)) (lv' := [(5, .int (nI (i + 1))), (0, .ref (mm 0)), (2, .int (xv_X v)), (3, .int (go_N v i)), (4, .int (go_S v))]) hx hb dX5_goes_213 hl (k := 4) rfl (nI_1 i) (by decide) rfl (fun lz hl => ?_)
            refine lv_goto (tgt := 93) hx hb dX5_goes_216 (by decide) ?_
            exact ih93 (i + 1) hlti (by omega) (go_N v i) (go_r v i) (go_no q108).2 (go_no q108).1  H locs hP hD hS lz (lv_sub hl [1, 2, 3, 4, 0] rfl)
          · have q108n := q108
            refine lv_aload_n hx hb dX5_goes_111 rfl (lv_at hl 0 rfl) ?_
            refine va_get (D := (dC, dI)) (ci := 5) (v := .ref (mm 2)) (C := RX5) (T := TX5) (N := 16) hx hb hts hin5 hown hK hP 0 rfl rfl 1 (by decide) (hts (.fieldLink RX5 13 "TurnDigitsModel" "now" "[I") (by decide +kernel)) (fun _ h9 => h9) rfl dX5_goes_112 ?_
            refine lv_bipush (v := 38) hx hb dX5_goes_115 (by decide) ?_
            refine lv_bipush (v := 7) hx hb dX5_goes_117 (by decide) ?_
            refine lv_iload_n hx hb dX5_goes_119 rfl (lv_at hl 1 rfl) ?_
            refine xm_topi (y := (nI (go_X v))) (go_at q57).1 ?_
            refine lv_imul hx hb dX5_goes_120 ?_
            refine xm_topi (y := nI (7 * (go_X v))) (pk_mul 7 (go_X v)) ?_
            refine lv_iadd hx hb dX5_goes_121 ?_
            refine xm_topi (y := nI (38 + (7 * (go_X v)))) (nI_add 38 (7 * (go_X v))) ?_
            refine lv_iload hx hb dX5_goes_122 (lv_at hl 4 rfl) ?_
            refine lv_iadd hx hb dX5_goes_124 ?_
            refine xm_topi (y := nI (38 + (7 * (go_X v)) + i)) (nI_add (38 + (7 * (go_X v))) i) ?_
            refine lv_dup2_11 hx hb dX5_goes_125 rfl rfl ?_
            refine xm_iald (D := (dC, dI)) hx hb hK hP 2 0 (38 + (7 * (go_X v)) + i) (v := (go_r v i) (38 + (7 * (go_X v)) + i)) rfl rfl (by decide) rfl (by omega) rfl dX5_goes_126 ?_
            refine xm_topi (y := (go_W v i (go_X v * 7 + i))) (go_rw hlti hX) ?_
            refine lv_iconst (v := 1) hx hb dX5_goes_127 (by decide) ?_
            refine lv_iadd hx hb dX5_goes_128 ?_
            refine xm_iast (D := (dC, dI)) hx hb hK hP hD hS 2 0 (38 + (7 * (go_X v)) + i) rfl rfl (by decide) rfl (by omega) dX5_goes_129 (fun H locs hP hD hS => ?_)
            have hP : va_P (dC, dI) vwCl [((mm 0), .inr (5, [.ref (mm 1), .ref (mm 2), .ref (mm 3), .ref (mm 4), .int kp, .ref (mm 5), .int ty, .int th, .int at0, .int fa, .ref (mm 6), .int ts, .ref (mm 7), .ref (mm 8), .ref (mm 9), .int fr])), ((mm 1), .inl (cI, 12, .inl xm_mk)), ((mm 2), .inl (cI, 80, .inl (upd (go_r v i) (38 + (7 * (go_X v)) + i) ((go_W v i (go_X v * 7 + i)) + 1))))] H := hP
            have hD : va_D A [((mm 0), .inr (5, [.ref (mm 1), .ref (mm 2), .ref (mm 3), .ref (mm 4), .int kp, .ref (mm 5), .int ty, .int th, .int at0, .int fa, .ref (mm 6), .int ts, .ref (mm 7), .ref (mm 8), .ref (mm 9), .int fr])), ((mm 1), .inl (cI, 12, .inl xm_mk)), ((mm 2), .inl (cI, 80, .inl (upd (go_r v i) (38 + (7 * (go_X v)) + i) ((go_W v i (go_X v * 7 + i)) + 1))))] := hD
            refine lv_aload_n hx hb dX5_goes_130 rfl (lv_at hl 0 rfl) ?_
            refine va_get (D := (dC, dI)) (ci := 5) (v := .ref (mm 2)) (C := RX5) (T := TX5) (N := 16) hx hb hts hin5 hown hK hP 0 rfl rfl 1 (by decide) (hts (.fieldLink RX5 13 "TurnDigitsModel" "now" "[I") (by decide +kernel)) (fun _ h9 => h9) rfl dX5_goes_131 ?_
            refine lv_bipush (v := 6) hx hb dX5_goes_134 (by decide) ?_
            refine xm_iald (D := (dC, dI)) hx hb hK hP 2 0 6 (v := (upd (go_r v i) (38 + (7 * (go_X v)) + i) ((go_W v i (go_X v * 7 + i)) + 1)) 6) rfl rfl (by decide) rfl (by decide) rfl dX5_goes_136 ?_
            refine xm_topi (y := (v 6)) ((pk_un (by omega)).trans (go_ro (by decide) hX)) ?_
            refine lv_if_le (tgt := 172) hx hb dX5_goes_137 (by decide) (fun q137 => ?_) (fun q137 => ?_)
            · refine lv_iconst (v := 0) hx hb dX5_goes_172 (by decide) ?_
              refine lv_istore (lv' := [(6, .int 0), (0, .ref (mm 0)), (2, .int (xv_X v)), (3, .int (go_N v i)), (4, .int (go_S v)), (5, .int (nI i))]) hx hb dX5_goes_173 hl (by decide) rfl (fun lz hl => ?_)
              refine lv_aload_n hx hb dX5_goes_175 rfl (lv_at hl 1 rfl) ?_
              refine va_get (D := (dC, dI)) (ci := 5) (v := .ref (mm 2)) (C := RX5) (T := TX5) (N := 16) hx hb hts hin5 hown hK hP 0 rfl rfl 1 (by decide) (hts (.fieldLink RX5 13 "TurnDigitsModel" "now" "[I") (by decide +kernel)) (fun _ h9 => h9) rfl dX5_goes_176 ?_
              refine lv_bipush (v := 20) hx hb dX5_goes_179 (by decide) ?_
              refine lv_iload_n hx hb dX5_goes_181 rfl (lv_at hl 2 rfl) ?_
              refine xm_topi (y := (nI (go_X v))) (go_at q57).1 ?_
              refine lv_iadd hx hb dX5_goes_182 ?_
              refine xm_topi (y := nI (20 + (go_X v))) (nI_add 20 (go_X v)) ?_
              refine lv_dup2_11 hx hb dX5_goes_183 rfl rfl ?_
              refine xm_iald (D := (dC, dI)) hx hb hK hP 2 0 (20 + (go_X v)) (v := (upd (go_r v i) (38 + (7 * (go_X v)) + i) ((go_W v i (go_X v * 7 + i)) + 1)) (20 + (go_X v))) rfl rfl (by decide) rfl (by omega) rfl dX5_goes_184 ?_
              refine xm_topi (y := (go_B v i)) ((pk_un (by omega)).trans go_rb) ?_
              refine lv_iload hx hb dX5_goes_185 (lv_at hl 0 rfl) ?_
              refine lv_if_eq (tgt := 197) hx hb dX5_goes_187 (by decide) (fun q9 => ?_) (fun q9 => absurd (by decide) q9)
              refine lv_iconst (v := 0) hx hb dX5_goes_197 (by decide) ?_
              refine lv_ior hx hb dX5_goes_198 ?_
              refine xm_iast (D := (dC, dI)) hx hb hK hP hD hS 2 0 (20 + (go_X v)) rfl rfl (by decide) rfl (by omega) dX5_goes_199 (fun H locs hP hD hS => ?_)
              have hP : va_P (dC, dI) vwCl [((mm 0), .inr (5, [.ref (mm 1), .ref (mm 2), .ref (mm 3), .ref (mm 4), .int kp, .ref (mm 5), .int ty, .int th, .int at0, .int fa, .ref (mm 6), .int ts, .ref (mm 7), .ref (mm 8), .ref (mm 9), .int fr])), ((mm 1), .inl (cI, 12, .inl xm_mk)), ((mm 2), .inl (cI, 80, .inl (upd (upd (go_r v i) (38 + (7 * (go_X v)) + i) ((go_W v i (go_X v * 7 + i)) + 1)) (20 + (go_X v)) ((go_B v i) ||| 0))))] H := hP
              have hD : va_D A [((mm 0), .inr (5, [.ref (mm 1), .ref (mm 2), .ref (mm 3), .ref (mm 4), .int kp, .ref (mm 5), .int ty, .int th, .int at0, .int fa, .ref (mm 6), .int ts, .ref (mm 7), .ref (mm 8), .ref (mm 9), .int fr])), ((mm 1), .inl (cI, 12, .inl xm_mk)), ((mm 2), .inl (cI, 80, .inl (upd (upd (go_r v i) (38 + (7 * (go_X v)) + i) ((go_W v i (go_X v * 7 + i)) + 1)) (20 + (go_X v)) ((go_B v i) ||| 0))))] := hD
              refine lv_iload_n hx hb dX5_goes_200 rfl (lv_at hl 3 rfl) ?_
              refine lv_iload hx hb dX5_goes_201 (lv_at hl 0 rfl) ?_
              refine lv_if_eq (tgt := 210) hx hb dX5_goes_203 (by decide) (fun q9 => ?_) (fun q9 => absurd (by decide) q9)
              refine lv_iconst (v := 0) hx hb dX5_goes_210 (by decide) ?_
              refine lv_iadd hx hb dX5_goes_211 ?_
              refine lv_istore_n (lv' := [(3, .int ((go_N v i) + 0)), (6, .int 0), (0, .ref (mm 0)), (2, .int (xv_X v)), (4, .int (go_S v)), (5, .int (nI i))]) hx hb dX5_goes_212 rfl hl (by decide) rfl (fun lz hl => ?_)
              refine lv_iinc (v := nI (i + 1)) (lv' := [(5, .int (nI (i + 1))), (3, .int ((go_N v i) + 0)), (6, .int 0), (0, .ref (mm 0)), (2, .int (xv_X v)), (4, .int (go_S v))]) hx hb dX5_goes_213 hl (k := 5) rfl (nI_1 i) (by decide) rfl (fun lz hl => ?_)
              refine lv_goto (tgt := 93) hx hb dX5_goes_216 (by decide) ?_
              exact ih93 (i + 1) hlti (by omega) ((go_N v i) + 0) (upd (upd (go_r v i) (38 + (7 * (go_X v)) + i) ((go_W v i (go_X v * 7 + i)) + 1)) (20 + (go_X v)) ((go_B v i) ||| 0)) (go_b0 q108n (Or.inl ((go_life hlf).mpr q137))).2 (go_yes hlti hX q108n (go_b0 q108n (Or.inl ((go_life hlf).mpr q137))).1)  H locs hP hD hS lz (lv_sub hl [3, 4, 1, 5, 0] rfl)
            · refine lv_aload_n hx hb dX5_goes_140 rfl (lv_at hl 0 rfl) ?_
              refine va_get (D := (dC, dI)) (ci := 5) (v := .ref (mm 2)) (C := RX5) (T := TX5) (N := 16) hx hb hts hin5 hown hK hP 0 rfl rfl 1 (by decide) (hts (.fieldLink RX5 13 "TurnDigitsModel" "now" "[I") (by decide +kernel)) (fun _ h9 => h9) rfl dX5_goes_141 ?_
              refine lv_bipush (v := 38) hx hb dX5_goes_144 (by decide) ?_
              refine lv_bipush (v := 7) hx hb dX5_goes_146 (by decide) ?_
              refine lv_iload_n hx hb dX5_goes_148 rfl (lv_at hl 1 rfl) ?_
              refine xm_topi (y := (nI (go_X v))) (go_at q57).1 ?_
              refine lv_imul hx hb dX5_goes_149 ?_
              refine xm_topi (y := nI (7 * (go_X v))) (pk_mul 7 (go_X v)) ?_
              refine lv_iadd hx hb dX5_goes_150 ?_
              refine xm_topi (y := nI (38 + (7 * (go_X v)))) (nI_add 38 (7 * (go_X v))) ?_
              refine lv_iload hx hb dX5_goes_151 (lv_at hl 4 rfl) ?_
              refine lv_iadd hx hb dX5_goes_153 ?_
              refine xm_topi (y := nI (38 + (7 * (go_X v)) + i)) (nI_add (38 + (7 * (go_X v))) i) ?_
              refine xm_iald (D := (dC, dI)) hx hb hK hP 2 0 (38 + (7 * (go_X v)) + i) (v := (upd (go_r v i) (38 + (7 * (go_X v)) + i) ((go_W v i (go_X v * 7 + i)) + 1)) (38 + (7 * (go_X v)) + i)) rfl rfl (by decide) rfl (by omega) rfl dX5_goes_154 ?_
              refine xm_topi (y := ((go_W v i (go_X v * 7 + i)) + 1)) pk_us ?_
              refine lv_bipush (v := 100) hx hb dX5_goes_155 (by decide) ?_
              refine lv_aload_n hx hb dX5_goes_157 rfl (lv_at hl 0 rfl) ?_
              refine va_get (D := (dC, dI)) (ci := 5) (v := .ref (mm 2)) (C := RX5) (T := TX5) (N := 16) hx hb hts hin5 hown hK hP 0 rfl rfl 1 (by decide) (hts (.fieldLink RX5 13 "TurnDigitsModel" "now" "[I") (by decide +kernel)) (fun _ h9 => h9) rfl dX5_goes_158 ?_
              refine lv_bipush (v := 6) hx hb dX5_goes_161 (by decide) ?_
              refine xm_iald (D := (dC, dI)) hx hb hK hP 2 0 6 (v := (upd (go_r v i) (38 + (7 * (go_X v)) + i) ((go_W v i (go_X v * 7 + i)) + 1)) 6) rfl rfl (by decide) rfl (by decide) rfl dX5_goes_163 ?_
              refine xm_topi (y := (v 6)) ((pk_un (by omega)).trans (go_ro (by decide) hX)) ?_
              refine lv_imul hx hb dX5_goes_164 ?_
              refine lv_icmp_lt (tgt := 172) hx hb dX5_goes_165 (by decide) (fun q165 => ?_) (fun q165 => ?_)
              · refine lv_iconst (v := 0) hx hb dX5_goes_172 (by decide) ?_
                refine lv_istore (lv' := [(6, .int 0), (0, .ref (mm 0)), (2, .int (xv_X v)), (3, .int (go_N v i)), (4, .int (go_S v)), (5, .int (nI i))]) hx hb dX5_goes_173 hl (by decide) rfl (fun lz hl => ?_)
                refine lv_aload_n hx hb dX5_goes_175 rfl (lv_at hl 1 rfl) ?_
                refine va_get (D := (dC, dI)) (ci := 5) (v := .ref (mm 2)) (C := RX5) (T := TX5) (N := 16) hx hb hts hin5 hown hK hP 0 rfl rfl 1 (by decide) (hts (.fieldLink RX5 13 "TurnDigitsModel" "now" "[I") (by decide +kernel)) (fun _ h9 => h9) rfl dX5_goes_176 ?_
                refine lv_bipush (v := 20) hx hb dX5_goes_179 (by decide) ?_
                refine lv_iload_n hx hb dX5_goes_181 rfl (lv_at hl 2 rfl) ?_
                refine xm_topi (y := (nI (go_X v))) (go_at q57).1 ?_
                refine lv_iadd hx hb dX5_goes_182 ?_
                refine xm_topi (y := nI (20 + (go_X v))) (nI_add 20 (go_X v)) ?_
                refine lv_dup2_11 hx hb dX5_goes_183 rfl rfl ?_
                refine xm_iald (D := (dC, dI)) hx hb hK hP 2 0 (20 + (go_X v)) (v := (upd (go_r v i) (38 + (7 * (go_X v)) + i) ((go_W v i (go_X v * 7 + i)) + 1)) (20 + (go_X v))) rfl rfl (by decide) rfl (by omega) rfl dX5_goes_184 ?_
                refine xm_topi (y := (go_B v i)) ((pk_un (by omega)).trans go_rb) ?_
                refine lv_iload hx hb dX5_goes_185 (lv_at hl 0 rfl) ?_
                refine lv_if_eq (tgt := 197) hx hb dX5_goes_187 (by decide) (fun q9 => ?_) (fun q9 => absurd (by decide) q9)
                refine lv_iconst (v := 0) hx hb dX5_goes_197 (by decide) ?_
                refine lv_ior hx hb dX5_goes_198 ?_
                refine xm_iast (D := (dC, dI)) hx hb hK hP hD hS 2 0 (20 + (go_X v)) rfl rfl (by decide) rfl (by omega) dX5_goes_199 (fun H locs hP hD hS => ?_)
                have hP : va_P (dC, dI) vwCl [((mm 0), .inr (5, [.ref (mm 1), .ref (mm 2), .ref (mm 3), .ref (mm 4), .int kp, .ref (mm 5), .int ty, .int th, .int at0, .int fa, .ref (mm 6), .int ts, .ref (mm 7), .ref (mm 8), .ref (mm 9), .int fr])), ((mm 1), .inl (cI, 12, .inl xm_mk)), ((mm 2), .inl (cI, 80, .inl (upd (upd (go_r v i) (38 + (7 * (go_X v)) + i) ((go_W v i (go_X v * 7 + i)) + 1)) (20 + (go_X v)) ((go_B v i) ||| 0))))] H := hP
                have hD : va_D A [((mm 0), .inr (5, [.ref (mm 1), .ref (mm 2), .ref (mm 3), .ref (mm 4), .int kp, .ref (mm 5), .int ty, .int th, .int at0, .int fa, .ref (mm 6), .int ts, .ref (mm 7), .ref (mm 8), .ref (mm 9), .int fr])), ((mm 1), .inl (cI, 12, .inl xm_mk)), ((mm 2), .inl (cI, 80, .inl (upd (upd (go_r v i) (38 + (7 * (go_X v)) + i) ((go_W v i (go_X v * 7 + i)) + 1)) (20 + (go_X v)) ((go_B v i) ||| 0))))] := hD
                refine lv_iload_n hx hb dX5_goes_200 rfl (lv_at hl 3 rfl) ?_
                refine lv_iload hx hb dX5_goes_201 (lv_at hl 0 rfl) ?_
                refine lv_if_eq (tgt := 210) hx hb dX5_goes_203 (by decide) (fun q9 => ?_) (fun q9 => absurd (by decide) q9)
                refine lv_iconst (v := 0) hx hb dX5_goes_210 (by decide) ?_
                refine lv_iadd hx hb dX5_goes_211 ?_
                refine lv_istore_n (lv' := [(3, .int ((go_N v i) + 0)), (6, .int 0), (0, .ref (mm 0)), (2, .int (xv_X v)), (4, .int (go_S v)), (5, .int (nI i))]) hx hb dX5_goes_212 rfl hl (by decide) rfl (fun lz hl => ?_)
                refine lv_iinc (v := nI (i + 1)) (lv' := [(5, .int (nI (i + 1))), (3, .int ((go_N v i) + 0)), (6, .int 0), (0, .ref (mm 0)), (2, .int (xv_X v)), (4, .int (go_S v))]) hx hb dX5_goes_213 hl (k := 5) rfl (nI_1 i) (by decide) rfl (fun lz hl => ?_)
                refine lv_goto (tgt := 93) hx hb dX5_goes_216 (by decide) ?_
                exact ih93 (i + 1) hlti (by omega) ((go_N v i) + 0) (upd (upd (go_r v i) (38 + (7 * (go_X v)) + i) ((go_W v i (go_X v * 7 + i)) + 1)) (20 + (go_X v)) ((go_B v i) ||| 0)) (go_b0 q108n (Or.inr (by rw [Int32.mul_comm]; exact q165))).2 (go_yes hlti hX q108n (go_b0 q108n (Or.inr (by rw [Int32.mul_comm]; exact q165))).1)  H locs hP hD hS lz (lv_sub hl [3, 4, 1, 5, 0] rfl)
              · refine lv_iconst (v := 1) hx hb dX5_goes_168 (by decide) ?_
                refine lv_goto (tgt := 173) hx hb dX5_goes_169 (by decide) ?_
                refine lv_istore (lv' := [(6, .int 1), (0, .ref (mm 0)), (2, .int (xv_X v)), (3, .int (go_N v i)), (4, .int (go_S v)), (5, .int (nI i))]) hx hb dX5_goes_173 hl (by decide) rfl (fun lz hl => ?_)
                refine lv_aload_n hx hb dX5_goes_175 rfl (lv_at hl 1 rfl) ?_
                refine va_get (D := (dC, dI)) (ci := 5) (v := .ref (mm 2)) (C := RX5) (T := TX5) (N := 16) hx hb hts hin5 hown hK hP 0 rfl rfl 1 (by decide) (hts (.fieldLink RX5 13 "TurnDigitsModel" "now" "[I") (by decide +kernel)) (fun _ h9 => h9) rfl dX5_goes_176 ?_
                refine lv_bipush (v := 20) hx hb dX5_goes_179 (by decide) ?_
                refine lv_iload_n hx hb dX5_goes_181 rfl (lv_at hl 2 rfl) ?_
                refine xm_topi (y := (nI (go_X v))) (go_at q57).1 ?_
                refine lv_iadd hx hb dX5_goes_182 ?_
                refine xm_topi (y := nI (20 + (go_X v))) (nI_add 20 (go_X v)) ?_
                refine lv_dup2_11 hx hb dX5_goes_183 rfl rfl ?_
                refine xm_iald (D := (dC, dI)) hx hb hK hP 2 0 (20 + (go_X v)) (v := (upd (go_r v i) (38 + (7 * (go_X v)) + i) ((go_W v i (go_X v * 7 + i)) + 1)) (20 + (go_X v))) rfl rfl (by decide) rfl (by omega) rfl dX5_goes_184 ?_
                refine xm_topi (y := (go_B v i)) ((pk_un (by omega)).trans go_rb) ?_
                refine lv_iload hx hb dX5_goes_185 (lv_at hl 0 rfl) ?_
                refine lv_if_eq (tgt := 197) hx hb dX5_goes_187 (by decide) (fun q9 => absurd q9 (by decide)) (fun q9 => ?_)
                refine lv_iconst (v := 1) hx hb dX5_goes_190 (by decide) ?_
                refine lv_iload hx hb dX5_goes_191 (lv_at hl 5 rfl) ?_
                refine lv_ishl hx hb dX5_goes_193 ?_
                refine lv_goto (tgt := 198) hx hb dX5_goes_194 (by decide) ?_
                refine lv_ior hx hb dX5_goes_198 ?_
                refine xm_iast (D := (dC, dI)) hx hb hK hP hD hS 2 0 (20 + (go_X v)) rfl rfl (by decide) rfl (by omega) dX5_goes_199 (fun H locs hP hD hS => ?_)
                have hP : va_P (dC, dI) vwCl [((mm 0), .inr (5, [.ref (mm 1), .ref (mm 2), .ref (mm 3), .ref (mm 4), .int kp, .ref (mm 5), .int ty, .int th, .int at0, .int fa, .ref (mm 6), .int ts, .ref (mm 7), .ref (mm 8), .ref (mm 9), .int fr])), ((mm 1), .inl (cI, 12, .inl xm_mk)), ((mm 2), .inl (cI, 80, .inl (upd (upd (go_r v i) (38 + (7 * (go_X v)) + i) ((go_W v i (go_X v * 7 + i)) + 1)) (20 + (go_X v)) ((go_B v i) ||| (1 <<< ((nI i) &&& 31))))))] H := hP
                have hD : va_D A [((mm 0), .inr (5, [.ref (mm 1), .ref (mm 2), .ref (mm 3), .ref (mm 4), .int kp, .ref (mm 5), .int ty, .int th, .int at0, .int fa, .ref (mm 6), .int ts, .ref (mm 7), .ref (mm 8), .ref (mm 9), .int fr])), ((mm 1), .inl (cI, 12, .inl xm_mk)), ((mm 2), .inl (cI, 80, .inl (upd (upd (go_r v i) (38 + (7 * (go_X v)) + i) ((go_W v i (go_X v * 7 + i)) + 1)) (20 + (go_X v)) ((go_B v i) ||| (1 <<< ((nI i) &&& 31))))))] := hD
                refine lv_iload_n hx hb dX5_goes_200 rfl (lv_at hl 3 rfl) ?_
                refine lv_iload hx hb dX5_goes_201 (lv_at hl 0 rfl) ?_
                refine lv_if_eq (tgt := 210) hx hb dX5_goes_203 (by decide) (fun q9 => absurd q9 (by decide)) (fun q9 => ?_)
                refine lv_iconst (v := 1) hx hb dX5_goes_206 (by decide) ?_
                refine lv_goto (tgt := 211) hx hb dX5_goes_207 (by decide) ?_
                refine lv_iadd hx hb dX5_goes_211 ?_
                refine lv_istore_n (lv' := [(3, .int ((go_N v i) + 1)), (6, .int 1), (0, .ref (mm 0)), (2, .int (xv_X v)), (4, .int (go_S v)), (5, .int (nI i))]) hx hb dX5_goes_212 rfl hl (by decide) rfl (fun lz hl => ?_)
                refine lv_iinc (v := nI (i + 1)) (lv' := [(5, .int (nI (i + 1))), (3, .int ((go_N v i) + 1)), (6, .int 1), (0, .ref (mm 0)), (2, .int (xv_X v)), (4, .int (go_S v))]) hx hb dX5_goes_213 hl (k := 5) rfl (nI_1 i) (by decide) rfl (fun lz hl => ?_)
                refine lv_goto (tgt := 93) hx hb dX5_goes_216 (by decide) ?_
                exact ih93 (i + 1) hlti (by omega) ((go_N v i) + 1) (upd (upd (go_r v i) (38 + (7 * (go_X v)) + i) ((go_W v i (go_X v * 7 + i)) + 1)) (20 + (go_X v)) ((go_B v i) ||| (1 <<< ((nI i) &&& 31)))) (go_b1 q108n (fun h => q137 ((go_life hlf).mp h)) (fun h => q165 (by rw [Int32.mul_comm]; exact h))).2 (go_yes hlti hX q108n (go_b1 q108n (fun h => q137 ((go_life hlf).mp h)) (fun h => q165 (by rw [Int32.mul_comm]; exact h))).1)  H locs hP hD hS lz (lv_sub hl [3, 4, 1, 5, 0] rfl)
    exact L93 (7 + 1) 0 (by omega) (by omega) 0 (upd (upd (upd (xv_rw 26 6 (fm_crd (fun j => v (14 + j)) (fun j => v (26 + j))) v) 7 (go_O v)) 0 ((v 0) + 1)) (32 + (go_X v)) ((v (32 + (go_X v))) + 1)) rfl (go_r0 hX)  H locs hP hD hS lz (lv_sub hl [5, 3, 2, 1, 0] rfl)

set_option maxHeartbeats 4000000 in
set_option maxRecDepth 100000 in
theorem c_X5_run (l : Launch) (dC : Nat → ClassId) (dI : Nat → Nat → Nat) (cI cS cJ : ClassId) (tt : Nat → Nat) (sz : Nat) (mm : Nat → Nat) (ty : Int32) (th : Int32) (at0 : Int32) (fa : Int32) (ts : Int32) (fr : Int32) (p0 : Int32) (z : Nat) (v : Nat → Int32) (pv : Nat → Int32) : Met l yX5_run wsX5_run ({ frames := 3, cells := 0, slots := 0, locals := 72 } : Room) (va_Pc [.ref (mm 0), .int p0] (xm_M (dC, dI) cI cS cJ tt [((mm 0), .inr (5, [.ref (mm 1), .ref (mm 2), .ref (mm 3), .ref (mm 4), .int (nI z), .ref (mm 5), .int ty, .int th, .int at0, .int fa, .ref (mm 6), .int ts, .ref (mm 7), .ref (mm 8), .ref (mm 9), .int fr])), ((mm 1), .inl (cI, 12, .inl xm_mk)), ((mm 2), .inl (cI, 80, .inl v)), ((mm 4), .inl (cI, 480, .inl pv))] sz (z ≤ 6 ∧ ∀ k, k < 500 → vo_s (xv_it v k) ∧ vo_l (xv_it v k) ∧ vo_t (xv_it v k)))) (va_Qi (fun (r : Int32) (u : Int32 × Int32 × (Nat → Int32) × (Nat → Int32)) => r = (if xc_ru p0 (v 0) = 0 then xv_in v p0.toNatClampNeg else 0) ∧ u.1 = xc_ru p0 (v 0) ∧ u.2.1 = (if xc_ru p0 (v 0) = 0 then (nI (if z = 6 then 6 else z + 1)) else (nI z)) ∧ u.2.2.1 = (if xc_ru p0 (v 0) = 0 then (xv_it v p0.toNatClampNeg) else v) ∧ u.2.2.2 = (if xc_ru p0 (v 0) = 0 then (mp_sv pv z v) else pv)) (xm_B (dC, dI) (fun (u : Int32 × Int32 × (Nat → Int32) × (Nat → Int32)) => [((mm 0), .inr (5, [.ref (mm 1), .ref (mm 2), .ref (mm 3), .ref (mm 4), .int u.2.1, .ref (mm 5), .int ty, .int u.1, .int at0, .int fa, .ref (mm 6), .int ts, .ref (mm 7), .ref (mm 8), .ref (mm 9), .int fr])), ((mm 1), .inl (cI, 12, .inl xm_mk)), ((mm 2), .inl (cI, 80, .inl u.2.2.1)), ((mm 4), .inl (cI, 480, .inl u.2.2.2))]) (va_A [((mm 0), .inr (5, [.ref (mm 1), .ref (mm 2), .ref (mm 3), .ref (mm 4), .int (nI z), .ref (mm 5), .int ty, .int th, .int at0, .int fa, .ref (mm 6), .int ts, .ref (mm 7), .ref (mm 8), .ref (mm 9), .int fr])), ((mm 1), .inl (cI, 12, .inl xm_mk)), ((mm 2), .inl (cI, 80, .inl v)), ((mm 4), .inl (cI, 480, .inl pv))] sz)) (va_A [((mm 0), .inr (5, [.ref (mm 1), .ref (mm 2), .ref (mm 3), .ref (mm 4), .int (nI z), .ref (mm 5), .int ty, .int th, .int at0, .int fa, .ref (mm 6), .int ts, .ref (mm 7), .ref (mm 8), .ref (mm 9), .int fr])), ((mm 1), .inl (cI, 12, .inl xm_mk)), ((mm 2), .inl (cI, 80, .inl v)), ((mm 4), .inl (cI, 480, .inl pv))] sz)) 0 0 (va_A [((mm 0), .inr (5, [.ref (mm 1), .ref (mm 2), .ref (mm 3), .ref (mm 4), .int (nI z), .ref (mm 5), .int ty, .int th, .int at0, .int fa, .ref (mm 6), .int ts, .ref (mm 7), .ref (mm 8), .ref (mm 9), .int fr])), ((mm 1), .inl (cI, 12, .inl xm_mk)), ((mm 2), .inl (cI, 80, .inl v)), ((mm 4), .inl (cI, 480, .inl pv))] sz) := by
  refine Met.ofW (cc := cX5_run) (maxL := 4) (ret := (some .int)) (by decide) rfl ?_
  intro p e s m args below meth c s₁ B hml hv
  obtain ⟨rfl, hsz, hP, hE, hD0, hpre⟩ := hv
  have hx := B.exec
  have hb := B.bytes
  have hr := B.returns
  have hts := atoms_spec (ws := wsX5_run) B.pre
  have hown : s.vm.findClass RX5 = some m.cls := findClass_of_methodNamed B.named
  have hlocks := B.notSynchronized
  have hK := hE.1
  subst hsz
  have hD := hD0.self (sz := s.heap.size)
  generalize hAe : va_A [((mm 0), .inr (5, [.ref (mm 1), .ref (mm 2), .ref (mm 3), .ref (mm 4), .int (nI z), .ref (mm 5), .int ty, .int th, .int at0, .int fa, .ref (mm 6), .int ts, .ref (mm 7), .ref (mm 8), .ref (mm 9), .int fr])), ((mm 1), .inl (cI, 12, .inl xm_mk)), ((mm 2), .inl (cI, 80, .inl v)), ((mm 4), .inl (cI, 480, .inl pv))] s.heap.size = A at hD hE ⊢
  have hA : ∀ q : Nat, s.heap.size ≤ q → A q := fun q h => by rw [← hAe]; exact Or.inr h
  have hS : va_S A s.heap s.heap [] := va_S.rf
  have hP : va_P (dC, dI) vwCl [((mm 0), .inr (5, [.ref (mm 1), .ref (mm 2), .ref (mm 3), .ref (mm 4), .int (nI z), .ref (mm 5), .int ty, .int th, .int at0, .int fa, .ref (mm 6), .int ts, .ref (mm 7), .ref (mm 8), .ref (mm 9), .int fr])), ((mm 1), .inl (cI, 12, .inl xm_mk)), ((mm 2), .inl (cI, 80, .inl v)), ((mm 4), .inl (cI, 480, .inl pv))] s.heap := hP
  have hin5 : ∀ w ∈ u_ws RX5 TX5 16, w ∈ wsX5_run := by decide +kernel
  have hl := lv_entry [.ref (mm 0), .int p0] (n := 4) (Nat.le_of_ble_eq_true rfl)
  rw [lg_entry_eq]
  generalize (lg_sl [.ref (mm 0), .int p0] ++ List.replicate (4 - (lg_sl [.ref (mm 0), .int p0]).length) Slot.unset).toArray = lz at hl ⊢
  have hl : lv_has lz 4 [(0, .ref (mm 0)), (1, .int p0)] := hl
  refine lv_aload_n hx hb dX5_run_0 rfl (lv_at hl 0 rfl) ?_
  refine lv_iconst (v := 0) hx hb dX5_run_1 (by decide) ?_
  refine va_put (D := (dC, dI)) (ci := 5) (v := .int 0) (ty := .int) (C := RX5) (T := TX5) (N := 16) hx hb hts hin5 tyX5 tyX5_ok nmX5 hown hK hP hD hS 0 rfl rfl 7 (by decide) (hts (.fieldLink RX5 37 "TurnDigitsModel" "thrown" "I") (by decide +kernel)) (fun _ h9 => h9) rfl (by decide +kernel) rfl rfl (Nat.le_of_ble_eq_true rfl) dX5_run_2 (fun H locs hP hD hS => ?_)
  have hP : va_P (dC, dI) vwCl [((mm 0), .inr (5, [.ref (mm 1), .ref (mm 2), .ref (mm 3), .ref (mm 4), .int (nI z), .ref (mm 5), .int ty, .int 0, .int at0, .int fa, .ref (mm 6), .int ts, .ref (mm 7), .ref (mm 8), .ref (mm 9), .int fr])), ((mm 1), .inl (cI, 12, .inl xm_mk)), ((mm 2), .inl (cI, 80, .inl v)), ((mm 4), .inl (cI, 480, .inl pv))] H := hP
  have hD : va_D A [((mm 0), .inr (5, [.ref (mm 1), .ref (mm 2), .ref (mm 3), .ref (mm 4), .int (nI z), .ref (mm 5), .int ty, .int 0, .int at0, .int fa, .ref (mm 6), .int ts, .ref (mm 7), .ref (mm 8), .ref (mm 9), .int fr])), ((mm 1), .inl (cI, 12, .inl xm_mk)), ((mm 2), .inl (cI, 80, .inl v)), ((mm 4), .inl (cI, 480, .inl pv))] := hD
  refine lv_iload_n hx hb dX5_run_5 rfl (lv_at hl 1 rfl) ?_
  refine lv_iconst (v := 1) hx hb dX5_run_6 (by decide) ?_
  refine lv_sipush (v := 500) hx hb dX5_run_7 (by decide) ?_
  have hPc := hP.sub (ws' := []) [] rfl
  refine W.callV ((va_runS (As := [.int p0, .int 1, .int 500]) (rest := []) ⟨hx, hb, hml, hown, hts⟩ (c_X5_in l dC dI cI cS cJ tt p0 1 500) (va_cwS 3 hts gX5_run_X5_in rfl rfl rfl (by decide +kernel) ⟨Nat.le_of_ble_eq_true rfl, Nat.le_of_ble_eq_true rfl⟩) ⟨xm_Rblind, fun U hU hW => ⟨rfl, by rw [hU]; exact hPc, hE.go hS (fun _ q => q.elim) hU hW, trivial⟩⟩ rfl rfl hl.1 rfl (lv_room (Nat.le_of_ble_eq_true rfl)) dX5_run_10 ⟨Nat.zero_le _, Nat.zero_le _⟩).run) ?_
  refine W.eq (g2 := F0 m 13 lz (.int (if xt_rg p0 1 500 = 0 then 1 else 0) :: [])) rfl ?_
  refine lv_if_ne (tgt := 22) hx hb dX5_run_13 (by decide) (fun q13 => ?_) (fun q13 => ?_)
  · have q13b : xt_rg p0 1 500 = 0 := xm_bT q13
    have hrn := xc_n (a := 1) (b := 500) q13b rfl rfl (by decide) (by decide)
    refine lv_aload_n hx hb dX5_run_22 rfl (lv_at hl 0 rfl) ?_
    refine va_get (D := (dC, dI)) (ci := 5) (v := .ref (mm 2)) (C := RX5) (T := TX5) (N := 16) hx hb hts hin5 hown hK hP 0 rfl rfl 1 (by decide) (hts (.fieldLink RX5 13 "TurnDigitsModel" "now" "[I") (by decide +kernel)) (fun _ h9 => h9) rfl dX5_run_23 ?_
    refine lv_iconst (v := 0) hx hb dX5_run_26 (by decide) ?_
    refine xm_iald (D := (dC, dI)) hx hb hK hP 2 0 0 (v := v 0) rfl rfl (by decide) rfl (by decide) rfl dX5_run_27 ?_
    refine lv_iload_n hx hb dX5_run_28 rfl (lv_at hl 1 rfl) ?_
    refine lv_iadd hx hb dX5_run_29 ?_
    refine lv_ldc (v := 99999) hx hb hown (hts (.constant RX5 116 99999) (by decide +kernel)) dX5_run_30 ?_
    refine lv_icmp_le (tgt := 41) hx hb dX5_run_32 (by decide) (fun q32 => ?_) (fun q32 => ?_)
    · refine lv_aload_n hx hb dX5_run_41 rfl (lv_at hl 0 rfl) ?_
      have hPc := hP.sub (ws' := [((mm 0), .inr (5, [.ref (mm 1), .ref (mm 2), .ref (mm 3), .ref (mm 4), .int (nI z), .ref (mm 5), .int ty, .int 0, .int at0, .int fa, .ref (mm 6), .int ts, .ref (mm 7), .ref (mm 8), .ref (mm 9), .int fr])), ((mm 2), .inl (cI, 80, .inl v)), ((mm 4), .inl (cI, 480, .inl pv))]) [0, 2, 3] rfl
      have hDc := hD.sub (ws' := [((mm 0), .inr (5, [.ref (mm 1), .ref (mm 2), .ref (mm 3), .ref (mm 4), .int (nI z), .ref (mm 5), .int ty, .int 0, .int at0, .int fa, .ref (mm 6), .int ts, .ref (mm 7), .ref (mm 8), .ref (mm 9), .int fr])), ((mm 2), .inl (cI, 80, .inl v)), ((mm 4), .inl (cI, 480, .inl pv))]) [0, 2, 3] (by decide) rfl
      have hFc := va_free (wc := [((mm 0), .inr (5, [.ref (mm 1), .ref (mm 2), .ref (mm 3), .ref (mm 4), .int (nI z), .ref (mm 5), .int ty, .int 0, .int at0, .int fa, .ref (mm 6), .int ts, .ref (mm 7), .ref (mm 8), .ref (mm 9), .int fr])), ((mm 2), .inl (cI, 80, .inl v)), ((mm 4), .inl (cI, 480, .inl pv))]) hD hS hA [0, 2, 3] rfl
      refine va_callv (va_runV (As := []) (rest := []) ⟨hx, hb, hml, hown, hts⟩ (c_X5_saves l dC dI cI cS cJ tt H.size mm ty 0 at0 fa ts fr z v pv) (cwV 0 hts gX5_run_X5_saves rfl rfl rfl (by decide +kernel) ⟨Nat.le_of_ble_eq_true rfl, Nat.le_of_ble_eq_true rfl⟩) ⟨xm_Mblind, va_recv hK hPc (ci := 5) (q0 := 0) rfl rfl, fun U hU hW => ⟨rfl, by rw [hU], by rw [hU]; exact hPc, hE.go hS hFc hU hW, hDc.weaken (fun _ _ _ _ => trivial), hpre.1⟩⟩ rfl rfl hl.1 rfl (lv_room (Nat.le_of_ble_eq_true rfl)) dX5_run_42 ⟨Nat.zero_le _, Nat.zero_le _⟩) hS (fun q _ h => hFc q h) hFc (fun u t H1 locs ht hvm hw hB hz1 hk1 hS => ?_)
      obtain ⟨u_1, u_2⟩ := u
      obtain ⟨hP1, hD1⟩ := hB
      rw [ht] at hP1
      obtain ⟨hw_3, hw_4⟩ := hw
      have hw_3 : u_1 = nI (if z = 6 then 6 else z + 1) := hw_3
      subst hw_3
      have hw_4 : u_2 = mp_sv pv z v := hw_4
      subst hw_4
      obtain ⟨hP, hD⟩ := va_join (wr := [((mm 1), .inl (cI, 12, .inl xm_mk))]) (w1 := [((mm 0), .inr (5, [.ref (mm 1), .ref (mm 2), .ref (mm 3), .ref (mm 4), .int (nI (if z = 6 then 6 else z + 1)), .ref (mm 5), .int ty, .int 0, .int at0, .int fa, .ref (mm 6), .int ts, .ref (mm 7), .ref (mm 8), .ref (mm 9), .int fr])), ((mm 2), .inl (cI, 80, .inl v)), ((mm 4), .inl (cI, 480, .inl (mp_sv pv z v)))]) hP hD [0, 2, 3] [1] rfl rfl (by decide) (by decide) hk1 hFc hP1 hD1
      generalize H1 = H at hP hS ⊢
      have hP : va_P (dC, dI) vwCl [((mm 1), .inl (cI, 12, .inl xm_mk)), ((mm 0), .inr (5, [.ref (mm 1), .ref (mm 2), .ref (mm 3), .ref (mm 4), .int (nI (if z = 6 then 6 else z + 1)), .ref (mm 5), .int ty, .int 0, .int at0, .int fa, .ref (mm 6), .int ts, .ref (mm 7), .ref (mm 8), .ref (mm 9), .int fr])), ((mm 2), .inl (cI, 80, .inl v)), ((mm 4), .inl (cI, 480, .inl (mp_sv pv z v)))] H := hP
      have hD : va_D A [((mm 1), .inl (cI, 12, .inl xm_mk)), ((mm 0), .inr (5, [.ref (mm 1), .ref (mm 2), .ref (mm 3), .ref (mm 4), .int (nI (if z = 6 then 6 else z + 1)), .ref (mm 5), .int ty, .int 0, .int at0, .int fa, .ref (mm 6), .int ts, .ref (mm 7), .ref (mm 8), .ref (mm 9), .int fr])), ((mm 2), .inl (cI, 80, .inl v)), ((mm 4), .inl (cI, 480, .inl (mp_sv pv z v)))] := hD
      refine lv_iconst (v := 0) hx hb dX5_run_45 (by decide) ?_
      refine lv_istore_n (lv' := [(2, .int 0), (0, .ref (mm 0)), (1, .int p0)]) hx hb dX5_run_46 rfl hl (by decide) rfl (fun lz hl => ?_)
      refine lv_iconst (v := 0) hx hb dX5_run_47 (by decide) ?_
      refine lv_istore_n (lv' := [(3, .int 0), (2, .int 0), (0, .ref (mm 0)), (1, .int p0)]) hx hb dX5_run_48 rfl hl (by decide) rfl (fun lz hl => ?_)
      have L49 : ∀ (zz i : Nat), i ≤ p0.toNatClampNeg → p0.toNatClampNeg + 1 ≤ i + zz → ∀ (x2 : Int32) (f : Nat → Int32), x2 = xv_in v i → f = xv_it v i → ∀ (H : Heap) (locs : List Loc), va_P (dC, dI) vwCl [((mm 1), .inl (cI, 12, .inl xm_mk)), ((mm 0), .inr (5, [.ref (mm 1), .ref (mm 2), .ref (mm 3), .ref (mm 4), .int (nI (if z = 6 then 6 else z + 1)), .ref (mm 5), .int ty, .int 0, .int at0, .int fa, .ref (mm 6), .int ts, .ref (mm 7), .ref (mm 8), .ref (mm 9), .int fr])), ((mm 2), .inl (cI, 80, .inl f)), ((mm 4), .inl (cI, 480, .inl (mp_sv pv z v)))] H → va_D A [((mm 1), .inl (cI, 12, .inl xm_mk)), ((mm 0), .inr (5, [.ref (mm 1), .ref (mm 2), .ref (mm 3), .ref (mm 4), .int (nI (if z = 6 then 6 else z + 1)), .ref (mm 5), .int ty, .int 0, .int at0, .int fa, .ref (mm 6), .int ts, .ref (mm 7), .ref (mm 8), .ref (mm 9), .int fr])), ((mm 2), .inl (cI, 80, .inl f)), ((mm 4), .inl (cI, 480, .inl (mp_sv pv z v)))] → va_S A s.heap H locs → ∀ (lz : Array Slot), lv_has lz 4 [(0, .ref (mm 0)), (1, .int p0), (2, .int x2), (3, .int (nI i))] → W p l e (headSpec wsX5_run ({ frames := 3, cells := 0, slots := 0, locals := 72 } : Room)).room s m ([.ref (mm 0), .int p0] : List Value).toArray below meth c H locs 0 0 (MQ below (va_Qi (fun (r : Int32) (u : Int32 × Int32 × (Nat → Int32) × (Nat → Int32)) => r = (if xc_ru p0 (v 0) = 0 then xv_in v p0.toNatClampNeg else 0) ∧ u.1 = xc_ru p0 (v 0) ∧ u.2.1 = (if xc_ru p0 (v 0) = 0 then (nI (if z = 6 then 6 else z + 1)) else (nI z)) ∧ u.2.2.1 = (if xc_ru p0 (v 0) = 0 then (xv_it v p0.toNatClampNeg) else v) ∧ u.2.2.2 = (if xc_ru p0 (v 0) = 0 then (mp_sv pv z v) else pv)) (xm_B (dC, dI) (fun (u : Int32 × Int32 × (Nat → Int32) × (Nat → Int32)) => [((mm 0), .inr (5, [.ref (mm 1), .ref (mm 2), .ref (mm 3), .ref (mm 4), .int u.2.1, .ref (mm 5), .int ty, .int u.1, .int at0, .int fa, .ref (mm 6), .int ts, .ref (mm 7), .ref (mm 8), .ref (mm 9), .int fr])), ((mm 1), .inl (cI, 12, .inl xm_mk)), ((mm 2), .inl (cI, 80, .inl u.2.2.1)), ((mm 4), .inl (cI, 480, .inl u.2.2.2))]) A) A) ([.ref (mm 0), .int p0] : List Value).toArray s 0 0 A) (F0 m 49 lz []) := by
        intro zz
        induction zz with
        | zero => intro i hii hni; exact absurd hni (by omega)
        | succ zz ih49 =>
          intro i hii hni x2 f e_x2 e_f  H locs hP hD hS lz hl
          subst e_x2 e_f
          refine lv_iload_n hx hb dX5_run_49 rfl (lv_at hl 3 rfl) ?_
          refine lv_iload_n hx hb dX5_run_50 rfl (lv_at hl 1 rfl) ?_
          refine lv_icmp_ge (tgt := 67) hx hb dX5_run_51 (by decide) (fun q51 => ?_) (fun q51 => ?_)
          · have hNi : p0.toNatClampNeg = i := (xm_end (N := p0.toNatClampNeg) hii (by omega) (by rw [← hrn.1]; exact q51)).symm
            subst hNi
            refine lv_iload_n hx hb dX5_run_67 rfl (lv_at hl 2 rfl) ?_
            have hc9 : xc_ru p0 (v 0) = 0 := by simp only [xc_ru, if_pos q13b, if_pos q32, if_pos q51]
            have hP9 := hP.sub (ws' := [((mm 0), .inr (5, [.ref (mm 1), .ref (mm 2), .ref (mm 3), .ref (mm 4), .int (nI (if z = 6 then 6 else z + 1)), .ref (mm 5), .int ty, .int 0, .int at0, .int fa, .ref (mm 6), .int ts, .ref (mm 7), .ref (mm 8), .ref (mm 9), .int fr])), ((mm 1), .inl (cI, 12, .inl xm_mk)), ((mm 2), .inl (cI, 80, .inl (xv_it v p0.toNatClampNeg))), ((mm 4), .inl (cI, 480, .inl (mp_sv pv z v)))]) [1, 0, 2, 3] rfl
            have hD9 := hD.sub (ws' := [((mm 0), .inr (5, [.ref (mm 1), .ref (mm 2), .ref (mm 3), .ref (mm 4), .int (nI (if z = 6 then 6 else z + 1)), .ref (mm 5), .int ty, .int 0, .int at0, .int fa, .ref (mm 6), .int ts, .ref (mm 7), .ref (mm 8), .ref (mm 9), .int fr])), ((mm 1), .inl (cI, 12, .inl xm_mk)), ((mm 2), .inl (cI, 80, .inl (xv_it v p0.toNatClampNeg))), ((mm 4), .inl (cI, 480, .inl (mp_sv pv z v)))]) [1, 0, 2, 3] (by decide) rfl
            exact W.iret (v := (xv_in v p0.toNatClampNeg)) hx hb hr (fun t ht hW => ⟨⟨(xv_in v p0.toNatClampNeg), (0, (nI (if z = 6 then 6 else z + 1)), (xv_it v p0.toNatClampNeg), (mp_sv pv z v)), rfl, ⟨(if_pos hc9).symm, (hc9.symm), (if_pos hc9).symm, (if_pos hc9).symm, (if_pos hc9).symm⟩, by rw [ht]; exact hP9, hD9⟩, hS.F ht⟩) hS.2.2 dX5_run_68
          · have hlti : i < p0.toNatClampNeg := xm_lt (N := p0.toNatClampNeg) hii (by omega) (by rw [← hrn.1]; exact q51)
            refine lv_iload_n hx hb dX5_run_54 rfl (lv_at hl 2 rfl) ?_
            refine lv_aload_n hx hb dX5_run_55 rfl (lv_at hl 0 rfl) ?_
            have hPc := hP.sub (ws' := [((mm 0), .inr (5, [.ref (mm 1), .ref (mm 2), .ref (mm 3), .ref (mm 4), .int (nI (if z = 6 then 6 else z + 1)), .ref (mm 5), .int ty, .int 0, .int at0, .int fa, .ref (mm 6), .int ts, .ref (mm 7), .ref (mm 8), .ref (mm 9), .int fr])), ((mm 1), .inl (cI, 12, .inl xm_mk)), ((mm 2), .inl (cI, 80, .inl (xv_it v i)))]) [1, 0, 2] rfl
            have hDc := hD.sub (ws' := [((mm 0), .inr (5, [.ref (mm 1), .ref (mm 2), .ref (mm 3), .ref (mm 4), .int (nI (if z = 6 then 6 else z + 1)), .ref (mm 5), .int ty, .int 0, .int at0, .int fa, .ref (mm 6), .int ts, .ref (mm 7), .ref (mm 8), .ref (mm 9), .int fr])), ((mm 1), .inl (cI, 12, .inl xm_mk)), ((mm 2), .inl (cI, 80, .inl (xv_it v i)))]) [1, 0, 2] (by decide) rfl
            have hFc := va_free (wc := [((mm 0), .inr (5, [.ref (mm 1), .ref (mm 2), .ref (mm 3), .ref (mm 4), .int (nI (if z = 6 then 6 else z + 1)), .ref (mm 5), .int ty, .int 0, .int at0, .int fa, .ref (mm 6), .int ts, .ref (mm 7), .ref (mm 8), .ref (mm 9), .int fr])), ((mm 1), .inl (cI, 12, .inl xm_mk)), ((mm 2), .inl (cI, 80, .inl (xv_it v i)))]) hD hS hA [1, 0, 2] rfl
            refine va_calli (va_runV (As := []) (rest := [.int (xv_in v i)]) ⟨hx, hb, hml, hown, hts⟩ (c_X5_goes l dC dI cI cS cJ tt H.size mm (nI (if z = 6 then 6 else z + 1)) ty 0 at0 fa ts fr (xv_it v i)) (cwV 0 hts gX5_run_X5_goes rfl rfl rfl (by decide +kernel) ⟨Nat.le_of_ble_eq_true rfl, Nat.le_of_ble_eq_true rfl⟩) ⟨xm_Mblind, va_recv hK hPc (ci := 5) (q0 := 0) rfl rfl, fun U hU hW => ⟨rfl, by rw [hU], by rw [hU]; exact hPc, hE.go hS hFc hU hW, hDc.weaken (fun _ _ _ _ => trivial), (hpre.2 i (by omega))⟩⟩ rfl rfl hl.1 rfl (lv_room (Nat.le_of_ble_eq_true rfl)) dX5_run_56 ⟨Nat.zero_le _, Nat.zero_le _⟩) hS (fun q _ h => hFc q h) hFc (fun r u t H1 locs ht hvm hw hB hz1 hk1 hS => ?_)
            obtain ⟨u_5, rfl⟩ : ∃ z, z = u := ⟨_, rfl⟩
            obtain ⟨hP1, hD1⟩ := hB
            rw [ht] at hP1
            obtain ⟨hw_6, hw_7⟩ := hw
            have hw_6 : r = xv_sn (xv_it v i) := hw_6
            subst hw_6
            have hw_7 : u_5 = xv_slot (xv_it v i) := hw_7
            subst hw_7
            obtain ⟨hP, hD⟩ := va_join (wr := [((mm 4), .inl (cI, 480, .inl (mp_sv pv z v)))]) (w1 := [((mm 0), .inr (5, [.ref (mm 1), .ref (mm 2), .ref (mm 3), .ref (mm 4), .int (nI (if z = 6 then 6 else z + 1)), .ref (mm 5), .int ty, .int 0, .int at0, .int fa, .ref (mm 6), .int ts, .ref (mm 7), .ref (mm 8), .ref (mm 9), .int fr])), ((mm 1), .inl (cI, 12, .inl xm_mk)), ((mm 2), .inl (cI, 80, .inl (xv_slot (xv_it v i))))]) hP hD [1, 0, 2] [3] rfl rfl (by decide) (by decide) hk1 hFc hP1 hD1
            generalize H1 = H at hP hS ⊢
            have hP : va_P (dC, dI) vwCl [((mm 4), .inl (cI, 480, .inl (mp_sv pv z v))), ((mm 0), .inr (5, [.ref (mm 1), .ref (mm 2), .ref (mm 3), .ref (mm 4), .int (nI (if z = 6 then 6 else z + 1)), .ref (mm 5), .int ty, .int 0, .int at0, .int fa, .ref (mm 6), .int ts, .ref (mm 7), .ref (mm 8), .ref (mm 9), .int fr])), ((mm 1), .inl (cI, 12, .inl xm_mk)), ((mm 2), .inl (cI, 80, .inl (xv_slot (xv_it v i))))] H := hP
            have hD : va_D A [((mm 4), .inl (cI, 480, .inl (mp_sv pv z v))), ((mm 0), .inr (5, [.ref (mm 1), .ref (mm 2), .ref (mm 3), .ref (mm 4), .int (nI (if z = 6 then 6 else z + 1)), .ref (mm 5), .int ty, .int 0, .int at0, .int fa, .ref (mm 6), .int ts, .ref (mm 7), .ref (mm 8), .ref (mm 9), .int fr])), ((mm 1), .inl (cI, 12, .inl xm_mk)), ((mm 2), .inl (cI, 80, .inl (xv_slot (xv_it v i))))] := hD
            refine lv_iadd hx hb dX5_run_59 ?_
            refine lv_istore_n (lv' := [(2, .int ((xv_in v i) + (xv_sn (xv_it v i)))), (0, .ref (mm 0)), (1, .int p0), (3, .int (nI i))]) hx hb dX5_run_60 rfl hl (by decide) rfl (fun lz hl => ?_)
            refine lv_iinc (v := nI (i + 1)) (lv' := [(3, .int (nI (i + 1))), (2, .int ((xv_in v i) + (xv_sn (xv_it v i)))), (0, .ref (mm 0)), (1, .int p0)]) hx hb dX5_run_61 hl (k := 3) rfl (nI_1 i) (by decide) rfl (fun lz hl => ?_)
            refine lv_goto (tgt := 49) hx hb dX5_run_64 (by decide) ?_
            have hP := hP.sub (ws' := [((mm 1), .inl (cI, 12, .inl xm_mk)), ((mm 0), .inr (5, [.ref (mm 1), .ref (mm 2), .ref (mm 3), .ref (mm 4), .int (nI (if z = 6 then 6 else z + 1)), .ref (mm 5), .int ty, .int 0, .int at0, .int fa, .ref (mm 6), .int ts, .ref (mm 7), .ref (mm 8), .ref (mm 9), .int fr])), ((mm 2), .inl (cI, 80, .inl (xv_slot (xv_it v i)))), ((mm 4), .inl (cI, 480, .inl (mp_sv pv z v)))]) [2, 1, 3, 0] rfl
            have hD := hD.sub (ws' := [((mm 1), .inl (cI, 12, .inl xm_mk)), ((mm 0), .inr (5, [.ref (mm 1), .ref (mm 2), .ref (mm 3), .ref (mm 4), .int (nI (if z = 6 then 6 else z + 1)), .ref (mm 5), .int ty, .int 0, .int at0, .int fa, .ref (mm 6), .int ts, .ref (mm 7), .ref (mm 8), .ref (mm 9), .int fr])), ((mm 2), .inl (cI, 80, .inl (xv_slot (xv_it v i)))), ((mm 4), .inl (cI, 480, .inl (mp_sv pv z v)))]) [2, 1, 3, 0] (by decide) rfl
            exact ih49 (i + 1) hlti (by omega) ((xv_in v i) + (xv_sn (xv_it v i))) (xv_slot (xv_it v i)) rfl rfl  H locs hP hD hS lz (lv_sub hl [2, 3, 1, 0] rfl)
      exact L49 (p0.toNatClampNeg + 1) 0 (by omega) (by omega) 0 v rfl rfl  H locs hP hD hS lz (lv_sub hl [2, 3, 1, 0] rfl)
    · refine lv_aload_n hx hb dX5_run_35 rfl (lv_at hl 0 rfl) ?_
      refine lv_iconst (v := 2) hx hb dX5_run_36 (by decide) ?_
      have hPc := hP.sub (ws' := [((mm 0), .inr (5, [.ref (mm 1), .ref (mm 2), .ref (mm 3), .ref (mm 4), .int (nI z), .ref (mm 5), .int ty, .int 0, .int at0, .int fa, .ref (mm 6), .int ts, .ref (mm 7), .ref (mm 8), .ref (mm 9), .int fr]))]) [0] rfl
      have hDc := hD.sub (ws' := [((mm 0), .inr (5, [.ref (mm 1), .ref (mm 2), .ref (mm 3), .ref (mm 4), .int (nI z), .ref (mm 5), .int ty, .int 0, .int at0, .int fa, .ref (mm 6), .int ts, .ref (mm 7), .ref (mm 8), .ref (mm 9), .int fr]))]) [0] (by decide) rfl
      have hFc := va_free (wc := [((mm 0), .inr (5, [.ref (mm 1), .ref (mm 2), .ref (mm 3), .ref (mm 4), .int (nI z), .ref (mm 5), .int ty, .int 0, .int at0, .int fa, .ref (mm 6), .int ts, .ref (mm 7), .ref (mm 8), .ref (mm 9), .int fr]))]) hD hS hA [0] rfl
      refine va_calli (va_runV (As := [.int 2]) (rest := []) ⟨hx, hb, hml, hown, hts⟩ (c_X5_fails l dC dI cI cS cJ tt H.size mm (nI z) ty 0 at0 fa ts fr 2) (cwV 1 hts gX5_run_X5_fails rfl rfl rfl (by decide +kernel) ⟨Nat.le_of_ble_eq_true rfl, Nat.le_of_ble_eq_true rfl⟩) ⟨xm_Mblind, va_recv hK hPc (ci := 5) (q0 := 0) rfl rfl, fun U hU hW => ⟨rfl, by rw [hU], by rw [hU]; exact hPc, hE.go hS hFc hU hW, hDc.weaken (fun _ _ _ _ => trivial), trivial⟩⟩ rfl rfl hl.1 rfl (lv_room (Nat.le_of_ble_eq_true rfl)) dX5_run_37 ⟨Nat.zero_le _, Nat.zero_le _⟩) hS (fun q _ h => hFc q h) hFc (fun r u t H1 locs ht hvm hw hB hz1 hk1 hS => ?_)
      obtain ⟨u_8, rfl⟩ : ∃ z, z = u := ⟨_, rfl⟩
      obtain ⟨hP1, hD1⟩ := hB
      rw [ht] at hP1
      obtain ⟨hw_9, hw_10⟩ := hw
      have hw_9 : r = 0 := hw_9
      subst hw_9
      have hw_10 : u_8 = 2 := hw_10
      subst hw_10
      obtain ⟨hP, hD⟩ := va_join (wr := [((mm 1), .inl (cI, 12, .inl xm_mk)), ((mm 2), .inl (cI, 80, .inl v)), ((mm 4), .inl (cI, 480, .inl pv))]) (w1 := [((mm 0), .inr (5, [.ref (mm 1), .ref (mm 2), .ref (mm 3), .ref (mm 4), .int (nI z), .ref (mm 5), .int ty, .int 2, .int at0, .int fa, .ref (mm 6), .int ts, .ref (mm 7), .ref (mm 8), .ref (mm 9), .int fr]))]) hP hD [0] [1, 2, 3] rfl rfl (by decide) (by decide) hk1 hFc hP1 hD1
      generalize H1 = H at hP hS ⊢
      have hP : va_P (dC, dI) vwCl [((mm 1), .inl (cI, 12, .inl xm_mk)), ((mm 2), .inl (cI, 80, .inl v)), ((mm 4), .inl (cI, 480, .inl pv)), ((mm 0), .inr (5, [.ref (mm 1), .ref (mm 2), .ref (mm 3), .ref (mm 4), .int (nI z), .ref (mm 5), .int ty, .int 2, .int at0, .int fa, .ref (mm 6), .int ts, .ref (mm 7), .ref (mm 8), .ref (mm 9), .int fr]))] H := hP
      have hD : va_D A [((mm 1), .inl (cI, 12, .inl xm_mk)), ((mm 2), .inl (cI, 80, .inl v)), ((mm 4), .inl (cI, 480, .inl pv)), ((mm 0), .inr (5, [.ref (mm 1), .ref (mm 2), .ref (mm 3), .ref (mm 4), .int (nI z), .ref (mm 5), .int ty, .int 2, .int at0, .int fa, .ref (mm 6), .int ts, .ref (mm 7), .ref (mm 8), .ref (mm 9), .int fr]))] := hD
      have hc9 : xc_ru p0 (v 0) = 2 := by simp only [xc_ru, if_pos q13b, if_neg q32]
      have hn9 : ¬ xc_ru p0 (v 0) = 0 := by rw [hc9]; decide
      have hP9 := hP.sub (ws' := [((mm 0), .inr (5, [.ref (mm 1), .ref (mm 2), .ref (mm 3), .ref (mm 4), .int (nI z), .ref (mm 5), .int ty, .int 2, .int at0, .int fa, .ref (mm 6), .int ts, .ref (mm 7), .ref (mm 8), .ref (mm 9), .int fr])), ((mm 1), .inl (cI, 12, .inl xm_mk)), ((mm 2), .inl (cI, 80, .inl v)), ((mm 4), .inl (cI, 480, .inl pv))]) [3, 0, 1, 2] rfl
      have hD9 := hD.sub (ws' := [((mm 0), .inr (5, [.ref (mm 1), .ref (mm 2), .ref (mm 3), .ref (mm 4), .int (nI z), .ref (mm 5), .int ty, .int 2, .int at0, .int fa, .ref (mm 6), .int ts, .ref (mm 7), .ref (mm 8), .ref (mm 9), .int fr])), ((mm 1), .inl (cI, 12, .inl xm_mk)), ((mm 2), .inl (cI, 80, .inl v)), ((mm 4), .inl (cI, 480, .inl pv))]) [3, 0, 1, 2] (by decide) rfl
      exact W.iret (v := 0) hx hb hr (fun t ht hW => ⟨⟨0, (2, (nI z), v, pv), rfl, ⟨(if_neg hn9).symm, (hc9.symm), (if_neg hn9).symm, (if_neg hn9).symm, (if_neg hn9).symm⟩, by rw [ht]; exact hP9, hD9⟩, hS.F ht⟩) hS.2.2 dX5_run_40
  · have q13b : ¬ xt_rg p0 1 500 = 0 := xm_bF q13
    refine lv_aload_n hx hb dX5_run_16 rfl (lv_at hl 0 rfl) ?_
    refine lv_iconst (v := 1) hx hb dX5_run_17 (by decide) ?_
    have hPc := hP.sub (ws' := [((mm 0), .inr (5, [.ref (mm 1), .ref (mm 2), .ref (mm 3), .ref (mm 4), .int (nI z), .ref (mm 5), .int ty, .int 0, .int at0, .int fa, .ref (mm 6), .int ts, .ref (mm 7), .ref (mm 8), .ref (mm 9), .int fr]))]) [0] rfl
    have hDc := hD.sub (ws' := [((mm 0), .inr (5, [.ref (mm 1), .ref (mm 2), .ref (mm 3), .ref (mm 4), .int (nI z), .ref (mm 5), .int ty, .int 0, .int at0, .int fa, .ref (mm 6), .int ts, .ref (mm 7), .ref (mm 8), .ref (mm 9), .int fr]))]) [0] (by decide) rfl
    have hFc := va_free (wc := [((mm 0), .inr (5, [.ref (mm 1), .ref (mm 2), .ref (mm 3), .ref (mm 4), .int (nI z), .ref (mm 5), .int ty, .int 0, .int at0, .int fa, .ref (mm 6), .int ts, .ref (mm 7), .ref (mm 8), .ref (mm 9), .int fr]))]) hD hS hA [0] rfl
    refine va_calli (va_runV (As := [.int 1]) (rest := []) ⟨hx, hb, hml, hown, hts⟩ (c_X5_fails l dC dI cI cS cJ tt H.size mm (nI z) ty 0 at0 fa ts fr 1) (cwV 1 hts gX5_run_X5_fails rfl rfl rfl (by decide +kernel) ⟨Nat.le_of_ble_eq_true rfl, Nat.le_of_ble_eq_true rfl⟩) ⟨xm_Mblind, va_recv hK hPc (ci := 5) (q0 := 0) rfl rfl, fun U hU hW => ⟨rfl, by rw [hU], by rw [hU]; exact hPc, hE.go hS hFc hU hW, hDc.weaken (fun _ _ _ _ => trivial), trivial⟩⟩ rfl rfl hl.1 rfl (lv_room (Nat.le_of_ble_eq_true rfl)) dX5_run_18 ⟨Nat.zero_le _, Nat.zero_le _⟩) hS (fun q _ h => hFc q h) hFc (fun r u t H1 locs ht hvm hw hB hz1 hk1 hS => ?_)
    obtain ⟨u_11, rfl⟩ : ∃ z, z = u := ⟨_, rfl⟩
    obtain ⟨hP1, hD1⟩ := hB
    rw [ht] at hP1
    obtain ⟨hw_12, hw_13⟩ := hw
    have hw_12 : r = 0 := hw_12
    subst hw_12
    have hw_13 : u_11 = 1 := hw_13
    subst hw_13
    obtain ⟨hP, hD⟩ := va_join (wr := [((mm 1), .inl (cI, 12, .inl xm_mk)), ((mm 2), .inl (cI, 80, .inl v)), ((mm 4), .inl (cI, 480, .inl pv))]) (w1 := [((mm 0), .inr (5, [.ref (mm 1), .ref (mm 2), .ref (mm 3), .ref (mm 4), .int (nI z), .ref (mm 5), .int ty, .int 1, .int at0, .int fa, .ref (mm 6), .int ts, .ref (mm 7), .ref (mm 8), .ref (mm 9), .int fr]))]) hP hD [0] [1, 2, 3] rfl rfl (by decide) (by decide) hk1 hFc hP1 hD1
    generalize H1 = H at hP hS ⊢
    have hP : va_P (dC, dI) vwCl [((mm 1), .inl (cI, 12, .inl xm_mk)), ((mm 2), .inl (cI, 80, .inl v)), ((mm 4), .inl (cI, 480, .inl pv)), ((mm 0), .inr (5, [.ref (mm 1), .ref (mm 2), .ref (mm 3), .ref (mm 4), .int (nI z), .ref (mm 5), .int ty, .int 1, .int at0, .int fa, .ref (mm 6), .int ts, .ref (mm 7), .ref (mm 8), .ref (mm 9), .int fr]))] H := hP
    have hD : va_D A [((mm 1), .inl (cI, 12, .inl xm_mk)), ((mm 2), .inl (cI, 80, .inl v)), ((mm 4), .inl (cI, 480, .inl pv)), ((mm 0), .inr (5, [.ref (mm 1), .ref (mm 2), .ref (mm 3), .ref (mm 4), .int (nI z), .ref (mm 5), .int ty, .int 1, .int at0, .int fa, .ref (mm 6), .int ts, .ref (mm 7), .ref (mm 8), .ref (mm 9), .int fr]))] := hD
    have hc9 : xc_ru p0 (v 0) = 1 := by simp only [xc_ru, if_neg q13b]
    have hn9 : ¬ xc_ru p0 (v 0) = 0 := by rw [hc9]; decide
    have hP9 := hP.sub (ws' := [((mm 0), .inr (5, [.ref (mm 1), .ref (mm 2), .ref (mm 3), .ref (mm 4), .int (nI z), .ref (mm 5), .int ty, .int 1, .int at0, .int fa, .ref (mm 6), .int ts, .ref (mm 7), .ref (mm 8), .ref (mm 9), .int fr])), ((mm 1), .inl (cI, 12, .inl xm_mk)), ((mm 2), .inl (cI, 80, .inl v)), ((mm 4), .inl (cI, 480, .inl pv))]) [3, 0, 1, 2] rfl
    have hD9 := hD.sub (ws' := [((mm 0), .inr (5, [.ref (mm 1), .ref (mm 2), .ref (mm 3), .ref (mm 4), .int (nI z), .ref (mm 5), .int ty, .int 1, .int at0, .int fa, .ref (mm 6), .int ts, .ref (mm 7), .ref (mm 8), .ref (mm 9), .int fr])), ((mm 1), .inl (cI, 12, .inl xm_mk)), ((mm 2), .inl (cI, 80, .inl v)), ((mm 4), .inl (cI, 480, .inl pv))]) [3, 0, 1, 2] (by decide) rfl
    exact W.iret (v := 0) hx hb hr (fun t ht hW => ⟨⟨0, (1, (nI z), v, pv), rfl, ⟨(if_neg hn9).symm, (hc9.symm), (if_neg hn9).symm, (if_neg hn9).symm, (if_neg hn9).symm⟩, by rw [ht]; exact hP9, hD9⟩, hS.F ht⟩) hS.2.2 dX5_run_21

