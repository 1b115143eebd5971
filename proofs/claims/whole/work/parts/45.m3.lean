set_option maxHeartbeats 4000000 in
set_option maxRecDepth 100000 in
theorem c_X5_byLevel (l : Launch) (dC : Nat → ClassId) (dI : Nat → Nat → Nat) (cI cS cJ : ClassId) (tt : Nat → Nat) (sz : Nat) (mm : Nat → Nat) (kp : Int32) (ty : Int32) (th : Int32) (at0 : Int32) (fa : Int32) (ts : Int32) (fr : Int32) (v : Nat → Int32) (w9 : Nat → Int32) (ow : Nat → Int32) (li : Nat → Int32) (cr : Nat → Int32) (n : Nat) (d : Nat) (lev : Int32) (w0 : Nat) : Met l yX5_byLevel wsX5_byLevel ({ frames := 4, cells := 0, slots := 0, locals := 94 } : Room) (va_Pc [.ref (mm 0), .int (nI d), .int lev, .int (nI w0)] (xm_M (dC, dI) cI cS cJ tt [((mm 0), .inr (5, [.ref (mm 1), .ref (mm 2), .ref (mm 3), .ref (mm 4), .int kp, .ref (mm 5), .int ty, .int th, .int at0, .int fa, .ref (mm 6), .int ts, .ref (mm 7), .ref (mm 8), .ref (mm 9), .int fr])), ((mm 2), .inl (cI, 80, .inl v)), ((mm 3), .inl (cI, 80, .inl w9)), ((mm 7), .inl (cI, 96, .inl ow)), ((mm 8), .inl (cI, 96, .inl li)), ((mm 9), .inl (cI, 6, .inl cr))] sz ((vo_f v n ∧ d < 6) ∧ w0 ≤ 2))) (va_Qi (fun (r : Int32) (u : Int32 × (Nat → Int32) × (Nat → Int32) × (Nat → Int32) × (Nat → Int32)) => r = if_tr v n d lev w0) (xm_B (dC, dI) (fun (u : Int32 × (Nat → Int32) × (Nat → Int32) × (Nat → Int32) × (Nat → Int32)) => [((mm 0), .inr (5, [.ref (mm 1), .ref (mm 2), .ref (mm 3), .ref (mm 4), .int kp, .ref (mm 5), .int ty, .int th, .int at0, .int fa, .ref (mm 6), .int ts, .ref (mm 7), .ref (mm 8), .ref (mm 9), .int u.1])), ((mm 2), .inl (cI, 80, .inl v)), ((mm 3), .inl (cI, 80, .inl u.2.1)), ((mm 7), .inl (cI, 96, .inl u.2.2.1)), ((mm 8), .inl (cI, 96, .inl u.2.2.2.1)), ((mm 9), .inl (cI, 6, .inl u.2.2.2.2))]) (va_A [((mm 0), .inr (5, [.ref (mm 1), .ref (mm 2), .ref (mm 3), .ref (mm 4), .int kp, .ref (mm 5), .int ty, .int th, .int at0, .int fa, .ref (mm 6), .int ts, .ref (mm 7), .ref (mm 8), .ref (mm 9), .int fr])), ((mm 2), .inl (cI, 80, .inl v)), ((mm 3), .inl (cI, 80, .inl w9)), ((mm 7), .inl (cI, 96, .inl ow)), ((mm 8), .inl (cI, 96, .inl li)), ((mm 9), .inl (cI, 6, .inl cr))] sz)) (va_A [((mm 0), .inr (5, [.ref (mm 1), .ref (mm 2), .ref (mm 3), .ref (mm 4), .int kp, .ref (mm 5), .int ty, .int th, .int at0, .int fa, .ref (mm 6), .int ts, .ref (mm 7), .ref (mm 8), .ref (mm 9), .int fr])), ((mm 2), .inl (cI, 80, .inl v)), ((mm 3), .inl (cI, 80, .inl w9)), ((mm 7), .inl (cI, 96, .inl ow)), ((mm 8), .inl (cI, 96, .inl li)), ((mm 9), .inl (cI, 6, .inl cr))] sz)) 0 0 (va_A [((mm 0), .inr (5, [.ref (mm 1), .ref (mm 2), .ref (mm 3), .ref (mm 4), .int kp, .ref (mm 5), .int ty, .int th, .int at0, .int fa, .ref (mm 6), .int ts, .ref (mm 7), .ref (mm 8), .ref (mm 9), .int fr])), ((mm 2), .inl (cI, 80, .inl v)), ((mm 3), .inl (cI, 80, .inl w9)), ((mm 7), .inl (cI, 96, .inl ow)), ((mm 8), .inl (cI, 96, .inl li)), ((mm 9), .inl (cI, 6, .inl cr))] sz) := by
  refine Met.ofW (cc := cX5_byLevel) (maxL := 4) (ret := (some .int)) (by decide) rfl ?_
  intro p e s m args below meth c s₁ B hml hv
  obtain ⟨rfl, hsz, hP, hE, hD0, hpre⟩ := hv
  have hx := B.exec
  have hb := B.bytes
  have hr := B.returns
  have hts := atoms_spec (ws := wsX5_byLevel) B.pre
  have hown : s.vm.findClass RX5 = some m.cls := findClass_of_methodNamed B.named
  have hlocks := B.notSynchronized
  have hK := hE.1
  subst hsz
  have hD := hD0.self (sz := s.heap.size)
  generalize hAe : va_A [((mm 0), .inr (5, [.ref (mm 1), .ref (mm 2), .ref (mm 3), .ref (mm 4), .int kp, .ref (mm 5), .int ty, .int th, .int at0, .int fa, .ref (mm 6), .int ts, .ref (mm 7), .ref (mm 8), .ref (mm 9), .int fr])), ((mm 2), .inl (cI, 80, .inl v)), ((mm 3), .inl (cI, 80, .inl w9)), ((mm 7), .inl (cI, 96, .inl ow)), ((mm 8), .inl (cI, 96, .inl li)), ((mm 9), .inl (cI, 6, .inl cr))] s.heap.size = A at hD hE ⊢
  have hA : ∀ q : Nat, s.heap.size ≤ q → A q := fun q h => by rw [← hAe]; exact Or.inr h
  have hS : va_S A s.heap s.heap [] := va_S.rf
  have hP : va_P (dC, dI) vwCl [((mm 0), .inr (5, [.ref (mm 1), .ref (mm 2), .ref (mm 3), .ref (mm 4), .int kp, .ref (mm 5), .int ty, .int th, .int at0, .int fa, .ref (mm 6), .int ts, .ref (mm 7), .ref (mm 8), .ref (mm 9), .int fr])), ((mm 2), .inl (cI, 80, .inl v)), ((mm 3), .inl (cI, 80, .inl w9)), ((mm 7), .inl (cI, 96, .inl ow)), ((mm 8), .inl (cI, 96, .inl li)), ((mm 9), .inl (cI, 6, .inl cr))] s.heap := hP
  have hin5 : ∀ w ∈ u_ws RX5 TX5 16, w ∈ wsX5_byLevel := by decide +kernel
  have hl := lv_entry [.ref (mm 0), .int (nI d), .int lev, .int (nI w0)] (n := 4) (Nat.le_of_ble_eq_true rfl)
  rw [lg_entry_eq]
  generalize (lg_sl [.ref (mm 0), .int (nI d), .int lev, .int (nI w0)] ++ List.replicate (4 - (lg_sl [.ref (mm 0), .int (nI d), .int lev, .int (nI w0)]).length) Slot.unset).toArray = lz at hl ⊢
  have hl : lv_has lz 4 [(0, .ref (mm 0)), (1, .int (nI d)), (2, .int lev), (3, .int (nI w0))] := hl
  obtain ⟨⟨hvo, hd6⟩, hw2⟩ := hpre
  refine lv_aload_n hx hb dX5_byLevel_0 rfl (lv_at hl 0 rfl) ?_
  refine lv_iload_n hx hb dX5_byLevel_1 rfl (lv_at hl 1 rfl) ?_
  refine lv_iload_n hx hb dX5_byLevel_2 rfl (lv_at hl 2 rfl) ?_
  have hPc := hP.sub (ws' := [((mm 0), .inr (5, [.ref (mm 1), .ref (mm 2), .ref (mm 3), .ref (mm 4), .int kp, .ref (mm 5), .int ty, .int th, .int at0, .int fa, .ref (mm 6), .int ts, .ref (mm 7), .ref (mm 8), .ref (mm 9), .int fr])), ((mm 2), .inl (cI, 80, .inl v)), ((mm 3), .inl (cI, 80, .inl w9)), ((mm 7), .inl (cI, 96, .inl ow)), ((mm 8), .inl (cI, 96, .inl li)), ((mm 9), .inl (cI, 6, .inl cr))]) [0, 1, 2, 3, 4, 5] rfl
  have hDc := hD.sub (ws' := [((mm 0), .inr (5, [.ref (mm 1), .ref (mm 2), .ref (mm 3), .ref (mm 4), .int kp, .ref (mm 5), .int ty, .int th, .int at0, .int fa, .ref (mm 6), .int ts, .ref (mm 7), .ref (mm 8), .ref (mm 9), .int fr])), ((mm 2), .inl (cI, 80, .inl v)), ((mm 3), .inl (cI, 80, .inl w9)), ((mm 7), .inl (cI, 96, .inl ow)), ((mm 8), .inl (cI, 96, .inl li)), ((mm 9), .inl (cI, 6, .inl cr))]) [0, 1, 2, 3, 4, 5] (by decide) rfl
  have hFc := va_free (wc := [((mm 0), .inr (5, [.ref (mm 1), .ref (mm 2), .ref (mm 3), .ref (mm 4), .int kp, .ref (mm 5), .int ty, .int th, .int at0, .int fa, .ref (mm 6), .int ts, .ref (mm 7), .ref (mm 8), .ref (mm 9), .int fr])), ((mm 2), .inl (cI, 80, .inl v)), ((mm 3), .inl (cI, 80, .inl w9)), ((mm 7), .inl (cI, 96, .inl ow)), ((mm 8), .inl (cI, 96, .inl li)), ((mm 9), .inl (cI, 6, .inl cr))]) hD hS hA [0, 1, 2, 3, 4, 5] rfl
  refine va_callv (va_runV (As := [.int (nI d), .int lev]) (rest := []) ⟨hx, hb, hml, hown, hts⟩ (c_X5_tries l dC dI cI cS cJ tt s.heap.size mm kp ty th at0 fa ts fr v w9 ow li cr n d lev) (cwV 2 hts gX5_byLevel_X5_tries rfl rfl rfl (by decide +kernel) ⟨Nat.le_of_ble_eq_true rfl, Nat.le_of_ble_eq_true rfl⟩) ⟨xm_Mblind, va_recv hK hPc (ci := 5) (q0 := 0) rfl rfl, fun U hU hW => ⟨rfl, by rw [hU], by rw [hU]; exact hPc, hE.go hS hFc hU hW, hDc.weaken (fun _ _ _ _ => trivial), ⟨hvo, hd6⟩⟩⟩ rfl rfl hl.1 rfl (lv_room (Nat.le_of_ble_eq_true rfl)) dX5_byLevel_3 ⟨Nat.zero_le _, Nat.zero_le _⟩) hS (fun q _ h => hFc q h) hFc (fun u t H1 locs ht hvm hw hB hz1 hk1 hS => ?_)
  obtain ⟨u_1, u_2, u_3, u_4, u_5⟩ := u
  obtain ⟨hP1, hD1⟩ := hB
  rw [ht] at hP1
  obtain ⟨hw_6, hw_7, hw_8⟩ := hw
  have hw_6 : u_1 = nI n := hw_6
  subst hw_6
  have hw_7 : u_2 = th_v v d lev := hw_7
  subst hw_7
  have hw_8 : u_4 = fm_fl (if_li v d lev) li n := hw_8
  subst hw_8
  obtain ⟨hP, hD⟩ := va_join (wr := []) (w1 := [((mm 0), .inr (5, [.ref (mm 1), .ref (mm 2), .ref (mm 3), .ref (mm 4), .int kp, .ref (mm 5), .int ty, .int th, .int at0, .int fa, .ref (mm 6), .int ts, .ref (mm 7), .ref (mm 8), .ref (mm 9), .int (nI n)])), ((mm 2), .inl (cI, 80, .inl v)), ((mm 3), .inl (cI, 80, .inl (th_v v d lev))), ((mm 7), .inl (cI, 96, .inl u_3)), ((mm 8), .inl (cI, 96, .inl (fm_fl (if_li v d lev) li n))), ((mm 9), .inl (cI, 6, .inl u_5))]) hP hD [0, 1, 2, 3, 4, 5] [] rfl rfl (by decide) (by decide) hk1 hFc hP1 hD1
  generalize H1 = H at hP hS ⊢
  have hP : va_P (dC, dI) vwCl [((mm 0), .inr (5, [.ref (mm 1), .ref (mm 2), .ref (mm 3), .ref (mm 4), .int kp, .ref (mm 5), .int ty, .int th, .int at0, .int fa, .ref (mm 6), .int ts, .ref (mm 7), .ref (mm 8), .ref (mm 9), .int (nI n)])), ((mm 2), .inl (cI, 80, .inl v)), ((mm 3), .inl (cI, 80, .inl (th_v v d lev))), ((mm 7), .inl (cI, 96, .inl u_3)), ((mm 8), .inl (cI, 96, .inl (fm_fl (if_li v d lev) li n))), ((mm 9), .inl (cI, 6, .inl u_5))] H := hP
  have hD : va_D A [((mm 0), .inr (5, [.ref (mm 1), .ref (mm 2), .ref (mm 3), .ref (mm 4), .int kp, .ref (mm 5), .int ty, .int th, .int at0, .int fa, .ref (mm 6), .int ts, .ref (mm 7), .ref (mm 8), .ref (mm 9), .int (nI n)])), ((mm 2), .inl (cI, 80, .inl v)), ((mm 3), .inl (cI, 80, .inl (th_v v d lev))), ((mm 7), .inl (cI, 96, .inl u_3)), ((mm 8), .inl (cI, 96, .inl (fm_fl (if_li v d lev) li n))), ((mm 9), .inl (cI, 6, .inl u_5))] := hD
  rcases (show w0 = 0 ∨ w0 = 1 ∨ w0 = 2 from (by omega)) with rfl | rfl | rfl
  · refine lv_iload_n hx hb dX5_byLevel_6 rfl (lv_at hl 3 rfl) ?_
    refine lv_if_ne (tgt := 18) hx hb dX5_byLevel_7 (by decide) (fun q9 => absurd (by decide) q9) (fun q9 => ?_)
    refine lv_aload_n hx hb dX5_byLevel_10 rfl (lv_at hl 0 rfl) ?_
    refine lv_iload_n hx hb dX5_byLevel_11 rfl (lv_at hl 1 rfl) ?_
    have hPc := hP.sub (ws' := [((mm 0), .inr (5, [.ref (mm 1), .ref (mm 2), .ref (mm 3), .ref (mm 4), .int kp, .ref (mm 5), .int ty, .int th, .int at0, .int fa, .ref (mm 6), .int ts, .ref (mm 7), .ref (mm 8), .ref (mm 9), .int (nI n)])), ((mm 8), .inl (cI, 96, .inl (fm_fl (if_li v d lev) li n)))]) [0, 4] rfl
    refine W.callV ((va_runV (As := [.int (nI d)]) (rest := []) ⟨hx, hb, hml, hown, hts⟩ (c_X5_light l dC dI cI cS cJ tt mm kp ty th at0 fa ts (if_li v d lev) li n d) (cwV 1 hts gX5_byLevel_X5_light rfl rfl rfl (by decide +kernel) ⟨Nat.le_of_ble_eq_true rfl, Nat.le_of_ble_eq_true rfl⟩) ⟨xm_Rblind, va_recv hK hPc (ci := 5) (q0 := 0) rfl rfl, fun U hU hW => ⟨rfl, by rw [hU]; exact hPc, hE.go hS (fun _ q => q.elim) hU hW, ⟨by have := hvo.2.1; omega, hvo.2.2.1⟩⟩⟩ rfl rfl hl.1 rfl (lv_room (Nat.le_of_ble_eq_true rfl)) dX5_byLevel_12 ⟨Nat.zero_le _, Nat.zero_le _⟩).run) ?_
    refine W.eq (g2 := F0 m 15 lz (.int (fm_light (nI n) (fr_ls (if_li v d lev) n d)) :: [])) rfl ?_
    refine lv_goto (tgt := 36) hx hb dX5_byLevel_15 (by decide) ?_
    have hP9 : va_P (dC, dI) vwCl [((mm 0), .inr (5, [.ref (mm 1), .ref (mm 2), .ref (mm 3), .ref (mm 4), .int kp, .ref (mm 5), .int ty, .int th, .int at0, .int fa, .ref (mm 6), .int ts, .ref (mm 7), .ref (mm 8), .ref (mm 9), .int (nI n)])), ((mm 2), .inl (cI, 80, .inl v)), ((mm 3), .inl (cI, 80, .inl (th_v v d lev))), ((mm 7), .inl (cI, 96, .inl u_3)), ((mm 8), .inl (cI, 96, .inl (fm_fl (if_li v d lev) li n))), ((mm 9), .inl (cI, 6, .inl u_5))] H := hP
    have hD9 : va_D A [((mm 0), .inr (5, [.ref (mm 1), .ref (mm 2), .ref (mm 3), .ref (mm 4), .int kp, .ref (mm 5), .int ty, .int th, .int at0, .int fa, .ref (mm 6), .int ts, .ref (mm 7), .ref (mm 8), .ref (mm 9), .int (nI n)])), ((mm 2), .inl (cI, 80, .inl v)), ((mm 3), .inl (cI, 80, .inl (th_v v d lev))), ((mm 7), .inl (cI, 96, .inl u_3)), ((mm 8), .inl (cI, 96, .inl (fm_fl (if_li v d lev) li n))), ((mm 9), .inl (cI, 6, .inl u_5))] := hD
    exact W.iret (v := fm_light (nI n) (fr_ls (if_li v d lev) n d)) hx hb hr (fun t ht hW => ⟨⟨fm_light (nI n) (fr_ls (if_li v d lev) n d), ((nI n), (th_v v d lev), u_3, (fm_fl (if_li v d lev) li n), u_5), rfl, (by show _ = fm_light (v 2) _; rw [hvo.1]), by rw [ht]; exact hP9, hD9⟩, hS.F ht⟩) hS.2.2 dX5_byLevel_36
  · refine lv_iload_n hx hb dX5_byLevel_6 rfl (lv_at hl 3 rfl) ?_
    refine lv_if_ne (tgt := 18) hx hb dX5_byLevel_7 (by decide) (fun q9 => ?_) (fun q9 => absurd q9 (by decide))
    refine lv_aload_n hx hb dX5_byLevel_18 rfl (lv_at hl 0 rfl) ?_
    refine lv_aload_n hx hb dX5_byLevel_19 rfl (lv_at hl 0 rfl) ?_
    refine va_get (D := (dC, dI)) (ci := 5) (v := .ref (mm 3)) (C := RX5) (T := TX5) (N := 16) hx hb hts hin5 hown hK hP 0 rfl rfl 2 (by decide) (hts (.fieldLink RX5 16 "TurnDigitsModel" "then" "[I") (by decide +kernel)) (fun _ h9 => h9) rfl dX5_byLevel_20 ?_
    refine lv_iload_n hx hb dX5_byLevel_23 rfl (lv_at hl 3 rfl) ?_
    refine lv_iconst (v := 1) hx hb dX5_byLevel_24 (by decide) ?_
    refine lv_icmp_ne (tgt := 32) hx hb dX5_byLevel_25 (by decide) (fun q9 => absurd (by decide) q9) (fun q9 => ?_)
    refine lv_iconst (v := 5) hx hb dX5_byLevel_28 (by decide) ?_
    refine lv_goto (tgt := 33) hx hb dX5_byLevel_29 (by decide) ?_
    have hPc := hP.sub (ws' := [((mm 0), .inr (5, [.ref (mm 1), .ref (mm 2), .ref (mm 3), .ref (mm 4), .int kp, .ref (mm 5), .int ty, .int th, .int at0, .int fa, .ref (mm 6), .int ts, .ref (mm 7), .ref (mm 8), .ref (mm 9), .int (nI n)])), ((mm 8), .inl (cI, 96, .inl (fm_fl (if_li v d lev) li n))), ((mm 3), .inl (cI, 80, .inl (th_v v d lev)))]) [0, 4, 2] rfl
    refine W.callV ((va_runV (As := [.ref (mm 3), .int 5]) (rest := []) ⟨hx, hb, hml, hown, hts⟩ (c_X5_those_s l dC dI cI cS cJ tt mm kp ty th at0 fa ts (if_li v d lev) li n (mm 3) (th_v v d lev)) (cwV 2 hts gX5_byLevel_X5_those rfl rfl rfl (by decide +kernel) ⟨Nat.le_of_ble_eq_true rfl, Nat.le_of_ble_eq_true rfl⟩) ⟨xm_Rblind, va_recv hK hPc (ci := 5) (q0 := 0) rfl rfl, fun U hU hW => ⟨rfl, by rw [hU]; exact hPc, hE.go hS (fun _ q => q.elim) hU hW, ⟨⟨by have := hvo.2.1; omega, hvo.2.2.1⟩, (th_ok hvo).1⟩⟩⟩ rfl rfl hl.1 rfl (lv_room (Nat.le_of_ble_eq_true rfl)) dX5_byLevel_33 ⟨Nat.zero_le _, Nat.zero_le _⟩).run) ?_
    refine W.eq (g2 := F0 m 36 lz (.int (fm_cntF (fun j => lk_see (fr_gp (if_li v d lev) n) (fr_ls (if_li v d lev) n) ((th_v v d lev) 2) ((th_v v d lev) 4) ((th_v v d lev) 5 * (th_v v d lev) 1) j) (fun _ => 0) 6) :: [])) rfl ?_
    have hP9 : va_P (dC, dI) vwCl [((mm 0), .inr (5, [.ref (mm 1), .ref (mm 2), .ref (mm 3), .ref (mm 4), .int kp, .ref (mm 5), .int ty, .int th, .int at0, .int fa, .ref (mm 6), .int ts, .ref (mm 7), .ref (mm 8), .ref (mm 9), .int (nI n)])), ((mm 2), .inl (cI, 80, .inl v)), ((mm 3), .inl (cI, 80, .inl (th_v v d lev))), ((mm 7), .inl (cI, 96, .inl u_3)), ((mm 8), .inl (cI, 96, .inl (fm_fl (if_li v d lev) li n))), ((mm 9), .inl (cI, 6, .inl u_5))] H := hP
    have hD9 : va_D A [((mm 0), .inr (5, [.ref (mm 1), .ref (mm 2), .ref (mm 3), .ref (mm 4), .int kp, .ref (mm 5), .int ty, .int th, .int at0, .int fa, .ref (mm 6), .int ts, .ref (mm 7), .ref (mm 8), .ref (mm 9), .int (nI n)])), ((mm 2), .inl (cI, 80, .inl v)), ((mm 3), .inl (cI, 80, .inl (th_v v d lev))), ((mm 7), .inl (cI, 96, .inl u_3)), ((mm 8), .inl (cI, 96, .inl (fm_fl (if_li v d lev) li n))), ((mm 9), .inl (cI, 6, .inl u_5))] := hD
    exact W.iret (v := fm_cntF (fun j => lk_see (fr_gp (if_li v d lev) n) (fr_ls (if_li v d lev) n) ((th_v v d lev) 2) ((th_v v d lev) 4) ((th_v v d lev) 5 * (th_v v d lev) 1) j) (fun _ => 0) 6) hx hb hr (fun t ht hW => ⟨⟨fm_cntF (fun j => lk_see (fr_gp (if_li v d lev) n) (fr_ls (if_li v d lev) n) ((th_v v d lev) 2) ((th_v v d lev) 4) ((th_v v d lev) 5 * (th_v v d lev) 1) j) (fun _ => 0) 6, ((nI n), (th_v v d lev), u_3, (fm_fl (if_li v d lev) li n), u_5), rfl, (by show fm_cntF (fun j => lk_see (fr_gp (if_li v d lev) n) (fr_ls (if_li v d lev) n) (th_v v d lev 2) (th_v v d lev 4) (th_v v d lev 5 * th_v v d lev 1) j) (fun _ => 0) 6 = _; simp only [th_see]; rfl), by rw [ht]; exact hP9, hD9⟩, hS.F ht⟩) hS.2.2 dX5_byLevel_36
  · refine lv_iload_n hx hb dX5_byLevel_6 rfl (lv_at hl 3 rfl) ?_
    refine lv_if_ne (tgt := 18) hx hb dX5_byLevel_7 (by decide) (fun q9 => ?_) (fun q9 => absurd q9 (by decide))
    refine lv_aload_n hx hb dX5_byLevel_18 rfl (lv_at hl 0 rfl) ?_
    refine lv_aload_n hx hb dX5_byLevel_19 rfl (lv_at hl 0 rfl) ?_
    refine va_get (D := (dC, dI)) (ci := 5) (v := .ref (mm 3)) (C := RX5) (T := TX5) (N := 16) hx hb hts hin5 hown hK hP 0 rfl rfl 2 (by decide) (hts (.fieldLink RX5 16 "TurnDigitsModel" "then" "[I") (by decide +kernel)) (fun _ h9 => h9) rfl dX5_byLevel_20 ?_
    refine lv_iload_n hx hb dX5_byLevel_23 rfl (lv_at hl 3 rfl) ?_
    refine lv_iconst (v := 1) hx hb dX5_byLevel_24 (by decide) ?_
    refine lv_icmp_ne (tgt := 32) hx hb dX5_byLevel_25 (by decide) (fun q9 => ?_) (fun q9 => absurd q9 (by decide))
    refine lv_iconst (v := 4) hx hb dX5_byLevel_32 (by decide) ?_
    have hPc := hP.sub (ws' := [((mm 0), .inr (5, [.ref (mm 1), .ref (mm 2), .ref (mm 3), .ref (mm 4), .int kp, .ref (mm 5), .int ty, .int th, .int at0, .int fa, .ref (mm 6), .int ts, .ref (mm 7), .ref (mm 8), .ref (mm 9), .int (nI n)])), ((mm 8), .inl (cI, 96, .inl (fm_fl (if_li v d lev) li n))), ((mm 3), .inl (cI, 80, .inl (th_v v d lev)))]) [0, 4, 2] rfl
    refine W.callV ((va_runV (As := [.ref (mm 3), .int 4]) (rest := []) ⟨hx, hb, hml, hown, hts⟩ (c_X5_those_f l dC dI cI cS cJ tt mm kp ty th at0 fa ts (if_li v d lev) li n (mm 3) (th_v v d lev)) (cwV 2 hts gX5_byLevel_X5_those rfl rfl rfl (by decide +kernel) ⟨Nat.le_of_ble_eq_true rfl, Nat.le_of_ble_eq_true rfl⟩) ⟨xm_Rblind, va_recv hK hPc (ci := 5) (q0 := 0) rfl rfl, fun U hU hW => ⟨rfl, by rw [hU]; exact hPc, hE.go hS (fun _ q => q.elim) hU hW, ⟨by have := hvo.2.1; omega, hvo.2.2.1⟩⟩⟩ rfl rfl hl.1 rfl (lv_room (Nat.le_of_ble_eq_true rfl)) dX5_byLevel_33 ⟨Nat.zero_le _, Nat.zero_le _⟩).run) ?_
    refine W.eq (g2 := F0 m 36 lz (.int (fm_cntF (fun j => fm_flk ((fr_ls (if_li v d lev) n) j) ((fr_gp (if_li v d lev) n) j) ((th_v v d lev) 4)) (fun _ => 0) 6) :: [])) rfl ?_
    have hP9 : va_P (dC, dI) vwCl [((mm 0), .inr (5, [.ref (mm 1), .ref (mm 2), .ref (mm 3), .ref (mm 4), .int kp, .ref (mm 5), .int ty, .int th, .int at0, .int fa, .ref (mm 6), .int ts, .ref (mm 7), .ref (mm 8), .ref (mm 9), .int (nI n)])), ((mm 2), .inl (cI, 80, .inl v)), ((mm 3), .inl (cI, 80, .inl (th_v v d lev))), ((mm 7), .inl (cI, 96, .inl u_3)), ((mm 8), .inl (cI, 96, .inl (fm_fl (if_li v d lev) li n))), ((mm 9), .inl (cI, 6, .inl u_5))] H := hP
    have hD9 : va_D A [((mm 0), .inr (5, [.ref (mm 1), .ref (mm 2), .ref (mm 3), .ref (mm 4), .int kp, .ref (mm 5), .int ty, .int th, .int at0, .int fa, .ref (mm 6), .int ts, .ref (mm 7), .ref (mm 8), .ref (mm 9), .int (nI n)])), ((mm 2), .inl (cI, 80, .inl v)), ((mm 3), .inl (cI, 80, .inl (th_v v d lev))), ((mm 7), .inl (cI, 96, .inl u_3)), ((mm 8), .inl (cI, 96, .inl (fm_fl (if_li v d lev) li n))), ((mm 9), .inl (cI, 6, .inl u_5))] := hD
    exact W.iret (v := fm_cntF (fun j => fm_flk ((fr_ls (if_li v d lev) n) j) ((fr_gp (if_li v d lev) n) j) ((th_v v d lev) 4)) (fun _ => 0) 6) hx hb hr (fun t ht hW => ⟨⟨fm_cntF (fun j => fm_flk ((fr_ls (if_li v d lev) n) j) ((fr_gp (if_li v d lev) n) j) ((th_v v d lev) 4)) (fun _ => 0) 6, ((nI n), (th_v v d lev), u_3, (fm_fl (if_li v d lev) li n), u_5), rfl, (by show fm_cntF (fun j => fm_flk (fr_ls (if_li v d lev) n j) (fr_gp (if_li v d lev) n j) (th_v v d lev 4)) (fun _ => 0) 6 = _; rw [th_lo (by decide)]; rfl), by rw [ht]; exact hP9, hD9⟩, hS.F ht⟩) hS.2.2 dX5_byLevel_36

set_option maxHeartbeats 4000000 in
set_option maxRecDepth 100000 in
theorem c_X5_least (l : Launch) (dC : Nat → ClassId) (dI : Nat → Nat → Nat) (cI cS cJ : ClassId) (tt : Nat → Nat) (sz : Nat) (mm : Nat → Nat) (kp : Int32) (ty : Int32) (th : Int32) (at0 : Int32) (fa : Int32) (ts : Int32) (fr : Int32) (v : Nat → Int32) (w9 : Nat → Int32) (ow : Nat → Int32) (li : Nat → Int32) (cr : Nat → Int32) (n : Nat) (d : Nat) : Met l yX5_least wsX5_least ({ frames := 4, cells := 0, slots := 0, locals := 91 } : Room) (va_Pc [.ref (mm 0), .int (nI d)] (xm_M (dC, dI) cI cS cJ tt [((mm 0), .inr (5, [.ref (mm 1), .ref (mm 2), .ref (mm 3), .ref (mm 4), .int kp, .ref (mm 5), .int ty, .int th, .int at0, .int fa, .ref (mm 6), .int ts, .ref (mm 7), .ref (mm 8), .ref (mm 9), .int fr])), ((mm 2), .inl (cI, 80, .inl v)), ((mm 3), .inl (cI, 80, .inl w9)), ((mm 7), .inl (cI, 96, .inl ow)), ((mm 8), .inl (cI, 96, .inl li)), ((mm 9), .inl (cI, 6, .inl cr))] sz (vo_f v n ∧ d < 6))) (va_Qi (fun (r : Int32) (u : Int32 × (Nat → Int32) × (Nat → Int32) × (Nat → Int32) × (Nat → Int32)) => r = ls_to v n d 16 0) (xm_B (dC, dI) (fun (u : Int32 × (Nat → Int32) × (Nat → Int32) × (Nat → Int32) × (Nat → Int32)) => [((mm 0), .inr (5, [.ref (mm 1), .ref (mm 2), .ref (mm 3), .ref (mm 4), .int kp, .ref (mm 5), .int ty, .int th, .int at0, .int fa, .ref (mm 6), .int ts, .ref (mm 7), .ref (mm 8), .ref (mm 9), .int u.1])), ((mm 2), .inl (cI, 80, .inl v)), ((mm 3), .inl (cI, 80, .inl u.2.1)), ((mm 7), .inl (cI, 96, .inl u.2.2.1)), ((mm 8), .inl (cI, 96, .inl u.2.2.2.1)), ((mm 9), .inl (cI, 6, .inl u.2.2.2.2))]) (va_A [((mm 0), .inr (5, [.ref (mm 1), .ref (mm 2), .ref (mm 3), .ref (mm 4), .int kp, .ref (mm 5), .int ty, .int th, .int at0, .int fa, .ref (mm 6), .int ts, .ref (mm 7), .ref (mm 8), .ref (mm 9), .int fr])), ((mm 2), .inl (cI, 80, .inl v)), ((mm 3), .inl (cI, 80, .inl w9)), ((mm 7), .inl (cI, 96, .inl ow)), ((mm 8), .inl (cI, 96, .inl li)), ((mm 9), .inl (cI, 6, .inl cr))] sz)) (va_A [((mm 0), .inr (5, [.ref (mm 1), .ref (mm 2), .ref (mm 3), .ref (mm 4), .int kp, .ref (mm 5), .int ty, .int th, .int at0, .int fa, .ref (mm 6), .int ts, .ref (mm 7), .ref (mm 8), .ref (mm 9), .int fr])), ((mm 2), .inl (cI, 80, .inl v)), ((mm 3), .inl (cI, 80, .inl w9)), ((mm 7), .inl (cI, 96, .inl ow)), ((mm 8), .inl (cI, 96, .inl li)), ((mm 9), .inl (cI, 6, .inl cr))] sz)) 0 0 (va_A [((mm 0), .inr (5, [.ref (mm 1), .ref (mm 2), .ref (mm 3), .ref (mm 4), .int kp, .ref (mm 5), .int ty, .int th, .int at0, .int fa, .ref (mm 6), .int ts, .ref (mm 7), .ref (mm 8), .ref (mm 9), .int fr])), ((mm 2), .inl (cI, 80, .inl v)), ((mm 3), .inl (cI, 80, .inl w9)), ((mm 7), .inl (cI, 96, .inl ow)), ((mm 8), .inl (cI, 96, .inl li)), ((mm 9), .inl (cI, 6, .inl cr))] sz) := by
  refine Met.ofW (cc := cX5_least) (maxL := 3) (ret := (some .int)) (by decide) rfl ?_
  intro p e s m args below meth c s₁ B hml hv
  obtain ⟨rfl, hsz, hP, hE, hD0, hpre⟩ := hv
  have hx := B.exec
  have hb := B.bytes
  have hr := B.returns
  have hts := atoms_spec (ws := wsX5_least) B.pre
  have hown : s.vm.findClass RX5 = some m.cls := findClass_of_methodNamed B.named
  have hlocks := B.notSynchronized
  have hK := hE.1
  subst hsz
  have hD := hD0.self (sz := s.heap.size)
  generalize hAe : va_A [((mm 0), .inr (5, [.ref (mm 1), .ref (mm 2), .ref (mm 3), .ref (mm 4), .int kp, .ref (mm 5), .int ty, .int th, .int at0, .int fa, .ref (mm 6), .int ts, .ref (mm 7), .ref (mm 8), .ref (mm 9), .int fr])), ((mm 2), .inl (cI, 80, .inl v)), ((mm 3), .inl (cI, 80, .inl w9)), ((mm 7), .inl (cI, 96, .inl ow)), ((mm 8), .inl (cI, 96, .inl li)), ((mm 9), .inl (cI, 6, .inl cr))] s.heap.size = A at hD hE ⊢
  have hA : ∀ q : Nat, s.heap.size ≤ q → A q := fun q h => by rw [← hAe]; exact Or.inr h
  have hS : va_S A s.heap s.heap [] := va_S.rf
  have hP : va_P (dC, dI) vwCl [((mm 0), .inr (5, [.ref (mm 1), .ref (mm 2), .ref (mm 3), .ref (mm 4), .int kp, .ref (mm 5), .int ty, .int th, .int at0, .int fa, .ref (mm 6), .int ts, .ref (mm 7), .ref (mm 8), .ref (mm 9), .int fr])), ((mm 2), .inl (cI, 80, .inl v)), ((mm 3), .inl (cI, 80, .inl w9)), ((mm 7), .inl (cI, 96, .inl ow)), ((mm 8), .inl (cI, 96, .inl li)), ((mm 9), .inl (cI, 6, .inl cr))] s.heap := hP
  have hin5 : ∀ w ∈ u_ws RX5 TX5 16, w ∈ wsX5_least := by decide +kernel
  have hl := lv_entry [.ref (mm 0), .int (nI d)] (n := 3) (Nat.le_of_ble_eq_true rfl)
  rw [lg_entry_eq]
  generalize (lg_sl [.ref (mm 0), .int (nI d)] ++ List.replicate (3 - (lg_sl [.ref (mm 0), .int (nI d)]).length) Slot.unset).toArray = lz at hl ⊢
  have hl : lv_has lz 3 [(0, .ref (mm 0)), (1, .int (nI d))] := hl
  obtain ⟨hvo, hd6⟩ := hpre
  refine lv_iconst (v := 0) hx hb dX5_least_0 (by decide) ?_
  refine lv_istore_n (lv' := [(2, .int 0), (0, .ref (mm 0)), (1, .int (nI d))]) hx hb dX5_least_1 rfl hl (by decide) rfl (fun lz hl => ?_)
  have L2 : ∀ (zz i : Nat), i ≤ 16 → 16 + 1 ≤ i + zz → ∀ (f3 : Nat → Int32) (f7 : Nat → Int32) (f8 : Nat → Int32) (f9 : Nat → Int32) (fr0 : Int32), (ls_to v n d (16 - i) i = ls_to v n d 16 0) → ∀ (H : Heap) (locs : List Loc), va_P (dC, dI) vwCl [((mm 0), .inr (5, [.ref (mm 1), .ref (mm 2), .ref (mm 3), .ref (mm 4), .int kp, .ref (mm 5), .int ty, .int th, .int at0, .int fa, .ref (mm 6), .int ts, .ref (mm 7), .ref (mm 8), .ref (mm 9), .int fr0])), ((mm 2), .inl (cI, 80, .inl v)), ((mm 3), .inl (cI, 80, .inl f3)), ((mm 7), .inl (cI, 96, .inl f7)), ((mm 8), .inl (cI, 96, .inl f8)), ((mm 9), .inl (cI, 6, .inl f9))] H → va_D A [((mm 0), .inr (5, [.ref (mm 1), .ref (mm 2), .ref (mm 3), .ref (mm 4), .int kp, .ref (mm 5), .int ty, .int th, .int at0, .int fa, .ref (mm 6), .int ts, .ref (mm 7), .ref (mm 8), .ref (mm 9), .int fr0])), ((mm 2), .inl (cI, 80, .inl v)), ((mm 3), .inl (cI, 80, .inl f3)), ((mm 7), .inl (cI, 96, .inl f7)), ((mm 8), .inl (cI, 96, .inl f8)), ((mm 9), .inl (cI, 6, .inl f9))] → va_S A s.heap H locs → ∀ (lz : Array Slot), lv_has lz 3 [(0, .ref (mm 0)), (1, .int (nI d)), (2, .int (nI i))] → W p l e (headSpec wsX5_least ({ frames := 4, cells := 0, slots := 0, locals := 91 } : Room)).room s m ([.ref (mm 0), .int (nI d)] : List Value).toArray below meth c H locs 0 0 (MQ below (va_Qi (fun (r : Int32) (u : Int32 × (Nat → Int32) × (Nat → Int32) × (Nat → Int32) × (Nat → Int32)) => r = ls_to v n d 16 0) (xm_B (dC, dI) (fun (u : Int32 × (Nat → Int32) × (Nat → Int32) × (Nat → Int32) × (Nat → Int32)) => [((mm 0), .inr (5, [.ref (mm 1), .ref (mm 2), .ref (mm 3), .ref (mm 4), .int kp, .ref (mm 5), .int ty, .int th, .int at0, .int fa, .ref (mm 6), .int ts, .ref (mm 7), .ref (mm 8), .ref (mm 9), .int u.1])), ((mm 2), .inl (cI, 80, .inl v)), ((mm 3), .inl (cI, 80, .inl u.2.1)), ((mm 7), .inl (cI, 96, .inl u.2.2.1)), ((mm 8), .inl (cI, 96, .inl u.2.2.2.1)), ((mm 9), .inl (cI, 6, .inl u.2.2.2.2))]) A) A) ([.ref (mm 0), .int (nI d)] : List Value).toArray s 0 0 A) (F0 m 2 lz []) := by
    intro zz
    induction zz with
    | zero => intro i hii hni; exact absurd hni (by omega)
    | succ zz ih2 =>
      intro i hii hni f3 f7 f8 f9 fr0  hst H locs hP hD hS lz hl
      refine lv_iload_n hx hb dX5_least_2 rfl (lv_at hl 2 rfl) ?_
      refine lv_bipush (v := 15) hx hb dX5_least_3 (by decide) ?_
      refine lv_icmp_gt (tgt := 34) hx hb dX5_least_5 (by decide) (fun q5 => ?_) (fun q5 => ?_)
      · have hNi : 16 = i := by have h := (nI_ltI (a := 15) (b := i) (by decide) (by omega)).mp q5; omega
        subst hNi
        refine lv_iconst (v := (-1)) hx hb dX5_least_34 (by decide) ?_
        have hP9 : va_P (dC, dI) vwCl [((mm 0), .inr (5, [.ref (mm 1), .ref (mm 2), .ref (mm 3), .ref (mm 4), .int kp, .ref (mm 5), .int ty, .int th, .int at0, .int fa, .ref (mm 6), .int ts, .ref (mm 7), .ref (mm 8), .ref (mm 9), .int fr0])), ((mm 2), .inl (cI, 80, .inl v)), ((mm 3), .inl (cI, 80, .inl f3)), ((mm 7), .inl (cI, 96, .inl f7)), ((mm 8), .inl (cI, 96, .inl f8)), ((mm 9), .inl (cI, 6, .inl f9))] H := hP
        have hD9 : va_D A [((mm 0), .inr (5, [.ref (mm 1), .ref (mm 2), .ref (mm 3), .ref (mm 4), .int kp, .ref (mm 5), .int ty, .int th, .int at0, .int fa, .ref (mm 6), .int ts, .ref (mm 7), .ref (mm 8), .ref (mm 9), .int fr0])), ((mm 2), .inl (cI, 80, .inl v)), ((mm 3), .inl (cI, 80, .inl f3)), ((mm 7), .inl (cI, 96, .inl f7)), ((mm 8), .inl (cI, 96, .inl f8)), ((mm 9), .inl (cI, 6, .inl f9))] := hD
        exact W.iret (v := (-1)) hx hb hr (fun t ht hW => ⟨⟨(-1), (fr0, f3, f7, f8, f9), rfl, (by rw [← hst, Nat.sub_self]; rfl), by rw [ht]; exact hP9, hD9⟩, hS.F ht⟩) hS.2.2 dX5_least_35
      · have hlti : i < 16 := by have h := (not_congr (nI_ltI (a := 15) (b := i) (by decide) (by omega))).mp q5; omega
        refine lv_aload_n hx hb dX5_least_8 rfl (lv_at hl 0 rfl) ?_
        refine lv_iload_n hx hb dX5_least_9 rfl (lv_at hl 1 rfl) ?_
        refine lv_iload_n hx hb dX5_least_10 rfl (lv_at hl 2 rfl) ?_
        have hPc := hP.sub (ws' := [((mm 0), .inr (5, [.ref (mm 1), .ref (mm 2), .ref (mm 3), .ref (mm 4), .int kp, .ref (mm 5), .int ty, .int th, .int at0, .int fa, .ref (mm 6), .int ts, .ref (mm 7), .ref (mm 8), .ref (mm 9), .int fr0])), ((mm 2), .inl (cI, 80, .inl v)), ((mm 3), .inl (cI, 80, .inl f3)), ((mm 7), .inl (cI, 96, .inl f7)), ((mm 8), .inl (cI, 96, .inl f8)), ((mm 9), .inl (cI, 6, .inl f9))]) [0, 1, 2, 3, 4, 5] rfl
        have hDc := hD.sub (ws' := [((mm 0), .inr (5, [.ref (mm 1), .ref (mm 2), .ref (mm 3), .ref (mm 4), .int kp, .ref (mm 5), .int ty, .int th, .int at0, .int fa, .ref (mm 6), .int ts, .ref (mm 7), .ref (mm 8), .ref (mm 9), .int fr0])), ((mm 2), .inl (cI, 80, .inl v)), ((mm 3), .inl (cI, 80, .inl f3)), ((mm 7), .inl (cI, 96, .inl f7)), ((mm 8), .inl (cI, 96, .inl f8)), ((mm 9), .inl (cI, 6, .inl f9))]) [0, 1, 2, 3, 4, 5] (by decide) rfl
        have hFc := va_free (wc := [((mm 0), .inr (5, [.ref (mm 1), .ref (mm 2), .ref (mm 3), .ref (mm 4), .int kp, .ref (mm 5), .int ty, .int th, .int at0, .int fa, .ref (mm 6), .int ts, .ref (mm 7), .ref (mm 8), .ref (mm 9), .int fr0])), ((mm 2), .inl (cI, 80, .inl v)), ((mm 3), .inl (cI, 80, .inl f3)), ((mm 7), .inl (cI, 96, .inl f7)), ((mm 8), .inl (cI, 96, .inl f8)), ((mm 9), .inl (cI, 6, .inl f9))]) hD hS hA [0, 1, 2, 3, 4, 5] rfl
        refine va_callv (va_runV (As := [.int (nI d), .int (nI i)]) (rest := []) ⟨hx, hb, hml, hown, hts⟩ (c_X5_tries l dC dI cI cS cJ tt H.size mm kp ty th at0 fa ts fr0 v f3 f7 f8 f9 n d (nI i)) (cwV 2 hts gX5_least_X5_tries rfl rfl rfl (by decide +kernel) ⟨Nat.le_of_ble_eq_true rfl, Nat.le_of_ble_eq_true rfl⟩) ⟨xm_Mblind, va_recv hK hPc (ci := 5) (q0 := 0) rfl rfl, fun U hU hW => ⟨rfl, by rw [hU], by rw [hU]; exact hPc, hE.go hS hFc hU hW, hDc.weaken (fun _ _ _ _ => trivial), ⟨hvo, hd6⟩⟩⟩ rfl rfl hl.1 rfl (lv_room (Nat.le_of_ble_eq_true rfl)) dX5_least_11 ⟨Nat.zero_le _, Nat.zero_le _⟩) hS (fun q _ h => hFc q h) hFc (fun u t H1 locs ht hvm hw hB hz1 hk1 hS => ?_)
        obtain ⟨u_1, u_2, u_3, u_4, u_5⟩ := u
        obtain ⟨hP1, hD1⟩ := hB
        rw [ht] at hP1
        obtain ⟨hw_6, hw_7, hw_8⟩ := hw
        have hw_6 : u_1 = nI n := hw_6
        subst hw_6
        have hw_7 : u_2 = th_v v d (nI i) := hw_7
        subst hw_7
        have hw_8 : u_4 = fm_fl (if_li v d (nI i)) f8 n := hw_8
        subst hw_8
        obtain ⟨hP, hD⟩ := va_join (wr := []) (w1 := [((mm 0), .inr (5, [.ref (mm 1), .ref (mm 2), .ref (mm 3), .ref (mm 4), .int kp, .ref (mm 5), .int ty, .int th, .int at0, .int fa, .ref (mm 6), .int ts, .ref (mm 7), .ref (mm 8), .ref (mm 9), .int (nI n)])), ((mm 2), .inl (cI, 80, .inl v)), ((mm 3), .inl (cI, 80, .inl (th_v v d (nI i)))), ((mm 7), .inl (cI, 96, .inl u_3)), ((mm 8), .inl (cI, 96, .inl (fm_fl (if_li v d (nI i)) f8 n))), ((mm 9), .inl (cI, 6, .inl u_5))]) hP hD [0, 1, 2, 3, 4, 5] [] rfl rfl (by decide) (by decide) hk1 hFc hP1 hD1
        generalize H1 = H at hP hS ⊢
        have hP : va_P (dC, dI) vwCl [((mm 0), .inr (5, [.ref (mm 1), .ref (mm 2), .ref (mm 3), .ref (mm 4), .int kp, .ref (mm 5), .int ty, .int th, .int at0, .int fa, .ref (mm 6), .int ts, .ref (mm 7), .ref (mm 8), .ref (mm 9), .int (nI n)])), ((mm 2), .inl (cI, 80, .inl v)), ((mm 3), .inl (cI, 80, .inl (th_v v d (nI i)))), ((mm 7), .inl (cI, 96, .inl u_3)), ((mm 8), .inl (cI, 96, .inl (fm_fl (if_li v d (nI i)) f8 n))), ((mm 9), .inl (cI, 6, .inl u_5))] H := hP
        have hD : va_D A [((mm 0), .inr (5, [.ref (mm 1), .ref (mm 2), .ref (mm 3), .ref (mm 4), .int kp, .ref (mm 5), .int ty, .int th, .int at0, .int fa, .ref (mm 6), .int ts, .ref (mm 7), .ref (mm 8), .ref (mm 9), .int (nI n)])), ((mm 2), .inl (cI, 80, .inl v)), ((mm 3), .inl (cI, 80, .inl (th_v v d (nI i)))), ((mm 7), .inl (cI, 96, .inl u_3)), ((mm 8), .inl (cI, 96, .inl (fm_fl (if_li v d (nI i)) f8 n))), ((mm 9), .inl (cI, 6, .inl u_5))] := hD
        refine lv_aload_n hx hb dX5_least_14 rfl (lv_at hl 0 rfl) ?_
        refine lv_aload_n hx hb dX5_least_15 rfl (lv_at hl 0 rfl) ?_
        refine va_get (D := (dC, dI)) (ci := 5) (v := .ref (mm 3)) (C := RX5) (T := TX5) (N := 16) hx hb hts hin5 hown hK hP 0 rfl rfl 2 (by decide) (hts (.fieldLink RX5 16 "TurnDigitsModel" "then" "[I") (by decide +kernel)) (fun _ h9 => h9) rfl dX5_least_16 ?_
        refine lv_iload_n hx hb dX5_least_19 rfl (lv_at hl 1 rfl) ?_
        have hPc := hP.sub (ws' := [((mm 0), .inr (5, [.ref (mm 1), .ref (mm 2), .ref (mm 3), .ref (mm 4), .int kp, .ref (mm 5), .int ty, .int th, .int at0, .int fa, .ref (mm 6), .int ts, .ref (mm 7), .ref (mm 8), .ref (mm 9), .int (nI n)])), ((mm 8), .inl (cI, 96, .inl (fm_fl (if_li v d (nI i)) f8 n))), ((mm 3), .inl (cI, 80, .inl (th_v v d (nI i))))]) [0, 4, 2] rfl
        refine W.callV ((va_runV (As := [.ref (mm 3), .int (nI d)]) (rest := []) ⟨hx, hb, hml, hown, hts⟩ (c_X5_isSeen l dC dI cI cS cJ tt mm kp ty th at0 fa ts (if_li v d (nI i)) f8 n (mm 3) (th_v v d (nI i)) d) (cwV 2 hts gX5_least_X5_isSeen rfl rfl rfl (by decide +kernel) ⟨Nat.le_of_ble_eq_true rfl, Nat.le_of_ble_eq_true rfl⟩) ⟨xm_Rblind, va_recv hK hPc (ci := 5) (q0 := 0) rfl rfl, fun U hU hW => ⟨rfl, by rw [hU]; exact hPc, hE.go hS (fun _ q => q.elim) hU hW, ⟨⟨by have := hvo.2.1; omega, hvo.2.2.1⟩, (th_ok hvo).1⟩⟩⟩ rfl rfl hl.1 rfl (lv_room (Nat.le_of_ble_eq_true rfl)) dX5_least_20 ⟨Nat.zero_le _, Nat.zero_le _⟩).run) ?_
        refine W.eq (g2 := F0 m 23 lz (.int (lk_see (fr_gp (if_li v d (nI i)) n) (fr_ls (if_li v d (nI i)) n) ((th_v v d (nI i)) 2) ((th_v v d (nI i)) 4) ((th_v v d (nI i)) 5 * (th_v v d (nI i)) 1) d) :: [])) rfl ?_
        refine xm_topi (y := (if_see v n d (nI i) d)) th_see ?_
        refine lv_if_eq (tgt := 28) hx hb dX5_least_23 (by decide) (fun q23 => ?_) (fun q23 => ?_)
        · refine lv_iinc (v := nI (i + 1)) (lv' := [(2, .int (nI (i + 1))), (0, .ref (mm 0)), (1, .int (nI d))]) hx hb dX5_least_28 hl (k := 2) rfl (nI_1 i) (by decide) rfl (fun lz hl => ?_)
          refine lv_goto (tgt := 2) hx hb dX5_least_31 (by decide) ?_
          exact ih2 (i + 1) hlti (by omega) (th_v v d (nI i)) u_3 (fm_fl (if_li v d (nI i)) f8 n) u_5 (nI n)      (by rw [← hst, ls_to_s hlti, if_pos q23]) H locs hP hD hS lz (lv_sub hl [1, 2, 0] rfl)
        · refine lv_iload_n hx hb dX5_least_26 rfl (lv_at hl 2 rfl) ?_
          have hP9 : va_P (dC, dI) vwCl [((mm 0), .inr (5, [.ref (mm 1), .ref (mm 2), .ref (mm 3), .ref (mm 4), .int kp, .ref (mm 5), .int ty, .int th, .int at0, .int fa, .ref (mm 6), .int ts, .ref (mm 7), .ref (mm 8), .ref (mm 9), .int (nI n)])), ((mm 2), .inl (cI, 80, .inl v)), ((mm 3), .inl (cI, 80, .inl (th_v v d (nI i)))), ((mm 7), .inl (cI, 96, .inl u_3)), ((mm 8), .inl (cI, 96, .inl (fm_fl (if_li v d (nI i)) f8 n))), ((mm 9), .inl (cI, 6, .inl u_5))] H := hP
          have hD9 : va_D A [((mm 0), .inr (5, [.ref (mm 1), .ref (mm 2), .ref (mm 3), .ref (mm 4), .int kp, .ref (mm 5), .int ty, .int th, .int at0, .int fa, .ref (mm 6), .int ts, .ref (mm 7), .ref (mm 8), .ref (mm 9), .int (nI n)])), ((mm 2), .inl (cI, 80, .inl v)), ((mm 3), .inl (cI, 80, .inl (th_v v d (nI i)))), ((mm 7), .inl (cI, 96, .inl u_3)), ((mm 8), .inl (cI, 96, .inl (fm_fl (if_li v d (nI i)) f8 n))), ((mm 9), .inl (cI, 6, .inl u_5))] := hD
          exact W.iret (v := nI i) hx hb hr (fun t ht hW => ⟨⟨nI i, ((nI n), (th_v v d (nI i)), u_3, (fm_fl (if_li v d (nI i)) f8 n), u_5), rfl, (by rw [← hst, ls_to_s hlti, if_neg q23]), by rw [ht]; exact hP9, hD9⟩, hS.F ht⟩) hS.2.2 dX5_least_27
  exact L2 (16 + 1) 0 (by omega) (by omega) w9 ow li cr fr      rfl s.heap [] hP hD hS lz (lv_sub hl [1, 2, 0] rfl)

set_option maxHeartbeats 4000000 in
set_option maxRecDepth 100000 in
theorem c_X5_alike (l : Launch) (dC : Nat → ClassId) (dI : Nat → Nat → Nat) (cI cS cJ : ClassId) (tt : Nat → Nat) (mm : Nat → Nat) (kp : Int32) (ty : Int32) (th : Int32) (at0 : Int32) (fa : Int32) (ts : Int32) (fr : Int32) (v : Nat → Int32) (d : Nat) : Met l yX5_alike wsX5_alike ({ frames := 1, cells := 0, slots := 0, locals := 22 } : Room) (va_Pc [.ref (mm 0), .int (nI d)] (xm_R (dC, dI) cI cS cJ tt [((mm 0), .inr (5, [.ref (mm 1), .ref (mm 2), .ref (mm 3), .ref (mm 4), .int kp, .ref (mm 5), .int ty, .int th, .int at0, .int fa, .ref (mm 6), .int ts, .ref (mm 7), .ref (mm 8), .ref (mm 9), .int fr])), ((mm 1), .inl (cI, 12, .inl xm_mk)), ((mm 2), .inl (cI, 80, .inl v))] (d < 6))) (k2_QcV (.int (ap_to (v (20 + d) ^^^ (-1)) 12))) 0 0 (fun _ => False) := by
  refine Met.ofW (cc := cX5_alike) (maxL := 5) (ret := (some .int)) (by decide) rfl ?_
  intro p e s m args below meth c s₁ B hml hv
  obtain ⟨rfl, hP, hE, hpre⟩ := hv
  have hx := B.exec
  have hb := B.bytes
  have hr := B.returns
  have hts := atoms_spec (ws := wsX5_alike) B.pre
  have hown : s.vm.findClass RX5 = some m.cls := findClass_of_methodNamed B.named
  have hlocks := B.notSynchronized
  have hK := hE.1
  have hS : va_S (fun _ => False) s.heap s.heap [] := va_S.rf
  have hP : va_P (dC, dI) vwCl [((mm 0), .inr (5, [.ref (mm 1), .ref (mm 2), .ref (mm 3), .ref (mm 4), .int kp, .ref (mm 5), .int ty, .int th, .int at0, .int fa, .ref (mm 6), .int ts, .ref (mm 7), .ref (mm 8), .ref (mm 9), .int fr])), ((mm 1), .inl (cI, 12, .inl xm_mk)), ((mm 2), .inl (cI, 80, .inl v))] s.heap := hP
  have hl := lv_entry [.ref (mm 0), .int (nI d)] (n := 5) (Nat.le_of_ble_eq_true rfl)
  rw [lg_entry_eq]
  generalize (lg_sl [.ref (mm 0), .int (nI d)] ++ List.replicate (5 - (lg_sl [.ref (mm 0), .int (nI d)]).length) Slot.unset).toArray = lz at hl ⊢
  have hl : lv_has lz 5 [(0, .ref (mm 0)), (1, .int (nI d))] := hl
  refine lv_iconst (v := 0) hx hb dX5_alike_0 (by decide) ?_
  refine lv_istore_n (lv' := [(2, .int 0), (0, .ref (mm 0)), (1, .int (nI d))]) hx hb dX5_alike_1 rfl hl (by decide) rfl (fun lz hl => ?_)
  refine lv_iconst (v := 0) hx hb dX5_alike_2 (by decide) ?_
  refine lv_istore_n (lv' := [(3, .int 0), (2, .int 0), (0, .ref (mm 0)), (1, .int (nI d))]) hx hb dX5_alike_3 rfl hl (by decide) rfl (fun lz hl => ?_)
  have L4 : ∀ (zz i : Nat), i ≤ 12 → 12 + 1 ≤ i + zz → ∀ (x2 : Int32), x2 = ap_to (v (20 + d) ^^^ (-1)) i → ∀ (lz : Array Slot), lv_has lz 5 [(0, .ref (mm 0)), (1, .int (nI d)), (2, .int x2), (3, .int (nI i))] → W p l e (headSpec wsX5_alike ({ frames := 1, cells := 0, slots := 0, locals := 22 } : Room)).room s m ([.ref (mm 0), .int (nI d)] : List Value).toArray below meth c s.heap [] 0 0 (MQ below (k2_QcV (.int (ap_to (v (20 + d) ^^^ (-1)) 12))) ([.ref (mm 0), .int (nI d)] : List Value).toArray s 0 0 (fun _ => False)) (F0 m 4 lz []) := by
    intro zz
    induction zz with
    | zero => intro i hii hni; exact absurd hni (by omega)
    | succ zz ih4 =>
      intro i hii hni x2 e_x2  lz hl
      subst e_x2
      refine lv_iload_n hx hb dX5_alike_4 rfl (lv_at hl 3 rfl) ?_
      refine lv_bipush (v := 12) hx hb dX5_alike_5 (by decide) ?_
      refine lv_icmp_ge (tgt := 58) hx hb dX5_alike_7 (by decide) (fun q7 => ?_) (fun q7 => ?_)
      · have hNi : 12 = i := (xm_end (N := 12) hii (by decide) q7).symm
        subst hNi
        refine lv_iload_n hx hb dX5_alike_58 rfl (lv_at hl 2 rfl) ?_
        exact W.iret (v := (ap_to (v (20 + d) ^^^ (-1)) 12)) hx hb hr (fun t ht hW => ⟨congrArg (fun z => Outcome.returned (some (Value.int z))) (rfl), ht⟩) hS.2.2 dX5_alike_59
      · have hlti : i < 12 := xm_lt (N := 12) hii (by decide) q7
        refine lv_iload_n hx hb dX5_alike_10 rfl (lv_at hl 3 rfl) ?_
        refine lv_iconst (v := 1) hx hb dX5_alike_11 (by decide) ?_
        refine lv_iadd hx hb dX5_alike_12 ?_
        refine xm_topi (y := (nI (i + 1 + 0))) (nI_1 i) ?_
        refine lv_istore (lv' := [(4, .int (nI (i + 1 + 0))), (0, .ref (mm 0)), (1, .int (nI d)), (2, .int (ap_to (v (20 + d) ^^^ (-1)) i)), (3, .int (nI i))]) hx hb dX5_alike_13 hl (by decide) rfl (fun lz hl => ?_)
        have L15 : ∀ (zz j : Nat), j ≤ (11 - i) → (11 - i) + 1 ≤ j + zz → ∀ (x2 : Int32), x2 = ap_in (v (20 + d) ^^^ (-1)) i (ap_to (v (20 + d) ^^^ (-1)) i) j → ∀ (lz : Array Slot), lv_has lz 5 [(0, .ref (mm 0)), (1, .int (nI d)), (2, .int x2), (3, .int (nI i)), (4, .int (nI (i + 1 + j)))] → W p l e (headSpec wsX5_alike ({ frames := 1, cells := 0, slots := 0, locals := 22 } : Room)).room s m ([.ref (mm 0), .int (nI d)] : List Value).toArray below meth c s.heap [] 0 0 (MQ below (k2_QcV (.int (ap_to (v (20 + d) ^^^ (-1)) 12))) ([.ref (mm 0), .int (nI d)] : List Value).toArray s 0 0 (fun _ => False)) (F0 m 15 lz []) := by
          intro zz
          induction zz with
          | zero => intro j hij hnj; exact absurd hnj (by omega)
          | succ zz ih15 =>
            intro j hij hnj x2 e_x2  lz hl
            subst e_x2
            refine lv_iload hx hb dX5_alike_15 (lv_at hl 4 rfl) ?_
            refine lv_bipush (v := 12) hx hb dX5_alike_17 (by decide) ?_
            refine lv_icmp_ge (tgt := 52) hx hb dX5_alike_19 (by decide) (fun q19 => ?_) (fun q19 => ?_)
            · have hNj : 11 - i = j := by have h := xm_end (N := 12) (i := i + 1 + j) (by omega) (by decide) q19; omega
              subst hNj
              refine lv_iinc (v := nI (i + 1)) (lv' := [(3, .int (nI (i + 1))), (0, .ref (mm 0)), (1, .int (nI d)), (2, .int (ap_in (v (20 + d) ^^^ (-1)) i (ap_to (v (20 + d) ^^^ (-1)) i) (11 - i))), (4, .int (nI (i + 1 + (11 - i))))]) hx hb dX5_alike_52 hl (k := 3) rfl (nI_1 i) (by decide) rfl (fun lz hl => ?_)
              refine lv_goto (tgt := 4) hx hb dX5_alike_55 (by decide) ?_
              exact ih4 (i + 1) hlti (by omega) (ap_in (v (20 + d) ^^^ (-1)) i (ap_to (v (20 + d) ^^^ (-1)) i) (11 - i)) rfl  lz (lv_sub hl [1, 2, 3, 0] rfl)
            · have hltj : j < 11 - i := by have h := xm_lt (N := 12) (i := i + 1 + j) (by omega) (by decide) q19; omega
              refine lv_iload_n hx hb dX5_alike_22 rfl (lv_at hl 2 rfl) ?_
              refine lv_aload_n hx hb dX5_alike_23 rfl (lv_at hl 0 rfl) ?_
              refine lv_iload_n hx hb dX5_alike_24 rfl (lv_at hl 1 rfl) ?_
              refine lv_iload_n hx hb dX5_alike_25 rfl (lv_at hl 3 rfl) ?_
              have hPc := hP.sub (ws' := [((mm 0), .inr (5, [.ref (mm 1), .ref (mm 2), .ref (mm 3), .ref (mm 4), .int kp, .ref (mm 5), .int ty, .int th, .int at0, .int fa, .ref (mm 6), .int ts, .ref (mm 7), .ref (mm 8), .ref (mm 9), .int fr])), ((mm 1), .inl (cI, 12, .inl xm_mk)), ((mm 2), .inl (cI, 80, .inl v))]) [0, 1, 2] rfl
              refine W.callV ((va_runV (As := [.int (nI d), .int (nI i)]) (rest := [.int (ap_in (v (20 + d) ^^^ (-1)) i (ap_to (v (20 + d) ^^^ (-1)) i) j)]) ⟨hx, hb, hml, hown, hts⟩ (c_X5_shownAs l dC dI cI cS cJ tt mm kp ty th at0 fa ts fr v d i) (cwV 2 hts gX5_alike_X5_shownAs rfl rfl rfl (by decide +kernel) ⟨Nat.le_of_ble_eq_true rfl, Nat.le_of_ble_eq_true rfl⟩) ⟨xm_Rblind, va_recv hK hPc (ci := 5) (q0 := 0) rfl rfl, fun U hU hW => ⟨rfl, by rw [hU]; exact hPc, hE.go hS (fun _ q => q.elim) hU hW, ⟨hpre, hlti⟩⟩⟩ rfl rfl hl.1 rfl (lv_room (Nat.le_of_ble_eq_true rfl)) dX5_alike_26 ⟨Nat.zero_le _, Nat.zero_le _⟩).run) ?_
              refine W.eq (g2 := F0 m 29 lz (.int (xm_mk i &&& (v (20 + d) ^^^ (-1))) :: [.int (ap_in (v (20 + d) ^^^ (-1)) i (ap_to (v (20 + d) ^^^ (-1)) i) j)])) rfl ?_
              refine lv_aload_n hx hb dX5_alike_29 rfl (lv_at hl 0 rfl) ?_
              refine lv_iload_n hx hb dX5_alike_30 rfl (lv_at hl 1 rfl) ?_
              refine lv_iload hx hb dX5_alike_31 (lv_at hl 4 rfl) ?_
              have hPc := hP.sub (ws' := [((mm 0), .inr (5, [.ref (mm 1), .ref (mm 2), .ref (mm 3), .ref (mm 4), .int kp, .ref (mm 5), .int ty, .int th, .int at0, .int fa, .ref (mm 6), .int ts, .ref (mm 7), .ref (mm 8), .ref (mm 9), .int fr])), ((mm 1), .inl (cI, 12, .inl xm_mk)), ((mm 2), .inl (cI, 80, .inl v))]) [0, 1, 2] rfl
              refine W.callV ((va_runV (As := [.int (nI d), .int (nI (i + 1 + j))]) (rest := [.int (xm_mk i &&& (v (20 + d) ^^^ (-1))), .int (ap_in (v (20 + d) ^^^ (-1)) i (ap_to (v (20 + d) ^^^ (-1)) i) j)]) ⟨hx, hb, hml, hown, hts⟩ (c_X5_shownAs l dC dI cI cS cJ tt mm kp ty th at0 fa ts fr v d (i + 1 + j)) (cwV 2 hts gX5_alike_X5_shownAs rfl rfl rfl (by decide +kernel) ⟨Nat.le_of_ble_eq_true rfl, Nat.le_of_ble_eq_true rfl⟩) ⟨xm_Rblind, va_recv hK hPc (ci := 5) (q0 := 0) rfl rfl, fun U hU hW => ⟨rfl, by rw [hU]; exact hPc, hE.go hS (fun _ q => q.elim) hU hW, ⟨hpre, by omega⟩⟩⟩ rfl rfl hl.1 rfl (lv_room (Nat.le_of_ble_eq_true rfl)) dX5_alike_33 ⟨Nat.zero_le _, Nat.zero_le _⟩).run) ?_
              refine W.eq (g2 := F0 m 36 lz (.int (xm_mk (i + 1 + j) &&& (v (20 + d) ^^^ (-1))) :: [.int (xm_mk i &&& (v (20 + d) ^^^ (-1))), .int (ap_in (v (20 + d) ^^^ (-1)) i (ap_to (v (20 + d) ^^^ (-1)) i) j)])) rfl ?_
              refine lv_icmp_ne (tgt := 43) hx hb dX5_alike_36 (by decide) (fun q36 => ?_) (fun q36 => ?_)
              · refine lv_iconst (v := 0) hx hb dX5_alike_43 (by decide) ?_
                refine lv_iadd hx hb dX5_alike_44 ?_
                refine lv_istore_n (lv' := [(2, .int ((ap_in (v (20 + d) ^^^ (-1)) i (ap_to (v (20 + d) ^^^ (-1)) i) j) + 0)), (0, .ref (mm 0)), (1, .int (nI d)), (3, .int (nI i)), (4, .int (nI (i + 1 + j)))]) hx hb dX5_alike_45 rfl hl (by decide) rfl (fun lz hl => ?_)
                refine lv_iinc (v := nI ((i + 1 + j) + 1)) (lv' := [(4, .int (nI ((i + 1 + j) + 1))), (2, .int ((ap_in (v (20 + d) ^^^ (-1)) i (ap_to (v (20 + d) ^^^ (-1)) i) j) + 0)), (0, .ref (mm 0)), (1, .int (nI d)), (3, .int (nI i))]) hx hb dX5_alike_46 hl (k := 4) rfl (nI_1 (i + 1 + j)) (by decide) rfl (fun lz hl => ?_)
                refine lv_goto (tgt := 15) hx hb dX5_alike_49 (by decide) ?_
                exact ih15 (j + 1) hltj (by omega) ((ap_in (v (20 + d) ^^^ (-1)) i (ap_to (v (20 + d) ^^^ (-1)) i) j) + 0) (by show _ = (if xm_mk i &&& (v (20 + d) ^^^ (-1)) = xm_mk (i + 1 + j) &&& (v (20 + d) ^^^ (-1)) then ap_in (v (20 + d) ^^^ (-1)) i (ap_to (v (20 + d) ^^^ (-1)) i) j + 1 else ap_in (v (20 + d) ^^^ (-1)) i (ap_to (v (20 + d) ^^^ (-1)) i) j); rw [if_neg q36]; exact Int32.add_zero _)  lz (lv_sub hl [2, 3, 1, 4, 0] rfl)
              · refine lv_iconst (v := 1) hx hb dX5_alike_39 (by decide) ?_
                refine lv_goto (tgt := 44) hx hb dX5_alike_40 (by decide) ?_
                refine lv_iadd hx hb dX5_alike_44 ?_
                refine lv_istore_n (lv' := [(2, .int ((ap_in (v (20 + d) ^^^ (-1)) i (ap_to (v (20 + d) ^^^ (-1)) i) j) + 1)), (0, .ref (mm 0)), (1, .int (nI d)), (3, .int (nI i)), (4, .int (nI (i + 1 + j)))]) hx hb dX5_alike_45 rfl hl (by decide) rfl (fun lz hl => ?_)
                refine lv_iinc (v := nI ((i + 1 + j) + 1)) (lv' := [(4, .int (nI ((i + 1 + j) + 1))), (2, .int ((ap_in (v (20 + d) ^^^ (-1)) i (ap_to (v (20 + d) ^^^ (-1)) i) j) + 1)), (0, .ref (mm 0)), (1, .int (nI d)), (3, .int (nI i))]) hx hb dX5_alike_46 hl (k := 4) rfl (nI_1 (i + 1 + j)) (by decide) rfl (fun lz hl => ?_)
                refine lv_goto (tgt := 15) hx hb dX5_alike_49 (by decide) ?_
                exact ih15 (j + 1) hltj (by omega) ((ap_in (v (20 + d) ^^^ (-1)) i (ap_to (v (20 + d) ^^^ (-1)) i) j) + 1) (by show _ = (if xm_mk i &&& (v (20 + d) ^^^ (-1)) = xm_mk (i + 1 + j) &&& (v (20 + d) ^^^ (-1)) then ap_in (v (20 + d) ^^^ (-1)) i (ap_to (v (20 + d) ^^^ (-1)) i) j + 1 else ap_in (v (20 + d) ^^^ (-1)) i (ap_to (v (20 + d) ^^^ (-1)) i) j); rw [if_pos q36])  lz (lv_sub hl [2, 3, 1, 4, 0] rfl)
        exact L15 ((11 - i) + 1) 0 (by omega) (by omega) (ap_to (v (20 + d) ^^^ (-1)) i) rfl  lz (lv_sub hl [1, 2, 3, 4, 0] rfl)
  exact L4 (12 + 1) 0 (by omega) (by omega) 0 rfl  lz (lv_sub hl [2, 3, 1, 0] rfl)

set_option maxHeartbeats 4000000 in
set_option maxRecDepth 100000 in
theorem c_X5_shownNumber (l : Launch) (dC : Nat → ClassId) (dI : Nat → Nat → Nat) (cI cS cJ : ClassId) (tt : Nat → Nat) (sz : Nat) (mm : Nat → Nat) (kp : Int32) (ty : Int32) (th : Int32) (at0 : Int32) (fa : Int32) (ts : Int32) (fr : Int32) (v : Nat → Int32) (ow : Nat → Int32) (li : Nat → Int32) (cr : Nat → Int32) (n : Nat) : Met l yX5_shownNumber wsX5_shownNumber ({ frames := 4, cells := 0, slots := 0, locals := 92 } : Room) (va_Pc [.ref (mm 0)] (xm_M (dC, dI) cI cS cJ tt [((mm 0), .inr (5, [.ref (mm 1), .ref (mm 2), .ref (mm 3), .ref (mm 4), .int kp, .ref (mm 5), .int ty, .int th, .int at0, .int fa, .ref (mm 6), .int ts, .ref (mm 7), .ref (mm 8), .ref (mm 9), .int fr])), ((mm 1), .inl (cI, 12, .inl xm_mk)), ((mm 2), .inl (cI, 80, .inl v)), ((mm 7), .inl (cI, 96, .inl ow)), ((mm 8), .inl (cI, 96, .inl li)), ((mm 9), .inl (cI, 6, .inl cr))] sz (vo_f v n ∧ (∀ j, j < 6 → fm_ix (v (8 + j)) 12)))) (va_Qi (fun (r : Int32) (u : Int32 × (Nat → Int32) × (Nat → Int32) × (Nat → Int32)) => r = cn_all (lk_cl v n) v) (xm_B (dC, dI) (fun (u : Int32 × (Nat → Int32) × (Nat → Int32) × (Nat → Int32)) => [((mm 0), .inr (5, [.ref (mm 1), .ref (mm 2), .ref (mm 3), .ref (mm 4), .int kp, .ref (mm 5), .int ty, .int th, .int at0, .int fa, .ref (mm 6), .int ts, .ref (mm 7), .ref (mm 8), .ref (mm 9), .int u.1])), ((mm 1), .inl (cI, 12, .inl xm_mk)), ((mm 2), .inl (cI, 80, .inl v)), ((mm 7), .inl (cI, 96, .inl u.2.1)), ((mm 8), .inl (cI, 96, .inl u.2.2.1)), ((mm 9), .inl (cI, 6, .inl u.2.2.2))]) (va_A [((mm 0), .inr (5, [.ref (mm 1), .ref (mm 2), .ref (mm 3), .ref (mm 4), .int kp, .ref (mm 5), .int ty, .int th, .int at0, .int fa, .ref (mm 6), .int ts, .ref (mm 7), .ref (mm 8), .ref (mm 9), .int fr])), ((mm 1), .inl (cI, 12, .inl xm_mk)), ((mm 2), .inl (cI, 80, .inl v)), ((mm 7), .inl (cI, 96, .inl ow)), ((mm 8), .inl (cI, 96, .inl li)), ((mm 9), .inl (cI, 6, .inl cr))] sz)) (va_A [((mm 0), .inr (5, [.ref (mm 1), .ref (mm 2), .ref (mm 3), .ref (mm 4), .int kp, .ref (mm 5), .int ty, .int th, .int at0, .int fa, .ref (mm 6), .int ts, .ref (mm 7), .ref (mm 8), .ref (mm 9), .int fr])), ((mm 1), .inl (cI, 12, .inl xm_mk)), ((mm 2), .inl (cI, 80, .inl v)), ((mm 7), .inl (cI, 96, .inl ow)), ((mm 8), .inl (cI, 96, .inl li)), ((mm 9), .inl (cI, 6, .inl cr))] sz)) 0 0 (va_A [((mm 0), .inr (5, [.ref (mm 1), .ref (mm 2), .ref (mm 3), .ref (mm 4), .int kp, .ref (mm 5), .int ty, .int th, .int at0, .int fa, .ref (mm 6), .int ts, .ref (mm 7), .ref (mm 8), .ref (mm 9), .int fr])), ((mm 1), .inl (cI, 12, .inl xm_mk)), ((mm 2), .inl (cI, 80, .inl v)), ((mm 7), .inl (cI, 96, .inl ow)), ((mm 8), .inl (cI, 96, .inl li)), ((mm 9), .inl (cI, 6, .inl cr))] sz) := by
  refine Met.ofW (cc := cX5_shownNumber) (maxL := 5) (ret := (some .int)) (by decide) rfl ?_
  intro p e s m args below meth c s₁ B hml hv
  obtain ⟨rfl, hsz, hP, hE, hD0, hpre⟩ := hv
  have hx := B.exec
  have hb := B.bytes
  have hr := B.returns
  have hts := atoms_spec (ws := wsX5_shownNumber) B.pre
  have hown : s.vm.findClass RX5 = some m.cls := findClass_of_methodNamed B.named
  have hlocks := B.notSynchronized
  have hK := hE.1
  subst hsz
  have hD := hD0.self (sz := s.heap.size)
  generalize hAe : va_A [((mm 0), .inr (5, [.ref (mm 1), .ref (mm 2), .ref (mm 3), .ref (mm 4), .int kp, .ref (mm 5), .int ty, .int th, .int at0, .int fa, .ref (mm 6), .int ts, .ref (mm 7), .ref (mm 8), .ref (mm 9), .int fr])), ((mm 1), .inl (cI, 12, .inl xm_mk)), ((mm 2), .inl (cI, 80, .inl v)), ((mm 7), .inl (cI, 96, .inl ow)), ((mm 8), .inl (cI, 96, .inl li)), ((mm 9), .inl (cI, 6, .inl cr))] s.heap.size = A at hD hE ⊢
  have hA : ∀ q : Nat, s.heap.size ≤ q → A q := fun q h => by rw [← hAe]; exact Or.inr h
  have hS : va_S A s.heap s.heap [] := va_S.rf
  have hP : va_P (dC, dI) vwCl [((mm 0), .inr (5, [.ref (mm 1), .ref (mm 2), .ref (mm 3), .ref (mm 4), .int kp, .ref (mm 5), .int ty, .int th, .int at0, .int fa, .ref (mm 6), .int ts, .ref (mm 7), .ref (mm 8), .ref (mm 9), .int fr])), ((mm 1), .inl (cI, 12, .inl xm_mk)), ((mm 2), .inl (cI, 80, .inl v)), ((mm 7), .inl (cI, 96, .inl ow)), ((mm 8), .inl (cI, 96, .inl li)), ((mm 9), .inl (cI, 6, .inl cr))] s.heap := hP
  have hin5 : ∀ w ∈ u_ws RX5 TX5 16, w ∈ wsX5_shownNumber := by decide +kernel
  have hl := lv_entry [.ref (mm 0)] (n := 5) (Nat.le_of_ble_eq_true rfl)
  rw [lg_entry_eq]
  generalize (lg_sl [.ref (mm 0)] ++ List.replicate (5 - (lg_sl [.ref (mm 0)]).length) Slot.unset).toArray = lz at hl ⊢
  have hl : lv_has lz 5 [(0, .ref (mm 0))] := hl
  obtain ⟨hvo, hok⟩ := hpre
  refine lv_aload_n hx hb dX5_shownNumber_0 rfl (lv_at hl 0 rfl) ?_
  refine lv_aload_n hx hb dX5_shownNumber_1 rfl (lv_at hl 0 rfl) ?_
  refine va_get (D := (dC, dI)) (ci := 5) (v := .ref (mm 2)) (C := RX5) (T := TX5) (N := 16) hx hb hts hin5 hown hK hP 0 rfl rfl 1 (by decide) (hts (.fieldLink RX5 13 "TurnDigitsModel" "now" "[I") (by decide +kernel)) (fun _ h9 => h9) rfl dX5_shownNumber_2 ?_
  have hPc := hP.sub (ws' := [((mm 0), .inr (5, [.ref (mm 1), .ref (mm 2), .ref (mm 3), .ref (mm 4), .int kp, .ref (mm 5), .int ty, .int th, .int at0, .int fa, .ref (mm 6), .int ts, .ref (mm 7), .ref (mm 8), .ref (mm 9), .int fr])), ((mm 7), .inl (cI, 96, .inl ow)), ((mm 8), .inl (cI, 96, .inl li)), ((mm 9), .inl (cI, 6, .inl cr)), ((mm 2), .inl (cI, 80, .inl v))]) [0, 3, 4, 5, 2] rfl
  have hDc := hD.sub (ws' := [((mm 0), .inr (5, [.ref (mm 1), .ref (mm 2), .ref (mm 3), .ref (mm 4), .int kp, .ref (mm 5), .int ty, .int th, .int at0, .int fa, .ref (mm 6), .int ts, .ref (mm 7), .ref (mm 8), .ref (mm 9), .int fr])), ((mm 7), .inl (cI, 96, .inl ow)), ((mm 8), .inl (cI, 96, .inl li)), ((mm 9), .inl (cI, 6, .inl cr)), ((mm 2), .inl (cI, 80, .inl v))]) [0, 3, 4, 5, 2] (by decide) rfl
  have hFc := va_free (wc := [((mm 0), .inr (5, [.ref (mm 1), .ref (mm 2), .ref (mm 3), .ref (mm 4), .int kp, .ref (mm 5), .int ty, .int th, .int at0, .int fa, .ref (mm 6), .int ts, .ref (mm 7), .ref (mm 8), .ref (mm 9), .int fr])), ((mm 7), .inl (cI, 96, .inl ow)), ((mm 8), .inl (cI, 96, .inl li)), ((mm 9), .inl (cI, 6, .inl cr)), ((mm 2), .inl (cI, 80, .inl v))]) hD hS hA [0, 3, 4, 5, 2] rfl
  refine va_callv (va_runV (As := [.ref (mm 2)]) (rest := []) ⟨hx, hb, hml, hown, hts⟩ (c_X5_frames l dC dI cI cS cJ tt s.heap.size mm kp ty th at0 fa ts fr (mm 2) v ow li cr n) (cwV 1 hts gX5_shownNumber_X5_frames rfl rfl rfl (by decide +kernel) ⟨Nat.le_of_ble_eq_true rfl, Nat.le_of_ble_eq_true rfl⟩) ⟨xm_Mblind, va_recv hK hPc (ci := 5) (q0 := 0) rfl rfl, fun U hU hW => ⟨rfl, by rw [hU], by rw [hU]; exact hPc, hE.go hS hFc hU hW, hDc.weaken (fun _ _ _ _ => trivial), hvo⟩⟩ rfl rfl hl.1 rfl (lv_room (Nat.le_of_ble_eq_true rfl)) dX5_shownNumber_5 ⟨Nat.zero_le _, Nat.zero_le _⟩) hS (fun q _ h => hFc q h) hFc (fun u t H1 locs ht hvm hw hB hz1 hk1 hS => ?_)
  obtain ⟨u_1, u_2, u_3, u_4⟩ := u
  obtain ⟨hP1, hD1⟩ := hB
  rw [ht] at hP1
  obtain ⟨hw_5, hw_6, hw_7⟩ := hw
  have hw_5 : u_1 = nI n := hw_5
  subst hw_5
  have hw_6 : u_2 = fm_fl (fs_ow v) ow n := hw_6
  subst hw_6
  have hw_7 : u_3 = fm_fl (fs_li v) li n := hw_7
  subst hw_7
  obtain ⟨hP, hD⟩ := va_join (wr := [((mm 1), .inl (cI, 12, .inl xm_mk))]) (w1 := [((mm 0), .inr (5, [.ref (mm 1), .ref (mm 2), .ref (mm 3), .ref (mm 4), .int kp, .ref (mm 5), .int ty, .int th, .int at0, .int fa, .ref (mm 6), .int ts, .ref (mm 7), .ref (mm 8), .ref (mm 9), .int (nI n)])), ((mm 7), .inl (cI, 96, .inl (fm_fl (fs_ow v) ow n))), ((mm 8), .inl (cI, 96, .inl (fm_fl (fs_li v) li n))), ((mm 9), .inl (cI, 6, .inl u_4)), ((mm 2), .inl (cI, 80, .inl v))]) hP hD [0, 3, 4, 5, 2] [1] rfl rfl (by decide) (by decide) hk1 hFc hP1 hD1
  generalize H1 = H at hP hS ⊢
  have hP : va_P (dC, dI) vwCl [((mm 1), .inl (cI, 12, .inl xm_mk)), ((mm 0), .inr (5, [.ref (mm 1), .ref (mm 2), .ref (mm 3), .ref (mm 4), .int kp, .ref (mm 5), .int ty, .int th, .int at0, .int fa, .ref (mm 6), .int ts, .ref (mm 7), .ref (mm 8), .ref (mm 9), .int (nI n)])), ((mm 7), .inl (cI, 96, .inl (fm_fl (fs_ow v) ow n))), ((mm 8), .inl (cI, 96, .inl (fm_fl (fs_li v) li n))), ((mm 9), .inl (cI, 6, .inl u_4)), ((mm 2), .inl (cI, 80, .inl v))] H := hP
  have hD : va_D A [((mm 1), .inl (cI, 12, .inl xm_mk)), ((mm 0), .inr (5, [.ref (mm 1), .ref (mm 2), .ref (mm 3), .ref (mm 4), .int kp, .ref (mm 5), .int ty, .int th, .int at0, .int fa, .ref (mm 6), .int ts, .ref (mm 7), .ref (mm 8), .ref (mm 9), .int (nI n)])), ((mm 7), .inl (cI, 96, .inl (fm_fl (fs_ow v) ow n))), ((mm 8), .inl (cI, 96, .inl (fm_fl (fs_li v) li n))), ((mm 9), .inl (cI, 6, .inl u_4)), ((mm 2), .inl (cI, 80, .inl v))] := hD
  have J36 : ∀ (i1 : Nat), (i1 ≤ 6) → (i1 = cn_st v 6 0) → ∀ (H : Heap) (locs : List Loc), va_P (dC, dI) vwCl [((mm 1), .inl (cI, 12, .inl xm_mk)), ((mm 0), .inr (5, [.ref (mm 1), .ref (mm 2), .ref (mm 3), .ref (mm 4), .int kp, .ref (mm 5), .int ty, .int th, .int at0, .int fa, .ref (mm 6), .int ts, .ref (mm 7), .ref (mm 8), .ref (mm 9), .int (nI n)])), ((mm 7), .inl (cI, 96, .inl (fm_fl (fs_ow v) ow n))), ((mm 8), .inl (cI, 96, .inl (fm_fl (fs_li v) li n))), ((mm 9), .inl (cI, 6, .inl u_4)), ((mm 2), .inl (cI, 80, .inl v))] H → va_D A [((mm 1), .inl (cI, 12, .inl xm_mk)), ((mm 0), .inr (5, [.ref (mm 1), .ref (mm 2), .ref (mm 3), .ref (mm 4), .int kp, .ref (mm 5), .int ty, .int th, .int at0, .int fa, .ref (mm 6), .int ts, .ref (mm 7), .ref (mm 8), .ref (mm 9), .int (nI n)])), ((mm 7), .inl (cI, 96, .inl (fm_fl (fs_ow v) ow n))), ((mm 8), .inl (cI, 96, .inl (fm_fl (fs_li v) li n))), ((mm 9), .inl (cI, 6, .inl u_4)), ((mm 2), .inl (cI, 80, .inl v))] → va_S A s.heap H locs → ∀ (lz : Array Slot), lv_has lz 5 [(0, .ref (mm 0)), (1, .int (nI i1))] → W p l e (headSpec wsX5_shownNumber ({ frames := 4, cells := 0, slots := 0, locals := 92 } : Room)).room s m ([.ref (mm 0)] : List Value).toArray below meth c H locs 0 0 (MQ below (va_Qi (fun (r : Int32) (u : Int32 × (Nat → Int32) × (Nat → Int32) × (Nat → Int32)) => r = cn_all (lk_cl v n) v) (xm_B (dC, dI) (fun (u : Int32 × (Nat → Int32) × (Nat → Int32) × (Nat → Int32)) => [((mm 0), .inr (5, [.ref (mm 1), .ref (mm 2), .ref (mm 3), .ref (mm 4), .int kp, .ref (mm 5), .int ty, .int th, .int at0, .int fa, .ref (mm 6), .int ts, .ref (mm 7), .ref (mm 8), .ref (mm 9), .int u.1])), ((mm 1), .inl (cI, 12, .inl xm_mk)), ((mm 2), .inl (cI, 80, .inl v)), ((mm 7), .inl (cI, 96, .inl u.2.1)), ((mm 8), .inl (cI, 96, .inl u.2.2.1)), ((mm 9), .inl (cI, 6, .inl u.2.2.2))]) A) A) ([.ref (mm 0)] : List Value).toArray s 0 0 A) (F0 m 36 lz []) := by
    intro i1 hi1 hst H locs hP hD hS lz hl
    have J61 : ∀ (ng : Int32), (ng = cn_ng v i1) → ∀ (H : Heap) (locs : List Loc), va_P (dC, dI) vwCl [((mm 1), .inl (cI, 12, .inl xm_mk)), ((mm 0), .inr (5, [.ref (mm 1), .ref (mm 2), .ref (mm 3), .ref (mm 4), .int kp, .ref (mm 5), .int ty, .int th, .int at0, .int fa, .ref (mm 6), .int ts, .ref (mm 7), .ref (mm 8), .ref (mm 9), .int (nI n)])), ((mm 7), .inl (cI, 96, .inl (fm_fl (fs_ow v) ow n))), ((mm 8), .inl (cI, 96, .inl (fm_fl (fs_li v) li n))), ((mm 9), .inl (cI, 6, .inl u_4)), ((mm 2), .inl (cI, 80, .inl v))] H → va_D A [((mm 1), .inl (cI, 12, .inl xm_mk)), ((mm 0), .inr (5, [.ref (mm 1), .ref (mm 2), .ref (mm 3), .ref (mm 4), .int kp, .ref (mm 5), .int ty, .int th, .int at0, .int fa, .ref (mm 6), .int ts, .ref (mm 7), .ref (mm 8), .ref (mm 9), .int (nI n)])), ((mm 7), .inl (cI, 96, .inl (fm_fl (fs_ow v) ow n))), ((mm 8), .inl (cI, 96, .inl (fm_fl (fs_li v) li n))), ((mm 9), .inl (cI, 6, .inl u_4)), ((mm 2), .inl (cI, 80, .inl v))] → va_S A s.heap H locs → ∀ (lz : Array Slot), lv_has lz 5 [(0, .ref (mm 0)), (1, .int (nI i1))] → W p l e (headSpec wsX5_shownNumber ({ frames := 4, cells := 0, slots := 0, locals := 92 } : Room)).room s m ([.ref (mm 0)] : List Value).toArray below meth c H locs 0 0 (MQ below (va_Qi (fun (r : Int32) (u : Int32 × (Nat → Int32) × (Nat → Int32) × (Nat → Int32)) => r = cn_all (lk_cl v n) v) (xm_B (dC, dI) (fun (u : Int32 × (Nat → Int32) × (Nat → Int32) × (Nat → Int32)) => [((mm 0), .inr (5, [.ref (mm 1), .ref (mm 2), .ref (mm 3), .ref (mm 4), .int kp, .ref (mm 5), .int ty, .int th, .int at0, .int fa, .ref (mm 6), .int ts, .ref (mm 7), .ref (mm 8), .ref (mm 9), .int u.1])), ((mm 1), .inl (cI, 12, .inl xm_mk)), ((mm 2), .inl (cI, 80, .inl v)), ((mm 7), .inl (cI, 96, .inl u.2.1)), ((mm 8), .inl (cI, 96, .inl u.2.2.1)), ((mm 9), .inl (cI, 6, .inl u.2.2.2))]) A) A) ([.ref (mm 0)] : List Value).toArray s 0 0 A) (F0 m 61 lz [.int ng]) := by
      intro ng eng H locs hP hD hS lz hl
      subst eng
      refine lv_istore_n (lv' := [(2, .int (cn_ng v i1)), (0, .ref (mm 0)), (1, .int (nI i1))]) hx hb dX5_shownNumber_61 rfl hl (by decide) rfl (fun lz hl => ?_)
      have J79 : ∀ (is0 : Int32), (is0 = sn_b (lk_cl v n) v i1) → ∀ (H : Heap) (locs : List Loc), va_P (dC, dI) vwCl [((mm 1), .inl (cI, 12, .inl xm_mk)), ((mm 0), .inr (5, [.ref (mm 1), .ref (mm 2), .ref (mm 3), .ref (mm 4), .int kp, .ref (mm 5), .int ty, .int th, .int at0, .int fa, .ref (mm 6), .int ts, .ref (mm 7), .ref (mm 8), .ref (mm 9), .int (nI n)])), ((mm 7), .inl (cI, 96, .inl (fm_fl (fs_ow v) ow n))), ((mm 8), .inl (cI, 96, .inl (fm_fl (fs_li v) li n))), ((mm 9), .inl (cI, 6, .inl u_4)), ((mm 2), .inl (cI, 80, .inl v))] H → va_D A [((mm 1), .inl (cI, 12, .inl xm_mk)), ((mm 0), .inr (5, [.ref (mm 1), .ref (mm 2), .ref (mm 3), .ref (mm 4), .int kp, .ref (mm 5), .int ty, .int th, .int at0, .int fa, .ref (mm 6), .int ts, .ref (mm 7), .ref (mm 8), .ref (mm 9), .int (nI n)])), ((mm 7), .inl (cI, 96, .inl (fm_fl (fs_ow v) ow n))), ((mm 8), .inl (cI, 96, .inl (fm_fl (fs_li v) li n))), ((mm 9), .inl (cI, 6, .inl u_4)), ((mm 2), .inl (cI, 80, .inl v))] → va_S A s.heap H locs → ∀ (lz : Array Slot), lv_has lz 5 [(0, .ref (mm 0)), (1, .int (nI i1)), (2, .int (cn_ng v i1))] → W p l e (headSpec wsX5_shownNumber ({ frames := 4, cells := 0, slots := 0, locals := 92 } : Room)).room s m ([.ref (mm 0)] : List Value).toArray below meth c H locs 0 0 (MQ below (va_Qi (fun (r : Int32) (u : Int32 × (Nat → Int32) × (Nat → Int32) × (Nat → Int32)) => r = cn_all (lk_cl v n) v) (xm_B (dC, dI) (fun (u : Int32 × (Nat → Int32) × (Nat → Int32) × (Nat → Int32)) => [((mm 0), .inr (5, [.ref (mm 1), .ref (mm 2), .ref (mm 3), .ref (mm 4), .int kp, .ref (mm 5), .int ty, .int th, .int at0, .int fa, .ref (mm 6), .int ts, .ref (mm 7), .ref (mm 8), .ref (mm 9), .int u.1])), ((mm 1), .inl (cI, 12, .inl xm_mk)), ((mm 2), .inl (cI, 80, .inl v)), ((mm 7), .inl (cI, 96, .inl u.2.1)), ((mm 8), .inl (cI, 96, .inl u.2.2.1)), ((mm 9), .inl (cI, 6, .inl u.2.2.2))]) A) A) ([.ref (mm 0)] : List Value).toArray s 0 0 A) (F0 m 79 lz [.int is0]) := by
        intro is0 eis H locs hP hD hS lz hl
        subst eis
        refine lv_istore_n (lv' := [(3, .int (sn_b (lk_cl v n) v i1)), (0, .ref (mm 0)), (1, .int (nI i1)), (2, .int (cn_ng v i1))]) hx hb dX5_shownNumber_79 rfl hl (by decide) rfl (fun lz hl => ?_)
        have J91 : ∀ (ff : Nat), (ff = cn_ff v i1) → ∀ (H : Heap) (locs : List Loc), va_P (dC, dI) vwCl [((mm 1), .inl (cI, 12, .inl xm_mk)), ((mm 0), .inr (5, [.ref (mm 1), .ref (mm 2), .ref (mm 3), .ref (mm 4), .int kp, .ref (mm 5), .int ty, .int th, .int at0, .int fa, .ref (mm 6), .int ts, .ref (mm 7), .ref (mm 8), .ref (mm 9), .int (nI n)])), ((mm 7), .inl (cI, 96, .inl (fm_fl (fs_ow v) ow n))), ((mm 8), .inl (cI, 96, .inl (fm_fl (fs_li v) li n))), ((mm 9), .inl (cI, 6, .inl u_4)), ((mm 2), .inl (cI, 80, .inl v))] H → va_D A [((mm 1), .inl (cI, 12, .inl xm_mk)), ((mm 0), .inr (5, [.ref (mm 1), .ref (mm 2), .ref (mm 3), .ref (mm 4), .int kp, .ref (mm 5), .int ty, .int th, .int at0, .int fa, .ref (mm 6), .int ts, .ref (mm 7), .ref (mm 8), .ref (mm 9), .int (nI n)])), ((mm 7), .inl (cI, 96, .inl (fm_fl (fs_ow v) ow n))), ((mm 8), .inl (cI, 96, .inl (fm_fl (fs_li v) li n))), ((mm 9), .inl (cI, 6, .inl u_4)), ((mm 2), .inl (cI, 80, .inl v))] → va_S A s.heap H locs → ∀ (lz : Array Slot), lv_has lz 5 [(0, .ref (mm 0)), (2, .int (cn_ng v i1)), (3, .int (sn_b (lk_cl v n) v i1))] → W p l e (headSpec wsX5_shownNumber ({ frames := 4, cells := 0, slots := 0, locals := 92 } : Room)).room s m ([.ref (mm 0)] : List Value).toArray below meth c H locs 0 0 (MQ below (va_Qi (fun (r : Int32) (u : Int32 × (Nat → Int32) × (Nat → Int32) × (Nat → Int32)) => r = cn_all (lk_cl v n) v) (xm_B (dC, dI) (fun (u : Int32 × (Nat → Int32) × (Nat → Int32) × (Nat → Int32)) => [((mm 0), .inr (5, [.ref (mm 1), .ref (mm 2), .ref (mm 3), .ref (mm 4), .int kp, .ref (mm 5), .int ty, .int th, .int at0, .int fa, .ref (mm 6), .int ts, .ref (mm 7), .ref (mm 8), .ref (mm 9), .int u.1])), ((mm 1), .inl (cI, 12, .inl xm_mk)), ((mm 2), .inl (cI, 80, .inl v)), ((mm 7), .inl (cI, 96, .inl u.2.1)), ((mm 8), .inl (cI, 96, .inl u.2.2.1)), ((mm 9), .inl (cI, 6, .inl u.2.2.2))]) A) A) ([.ref (mm 0)] : List Value).toArray s 0 0 A) (F0 m 91 lz [.int (nI ff)]) := by
          intro ff eff H locs hP hD hS lz hl
          refine lv_istore_n (lv' := [(1, .int (nI ff)), (0, .ref (mm 0)), (2, .int (cn_ng v i1)), (3, .int (sn_b (lk_cl v n) v i1))]) hx hb dX5_shownNumber_91 rfl hl (by decide) rfl (fun lz hl => ?_)
          have J107 : ∀ (is1 : Int32), (is1 = sn_c (lk_cl v n) v i1) → ∀ (H : Heap) (locs : List Loc), va_P (dC, dI) vwCl [((mm 1), .inl (cI, 12, .inl xm_mk)), ((mm 0), .inr (5, [.ref (mm 1), .ref (mm 2), .ref (mm 3), .ref (mm 4), .int kp, .ref (mm 5), .int ty, .int th, .int at0, .int fa, .ref (mm 6), .int ts, .ref (mm 7), .ref (mm 8), .ref (mm 9), .int (nI n)])), ((mm 7), .inl (cI, 96, .inl (fm_fl (fs_ow v) ow n))), ((mm 8), .inl (cI, 96, .inl (fm_fl (fs_li v) li n))), ((mm 9), .inl (cI, 6, .inl u_4)), ((mm 2), .inl (cI, 80, .inl v))] H → va_D A [((mm 1), .inl (cI, 12, .inl xm_mk)), ((mm 0), .inr (5, [.ref (mm 1), .ref (mm 2), .ref (mm 3), .ref (mm 4), .int kp, .ref (mm 5), .int ty, .int th, .int at0, .int fa, .ref (mm 6), .int ts, .ref (mm 7), .ref (mm 8), .ref (mm 9), .int (nI n)])), ((mm 7), .inl (cI, 96, .inl (fm_fl (fs_ow v) ow n))), ((mm 8), .inl (cI, 96, .inl (fm_fl (fs_li v) li n))), ((mm 9), .inl (cI, 6, .inl u_4)), ((mm 2), .inl (cI, 80, .inl v))] → va_S A s.heap H locs → ∀ (lz : Array Slot), lv_has lz 5 [(0, .ref (mm 0)), (1, .int (nI ff)), (2, .int (cn_ng v i1))] → W p l e (headSpec wsX5_shownNumber ({ frames := 4, cells := 0, slots := 0, locals := 92 } : Room)).room s m ([.ref (mm 0)] : List Value).toArray below meth c H locs 0 0 (MQ below (va_Qi (fun (r : Int32) (u : Int32 × (Nat → Int32) × (Nat → Int32) × (Nat → Int32)) => r = cn_all (lk_cl v n) v) (xm_B (dC, dI) (fun (u : Int32 × (Nat → Int32) × (Nat → Int32) × (Nat → Int32)) => [((mm 0), .inr (5, [.ref (mm 1), .ref (mm 2), .ref (mm 3), .ref (mm 4), .int kp, .ref (mm 5), .int ty, .int th, .int at0, .int fa, .ref (mm 6), .int ts, .ref (mm 7), .ref (mm 8), .ref (mm 9), .int u.1])), ((mm 1), .inl (cI, 12, .inl xm_mk)), ((mm 2), .inl (cI, 80, .inl v)), ((mm 7), .inl (cI, 96, .inl u.2.1)), ((mm 8), .inl (cI, 96, .inl u.2.2.1)), ((mm 9), .inl (cI, 6, .inl u.2.2.2))]) A) A) ([.ref (mm 0)] : List Value).toArray s 0 0 A) (F0 m 107 lz [.int is1]) := by
            intro is1 eis H locs hP hD hS lz hl
            subst eis
            refine lv_istore_n (lv' := [(3, .int (sn_c (lk_cl v n) v i1)), (0, .ref (mm 0)), (1, .int (nI ff)), (2, .int (cn_ng v i1))]) hx hb dX5_shownNumber_107 rfl hl (by decide) rfl (fun lz hl => ?_)
            have hff7 : ff ≤ 7 := by rw [eff]; unfold cn_ff; split <;> omega
            refine lv_iconst (v := 0) hx hb dX5_shownNumber_108 (by decide) ?_
            refine lv_istore (lv' := [(4, .int 0), (3, .int (sn_c (lk_cl v n) v i1)), (0, .ref (mm 0)), (1, .int (nI ff)), (2, .int (cn_ng v i1))]) hx hb dX5_shownNumber_109 hl (by decide) rfl (fun lz hl => ?_)
            have L111 : ∀ (zz i : Nat), i ≤ (6 - ff) → (6 - ff) + 1 ≤ i + zz → ∀ (x3 : Int32) (x4 : Int32), x3 = sn_is (lk_cl v n) v (sn_c (lk_cl v n) v i1) ff i → x4 = sn_x v ff i → ∀ (H : Heap) (locs : List Loc), va_P (dC, dI) vwCl [((mm 1), .inl (cI, 12, .inl xm_mk)), ((mm 0), .inr (5, [.ref (mm 1), .ref (mm 2), .ref (mm 3), .ref (mm 4), .int kp, .ref (mm 5), .int ty, .int th, .int at0, .int fa, .ref (mm 6), .int ts, .ref (mm 7), .ref (mm 8), .ref (mm 9), .int (nI n)])), ((mm 7), .inl (cI, 96, .inl (fm_fl (fs_ow v) ow n))), ((mm 8), .inl (cI, 96, .inl (fm_fl (fs_li v) li n))), ((mm 9), .inl (cI, 6, .inl u_4)), ((mm 2), .inl (cI, 80, .inl v))] H → va_D A [((mm 1), .inl (cI, 12, .inl xm_mk)), ((mm 0), .inr (5, [.ref (mm 1), .ref (mm 2), .ref (mm 3), .ref (mm 4), .int kp, .ref (mm 5), .int ty, .int th, .int at0, .int fa, .ref (mm 6), .int ts, .ref (mm 7), .ref (mm 8), .ref (mm 9), .int (nI n)])), ((mm 7), .inl (cI, 96, .inl (fm_fl (fs_ow v) ow n))), ((mm 8), .inl (cI, 96, .inl (fm_fl (fs_li v) li n))), ((mm 9), .inl (cI, 6, .inl u_4)), ((mm 2), .inl (cI, 80, .inl v))] → va_S A s.heap H locs → ∀ (lz : Array Slot), lv_has lz 5 [(0, .ref (mm 0)), (1, .int (nI (ff + i))), (2, .int (cn_ng v i1)), (3, .int x3), (4, .int x4)] → W p l e (headSpec wsX5_shownNumber ({ frames := 4, cells := 0, slots := 0, locals := 92 } : Room)).room s m ([.ref (mm 0)] : List Value).toArray below meth c H locs 0 0 (MQ below (va_Qi (fun (r : Int32) (u : Int32 × (Nat → Int32) × (Nat → Int32) × (Nat → Int32)) => r = cn_all (lk_cl v n) v) (xm_B (dC, dI) (fun (u : Int32 × (Nat → Int32) × (Nat → Int32) × (Nat → Int32)) => [((mm 0), .inr (5, [.ref (mm 1), .ref (mm 2), .ref (mm 3), .ref (mm 4), .int kp, .ref (mm 5), .int ty, .int th, .int at0, .int fa, .ref (mm 6), .int ts, .ref (mm 7), .ref (mm 8), .ref (mm 9), .int u.1])), ((mm 1), .inl (cI, 12, .inl xm_mk)), ((mm 2), .inl (cI, 80, .inl v)), ((mm 7), .inl (cI, 96, .inl u.2.1)), ((mm 8), .inl (cI, 96, .inl u.2.2.1)), ((mm 9), .inl (cI, 6, .inl u.2.2.2))]) A) A) ([.ref (mm 0)] : List Value).toArray s 0 0 A) (F0 m 111 lz []) := by
              intro zz
              induction zz with
              | zero => intro i hii hni; exact absurd hni (by omega)
              | succ zz ih111 =>
                intro i hii hni x3 x4 e_x3 e_x4  H locs hP hD hS lz hl
                subst e_x3 e_x4
                refine lv_iload_n hx hb dX5_shownNumber_111 rfl (lv_at hl 1 rfl) ?_
                refine lv_bipush (v := 6) hx hb dX5_shownNumber_112 (by decide) ?_
                refine lv_icmp_ge (tgt := 172) hx hb dX5_shownNumber_114 (by decide) (fun q114 => ?_) (fun q114 => ?_)
                · have hNi : 6 - ff = i := by have h := (nI_leI (a := 6) (b := ff + i) (by decide) (by omega)).mp q114; omega
                  subst hNi
                  refine lv_iload_n hx hb dX5_shownNumber_172 rfl (lv_at hl 3 rfl) ?_
                  refine lv_if_eq (tgt := 191) hx hb dX5_shownNumber_173 (by decide) (fun q173 => ?_) (fun q173 => ?_)
                  · refine lv_iconst (v := (-1)) hx hb dX5_shownNumber_191 (by decide) ?_
                    have hP9 := hP.sub (ws' := [((mm 0), .inr (5, [.ref (mm 1), .ref (mm 2), .ref (mm 3), .ref (mm 4), .int kp, .ref (mm 5), .int ty, .int th, .int at0, .int fa, .ref (mm 6), .int ts, .ref (mm 7), .ref (mm 8), .ref (mm 9), .int (nI n)])), ((mm 1), .inl (cI, 12, .inl xm_mk)), ((mm 2), .inl (cI, 80, .inl v)), ((mm 7), .inl (cI, 96, .inl (fm_fl (fs_ow v) ow n))), ((mm 8), .inl (cI, 96, .inl (fm_fl (fs_li v) li n))), ((mm 9), .inl (cI, 6, .inl u_4))]) [1, 0, 5, 2, 3, 4] rfl
                    have hD9 := hD.sub (ws' := [((mm 0), .inr (5, [.ref (mm 1), .ref (mm 2), .ref (mm 3), .ref (mm 4), .int kp, .ref (mm 5), .int ty, .int th, .int at0, .int fa, .ref (mm 6), .int ts, .ref (mm 7), .ref (mm 8), .ref (mm 9), .int (nI n)])), ((mm 1), .inl (cI, 12, .inl xm_mk)), ((mm 2), .inl (cI, 80, .inl v)), ((mm 7), .inl (cI, 96, .inl (fm_fl (fs_ow v) ow n))), ((mm 8), .inl (cI, 96, .inl (fm_fl (fs_li v) li n))), ((mm 9), .inl (cI, 6, .inl u_4))]) [1, 0, 5, 2, 3, 4] (by decide) rfl
                    exact W.iret (v := (-1)) hx hb hr (fun t ht hW => ⟨⟨(-1), ((nI n), (fm_fl (fs_ow v) ow n), (fm_fl (fs_li v) li n), u_4), rfl, (by rw [cn_all, ← hst, ← sn_all _ _ hi1, sn_end, ← eff]; simp only [if_pos q114, if_pos q173]), by rw [ht]; exact hP9, hD9⟩, hS.F ht⟩) hS.2.2 dX5_shownNumber_192
                  · refine lv_iload_n hx hb dX5_shownNumber_176 rfl (lv_at hl 2 rfl) ?_
                    refine lv_if_eq (tgt := 186) hx hb dX5_shownNumber_177 (by decide) (fun q177 => ?_) (fun q177 => ?_)
                    · refine lv_iload hx hb dX5_shownNumber_186 (lv_at hl 4 rfl) ?_
                      refine lv_goto (tgt := 192) hx hb dX5_shownNumber_188 (by decide) ?_
                      have hP9 := hP.sub (ws' := [((mm 0), .inr (5, [.ref (mm 1), .ref (mm 2), .ref (mm 3), .ref (mm 4), .int kp, .ref (mm 5), .int ty, .int th, .int at0, .int fa, .ref (mm 6), .int ts, .ref (mm 7), .ref (mm 8), .ref (mm 9), .int (nI n)])), ((mm 1), .inl (cI, 12, .inl xm_mk)), ((mm 2), .inl (cI, 80, .inl v)), ((mm 7), .inl (cI, 96, .inl (fm_fl (fs_ow v) ow n))), ((mm 8), .inl (cI, 96, .inl (fm_fl (fs_li v) li n))), ((mm 9), .inl (cI, 6, .inl u_4))]) [1, 0, 5, 2, 3, 4] rfl
                      have hD9 := hD.sub (ws' := [((mm 0), .inr (5, [.ref (mm 1), .ref (mm 2), .ref (mm 3), .ref (mm 4), .int kp, .ref (mm 5), .int ty, .int th, .int at0, .int fa, .ref (mm 6), .int ts, .ref (mm 7), .ref (mm 8), .ref (mm 9), .int (nI n)])), ((mm 1), .inl (cI, 12, .inl xm_mk)), ((mm 2), .inl (cI, 80, .inl v)), ((mm 7), .inl (cI, 96, .inl (fm_fl (fs_ow v) ow n))), ((mm 8), .inl (cI, 96, .inl (fm_fl (fs_li v) li n))), ((mm 9), .inl (cI, 6, .inl u_4))]) [1, 0, 5, 2, 3, 4] (by decide) rfl
                      exact W.iret (v := (sn_x v ff (6 - ff))) hx hb hr (fun t ht hW => ⟨⟨(sn_x v ff (6 - ff)), ((nI n), (fm_fl (fs_ow v) ow n), (fm_fl (fs_li v) li n), u_4), rfl, (by rw [cn_all, ← hst, ← sn_all _ _ hi1, sn_end, ← eff]; simp only [if_pos q114, if_neg q173, if_pos q177]), by rw [ht]; exact hP9, hD9⟩, hS.F ht⟩) hS.2.2 dX5_shownNumber_192
                    · refine lv_iload hx hb dX5_shownNumber_180 (lv_at hl 4 rfl) ?_
                      refine lv_ineg hx hb dX5_shownNumber_182 ?_
                      refine lv_goto (tgt := 192) hx hb dX5_shownNumber_183 (by decide) ?_
                      have hP9 := hP.sub (ws' := [((mm 0), .inr (5, [.ref (mm 1), .ref (mm 2), .ref (mm 3), .ref (mm 4), .int kp, .ref (mm 5), .int ty, .int th, .int at0, .int fa, .ref (mm 6), .int ts, .ref (mm 7), .ref (mm 8), .ref (mm 9), .int (nI n)])), ((mm 1), .inl (cI, 12, .inl xm_mk)), ((mm 2), .inl (cI, 80, .inl v)), ((mm 7), .inl (cI, 96, .inl (fm_fl (fs_ow v) ow n))), ((mm 8), .inl (cI, 96, .inl (fm_fl (fs_li v) li n))), ((mm 9), .inl (cI, 6, .inl u_4))]) [1, 0, 5, 2, 3, 4] rfl
                      have hD9 := hD.sub (ws' := [((mm 0), .inr (5, [.ref (mm 1), .ref (mm 2), .ref (mm 3), .ref (mm 4), .int kp, .ref (mm 5), .int ty, .int th, .int at0, .int fa, .ref (mm 6), .int ts, .ref (mm 7), .ref (mm 8), .ref (mm 9), .int (nI n)])), ((mm 1), .inl (cI, 12, .inl xm_mk)), ((mm 2), .inl (cI, 80, .inl v)), ((mm 7), .inl (cI, 96, .inl (fm_fl (fs_ow v) ow n))), ((mm 8), .inl (cI, 96, .inl (fm_fl (fs_li v) li n))), ((mm 9), .inl (cI, 6, .inl u_4))]) [1, 0, 5, 2, 3, 4] (by decide) rfl
                      exact W.iret (v := -(sn_x v ff (6 - ff))) hx hb hr (fun t ht hW => ⟨⟨-(sn_x v ff (6 - ff)), ((nI n), (fm_fl (fs_ow v) ow n), (fm_fl (fs_li v) li n), u_4), rfl, (by rw [cn_all, ← hst, ← sn_all _ _ hi1, sn_end, ← eff]; simp only [if_pos q114, if_neg q173, if_neg q177]), by rw [ht]; exact hP9, hD9⟩, hS.F ht⟩) hS.2.2 dX5_shownNumber_192
                · have hlti : i < 6 - ff := by have h := (not_congr (nI_leI (a := 6) (b := ff + i) (by decide) (by omega))).mp q114; omega
                  have J148 : ∀ (is2 : Int32), (is2 = sn_is (lk_cl v n) v (sn_c (lk_cl v n) v i1) ff (i + 1)) → ∀ (H : Heap) (locs : List Loc), va_P (dC, dI) vwCl [((mm 1), .inl (cI, 12, .inl xm_mk)), ((mm 0), .inr (5, [.ref (mm 1), .ref (mm 2), .ref (mm 3), .ref (mm 4), .int kp, .ref (mm 5), .int ty, .int th, .int at0, .int fa, .ref (mm 6), .int ts, .ref (mm 7), .ref (mm 8), .ref (mm 9), .int (nI n)])), ((mm 7), .inl (cI, 96, .inl (fm_fl (fs_ow v) ow n))), ((mm 8), .inl (cI, 96, .inl (fm_fl (fs_li v) li n))), ((mm 9), .inl (cI, 6, .inl u_4)), ((mm 2), .inl (cI, 80, .inl v))] H → va_D A [((mm 1), .inl (cI, 12, .inl xm_mk)), ((mm 0), .inr (5, [.ref (mm 1), .ref (mm 2), .ref (mm 3), .ref (mm 4), .int kp, .ref (mm 5), .int ty, .int th, .int at0, .int fa, .ref (mm 6), .int ts, .ref (mm 7), .ref (mm 8), .ref (mm 9), .int (nI n)])), ((mm 7), .inl (cI, 96, .inl (fm_fl (fs_ow v) ow n))), ((mm 8), .inl (cI, 96, .inl (fm_fl (fs_li v) li n))), ((mm 9), .inl (cI, 6, .inl u_4)), ((mm 2), .inl (cI, 80, .inl v))] → va_S A s.heap H locs → ∀ (lz : Array Slot), lv_has lz 5 [(0, .ref (mm 0)), (1, .int (nI (ff + i))), (2, .int (cn_ng v i1)), (4, .int (sn_x v ff i))] → W p l e (headSpec wsX5_shownNumber ({ frames := 4, cells := 0, slots := 0, locals := 92 } : Room)).room s m ([.ref (mm 0)] : List Value).toArray below meth c H locs 0 0 (MQ below (va_Qi (fun (r : Int32) (u : Int32 × (Nat → Int32) × (Nat → Int32) × (Nat → Int32)) => r = cn_all (lk_cl v n) v) (xm_B (dC, dI) (fun (u : Int32 × (Nat → Int32) × (Nat → Int32) × (Nat → Int32)) => [((mm 0), .inr (5, [.ref (mm 1), .ref (mm 2), .ref (mm 3), .ref (mm 4), .int kp, .ref (mm 5), .int ty, .int th, .int at0, .int fa, .ref (mm 6), .int ts, .ref (mm 7), .ref (mm 8), .ref (mm 9), .int u.1])), ((mm 1), .inl (cI, 12, .inl xm_mk)), ((mm 2), .inl (cI, 80, .inl v)), ((mm 7), .inl (cI, 96, .inl u.2.1)), ((mm 8), .inl (cI, 96, .inl u.2.2.1)), ((mm 9), .inl (cI, 6, .inl u.2.2.2))]) A) A) ([.ref (mm 0)] : List Value).toArray s 0 0 A) (F0 m 148 lz [.int is2]) := by
                    intro is2 eis H locs hP hD hS lz hl
                    subst eis
                    refine lv_istore_n (lv' := [(3, .int (sn_is (lk_cl v n) v (sn_c (lk_cl v n) v i1) ff (i + 1))), (0, .ref (mm 0)), (1, .int (nI (ff + i))), (2, .int (cn_ng v i1)), (4, .int (sn_x v ff i))]) hx hb dX5_shownNumber_148 rfl hl (by decide) rfl (fun lz hl => ?_)
                    refine lv_bipush (v := 10) hx hb dX5_shownNumber_149 (by decide) ?_
                    refine lv_iload hx hb dX5_shownNumber_151 (lv_at hl 4 rfl) ?_
                    refine lv_imul hx hb dX5_shownNumber_153 ?_
                    refine lv_aload_n hx hb dX5_shownNumber_154 rfl (lv_at hl 1 rfl) ?_
                    refine va_get (D := (dC, dI)) (ci := 5) (v := .ref (mm 2)) (C := RX5) (T := TX5) (N := 16) hx hb hts hin5 hown hK hP 1 rfl rfl 1 (by decide) (hts (.fieldLink RX5 13 "TurnDigitsModel" "now" "[I") (by decide +kernel)) (fun _ h9 => h9) rfl dX5_shownNumber_155 ?_
                    refine lv_bipush (v := 8) hx hb dX5_shownNumber_158 (by decide) ?_
                    refine lv_iload_n hx hb dX5_shownNumber_160 rfl (lv_at hl 2 rfl) ?_
                    refine lv_iadd hx hb dX5_shownNumber_161 ?_
                    refine xm_topi (y := nI (8 + (ff + i))) (nI_add 8 (ff + i)) ?_
                    refine xm_iald (D := (dC, dI)) hx hb hK hP 5 0 (8 + (ff + i)) (v := v (8 + (ff + i))) rfl rfl (by decide) rfl (by omega) rfl dX5_shownNumber_162 ?_
                    refine lv_iadd hx hb dX5_shownNumber_163 ?_
                    refine lv_istore (lv' := [(4, .int ((10 * (sn_x v ff i)) + (v (8 + (ff + i))))), (3, .int (sn_is (lk_cl v n) v (sn_c (lk_cl v n) v i1) ff (i + 1))), (0, .ref (mm 0)), (1, .int (nI (ff + i))), (2, .int (cn_ng v i1))]) hx hb dX5_shownNumber_164 hl (by decide) rfl (fun lz hl => ?_)
                    refine lv_iinc (v := nI ((ff + i) + 1)) (lv' := [(1, .int (nI ((ff + i) + 1))), (4, .int ((10 * (sn_x v ff i)) + (v (8 + (ff + i))))), (3, .int (sn_is (lk_cl v n) v (sn_c (lk_cl v n) v i1) ff (i + 1))), (0, .ref (mm 0)), (2, .int (cn_ng v i1))]) hx hb dX5_shownNumber_166 hl (k := 3) rfl (nI_1 (ff + i)) (by decide) rfl (fun lz hl => ?_)
                    refine lv_goto (tgt := 111) hx hb dX5_shownNumber_169 (by decide) ?_
                    exact ih111 (i + 1) hlti (by omega) (sn_is (lk_cl v n) v (sn_c (lk_cl v n) v i1) ff (i + 1)) ((10 * (sn_x v ff i)) + (v (8 + (ff + i)))) rfl rfl  H locs hP hD hS lz (lv_sub hl [3, 0, 4, 2, 1] rfl)
                  refine lv_iload_n hx hb dX5_shownNumber_117 rfl (lv_at hl 3 rfl) ?_
                  refine lv_if_eq (tgt := 147) hx hb dX5_shownNumber_118 (by decide) (fun q118 => ?_) (fun q118 => ?_)
                  · refine lv_iconst (v := 0) hx hb dX5_shownNumber_147 (by decide) ?_
                    exact J148 0 (by show _ = (if sn_is (lk_cl v n) v (sn_c (lk_cl v n) v i1) ff i = 0 then 0 else if 10 ≤ v (8 + (ff + i)) then 0 else if (lk_cl v n) (ff + i) = 0 then 0 else 1); simp only [if_neg q114, if_pos q118]) H locs hP hD hS lz (lv_sub hl [0, 1, 2, 4] rfl)
                  · refine lv_aload_n hx hb dX5_shownNumber_121 rfl (lv_at hl 0 rfl) ?_
                    refine va_get (D := (dC, dI)) (ci := 5) (v := .ref (mm 2)) (C := RX5) (T := TX5) (N := 16) hx hb hts hin5 hown hK hP 1 rfl rfl 1 (by decide) (hts (.fieldLink RX5 13 "TurnDigitsModel" "now" "[I") (by decide +kernel)) (fun _ h9 => h9) rfl dX5_shownNumber_122 ?_
                    refine lv_bipush (v := 8) hx hb dX5_shownNumber_125 (by decide) ?_
                    refine lv_iload_n hx hb dX5_shownNumber_127 rfl (lv_at hl 1 rfl) ?_
                    refine lv_iadd hx hb dX5_shownNumber_128 ?_
                    refine xm_topi (y := nI (8 + (ff + i))) (nI_add 8 (ff + i)) ?_
                    refine xm_iald (D := (dC, dI)) hx hb hK hP 5 0 (8 + (ff + i)) (v := v (8 + (ff + i))) rfl rfl (by decide) rfl (by omega) rfl dX5_shownNumber_129 ?_
                    refine lv_bipush (v := 10) hx hb dX5_shownNumber_130 (by decide) ?_
                    refine lv_icmp_ge (tgt := 147) hx hb dX5_shownNumber_132 (by decide) (fun q132 => ?_) (fun q132 => ?_)
                    · refine lv_iconst (v := 0) hx hb dX5_shownNumber_147 (by decide) ?_
                      exact J148 0 (by show _ = (if sn_is (lk_cl v n) v (sn_c (lk_cl v n) v i1) ff i = 0 then 0 else if 10 ≤ v (8 + (ff + i)) then 0 else if (lk_cl v n) (ff + i) = 0 then 0 else 1); simp only [if_neg q114, if_neg q118, if_pos q132]) H locs hP hD hS lz (lv_sub hl [0, 1, 2, 4] rfl)
                    · refine lv_aload_n hx hb dX5_shownNumber_135 rfl (lv_at hl 0 rfl) ?_
                      refine lv_iload_n hx hb dX5_shownNumber_136 rfl (lv_at hl 1 rfl) ?_
                      have hPc := hP.sub (ws' := [((mm 0), .inr (5, [.ref (mm 1), .ref (mm 2), .ref (mm 3), .ref (mm 4), .int kp, .ref (mm 5), .int ty, .int th, .int at0, .int fa, .ref (mm 6), .int ts, .ref (mm 7), .ref (mm 8), .ref (mm 9), .int (nI n)])), ((mm 1), .inl (cI, 12, .inl xm_mk)), ((mm 2), .inl (cI, 80, .inl v)), ((mm 8), .inl (cI, 96, .inl (fm_fl (fs_li v) li n)))]) [1, 0, 5, 3] rfl
                      refine W.callV ((va_runV (As := [.int (nI (ff + i))]) (rest := []) ⟨hx, hb, hml, hown, hts⟩ (c_X5_isClear l dC dI cI cS cJ tt mm kp ty th at0 fa ts (fs_li v) li n v (ff + i)) (cwV 1 hts gX5_shownNumber_X5_isClear rfl rfl rfl (by decide +kernel) ⟨Nat.le_of_ble_eq_true rfl, Nat.le_of_ble_eq_true rfl⟩) ⟨xm_Rblind, va_recv hK hPc (ci := 5) (q0 := 0) rfl rfl, fun U hU hW => ⟨rfl, by rw [hU]; exact hPc, hE.go hS (fun _ q => q.elim) hU hW, ⟨⟨by omega, hok _ (by omega)⟩, ⟨by have := hvo.2.1; omega, hvo.2.2.1⟩, hvo.1⟩⟩⟩ rfl rfl hl.1 rfl (lv_room (Nat.le_of_ble_eq_true rfl)) dX5_shownNumber_137 ⟨Nat.zero_le _, Nat.zero_le _⟩).run) ?_
                      refine W.eq (g2 := F0 m 140 lz (.int (lk_clr (fr_gp (fs_li v) n) (fr_ls (fs_li v) n) (v 2) (v 4) (v 5 * v 1) v (ff + i)) :: [])) rfl ?_
                      refine xm_topi (y := ((lk_cl v n) (ff + i))) rfl ?_
                      refine lv_if_eq (tgt := 147) hx hb dX5_shownNumber_140 (by decide) (fun q140 => ?_) (fun q140 => ?_)
                      · refine lv_iconst (v := 0) hx hb dX5_shownNumber_147 (by decide) ?_
                        exact J148 0 (by show _ = (if sn_is (lk_cl v n) v (sn_c (lk_cl v n) v i1) ff i = 0 then 0 else if 10 ≤ v (8 + (ff + i)) then 0 else if (lk_cl v n) (ff + i) = 0 then 0 else 1); simp only [if_neg q114, if_neg q118, if_neg q132, if_pos q140]) H locs hP hD hS lz (lv_sub hl [0, 1, 2, 4] rfl)
                      · refine lv_iconst (v := 1) hx hb dX5_shownNumber_143 (by decide) ?_
                        refine lv_goto (tgt := 148) hx hb dX5_shownNumber_144 (by decide) ?_
                        exact J148 1 (by show _ = (if sn_is (lk_cl v n) v (sn_c (lk_cl v n) v i1) ff i = 0 then 0 else if 10 ≤ v (8 + (ff + i)) then 0 else if (lk_cl v n) (ff + i) = 0 then 0 else 1); simp only [if_neg q114, if_neg q118, if_neg q132, if_neg q140]) H locs hP hD hS lz (lv_sub hl [0, 1, 2, 4] rfl)
            exact L111 ((6 - ff) + 1) 0 (Nat.zero_le _) (by omega) (sn_c (lk_cl v n) v i1) 0 rfl rfl  H locs hP hD hS lz (lv_sub hl [2, 3, 4, 1, 0] rfl)
          refine lv_iload_n hx hb dX5_shownNumber_92 rfl (lv_at hl 3 rfl) ?_
          refine lv_if_eq (tgt := 106) hx hb dX5_shownNumber_93 (by decide) (fun q93 => ?_) (fun q93 => ?_)
          · refine lv_iconst (v := 0) hx hb dX5_shownNumber_106 (by decide) ?_
            exact J107 0 (by unfold sn_c; rw [← eff, if_pos q93]) H locs hP hD hS lz (lv_sub hl [1, 0, 2] rfl)
          · refine lv_iload_n hx hb dX5_shownNumber_96 rfl (lv_at hl 0 rfl) ?_
            refine lv_bipush (v := 6) hx hb dX5_shownNumber_97 (by decide) ?_
            refine lv_icmp_ge (tgt := 106) hx hb dX5_shownNumber_99 (by decide) (fun q99 => ?_) (fun q99 => ?_)
            · refine lv_iconst (v := 0) hx hb dX5_shownNumber_106 (by decide) ?_
              exact J107 0 (by unfold sn_c; rw [← eff, if_neg q93, if_neg (Int32.not_lt.mpr q99)]) H locs hP hD hS lz (lv_sub hl [1, 0, 2] rfl)
            · refine lv_iconst (v := 1) hx hb dX5_shownNumber_102 (by decide) ?_
              refine lv_goto (tgt := 107) hx hb dX5_shownNumber_103 (by decide) ?_
              exact J107 1 (by unfold sn_c; rw [← eff, if_neg q93, if_pos (Int32.not_le.mp q99)]) H locs hP hD hS lz (lv_sub hl [1, 0, 2] rfl)
        refine lv_iload_n hx hb dX5_shownNumber_80 rfl (lv_at hl 2 rfl) ?_
        refine lv_iload_n hx hb dX5_shownNumber_81 rfl (lv_at hl 3 rfl) ?_
        refine lv_if_eq (tgt := 89) hx hb dX5_shownNumber_82 (by decide) (fun q82 => ?_) (fun q82 => ?_)
        · refine lv_iconst (v := 0) hx hb dX5_shownNumber_89 (by decide) ?_
          refine lv_iadd hx hb dX5_shownNumber_90 ?_
          refine xm_topi (y := nI i1) (Int32.add_zero _) ?_
          exact J91 i1 (by simp only [cn_ff, if_pos q82]) H locs hP hD hS lz (lv_sub hl [1, 3, 0] rfl)
        · refine lv_iconst (v := 1) hx hb dX5_shownNumber_85 (by decide) ?_
          refine lv_goto (tgt := 90) hx hb dX5_shownNumber_86 (by decide) ?_
          refine lv_iadd hx hb dX5_shownNumber_90 ?_
          refine xm_topi (y := nI (i1 + 1)) (nI_add i1 1) ?_
          exact J91 (i1 + 1) (by simp only [cn_ff, if_neg q82]) H locs hP hD hS lz (lv_sub hl [1, 3, 0] rfl)
      refine lv_iload_n hx hb dX5_shownNumber_62 rfl (lv_at hl 0 rfl) ?_
      refine lv_if_eq (tgt := 74) hx hb dX5_shownNumber_63 (by decide) (fun q63 => ?_) (fun q63 => ?_)
      · refine lv_iconst (v := 1) hx hb dX5_shownNumber_74 (by decide) ?_
        refine lv_goto (tgt := 79) hx hb dX5_shownNumber_75 (by decide) ?_
        exact J79 1 (by simp only [sn_b, if_pos q63]) H locs hP hD hS lz (lv_sub hl [1, 2, 0] rfl)
      · have hi16 : i1 < 6 := by rcases Nat.lt_or_ge i1 6 with h | h; exact h; exact absurd (by unfold cn_ng; exact if_pos (nI_le (a := 6) (b := i1) h (by omega))) q63
        refine lv_aload_n hx hb dX5_shownNumber_66 rfl (lv_at hl 1 rfl) ?_
        refine lv_iload_n hx hb dX5_shownNumber_67 rfl (lv_at hl 2 rfl) ?_
        have hPc := hP.sub (ws' := [((mm 0), .inr (5, [.ref (mm 1), .ref (mm 2), .ref (mm 3), .ref (mm 4), .int kp, .ref (mm 5), .int ty, .int th, .int at0, .int fa, .ref (mm 6), .int ts, .ref (mm 7), .ref (mm 8), .ref (mm 9), .int (nI n)])), ((mm 1), .inl (cI, 12, .inl xm_mk)), ((mm 2), .inl (cI, 80, .inl v)), ((mm 8), .inl (cI, 96, .inl (fm_fl (fs_li v) li n)))]) [1, 0, 5, 3] rfl
        refine W.callV ((va_runV (As := [.int (nI i1)]) (rest := []) ⟨hx, hb, hml, hown, hts⟩ (c_X5_isClear l dC dI cI cS cJ tt mm kp ty th at0 fa ts (fs_li v) li n v i1) (cwV 1 hts gX5_shownNumber_X5_isClear rfl rfl rfl (by decide +kernel) ⟨Nat.le_of_ble_eq_true rfl, Nat.le_of_ble_eq_true rfl⟩) ⟨xm_Rblind, va_recv hK hPc (ci := 5) (q0 := 0) rfl rfl, fun U hU hW => ⟨rfl, by rw [hU]; exact hPc, hE.go hS (fun _ q => q.elim) hU hW, ⟨⟨hi16, hok _ hi16⟩, ⟨by have := hvo.2.1; omega, hvo.2.2.1⟩, hvo.1⟩⟩⟩ rfl rfl hl.1 rfl (lv_room (Nat.le_of_ble_eq_true rfl)) dX5_shownNumber_68 ⟨Nat.zero_le _, Nat.zero_le _⟩).run) ?_
        refine W.eq (g2 := F0 m 71 lz (.int (lk_clr (fr_gp (fs_li v) n) (fr_ls (fs_li v) n) (v 2) (v 4) (v 5 * v 1) v i1) :: [])) rfl ?_
        refine xm_topi (y := ((lk_cl v n) i1)) rfl ?_
        refine lv_if_eq (tgt := 78) hx hb dX5_shownNumber_71 (by decide) (fun q71 => ?_) (fun q71 => ?_)
        · refine lv_iconst (v := 0) hx hb dX5_shownNumber_78 (by decide) ?_
          exact J79 0 (by simp only [sn_b, if_neg q63, if_pos q71]) H locs hP hD hS lz (lv_sub hl [1, 2, 0] rfl)
        · refine lv_iconst (v := 1) hx hb dX5_shownNumber_74 (by decide) ?_
          refine lv_goto (tgt := 79) hx hb dX5_shownNumber_75 (by decide) ?_
          exact J79 1 (by simp only [sn_b, if_neg q63, if_neg q71]) H locs hP hD hS lz (lv_sub hl [1, 2, 0] rfl)
    refine lv_iload_n hx hb dX5_shownNumber_36 rfl (lv_at hl 1 rfl) ?_
    refine lv_bipush (v := 6) hx hb dX5_shownNumber_37 (by decide) ?_
    refine lv_icmp_ge (tgt := 60) hx hb dX5_shownNumber_39 (by decide) (fun q39 => ?_) (fun q39 => ?_)
    · refine lv_iconst (v := 0) hx hb dX5_shownNumber_60 (by decide) ?_
      exact J61 0 (by simp only [cn_ng, if_pos q39]) H locs hP hD hS lz (lv_sub hl [0, 1] rfl)
    · have hi16 : i1 < 6 := xm_lt (N := 6) hi1 (by decide) q39
      refine lv_aload_n hx hb dX5_shownNumber_42 rfl (lv_at hl 0 rfl) ?_
      refine va_get (D := (dC, dI)) (ci := 5) (v := .ref (mm 2)) (C := RX5) (T := TX5) (N := 16) hx hb hts hin5 hown hK hP 1 rfl rfl 1 (by decide) (hts (.fieldLink RX5 13 "TurnDigitsModel" "now" "[I") (by decide +kernel)) (fun _ h9 => h9) rfl dX5_shownNumber_43 ?_
      refine lv_bipush (v := 8) hx hb dX5_shownNumber_46 (by decide) ?_
      refine lv_iload_n hx hb dX5_shownNumber_48 rfl (lv_at hl 1 rfl) ?_
      refine lv_iadd hx hb dX5_shownNumber_49 ?_
      refine xm_topi (y := nI (8 + i1)) (nI_add 8 i1) ?_
      refine xm_iald (D := (dC, dI)) hx hb hK hP 5 0 (8 + i1) (v := v (8 + i1)) rfl rfl (by decide) rfl (by omega) rfl dX5_shownNumber_50 ?_
      refine lv_bipush (v := 10) hx hb dX5_shownNumber_51 (by decide) ?_
      refine lv_icmp_ne (tgt := 60) hx hb dX5_shownNumber_53 (by decide) (fun q53 => ?_) (fun q53 => ?_)
      · refine lv_iconst (v := 0) hx hb dX5_shownNumber_60 (by decide) ?_
        exact J61 0 (by simp only [cn_ng, if_neg q39, if_neg q53]) H locs hP hD hS lz (lv_sub hl [0, 1] rfl)
      · refine lv_iconst (v := 1) hx hb dX5_shownNumber_56 (by decide) ?_
        refine lv_goto (tgt := 61) hx hb dX5_shownNumber_57 (by decide) ?_
        exact J61 1 (by simp only [cn_ng, if_neg q39, if_pos q53]) H locs hP hD hS lz (lv_sub hl [0, 1] rfl)
  refine lv_iconst (v := 0) hx hb dX5_shownNumber_8 (by decide) ?_
  refine lv_istore_n (lv' := [(1, .int 0), (0, .ref (mm 0))]) hx hb dX5_shownNumber_9 rfl hl (by decide) rfl (fun lz hl => ?_)
  have L10 : ∀ (zz i : Nat), i ≤ 6 → 6 + 1 ≤ i + zz → (cn_st v (6 - i) i = cn_st v 6 0) → ∀ (H : Heap) (locs : List Loc), va_P (dC, dI) vwCl [((mm 1), .inl (cI, 12, .inl xm_mk)), ((mm 0), .inr (5, [.ref (mm 1), .ref (mm 2), .ref (mm 3), .ref (mm 4), .int kp, .ref (mm 5), .int ty, .int th, .int at0, .int fa, .ref (mm 6), .int ts, .ref (mm 7), .ref (mm 8), .ref (mm 9), .int (nI n)])), ((mm 7), .inl (cI, 96, .inl (fm_fl (fs_ow v) ow n))), ((mm 8), .inl (cI, 96, .inl (fm_fl (fs_li v) li n))), ((mm 9), .inl (cI, 6, .inl u_4)), ((mm 2), .inl (cI, 80, .inl v))] H → va_D A [((mm 1), .inl (cI, 12, .inl xm_mk)), ((mm 0), .inr (5, [.ref (mm 1), .ref (mm 2), .ref (mm 3), .ref (mm 4), .int kp, .ref (mm 5), .int ty, .int th, .int at0, .int fa, .ref (mm 6), .int ts, .ref (mm 7), .ref (mm 8), .ref (mm 9), .int (nI n)])), ((mm 7), .inl (cI, 96, .inl (fm_fl (fs_ow v) ow n))), ((mm 8), .inl (cI, 96, .inl (fm_fl (fs_li v) li n))), ((mm 9), .inl (cI, 6, .inl u_4)), ((mm 2), .inl (cI, 80, .inl v))] → va_S A s.heap H locs → ∀ (lz : Array Slot), lv_has lz 5 [(0, .ref (mm 0)), (1, .int (nI i))] → W p l e (headSpec wsX5_shownNumber ({ frames := 4, cells := 0, slots := 0, locals := 92 } : Room)).room s m ([.ref (mm 0)] : List Value).toArray below meth c H locs 0 0 (MQ below (va_Qi (fun (r : Int32) (u : Int32 × (Nat → Int32) × (Nat → Int32) × (Nat → Int32)) => r = cn_all (lk_cl v n) v) (xm_B (dC, dI) (fun (u : Int32 × (Nat → Int32) × (Nat → Int32) × (Nat → Int32)) => [((mm 0), .inr (5, [.ref (mm 1), .ref (mm 2), .ref (mm 3), .ref (mm 4), .int kp, .ref (mm 5), .int ty, .int th, .int at0, .int fa, .ref (mm 6), .int ts, .ref (mm 7), .ref (mm 8), .ref (mm 9), .int u.1])), ((mm 1), .inl (cI, 12, .inl xm_mk)), ((mm 2), .inl (cI, 80, .inl v)), ((mm 7), .inl (cI, 96, .inl u.2.1)), ((mm 8), .inl (cI, 96, .inl u.2.2.1)), ((mm 9), .inl (cI, 6, .inl u.2.2.2))]) A) A) ([.ref (mm 0)] : List Value).toArray s 0 0 A) (F0 m 10 lz []) := by
    intro zz
    induction zz with
    | zero => intro i hii hni; exact absurd hni (by omega)
    | succ zz ih10 =>
      intro i hii hni   hstl H locs hP hD hS lz hl
      refine lv_iload_n hx hb dX5_shownNumber_10 rfl (lv_at hl 1 rfl) ?_
      refine lv_bipush (v := 6) hx hb dX5_shownNumber_11 (by decide) ?_
      refine lv_icmp_ge (tgt := 36) hx hb dX5_shownNumber_13 (by decide) (fun q13 => ?_) (fun q13 => ?_)
      · have hNi : 6 = i := (xm_end (N := 6) hii (by decide) q13).symm
        subst hNi
        exact J36 6 (Nat.le_refl 6) (by rw [← hstl, Nat.sub_self]; rfl) H locs hP hD hS lz (lv_sub hl [0, 1] rfl)
      · have hlti : i < 6 := xm_lt (N := 6) hii (by decide) q13
        refine lv_aload_n hx hb dX5_shownNumber_16 rfl (lv_at hl 0 rfl) ?_
        refine va_get (D := (dC, dI)) (ci := 5) (v := .ref (mm 2)) (C := RX5) (T := TX5) (N := 16) hx hb hts hin5 hown hK hP 1 rfl rfl 1 (by decide) (hts (.fieldLink RX5 13 "TurnDigitsModel" "now" "[I") (by decide +kernel)) (fun _ h9 => h9) rfl dX5_shownNumber_17 ?_
        refine lv_bipush (v := 8) hx hb dX5_shownNumber_20 (by decide) ?_
        refine lv_iload_n hx hb dX5_shownNumber_22 rfl (lv_at hl 1 rfl) ?_
        refine lv_iadd hx hb dX5_shownNumber_23 ?_
        refine xm_topi (y := nI (8 + i)) (nI_add 8 i) ?_
        refine xm_iald (D := (dC, dI)) hx hb hK hP 5 0 (8 + i) (v := v (8 + i)) rfl rfl (by decide) rfl (by omega) rfl dX5_shownNumber_24 ?_
        refine lv_bipush (v := 11) hx hb dX5_shownNumber_25 (by decide) ?_
        refine lv_icmp_ne (tgt := 36) hx hb dX5_shownNumber_27 (by decide) (fun q27 => ?_) (fun q27 => ?_)
        · exact J36 i (by omega) (by rw [← hstl, cn_st_s hlti, if_neg q27]) H locs hP hD hS lz (lv_sub hl [0, 1] rfl)
        · refine lv_iinc (v := nI (i + 1)) (lv' := [(1, .int (nI (i + 1))), (0, .ref (mm 0))]) hx hb dX5_shownNumber_30 hl (k := 1) rfl (nI_1 i) (by decide) rfl (fun lz hl => ?_)
          refine lv_goto (tgt := 10) hx hb dX5_shownNumber_33 (by decide) ?_
          exact ih10 (i + 1) hlti (by omega)   (by rw [← hstl, cn_st_s hlti, if_pos q27]) H locs hP hD hS lz (lv_sub hl [1, 0] rfl)
  exact L10 (6 + 1) 0 (by omega) (by omega)   rfl H locs hP hD hS lz (lv_sub hl [1, 0] rfl)

set_option maxHeartbeats 4000000 in
set_option maxRecDepth 100000 in
theorem c_X5_even (l : Launch) (dC : Nat → ClassId) (dI : Nat → Nat → Nat) (cI cS cJ : ClassId) (tt : Nat → Nat) (sz : Nat) (mm : Nat → Nat) (kp : Int32) (ty : Int32) (th : Int32) (at0 : Int32) (fa : Int32) (ts : Int32) (fr : Int32) (v : Nat → Int32) (ow : Nat → Int32) (li : Nat → Int32) (cr : Nat → Int32) (n : Nat) : Met l yX5_even wsX5_even ({ frames := 3, cells := 0, slots := 0, locals := 68 } : Room) (va_Pc [.ref (mm 0)] (xm_M (dC, dI) cI cS cJ tt [((mm 0), .inr (5, [.ref (mm 1), .ref (mm 2), .ref (mm 3), .ref (mm 4), .int kp, .ref (mm 5), .int ty, .int th, .int at0, .int fa, .ref (mm 6), .int ts, .ref (mm 7), .ref (mm 8), .ref (mm 9), .int fr])), ((mm 2), .inl (cI, 80, .inl v)), ((mm 7), .inl (cI, 96, .inl ow)), ((mm 8), .inl (cI, 96, .inl li)), ((mm 9), .inl (cI, 6, .inl cr))] sz (vo_f v n))) (va_Qd (fun (r : UInt64) (u : Int32 × (Nat → Int32) × (Nat → Int32) × (Nat → Int32)) => r = lk_ev v n) (xm_B (dC, dI) (fun (u : Int32 × (Nat → Int32) × (Nat → Int32) × (Nat → Int32)) => [((mm 0), .inr (5, [.ref (mm 1), .ref (mm 2), .ref (mm 3), .ref (mm 4), .int kp, .ref (mm 5), .int ty, .int th, .int at0, .int fa, .ref (mm 6), .int ts, .ref (mm 7), .ref (mm 8), .ref (mm 9), .int u.1])), ((mm 2), .inl (cI, 80, .inl v)), ((mm 7), .inl (cI, 96, .inl u.2.1)), ((mm 8), .inl (cI, 96, .inl u.2.2.1)), ((mm 9), .inl (cI, 6, .inl u.2.2.2))]) (va_A [((mm 0), .inr (5, [.ref (mm 1), .ref (mm 2), .ref (mm 3), .ref (mm 4), .int kp, .ref (mm 5), .int ty, .int th, .int at0, .int fa, .ref (mm 6), .int ts, .ref (mm 7), .ref (mm 8), .ref (mm 9), .int fr])), ((mm 2), .inl (cI, 80, .inl v)), ((mm 7), .inl (cI, 96, .inl ow)), ((mm 8), .inl (cI, 96, .inl li)), ((mm 9), .inl (cI, 6, .inl cr))] sz)) (va_A [((mm 0), .inr (5, [.ref (mm 1), .ref (mm 2), .ref (mm 3), .ref (mm 4), .int kp, .ref (mm 5), .int ty, .int th, .int at0, .int fa, .ref (mm 6), .int ts, .ref (mm 7), .ref (mm 8), .ref (mm 9), .int fr])), ((mm 2), .inl (cI, 80, .inl v)), ((mm 7), .inl (cI, 96, .inl ow)), ((mm 8), .inl (cI, 96, .inl li)), ((mm 9), .inl (cI, 6, .inl cr))] sz)) 0 0 (va_A [((mm 0), .inr (5, [.ref (mm 1), .ref (mm 2), .ref (mm 3), .ref (mm 4), .int kp, .ref (mm 5), .int ty, .int th, .int at0, .int fa, .ref (mm 6), .int ts, .ref (mm 7), .ref (mm 8), .ref (mm 9), .int fr])), ((mm 2), .inl (cI, 80, .inl v)), ((mm 7), .inl (cI, 96, .inl ow)), ((mm 8), .inl (cI, 96, .inl li)), ((mm 9), .inl (cI, 6, .inl cr))] sz) := by
  refine Met.ofW (cc := cX5_even) (maxL := 5) (ret := (some .double)) (by decide) rfl ?_
  intro p e s m args below meth c s₁ B hml hv
  obtain ⟨rfl, hsz, hP, hE, hD0, hpre⟩ := hv
  have hx := B.exec
  have hb := B.bytes
  have hr := B.returns
  have hts := atoms_spec (ws := wsX5_even) B.pre
  have hown : s.vm.findClass RX5 = some m.cls := findClass_of_methodNamed B.named
  have hlocks := B.notSynchronized
  have hK := hE.1
  subst hsz
  have hD := hD0.self (sz := s.heap.size)
  generalize hAe : va_A [((mm 0), .inr (5, [.ref (mm 1), .ref (mm 2), .ref (mm 3), .ref (mm 4), .int kp, .ref (mm 5), .int ty, .int th, .int at0, .int fa, .ref (mm 6), .int ts, .ref (mm 7), .ref (mm 8), .ref (mm 9), .int fr])), ((mm 2), .inl (cI, 80, .inl v)), ((mm 7), .inl (cI, 96, .inl ow)), ((mm 8), .inl (cI, 96, .inl li)), ((mm 9), .inl (cI, 6, .inl cr))] s.heap.size = A at hD hE ⊢
  have hA : ∀ q : Nat, s.heap.size ≤ q → A q := fun q h => by rw [← hAe]; exact Or.inr h
  have hS : va_S A s.heap s.heap [] := va_S.rf
  have hP : va_P (dC, dI) vwCl [((mm 0), .inr (5, [.ref (mm 1), .ref (mm 2), .ref (mm 3), .ref (mm 4), .int kp, .ref (mm 5), .int ty, .int th, .int at0, .int fa, .ref (mm 6), .int ts, .ref (mm 7), .ref (mm 8), .ref (mm 9), .int fr])), ((mm 2), .inl (cI, 80, .inl v)), ((mm 7), .inl (cI, 96, .inl ow)), ((mm 8), .inl (cI, 96, .inl li)), ((mm 9), .inl (cI, 6, .inl cr))] s.heap := hP
  have hin5 : ∀ w ∈ u_ws RX5 TX5 16, w ∈ wsX5_even := by decide +kernel
  have hl := lv_entry [.ref (mm 0)] (n := 5) (Nat.le_of_ble_eq_true rfl)
  rw [lg_entry_eq]
  generalize (lg_sl [.ref (mm 0)] ++ List.replicate (5 - (lg_sl [.ref (mm 0)]).length) Slot.unset).toArray = lz at hl ⊢
  have hl : lv_has lz 5 [(0, .ref (mm 0))] := hl
  have hvo := hpre
  have hlt9 : ∀ j, j < 6 → 0 ≤ ((fun j => fm_light (v 2) (fs_ls v n j)) j).toInt ∧ ((fun j => fm_light (v 2) (fs_ls v n j)) j).toInt ≤ 1000 := fun j _ => lt_in hvo.1 (by have := hvo.2.1; omega) hvo.2.2.1 j
  refine lv_aload_n hx hb dX5_even_0 rfl (lv_at hl 0 rfl) ?_
  refine lv_aload_n hx hb dX5_even_1 rfl (lv_at hl 0 rfl) ?_
  refine va_get (D := (dC, dI)) (ci := 5) (v := .ref (mm 2)) (C := RX5) (T := TX5) (N := 16) hx hb hts hin5 hown hK hP 0 rfl rfl 1 (by decide) (hts (.fieldLink RX5 13 "TurnDigitsModel" "now" "[I") (by decide +kernel)) (fun _ h9 => h9) rfl dX5_even_2 ?_
  have hPc := hP.sub (ws' := [((mm 0), .inr (5, [.ref (mm 1), .ref (mm 2), .ref (mm 3), .ref (mm 4), .int kp, .ref (mm 5), .int ty, .int th, .int at0, .int fa, .ref (mm 6), .int ts, .ref (mm 7), .ref (mm 8), .ref (mm 9), .int fr])), ((mm 7), .inl (cI, 96, .inl ow)), ((mm 8), .inl (cI, 96, .inl li)), ((mm 9), .inl (cI, 6, .inl cr)), ((mm 2), .inl (cI, 80, .inl v))]) [0, 2, 3, 4, 1] rfl
  have hDc := hD.sub (ws' := [((mm 0), .inr (5, [.ref (mm 1), .ref (mm 2), .ref (mm 3), .ref (mm 4), .int kp, .ref (mm 5), .int ty, .int th, .int at0, .int fa, .ref (mm 6), .int ts, .ref (mm 7), .ref (mm 8), .ref (mm 9), .int fr])), ((mm 7), .inl (cI, 96, .inl ow)), ((mm 8), .inl (cI, 96, .inl li)), ((mm 9), .inl (cI, 6, .inl cr)), ((mm 2), .inl (cI, 80, .inl v))]) [0, 2, 3, 4, 1] (by decide) rfl
  have hFc := va_free (wc := [((mm 0), .inr (5, [.ref (mm 1), .ref (mm 2), .ref (mm 3), .ref (mm 4), .int kp, .ref (mm 5), .int ty, .int th, .int at0, .int fa, .ref (mm 6), .int ts, .ref (mm 7), .ref (mm 8), .ref (mm 9), .int fr])), ((mm 7), .inl (cI, 96, .inl ow)), ((mm 8), .inl (cI, 96, .inl li)), ((mm 9), .inl (cI, 6, .inl cr)), ((mm 2), .inl (cI, 80, .inl v))]) hD hS hA [0, 2, 3, 4, 1] rfl
  refine va_callv (va_runV (As := [.ref (mm 2)]) (rest := []) ⟨hx, hb, hml, hown, hts⟩ (c_X5_frames l dC dI cI cS cJ tt s.heap.size mm kp ty th at0 fa ts fr (mm 2) v ow li cr n) (cwV 1 hts gX5_even_X5_frames rfl rfl rfl (by decide +kernel) ⟨Nat.le_of_ble_eq_true rfl, Nat.le_of_ble_eq_true rfl⟩) ⟨xm_Mblind, va_recv hK hPc (ci := 5) (q0 := 0) rfl rfl, fun U hU hW => ⟨rfl, by rw [hU], by rw [hU]; exact hPc, hE.go hS hFc hU hW, hDc.weaken (fun _ _ _ _ => trivial), hvo⟩⟩ rfl rfl hl.1 rfl (lv_room (Nat.le_of_ble_eq_true rfl)) dX5_even_5 ⟨Nat.zero_le _, Nat.zero_le _⟩) hS (fun q _ h => hFc q h) hFc (fun u t H1 locs ht hvm hw hB hz1 hk1 hS => ?_)
  obtain ⟨u_1, u_2, u_3, u_4⟩ := u
  obtain ⟨hP1, hD1⟩ := hB
  rw [ht] at hP1
  obtain ⟨hw_5, hw_6, hw_7⟩ := hw
  have hw_5 : u_1 = nI n := hw_5
  subst hw_5
  have hw_6 : u_2 = fm_fl (fs_ow v) ow n := hw_6
  subst hw_6
  have hw_7 : u_3 = fm_fl (fs_li v) li n := hw_7
  subst hw_7
  obtain ⟨hP, hD⟩ := va_join (wr := []) (w1 := [((mm 0), .inr (5, [.ref (mm 1), .ref (mm 2), .ref (mm 3), .ref (mm 4), .int kp, .ref (mm 5), .int ty, .int th, .int at0, .int fa, .ref (mm 6), .int ts, .ref (mm 7), .ref (mm 8), .ref (mm 9), .int (nI n)])), ((mm 7), .inl (cI, 96, .inl (fm_fl (fs_ow v) ow n))), ((mm 8), .inl (cI, 96, .inl (fm_fl (fs_li v) li n))), ((mm 9), .inl (cI, 6, .inl u_4)), ((mm 2), .inl (cI, 80, .inl v))]) hP hD [0, 2, 3, 4, 1] [] rfl rfl (by decide) (by decide) hk1 hFc hP1 hD1
  generalize H1 = H at hP hS ⊢
  have hP : va_P (dC, dI) vwCl [((mm 0), .inr (5, [.ref (mm 1), .ref (mm 2), .ref (mm 3), .ref (mm 4), .int kp, .ref (mm 5), .int ty, .int th, .int at0, .int fa, .ref (mm 6), .int ts, .ref (mm 7), .ref (mm 8), .ref (mm 9), .int (nI n)])), ((mm 7), .inl (cI, 96, .inl (fm_fl (fs_ow v) ow n))), ((mm 8), .inl (cI, 96, .inl (fm_fl (fs_li v) li n))), ((mm 9), .inl (cI, 6, .inl u_4)), ((mm 2), .inl (cI, 80, .inl v))] H := hP
  have hD : va_D A [((mm 0), .inr (5, [.ref (mm 1), .ref (mm 2), .ref (mm 3), .ref (mm 4), .int kp, .ref (mm 5), .int ty, .int th, .int at0, .int fa, .ref (mm 6), .int ts, .ref (mm 7), .ref (mm 8), .ref (mm 9), .int (nI n)])), ((mm 7), .inl (cI, 96, .inl (fm_fl (fs_ow v) ow n))), ((mm 8), .inl (cI, 96, .inl (fm_fl (fs_li v) li n))), ((mm 9), .inl (cI, 6, .inl u_4)), ((mm 2), .inl (cI, 80, .inl v))] := hD
  refine lv_iconst (v := (-1)) hx hb dX5_even_8 (by decide) ?_
  refine lv_istore_n (lv' := [(1, .int (-1)), (0, .ref (mm 0))]) hx hb dX5_even_9 rfl hl (by decide) rfl (fun lz hl => ?_)
  refine lv_iconst (v := 0) hx hb dX5_even_10 (by decide) ?_
  refine lv_istore_n (lv' := [(2, .int 0), (1, .int (-1)), (0, .ref (mm 0))]) hx hb dX5_even_11 rfl hl (by decide) rfl (fun lz hl => ?_)
  refine lv_iconst (v := 0) hx hb dX5_even_12 (by decide) ?_
  refine lv_istore_n (lv' := [(3, .int 0), (2, .int 0), (1, .int (-1)), (0, .ref (mm 0))]) hx hb dX5_even_13 rfl hl (by decide) rfl (fun lz hl => ?_)
  have L14 : ∀ (zz i : Nat), i ≤ 6 → 6 + 1 ≤ i + zz → ∀ (x1 : Int32) (x2 : Int32), x1 = me_l (fun j => v (14 + j)) (fun j => fm_light (v 2) (fs_ls v n j)) i → x2 = le_g (fun j => v (14 + j)) (fun j => fm_light (v 2) (fs_ls v n j)) i → ∀ (H : Heap) (locs : List Loc), va_P (dC, dI) vwCl [((mm 0), .inr (5, [.ref (mm 1), .ref (mm 2), .ref (mm 3), .ref (mm 4), .int kp, .ref (mm 5), .int ty, .int th, .int at0, .int fa, .ref (mm 6), .int ts, .ref (mm 7), .ref (mm 8), .ref (mm 9), .int (nI n)])), ((mm 7), .inl (cI, 96, .inl (fm_fl (fs_ow v) ow n))), ((mm 8), .inl (cI, 96, .inl (fm_fl (fs_li v) li n))), ((mm 9), .inl (cI, 6, .inl u_4)), ((mm 2), .inl (cI, 80, .inl v))] H → va_D A [((mm 0), .inr (5, [.ref (mm 1), .ref (mm 2), .ref (mm 3), .ref (mm 4), .int kp, .ref (mm 5), .int ty, .int th, .int at0, .int fa, .ref (mm 6), .int ts, .ref (mm 7), .ref (mm 8), .ref (mm 9), .int (nI n)])), ((mm 7), .inl (cI, 96, .inl (fm_fl (fs_ow v) ow n))), ((mm 8), .inl (cI, 96, .inl (fm_fl (fs_li v) li n))), ((mm 9), .inl (cI, 6, .inl u_4)), ((mm 2), .inl (cI, 80, .inl v))] → va_S A s.heap H locs → ∀ (lz : Array Slot), lv_has lz 5 [(0, .ref (mm 0)), (1, .int x1), (2, .int x2), (3, .int (nI i))] → W p l e (headSpec wsX5_even ({ frames := 3, cells := 0, slots := 0, locals := 68 } : Room)).room s m ([.ref (mm 0)] : List Value).toArray below meth c H locs 0 0 (MQ below (va_Qd (fun (r : UInt64) (u : Int32 × (Nat → Int32) × (Nat → Int32) × (Nat → Int32)) => r = lk_ev v n) (xm_B (dC, dI) (fun (u : Int32 × (Nat → Int32) × (Nat → Int32) × (Nat → Int32)) => [((mm 0), .inr (5, [.ref (mm 1), .ref (mm 2), .ref (mm 3), .ref (mm 4), .int kp, .ref (mm 5), .int ty, .int th, .int at0, .int fa, .ref (mm 6), .int ts, .ref (mm 7), .ref (mm 8), .ref (mm 9), .int u.1])), ((mm 2), .inl (cI, 80, .inl v)), ((mm 7), .inl (cI, 96, .inl u.2.1)), ((mm 8), .inl (cI, 96, .inl u.2.2.1)), ((mm 9), .inl (cI, 6, .inl u.2.2.2))]) A) A) ([.ref (mm 0)] : List Value).toArray s 0 0 A) (F0 m 14 lz []) := by
    intro zz
    induction zz with
    | zero => intro i hii hni; exact absurd hni (by omega)
    | succ zz ih14 =>
      intro i hii hni x1 x2 e_x1 e_x2  H locs hP hD hS lz hl
      subst e_x1 e_x2
      refine lv_iload_n hx hb dX5_even_14 rfl (lv_at hl 3 rfl) ?_
      refine lv_bipush (v := 6) hx hb dX5_even_15 (by decide) ?_
      refine lv_icmp_ge (tgt := 76) hx hb dX5_even_17 (by decide) (fun q17 => ?_) (fun q17 => ?_)
      · have hNi : 6 = i := (xm_end (N := 6) hii (by decide) q17).symm
        subst hNi
        refine lv_iload_n hx hb dX5_even_76 rfl (lv_at hl 2 rfl) ?_
        refine lv_if_ne (tgt := 84) hx hb dX5_even_77 (by decide) (fun q77 => ?_) (fun q77 => ?_)
        · refine lv_iload_n hx hb dX5_even_84 rfl (lv_at hl 1 rfl) ?_
          refine lv_i2d hx hb dX5_even_85 ?_
          refine lv_iload_n hx hb dX5_even_86 rfl (lv_at hl 2 rfl) ?_
          refine lv_i2d hx hb dX5_even_87 ?_
          refine lv_ddiv hx hb dX5_even_88 (fp_div_n (fp_gpos hlt9 q77)) ?_
          have hP9 := hP.sub (ws' := [((mm 0), .inr (5, [.ref (mm 1), .ref (mm 2), .ref (mm 3), .ref (mm 4), .int kp, .ref (mm 5), .int ty, .int th, .int at0, .int fa, .ref (mm 6), .int ts, .ref (mm 7), .ref (mm 8), .ref (mm 9), .int (nI n)])), ((mm 2), .inl (cI, 80, .inl v)), ((mm 7), .inl (cI, 96, .inl (fm_fl (fs_ow v) ow n))), ((mm 8), .inl (cI, 96, .inl (fm_fl (fs_li v) li n))), ((mm 9), .inl (cI, 6, .inl u_4))]) [0, 4, 1, 2, 3] rfl
          have hD9 := hD.sub (ws' := [((mm 0), .inr (5, [.ref (mm 1), .ref (mm 2), .ref (mm 3), .ref (mm 4), .int kp, .ref (mm 5), .int ty, .int th, .int at0, .int fa, .ref (mm 6), .int ts, .ref (mm 7), .ref (mm 8), .ref (mm 9), .int (nI n)])), ((mm 2), .inl (cI, 80, .inl v)), ((mm 7), .inl (cI, 96, .inl (fm_fl (fs_ow v) ow n))), ((mm 8), .inl (cI, 96, .inl (fm_fl (fs_li v) li n))), ((mm 9), .inl (cI, 6, .inl u_4))]) [0, 4, 1, 2, 3] (by decide) rfl
          exact W.dret (v := FP.ddiv (FP.i2d (me_l (fun j => v (14 + j)) (fun j => fm_light (v 2) (fs_ls v n j)) 6)) (FP.i2d (le_g (fun j => v (14 + j)) (fun j => fm_light (v 2) (fs_ls v n j)) 6))) hx hb hr (fun t ht hW => ⟨⟨FP.ddiv (FP.i2d (me_l (fun j => v (14 + j)) (fun j => fm_light (v 2) (fs_ls v n j)) 6)) (FP.i2d (le_g (fun j => v (14 + j)) (fun j => fm_light (v 2) (fs_ls v n j)) 6)), ((nI n), (fm_fl (fs_ow v) ow n), (fm_fl (fs_li v) li n), u_4), rfl, (me_sh hlt9 q77), by rw [ht]; exact hP9, hD9⟩, hS.F ht⟩) hS.2.2 dX5_even_89
        · refine lv_dconst1 hx hb dX5_even_80 ?_
          refine lv_goto (tgt := 89) hx hb dX5_even_81 (by decide) ?_
          have hP9 := hP.sub (ws' := [((mm 0), .inr (5, [.ref (mm 1), .ref (mm 2), .ref (mm 3), .ref (mm 4), .int kp, .ref (mm 5), .int ty, .int th, .int at0, .int fa, .ref (mm 6), .int ts, .ref (mm 7), .ref (mm 8), .ref (mm 9), .int (nI n)])), ((mm 2), .inl (cI, 80, .inl v)), ((mm 7), .inl (cI, 96, .inl (fm_fl (fs_ow v) ow n))), ((mm 8), .inl (cI, 96, .inl (fm_fl (fs_li v) li n))), ((mm 9), .inl (cI, 6, .inl u_4))]) [0, 4, 1, 2, 3] rfl
          have hD9 := hD.sub (ws' := [((mm 0), .inr (5, [.ref (mm 1), .ref (mm 2), .ref (mm 3), .ref (mm 4), .int kp, .ref (mm 5), .int ty, .int th, .int at0, .int fa, .ref (mm 6), .int ts, .ref (mm 7), .ref (mm 8), .ref (mm 9), .int (nI n)])), ((mm 2), .inl (cI, 80, .inl v)), ((mm 7), .inl (cI, 96, .inl (fm_fl (fs_ow v) ow n))), ((mm 8), .inl (cI, 96, .inl (fm_fl (fs_li v) li n))), ((mm 9), .inl (cI, 6, .inl u_4))]) [0, 4, 1, 2, 3] (by decide) rfl
          exact W.dret (v := FP.dconst1) hx hb hr (fun t ht hW => ⟨⟨FP.dconst1, ((nI n), (fm_fl (fs_ow v) ow n), (fm_fl (fs_li v) li n), u_4), rfl, (me_s0 hlt9 q77), by rw [ht]; exact hP9, hD9⟩, hS.F ht⟩) hS.2.2 dX5_even_89
      · have hlti : i < 6 := xm_lt (N := 6) hii (by decide) q17
        refine lv_aload_n hx hb dX5_even_20 rfl (lv_at hl 0 rfl) ?_
        refine va_get (D := (dC, dI)) (ci := 5) (v := .ref (mm 2)) (C := RX5) (T := TX5) (N := 16) hx hb hts hin5 hown hK hP 0 rfl rfl 1 (by decide) (hts (.fieldLink RX5 13 "TurnDigitsModel" "now" "[I") (by decide +kernel)) (fun _ h9 => h9) rfl dX5_even_21 ?_
        refine lv_bipush (v := 14) hx hb dX5_even_24 (by decide) ?_
        refine lv_iload_n hx hb dX5_even_26 rfl (lv_at hl 3 rfl) ?_
        refine lv_iadd hx hb dX5_even_27 ?_
        refine xm_topi (y := nI (14 + i)) (nI_add 14 i) ?_
        refine xm_iald (D := (dC, dI)) hx hb hK hP 4 0 (14 + i) (v := v (14 + i)) rfl rfl (by decide) rfl (by omega) rfl dX5_even_28 ?_
        refine lv_if_le (tgt := 70) hx hb dX5_even_29 (by decide) (fun q29 => ?_) (fun q29 => ?_)
        · refine lv_iinc (v := nI (i + 1)) (lv' := [(3, .int (nI (i + 1))), (0, .ref (mm 0)), (1, .int (me_l (fun j => v (14 + j)) (fun j => fm_light (v 2) (fs_ls v n j)) i)), (2, .int (le_g (fun j => v (14 + j)) (fun j => fm_light (v 2) (fs_ls v n j)) i))]) hx hb dX5_even_70 hl (k := 3) rfl (nI_1 i) (by decide) rfl (fun lz hl => ?_)
          refine lv_goto (tgt := 14) hx hb dX5_even_73 (by decide) ?_
          exact ih14 (i + 1) hlti (by omega) (me_l (fun j => v (14 + j)) (fun j => fm_light (v 2) (fs_ls v n j)) i) (le_g (fun j => v (14 + j)) (fun j => fm_light (v 2) (fs_ls v n j)) i) (by show _ = (if v (14 + i) ≤ 0 then me_l (fun j => v (14 + j)) (fun j => fm_light (v 2) (fs_ls v n j)) i else if me_l (fun j => v (14 + j)) (fun j => fm_light (v 2) (fs_ls v n j)) i = -1 then ((fun j => fm_light (v 2) (fs_ls v n j)) i) else if ((fun j => fm_light (v 2) (fs_ls v n j)) i) < me_l (fun j => v (14 + j)) (fun j => fm_light (v 2) (fs_ls v n j)) i then ((fun j => fm_light (v 2) (fs_ls v n j)) i) else me_l (fun j => v (14 + j)) (fun j => fm_light (v 2) (fs_ls v n j)) i); rw [if_pos q29]) (by show _ = (if v (14 + i) ≤ 0 then le_g (fun j => v (14 + j)) (fun j => fm_light (v 2) (fs_ls v n j)) i else if le_g (fun j => v (14 + j)) (fun j => fm_light (v 2) (fs_ls v n j)) i < ((fun j => fm_light (v 2) (fs_ls v n j)) i) then ((fun j => fm_light (v 2) (fs_ls v n j)) i) else le_g (fun j => v (14 + j)) (fun j => fm_light (v 2) (fs_ls v n j)) i); rw [if_pos q29])  H locs hP hD hS lz (lv_sub hl [1, 2, 3, 0] rfl)
        · refine lv_aload_n hx hb dX5_even_32 rfl (lv_at hl 0 rfl) ?_
          refine lv_iload_n hx hb dX5_even_33 rfl (lv_at hl 3 rfl) ?_
          have hPc := hP.sub (ws' := [((mm 0), .inr (5, [.ref (mm 1), .ref (mm 2), .ref (mm 3), .ref (mm 4), .int kp, .ref (mm 5), .int ty, .int th, .int at0, .int fa, .ref (mm 6), .int ts, .ref (mm 7), .ref (mm 8), .ref (mm 9), .int (nI n)])), ((mm 8), .inl (cI, 96, .inl (fm_fl (fs_li v) li n)))]) [0, 2] rfl
          refine W.callV ((va_runV (As := [.int (nI i)]) (rest := []) ⟨hx, hb, hml, hown, hts⟩ (c_X5_light l dC dI cI cS cJ tt mm kp ty th at0 fa ts (fs_li v) li n i) (cwV 1 hts gX5_even_X5_light rfl rfl rfl (by decide +kernel) ⟨Nat.le_of_ble_eq_true rfl, Nat.le_of_ble_eq_true rfl⟩) ⟨xm_Rblind, va_recv hK hPc (ci := 5) (q0 := 0) rfl rfl, fun U hU hW => ⟨rfl, by rw [hU]; exact hPc, hE.go hS (fun _ q => q.elim) hU hW, ⟨by have := hvo.2.1; omega, hvo.2.2.1⟩⟩⟩ rfl rfl hl.1 rfl (lv_room (Nat.le_of_ble_eq_true rfl)) dX5_even_34 ⟨Nat.zero_le _, Nat.zero_le _⟩).run) ?_
          refine W.eq (g2 := F0 m 37 lz (.int (fm_light (nI n) (fr_ls (fs_li v) n i)) :: [])) rfl ?_
          refine xm_topi (y := (fm_light (v 2) (fs_ls v n i))) (by rw [hvo.1]; rfl) ?_
          refine lv_istore (lv' := [(4, .int (fm_light (v 2) (fs_ls v n i))), (0, .ref (mm 0)), (1, .int (me_l (fun j => v (14 + j)) (fun j => fm_light (v 2) (fs_ls v n j)) i)), (2, .int (le_g (fun j => v (14 + j)) (fun j => fm_light (v 2) (fs_ls v n j)) i)), (3, .int (nI i))]) hx hb dX5_even_37 hl (by decide) rfl (fun lz hl => ?_)
          refine lv_iload_n hx hb dX5_even_39 rfl (lv_at hl 2 rfl) ?_
          refine lv_iconst (v := (-1)) hx hb dX5_even_40 (by decide) ?_
          refine lv_icmp_eq (tgt := 50) hx hb dX5_even_41 (by decide) (fun q41 => ?_) (fun q41 => ?_)
          · refine lv_iload hx hb dX5_even_50 (lv_at hl 0 rfl) ?_
            refine lv_goto (tgt := 56) hx hb dX5_even_52 (by decide) ?_
            refine lv_istore_n (lv' := [(1, .int (fm_light (v 2) (fs_ls v n i))), (4, .int (fm_light (v 2) (fs_ls v n i))), (0, .ref (mm 0)), (2, .int (le_g (fun j => v (14 + j)) (fun j => fm_light (v 2) (fs_ls v n j)) i)), (3, .int (nI i))]) hx hb dX5_even_56 rfl hl (by decide) rfl (fun lz hl => ?_)
            refine lv_iload hx hb dX5_even_57 (lv_at hl 1 rfl) ?_
            refine lv_iload_n hx hb dX5_even_59 rfl (lv_at hl 3 rfl) ?_
            refine lv_icmp_le (tgt := 68) hx hb dX5_even_60 (by decide) (fun q60 => ?_) (fun q60 => ?_)
            · refine lv_iload_n hx hb dX5_even_68 rfl (lv_at hl 3 rfl) ?_
              refine lv_istore_n (lv' := [(2, .int (le_g (fun j => v (14 + j)) (fun j => fm_light (v 2) (fs_ls v n j)) i)), (1, .int (fm_light (v 2) (fs_ls v n i))), (4, .int (fm_light (v 2) (fs_ls v n i))), (0, .ref (mm 0)), (3, .int (nI i))]) hx hb dX5_even_69 rfl hl (by decide) rfl (fun lz hl => ?_)
              refine lv_iinc (v := nI (i + 1)) (lv' := [(3, .int (nI (i + 1))), (2, .int (le_g (fun j => v (14 + j)) (fun j => fm_light (v 2) (fs_ls v n j)) i)), (1, .int (fm_light (v 2) (fs_ls v n i))), (4, .int (fm_light (v 2) (fs_ls v n i))), (0, .ref (mm 0))]) hx hb dX5_even_70 hl (k := 4) rfl (nI_1 i) (by decide) rfl (fun lz hl => ?_)
              refine lv_goto (tgt := 14) hx hb dX5_even_73 (by decide) ?_
              exact ih14 (i + 1) hlti (by omega) (fm_light (v 2) (fs_ls v n i)) (le_g (fun j => v (14 + j)) (fun j => fm_light (v 2) (fs_ls v n j)) i) (by show _ = (if v (14 + i) ≤ 0 then me_l (fun j => v (14 + j)) (fun j => fm_light (v 2) (fs_ls v n j)) i else if me_l (fun j => v (14 + j)) (fun j => fm_light (v 2) (fs_ls v n j)) i = -1 then ((fun j => fm_light (v 2) (fs_ls v n j)) i) else if ((fun j => fm_light (v 2) (fs_ls v n j)) i) < me_l (fun j => v (14 + j)) (fun j => fm_light (v 2) (fs_ls v n j)) i then ((fun j => fm_light (v 2) (fs_ls v n j)) i) else me_l (fun j => v (14 + j)) (fun j => fm_light (v 2) (fs_ls v n j)) i); rw [if_neg q29, if_pos q41]) (by show _ = (if v (14 + i) ≤ 0 then le_g (fun j => v (14 + j)) (fun j => fm_light (v 2) (fs_ls v n j)) i else if le_g (fun j => v (14 + j)) (fun j => fm_light (v 2) (fs_ls v n j)) i < ((fun j => fm_light (v 2) (fs_ls v n j)) i) then ((fun j => fm_light (v 2) (fs_ls v n j)) i) else le_g (fun j => v (14 + j)) (fun j => fm_light (v 2) (fs_ls v n j)) i); rw [if_neg q29, if_neg (Int32.not_lt.mpr q60)])  H locs hP hD hS lz (lv_sub hl [4, 2, 1, 0] rfl)
            · refine lv_iload hx hb dX5_even_63 (lv_at hl 1 rfl) ?_
              refine lv_goto (tgt := 69) hx hb dX5_even_65 (by decide) ?_
              refine lv_istore_n (lv' := [(2, .int (fm_light (v 2) (fs_ls v n i))), (1, .int (fm_light (v 2) (fs_ls v n i))), (4, .int (fm_light (v 2) (fs_ls v n i))), (0, .ref (mm 0)), (3, .int (nI i))]) hx hb dX5_even_69 rfl hl (by decide) rfl (fun lz hl => ?_)
              refine lv_iinc (v := nI (i + 1)) (lv' := [(3, .int (nI (i + 1))), (2, .int (fm_light (v 2) (fs_ls v n i))), (1, .int (fm_light (v 2) (fs_ls v n i))), (4, .int (fm_light (v 2) (fs_ls v n i))), (0, .ref (mm 0))]) hx hb dX5_even_70 hl (k := 4) rfl (nI_1 i) (by decide) rfl (fun lz hl => ?_)
              refine lv_goto (tgt := 14) hx hb dX5_even_73 (by decide) ?_
              exact ih14 (i + 1) hlti (by omega) (fm_light (v 2) (fs_ls v n i)) (fm_light (v 2) (fs_ls v n i)) (by show _ = (if v (14 + i) ≤ 0 then me_l (fun j => v (14 + j)) (fun j => fm_light (v 2) (fs_ls v n j)) i else if me_l (fun j => v (14 + j)) (fun j => fm_light (v 2) (fs_ls v n j)) i = -1 then ((fun j => fm_light (v 2) (fs_ls v n j)) i) else if ((fun j => fm_light (v 2) (fs_ls v n j)) i) < me_l (fun j => v (14 + j)) (fun j => fm_light (v 2) (fs_ls v n j)) i then ((fun j => fm_light (v 2) (fs_ls v n j)) i) else me_l (fun j => v (14 + j)) (fun j => fm_light (v 2) (fs_ls v n j)) i); rw [if_neg q29, if_pos q41]) (by show _ = (if v (14 + i) ≤ 0 then le_g (fun j => v (14 + j)) (fun j => fm_light (v 2) (fs_ls v n j)) i else if le_g (fun j => v (14 + j)) (fun j => fm_light (v 2) (fs_ls v n j)) i < ((fun j => fm_light (v 2) (fs_ls v n j)) i) then ((fun j => fm_light (v 2) (fs_ls v n j)) i) else le_g (fun j => v (14 + j)) (fun j => fm_light (v 2) (fs_ls v n j)) i); rw [if_neg q29, if_pos (Int32.not_le.mp q60)])  H locs hP hD hS lz (lv_sub hl [4, 2, 1, 0] rfl)
          · refine lv_iload hx hb dX5_even_44 (lv_at hl 0 rfl) ?_
            refine lv_iload_n hx hb dX5_even_46 rfl (lv_at hl 2 rfl) ?_
            refine lv_icmp_ge (tgt := 55) hx hb dX5_even_47 (by decide) (fun q47 => ?_) (fun q47 => ?_)
            · refine lv_iload_n hx hb dX5_even_55 rfl (lv_at hl 2 rfl) ?_
              refine lv_istore_n (lv' := [(1, .int (me_l (fun j => v (14 + j)) (fun j => fm_light (v 2) (fs_ls v n j)) i)), (4, .int (fm_light (v 2) (fs_ls v n i))), (0, .ref (mm 0)), (2, .int (le_g (fun j => v (14 + j)) (fun j => fm_light (v 2) (fs_ls v n j)) i)), (3, .int (nI i))]) hx hb dX5_even_56 rfl hl (by decide) rfl (fun lz hl => ?_)
              refine lv_iload hx hb dX5_even_57 (lv_at hl 1 rfl) ?_
              refine lv_iload_n hx hb dX5_even_59 rfl (lv_at hl 3 rfl) ?_
              refine lv_icmp_le (tgt := 68) hx hb dX5_even_60 (by decide) (fun q60 => ?_) (fun q60 => ?_)
              · refine lv_iload_n hx hb dX5_even_68 rfl (lv_at hl 3 rfl) ?_
                refine lv_istore_n (lv' := [(2, .int (le_g (fun j => v (14 + j)) (fun j => fm_light (v 2) (fs_ls v n j)) i)), (1, .int (me_l (fun j => v (14 + j)) (fun j => fm_light (v 2) (fs_ls v n j)) i)), (4, .int (fm_light (v 2) (fs_ls v n i))), (0, .ref (mm 0)), (3, .int (nI i))]) hx hb dX5_even_69 rfl hl (by decide) rfl (fun lz hl => ?_)
                refine lv_iinc (v := nI (i + 1)) (lv' := [(3, .int (nI (i + 1))), (2, .int (le_g (fun j => v (14 + j)) (fun j => fm_light (v 2) (fs_ls v n j)) i)), (1, .int (me_l (fun j => v (14 + j)) (fun j => fm_light (v 2) (fs_ls v n j)) i)), (4, .int (fm_light (v 2) (fs_ls v n i))), (0, .ref (mm 0))]) hx hb dX5_even_70 hl (k := 4) rfl (nI_1 i) (by decide) rfl (fun lz hl => ?_)
                refine lv_goto (tgt := 14) hx hb dX5_even_73 (by decide) ?_
                exact ih14 (i + 1) hlti (by omega) (me_l (fun j => v (14 + j)) (fun j => fm_light (v 2) (fs_ls v n j)) i) (le_g (fun j => v (14 + j)) (fun j => fm_light (v 2) (fs_ls v n j)) i) (by show _ = (if v (14 + i) ≤ 0 then me_l (fun j => v (14 + j)) (fun j => fm_light (v 2) (fs_ls v n j)) i else if me_l (fun j => v (14 + j)) (fun j => fm_light (v 2) (fs_ls v n j)) i = -1 then ((fun j => fm_light (v 2) (fs_ls v n j)) i) else if ((fun j => fm_light (v 2) (fs_ls v n j)) i) < me_l (fun j => v (14 + j)) (fun j => fm_light (v 2) (fs_ls v n j)) i then ((fun j => fm_light (v 2) (fs_ls v n j)) i) else me_l (fun j => v (14 + j)) (fun j => fm_light (v 2) (fs_ls v n j)) i); rw [if_neg q29, if_neg q41, if_neg (Int32.not_lt.mpr q47)]) (by show _ = (if v (14 + i) ≤ 0 then le_g (fun j => v (14 + j)) (fun j => fm_light (v 2) (fs_ls v n j)) i else if le_g (fun j => v (14 + j)) (fun j => fm_light (v 2) (fs_ls v n j)) i < ((fun j => fm_light (v 2) (fs_ls v n j)) i) then ((fun j => fm_light (v 2) (fs_ls v n j)) i) else le_g (fun j => v (14 + j)) (fun j => fm_light (v 2) (fs_ls v n j)) i); rw [if_neg q29, if_neg (Int32.not_lt.mpr q60)])  H locs hP hD hS lz (lv_sub hl [4, 2, 1, 0] rfl)
              · refine lv_iload hx hb dX5_even_63 (lv_at hl 1 rfl) ?_
                refine lv_goto (tgt := 69) hx hb dX5_even_65 (by decide) ?_
                refine lv_istore_n (lv' := [(2, .int (fm_light (v 2) (fs_ls v n i))), (1, .int (me_l (fun j => v (14 + j)) (fun j => fm_light (v 2) (fs_ls v n j)) i)), (4, .int (fm_light (v 2) (fs_ls v n i))), (0, .ref (mm 0)), (3, .int (nI i))]) hx hb dX5_even_69 rfl hl (by decide) rfl (fun lz hl => ?_)
                refine lv_iinc (v := nI (i + 1)) (lv' := [(3, .int (nI (i + 1))), (2, .int (fm_light (v 2) (fs_ls v n i))), (1, .int (me_l (fun j => v (14 + j)) (fun j => fm_light (v 2) (fs_ls v n j)) i)), (4, .int (fm_light (v 2) (fs_ls v n i))), (0, .ref (mm 0))]) hx hb dX5_even_70 hl (k := 4) rfl (nI_1 i) (by decide) rfl (fun lz hl => ?_)
                refine lv_goto (tgt := 14) hx hb dX5_even_73 (by decide) ?_
                exact ih14 (i + 1) hlti (by omega) (me_l (fun j => v (14 + j)) (fun j => fm_light (v 2) (fs_ls v n j)) i) (fm_light (v 2) (fs_ls v n i)) (by show _ = (if v (14 + i) ≤ 0 then me_l (fun j => v (14 + j)) (fun j => fm_light (v 2) (fs_ls v n j)) i else if me_l (fun j => v (14 + j)) (fun j => fm_light (v 2) (fs_ls v n j)) i = -1 then ((fun j => fm_light (v 2) (fs_ls v n j)) i) else if ((fun j => fm_light (v 2) (fs_ls v n j)) i) < me_l (fun j => v (14 + j)) (fun j => fm_light (v 2) (fs_ls v n j)) i then ((fun j => fm_light (v 2) (fs_ls v n j)) i) else me_l (fun j => v (14 + j)) (fun j => fm_light (v 2) (fs_ls v n j)) i); rw [if_neg q29, if_neg q41, if_neg (Int32.not_lt.mpr q47)]) (by show _ = (if v (14 + i) ≤ 0 then le_g (fun j => v (14 + j)) (fun j => fm_light (v 2) (fs_ls v n j)) i else if le_g (fun j => v (14 + j)) (fun j => fm_light (v 2) (fs_ls v n j)) i < ((fun j => fm_light (v 2) (fs_ls v n j)) i) then ((fun j => fm_light (v 2) (fs_ls v n j)) i) else le_g (fun j => v (14 + j)) (fun j => fm_light (v 2) (fs_ls v n j)) i); rw [if_neg q29, if_pos (Int32.not_le.mp q60)])  H locs hP hD hS lz (lv_sub hl [4, 2, 1, 0] rfl)
            · refine lv_iload hx hb dX5_even_50 (lv_at hl 0 rfl) ?_
              refine lv_goto (tgt := 56) hx hb dX5_even_52 (by decide) ?_
              refine lv_istore_n (lv' := [(1, .int (fm_light (v 2) (fs_ls v n i))), (4, .int (fm_light (v 2) (fs_ls v n i))), (0, .ref (mm 0)), (2, .int (le_g (fun j => v (14 + j)) (fun j => fm_light (v 2) (fs_ls v n j)) i)), (3, .int (nI i))]) hx hb dX5_even_56 rfl hl (by decide) rfl (fun lz hl => ?_)
              refine lv_iload hx hb dX5_even_57 (lv_at hl 1 rfl) ?_
              refine lv_iload_n hx hb dX5_even_59 rfl (lv_at hl 3 rfl) ?_
              refine lv_icmp_le (tgt := 68) hx hb dX5_even_60 (by decide) (fun q60 => ?_) (fun q60 => ?_)
              · refine lv_iload_n hx hb dX5_even_68 rfl (lv_at hl 3 rfl) ?_
                refine lv_istore_n (lv' := [(2, .int (le_g (fun j => v (14 + j)) (fun j => fm_light (v 2) (fs_ls v n j)) i)), (1, .int (fm_light (v 2) (fs_ls v n i))), (4, .int (fm_light (v 2) (fs_ls v n i))), (0, .ref (mm 0)), (3, .int (nI i))]) hx hb dX5_even_69 rfl hl (by decide) rfl (fun lz hl => ?_)
                refine lv_iinc (v := nI (i + 1)) (lv' := [(3, .int (nI (i + 1))), (2, .int (le_g (fun j => v (14 + j)) (fun j => fm_light (v 2) (fs_ls v n j)) i)), (1, .int (fm_light (v 2) (fs_ls v n i))), (4, .int (fm_light (v 2) (fs_ls v n i))), (0, .ref (mm 0))]) hx hb dX5_even_70 hl (k := 4) rfl (nI_1 i) (by decide) rfl (fun lz hl => ?_)
                refine lv_goto (tgt := 14) hx hb dX5_even_73 (by decide) ?_
                exact ih14 (i + 1) hlti (by omega) (fm_light (v 2) (fs_ls v n i)) (le_g (fun j => v (14 + j)) (fun j => fm_light (v 2) (fs_ls v n j)) i) (by show _ = (if v (14 + i) ≤ 0 then me_l (fun j => v (14 + j)) (fun j => fm_light (v 2) (fs_ls v n j)) i else if me_l (fun j => v (14 + j)) (fun j => fm_light (v 2) (fs_ls v n j)) i = -1 then ((fun j => fm_light (v 2) (fs_ls v n j)) i) else if ((fun j => fm_light (v 2) (fs_ls v n j)) i) < me_l (fun j => v (14 + j)) (fun j => fm_light (v 2) (fs_ls v n j)) i then ((fun j => fm_light (v 2) (fs_ls v n j)) i) else me_l (fun j => v (14 + j)) (fun j => fm_light (v 2) (fs_ls v n j)) i); rw [if_neg q29, if_neg q41, if_pos (Int32.not_le.mp q47)]) (by show _ = (if v (14 + i) ≤ 0 then le_g (fun j => v (14 + j)) (fun j => fm_light (v 2) (fs_ls v n j)) i else if le_g (fun j => v (14 + j)) (fun j => fm_light (v 2) (fs_ls v n j)) i < ((fun j => fm_light (v 2) (fs_ls v n j)) i) then ((fun j => fm_light (v 2) (fs_ls v n j)) i) else le_g (fun j => v (14 + j)) (fun j => fm_light (v 2) (fs_ls v n j)) i); rw [if_neg q29, if_neg (Int32.not_lt.mpr q60)])  H locs hP hD hS lz (lv_sub hl [4, 2, 1, 0] rfl)
              · refine lv_iload hx hb dX5_even_63 (lv_at hl 1 rfl) ?_
                refine lv_goto (tgt := 69) hx hb dX5_even_65 (by decide) ?_
                refine lv_istore_n (lv' := [(2, .int (fm_light (v 2) (fs_ls v n i))), (1, .int (fm_light (v 2) (fs_ls v n i))), (4, .int (fm_light (v 2) (fs_ls v n i))), (0, .ref (mm 0)), (3, .int (nI i))]) hx hb dX5_even_69 rfl hl (by decide) rfl (fun lz hl => ?_)
                refine lv_iinc (v := nI (i + 1)) (lv' := [(3, .int (nI (i + 1))), (2, .int (fm_light (v 2) (fs_ls v n i))), (1, .int (fm_light (v 2) (fs_ls v n i))), (4, .int (fm_light (v 2) (fs_ls v n i))), (0, .ref (mm 0))]) hx hb dX5_even_70 hl (k := 4) rfl (nI_1 i) (by decide) rfl (fun lz hl => ?_)
                refine lv_goto (tgt := 14) hx hb dX5_even_73 (by decide) ?_
                exact ih14 (i + 1) hlti (by omega) (fm_light (v 2) (fs_ls v n i)) (fm_light (v 2) (fs_ls v n i)) (by show _ = (if v (14 + i) ≤ 0 then me_l (fun j => v (14 + j)) (fun j => fm_light (v 2) (fs_ls v n j)) i else if me_l (fun j => v (14 + j)) (fun j => fm_light (v 2) (fs_ls v n j)) i = -1 then ((fun j => fm_light (v 2) (fs_ls v n j)) i) else if ((fun j => fm_light (v 2) (fs_ls v n j)) i) < me_l (fun j => v (14 + j)) (fun j => fm_light (v 2) (fs_ls v n j)) i then ((fun j => fm_light (v 2) (fs_ls v n j)) i) else me_l (fun j => v (14 + j)) (fun j => fm_light (v 2) (fs_ls v n j)) i); rw [if_neg q29, if_neg q41, if_pos (Int32.not_le.mp q47)]) (by show _ = (if v (14 + i) ≤ 0 then le_g (fun j => v (14 + j)) (fun j => fm_light (v 2) (fs_ls v n j)) i else if le_g (fun j => v (14 + j)) (fun j => fm_light (v 2) (fs_ls v n j)) i < ((fun j => fm_light (v 2) (fs_ls v n j)) i) then ((fun j => fm_light (v 2) (fs_ls v n j)) i) else le_g (fun j => v (14 + j)) (fun j => fm_light (v 2) (fs_ls v n j)) i); rw [if_neg q29, if_pos (Int32.not_le.mp q60)])  H locs hP hD hS lz (lv_sub hl [4, 2, 1, 0] rfl)
  exact L14 (6 + 1) 0 (by omega) (by omega) (-1) 0 rfl rfl  H locs hP hD hS lz (lv_sub hl [3, 2, 1, 0] rfl)

