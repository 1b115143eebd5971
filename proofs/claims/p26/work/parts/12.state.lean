/-! A state's words. -/
/-- a value that is a place below n -/
def fm_ix (x : Int32) (n : Nat) : Prop := x = nI x.toNatClampNeg ∧ x.toNatClampNeg < n
theorem fm_ix_nI {k n : Nat} (h : k < n) (hn : n ≤ 2 ^ 31) : fm_ix (nI k) n := by
  unfold fm_ix
  rw [nI_clamp (by omega)]
  exact ⟨rfl, h⟩
def fm_shw (s b : Int32) : Int32 := xm_mk s.toNatClampNeg &&& (b ^^^ (-1))
def fm_rdb (b sh : Int32) : Nat → Int32
  | 0 => 0
  | k + 1 => if xm_mk k &&& (b ^^^ (-1)) = sh then fm_rdb b sh k ||| ((1 : Int32) <<< (nI k &&& 31)) else fm_rdb b sh k
def fm_bc1 (x : Int32) : Int32 := x - (((x.toUInt32 >>> ((1 : Int32).toUInt32 &&& Int32.toUInt32 31)).toInt32) &&& 1431655765)
def fm_bc2 (x : Int32) : Int32 := (x &&& 858993459) + (((x.toUInt32 >>> ((2 : Int32).toUInt32 &&& Int32.toUInt32 31)).toInt32) &&& 858993459)
def fm_bc3 (x : Int32) : Int32 := (x + ((x.toUInt32 >>> ((4 : Int32).toUInt32 &&& Int32.toUInt32 31)).toInt32)) &&& 252645135
def fm_bc4 (x : Int32) : Int32 := x + ((x.toUInt32 >>> ((8 : Int32).toUInt32 &&& Int32.toUInt32 31)).toInt32)
def fm_bc5 (x : Int32) : Int32 := x + ((x.toUInt32 >>> ((16 : Int32).toUInt32 &&& Int32.toUInt32 31)).toInt32)
/-- Integer.bitCount -/
def fm_bc (x : Int32) : Int32 := fm_bc5 (fm_bc4 (fm_bc3 (fm_bc2 (fm_bc1 x)))) &&& 63
/-! wear of a lit digit -/
def fm_bit (sm : Int32) (k : Nat) : Int32 := (sm >>> (nI k &&& 31)) &&& 1
def fm_wow (sm : Int32) (d : Nat) (we : Nat → Int32) : Nat → (Nat → Int32)
  | 0 => we
  | k + 1 => if fm_bit sm k = 1 then upd (fm_wow sm d we k) (d * 7 + k) (fm_wow sm d we k (d * 7 + k) + 1) else fm_wow sm d we k
def fm_wob (sm life : Int32) (d : Nat) (we : Nat → Int32) (b : Int32) : Nat → Int32
  | 0 => b
  | k + 1 => if fm_bit sm k = 1 then (if life ≤ 0 then fm_wob sm life d we b k else if fm_wow sm d we k (d * 7 + k) + 1 < life then fm_wob sm life d we b k else fm_wob sm life d we b k ||| ((1 : Int32) <<< (nI k &&& 31))) else fm_wob sm life d we b k
def fm_won (sm life : Int32) (d : Nat) (we : Nat → Int32) : Nat → Int32
  | 0 => 0
  | k + 1 => if fm_bit sm k = 1 then (if life ≤ 0 then fm_won sm life d we k else if fm_wow sm d we k (d * 7 + k) + 1 < life then fm_won sm life d we k else fm_won sm life d we k + 1) else fm_won sm life d we k
theorem fm_upd_self (f : Nat → Int32) (k : Nat) : upd f k (f k) = f := by
  funext j
  by_cases h : j = k
  · subst h; simp [upd]
  · simp [upd, h]
theorem fm_upd_upd (f : Nat → Int32) (k : Nat) (x y : Int32) : upd (upd f k x) k y = upd f k y := by
  funext j
  by_cases h : j = k
  · subst h; simp [upd]
  · simp [upd, h]
/-- the digit that is lit, as a place -/
theorem fm_lit_at {lv cr : Nat → Int32} {a c : Int32} (h : ¬ fm_litIn (fm_own lv cr 6) a c = -1) : fm_ix (fm_litIn (fm_own lv cr 6) a c) 6 := by
  have key : ∀ y : Int32, (y = fm_own lv cr 6 ∨ y = -1) → ¬ y = -1 → fm_ix y 6 := by
    intro y hy hn
    rcases hy with e | e
    · subst e
      exact fm_own_at (by decide) hn
    · exact absurd e hn
  refine key _ ?_ h
  unfold fm_litIn
  split
  · exact Or.inl rfl
  · split
    · exact Or.inl rfl
    · exact Or.inr rfl
/-! a number's signs -/
def fm_pr (fg : Int32) (m : Int64) : Nat → Int64
  | 0 => m
  | t + 1 => if fg ≤ nI t then fm_pr fg m t else fm_pr fg m t / 10
def fm_pv (fg ln : Int32) (m : Int64) (t : Nat) : Int32 := if fg ≤ nI t then (if ln ≤ nI t then 11 else 10) else (fm_pr fg m t - fm_pr fg m t / 10 * 10).toInt32
def fm_pa (fg ln : Int32) (m : Int64) (last : Nat) (sg : Nat → Int32) : Nat → (Nat → Int32)
  | 0 => sg
  | t + 1 => upd (fm_pa fg ln m last sg t) (last - t) (fm_pv fg ln m t)
def fm_fg (n ln : Int32) : Int32 := if 0 ≤ n then ln else ln - 1
theorem fm_pn_i {i last first : Nat} (hf : first ≤ last) (hl : last < 6) (hi : i ≤ last + 1 - first) (h : nI (last + 1 - i) - 1 < nI first) : last + 1 - first = i := by
  have h1 := Int32.lt_iff_toInt_lt.mp h
  have e : nI (last + 1 - i) - 1 = nI (last + 1 - i) - nI 1 := rfl
  rw [e, pk_sub_toInt (by omega) (by omega), nI_toInt (by omega)] at h1
  omega
theorem fm_pn_o {i last first : Nat} (hf : first ≤ last) (hl : last < 6) (h : ¬ nI (last + 1 - i) - 1 < nI first) : i < last + 1 - first ∧ nI (last + 1 - i) - 1 = nI (last - i) := by
  have e : nI (last + 1 - i) - 1 = nI (last + 1 - i) - nI 1 := rfl
  have h1 : ¬ (nI (last + 1 - i) - 1).toInt < (nI first).toInt := fun q => h (Int32.lt_iff_toInt_lt.mpr q)
  rw [e, pk_sub_toInt (by omega) (by omega), nI_toInt (by omega)] at h1
  have hlt : i < last + 1 - first := by omega
  refine ⟨hlt, ?_⟩
  rw [show last + 1 - i = (last - i) + 1 by omega]
  exact nI_pred _
/-! a slot that goes by, on a state's rows -/
def sl_lit (lv cr se : Nat → Int32) (ah : Int32) : Int32 := fm_litIn (fm_own lv cr 6) ah (fm_dk (se 1))
def sl_sm (sg bu : Nat → Int32) (x : Int32) : Int32 := fm_shw (sg x.toNatClampNeg) (bu x.toNatClampNeg)
def sl_ls (ls : Nat → Int32) (x : Int32) : Nat → Int32 := if x = -1 then ls else upd ls x.toNatClampNeg (ls x.toNatClampNeg + 1)
def sl_we (sg bu we : Nat → Int32) (x : Int32) : Nat → Int32 := if x = -1 then we else fm_wow (sl_sm sg bu x) x.toNatClampNeg we 7
def sl_bu (sg bu we se : Nat → Int32) (x : Int32) : Nat → Int32 := if x = -1 then bu else upd bu x.toNatClampNeg (fm_wob (sl_sm sg bu x) (se 4 * 100) x.toNatClampNeg we (bu x.toNatClampNeg) 7)
def sl_n (sg bu we se : Nat → Int32) (x : Int32) : Int32 := if x = -1 then 0 else fm_won (sl_sm sg bu x) (se 4 * 100) x.toNatClampNeg we 7

set_option maxHeartbeats 4000000 in
set_option maxRecDepth 100000 in
theorem c_X2_shownSegments (l : Launch) (dC : Nat → ClassId) (dI : Nat → Nat → Nat) (cI cS cJ : ClassId) (tt : Nat → Nat) (a : Nat → Nat) (am : Int32) (ti : Int32) (ah : Int32) (sg : Nat → Int32) (bu : Nat → Int32) (d : Nat) : Met l yX2_shownSegments wsX2_shownSegments ({ frames := 0, cells := 0, slots := 0, locals := 0 } : Room) (va_Pc [.ref (a 0), .int (nI d)] (xm_R (dC, dI) cI cS cJ tt [((a 0), .inr (2, [.ref (a 1), .ref (a 2), .ref (a 3), .ref (a 4), .ref (a 5), .ref (a 6), .ref (a 7), .int am, .int ti, .int ah])), ((a 1), .inl (cI, 6, .inl sg)), ((a 3), .inl (cI, 6, .inl bu))] (d < 6 ∧ fm_ix (sg d) 12))) (k2_QcV (.int (fm_shw (sg d) (bu d)))) 0 0 (fun _ => False) := by
  refine Met.ofW (cc := cX2_shownSegments) (maxL := 2) (ret := (some .int)) (by decide) rfl ?_
  intro p e s m args below meth c s₁ B hml hv
  obtain ⟨rfl, hP, hE, hpre⟩ := hv
  have hx := B.exec
  have hb := B.bytes
  have hr := B.returns
  have hts := atoms_spec (ws := wsX2_shownSegments) B.pre
  have hown : s.vm.findClass RX2 = some m.cls := findClass_of_methodNamed B.named
  have hlocks := B.notSynchronized
  have hK := hE.1
  have hS : va_S (fun _ => False) s.heap s.heap [] := va_S.rf
  have hP : va_P (dC, dI) vwCl [((a 0), .inr (2, [.ref (a 1), .ref (a 2), .ref (a 3), .ref (a 4), .ref (a 5), .ref (a 6), .ref (a 7), .int am, .int ti, .int ah])), ((a 1), .inl (cI, 6, .inl sg)), ((a 3), .inl (cI, 6, .inl bu))] s.heap := hP
  have hin2 : ∀ w ∈ u_ws RX2 TX2 10, w ∈ wsX2_shownSegments := by decide +kernel
  have hl := lv_entry [.ref (a 0), .int (nI d)] (n := 2) (Nat.le_of_ble_eq_true rfl)
  rw [lg_entry_eq]
  generalize (lg_sl [.ref (a 0), .int (nI d)] ++ List.replicate (2 - (lg_sl [.ref (a 0), .int (nI d)]).length) Slot.unset).toArray = lz at hl ⊢
  have hl : lv_has lz 2 [(0, .ref (a 0)), (1, .int (nI d))] := hl
  obtain ⟨hd6, hsg⟩ := hpre
  refine va_getsN (C := "TurnDigits") (n := "MASKS") (d := "[I") (v := .ref (tt 0)) hx hb hE.2.2.1.1 hS hown (va_Nw.use rfl hE.2.1.2.1) (fun _ h9 => h9) dX2_shownSegments_0 ?_
  refine lv_aload_n hx hb dX2_shownSegments_3 rfl (lv_at hl 0 rfl) ?_
  refine va_get (D := (dC, dI)) (ci := 2) (v := .ref (a 1)) (C := RX2) (T := TX2) (N := 10) hx hb hts hin2 hown hK hP 0 rfl rfl 0 (by decide) (hts (.fieldLink RX2 9 "TurnDigits$State" "signs" "[I") (by decide +kernel)) (fun _ h9 => h9) rfl dX2_shownSegments_4 ?_
  refine lv_iload_n hx hb dX2_shownSegments_7 rfl (lv_at hl 1 rfl) ?_
  refine xm_iald (D := (dC, dI)) hx hb hK hP 1 0 d (v := sg d) rfl rfl (by decide) rfl (by omega) rfl dX2_shownSegments_8 ?_
  refine xm_ti hx hb hE.2.2.1 hS ((sg d).toNatClampNeg) (v := xm_mk ((sg d).toNatClampNeg)) (by decide) hsg.1 hsg.2 rfl dX2_shownSegments_9 ?_
  refine lv_aload_n hx hb dX2_shownSegments_10 rfl (lv_at hl 0 rfl) ?_
  refine va_get (D := (dC, dI)) (ci := 2) (v := .ref (a 3)) (C := RX2) (T := TX2) (N := 10) hx hb hts hin2 hown hK hP 0 rfl rfl 2 (by decide) (hts (.fieldLink RX2 18 "TurnDigits$State" "burnt" "[I") (by decide +kernel)) (fun _ h9 => h9) rfl dX2_shownSegments_11 ?_
  refine lv_iload_n hx hb dX2_shownSegments_14 rfl (lv_at hl 1 rfl) ?_
  refine xm_iald (D := (dC, dI)) hx hb hK hP 2 0 d (v := bu d) rfl rfl (by decide) rfl (by omega) rfl dX2_shownSegments_15 ?_
  refine lv_iconst (v := (-1)) hx hb dX2_shownSegments_16 (by decide) ?_
  refine lv_ixor hx hb dX2_shownSegments_17 ?_
  refine lv_iand hx hb dX2_shownSegments_18 ?_
  exact W.iret (v := (xm_mk ((sg d).toNatClampNeg)) &&& ((bu d) ^^^ (-1))) hx hb hr (fun t ht hW => ⟨congrArg (fun z => Outcome.returned (some (Value.int z))) (rfl), ht⟩) hS.2.2 dX2_shownSegments_19

set_option maxHeartbeats 4000000 in
set_option maxRecDepth 100000 in
theorem c_X2_readableSigns (l : Launch) (dC : Nat → ClassId) (dI : Nat → Nat → Nat) (cI cS cJ : ClassId) (tt : Nat → Nat) (a : Nat → Nat) (am : Int32) (ti : Int32) (ah : Int32) (sg : Nat → Int32) (bu : Nat → Int32) (d : Nat) : Met l yX2_readableSigns wsX2_readableSigns ({ frames := 1, cells := 0, slots := 0, locals := 21 } : Room) (va_Pc [.ref (a 0), .int (nI d)] (xm_R (dC, dI) cI cS cJ tt [((a 0), .inr (2, [.ref (a 1), .ref (a 2), .ref (a 3), .ref (a 4), .ref (a 5), .ref (a 6), .ref (a 7), .int am, .int ti, .int ah])), ((a 1), .inl (cI, 6, .inl sg)), ((a 3), .inl (cI, 6, .inl bu))] (d < 6 ∧ fm_ix (sg d) 12))) (k2_QcV (.int (fm_rdb (bu d) (fm_shw (sg d) (bu d)) 12))) 0 0 (fun _ => False) := by
  refine Met.ofW (cc := cX2_readableSigns) (maxL := 5) (ret := (some .int)) (by decide) rfl ?_
  intro p e s m args below meth c s₁ B hml hv
  obtain ⟨rfl, hP, hE, hpre⟩ := hv
  have hx := B.exec
  have hb := B.bytes
  have hr := B.returns
  have hts := atoms_spec (ws := wsX2_readableSigns) B.pre
  have hown : s.vm.findClass RX2 = some m.cls := findClass_of_methodNamed B.named
  have hlocks := B.notSynchronized
  have hK := hE.1
  have hS : va_S (fun _ => False) s.heap s.heap [] := va_S.rf
  have hP : va_P (dC, dI) vwCl [((a 0), .inr (2, [.ref (a 1), .ref (a 2), .ref (a 3), .ref (a 4), .ref (a 5), .ref (a 6), .ref (a 7), .int am, .int ti, .int ah])), ((a 1), .inl (cI, 6, .inl sg)), ((a 3), .inl (cI, 6, .inl bu))] s.heap := hP
  have hin2 : ∀ w ∈ u_ws RX2 TX2 10, w ∈ wsX2_readableSigns := by decide +kernel
  have hl := lv_entry [.ref (a 0), .int (nI d)] (n := 5) (Nat.le_of_ble_eq_true rfl)
  rw [lg_entry_eq]
  generalize (lg_sl [.ref (a 0), .int (nI d)] ++ List.replicate (5 - (lg_sl [.ref (a 0), .int (nI d)]).length) Slot.unset).toArray = lz at hl ⊢
  have hl : lv_has lz 5 [(0, .ref (a 0)), (1, .int (nI d))] := hl
  obtain ⟨hd6, hsg⟩ := id hpre
  refine lv_aload_n hx hb dX2_readableSigns_0 rfl (lv_at hl 0 rfl) ?_
  refine lv_iload_n hx hb dX2_readableSigns_1 rfl (lv_at hl 1 rfl) ?_
  have hPc := hP.sub (ws' := [((a 0), .inr (2, [.ref (a 1), .ref (a 2), .ref (a 3), .ref (a 4), .ref (a 5), .ref (a 6), .ref (a 7), .int am, .int ti, .int ah])), ((a 1), .inl (cI, 6, .inl sg)), ((a 3), .inl (cI, 6, .inl bu))]) [0, 1, 2] rfl
  refine W.callV ((va_runV (As := [.int (nI d)]) (rest := []) ⟨hx, hb, hml, hown, hts⟩ (c_X2_shownSegments l dC dI cI cS cJ tt a am ti ah sg bu d) (cwV 1 hts gX2_readableSigns_X2_shownSegments rfl rfl rfl (by decide +kernel) ⟨Nat.le_of_ble_eq_true rfl, Nat.le_of_ble_eq_true rfl⟩) ⟨xm_Rblind, va_recv hK hPc (ci := 2) (q0 := 0) rfl rfl, fun U hU hW => ⟨rfl, by rw [hU]; exact hPc, hE.go hS (fun _ q => q.elim) hU hW, hpre⟩⟩ rfl rfl hl.1 rfl (lv_room (Nat.le_of_ble_eq_true rfl)) dX2_readableSigns_2 ⟨Nat.zero_le _, Nat.zero_le _⟩).run) ?_
  refine W.eq (g2 := F0 m 5 lz (.int (fm_shw (sg d) (bu d)) :: [])) rfl ?_
  refine lv_istore_n (lv' := [(2, .int (fm_shw (sg d) (bu d))), (0, .ref (a 0)), (1, .int (nI d))]) hx hb dX2_readableSigns_5 rfl hl (by decide) rfl (fun lz hl => ?_)
  refine lv_iconst (v := 0) hx hb dX2_readableSigns_6 (by decide) ?_
  refine lv_istore_n (lv' := [(3, .int 0), (2, .int (fm_shw (sg d) (bu d))), (0, .ref (a 0)), (1, .int (nI d))]) hx hb dX2_readableSigns_7 rfl hl (by decide) rfl (fun lz hl => ?_)
  refine lv_iconst (v := 0) hx hb dX2_readableSigns_8 (by decide) ?_
  refine lv_istore (lv' := [(4, .int 0), (3, .int 0), (2, .int (fm_shw (sg d) (bu d))), (0, .ref (a 0)), (1, .int (nI d))]) hx hb dX2_readableSigns_9 hl (by decide) rfl (fun lz hl => ?_)
  have L11 : ∀ (zz i : Nat), i ≤ 12 → 12 + 1 ≤ i + zz → ∀ (x3 : Int32), x3 = fm_rdb (bu d) (fm_shw (sg d) (bu d)) i → ∀ (lz : Array Slot), lv_has lz 5 [(0, .ref (a 0)), (1, .int (nI d)), (2, .int (fm_shw (sg d) (bu d))), (3, .int x3), (4, .int (nI i))] → W p l e (headSpec wsX2_readableSigns ({ frames := 1, cells := 0, slots := 0, locals := 21 } : Room)).room s m ([.ref (a 0), .int (nI d)] : List Value).toArray below meth c s.heap [] 0 0 (MQ below (k2_QcV (.int (fm_rdb (bu d) (fm_shw (sg d) (bu d)) 12))) ([.ref (a 0), .int (nI d)] : List Value).toArray s 0 0 (fun _ => False)) (F0 m 11 lz []) := by
    intro zz
    induction zz with
    | zero => intro i hii hni; exact absurd hni (by omega)
    | succ zz ih11 =>
      intro i hii hni x3 e_x3  lz hl
      subst e_x3
      refine lv_iload hx hb dX2_readableSigns_11 (lv_at hl 4 rfl) ?_
      refine lv_bipush (v := 12) hx hb dX2_readableSigns_13 (by decide) ?_
      refine lv_icmp_ge (tgt := 50) hx hb dX2_readableSigns_15 (by decide) (fun q15 => ?_) (fun q15 => ?_)
      · have hNi : 12 = i := (xm_end (N := 12) hii (by decide) q15).symm
        subst hNi
        refine lv_iload_n hx hb dX2_readableSigns_50 rfl (lv_at hl 3 rfl) ?_
        exact W.iret (v := (fm_rdb (bu d) (fm_shw (sg d) (bu d)) 12)) hx hb hr (fun t ht hW => ⟨congrArg (fun z => Outcome.returned (some (Value.int z))) (by simp), ht⟩) hS.2.2 dX2_readableSigns_51
      · have hlti : i < 12 := xm_lt (N := 12) hii (by decide) q15
        refine va_getsN (C := "TurnDigits") (n := "MASKS") (d := "[I") (v := .ref (tt 0)) hx hb hE.2.2.1.1 hS hown (va_Nw.use rfl hE.2.1.2.1) (fun _ h9 => h9) dX2_readableSigns_18 ?_
        refine lv_iload hx hb dX2_readableSigns_21 (lv_at hl 4 rfl) ?_
        refine xm_ti hx hb hE.2.2.1 hS i (v := xm_mk i) (by decide) rfl (by omega) rfl dX2_readableSigns_23 ?_
        refine lv_aload_n hx hb dX2_readableSigns_24 rfl (lv_at hl 0 rfl) ?_
        refine va_get (D := (dC, dI)) (ci := 2) (v := .ref (a 3)) (C := RX2) (T := TX2) (N := 10) hx hb hts hin2 hown hK hP 0 rfl rfl 2 (by decide) (hts (.fieldLink RX2 18 "TurnDigits$State" "burnt" "[I") (by decide +kernel)) (fun _ h9 => h9) rfl dX2_readableSigns_25 ?_
        refine lv_iload_n hx hb dX2_readableSigns_28 rfl (lv_at hl 1 rfl) ?_
        refine xm_iald (D := (dC, dI)) hx hb hK hP 2 0 d (v := bu d) rfl rfl (by decide) rfl (by omega) rfl dX2_readableSigns_29 ?_
        refine lv_iconst (v := (-1)) hx hb dX2_readableSigns_30 (by decide) ?_
        refine lv_ixor hx hb dX2_readableSigns_31 ?_
        refine lv_iand hx hb dX2_readableSigns_32 ?_
        refine lv_iload_n hx hb dX2_readableSigns_33 rfl (lv_at hl 2 rfl) ?_
        refine lv_icmp_ne (tgt := 44) hx hb dX2_readableSigns_34 (by decide) (fun q34 => ?_) (fun q34 => ?_)
        · refine lv_iinc (v := nI (i + 1)) (lv' := [(4, .int (nI (i + 1))), (0, .ref (a 0)), (1, .int (nI d)), (2, .int (fm_shw (sg d) (bu d))), (3, .int (fm_rdb (bu d) (fm_shw (sg d) (bu d)) i))]) hx hb dX2_readableSigns_44 hl (k := 4) rfl (nI_1 i) (by decide) rfl (fun lz hl => ?_)
          refine lv_goto (tgt := 11) hx hb dX2_readableSigns_47 (by decide) ?_
          exact ih11 (i + 1) hlti (by omega) (fm_rdb (bu d) (fm_shw (sg d) (bu d)) i) (by simp only [fm_rdb, if_neg q15, if_neg q34])  lz (lv_sub hl [1, 2, 3, 4, 0] rfl)
        · refine lv_iload_n hx hb dX2_readableSigns_37 rfl (lv_at hl 3 rfl) ?_
          refine lv_iconst (v := 1) hx hb dX2_readableSigns_38 (by decide) ?_
          refine lv_iload hx hb dX2_readableSigns_39 (lv_at hl 4 rfl) ?_
          refine lv_ishl hx hb dX2_readableSigns_41 ?_
          refine lv_ior hx hb dX2_readableSigns_42 ?_
          refine lv_istore_n (lv' := [(3, .int ((fm_rdb (bu d) (fm_shw (sg d) (bu d)) i) ||| (1 <<< ((nI i) &&& 31)))), (0, .ref (a 0)), (1, .int (nI d)), (2, .int (fm_shw (sg d) (bu d))), (4, .int (nI i))]) hx hb dX2_readableSigns_43 rfl hl (by decide) rfl (fun lz hl => ?_)
          refine lv_iinc (v := nI (i + 1)) (lv' := [(4, .int (nI (i + 1))), (3, .int ((fm_rdb (bu d) (fm_shw (sg d) (bu d)) i) ||| (1 <<< ((nI i) &&& 31)))), (0, .ref (a 0)), (1, .int (nI d)), (2, .int (fm_shw (sg d) (bu d)))]) hx hb dX2_readableSigns_44 hl (k := 4) rfl (nI_1 i) (by decide) rfl (fun lz hl => ?_)
          refine lv_goto (tgt := 11) hx hb dX2_readableSigns_47 (by decide) ?_
          exact ih11 (i + 1) hlti (by omega) ((fm_rdb (bu d) (fm_shw (sg d) (bu d)) i) ||| (1 <<< ((nI i) &&& 31))) (by simp only [fm_rdb, if_neg q15, if_pos q34])  lz (lv_sub hl [2, 3, 4, 1, 0] rfl)
  exact L11 (12 + 1) 0 (by omega) (by omega) 0 rfl  lz (lv_sub hl [3, 4, 2, 1, 0] rfl)

set_option maxHeartbeats 4000000 in
set_option maxRecDepth 100000 in
theorem c_X2_levelSum (l : Launch) (dC : Nat → ClassId) (dI : Nat → Nat → Nat) (cI cS cJ : ClassId) (tt : Nat → Nat) (a : Nat → Nat) (am : Int32) (ti : Int32) (ah : Int32) (lv : Nat → Int32) : Met l yX2_levelSum wsX2_levelSum ({ frames := 0, cells := 0, slots := 0, locals := 0 } : Room) (va_Pc [.ref (a 0)] (xm_R (dC, dI) cI cS cJ tt [((a 0), .inr (2, [.ref (a 1), .ref (a 2), .ref (a 3), .ref (a 4), .ref (a 5), .ref (a 6), .ref (a 7), .int am, .int ti, .int ah])), ((a 2), .inl (cI, 6, .inl lv))] (True))) (k2_QcV (.int (fm_sum lv 6))) 0 0 (fun _ => False) := by
  refine Met.ofW (cc := cX2_levelSum) (maxL := 3) (ret := (some .int)) (by decide) rfl ?_
  intro p e s m args below meth c s₁ B hml hv
  obtain ⟨rfl, hP, hE, hpre⟩ := hv
  have hx := B.exec
  have hb := B.bytes
  have hr := B.returns
  have hts := atoms_spec (ws := wsX2_levelSum) B.pre
  have hown : s.vm.findClass RX2 = some m.cls := findClass_of_methodNamed B.named
  have hlocks := B.notSynchronized
  have hK := hE.1
  have hS : va_S (fun _ => False) s.heap s.heap [] := va_S.rf
  have hP : va_P (dC, dI) vwCl [((a 0), .inr (2, [.ref (a 1), .ref (a 2), .ref (a 3), .ref (a 4), .ref (a 5), .ref (a 6), .ref (a 7), .int am, .int ti, .int ah])), ((a 2), .inl (cI, 6, .inl lv))] s.heap := hP
  have hin2 : ∀ w ∈ u_ws RX2 TX2 10, w ∈ wsX2_levelSum := by decide +kernel
  have hl := lv_entry [.ref (a 0)] (n := 3) (Nat.le_of_ble_eq_true rfl)
  rw [lg_entry_eq]
  generalize (lg_sl [.ref (a 0)] ++ List.replicate (3 - (lg_sl [.ref (a 0)]).length) Slot.unset).toArray = lz at hl ⊢
  have hl : lv_has lz 3 [(0, .ref (a 0))] := hl
  refine lv_iconst (v := 0) hx hb dX2_levelSum_0 (by decide) ?_
  refine lv_istore_n (lv' := [(1, .int 0), (0, .ref (a 0))]) hx hb dX2_levelSum_1 rfl hl (by decide) rfl (fun lz hl => ?_)
  refine lv_iconst (v := 0) hx hb dX2_levelSum_2 (by decide) ?_
  refine lv_istore_n (lv' := [(2, .int 0), (1, .int 0), (0, .ref (a 0))]) hx hb dX2_levelSum_3 rfl hl (by decide) rfl (fun lz hl => ?_)
  have L4 : ∀ (zz i : Nat), i ≤ 6 → 6 + 1 ≤ i + zz → ∀ (x1 : Int32), x1 = fm_sum lv i → ∀ (lz : Array Slot), lv_has lz 3 [(0, .ref (a 0)), (1, .int x1), (2, .int (nI i))] → W p l e (headSpec wsX2_levelSum ({ frames := 0, cells := 0, slots := 0, locals := 0 } : Room)).room s m ([.ref (a 0)] : List Value).toArray below meth c s.heap [] 0 0 (MQ below (k2_QcV (.int (fm_sum lv 6))) ([.ref (a 0)] : List Value).toArray s 0 0 (fun _ => False)) (F0 m 4 lz []) := by
    intro zz
    induction zz with
    | zero => intro i hii hni; exact absurd hni (by omega)
    | succ zz ih4 =>
      intro i hii hni x1 e_x1  lz hl
      subst e_x1
      refine lv_iload_n hx hb dX2_levelSum_4 rfl (lv_at hl 2 rfl) ?_
      refine lv_bipush (v := 6) hx hb dX2_levelSum_5 (by decide) ?_
      refine lv_icmp_ge (tgt := 25) hx hb dX2_levelSum_7 (by decide) (fun q7 => ?_) (fun q7 => ?_)
      · have hNi : 6 = i := (xm_end (N := 6) hii (by decide) q7).symm
        subst hNi
        refine lv_iload_n hx hb dX2_levelSum_25 rfl (lv_at hl 1 rfl) ?_
        exact W.iret (v := (fm_sum lv 6)) hx hb hr (fun t ht hW => ⟨congrArg (fun z => Outcome.returned (some (Value.int z))) (by simp), ht⟩) hS.2.2 dX2_levelSum_26
      · have hlti : i < 6 := xm_lt (N := 6) hii (by decide) q7
        refine lv_iload_n hx hb dX2_levelSum_10 rfl (lv_at hl 1 rfl) ?_
        refine lv_aload_n hx hb dX2_levelSum_11 rfl (lv_at hl 0 rfl) ?_
        refine va_get (D := (dC, dI)) (ci := 2) (v := .ref (a 2)) (C := RX2) (T := TX2) (N := 10) hx hb hts hin2 hown hK hP 0 rfl rfl 1 (by decide) (hts (.fieldLink RX2 15 "TurnDigits$State" "levels" "[I") (by decide +kernel)) (fun _ h9 => h9) rfl dX2_levelSum_12 ?_
        refine lv_iload_n hx hb dX2_levelSum_15 rfl (lv_at hl 2 rfl) ?_
        refine xm_iald (D := (dC, dI)) hx hb hK hP 1 0 i (v := lv i) rfl rfl (by decide) rfl (by omega) rfl dX2_levelSum_16 ?_
        refine lv_iadd hx hb dX2_levelSum_17 ?_
        refine lv_istore_n (lv' := [(1, .int ((fm_sum lv i) + (lv i))), (0, .ref (a 0)), (2, .int (nI i))]) hx hb dX2_levelSum_18 rfl hl (by decide) rfl (fun lz hl => ?_)
        refine lv_iinc (v := nI (i + 1)) (lv' := [(2, .int (nI (i + 1))), (1, .int ((fm_sum lv i) + (lv i))), (0, .ref (a 0))]) hx hb dX2_levelSum_19 hl (k := 2) rfl (nI_1 i) (by decide) rfl (fun lz hl => ?_)
        refine lv_goto (tgt := 4) hx hb dX2_levelSum_22 (by decide) ?_
        exact ih4 (i + 1) hlti (by omega) ((fm_sum lv i) + (lv i)) rfl  lz (lv_sub hl [2, 1, 0] rfl)
  exact L4 (6 + 1) 0 (by omega) (by omega) 0 rfl  lz (lv_sub hl [2, 1, 0] rfl)

set_option maxHeartbeats 4000000 in
set_option maxRecDepth 100000 in
theorem c_J6_bitCount_0f7a4 (l : Launch) (dC : Nat → ClassId) (dI : Nat → Nat → Nat) (cI cS cJ : ClassId) (tt : Nat → Nat) (x : Int32) : Met l yJ6_bitCount_0f7a4 wsJ6_bitCount_0f7a4 ({ frames := 0, cells := 0, slots := 0, locals := 0 } : Room) (va_Pc [.int x] (xm_R (dC, dI) cI cS cJ tt [] (True))) (k2_QcV (.int (fm_bc x))) 0 0 (fun _ => False) := by
  refine Met.ofW (cc := cJ6_bitCount_0f7a4) (maxL := 1) (ret := (some .int)) (by decide) rfl ?_
  intro p e s m args below meth c s₁ B hml hv
  obtain ⟨rfl, hP, hE, hpre⟩ := hv
  have hx := B.exec
  have hb := B.bytes
  have hr := B.returns
  have hts := atoms_spec (ws := wsJ6_bitCount_0f7a4) B.pre
  have hown : s.vm.findClass RJ6 = some m.cls := findClass_of_methodNamed B.named
  have hlocks := B.notSynchronized
  have hK := hE.1
  have hS : va_S (fun _ => False) s.heap s.heap [] := va_S.rf
  have hP : va_P (dC, dI) vwCl [] s.heap := hP
  have hl := lv_entry [.int x] (n := 1) (Nat.le_of_ble_eq_true rfl)
  rw [lg_entry_eq]
  generalize (lg_sl [.int x] ++ List.replicate (1 - (lg_sl [.int x]).length) Slot.unset).toArray = lz at hl ⊢
  have hl : lv_has lz 1 [(0, .int x)] := hl
  refine lv_iload_n hx hb dJ6_bitCount_0f7a4_0 rfl (lv_at hl 0 rfl) ?_
  refine lv_iload_n hx hb dJ6_bitCount_0f7a4_1 rfl (lv_at hl 0 rfl) ?_
  refine lv_iconst (v := 1) hx hb dJ6_bitCount_0f7a4_2 (by decide) ?_
  refine lv_iushr hx hb dJ6_bitCount_0f7a4_3 rfl ?_
  refine lv_ldcw (v := 1431655765) hx hb hown (hts (.constant RJ6 265 1431655765) (by decide +kernel)) dJ6_bitCount_0f7a4_4 ?_
  refine lv_iand hx hb dJ6_bitCount_0f7a4_7 ?_
  refine lv_isub hx hb dJ6_bitCount_0f7a4_8 ?_
  refine xm_topi (y := (fm_bc1 x)) rfl ?_
  refine lv_istore_n (lv' := [(0, .int (fm_bc1 x))]) hx hb dJ6_bitCount_0f7a4_9 rfl hl (by decide) rfl (fun lz hl => ?_)
  refine lv_iload_n hx hb dJ6_bitCount_0f7a4_10 rfl (lv_at hl 0 rfl) ?_
  refine lv_ldcw (v := 858993459) hx hb hown (hts (.constant RJ6 266 858993459) (by decide +kernel)) dJ6_bitCount_0f7a4_11 ?_
  refine lv_iand hx hb dJ6_bitCount_0f7a4_14 ?_
  refine lv_iload_n hx hb dJ6_bitCount_0f7a4_15 rfl (lv_at hl 0 rfl) ?_
  refine lv_iconst (v := 2) hx hb dJ6_bitCount_0f7a4_16 (by decide) ?_
  refine lv_iushr hx hb dJ6_bitCount_0f7a4_17 rfl ?_
  refine lv_ldcw (v := 858993459) hx hb hown (hts (.constant RJ6 266 858993459) (by decide +kernel)) dJ6_bitCount_0f7a4_18 ?_
  refine lv_iand hx hb dJ6_bitCount_0f7a4_21 ?_
  refine lv_iadd hx hb dJ6_bitCount_0f7a4_22 ?_
  refine xm_topi (y := (fm_bc2 (fm_bc1 x))) rfl ?_
  refine lv_istore_n (lv' := [(0, .int (fm_bc2 (fm_bc1 x)))]) hx hb dJ6_bitCount_0f7a4_23 rfl hl (by decide) rfl (fun lz hl => ?_)
  refine lv_iload_n hx hb dJ6_bitCount_0f7a4_24 rfl (lv_at hl 0 rfl) ?_
  refine lv_iload_n hx hb dJ6_bitCount_0f7a4_25 rfl (lv_at hl 0 rfl) ?_
  refine lv_iconst (v := 4) hx hb dJ6_bitCount_0f7a4_26 (by decide) ?_
  refine lv_iushr hx hb dJ6_bitCount_0f7a4_27 rfl ?_
  refine lv_iadd hx hb dJ6_bitCount_0f7a4_28 ?_
  refine lv_ldcw (v := 252645135) hx hb hown (hts (.constant RJ6 267 252645135) (by decide +kernel)) dJ6_bitCount_0f7a4_29 ?_
  refine lv_iand hx hb dJ6_bitCount_0f7a4_32 ?_
  refine xm_topi (y := (fm_bc3 (fm_bc2 (fm_bc1 x)))) rfl ?_
  refine lv_istore_n (lv' := [(0, .int (fm_bc3 (fm_bc2 (fm_bc1 x))))]) hx hb dJ6_bitCount_0f7a4_33 rfl hl (by decide) rfl (fun lz hl => ?_)
  refine lv_iload_n hx hb dJ6_bitCount_0f7a4_34 rfl (lv_at hl 0 rfl) ?_
  refine lv_iload_n hx hb dJ6_bitCount_0f7a4_35 rfl (lv_at hl 0 rfl) ?_
  refine lv_bipush (v := 8) hx hb dJ6_bitCount_0f7a4_36 (by decide) ?_
  refine lv_iushr hx hb dJ6_bitCount_0f7a4_38 rfl ?_
  refine lv_iadd hx hb dJ6_bitCount_0f7a4_39 ?_
  refine xm_topi (y := (fm_bc4 (fm_bc3 (fm_bc2 (fm_bc1 x))))) rfl ?_
  refine lv_istore_n (lv' := [(0, .int (fm_bc4 (fm_bc3 (fm_bc2 (fm_bc1 x)))))]) hx hb dJ6_bitCount_0f7a4_40 rfl hl (by decide) rfl (fun lz hl => ?_)
  refine lv_iload_n hx hb dJ6_bitCount_0f7a4_41 rfl (lv_at hl 0 rfl) ?_
  refine lv_iload_n hx hb dJ6_bitCount_0f7a4_42 rfl (lv_at hl 0 rfl) ?_
  refine lv_bipush (v := 16) hx hb dJ6_bitCount_0f7a4_43 (by decide) ?_
  refine lv_iushr hx hb dJ6_bitCount_0f7a4_45 rfl ?_
  refine lv_iadd hx hb dJ6_bitCount_0f7a4_46 ?_
  refine xm_topi (y := (fm_bc5 (fm_bc4 (fm_bc3 (fm_bc2 (fm_bc1 x)))))) rfl ?_
  refine lv_istore_n (lv' := [(0, .int (fm_bc5 (fm_bc4 (fm_bc3 (fm_bc2 (fm_bc1 x))))))]) hx hb dJ6_bitCount_0f7a4_47 rfl hl (by decide) rfl (fun lz hl => ?_)
  refine lv_iload_n hx hb dJ6_bitCount_0f7a4_48 rfl (lv_at hl 0 rfl) ?_
  refine lv_bipush (v := 63) hx hb dJ6_bitCount_0f7a4_49 (by decide) ?_
  refine lv_iand hx hb dJ6_bitCount_0f7a4_51 ?_
  exact W.iret (v := (fm_bc5 (fm_bc4 (fm_bc3 (fm_bc2 (fm_bc1 x))))) &&& 63) hx hb hr (fun t ht hW => ⟨congrArg (fun z => Outcome.returned (some (Value.int z))) (rfl), ht⟩) hS.2.2 dJ6_bitCount_0f7a4_52

set_option maxHeartbeats 4000000 in
set_option maxRecDepth 100000 in
theorem c_X2_burntSegments (l : Launch) (dC : Nat → ClassId) (dI : Nat → Nat → Nat) (cI cS cJ : ClassId) (tt : Nat → Nat) (a : Nat → Nat) (am : Int32) (ti : Int32) (ah : Int32) (bu : Nat → Int32) : Met l yX2_burntSegments wsX2_burntSegments ({ frames := 1, cells := 0, slots := 0, locals := 20 } : Room) (va_Pc [.ref (a 0)] (xm_R (dC, dI) cI cS cJ tt [((a 0), .inr (2, [.ref (a 1), .ref (a 2), .ref (a 3), .ref (a 4), .ref (a 5), .ref (a 6), .ref (a 7), .int am, .int ti, .int ah])), ((a 3), .inl (cI, 6, .inl bu))] (True))) (k2_QcV (.int (fm_sum (fun j => fm_bc (bu j)) 6))) 0 0 (fun _ => False) := by
  refine Met.ofW (cc := cX2_burntSegments) (maxL := 3) (ret := (some .int)) (by decide) rfl ?_
  intro p e s m args below meth c s₁ B hml hv
  obtain ⟨rfl, hP, hE, hpre⟩ := hv
  have hx := B.exec
  have hb := B.bytes
  have hr := B.returns
  have hts := atoms_spec (ws := wsX2_burntSegments) B.pre
  have hown : s.vm.findClass RX2 = some m.cls := findClass_of_methodNamed B.named
  have hlocks := B.notSynchronized
  have hK := hE.1
  have hS : va_S (fun _ => False) s.heap s.heap [] := va_S.rf
  have hP : va_P (dC, dI) vwCl [((a 0), .inr (2, [.ref (a 1), .ref (a 2), .ref (a 3), .ref (a 4), .ref (a 5), .ref (a 6), .ref (a 7), .int am, .int ti, .int ah])), ((a 3), .inl (cI, 6, .inl bu))] s.heap := hP
  have hin2 : ∀ w ∈ u_ws RX2 TX2 10, w ∈ wsX2_burntSegments := by decide +kernel
  have hl := lv_entry [.ref (a 0)] (n := 3) (Nat.le_of_ble_eq_true rfl)
  rw [lg_entry_eq]
  generalize (lg_sl [.ref (a 0)] ++ List.replicate (3 - (lg_sl [.ref (a 0)]).length) Slot.unset).toArray = lz at hl ⊢
  have hl : lv_has lz 3 [(0, .ref (a 0))] := hl
  refine lv_iconst (v := 0) hx hb dX2_burntSegments_0 (by decide) ?_
  refine lv_istore_n (lv' := [(1, .int 0), (0, .ref (a 0))]) hx hb dX2_burntSegments_1 rfl hl (by decide) rfl (fun lz hl => ?_)
  refine lv_iconst (v := 0) hx hb dX2_burntSegments_2 (by decide) ?_
  refine lv_istore_n (lv' := [(2, .int 0), (1, .int 0), (0, .ref (a 0))]) hx hb dX2_burntSegments_3 rfl hl (by decide) rfl (fun lz hl => ?_)
  have L4 : ∀ (zz i : Nat), i ≤ 6 → 6 + 1 ≤ i + zz → ∀ (x1 : Int32), x1 = fm_sum (fun j => fm_bc (bu j)) i → ∀ (lz : Array Slot), lv_has lz 3 [(0, .ref (a 0)), (1, .int x1), (2, .int (nI i))] → W p l e (headSpec wsX2_burntSegments ({ frames := 1, cells := 0, slots := 0, locals := 20 } : Room)).room s m ([.ref (a 0)] : List Value).toArray below meth c s.heap [] 0 0 (MQ below (k2_QcV (.int (fm_sum (fun j => fm_bc (bu j)) 6))) ([.ref (a 0)] : List Value).toArray s 0 0 (fun _ => False)) (F0 m 4 lz []) := by
    intro zz
    induction zz with
    | zero => intro i hii hni; exact absurd hni (by omega)
    | succ zz ih4 =>
      intro i hii hni x1 e_x1  lz hl
      subst e_x1
      refine lv_iload_n hx hb dX2_burntSegments_4 rfl (lv_at hl 2 rfl) ?_
      refine lv_bipush (v := 6) hx hb dX2_burntSegments_5 (by decide) ?_
      refine lv_icmp_ge (tgt := 28) hx hb dX2_burntSegments_7 (by decide) (fun q7 => ?_) (fun q7 => ?_)
      · have hNi : 6 = i := (xm_end (N := 6) hii (by decide) q7).symm
        subst hNi
        refine lv_iload_n hx hb dX2_burntSegments_28 rfl (lv_at hl 1 rfl) ?_
        exact W.iret (v := (fm_sum (fun j => fm_bc (bu j)) 6)) hx hb hr (fun t ht hW => ⟨congrArg (fun z => Outcome.returned (some (Value.int z))) (by simp), ht⟩) hS.2.2 dX2_burntSegments_29
      · have hlti : i < 6 := xm_lt (N := 6) hii (by decide) q7
        refine lv_iload_n hx hb dX2_burntSegments_10 rfl (lv_at hl 1 rfl) ?_
        refine lv_aload_n hx hb dX2_burntSegments_11 rfl (lv_at hl 0 rfl) ?_
        refine va_get (D := (dC, dI)) (ci := 2) (v := .ref (a 3)) (C := RX2) (T := TX2) (N := 10) hx hb hts hin2 hown hK hP 0 rfl rfl 2 (by decide) (hts (.fieldLink RX2 18 "TurnDigits$State" "burnt" "[I") (by decide +kernel)) (fun _ h9 => h9) rfl dX2_burntSegments_12 ?_
        refine lv_iload_n hx hb dX2_burntSegments_15 rfl (lv_at hl 2 rfl) ?_
        refine xm_iald (D := (dC, dI)) hx hb hK hP 1 0 i (v := bu i) rfl rfl (by decide) rfl (by omega) rfl dX2_burntSegments_16 ?_
        have hPc := hP.sub (ws' := []) [] rfl
        refine W.callV ((va_runS (As := [.int (bu i)]) (rest := [.int (fm_sum (fun j => fm_bc (bu j)) i)]) ⟨hx, hb, hml, hown, hts⟩ (c_J6_bitCount_0f7a4 l dC dI cI cS cJ tt (bu i)) (va_cwS 1 hts gX2_burntSegments_J6_bitCount_0f7a4 rfl rfl rfl (by decide +kernel) ⟨Nat.le_of_ble_eq_true rfl, Nat.le_of_ble_eq_true rfl⟩) ⟨xm_Rblind, fun U hU hW => ⟨rfl, by rw [hU]; exact hPc, hE.go hS (fun _ q => q.elim) hU hW, trivial⟩⟩ rfl rfl hl.1 rfl (lv_room (Nat.le_of_ble_eq_true rfl)) dX2_burntSegments_17 ⟨Nat.zero_le _, Nat.zero_le _⟩).run) ?_
        refine W.eq (g2 := F0 m 20 lz (.int (fm_bc (bu i)) :: [.int (fm_sum (fun j => fm_bc (bu j)) i)])) rfl ?_
        refine lv_iadd hx hb dX2_burntSegments_20 ?_
        refine lv_istore_n (lv' := [(1, .int ((fm_sum (fun j => fm_bc (bu j)) i) + (fm_bc (bu i)))), (0, .ref (a 0)), (2, .int (nI i))]) hx hb dX2_burntSegments_21 rfl hl (by decide) rfl (fun lz hl => ?_)
        refine lv_iinc (v := nI (i + 1)) (lv' := [(2, .int (nI (i + 1))), (1, .int ((fm_sum (fun j => fm_bc (bu j)) i) + (fm_bc (bu i)))), (0, .ref (a 0))]) hx hb dX2_burntSegments_22 hl (k := 2) rfl (nI_1 i) (by decide) rfl (fun lz hl => ?_)
        refine lv_goto (tgt := 4) hx hb dX2_burntSegments_25 (by decide) ?_
        exact ih4 (i + 1) hlti (by omega) ((fm_sum (fun j => fm_bc (bu j)) i) + (fm_bc (bu i))) rfl  lz (lv_sub hl [2, 1, 0] rfl)
  exact L4 (6 + 1) 0 (by omega) (by omega) 0 rfl  lz (lv_sub hl [2, 1, 0] rfl)

set_option maxHeartbeats 4000000 in
set_option maxRecDepth 100000 in
theorem c_X2_clearCredits (l : Launch) (dC : Nat → ClassId) (dI : Nat → Nat → Nat) (cI cS cJ : ClassId) (tt : Nat → Nat) (sz : Nat) (a : Nat → Nat) (am : Int32) (ti : Int32) (ah : Int32) (cr : Nat → Int32) : Met l yX2_clearCredits wsX2_clearCredits ({ frames := 1, cells := 0, slots := 0, locals := 23 } : Room) (va_Pc [.ref (a 0)] (xm_M (dC, dI) cI cS cJ tt [((a 0), .inr (2, [.ref (a 1), .ref (a 2), .ref (a 3), .ref (a 4), .ref (a 5), .ref (a 6), .ref (a 7), .int am, .int ti, .int ah])), ((a 4), .inl (cI, 6, .inl cr))] sz (True))) (va_Qv (fun (u : (Nat → Int32)) => u = (fun _ => 0)) (xm_B (dC, dI) (fun (u : (Nat → Int32)) => [((a 0), .inr (2, [.ref (a 1), .ref (a 2), .ref (a 3), .ref (a 4), .ref (a 5), .ref (a 6), .ref (a 7), .int am, .int ti, .int ah])), ((a 4), .inl (cI, 6, .inl u))]) (va_A [((a 0), .inr (2, [.ref (a 1), .ref (a 2), .ref (a 3), .ref (a 4), .ref (a 5), .ref (a 6), .ref (a 7), .int am, .int ti, .int ah])), ((a 4), .inl (cI, 6, .inl cr))] sz)) (va_A [((a 0), .inr (2, [.ref (a 1), .ref (a 2), .ref (a 3), .ref (a 4), .ref (a 5), .ref (a 6), .ref (a 7), .int am, .int ti, .int ah])), ((a 4), .inl (cI, 6, .inl cr))] sz)) 0 0 (va_A [((a 0), .inr (2, [.ref (a 1), .ref (a 2), .ref (a 3), .ref (a 4), .ref (a 5), .ref (a 6), .ref (a 7), .int am, .int ti, .int ah])), ((a 4), .inl (cI, 6, .inl cr))] sz) := by
  refine Met.ofW (cc := cX2_clearCredits) (maxL := 1) (ret := none) (by decide) rfl ?_
  intro p e s m args below meth c s₁ B hml hv
  obtain ⟨rfl, hsz, hP, hE, hD0, hpre⟩ := hv
  have hx := B.exec
  have hb := B.bytes
  have hr := B.returns
  have hts := atoms_spec (ws := wsX2_clearCredits) B.pre
  have hown : s.vm.findClass RX2 = some m.cls := findClass_of_methodNamed B.named
  have hlocks := B.notSynchronized
  have hK := hE.1
  subst hsz
  have hD := hD0.self (sz := s.heap.size)
  generalize hAe : va_A [((a 0), .inr (2, [.ref (a 1), .ref (a 2), .ref (a 3), .ref (a 4), .ref (a 5), .ref (a 6), .ref (a 7), .int am, .int ti, .int ah])), ((a 4), .inl (cI, 6, .inl cr))] s.heap.size = A at hD hE ⊢
  have hA : ∀ q : Nat, s.heap.size ≤ q → A q := fun q h => by rw [← hAe]; exact Or.inr h
  have hS : va_S A s.heap s.heap [] := va_S.rf
  have hP : va_P (dC, dI) vwCl [((a 0), .inr (2, [.ref (a 1), .ref (a 2), .ref (a 3), .ref (a 4), .ref (a 5), .ref (a 6), .ref (a 7), .int am, .int ti, .int ah])), ((a 4), .inl (cI, 6, .inl cr))] s.heap := hP
  have hin2 : ∀ w ∈ u_ws RX2 TX2 10, w ∈ wsX2_clearCredits := by decide +kernel
  have hl := lv_entry [.ref (a 0)] (n := 1) (Nat.le_of_ble_eq_true rfl)
  rw [lg_entry_eq]
  generalize (lg_sl [.ref (a 0)] ++ List.replicate (1 - (lg_sl [.ref (a 0)]).length) Slot.unset).toArray = lz at hl ⊢
  have hl : lv_has lz 1 [(0, .ref (a 0))] := hl
  refine lv_aload_n hx hb dX2_clearCredits_0 rfl (lv_at hl 0 rfl) ?_
  refine va_get (D := (dC, dI)) (ci := 2) (v := .ref (a 4)) (C := RX2) (T := TX2) (N := 10) hx hb hts hin2 hown hK hP 0 rfl rfl 3 (by decide) (hts (.fieldLink RX2 21 "TurnDigits$State" "credits" "[I") (by decide +kernel)) (fun _ h9 => h9) rfl dX2_clearCredits_1 ?_
  refine lv_iconst (v := 0) hx hb dX2_clearCredits_4 (by decide) ?_
  have hPc := hP.sub (ws' := [((a 4), .inl (cI, 6, .inl cr))]) [1] rfl
  have hDc := hD.sub (ws' := [((a 4), .inl (cI, 6, .inl cr))]) [1] (by decide) rfl
  have hFc := va_free (wc := [((a 4), .inl (cI, 6, .inl cr))]) hD hS hA [1] rfl
  refine va_callv (va_runS (As := [.ref (a 4), .int 0]) (rest := []) ⟨hx, hb, hml, hown, hts⟩ (c_J7_fill_53178 l dC dI cI cS cJ tt s.heap.size (a 4) cr 0) (va_cwS 2 hts gX2_clearCredits_J7_fill_53178 rfl rfl rfl (by decide +kernel) ⟨Nat.le_of_ble_eq_true rfl, Nat.le_of_ble_eq_true rfl⟩) ⟨xm_Mblind, fun U hU hW => ⟨rfl, by rw [hU], by rw [hU]; exact hPc, hE.go hS hFc hU hW, hDc.weaken (fun _ _ _ _ => trivial), trivial⟩⟩ rfl rfl hl.1 rfl (lv_room (Nat.le_of_ble_eq_true rfl)) dX2_clearCredits_5 ⟨Nat.zero_le _, Nat.zero_le _⟩) hS (fun q _ h => hFc q h) hFc (fun u t H1 locs ht hvm hw hB hz1 hk1 hS => ?_)
  obtain ⟨u_1, rfl⟩ : ∃ z, z = u := ⟨_, rfl⟩
  obtain ⟨hP1, hD1⟩ := hB
  rw [ht] at hP1
  have hw_2 := hw
  have hw_2 : u_1 = (fun _ => 0) := hw_2
  subst hw_2
  obtain ⟨hP, hD⟩ := va_join (wr := [((a 0), .inr (2, [.ref (a 1), .ref (a 2), .ref (a 3), .ref (a 4), .ref (a 5), .ref (a 6), .ref (a 7), .int am, .int ti, .int ah]))]) (w1 := [((a 4), .inl (cI, 6, .inl (fun _ => 0)))]) hP hD [1] [0] rfl rfl (by decide) (by decide) hk1 hFc hP1 hD1
  generalize H1 = H at hP hS ⊢
  have hP : va_P (dC, dI) vwCl [((a 0), .inr (2, [.ref (a 1), .ref (a 2), .ref (a 3), .ref (a 4), .ref (a 5), .ref (a 6), .ref (a 7), .int am, .int ti, .int ah])), ((a 4), .inl (cI, 6, .inl (fun _ => 0)))] H := hP
  have hD : va_D A [((a 0), .inr (2, [.ref (a 1), .ref (a 2), .ref (a 3), .ref (a 4), .ref (a 5), .ref (a 6), .ref (a 7), .int am, .int ti, .int ah])), ((a 4), .inl (cI, 6, .inl (fun _ => 0)))] := hD
  have hP9 : va_P (dC, dI) vwCl [((a 0), .inr (2, [.ref (a 1), .ref (a 2), .ref (a 3), .ref (a 4), .ref (a 5), .ref (a 6), .ref (a 7), .int am, .int ti, .int ah])), ((a 4), .inl (cI, 6, .inl (fun _ => 0)))] H := hP
  have hD9 : va_D A [((a 0), .inr (2, [.ref (a 1), .ref (a 2), .ref (a 3), .ref (a 4), .ref (a 5), .ref (a 6), .ref (a 7), .int am, .int ti, .int ah])), ((a 4), .inl (cI, 6, .inl (fun _ => 0)))] := hD
  exact W.vret hx hb hr (fun t ht hW => ⟨⟨(fun _ => 0), rfl, rfl, by rw [ht]; exact hP9, hD9⟩, hS.F ht⟩) hS.2.2 dX2_clearCredits_8

set_option maxHeartbeats 4000000 in
set_option maxRecDepth 100000 in
theorem c_X2_wearOut (l : Launch) (dC : Nat → ClassId) (dI : Nat → Nat → Nat) (cI cS cJ : ClassId) (tt : Nat → Nat) (sz : Nat) (a : Nat → Nat) (am : Int32) (ti : Int32) (ah : Int32) (sg : Nat → Int32) (bu : Nat → Int32) (we : Nat → Int32) (se : Nat → Int32) (d : Nat) : Met l yX2_wearOut wsX2_wearOut ({ frames := 1, cells := 0, slots := 0, locals := 21 } : Room) (va_Pc [.ref (a 0), .int (nI d)] (xm_M (dC, dI) cI cS cJ tt [((a 0), .inr (2, [.ref (a 1), .ref (a 2), .ref (a 3), .ref (a 4), .ref (a 5), .ref (a 6), .ref (a 7), .int am, .int ti, .int ah])), ((a 1), .inl (cI, 6, .inl sg)), ((a 3), .inl (cI, 6, .inl bu)), ((a 6), .inl (cI, 42, .inl we)), ((a 7), .inl (cI, 5, .inl se))] sz (d < 6 ∧ fm_ix (sg d) 12))) (va_Qi (fun (r : Int32) (u : (Nat → Int32) × (Nat → Int32)) => r = fm_won (fm_shw (sg d) (bu d)) (se 4 * 100) d we 7 ∧ u.1 = upd bu d (fm_wob (fm_shw (sg d) (bu d)) (se 4 * 100) d we (bu d) 7) ∧ u.2 = fm_wow (fm_shw (sg d) (bu d)) d we 7) (xm_B (dC, dI) (fun (u : (Nat → Int32) × (Nat → Int32)) => [((a 0), .inr (2, [.ref (a 1), .ref (a 2), .ref (a 3), .ref (a 4), .ref (a 5), .ref (a 6), .ref (a 7), .int am, .int ti, .int ah])), ((a 1), .inl (cI, 6, .inl sg)), ((a 3), .inl (cI, 6, .inl u.1)), ((a 6), .inl (cI, 42, .inl u.2)), ((a 7), .inl (cI, 5, .inl se))]) (va_A [((a 0), .inr (2, [.ref (a 1), .ref (a 2), .ref (a 3), .ref (a 4), .ref (a 5), .ref (a 6), .ref (a 7), .int am, .int ti, .int ah])), ((a 1), .inl (cI, 6, .inl sg)), ((a 3), .inl (cI, 6, .inl bu)), ((a 6), .inl (cI, 42, .inl we)), ((a 7), .inl (cI, 5, .inl se))] sz)) (va_A [((a 0), .inr (2, [.ref (a 1), .ref (a 2), .ref (a 3), .ref (a 4), .ref (a 5), .ref (a 6), .ref (a 7), .int am, .int ti, .int ah])), ((a 1), .inl (cI, 6, .inl sg)), ((a 3), .inl (cI, 6, .inl bu)), ((a 6), .inl (cI, 42, .inl we)), ((a 7), .inl (cI, 5, .inl se))] sz)) 0 0 (va_A [((a 0), .inr (2, [.ref (a 1), .ref (a 2), .ref (a 3), .ref (a 4), .ref (a 5), .ref (a 6), .ref (a 7), .int am, .int ti, .int ah])), ((a 1), .inl (cI, 6, .inl sg)), ((a 3), .inl (cI, 6, .inl bu)), ((a 6), .inl (cI, 42, .inl we)), ((a 7), .inl (cI, 5, .inl se))] sz) := by
  refine Met.ofW (cc := cX2_wearOut) (maxL := 7) (ret := (some .int)) (by decide) rfl ?_
  intro p e s m args below meth c s₁ B hml hv
  obtain ⟨rfl, hsz, hP, hE, hD0, hpre⟩ := hv
  have hx := B.exec
  have hb := B.bytes
  have hr := B.returns
  have hts := atoms_spec (ws := wsX2_wearOut) B.pre
  have hown : s.vm.findClass RX2 = some m.cls := findClass_of_methodNamed B.named
  have hlocks := B.notSynchronized
  have hK := hE.1
  subst hsz
  have hD := hD0.self (sz := s.heap.size)
  generalize hAe : va_A [((a 0), .inr (2, [.ref (a 1), .ref (a 2), .ref (a 3), .ref (a 4), .ref (a 5), .ref (a 6), .ref (a 7), .int am, .int ti, .int ah])), ((a 1), .inl (cI, 6, .inl sg)), ((a 3), .inl (cI, 6, .inl bu)), ((a 6), .inl (cI, 42, .inl we)), ((a 7), .inl (cI, 5, .inl se))] s.heap.size = A at hD hE ⊢
  have hA : ∀ q : Nat, s.heap.size ≤ q → A q := fun q h => by rw [← hAe]; exact Or.inr h
  have hS : va_S A s.heap s.heap [] := va_S.rf
  have hP : va_P (dC, dI) vwCl [((a 0), .inr (2, [.ref (a 1), .ref (a 2), .ref (a 3), .ref (a 4), .ref (a 5), .ref (a 6), .ref (a 7), .int am, .int ti, .int ah])), ((a 1), .inl (cI, 6, .inl sg)), ((a 3), .inl (cI, 6, .inl bu)), ((a 6), .inl (cI, 42, .inl we)), ((a 7), .inl (cI, 5, .inl se))] s.heap := hP
  have hin2 : ∀ w ∈ u_ws RX2 TX2 10, w ∈ wsX2_wearOut := by decide +kernel
  have hl := lv_entry [.ref (a 0), .int (nI d)] (n := 7) (Nat.le_of_ble_eq_true rfl)
  rw [lg_entry_eq]
  generalize (lg_sl [.ref (a 0), .int (nI d)] ++ List.replicate (7 - (lg_sl [.ref (a 0), .int (nI d)]).length) Slot.unset).toArray = lz at hl ⊢
  have hl : lv_has lz 7 [(0, .ref (a 0)), (1, .int (nI d))] := hl
  obtain ⟨hd6, hsg⟩ := id hpre
  refine lv_aload_n hx hb dX2_wearOut_0 rfl (lv_at hl 0 rfl) ?_
  refine va_get (D := (dC, dI)) (ci := 2) (v := .ref (a 7)) (C := RX2) (T := TX2) (N := 10) hx hb hts hin2 hown hK hP 0 rfl rfl 6 (by decide) (hts (.fieldLink RX2 30 "TurnDigits$State" "settings" "[I") (by decide +kernel)) (fun _ h9 => h9) rfl dX2_wearOut_1 ?_
  refine lv_iconst (v := 4) hx hb dX2_wearOut_4 (by decide) ?_
  refine xm_iald (D := (dC, dI)) hx hb hK hP 4 0 4 (v := se 4) rfl rfl (by decide) rfl (by decide) rfl dX2_wearOut_5 ?_
  refine lv_bipush (v := 100) hx hb dX2_wearOut_6 (by decide) ?_
  refine lv_imul hx hb dX2_wearOut_8 ?_
  refine xm_topi (y := (se 4 * 100)) rfl ?_
  refine lv_istore_n (lv' := [(2, .int (se 4 * 100)), (0, .ref (a 0)), (1, .int (nI d))]) hx hb dX2_wearOut_9 rfl hl (by decide) rfl (fun lz hl => ?_)
  refine lv_aload_n hx hb dX2_wearOut_10 rfl (lv_at hl 1 rfl) ?_
  refine lv_iload_n hx hb dX2_wearOut_11 rfl (lv_at hl 2 rfl) ?_
  have hPc := hP.sub (ws' := [((a 0), .inr (2, [.ref (a 1), .ref (a 2), .ref (a 3), .ref (a 4), .ref (a 5), .ref (a 6), .ref (a 7), .int am, .int ti, .int ah])), ((a 1), .inl (cI, 6, .inl sg)), ((a 3), .inl (cI, 6, .inl bu))]) [0, 1, 2] rfl
  refine W.callV ((va_runV (As := [.int (nI d)]) (rest := []) ⟨hx, hb, hml, hown, hts⟩ (c_X2_shownSegments l dC dI cI cS cJ tt a am ti ah sg bu d) (cwV 1 hts gX2_wearOut_X2_shownSegments rfl rfl rfl (by decide +kernel) ⟨Nat.le_of_ble_eq_true rfl, Nat.le_of_ble_eq_true rfl⟩) ⟨xm_Rblind, va_recv hK hPc (ci := 2) (q0 := 0) rfl rfl, fun U hU hW => ⟨rfl, by rw [hU]; exact hPc, hE.go hS (fun _ q => q.elim) hU hW, hpre⟩⟩ rfl rfl hl.1 rfl (lv_room (Nat.le_of_ble_eq_true rfl)) dX2_wearOut_12 ⟨Nat.zero_le _, Nat.zero_le _⟩).run) ?_
  refine W.eq (g2 := F0 m 15 lz (.int (fm_shw (sg d) (bu d)) :: [])) rfl ?_
  refine lv_istore_n (lv' := [(3, .int (fm_shw (sg d) (bu d))), (2, .int (se 4 * 100)), (0, .ref (a 0)), (1, .int (nI d))]) hx hb dX2_wearOut_15 rfl hl (by decide) rfl (fun lz hl => ?_)
  refine lv_iconst (v := 0) hx hb dX2_wearOut_16 (by decide) ?_
  refine lv_istore (lv' := [(4, .int 0), (3, .int (fm_shw (sg d) (bu d))), (2, .int (se 4 * 100)), (0, .ref (a 0)), (1, .int (nI d))]) hx hb dX2_wearOut_17 hl (by decide) rfl (fun lz hl => ?_)
  refine lv_iconst (v := 0) hx hb dX2_wearOut_19 (by decide) ?_
  refine lv_istore (lv' := [(5, .int 0), (4, .int 0), (3, .int (fm_shw (sg d) (bu d))), (2, .int (se 4 * 100)), (0, .ref (a 0)), (1, .int (nI d))]) hx hb dX2_wearOut_20 hl (by decide) rfl (fun lz hl => ?_)
  have L22 : ∀ (zz i : Nat), i ≤ 7 → 7 + 1 ≤ i + zz → ∀ (x4 : Int32) (fb : Nat → Int32) (fw : Nat → Int32), x4 = fm_won (fm_shw (sg d) (bu d)) (se 4 * 100) d we i → fb = upd bu d (fm_wob (fm_shw (sg d) (bu d)) (se 4 * 100) d we (bu d) i) → fw = fm_wow (fm_shw (sg d) (bu d)) d we i → ∀ (H : Heap) (locs : List Loc), va_P (dC, dI) vwCl [((a 0), .inr (2, [.ref (a 1), .ref (a 2), .ref (a 3), .ref (a 4), .ref (a 5), .ref (a 6), .ref (a 7), .int am, .int ti, .int ah])), ((a 1), .inl (cI, 6, .inl sg)), ((a 3), .inl (cI, 6, .inl fb)), ((a 6), .inl (cI, 42, .inl fw)), ((a 7), .inl (cI, 5, .inl se))] H → va_D A [((a 0), .inr (2, [.ref (a 1), .ref (a 2), .ref (a 3), .ref (a 4), .ref (a 5), .ref (a 6), .ref (a 7), .int am, .int ti, .int ah])), ((a 1), .inl (cI, 6, .inl sg)), ((a 3), .inl (cI, 6, .inl fb)), ((a 6), .inl (cI, 42, .inl fw)), ((a 7), .inl (cI, 5, .inl se))] → va_S A s.heap H locs → ∀ (lz : Array Slot), lv_has lz 7 [(0, .ref (a 0)), (1, .int (nI d)), (2, .int (se 4 * 100)), (3, .int (fm_shw (sg d) (bu d))), (4, .int x4), (5, .int (nI i))] → W p l e (headSpec wsX2_wearOut ({ frames := 1, cells := 0, slots := 0, locals := 21 } : Room)).room s m ([.ref (a 0), .int (nI d)] : List Value).toArray below meth c H locs 0 0 (MQ below (va_Qi (fun (r : Int32) (u : (Nat → Int32) × (Nat → Int32)) => r = fm_won (fm_shw (sg d) (bu d)) (se 4 * 100) d we 7 ∧ u.1 = upd bu d (fm_wob (fm_shw (sg d) (bu d)) (se 4 * 100) d we (bu d) 7) ∧ u.2 = fm_wow (fm_shw (sg d) (bu d)) d we 7) (xm_B (dC, dI) (fun (u : (Nat → Int32) × (Nat → Int32)) => [((a 0), .inr (2, [.ref (a 1), .ref (a 2), .ref (a 3), .ref (a 4), .ref (a 5), .ref (a 6), .ref (a 7), .int am, .int ti, .int ah])), ((a 1), .inl (cI, 6, .inl sg)), ((a 3), .inl (cI, 6, .inl u.1)), ((a 6), .inl (cI, 42, .inl u.2)), ((a 7), .inl (cI, 5, .inl se))]) A) A) ([.ref (a 0), .int (nI d)] : List Value).toArray s 0 0 A) (F0 m 22 lz []) := by
    intro zz
    induction zz with
    | zero => intro i hii hni; exact absurd hni (by omega)
    | succ zz ih22 =>
      intro i hii hni x4 fb fw e_x4 e_fb e_fw  H locs hP hD hS lz hl
      subst e_x4 e_fb e_fw
      refine lv_iload hx hb dX2_wearOut_22 (lv_at hl 5 rfl) ?_
      refine lv_bipush (v := 7) hx hb dX2_wearOut_24 (by decide) ?_
      refine lv_icmp_ge (tgt := 95) hx hb dX2_wearOut_26 (by decide) (fun q26 => ?_) (fun q26 => ?_)
      · have hNi : 7 = i := (xm_end (N := 7) hii (by decide) q26).symm
        subst hNi
        refine lv_iload hx hb dX2_wearOut_95 (lv_at hl 4 rfl) ?_
        have hP9 : va_P (dC, dI) vwCl [((a 0), .inr (2, [.ref (a 1), .ref (a 2), .ref (a 3), .ref (a 4), .ref (a 5), .ref (a 6), .ref (a 7), .int am, .int ti, .int ah])), ((a 1), .inl (cI, 6, .inl sg)), ((a 3), .inl (cI, 6, .inl (upd bu d (fm_wob (fm_shw (sg d) (bu d)) (se 4 * 100) d we (bu d) 7)))), ((a 6), .inl (cI, 42, .inl (fm_wow (fm_shw (sg d) (bu d)) d we 7))), ((a 7), .inl (cI, 5, .inl se))] H := hP
        have hD9 : va_D A [((a 0), .inr (2, [.ref (a 1), .ref (a 2), .ref (a 3), .ref (a 4), .ref (a 5), .ref (a 6), .ref (a 7), .int am, .int ti, .int ah])), ((a 1), .inl (cI, 6, .inl sg)), ((a 3), .inl (cI, 6, .inl (upd bu d (fm_wob (fm_shw (sg d) (bu d)) (se 4 * 100) d we (bu d) 7)))), ((a 6), .inl (cI, 42, .inl (fm_wow (fm_shw (sg d) (bu d)) d we 7))), ((a 7), .inl (cI, 5, .inl se))] := hD
        exact W.iret (v := (fm_won (fm_shw (sg d) (bu d)) (se 4 * 100) d we 7)) hx hb hr (fun t ht hW => ⟨⟨(fm_won (fm_shw (sg d) (bu d)) (se 4 * 100) d we 7), ((upd bu d (fm_wob (fm_shw (sg d) (bu d)) (se 4 * 100) d we (bu d) 7)), (fm_wow (fm_shw (sg d) (bu d)) d we 7)), rfl, ⟨(by simp), (by simp), (by simp)⟩, by rw [ht]; exact hP9, hD9⟩, hS.F ht⟩) hS.2.2 dX2_wearOut_97
      · have hlti : i < 7 := xm_lt (N := 7) hii (by decide) q26
        refine lv_iload_n hx hb dX2_wearOut_29 rfl (lv_at hl 3 rfl) ?_
        refine lv_iload hx hb dX2_wearOut_30 (lv_at hl 5 rfl) ?_
        refine lv_ishr hx hb dX2_wearOut_32 ?_
        refine lv_iconst (v := 1) hx hb dX2_wearOut_33 (by decide) ?_
        refine lv_iand hx hb dX2_wearOut_34 ?_
        refine xm_topi (y := (fm_bit (fm_shw (sg d) (bu d)) i)) rfl ?_
        refine lv_iconst (v := 1) hx hb dX2_wearOut_35 (by decide) ?_
        refine lv_icmp_ne (tgt := 89) hx hb dX2_wearOut_36 (by decide) (fun q36 => ?_) (fun q36 => ?_)
        · refine lv_iinc (v := nI (i + 1)) (lv' := [(5, .int (nI (i + 1))), (0, .ref (a 0)), (1, .int (nI d)), (2, .int (se 4 * 100)), (3, .int (fm_shw (sg d) (bu d))), (4, .int (fm_won (fm_shw (sg d) (bu d)) (se 4 * 100) d we i))]) hx hb dX2_wearOut_89 hl (k := 5) rfl (nI_1 i) (by decide) rfl (fun lz hl => ?_)
          refine lv_goto (tgt := 22) hx hb dX2_wearOut_92 (by decide) ?_
          exact ih22 (i + 1) hlti (by omega) (fm_won (fm_shw (sg d) (bu d)) (se 4 * 100) d we i) (upd bu d (fm_wob (fm_shw (sg d) (bu d)) (se 4 * 100) d we (bu d) i)) (fm_wow (fm_shw (sg d) (bu d)) d we i) (by simp only [fm_wow, fm_won, if_neg q26, if_neg q36]) (by simp only [fm_wob, fm_upd_upd, if_neg q26, if_neg q36]) (by simp only [fm_wow, fm_won, if_neg q26, if_neg q36])  H locs hP hD hS lz (lv_sub hl [1, 2, 3, 4, 5, 0] rfl)
        · refine lv_iload_n hx hb dX2_wearOut_39 rfl (lv_at hl 1 rfl) ?_
          refine lv_iload hx hb dX2_wearOut_40 (lv_at hl 5 rfl) ?_
          have hPc := hP.sub (ws' := []) [] rfl
          refine W.callV ((va_runSN (As := [.int (nI d), .int (nI i)]) (rest := []) ⟨hx, hb, hml, hown, hts⟩ (c_X4_wearPlace l dC dI cI cS cJ tt d i) ⟨va_cnB 2 hts gX2_wearOut_X4_wearPlace_n79 rfl rfl rfl hE.2.1.2.2.2.2.2.2.2.2.1 (hts (.initialized RX4) (by decide +kernel)) (by decide +kernel) ⟨Nat.le_of_ble_eq_true rfl, Nat.le_of_ble_eq_true rfl⟩, hts (.static yX4_wearPlace) (by decide +kernel), trivial⟩ ⟨xm_Rblind, fun U hU hW => ⟨rfl, by rw [hU]; exact hPc, hE.go hS (fun _ q => q.elim) hU hW, trivial⟩⟩ rfl rfl hl.1 rfl (lv_room (Nat.le_of_ble_eq_true rfl)) dX2_wearOut_42 ⟨Nat.zero_le _, Nat.zero_le _⟩).run) ?_
          refine W.eq (g2 := F0 m 45 lz (.int (nI (d * 7 + i)) :: [])) rfl ?_
          refine lv_istore (lv' := [(6, .int (nI (d * 7 + i))), (0, .ref (a 0)), (1, .int (nI d)), (2, .int (se 4 * 100)), (3, .int (fm_shw (sg d) (bu d))), (4, .int (fm_won (fm_shw (sg d) (bu d)) (se 4 * 100) d we i)), (5, .int (nI i))]) hx hb dX2_wearOut_45 hl (by decide) rfl (fun lz hl => ?_)
          refine lv_aload_n hx hb dX2_wearOut_47 rfl (lv_at hl 1 rfl) ?_
          refine va_get (D := (dC, dI)) (ci := 2) (v := .ref (a 6)) (C := RX2) (T := TX2) (N := 10) hx hb hts hin2 hown hK hP 0 rfl rfl 5 (by decide) (hts (.fieldLink RX2 27 "TurnDigits$State" "wears" "[I") (by decide +kernel)) (fun _ h9 => h9) rfl dX2_wearOut_48 ?_
          refine lv_iload hx hb dX2_wearOut_51 (lv_at hl 0 rfl) ?_
          refine lv_dup2_11 hx hb dX2_wearOut_53 rfl rfl ?_
          refine xm_iald (D := (dC, dI)) hx hb hK hP 3 0 (d * 7 + i) (v := (fm_wow (fm_shw (sg d) (bu d)) d we i) (d * 7 + i)) rfl rfl (by decide) rfl (by omega) rfl dX2_wearOut_54 ?_
          refine lv_iconst (v := 1) hx hb dX2_wearOut_55 (by decide) ?_
          refine lv_iadd hx hb dX2_wearOut_56 ?_
          refine xm_iast (D := (dC, dI)) hx hb hK hP hD hS 3 0 (d * 7 + i) rfl rfl (by decide) rfl (by omega) dX2_wearOut_57 (fun H locs hP hD hS => ?_)
          have hP : va_P (dC, dI) vwCl [((a 0), .inr (2, [.ref (a 1), .ref (a 2), .ref (a 3), .ref (a 4), .ref (a 5), .ref (a 6), .ref (a 7), .int am, .int ti, .int ah])), ((a 1), .inl (cI, 6, .inl sg)), ((a 3), .inl (cI, 6, .inl (upd bu d (fm_wob (fm_shw (sg d) (bu d)) (se 4 * 100) d we (bu d) i)))), ((a 6), .inl (cI, 42, .inl (upd (fm_wow (fm_shw (sg d) (bu d)) d we i) (d * 7 + i) (((fm_wow (fm_shw (sg d) (bu d)) d we i) (d * 7 + i)) + 1)))), ((a 7), .inl (cI, 5, .inl se))] H := hP
          have hD : va_D A [((a 0), .inr (2, [.ref (a 1), .ref (a 2), .ref (a 3), .ref (a 4), .ref (a 5), .ref (a 6), .ref (a 7), .int am, .int ti, .int ah])), ((a 1), .inl (cI, 6, .inl sg)), ((a 3), .inl (cI, 6, .inl (upd bu d (fm_wob (fm_shw (sg d) (bu d)) (se 4 * 100) d we (bu d) i)))), ((a 6), .inl (cI, 42, .inl (upd (fm_wow (fm_shw (sg d) (bu d)) d we i) (d * 7 + i) (((fm_wow (fm_shw (sg d) (bu d)) d we i) (d * 7 + i)) + 1)))), ((a 7), .inl (cI, 5, .inl se))] := hD
          refine lv_iload_n hx hb dX2_wearOut_58 rfl (lv_at hl 3 rfl) ?_
          refine lv_if_le (tgt := 89) hx hb dX2_wearOut_59 (by decide) (fun q59 => ?_) (fun q59 => ?_)
          · refine lv_iinc (v := nI (i + 1)) (lv' := [(5, .int (nI (i + 1))), (6, .int (nI (d * 7 + i))), (0, .ref (a 0)), (1, .int (nI d)), (2, .int (se 4 * 100)), (3, .int (fm_shw (sg d) (bu d))), (4, .int (fm_won (fm_shw (sg d) (bu d)) (se 4 * 100) d we i))]) hx hb dX2_wearOut_89 hl (k := 6) rfl (nI_1 i) (by decide) rfl (fun lz hl => ?_)
            refine lv_goto (tgt := 22) hx hb dX2_wearOut_92 (by decide) ?_
            exact ih22 (i + 1) hlti (by omega) (fm_won (fm_shw (sg d) (bu d)) (se 4 * 100) d we i) (upd bu d (fm_wob (fm_shw (sg d) (bu d)) (se 4 * 100) d we (bu d) i)) (upd (fm_wow (fm_shw (sg d) (bu d)) d we i) (d * 7 + i) (((fm_wow (fm_shw (sg d) (bu d)) d we i) (d * 7 + i)) + 1)) (by simp only [fm_wow, fm_won, if_neg q26, if_pos q36, if_pos q59]) (by simp only [fm_wob, fm_upd_upd, if_neg q26, if_pos q36, if_pos q59]) (by simp only [fm_wow, fm_won, if_neg q26, if_pos q36, if_pos q59])  H locs hP hD hS lz (lv_sub hl [2, 3, 4, 5, 6, 0] rfl)
          · refine lv_aload_n hx hb dX2_wearOut_62 rfl (lv_at hl 1 rfl) ?_
            refine va_get (D := (dC, dI)) (ci := 2) (v := .ref (a 6)) (C := RX2) (T := TX2) (N := 10) hx hb hts hin2 hown hK hP 0 rfl rfl 5 (by decide) (hts (.fieldLink RX2 27 "TurnDigits$State" "wears" "[I") (by decide +kernel)) (fun _ h9 => h9) rfl dX2_wearOut_63 ?_
            refine lv_iload hx hb dX2_wearOut_66 (lv_at hl 0 rfl) ?_
            refine xm_iald (D := (dC, dI)) hx hb hK hP 3 0 (d * 7 + i) (v := (upd (fm_wow (fm_shw (sg d) (bu d)) d we i) (d * 7 + i) (((fm_wow (fm_shw (sg d) (bu d)) d we i) (d * 7 + i)) + 1)) (d * 7 + i)) rfl rfl (by decide) rfl (by omega) rfl dX2_wearOut_68 ?_
            refine xm_topi (y := (fm_wow (fm_shw (sg d) (bu d)) d we i (d * 7 + i) + 1)) pk_us ?_
            refine lv_iload_n hx hb dX2_wearOut_69 rfl (lv_at hl 3 rfl) ?_
            refine lv_icmp_lt (tgt := 89) hx hb dX2_wearOut_70 (by decide) (fun q70 => ?_) (fun q70 => ?_)
            · refine lv_iinc (v := nI (i + 1)) (lv' := [(5, .int (nI (i + 1))), (6, .int (nI (d * 7 + i))), (0, .ref (a 0)), (1, .int (nI d)), (2, .int (se 4 * 100)), (3, .int (fm_shw (sg d) (bu d))), (4, .int (fm_won (fm_shw (sg d) (bu d)) (se 4 * 100) d we i))]) hx hb dX2_wearOut_89 hl (k := 6) rfl (nI_1 i) (by decide) rfl (fun lz hl => ?_)
              refine lv_goto (tgt := 22) hx hb dX2_wearOut_92 (by decide) ?_
              exact ih22 (i + 1) hlti (by omega) (fm_won (fm_shw (sg d) (bu d)) (se 4 * 100) d we i) (upd bu d (fm_wob (fm_shw (sg d) (bu d)) (se 4 * 100) d we (bu d) i)) (upd (fm_wow (fm_shw (sg d) (bu d)) d we i) (d * 7 + i) (((fm_wow (fm_shw (sg d) (bu d)) d we i) (d * 7 + i)) + 1)) (by simp only [fm_wow, fm_won, if_neg q26, if_pos q36, if_neg q59, if_pos q70]) (by simp only [fm_wob, fm_upd_upd, if_neg q26, if_pos q36, if_neg q59, if_pos q70]) (by simp only [fm_wow, fm_won, if_neg q26, if_pos q36, if_neg q59, if_pos q70])  H locs hP hD hS lz (lv_sub hl [2, 3, 4, 5, 6, 0] rfl)
            · refine lv_aload_n hx hb dX2_wearOut_73 rfl (lv_at hl 1 rfl) ?_
              refine va_get (D := (dC, dI)) (ci := 2) (v := .ref (a 3)) (C := RX2) (T := TX2) (N := 10) hx hb hts hin2 hown hK hP 0 rfl rfl 2 (by decide) (hts (.fieldLink RX2 18 "TurnDigits$State" "burnt" "[I") (by decide +kernel)) (fun _ h9 => h9) rfl dX2_wearOut_74 ?_
              refine lv_iload_n hx hb dX2_wearOut_77 rfl (lv_at hl 2 rfl) ?_
              refine lv_dup2_11 hx hb dX2_wearOut_78 rfl rfl ?_
              refine xm_iald (D := (dC, dI)) hx hb hK hP 2 0 d (v := (upd bu d (fm_wob (fm_shw (sg d) (bu d)) (se 4 * 100) d we (bu d) i)) d) rfl rfl (by decide) rfl (by omega) rfl dX2_wearOut_79 ?_
              refine xm_topi (y := (fm_wob (fm_shw (sg d) (bu d)) (se 4 * 100) d we (bu d) i)) pk_us ?_
              refine lv_iconst (v := 1) hx hb dX2_wearOut_80 (by decide) ?_
              refine lv_iload hx hb dX2_wearOut_81 (lv_at hl 6 rfl) ?_
              refine lv_ishl hx hb dX2_wearOut_83 ?_
              refine lv_ior hx hb dX2_wearOut_84 ?_
              refine xm_iast (D := (dC, dI)) hx hb hK hP hD hS 2 0 d rfl rfl (by decide) rfl (by omega) dX2_wearOut_85 (fun H locs hP hD hS => ?_)
              have hP : va_P (dC, dI) vwCl [((a 0), .inr (2, [.ref (a 1), .ref (a 2), .ref (a 3), .ref (a 4), .ref (a 5), .ref (a 6), .ref (a 7), .int am, .int ti, .int ah])), ((a 1), .inl (cI, 6, .inl sg)), ((a 3), .inl (cI, 6, .inl (upd (upd bu d (fm_wob (fm_shw (sg d) (bu d)) (se 4 * 100) d we (bu d) i)) d ((fm_wob (fm_shw (sg d) (bu d)) (se 4 * 100) d we (bu d) i) ||| (1 <<< ((nI i) &&& 31)))))), ((a 6), .inl (cI, 42, .inl (upd (fm_wow (fm_shw (sg d) (bu d)) d we i) (d * 7 + i) (((fm_wow (fm_shw (sg d) (bu d)) d we i) (d * 7 + i)) + 1)))), ((a 7), .inl (cI, 5, .inl se))] H := hP
              have hD : va_D A [((a 0), .inr (2, [.ref (a 1), .ref (a 2), .ref (a 3), .ref (a 4), .ref (a 5), .ref (a 6), .ref (a 7), .int am, .int ti, .int ah])), ((a 1), .inl (cI, 6, .inl sg)), ((a 3), .inl (cI, 6, .inl (upd (upd bu d (fm_wob (fm_shw (sg d) (bu d)) (se 4 * 100) d we (bu d) i)) d ((fm_wob (fm_shw (sg d) (bu d)) (se 4 * 100) d we (bu d) i) ||| (1 <<< ((nI i) &&& 31)))))), ((a 6), .inl (cI, 42, .inl (upd (fm_wow (fm_shw (sg d) (bu d)) d we i) (d * 7 + i) (((fm_wow (fm_shw (sg d) (bu d)) d we i) (d * 7 + i)) + 1)))), ((a 7), .inl (cI, 5, .inl se))] := hD
              refine lv_iinc (v := ((fm_won (fm_shw (sg d) (bu d)) (se 4 * 100) d we i) + 1)) (lv' := [(4, .int ((fm_won (fm_shw (sg d) (bu d)) (se 4 * 100) d we i) + 1)), (6, .int (nI (d * 7 + i))), (0, .ref (a 0)), (1, .int (nI d)), (2, .int (se 4 * 100)), (3, .int (fm_shw (sg d) (bu d))), (5, .int (nI i))]) hx hb dX2_wearOut_86 hl (k := 5) rfl rfl (by decide) rfl (fun lz hl => ?_)
              refine lv_iinc (v := nI (i + 1)) (lv' := [(5, .int (nI (i + 1))), (4, .int ((fm_won (fm_shw (sg d) (bu d)) (se 4 * 100) d we i) + 1)), (6, .int (nI (d * 7 + i))), (0, .ref (a 0)), (1, .int (nI d)), (2, .int (se 4 * 100)), (3, .int (fm_shw (sg d) (bu d)))]) hx hb dX2_wearOut_89 hl (k := 6) rfl (nI_1 i) (by decide) rfl (fun lz hl => ?_)
              refine lv_goto (tgt := 22) hx hb dX2_wearOut_92 (by decide) ?_
              exact ih22 (i + 1) hlti (by omega) ((fm_won (fm_shw (sg d) (bu d)) (se 4 * 100) d we i) + 1) (upd (upd bu d (fm_wob (fm_shw (sg d) (bu d)) (se 4 * 100) d we (bu d) i)) d ((fm_wob (fm_shw (sg d) (bu d)) (se 4 * 100) d we (bu d) i) ||| (1 <<< ((nI i) &&& 31)))) (upd (fm_wow (fm_shw (sg d) (bu d)) d we i) (d * 7 + i) (((fm_wow (fm_shw (sg d) (bu d)) d we i) (d * 7 + i)) + 1)) (by simp only [fm_wow, fm_won, if_neg q26, if_pos q36, if_neg q59, if_neg q70]) (by simp only [fm_wob, fm_upd_upd, if_neg q26, if_pos q36, if_neg q59, if_neg q70]) (by simp only [fm_wow, fm_won, if_neg q26, if_pos q36, if_neg q59, if_neg q70])  H locs hP hD hS lz (lv_sub hl [3, 4, 5, 6, 1, 0] rfl)
  exact L22 (7 + 1) 0 (by omega) (by omega) 0 bu we rfl (fm_upd_self bu d).symm rfl  s.heap [] hP hD hS lz (lv_sub hl [4, 5, 3, 2, 1, 0] rfl)

set_option maxHeartbeats 4000000 in
set_option maxRecDepth 100000 in
theorem c_X2_passSlot (l : Launch) (dC : Nat → ClassId) (dI : Nat → Nat → Nat) (cI cS cJ : ClassId) (tt : Nat → Nat) (sz : Nat) (a : Nat → Nat) (sg : Nat → Int32) (lv : Nat → Int32) (bu : Nat → Int32) (cr : Nat → Int32) (ls : Nat → Int32) (we : Nat → Int32) (se : Nat → Int32) (am : Int32) (ti : Int32) (ah : Int32) : Met l yX2_passSlot wsX2_passSlot ({ frames := 2, cells := 0, slots := 0, locals := 47 } : Room) (va_Pc [.ref (a 0)] (xm_M (dC, dI) cI cS cJ tt [((a 0), .inr (2, [.ref (a 1), .ref (a 2), .ref (a 3), .ref (a 4), .ref (a 5), .ref (a 6), .ref (a 7), .int am, .int ti, .int ah])), ((a 1), .inl (cI, 6, .inl sg)), ((a 2), .inl (cI, 6, .inl lv)), ((a 3), .inl (cI, 6, .inl bu)), ((a 4), .inl (cI, 6, .inl cr)), ((a 5), .inl (cI, 6, .inl ls)), ((a 6), .inl (cI, 42, .inl we)), ((a 7), .inl (cI, 5, .inl se))] sz (∀ j, j < 6 → fm_ix (sg j) 12))) (va_Qi (fun (r : Int32) (u : (Nat → Int32) × (Nat → Int32) × (Nat → Int32) × (Nat → Int32) × Int32 × Int32) => r = sl_n sg bu we se (sl_lit lv cr se ah) ∧ u.1 = sl_bu sg bu we se (sl_lit lv cr se ah) ∧ u.2.1 = fm_crd lv cr ∧ u.2.2.1 = sl_ls ls (sl_lit lv cr se ah) ∧ u.2.2.2.1 = sl_we sg bu we (sl_lit lv cr se ah) ∧ u.2.2.2.2.1 = ti + 1 ∧ u.2.2.2.2.2 = fm_own lv cr 6) (xm_B (dC, dI) (fun (u : (Nat → Int32) × (Nat → Int32) × (Nat → Int32) × (Nat → Int32) × Int32 × Int32) => [((a 0), .inr (2, [.ref (a 1), .ref (a 2), .ref (a 3), .ref (a 4), .ref (a 5), .ref (a 6), .ref (a 7), .int am, .int u.2.2.2.2.1, .int u.2.2.2.2.2])), ((a 1), .inl (cI, 6, .inl sg)), ((a 2), .inl (cI, 6, .inl lv)), ((a 3), .inl (cI, 6, .inl u.1)), ((a 4), .inl (cI, 6, .inl u.2.1)), ((a 5), .inl (cI, 6, .inl u.2.2.1)), ((a 6), .inl (cI, 42, .inl u.2.2.2.1)), ((a 7), .inl (cI, 5, .inl se))]) (va_A [((a 0), .inr (2, [.ref (a 1), .ref (a 2), .ref (a 3), .ref (a 4), .ref (a 5), .ref (a 6), .ref (a 7), .int am, .int ti, .int ah])), ((a 1), .inl (cI, 6, .inl sg)), ((a 2), .inl (cI, 6, .inl lv)), ((a 3), .inl (cI, 6, .inl bu)), ((a 4), .inl (cI, 6, .inl cr)), ((a 5), .inl (cI, 6, .inl ls)), ((a 6), .inl (cI, 42, .inl we)), ((a 7), .inl (cI, 5, .inl se))] sz)) (va_A [((a 0), .inr (2, [.ref (a 1), .ref (a 2), .ref (a 3), .ref (a 4), .ref (a 5), .ref (a 6), .ref (a 7), .int am, .int ti, .int ah])), ((a 1), .inl (cI, 6, .inl sg)), ((a 2), .inl (cI, 6, .inl lv)), ((a 3), .inl (cI, 6, .inl bu)), ((a 4), .inl (cI, 6, .inl cr)), ((a 5), .inl (cI, 6, .inl ls)), ((a 6), .inl (cI, 42, .inl we)), ((a 7), .inl (cI, 5, .inl se))] sz)) 0 0 (va_A [((a 0), .inr (2, [.ref (a 1), .ref (a 2), .ref (a 3), .ref (a 4), .ref (a 5), .ref (a 6), .ref (a 7), .int am, .int ti, .int ah])), ((a 1), .inl (cI, 6, .inl sg)), ((a 2), .inl (cI, 6, .inl lv)), ((a 3), .inl (cI, 6, .inl bu)), ((a 4), .inl (cI, 6, .inl cr)), ((a 5), .inl (cI, 6, .inl ls)), ((a 6), .inl (cI, 42, .inl we)), ((a 7), .inl (cI, 5, .inl se))] sz) := by
  refine Met.ofW (cc := cX2_passSlot) (maxL := 3) (ret := (some .int)) (by decide) rfl ?_
  intro p e s m args below meth c s₁ B hml hv
  obtain ⟨rfl, hsz, hP, hE, hD0, hpre⟩ := hv
  have hx := B.exec
  have hb := B.bytes
  have hr := B.returns
  have hts := atoms_spec (ws := wsX2_passSlot) B.pre
  have hown : s.vm.findClass RX2 = some m.cls := findClass_of_methodNamed B.named
  have hlocks := B.notSynchronized
  have hK := hE.1
  subst hsz
  have hD := hD0.self (sz := s.heap.size)
  generalize hAe : va_A [((a 0), .inr (2, [.ref (a 1), .ref (a 2), .ref (a 3), .ref (a 4), .ref (a 5), .ref (a 6), .ref (a 7), .int am, .int ti, .int ah])), ((a 1), .inl (cI, 6, .inl sg)), ((a 2), .inl (cI, 6, .inl lv)), ((a 3), .inl (cI, 6, .inl bu)), ((a 4), .inl (cI, 6, .inl cr)), ((a 5), .inl (cI, 6, .inl ls)), ((a 6), .inl (cI, 42, .inl we)), ((a 7), .inl (cI, 5, .inl se))] s.heap.size = A at hD hE ⊢
  have hA : ∀ q : Nat, s.heap.size ≤ q → A q := fun q h => by rw [← hAe]; exact Or.inr h
  have hS : va_S A s.heap s.heap [] := va_S.rf
  have hP : va_P (dC, dI) vwCl [((a 0), .inr (2, [.ref (a 1), .ref (a 2), .ref (a 3), .ref (a 4), .ref (a 5), .ref (a 6), .ref (a 7), .int am, .int ti, .int ah])), ((a 1), .inl (cI, 6, .inl sg)), ((a 2), .inl (cI, 6, .inl lv)), ((a 3), .inl (cI, 6, .inl bu)), ((a 4), .inl (cI, 6, .inl cr)), ((a 5), .inl (cI, 6, .inl ls)), ((a 6), .inl (cI, 42, .inl we)), ((a 7), .inl (cI, 5, .inl se))] s.heap := hP
  have hin2 : ∀ w ∈ u_ws RX2 TX2 10, w ∈ wsX2_passSlot := by decide +kernel
  have hl := lv_entry [.ref (a 0)] (n := 3) (Nat.le_of_ble_eq_true rfl)
  rw [lg_entry_eq]
  generalize (lg_sl [.ref (a 0)] ++ List.replicate (3 - (lg_sl [.ref (a 0)]).length) Slot.unset).toArray = lz at hl ⊢
  have hl : lv_has lz 3 [(0, .ref (a 0))] := hl
  refine lv_aload_n hx hb dX2_passSlot_0 rfl (lv_at hl 0 rfl) ?_
  refine va_get (D := (dC, dI)) (ci := 2) (v := .ref (a 2)) (C := RX2) (T := TX2) (N := 10) hx hb hts hin2 hown hK hP 0 rfl rfl 1 (by decide) (hts (.fieldLink RX2 15 "TurnDigits$State" "levels" "[I") (by decide +kernel)) (fun _ h9 => h9) rfl dX2_passSlot_1 ?_
  refine lv_aload_n hx hb dX2_passSlot_4 rfl (lv_at hl 0 rfl) ?_
  refine va_get (D := (dC, dI)) (ci := 2) (v := .ref (a 4)) (C := RX2) (T := TX2) (N := 10) hx hb hts hin2 hown hK hP 0 rfl rfl 3 (by decide) (hts (.fieldLink RX2 21 "TurnDigits$State" "credits" "[I") (by decide +kernel)) (fun _ h9 => h9) rfl dX2_passSlot_5 ?_
  have hPc := hP.sub (ws' := [((a 2), .inl (cI, 6, .inl lv)), ((a 4), .inl (cI, 6, .inl cr))]) [2, 4] rfl
  have hDc := hD.sub (ws' := [((a 2), .inl (cI, 6, .inl lv)), ((a 4), .inl (cI, 6, .inl cr))]) [2, 4] (by decide) rfl
  have hFc := va_free (wc := [((a 2), .inl (cI, 6, .inl lv)), ((a 4), .inl (cI, 6, .inl cr))]) hD hS hA [2, 4] rfl
  refine va_calli (va_runSN (As := [.ref (a 2), .ref (a 4)]) (rest := []) ⟨hx, hb, hml, hown, hts⟩ (c_X4_giveSlot l dC dI cI cS cJ tt s.heap.size (a 2) (a 4) lv cr) ⟨va_cnB 2 hts gX2_passSlot_X4_giveSlot_n64 rfl rfl rfl hE.2.1.2.2.2.2.2.2.1 (hts (.initialized RX4) (by decide +kernel)) (by decide +kernel) ⟨Nat.le_of_ble_eq_true rfl, Nat.le_of_ble_eq_true rfl⟩, hts (.static yX4_giveSlot) (by decide +kernel), trivial⟩ ⟨xm_Mblind, fun U hU hW => ⟨rfl, by rw [hU], by rw [hU]; exact hPc, hE.go hS hFc hU hW, hDc.weaken (fun _ _ _ _ => trivial), trivial⟩⟩ rfl rfl hl.1 rfl (lv_room (Nat.le_of_ble_eq_true rfl)) dX2_passSlot_8 ⟨Nat.zero_le _, Nat.zero_le _⟩) hS (fun q _ h => hFc q h) hFc (fun r u t H1 locs ht hvm hw hB hz1 hk1 hS => ?_)
  obtain ⟨u_1, rfl⟩ : ∃ z, z = u := ⟨_, rfl⟩
  obtain ⟨hP1, hD1⟩ := hB
  rw [ht] at hP1
  obtain ⟨hw_2, hw_3⟩ := hw
  have hw_2 : r = fm_own lv cr 6 := hw_2
  subst hw_2
  have hw_3 : u_1 = fm_crd lv cr := hw_3
  subst hw_3
  obtain ⟨hP, hD⟩ := va_join (wr := [((a 0), .inr (2, [.ref (a 1), .ref (a 2), .ref (a 3), .ref (a 4), .ref (a 5), .ref (a 6), .ref (a 7), .int am, .int ti, .int ah])), ((a 1), .inl (cI, 6, .inl sg)), ((a 3), .inl (cI, 6, .inl bu)), ((a 5), .inl (cI, 6, .inl ls)), ((a 6), .inl (cI, 42, .inl we)), ((a 7), .inl (cI, 5, .inl se))]) (w1 := [((a 2), .inl (cI, 6, .inl lv)), ((a 4), .inl (cI, 6, .inl (fm_crd lv cr)))]) hP hD [2, 4] [0, 1, 3, 5, 6, 7] rfl rfl (by decide) (by decide) hk1 hFc hP1 hD1
  generalize H1 = H at hP hS ⊢
  have hP : va_P (dC, dI) vwCl [((a 0), .inr (2, [.ref (a 1), .ref (a 2), .ref (a 3), .ref (a 4), .ref (a 5), .ref (a 6), .ref (a 7), .int am, .int ti, .int ah])), ((a 1), .inl (cI, 6, .inl sg)), ((a 3), .inl (cI, 6, .inl bu)), ((a 5), .inl (cI, 6, .inl ls)), ((a 6), .inl (cI, 42, .inl we)), ((a 7), .inl (cI, 5, .inl se)), ((a 2), .inl (cI, 6, .inl lv)), ((a 4), .inl (cI, 6, .inl (fm_crd lv cr)))] H := hP
  have hD : va_D A [((a 0), .inr (2, [.ref (a 1), .ref (a 2), .ref (a 3), .ref (a 4), .ref (a 5), .ref (a 6), .ref (a 7), .int am, .int ti, .int ah])), ((a 1), .inl (cI, 6, .inl sg)), ((a 3), .inl (cI, 6, .inl bu)), ((a 5), .inl (cI, 6, .inl ls)), ((a 6), .inl (cI, 42, .inl we)), ((a 7), .inl (cI, 5, .inl se)), ((a 2), .inl (cI, 6, .inl lv)), ((a 4), .inl (cI, 6, .inl (fm_crd lv cr)))] := hD
  refine lv_istore_n (lv' := [(1, .int (fm_own lv cr 6)), (0, .ref (a 0))]) hx hb dX2_passSlot_11 rfl hl (by decide) rfl (fun lz hl => ?_)
  have J32 : ∀ (dk : Int32), (dk = fm_dk (se 1)) → ∀ (H : Heap) (locs : List Loc), va_P (dC, dI) vwCl [((a 0), .inr (2, [.ref (a 1), .ref (a 2), .ref (a 3), .ref (a 4), .ref (a 5), .ref (a 6), .ref (a 7), .int am, .int ti, .int ah])), ((a 1), .inl (cI, 6, .inl sg)), ((a 3), .inl (cI, 6, .inl bu)), ((a 5), .inl (cI, 6, .inl ls)), ((a 6), .inl (cI, 42, .inl we)), ((a 7), .inl (cI, 5, .inl se)), ((a 2), .inl (cI, 6, .inl lv)), ((a 4), .inl (cI, 6, .inl (fm_crd lv cr)))] H → va_D A [((a 0), .inr (2, [.ref (a 1), .ref (a 2), .ref (a 3), .ref (a 4), .ref (a 5), .ref (a 6), .ref (a 7), .int am, .int ti, .int ah])), ((a 1), .inl (cI, 6, .inl sg)), ((a 3), .inl (cI, 6, .inl bu)), ((a 5), .inl (cI, 6, .inl ls)), ((a 6), .inl (cI, 42, .inl we)), ((a 7), .inl (cI, 5, .inl se)), ((a 2), .inl (cI, 6, .inl lv)), ((a 4), .inl (cI, 6, .inl (fm_crd lv cr)))] → va_S A s.heap H locs → ∀ (lz : Array Slot), lv_has lz 3 [(0, .ref (a 0)), (1, .int (fm_own lv cr 6))] → W p l e (headSpec wsX2_passSlot ({ frames := 2, cells := 0, slots := 0, locals := 47 } : Room)).room s m ([.ref (a 0)] : List Value).toArray below meth c H locs 0 0 (MQ below (va_Qi (fun (r : Int32) (u : (Nat → Int32) × (Nat → Int32) × (Nat → Int32) × (Nat → Int32) × Int32 × Int32) => r = sl_n sg bu we se (sl_lit lv cr se ah) ∧ u.1 = sl_bu sg bu we se (sl_lit lv cr se ah) ∧ u.2.1 = fm_crd lv cr ∧ u.2.2.1 = sl_ls ls (sl_lit lv cr se ah) ∧ u.2.2.2.1 = sl_we sg bu we (sl_lit lv cr se ah) ∧ u.2.2.2.2.1 = ti + 1 ∧ u.2.2.2.2.2 = fm_own lv cr 6) (xm_B (dC, dI) (fun (u : (Nat → Int32) × (Nat → Int32) × (Nat → Int32) × (Nat → Int32) × Int32 × Int32) => [((a 0), .inr (2, [.ref (a 1), .ref (a 2), .ref (a 3), .ref (a 4), .ref (a 5), .ref (a 6), .ref (a 7), .int am, .int u.2.2.2.2.1, .int u.2.2.2.2.2])), ((a 1), .inl (cI, 6, .inl sg)), ((a 2), .inl (cI, 6, .inl lv)), ((a 3), .inl (cI, 6, .inl u.1)), ((a 4), .inl (cI, 6, .inl u.2.1)), ((a 5), .inl (cI, 6, .inl u.2.2.1)), ((a 6), .inl (cI, 42, .inl u.2.2.2.1)), ((a 7), .inl (cI, 5, .inl se))]) A) A) ([.ref (a 0)] : List Value).toArray s 0 0 A) (F0 m 32 lz [.int dk, .int ah, .int (fm_own lv cr 6)]) := by
    intro dk edk H locs hP hD hS lz hl
    subst edk
    have hPc := hP.sub (ws' := []) [] rfl
    refine W.callV ((va_runSN (As := [.int (fm_own lv cr 6), .int ah, .int (fm_dk (se 1))]) (rest := []) ⟨hx, hb, hml, hown, hts⟩ (c_X4_litIn l dC dI cI cS cJ tt (fm_own lv cr 6) ah (fm_dk (se 1))) ⟨va_cnB 3 hts gX2_passSlot_X4_litIn_n68 rfl rfl rfl hE.2.1.2.2.2.2.2.2.2.1 (hts (.initialized RX4) (by decide +kernel)) (by decide +kernel) ⟨Nat.le_of_ble_eq_true rfl, Nat.le_of_ble_eq_true rfl⟩, hts (.static yX4_litIn) (by decide +kernel), trivial⟩ ⟨xm_Rblind, fun U hU hW => ⟨rfl, by rw [hU]; exact hPc, hE.go hS (fun _ q => q.elim) hU hW, trivial⟩⟩ rfl rfl hl.1 rfl (lv_room (Nat.le_of_ble_eq_true rfl)) dX2_passSlot_32 ⟨Nat.zero_le _, Nat.zero_le _⟩).run) ?_
    refine W.eq (g2 := F0 m 35 lz (.int (fm_litIn (fm_own lv cr 6) ah (fm_dk (se 1))) :: [])) rfl ?_
    refine xm_topi (y := (sl_lit lv cr se ah)) rfl ?_
    refine lv_istore_n (lv' := [(2, .int (sl_lit lv cr se ah)), (0, .ref (a 0)), (1, .int (fm_own lv cr 6))]) hx hb dX2_passSlot_35 rfl hl (by decide) rfl (fun lz hl => ?_)
    refine lv_aload_n hx hb dX2_passSlot_36 rfl (lv_at hl 1 rfl) ?_
    refine lv_iload_n hx hb dX2_passSlot_37 rfl (lv_at hl 2 rfl) ?_
    refine va_put (D := (dC, dI)) (ci := 2) (v := .int (fm_own lv cr 6)) (ty := .int) (C := RX2) (T := TX2) (N := 10) hx hb hts hin2 tyX2 tyX2_ok nmX2 hown hK hP hD hS 0 rfl rfl 9 (by decide) (hts (.fieldLink RX2 40 "TurnDigits$State" "ahead" "I") (by decide +kernel)) (fun _ h9 => h9) rfl (by decide +kernel) rfl rfl (Nat.le_of_ble_eq_true rfl) dX2_passSlot_38 (fun H locs hP hD hS => ?_)
    have hP : va_P (dC, dI) vwCl [((a 0), .inr (2, [.ref (a 1), .ref (a 2), .ref (a 3), .ref (a 4), .ref (a 5), .ref (a 6), .ref (a 7), .int am, .int ti, .int (fm_own lv cr 6)])), ((a 1), .inl (cI, 6, .inl sg)), ((a 3), .inl (cI, 6, .inl bu)), ((a 5), .inl (cI, 6, .inl ls)), ((a 6), .inl (cI, 42, .inl we)), ((a 7), .inl (cI, 5, .inl se)), ((a 2), .inl (cI, 6, .inl lv)), ((a 4), .inl (cI, 6, .inl (fm_crd lv cr)))] H := hP
    have hD : va_D A [((a 0), .inr (2, [.ref (a 1), .ref (a 2), .ref (a 3), .ref (a 4), .ref (a 5), .ref (a 6), .ref (a 7), .int am, .int ti, .int (fm_own lv cr 6)])), ((a 1), .inl (cI, 6, .inl sg)), ((a 3), .inl (cI, 6, .inl bu)), ((a 5), .inl (cI, 6, .inl ls)), ((a 6), .inl (cI, 42, .inl we)), ((a 7), .inl (cI, 5, .inl se)), ((a 2), .inl (cI, 6, .inl lv)), ((a 4), .inl (cI, 6, .inl (fm_crd lv cr)))] := hD
    refine lv_aload_n hx hb dX2_passSlot_41 rfl (lv_at hl 1 rfl) ?_
    refine lv_dup hx hb dX2_passSlot_42 rfl ?_
    refine va_get (D := (dC, dI)) (ci := 2) (v := .int ti) (C := RX2) (T := TX2) (N := 10) hx hb hts hin2 hown hK hP 0 rfl rfl 8 (by decide) (hts (.fieldLink RX2 37 "TurnDigits$State" "time" "I") (by decide +kernel)) (fun _ h9 => h9) rfl dX2_passSlot_43 ?_
    refine lv_iconst (v := 1) hx hb dX2_passSlot_46 (by decide) ?_
    refine lv_iadd hx hb dX2_passSlot_47 ?_
    refine va_put (D := (dC, dI)) (ci := 2) (v := .int (ti + 1)) (ty := .int) (C := RX2) (T := TX2) (N := 10) hx hb hts hin2 tyX2 tyX2_ok nmX2 hown hK hP hD hS 0 rfl rfl 8 (by decide) (hts (.fieldLink RX2 37 "TurnDigits$State" "time" "I") (by decide +kernel)) (fun _ h9 => h9) rfl (by decide +kernel) rfl rfl (Nat.le_of_ble_eq_true rfl) dX2_passSlot_48 (fun H locs hP hD hS => ?_)
    have hP : va_P (dC, dI) vwCl [((a 0), .inr (2, [.ref (a 1), .ref (a 2), .ref (a 3), .ref (a 4), .ref (a 5), .ref (a 6), .ref (a 7), .int am, .int (ti + 1), .int (fm_own lv cr 6)])), ((a 1), .inl (cI, 6, .inl sg)), ((a 3), .inl (cI, 6, .inl bu)), ((a 5), .inl (cI, 6, .inl ls)), ((a 6), .inl (cI, 42, .inl we)), ((a 7), .inl (cI, 5, .inl se)), ((a 2), .inl (cI, 6, .inl lv)), ((a 4), .inl (cI, 6, .inl (fm_crd lv cr)))] H := hP
    have hD : va_D A [((a 0), .inr (2, [.ref (a 1), .ref (a 2), .ref (a 3), .ref (a 4), .ref (a 5), .ref (a 6), .ref (a 7), .int am, .int (ti + 1), .int (fm_own lv cr 6)])), ((a 1), .inl (cI, 6, .inl sg)), ((a 3), .inl (cI, 6, .inl bu)), ((a 5), .inl (cI, 6, .inl ls)), ((a 6), .inl (cI, 42, .inl we)), ((a 7), .inl (cI, 5, .inl se)), ((a 2), .inl (cI, 6, .inl lv)), ((a 4), .inl (cI, 6, .inl (fm_crd lv cr)))] := hD
    refine lv_iload_n hx hb dX2_passSlot_51 rfl (lv_at hl 0 rfl) ?_
    refine lv_iconst (v := (-1)) hx hb dX2_passSlot_52 (by decide) ?_
    refine lv_icmp_ne (tgt := 58) hx hb dX2_passSlot_53 (by decide) (fun q53 => ?_) (fun q53 => ?_)
    · refine lv_aload_n hx hb dX2_passSlot_58 rfl (lv_at hl 1 rfl) ?_
      refine va_get (D := (dC, dI)) (ci := 2) (v := .ref (a 5)) (C := RX2) (T := TX2) (N := 10) hx hb hts hin2 hown hK hP 0 rfl rfl 4 (by decide) (hts (.fieldLink RX2 24 "TurnDigits$State" "litSlots" "[I") (by decide +kernel)) (fun _ h9 => h9) rfl dX2_passSlot_59 ?_
      refine lv_iload_n hx hb dX2_passSlot_62 rfl (lv_at hl 0 rfl) ?_
      refine lv_dup2_11 hx hb dX2_passSlot_63 rfl rfl ?_
      refine xm_iald (D := (dC, dI)) hx hb hK hP 3 0 ((sl_lit lv cr se ah).toNatClampNeg) (v := ls ((sl_lit lv cr se ah).toNatClampNeg)) rfl rfl (by decide) (fm_lit_at q53).1 (fm_lit_at q53).2 rfl dX2_passSlot_64 ?_
      refine lv_iconst (v := 1) hx hb dX2_passSlot_65 (by decide) ?_
      refine lv_iadd hx hb dX2_passSlot_66 ?_
      refine xm_iast (D := (dC, dI)) hx hb hK hP hD hS 3 0 ((sl_lit lv cr se ah).toNatClampNeg) rfl rfl (by decide) (fm_lit_at q53).1 (fm_lit_at q53).2 dX2_passSlot_67 (fun H locs hP hD hS => ?_)
      have hP : va_P (dC, dI) vwCl [((a 0), .inr (2, [.ref (a 1), .ref (a 2), .ref (a 3), .ref (a 4), .ref (a 5), .ref (a 6), .ref (a 7), .int am, .int (ti + 1), .int (fm_own lv cr 6)])), ((a 1), .inl (cI, 6, .inl sg)), ((a 3), .inl (cI, 6, .inl bu)), ((a 5), .inl (cI, 6, .inl (upd ls ((sl_lit lv cr se ah).toNatClampNeg) ((ls ((sl_lit lv cr se ah).toNatClampNeg)) + 1)))), ((a 6), .inl (cI, 42, .inl we)), ((a 7), .inl (cI, 5, .inl se)), ((a 2), .inl (cI, 6, .inl lv)), ((a 4), .inl (cI, 6, .inl (fm_crd lv cr)))] H := hP
      have hD : va_D A [((a 0), .inr (2, [.ref (a 1), .ref (a 2), .ref (a 3), .ref (a 4), .ref (a 5), .ref (a 6), .ref (a 7), .int am, .int (ti + 1), .int (fm_own lv cr 6)])), ((a 1), .inl (cI, 6, .inl sg)), ((a 3), .inl (cI, 6, .inl bu)), ((a 5), .inl (cI, 6, .inl (upd ls ((sl_lit lv cr se ah).toNatClampNeg) ((ls ((sl_lit lv cr se ah).toNatClampNeg)) + 1)))), ((a 6), .inl (cI, 42, .inl we)), ((a 7), .inl (cI, 5, .inl se)), ((a 2), .inl (cI, 6, .inl lv)), ((a 4), .inl (cI, 6, .inl (fm_crd lv cr)))] := hD
      refine lv_aload_n hx hb dX2_passSlot_68 rfl (lv_at hl 1 rfl) ?_
      refine lv_iload_n hx hb dX2_passSlot_69 rfl (lv_at hl 0 rfl) ?_
      refine xm_topi (y := (nI (sl_lit lv cr se ah).toNatClampNeg)) (fm_lit_at q53).1 ?_
      have hPc := hP.sub (ws' := [((a 0), .inr (2, [.ref (a 1), .ref (a 2), .ref (a 3), .ref (a 4), .ref (a 5), .ref (a 6), .ref (a 7), .int am, .int (ti + 1), .int (fm_own lv cr 6)])), ((a 1), .inl (cI, 6, .inl sg)), ((a 3), .inl (cI, 6, .inl bu)), ((a 6), .inl (cI, 42, .inl we)), ((a 7), .inl (cI, 5, .inl se))]) [0, 1, 2, 4, 5] rfl
      have hDc := hD.sub (ws' := [((a 0), .inr (2, [.ref (a 1), .ref (a 2), .ref (a 3), .ref (a 4), .ref (a 5), .ref (a 6), .ref (a 7), .int am, .int (ti + 1), .int (fm_own lv cr 6)])), ((a 1), .inl (cI, 6, .inl sg)), ((a 3), .inl (cI, 6, .inl bu)), ((a 6), .inl (cI, 42, .inl we)), ((a 7), .inl (cI, 5, .inl se))]) [0, 1, 2, 4, 5] (by decide) rfl
      have hFc := va_free (wc := [((a 0), .inr (2, [.ref (a 1), .ref (a 2), .ref (a 3), .ref (a 4), .ref (a 5), .ref (a 6), .ref (a 7), .int am, .int (ti + 1), .int (fm_own lv cr 6)])), ((a 1), .inl (cI, 6, .inl sg)), ((a 3), .inl (cI, 6, .inl bu)), ((a 6), .inl (cI, 42, .inl we)), ((a 7), .inl (cI, 5, .inl se))]) hD hS hA [0, 1, 2, 4, 5] rfl
      refine va_calli (va_runV (As := [.int (nI (sl_lit lv cr se ah).toNatClampNeg)]) (rest := []) ⟨hx, hb, hml, hown, hts⟩ (c_X2_wearOut l dC dI cI cS cJ tt H.size a am (ti + 1) (fm_own lv cr 6) sg bu we se ((sl_lit lv cr se ah).toNatClampNeg)) (cwV 1 hts gX2_passSlot_X2_wearOut rfl rfl rfl (by decide +kernel) ⟨Nat.le_of_ble_eq_true rfl, Nat.le_of_ble_eq_true rfl⟩) ⟨xm_Mblind, va_recv hK hPc (ci := 2) (q0 := 0) rfl rfl, fun U hU hW => ⟨rfl, by rw [hU], by rw [hU]; exact hPc, hE.go hS hFc hU hW, hDc.weaken (fun _ _ _ _ => trivial), ⟨(fm_lit_at q53).2, hpre _ (fm_lit_at q53).2⟩⟩⟩ rfl rfl hl.1 rfl (lv_room (Nat.le_of_ble_eq_true rfl)) dX2_passSlot_70 ⟨Nat.zero_le _, Nat.zero_le _⟩) hS (fun q _ h => hFc q h) hFc (fun r u t H1 locs ht hvm hw hB hz1 hk1 hS => ?_)
      obtain ⟨u_4, u_5⟩ := u
      obtain ⟨hP1, hD1⟩ := hB
      rw [ht] at hP1
      obtain ⟨hw_6, hw_7, hw_8⟩ := hw
      have hw_6 : r = fm_won (fm_shw (sg ((sl_lit lv cr se ah).toNatClampNeg)) (bu ((sl_lit lv cr se ah).toNatClampNeg))) (se 4 * 100) ((sl_lit lv cr se ah).toNatClampNeg) we 7 := hw_6
      subst hw_6
      have hw_7 : u_4 = upd bu ((sl_lit lv cr se ah).toNatClampNeg) (fm_wob (fm_shw (sg ((sl_lit lv cr se ah).toNatClampNeg)) (bu ((sl_lit lv cr se ah).toNatClampNeg))) (se 4 * 100) ((sl_lit lv cr se ah).toNatClampNeg) we (bu ((sl_lit lv cr se ah).toNatClampNeg)) 7) := hw_7
      subst hw_7
      have hw_8 : u_5 = fm_wow (fm_shw (sg ((sl_lit lv cr se ah).toNatClampNeg)) (bu ((sl_lit lv cr se ah).toNatClampNeg))) ((sl_lit lv cr se ah).toNatClampNeg) we 7 := hw_8
      subst hw_8
      obtain ⟨hP, hD⟩ := va_join (wr := [((a 5), .inl (cI, 6, .inl (upd ls ((sl_lit lv cr se ah).toNatClampNeg) ((ls ((sl_lit lv cr se ah).toNatClampNeg)) + 1)))), ((a 2), .inl (cI, 6, .inl lv)), ((a 4), .inl (cI, 6, .inl (fm_crd lv cr)))]) (w1 := [((a 0), .inr (2, [.ref (a 1), .ref (a 2), .ref (a 3), .ref (a 4), .ref (a 5), .ref (a 6), .ref (a 7), .int am, .int (ti + 1), .int (fm_own lv cr 6)])), ((a 1), .inl (cI, 6, .inl sg)), ((a 3), .inl (cI, 6, .inl (upd bu ((sl_lit lv cr se ah).toNatClampNeg) (fm_wob (fm_shw (sg ((sl_lit lv cr se ah).toNatClampNeg)) (bu ((sl_lit lv cr se ah).toNatClampNeg))) (se 4 * 100) ((sl_lit lv cr se ah).toNatClampNeg) we (bu ((sl_lit lv cr se ah).toNatClampNeg)) 7)))), ((a 6), .inl (cI, 42, .inl (fm_wow (fm_shw (sg ((sl_lit lv cr se ah).toNatClampNeg)) (bu ((sl_lit lv cr se ah).toNatClampNeg))) ((sl_lit lv cr se ah).toNatClampNeg) we 7))), ((a 7), .inl (cI, 5, .inl se))]) hP hD [0, 1, 2, 4, 5] [3, 6, 7] rfl rfl (by decide) (by decide) hk1 hFc hP1 hD1
      generalize H1 = H at hP hS ⊢
      have hP : va_P (dC, dI) vwCl [((a 5), .inl (cI, 6, .inl (upd ls ((sl_lit lv cr se ah).toNatClampNeg) ((ls ((sl_lit lv cr se ah).toNatClampNeg)) + 1)))), ((a 2), .inl (cI, 6, .inl lv)), ((a 4), .inl (cI, 6, .inl (fm_crd lv cr))), ((a 0), .inr (2, [.ref (a 1), .ref (a 2), .ref (a 3), .ref (a 4), .ref (a 5), .ref (a 6), .ref (a 7), .int am, .int (ti + 1), .int (fm_own lv cr 6)])), ((a 1), .inl (cI, 6, .inl sg)), ((a 3), .inl (cI, 6, .inl (upd bu ((sl_lit lv cr se ah).toNatClampNeg) (fm_wob (fm_shw (sg ((sl_lit lv cr se ah).toNatClampNeg)) (bu ((sl_lit lv cr se ah).toNatClampNeg))) (se 4 * 100) ((sl_lit lv cr se ah).toNatClampNeg) we (bu ((sl_lit lv cr se ah).toNatClampNeg)) 7)))), ((a 6), .inl (cI, 42, .inl (fm_wow (fm_shw (sg ((sl_lit lv cr se ah).toNatClampNeg)) (bu ((sl_lit lv cr se ah).toNatClampNeg))) ((sl_lit lv cr se ah).toNatClampNeg) we 7))), ((a 7), .inl (cI, 5, .inl se))] H := hP
      have hD : va_D A [((a 5), .inl (cI, 6, .inl (upd ls ((sl_lit lv cr se ah).toNatClampNeg) ((ls ((sl_lit lv cr se ah).toNatClampNeg)) + 1)))), ((a 2), .inl (cI, 6, .inl lv)), ((a 4), .inl (cI, 6, .inl (fm_crd lv cr))), ((a 0), .inr (2, [.ref (a 1), .ref (a 2), .ref (a 3), .ref (a 4), .ref (a 5), .ref (a 6), .ref (a 7), .int am, .int (ti + 1), .int (fm_own lv cr 6)])), ((a 1), .inl (cI, 6, .inl sg)), ((a 3), .inl (cI, 6, .inl (upd bu ((sl_lit lv cr se ah).toNatClampNeg) (fm_wob (fm_shw (sg ((sl_lit lv cr se ah).toNatClampNeg)) (bu ((sl_lit lv cr se ah).toNatClampNeg))) (se 4 * 100) ((sl_lit lv cr se ah).toNatClampNeg) we (bu ((sl_lit lv cr se ah).toNatClampNeg)) 7)))), ((a 6), .inl (cI, 42, .inl (fm_wow (fm_shw (sg ((sl_lit lv cr se ah).toNatClampNeg)) (bu ((sl_lit lv cr se ah).toNatClampNeg))) ((sl_lit lv cr se ah).toNatClampNeg) we 7))), ((a 7), .inl (cI, 5, .inl se))] := hD
      have hP9 := hP.sub (ws' := [((a 0), .inr (2, [.ref (a 1), .ref (a 2), .ref (a 3), .ref (a 4), .ref (a 5), .ref (a 6), .ref (a 7), .int am, .int (ti + 1), .int (fm_own lv cr 6)])), ((a 1), .inl (cI, 6, .inl sg)), ((a 2), .inl (cI, 6, .inl lv)), ((a 3), .inl (cI, 6, .inl (upd bu ((sl_lit lv cr se ah).toNatClampNeg) (fm_wob (fm_shw (sg ((sl_lit lv cr se ah).toNatClampNeg)) (bu ((sl_lit lv cr se ah).toNatClampNeg))) (se 4 * 100) ((sl_lit lv cr se ah).toNatClampNeg) we (bu ((sl_lit lv cr se ah).toNatClampNeg)) 7)))), ((a 4), .inl (cI, 6, .inl (fm_crd lv cr))), ((a 5), .inl (cI, 6, .inl (upd ls ((sl_lit lv cr se ah).toNatClampNeg) ((ls ((sl_lit lv cr se ah).toNatClampNeg)) + 1)))), ((a 6), .inl (cI, 42, .inl (fm_wow (fm_shw (sg ((sl_lit lv cr se ah).toNatClampNeg)) (bu ((sl_lit lv cr se ah).toNatClampNeg))) ((sl_lit lv cr se ah).toNatClampNeg) we 7))), ((a 7), .inl (cI, 5, .inl se))]) [3, 4, 1, 5, 2, 0, 6, 7] rfl
      have hD9 := hD.sub (ws' := [((a 0), .inr (2, [.ref (a 1), .ref (a 2), .ref (a 3), .ref (a 4), .ref (a 5), .ref (a 6), .ref (a 7), .int am, .int (ti + 1), .int (fm_own lv cr 6)])), ((a 1), .inl (cI, 6, .inl sg)), ((a 2), .inl (cI, 6, .inl lv)), ((a 3), .inl (cI, 6, .inl (upd bu ((sl_lit lv cr se ah).toNatClampNeg) (fm_wob (fm_shw (sg ((sl_lit lv cr se ah).toNatClampNeg)) (bu ((sl_lit lv cr se ah).toNatClampNeg))) (se 4 * 100) ((sl_lit lv cr se ah).toNatClampNeg) we (bu ((sl_lit lv cr se ah).toNatClampNeg)) 7)))), ((a 4), .inl (cI, 6, .inl (fm_crd lv cr))), ((a 5), .inl (cI, 6, .inl (upd ls ((sl_lit lv cr se ah).toNatClampNeg) ((ls ((sl_lit lv cr se ah).toNatClampNeg)) + 1)))), ((a 6), .inl (cI, 42, .inl (fm_wow (fm_shw (sg ((sl_lit lv cr se ah).toNatClampNeg)) (bu ((sl_lit lv cr se ah).toNatClampNeg))) ((sl_lit lv cr se ah).toNatClampNeg) we 7))), ((a 7), .inl (cI, 5, .inl se))]) [3, 4, 1, 5, 2, 0, 6, 7] (by decide) rfl
      exact W.iret (v := fm_won (fm_shw (sg ((sl_lit lv cr se ah).toNatClampNeg)) (bu ((sl_lit lv cr se ah).toNatClampNeg))) (se 4 * 100) ((sl_lit lv cr se ah).toNatClampNeg) we 7) hx hb hr (fun t ht hW => ⟨⟨fm_won (fm_shw (sg ((sl_lit lv cr se ah).toNatClampNeg)) (bu ((sl_lit lv cr se ah).toNatClampNeg))) (se 4 * 100) ((sl_lit lv cr se ah).toNatClampNeg) we 7, ((upd bu ((sl_lit lv cr se ah).toNatClampNeg) (fm_wob (fm_shw (sg ((sl_lit lv cr se ah).toNatClampNeg)) (bu ((sl_lit lv cr se ah).toNatClampNeg))) (se 4 * 100) ((sl_lit lv cr se ah).toNatClampNeg) we (bu ((sl_lit lv cr se ah).toNatClampNeg)) 7)), (fm_crd lv cr), upd ls ((sl_lit lv cr se ah).toNatClampNeg) ((ls ((sl_lit lv cr se ah).toNatClampNeg)) + 1), (fm_wow (fm_shw (sg ((sl_lit lv cr se ah).toNatClampNeg)) (bu ((sl_lit lv cr se ah).toNatClampNeg))) ((sl_lit lv cr se ah).toNatClampNeg) we 7), (ti + 1), (fm_own lv cr 6)), rfl, ⟨(by simp only [sl_n, sl_bu, sl_ls, sl_we, sl_sm, if_neg q53]), (by simp only [sl_n, sl_bu, sl_ls, sl_we, sl_sm, if_neg q53]), (by simp only [sl_n, sl_bu, sl_ls, sl_we, sl_sm, if_neg q53]), (by simp only [sl_n, sl_bu, sl_ls, sl_we, sl_sm, if_neg q53]), (by simp only [sl_n, sl_bu, sl_ls, sl_we, sl_sm, if_neg q53]), (by simp only [sl_n, sl_bu, sl_ls, sl_we, sl_sm, if_neg q53]), (by simp only [sl_n, sl_bu, sl_ls, sl_we, sl_sm, if_neg q53])⟩, by rw [ht]; exact hP9, hD9⟩, hS.F ht⟩) hS.2.2 dX2_passSlot_73
    · refine lv_iconst (v := 0) hx hb dX2_passSlot_56 (by decide) ?_
      have hP9 := hP.sub (ws' := [((a 0), .inr (2, [.ref (a 1), .ref (a 2), .ref (a 3), .ref (a 4), .ref (a 5), .ref (a 6), .ref (a 7), .int am, .int (ti + 1), .int (fm_own lv cr 6)])), ((a 1), .inl (cI, 6, .inl sg)), ((a 2), .inl (cI, 6, .inl lv)), ((a 3), .inl (cI, 6, .inl bu)), ((a 4), .inl (cI, 6, .inl (fm_crd lv cr))), ((a 5), .inl (cI, 6, .inl ls)), ((a 6), .inl (cI, 42, .inl we)), ((a 7), .inl (cI, 5, .inl se))]) [0, 1, 6, 2, 7, 3, 4, 5] rfl
      have hD9 := hD.sub (ws' := [((a 0), .inr (2, [.ref (a 1), .ref (a 2), .ref (a 3), .ref (a 4), .ref (a 5), .ref (a 6), .ref (a 7), .int am, .int (ti + 1), .int (fm_own lv cr 6)])), ((a 1), .inl (cI, 6, .inl sg)), ((a 2), .inl (cI, 6, .inl lv)), ((a 3), .inl (cI, 6, .inl bu)), ((a 4), .inl (cI, 6, .inl (fm_crd lv cr))), ((a 5), .inl (cI, 6, .inl ls)), ((a 6), .inl (cI, 42, .inl we)), ((a 7), .inl (cI, 5, .inl se))]) [0, 1, 6, 2, 7, 3, 4, 5] (by decide) rfl
      exact W.iret (v := 0) hx hb hr (fun t ht hW => ⟨⟨0, (bu, (fm_crd lv cr), ls, we, ti + 1, fm_own lv cr 6), rfl, ⟨(by simp only [sl_n, sl_bu, sl_ls, sl_we, sl_sm, if_pos q53]), (by simp only [sl_n, sl_bu, sl_ls, sl_we, sl_sm, if_pos q53]), (by simp only [sl_n, sl_bu, sl_ls, sl_we, sl_sm, if_pos q53]), (by simp only [sl_n, sl_bu, sl_ls, sl_we, sl_sm, if_pos q53]), (by simp only [sl_n, sl_bu, sl_ls, sl_we, sl_sm, if_pos q53]), rfl, rfl⟩, by rw [ht]; exact hP9, hD9⟩, hS.F ht⟩) hS.2.2 dX2_passSlot_57
  refine lv_iload_n hx hb dX2_passSlot_12 rfl (lv_at hl 0 rfl) ?_
  refine lv_aload_n hx hb dX2_passSlot_13 rfl (lv_at hl 1 rfl) ?_
  refine va_get (D := (dC, dI)) (ci := 2) (v := .int ah) (C := RX2) (T := TX2) (N := 10) hx hb hts hin2 hown hK hP 0 rfl rfl 9 (by decide) (hts (.fieldLink RX2 40 "TurnDigits$State" "ahead" "I") (by decide +kernel)) (fun _ h9 => h9) rfl dX2_passSlot_14 ?_
  refine lv_aload_n hx hb dX2_passSlot_17 rfl (lv_at hl 1 rfl) ?_
  refine va_get (D := (dC, dI)) (ci := 2) (v := .ref (a 7)) (C := RX2) (T := TX2) (N := 10) hx hb hts hin2 hown hK hP 0 rfl rfl 6 (by decide) (hts (.fieldLink RX2 30 "TurnDigits$State" "settings" "[I") (by decide +kernel)) (fun _ h9 => h9) rfl dX2_passSlot_18 ?_
  refine lv_iconst (v := 1) hx hb dX2_passSlot_21 (by decide) ?_
  refine xm_iald (D := (dC, dI)) hx hb hK hP 5 0 1 (v := se 1) rfl rfl (by decide) rfl (by decide) rfl dX2_passSlot_22 ?_
  refine lv_iconst (v := 1) hx hb dX2_passSlot_23 (by decide) ?_
  refine lv_icmp_ne (tgt := 31) hx hb dX2_passSlot_24 (by decide) (fun q24 => ?_) (fun q24 => ?_)
  · refine lv_iconst (v := 0) hx hb dX2_passSlot_31 (by decide) ?_
    exact J32 0 (by simp only [fm_dk, if_neg q24]) H locs hP hD hS lz (lv_sub hl [1, 0] rfl)
  · refine lv_iconst (v := 1) hx hb dX2_passSlot_27 (by decide) ?_
    refine lv_goto (tgt := 32) hx hb dX2_passSlot_28 (by decide) ?_
    exact J32 1 (by simp only [fm_dk, if_pos q24]) H locs hP hD hS lz (lv_sub hl [1, 0] rfl)

set_option maxHeartbeats 4000000 in
set_option maxRecDepth 100000 in
theorem c_X2_putNumber (l : Launch) (dC : Nat → ClassId) (dI : Nat → Nat → Nat) (cI cS cJ : ClassId) (tt : Nat → Nat) (sz : Nat) (a : Nat → Nat) (am : Int32) (ti : Int32) (ah : Int32) (sg : Nat → Int32) (first : Nat) (last : Nat) (num : Int32) (len : Int32) : Met l yX2_putNumber wsX2_putNumber ({ frames := 1, cells := 0, slots := 0, locals := 20 } : Room) (va_Pc [.ref (a 0), .int (nI first), .int (nI last), .int num, .int len] (xm_M (dC, dI) cI cS cJ tt [((a 0), .inr (2, [.ref (a 1), .ref (a 2), .ref (a 3), .ref (a 4), .ref (a 5), .ref (a 6), .ref (a 7), .int am, .int ti, .int ah])), ((a 1), .inl (cI, 6, .inl sg))] sz (first ≤ last ∧ last < 6))) (va_Qv (fun (u : (Nat → Int32)) => u = fm_pa (fm_fg num len) len (fm_mag num) last sg (last + 1 - first)) (xm_B (dC, dI) (fun (u : (Nat → Int32)) => [((a 0), .inr (2, [.ref (a 1), .ref (a 2), .ref (a 3), .ref (a 4), .ref (a 5), .ref (a 6), .ref (a 7), .int am, .int ti, .int ah])), ((a 1), .inl (cI, 6, .inl u))]) (va_A [((a 0), .inr (2, [.ref (a 1), .ref (a 2), .ref (a 3), .ref (a 4), .ref (a 5), .ref (a 6), .ref (a 7), .int am, .int ti, .int ah])), ((a 1), .inl (cI, 6, .inl sg))] sz)) (va_A [((a 0), .inr (2, [.ref (a 1), .ref (a 2), .ref (a 3), .ref (a 4), .ref (a 5), .ref (a 6), .ref (a 7), .int am, .int ti, .int ah])), ((a 1), .inl (cI, 6, .inl sg))] sz)) 0 0 (va_A [((a 0), .inr (2, [.ref (a 1), .ref (a 2), .ref (a 3), .ref (a 4), .ref (a 5), .ref (a 6), .ref (a 7), .int am, .int ti, .int ah])), ((a 1), .inl (cI, 6, .inl sg))] sz) := by
  refine Met.ofW (cc := cX2_putNumber) (maxL := 10) (ret := none) (by decide) rfl ?_
  intro p e s m args below meth c s₁ B hml hv
  obtain ⟨rfl, hsz, hP, hE, hD0, hpre⟩ := hv
  have hx := B.exec
  have hb := B.bytes
  have hr := B.returns
  have hts := atoms_spec (ws := wsX2_putNumber) B.pre
  have hown : s.vm.findClass RX2 = some m.cls := findClass_of_methodNamed B.named
  have hlocks := B.notSynchronized
  have hK := hE.1
  subst hsz
  have hD := hD0.self (sz := s.heap.size)
  generalize hAe : va_A [((a 0), .inr (2, [.ref (a 1), .ref (a 2), .ref (a 3), .ref (a 4), .ref (a 5), .ref (a 6), .ref (a 7), .int am, .int ti, .int ah])), ((a 1), .inl (cI, 6, .inl sg))] s.heap.size = A at hD hE ⊢
  have hA : ∀ q : Nat, s.heap.size ≤ q → A q := fun q h => by rw [← hAe]; exact Or.inr h
  have hS : va_S A s.heap s.heap [] := va_S.rf
  have hP : va_P (dC, dI) vwCl [((a 0), .inr (2, [.ref (a 1), .ref (a 2), .ref (a 3), .ref (a 4), .ref (a 5), .ref (a 6), .ref (a 7), .int am, .int ti, .int ah])), ((a 1), .inl (cI, 6, .inl sg))] s.heap := hP
  have hin2 : ∀ w ∈ u_ws RX2 TX2 10, w ∈ wsX2_putNumber := by decide +kernel
  have hl := lv_entry [.ref (a 0), .int (nI first), .int (nI last), .int num, .int len] (n := 10) (Nat.le_of_ble_eq_true rfl)
  rw [lg_entry_eq]
  generalize (lg_sl [.ref (a 0), .int (nI first), .int (nI last), .int num, .int len] ++ List.replicate (10 - (lg_sl [.ref (a 0), .int (nI first), .int (nI last), .int num, .int len]).length) Slot.unset).toArray = lz at hl ⊢
  have hl : lv_has lz 10 [(0, .ref (a 0)), (1, .int (nI first)), (2, .int (nI last)), (3, .int num), (4, .int len)] := hl
  have J13 : ∀ (fg : Int32), (fg = (fm_fg num len)) → ∀ (H : Heap) (locs : List Loc), va_P (dC, dI) vwCl [((a 0), .inr (2, [.ref (a 1), .ref (a 2), .ref (a 3), .ref (a 4), .ref (a 5), .ref (a 6), .ref (a 7), .int am, .int ti, .int ah])), ((a 1), .inl (cI, 6, .inl sg))] H → va_D A [((a 0), .inr (2, [.ref (a 1), .ref (a 2), .ref (a 3), .ref (a 4), .ref (a 5), .ref (a 6), .ref (a 7), .int am, .int ti, .int ah])), ((a 1), .inl (cI, 6, .inl sg))] → va_S A s.heap H locs → ∀ (lz : Array Slot), lv_has lz 10 [(0, .ref (a 0)), (1, .int (nI first)), (2, .int (nI last)), (3, .int num), (4, .int len)] → W p l e (headSpec wsX2_putNumber ({ frames := 1, cells := 0, slots := 0, locals := 20 } : Room)).room s m ([.ref (a 0), .int (nI first), .int (nI last), .int num, .int len] : List Value).toArray below meth c H locs 0 0 (MQ below (va_Qv (fun (u : (Nat → Int32)) => u = fm_pa (fm_fg num len) len (fm_mag num) last sg (last + 1 - first)) (xm_B (dC, dI) (fun (u : (Nat → Int32)) => [((a 0), .inr (2, [.ref (a 1), .ref (a 2), .ref (a 3), .ref (a 4), .ref (a 5), .ref (a 6), .ref (a 7), .int am, .int ti, .int ah])), ((a 1), .inl (cI, 6, .inl u))]) A) A) ([.ref (a 0), .int (nI first), .int (nI last), .int num, .int len] : List Value).toArray s 0 0 A) (F0 m 13 lz [.int fg]) := by
    intro fg efg H locs hP hD hS lz hl
    subst efg
    refine lv_istore (lv' := [(5, .int (fm_fg num len)), (0, .ref (a 0)), (1, .int (nI first)), (2, .int (nI last)), (3, .int num), (4, .int len)]) hx hb dX2_putNumber_13 hl (by decide) rfl (fun lz hl => ?_)
    refine lv_iload_n hx hb dX2_putNumber_15 rfl (lv_at hl 4 rfl) ?_
    have hPc := hP.sub (ws' := []) [] rfl
    refine W.callV ((va_runSN (As := [.int num]) (rest := []) ⟨hx, hb, hml, hown, hts⟩ (c_X4_magnitude l dC dI cI cS cJ tt num) ⟨va_cnB 1 hts gX2_putNumber_X4_magnitude_n58 rfl rfl rfl hE.2.1.2.2.2.2.2.1 (hts (.initialized RX4) (by decide +kernel)) (by decide +kernel) ⟨Nat.le_of_ble_eq_true rfl, Nat.le_of_ble_eq_true rfl⟩, hts (.static yX4_magnitude) (by decide +kernel), trivial⟩ ⟨xm_Rblind, fun U hU hW => ⟨rfl, by rw [hU]; exact hPc, hE.go hS (fun _ q => q.elim) hU hW, trivial⟩⟩ rfl rfl hl.1 rfl (lv_room (Nat.le_of_ble_eq_true rfl)) dX2_putNumber_16 ⟨Nat.zero_le _, Nat.zero_le _⟩).run) ?_
    refine W.eq (g2 := F0 m 19 lz (.long (fm_mag num) :: [])) rfl ?_
    refine lv_lstore (lv' := [(6, .long (fm_mag num)), (5, .int (fm_fg num len)), (0, .ref (a 0)), (1, .int (nI first)), (2, .int (nI last)), (3, .int num), (4, .int len)]) hx hb dX2_putNumber_19 hl (by decide) rfl (fun lz hl => ?_)
    refine lv_iload_n hx hb dX2_putNumber_21 rfl (lv_at hl 4 rfl) ?_
    refine lv_istore (lv' := [(8, .int (nI last)), (6, .long (fm_mag num)), (5, .int (fm_fg num len)), (0, .ref (a 0)), (1, .int (nI first)), (2, .int (nI last)), (3, .int num), (4, .int len)]) hx hb dX2_putNumber_22 hl (by decide) rfl (fun lz hl => ?_)
    have L24 : ∀ (zz i : Nat), i ≤ (last + 1 - first) → (last + 1 - first) + 1 ≤ i + zz → ∀ (x6 : Int64) (x8 : Int32) (f : Nat → Int32), x6 = fm_pr (fm_fg num len) (fm_mag num) i → x8 = nI (last + 1 - i) - 1 → f = fm_pa (fm_fg num len) len (fm_mag num) last sg i → ∀ (H : Heap) (locs : List Loc), va_P (dC, dI) vwCl [((a 0), .inr (2, [.ref (a 1), .ref (a 2), .ref (a 3), .ref (a 4), .ref (a 5), .ref (a 6), .ref (a 7), .int am, .int ti, .int ah])), ((a 1), .inl (cI, 6, .inl f))] H → va_D A [((a 0), .inr (2, [.ref (a 1), .ref (a 2), .ref (a 3), .ref (a 4), .ref (a 5), .ref (a 6), .ref (a 7), .int am, .int ti, .int ah])), ((a 1), .inl (cI, 6, .inl f))] → va_S A s.heap H locs → ∀ (lz : Array Slot), lv_has lz 10 [(0, .ref (a 0)), (1, .int (nI first)), (2, .int (nI last)), (4, .int len), (5, .int (fm_fg num len)), (6, .long x6), (8, .int x8)] → W p l e (headSpec wsX2_putNumber ({ frames := 1, cells := 0, slots := 0, locals := 20 } : Room)).room s m ([.ref (a 0), .int (nI first), .int (nI last), .int num, .int len] : List Value).toArray below meth c H locs 0 0 (MQ below (va_Qv (fun (u : (Nat → Int32)) => u = fm_pa (fm_fg num len) len (fm_mag num) last sg (last + 1 - first)) (xm_B (dC, dI) (fun (u : (Nat → Int32)) => [((a 0), .inr (2, [.ref (a 1), .ref (a 2), .ref (a 3), .ref (a 4), .ref (a 5), .ref (a 6), .ref (a 7), .int am, .int ti, .int ah])), ((a 1), .inl (cI, 6, .inl u))]) A) A) ([.ref (a 0), .int (nI first), .int (nI last), .int num, .int len] : List Value).toArray s 0 0 A) (F0 m 24 lz []) := by
      intro zz
      induction zz with
      | zero => intro i hii hni; exact absurd hni (by omega)
      | succ zz ih24 =>
        intro i hii hni x6 x8 f e_x6 e_x8 e_f  H locs hP hD hS lz hl
        subst e_x6 e_f
        refine lv_iload hx hb dX2_putNumber_24 (lv_at hl 6 rfl) ?_
        refine lv_iload_n hx hb dX2_putNumber_26 rfl (lv_at hl 1 rfl) ?_
        refine lv_icmp_lt (tgt := 95) hx hb dX2_putNumber_27 (by decide) (fun q27 => ?_) (fun q27 => ?_)
        · have hNi : (last + 1 - first) = i := fm_pn_i hpre.1 hpre.2 hii (by rw [← e_x8]; exact q27)
          subst hNi
          have hP9 : va_P (dC, dI) vwCl [((a 0), .inr (2, [.ref (a 1), .ref (a 2), .ref (a 3), .ref (a 4), .ref (a 5), .ref (a 6), .ref (a 7), .int am, .int ti, .int ah])), ((a 1), .inl (cI, 6, .inl (fm_pa (fm_fg num len) len (fm_mag num) last sg (last + 1 - first))))] H := hP
          have hD9 : va_D A [((a 0), .inr (2, [.ref (a 1), .ref (a 2), .ref (a 3), .ref (a 4), .ref (a 5), .ref (a 6), .ref (a 7), .int am, .int ti, .int ah])), ((a 1), .inl (cI, 6, .inl (fm_pa (fm_fg num len) len (fm_mag num) last sg (last + 1 - first))))] := hD
          exact W.vret hx hb hr (fun t ht hW => ⟨⟨(fm_pa (fm_fg num len) len (fm_mag num) last sg (last + 1 - first)), rfl, (by simp), by rw [ht]; exact hP9, hD9⟩, hS.F ht⟩) hS.2.2 dX2_putNumber_95
        · have hx8 := fm_pn_o hpre.1 hpre.2 (i := i) (by rw [← e_x8]; exact q27)
          refine lv_iload_n hx hb dX2_putNumber_30 rfl (lv_at hl 2 rfl) ?_
          refine lv_iload hx hb dX2_putNumber_31 (lv_at hl 6 rfl) ?_
          refine lv_isub hx hb dX2_putNumber_33 ?_
          refine xm_topi (y := (nI i)) (by rw [e_x8, hx8.2, pk_sub (by omega), show last - (last - i) = i by omega]) ?_
          refine lv_istore (lv' := [(9, .int (nI i)), (0, .ref (a 0)), (1, .int (nI first)), (2, .int (nI last)), (4, .int len), (5, .int (fm_fg num len)), (6, .long (fm_pr (fm_fg num len) (fm_mag num) i)), (8, .int x8)]) hx hb dX2_putNumber_34 hl (by decide) rfl (fun lz hl => ?_)
          refine lv_iload hx hb dX2_putNumber_36 (lv_at hl 0 rfl) ?_
          refine lv_iload hx hb dX2_putNumber_38 (lv_at hl 5 rfl) ?_
          refine lv_icmp_ge (tgt := 68) hx hb dX2_putNumber_40 (by decide) (fun q40 => ?_) (fun q40 => ?_)
          · have J88 : ∀ (vv : Int32), (vv = fm_pv (fm_fg num len) len (fm_mag num) i) → ∀ (H : Heap) (locs : List Loc), va_P (dC, dI) vwCl [((a 0), .inr (2, [.ref (a 1), .ref (a 2), .ref (a 3), .ref (a 4), .ref (a 5), .ref (a 6), .ref (a 7), .int am, .int ti, .int ah])), ((a 1), .inl (cI, 6, .inl (fm_pa (fm_fg num len) len (fm_mag num) last sg i)))] H → va_D A [((a 0), .inr (2, [.ref (a 1), .ref (a 2), .ref (a 3), .ref (a 4), .ref (a 5), .ref (a 6), .ref (a 7), .int am, .int ti, .int ah])), ((a 1), .inl (cI, 6, .inl (fm_pa (fm_fg num len) len (fm_mag num) last sg i)))] → va_S A s.heap H locs → ∀ (lz : Array Slot), lv_has lz 10 [(9, .int (nI i)), (0, .ref (a 0)), (1, .int (nI first)), (2, .int (nI last)), (4, .int len), (5, .int (fm_fg num len)), (6, .long (fm_pr (fm_fg num len) (fm_mag num) i)), (8, .int x8)] → W p l e (headSpec wsX2_putNumber ({ frames := 1, cells := 0, slots := 0, locals := 20 } : Room)).room s m ([.ref (a 0), .int (nI first), .int (nI last), .int num, .int len] : List Value).toArray below meth c H locs 0 0 (MQ below (va_Qv (fun (u : (Nat → Int32)) => u = fm_pa (fm_fg num len) len (fm_mag num) last sg (last + 1 - first)) (xm_B (dC, dI) (fun (u : (Nat → Int32)) => [((a 0), .inr (2, [.ref (a 1), .ref (a 2), .ref (a 3), .ref (a 4), .ref (a 5), .ref (a 6), .ref (a 7), .int am, .int ti, .int ah])), ((a 1), .inl (cI, 6, .inl u))]) A) A) ([.ref (a 0), .int (nI first), .int (nI last), .int num, .int len] : List Value).toArray s 0 0 A) (F0 m 88 lz [.int vv, .int x8, .ref (a 1)]) := by
              intro vv evv H locs hP hD hS lz hl
              refine xm_iast (D := (dC, dI)) hx hb hK hP hD hS 1 0 (last - i) rfl rfl (by decide) (e_x8.trans hx8.2) (by omega) dX2_putNumber_88 (fun H locs hP hD hS => ?_)
              have hP : va_P (dC, dI) vwCl [((a 0), .inr (2, [.ref (a 1), .ref (a 2), .ref (a 3), .ref (a 4), .ref (a 5), .ref (a 6), .ref (a 7), .int am, .int ti, .int ah])), ((a 1), .inl (cI, 6, .inl (upd (fm_pa (fm_fg num len) len (fm_mag num) last sg i) (last - i) vv)))] H := hP
              have hD : va_D A [((a 0), .inr (2, [.ref (a 1), .ref (a 2), .ref (a 3), .ref (a 4), .ref (a 5), .ref (a 6), .ref (a 7), .int am, .int ti, .int ah])), ((a 1), .inl (cI, 6, .inl (upd (fm_pa (fm_fg num len) len (fm_mag num) last sg i) (last - i) vv)))] := hD
              refine lv_iinc (v := (x8 + (-1))) (lv' := [(8, .int (x8 + (-1))), (9, .int (nI i)), (0, .ref (a 0)), (1, .int (nI first)), (2, .int (nI last)), (4, .int len), (5, .int (fm_fg num len)), (6, .long (fm_pr (fm_fg num len) (fm_mag num) i))]) hx hb dX2_putNumber_89 hl (k := 7) rfl rfl (by decide) rfl (fun lz hl => ?_)
              refine lv_goto (tgt := 24) hx hb dX2_putNumber_92 (by decide) ?_
              exact ih24 (i + 1) hx8.1 (by omega) (fm_pr (fm_fg num len) (fm_mag num) i) (x8 + (-1)) (upd (fm_pa (fm_fg num len) len (fm_mag num) last sg i) (last - i) vv) (by simp only [fm_pr, if_neg q27, if_pos q40]) (by rw [e_x8, hx8.2, show last + 1 - (i + 1) = last - i by omega]; exact (Int32.sub_eq_add_neg _ _).symm) (by show _ = upd _ (last - i) (fm_pv _ _ _ i); rw [← evv])  H locs hP hD hS lz (lv_sub hl [2, 3, 4, 5, 6, 7, 0] rfl)
            refine lv_aload_n hx hb dX2_putNumber_68 rfl (lv_at hl 1 rfl) ?_
            refine va_get (D := (dC, dI)) (ci := 2) (v := .ref (a 1)) (C := RX2) (T := TX2) (N := 10) hx hb hts hin2 hown hK hP 0 rfl rfl 0 (by decide) (hts (.fieldLink RX2 9 "TurnDigits$State" "signs" "[I") (by decide +kernel)) (fun _ h9 => h9) rfl dX2_putNumber_69 ?_
            refine lv_iload hx hb dX2_putNumber_72 (lv_at hl 7 rfl) ?_
            refine lv_iload hx hb dX2_putNumber_74 (lv_at hl 0 rfl) ?_
            refine lv_iload hx hb dX2_putNumber_76 (lv_at hl 4 rfl) ?_
            refine lv_icmp_ge (tgt := 86) hx hb dX2_putNumber_78 (by decide) (fun q78 => ?_) (fun q78 => ?_)
            · refine lv_bipush (v := 11) hx hb dX2_putNumber_86 (by decide) ?_
              exact J88 11 (by simp only [fm_pv, if_neg q27, if_pos q40, if_pos q78]) H locs hP hD hS lz (lv_sub hl [0, 1, 2, 3, 4, 5, 6, 7] rfl)
            · refine lv_bipush (v := 10) hx hb dX2_putNumber_81 (by decide) ?_
              refine lv_goto (tgt := 88) hx hb dX2_putNumber_83 (by decide) ?_
              exact J88 10 (by simp only [fm_pv, if_neg q27, if_pos q40, if_neg q78]) H locs hP hD hS lz (lv_sub hl [0, 1, 2, 3, 4, 5, 6, 7] rfl)
          · refine lv_aload_n hx hb dX2_putNumber_43 rfl (lv_at hl 1 rfl) ?_
            refine va_get (D := (dC, dI)) (ci := 2) (v := .ref (a 1)) (C := RX2) (T := TX2) (N := 10) hx hb hts hin2 hown hK hP 0 rfl rfl 0 (by decide) (hts (.fieldLink RX2 9 "TurnDigits$State" "signs" "[I") (by decide +kernel)) (fun _ h9 => h9) rfl dX2_putNumber_44 ?_
            refine lv_iload hx hb dX2_putNumber_47 (lv_at hl 7 rfl) ?_
            refine lv_lload hx hb dX2_putNumber_49 (lv_at hl 6 rfl) ?_
            refine lv_ldc2 (v := 10) hx hb hown (hts (.constantLong RX2 62 10) (by decide +kernel)) dX2_putNumber_51 ?_
            refine lv_lrem hx hb dX2_putNumber_54 (by decide) ?_
            refine lv_l2i hx hb dX2_putNumber_55 rfl ?_
            refine xm_iast (D := (dC, dI)) hx hb hK hP hD hS 1 0 (last - i) rfl rfl (by decide) (e_x8.trans hx8.2) (by omega) dX2_putNumber_56 (fun H locs hP hD hS => ?_)
            have hP : va_P (dC, dI) vwCl [((a 0), .inr (2, [.ref (a 1), .ref (a 2), .ref (a 3), .ref (a 4), .ref (a 5), .ref (a 6), .ref (a 7), .int am, .int ti, .int ah])), ((a 1), .inl (cI, 6, .inl (upd (fm_pa (fm_fg num len) len (fm_mag num) last sg i) (last - i) (((fm_pr (fm_fg num len) (fm_mag num) i) - (fm_pr (fm_fg num len) (fm_mag num) i) / 10 * 10).toInt32))))] H := hP
            have hD : va_D A [((a 0), .inr (2, [.ref (a 1), .ref (a 2), .ref (a 3), .ref (a 4), .ref (a 5), .ref (a 6), .ref (a 7), .int am, .int ti, .int ah])), ((a 1), .inl (cI, 6, .inl (upd (fm_pa (fm_fg num len) len (fm_mag num) last sg i) (last - i) (((fm_pr (fm_fg num len) (fm_mag num) i) - (fm_pr (fm_fg num len) (fm_mag num) i) / 10 * 10).toInt32))))] := hD
            refine lv_lload hx hb dX2_putNumber_57 (lv_at hl 6 rfl) ?_
            refine lv_ldc2 (v := 10) hx hb hown (hts (.constantLong RX2 62 10) (by decide +kernel)) dX2_putNumber_59 ?_
            refine lv_ldiv hx hb dX2_putNumber_62 (by decide) ?_
            refine lv_lstore (lv' := [(6, .long ((fm_pr (fm_fg num len) (fm_mag num) i) / 10)), (9, .int (nI i)), (0, .ref (a 0)), (1, .int (nI first)), (2, .int (nI last)), (4, .int len), (5, .int (fm_fg num len)), (8, .int x8)]) hx hb dX2_putNumber_63 hl (by decide) rfl (fun lz hl => ?_)
            refine lv_goto (tgt := 89) hx hb dX2_putNumber_65 (by decide) ?_
            refine lv_iinc (v := (x8 + (-1))) (lv' := [(8, .int (x8 + (-1))), (6, .long ((fm_pr (fm_fg num len) (fm_mag num) i) / 10)), (9, .int (nI i)), (0, .ref (a 0)), (1, .int (nI first)), (2, .int (nI last)), (4, .int len), (5, .int (fm_fg num len))]) hx hb dX2_putNumber_89 hl (k := 7) rfl rfl (by decide) rfl (fun lz hl => ?_)
            refine lv_goto (tgt := 24) hx hb dX2_putNumber_92 (by decide) ?_
            exact ih24 (i + 1) hx8.1 (by omega) ((fm_pr (fm_fg num len) (fm_mag num) i) / 10) (x8 + (-1)) (upd (fm_pa (fm_fg num len) len (fm_mag num) last sg i) (last - i) (((fm_pr (fm_fg num len) (fm_mag num) i) - (fm_pr (fm_fg num len) (fm_mag num) i) / 10 * 10).toInt32)) (by simp only [fm_pr, if_neg q27, if_neg q40]) (by rw [e_x8, hx8.2, show last + 1 - (i + 1) = last - i by omega]; exact (Int32.sub_eq_add_neg _ _).symm) (by show _ = upd _ (last - i) (fm_pv _ _ _ i); simp only [fm_pv, if_neg q27, if_neg q40])  H locs hP hD hS lz (lv_sub hl [3, 4, 5, 6, 7, 1, 0] rfl)
    exact L24 ((last + 1 - first) + 1) 0 (by omega) (by omega) (fm_mag num) (nI last) sg rfl (nI_pred last).symm rfl  H locs hP hD hS lz (lv_sub hl [3, 4, 5, 7, 2, 1, 0] rfl)
  refine lv_iload_n hx hb dX2_putNumber_0 rfl (lv_at hl 3 rfl) ?_
  refine lv_if_ge (tgt := 11) hx hb dX2_putNumber_1 (by decide) (fun q1 => ?_) (fun q1 => ?_)
  · refine lv_iload hx hb dX2_putNumber_11 (lv_at hl 4 rfl) ?_
    exact J13 len (by simp only [fm_fg, if_pos q1]) s.heap [] hP hD hS lz (lv_sub hl [0, 1, 2, 3, 4] rfl)
  · refine lv_iload hx hb dX2_putNumber_4 (lv_at hl 4 rfl) ?_
    refine lv_iconst (v := 1) hx hb dX2_putNumber_6 (by decide) ?_
    refine lv_isub hx hb dX2_putNumber_7 ?_
    refine lv_goto (tgt := 13) hx hb dX2_putNumber_8 (by decide) ?_
    exact J13 (len - 1) (by simp only [fm_fg, if_neg q1]) s.heap [] hP hD hS lz (lv_sub hl [0, 1, 2, 3, 4] rfl)


