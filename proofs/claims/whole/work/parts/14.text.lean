/-! The text: a step of the scan, and the scan. -/
def tx_so (c : Int32) : Int32 := if c < 48 then (if c = 45 then 10 else if c = 95 then 11 else -1) else if 57 < c then (if c = 45 then 10 else if c = 95 then 11 else -1) else c - 48
def tx_tl (pa : Nat) (x : Int32) (lv : Nat → Int32) : Nat → Int32 := if nI pa ≤ 0 then lv else upd lv (pa - 1) x
/-- a level's first figure -/
def tx_lr (c : Int32) : Int32 := if c < 48 then 0 else if c ≤ 57 then 1 else 0
def tx_ll (c : Int32) (pa : Nat) (lv : Nat → Int32) : Nat → Int32 := if c < 48 then lv else if c ≤ 57 then tx_tl pa (c - 48) lv else lv
def tx_lp (c pl : Int32) : Int32 := if c < 48 then pl else if c ≤ 57 then (if c = 49 then 3 else 4) else pl
/-- a sign -/
def tx_sr (c : Int32) (pa : Nat) : Int32 := if tx_so c = -1 then 0 else if nI pa < 6 then 1 else 0
def tx_sa (c : Int32) (pa : Nat) : Nat := if tx_so c = -1 then pa else if nI pa < 6 then pa + 1 else pa
def tx_sp (c : Int32) (pa : Nat) (pl : Int32) : Int32 := if tx_so c = -1 then pl else if nI pa < 6 then 1 else pl
def tx_ss (c : Int32) (pa : Nat) (sg : Nat → Int32) : Nat → Int32 := if tx_so c = -1 then sg else if nI pa < 6 then upd sg pa (tx_so c) else sg
def tx_sl (c : Int32) (pa : Nat) (lv : Nat → Int32) : Nat → Int32 := if tx_so c = -1 then lv else if nI pa < 6 then upd lv pa (-1) else lv
/-- by where the scan is -/
def tx_by {α : Type} (c pl : Int32) (lev two star sgn : α) : α := if pl = 2 then lev else if pl = 3 then (if c < 48 then (if pl = 1 then (if c = 42 then star else sgn) else sgn) else if 53 < c then (if pl = 1 then (if c = 42 then star else sgn) else sgn) else two) else if pl = 1 then (if c = 42 then star else sgn) else sgn
def tx_r (c : Int32) (pa : Nat) (pl : Int32) : Int32 := tx_by c pl (tx_lr c) 1 1 (tx_sr c pa)
def tx_a (c : Int32) (pa : Nat) (pl : Int32) : Nat := tx_by c pl pa pa pa (tx_sa c pa)
def tx_p (c : Int32) (pa : Nat) (pl : Int32) : Int32 := tx_by c pl (tx_lp c pl) 4 2 (tx_sp c pa pl)
def tx_s (c : Int32) (pa : Nat) (pl : Int32) (sg : Nat → Int32) : Nat → Int32 := tx_by c pl sg sg sg (tx_ss c pa sg)
def tx_l (c : Int32) (pa : Nat) (pl : Int32) (lv : Nat → Int32) : Nat → Int32 := tx_by c pl (tx_ll c pa lv) (tx_tl pa (10 + c - 48) lv) lv (tx_sl c pa lv)
/-- the scan behind k characters: parts, place -/
def sc_ap (co : Nat → Int32) : Nat → Nat × Int32
  | 0 => (0, 0)
  | k + 1 => (tx_a (co k) (sc_ap co k).1 (sc_ap co k).2, tx_p (co k) (sc_ap co k).1 (sc_ap co k).2)
def sc_s (co sg : Nat → Int32) : Nat → (Nat → Int32)
  | 0 => sg
  | k + 1 => tx_s (co k) (sc_ap co k).1 (sc_ap co k).2 (sc_s co sg k)
def sc_l (co lv : Nat → Int32) : Nat → (Nat → Int32)
  | 0 => lv
  | k + 1 => tx_l (co k) (sc_ap co k).1 (sc_ap co k).2 (sc_l co lv k)
/-- where it stops -/
def sc_to (co : Nat → Int32) : Nat → Nat → Nat
  | 0, i => i
  | f + 1, i => if tx_r (co i) (sc_ap co i).1 (sc_ap co i).2 = 0 then i else sc_to co f (i + 1)
theorem tx_sa_in {c : Int32} {pa : Nat} (h : pa ≤ 6) : tx_sa c pa ≤ 6 := by
  unfold tx_sa
  split
  · exact h
  · split
    · rename_i q
      have := (nI_ltI (a := pa) (b := 6) (by omega) (by decide)).mp q
      omega
    · exact h
theorem tx_a_in {c pl : Int32} {pa : Nat} (h : pa ≤ 6) : tx_a c pa pl ≤ 6 := by
  unfold tx_a tx_by
  have := tx_sa_in (c := c) h
  repeat' split
  all_goals assumption
theorem sc_in (co : Nat → Int32) : ∀ k, (sc_ap co k).1 ≤ 6
  | 0 => Nat.zero_le 6
  | k + 1 => tx_a_in (sc_in co k)
theorem sc_to_s {co : Nat → Int32} {len i : Nat} (h : i < len) : sc_to co (len - i) i = if tx_r (co i) (sc_ap co i).1 (sc_ap co i).2 = 0 then i else sc_to co (len - (i + 1)) (i + 1) := by
  rw [show len - i = (len - (i + 1)) + 1 by omega]
  rfl
/-- a step that fails changes nothing -/
theorem tx_no {c pl : Int32} {pa : Nat} (h : tx_r c pa pl = 0) : tx_a c pa pl = pa ∧ tx_p c pa pl = pl ∧ (∀ sg, tx_s c pa pl sg = sg) ∧ ∀ lv, tx_l c pa pl lv = lv := by
  have hl : tx_lr c = 0 → tx_lp c pl = pl ∧ ∀ lv, tx_ll c pa lv = lv := by
    unfold tx_lr tx_lp tx_ll
    split
    · exact fun _ => ⟨rfl, fun _ => rfl⟩
    · split
      · exact fun h => absurd h (by decide)
      · exact fun _ => ⟨rfl, fun _ => rfl⟩
  have hs : tx_sr c pa = 0 → tx_sa c pa = pa ∧ tx_sp c pa pl = pl ∧ (∀ sg, tx_ss c pa sg = sg) ∧ ∀ lv, tx_sl c pa lv = lv := by
    unfold tx_sr tx_sa tx_sp tx_ss tx_sl
    split
    · exact fun _ => ⟨rfl, rfl, fun _ => rfl, fun _ => rfl⟩
    · split
      · exact fun h => absurd h (by decide)
      · exact fun _ => ⟨rfl, rfl, fun _ => rfl, fun _ => rfl⟩
  have key : ∀ x : Fin 4, (x = 0 ∧ ∀ (α : Type) (a b d e : α), tx_by c pl a b d e = a) ∨ (∀ (α : Type) (a b d e : α), tx_by c pl a b d e = b) ∨ (∀ (α : Type) (a b d e : α), tx_by c pl a b d e = d) ∨ (∀ (α : Type) (a b d e : α), tx_by c pl a b d e = e) ∨ x ≠ 0 := by
    intro x
    unfold tx_by
    by_cases h0 : x = 0
    · subst h0
      repeat' split
      all_goals first | exact Or.inl ⟨rfl, fun _ _ _ _ _ => rfl⟩ | exact Or.inr (Or.inl fun _ _ _ _ _ => rfl) | exact Or.inr (Or.inr (Or.inl fun _ _ _ _ _ => rfl)) | exact Or.inr (Or.inr (Or.inr (Or.inl fun _ _ _ _ _ => rfl)))
    · exact Or.inr (Or.inr (Or.inr (Or.inr h0)))
  unfold tx_r at h
  unfold tx_a tx_p tx_s tx_l
  rcases key 0 with ⟨-, k⟩ | k | k | k | k
  · rw [k] at h
    simp only [k]
    exact ⟨trivial, (hl h).1, fun _ => trivial, (hl h).2⟩
  · rw [k] at h
    exact absurd h (by decide)
  · rw [k] at h
    exact absurd h (by decide)
  · rw [k] at h
    simp only [k]
    exact hs h
  · exact absurd rfl k
def tx_wh (pl : Int32) : Int32 := if pl = 0 then 0 else if pl = 2 then 0 else 1

set_option maxHeartbeats 4000000 in
set_option maxRecDepth 100000 in
theorem c_X3_signOf (l : Launch) (dC : Nat → ClassId) (dI : Nat → Nat → Nat) (cI cS cJ : ClassId) (tt : Nat → Nat) (c0 : Int32) : Met l yX3_signOf wsX3_signOf ({ frames := 0, cells := 0, slots := 0, locals := 0 } : Room) (va_Pc [.int c0] (xm_R (dC, dI) cI cS cJ tt [] (True))) (k2_QcV (.int (tx_so c0))) 0 0 (fun _ => False) := by
  refine Met.ofW (cc := cX3_signOf) (maxL := 1) (ret := (some .int)) (by decide) rfl ?_
  intro p e s m args below meth c s₁ B hml hv
  obtain ⟨rfl, hP, hE, hpre⟩ := hv
  have hx := B.exec
  have hb := B.bytes
  have hr := B.returns
  have hts := atoms_spec (ws := wsX3_signOf) B.pre
  have hown : s.vm.findClass RX3 = some m.cls := findClass_of_methodNamed B.named
  have hlocks := B.notSynchronized
  have hK := hE.1
  have hS : va_S (fun _ => False) s.heap s.heap [] := va_S.rf
  have hP : va_P (dC, dI) vwCl [] s.heap := hP
  have hl := lv_entry [.int c0] (n := 1) (Nat.le_of_ble_eq_true rfl)
  rw [lg_entry_eq]
  generalize (lg_sl [.int c0] ++ List.replicate (1 - (lg_sl [.int c0]).length) Slot.unset).toArray = lz at hl ⊢
  have hl : lv_has lz 1 [(0, .int c0)] := hl
  refine lv_iload_n hx hb dX3_signOf_0 rfl (lv_at hl 0 rfl) ?_
  refine lv_bipush (v := 48) hx hb dX3_signOf_1 (by decide) ?_
  refine lv_icmp_lt (tgt := 17) hx hb dX3_signOf_3 (by decide) (fun q3 => ?_) (fun q3 => ?_)
  · refine lv_iload_n hx hb dX3_signOf_17 rfl (lv_at hl 0 rfl) ?_
    refine lv_bipush (v := 45) hx hb dX3_signOf_18 (by decide) ?_
    refine lv_icmp_ne (tgt := 26) hx hb dX3_signOf_20 (by decide) (fun q20 => ?_) (fun q20 => ?_)
    · refine lv_iload_n hx hb dX3_signOf_26 rfl (lv_at hl 0 rfl) ?_
      refine lv_bipush (v := 95) hx hb dX3_signOf_27 (by decide) ?_
      refine lv_icmp_ne (tgt := 37) hx hb dX3_signOf_29 (by decide) (fun q29 => ?_) (fun q29 => ?_)
      · refine lv_iconst (v := (-1)) hx hb dX3_signOf_37 (by decide) ?_
        exact W.iret (v := (-1)) hx hb hr (fun t ht hW => ⟨congrArg (fun z => Outcome.returned (some (Value.int z))) (by simp only [tx_so, if_pos q3, if_neg q20, if_neg q29]), ht⟩) hS.2.2 dX3_signOf_38
      · refine lv_bipush (v := 11) hx hb dX3_signOf_32 (by decide) ?_
        refine lv_goto (tgt := 38) hx hb dX3_signOf_34 (by decide) ?_
        exact W.iret (v := 11) hx hb hr (fun t ht hW => ⟨congrArg (fun z => Outcome.returned (some (Value.int z))) (by simp only [tx_so, if_pos q3, if_neg q20, if_pos q29]), ht⟩) hS.2.2 dX3_signOf_38
    · refine lv_bipush (v := 10) hx hb dX3_signOf_23 (by decide) ?_
      exact W.iret (v := 10) hx hb hr (fun t ht hW => ⟨congrArg (fun z => Outcome.returned (some (Value.int z))) (by simp only [tx_so, if_pos q3, if_pos q20]), ht⟩) hS.2.2 dX3_signOf_25
  · refine lv_iload_n hx hb dX3_signOf_6 rfl (lv_at hl 0 rfl) ?_
    refine lv_bipush (v := 57) hx hb dX3_signOf_7 (by decide) ?_
    refine lv_icmp_gt (tgt := 17) hx hb dX3_signOf_9 (by decide) (fun q9 => ?_) (fun q9 => ?_)
    · refine lv_iload_n hx hb dX3_signOf_17 rfl (lv_at hl 0 rfl) ?_
      refine lv_bipush (v := 45) hx hb dX3_signOf_18 (by decide) ?_
      refine lv_icmp_ne (tgt := 26) hx hb dX3_signOf_20 (by decide) (fun q20 => ?_) (fun q20 => ?_)
      · refine lv_iload_n hx hb dX3_signOf_26 rfl (lv_at hl 0 rfl) ?_
        refine lv_bipush (v := 95) hx hb dX3_signOf_27 (by decide) ?_
        refine lv_icmp_ne (tgt := 37) hx hb dX3_signOf_29 (by decide) (fun q29 => ?_) (fun q29 => ?_)
        · refine lv_iconst (v := (-1)) hx hb dX3_signOf_37 (by decide) ?_
          exact W.iret (v := (-1)) hx hb hr (fun t ht hW => ⟨congrArg (fun z => Outcome.returned (some (Value.int z))) (by simp only [tx_so, if_neg q3, if_pos q9, if_neg q20, if_neg q29]), ht⟩) hS.2.2 dX3_signOf_38
        · refine lv_bipush (v := 11) hx hb dX3_signOf_32 (by decide) ?_
          refine lv_goto (tgt := 38) hx hb dX3_signOf_34 (by decide) ?_
          exact W.iret (v := 11) hx hb hr (fun t ht hW => ⟨congrArg (fun z => Outcome.returned (some (Value.int z))) (by simp only [tx_so, if_neg q3, if_pos q9, if_neg q20, if_pos q29]), ht⟩) hS.2.2 dX3_signOf_38
      · refine lv_bipush (v := 10) hx hb dX3_signOf_23 (by decide) ?_
        exact W.iret (v := 10) hx hb hr (fun t ht hW => ⟨congrArg (fun z => Outcome.returned (some (Value.int z))) (by simp only [tx_so, if_neg q3, if_pos q9, if_pos q20]), ht⟩) hS.2.2 dX3_signOf_25
    · refine lv_iload_n hx hb dX3_signOf_12 rfl (lv_at hl 0 rfl) ?_
      refine lv_bipush (v := 48) hx hb dX3_signOf_13 (by decide) ?_
      refine lv_isub hx hb dX3_signOf_15 ?_
      exact W.iret (v := c0 - 48) hx hb hr (fun t ht hW => ⟨congrArg (fun z => Outcome.returned (some (Value.int z))) (by simp only [tx_so, if_neg q3, if_neg q9]), ht⟩) hS.2.2 dX3_signOf_16

set_option maxHeartbeats 4000000 in
set_option maxRecDepth 100000 in
theorem c_X3_isWhole (l : Launch) (dC : Nat → ClassId) (dI : Nat → Nat → Nat) (cI cS cJ : ClassId) (tt : Nat → Nat) (tx : Nat → Nat) (ln : Int32) (pl : Int32) (pa : Int32) : Met l yX3_isWhole wsX3_isWhole ({ frames := 0, cells := 0, slots := 0, locals := 0 } : Room) (va_Pc [.ref (tx 0)] (xm_R (dC, dI) cI cS cJ tt [((tx 0), .inr (3, [.ref (tx 1), .int ln, .ref (tx 2), .ref (tx 3), .int pa, .int pl]))] (True))) (k2_QcV (.int (tx_wh pl))) 0 0 (fun _ => False) := by
  refine Met.ofW (cc := cX3_isWhole) (maxL := 1) (ret := (some .boolean)) (by decide) rfl ?_
  intro p e s m args below meth c s₁ B hml hv
  obtain ⟨rfl, hP, hE, hpre⟩ := hv
  have hx := B.exec
  have hb := B.bytes
  have hr := B.returns
  have hts := atoms_spec (ws := wsX3_isWhole) B.pre
  have hown : s.vm.findClass RX3 = some m.cls := findClass_of_methodNamed B.named
  have hlocks := B.notSynchronized
  have hK := hE.1
  have hS : va_S (fun _ => False) s.heap s.heap [] := va_S.rf
  have hP : va_P (dC, dI) vwCl [((tx 0), .inr (3, [.ref (tx 1), .int ln, .ref (tx 2), .ref (tx 3), .int pa, .int pl]))] s.heap := hP
  have hin3 : ∀ w ∈ u_ws RX3 TX3 6, w ∈ wsX3_isWhole := by decide +kernel
  have hl := lv_entry [.ref (tx 0)] (n := 1) (Nat.le_of_ble_eq_true rfl)
  rw [lg_entry_eq]
  generalize (lg_sl [.ref (tx 0)] ++ List.replicate (1 - (lg_sl [.ref (tx 0)]).length) Slot.unset).toArray = lz at hl ⊢
  have hl : lv_has lz 1 [(0, .ref (tx 0))] := hl
  refine lv_aload_n hx hb dX3_isWhole_0 rfl (lv_at hl 0 rfl) ?_
  refine va_get (D := (dC, dI)) (ci := 3) (v := .int pl) (C := RX3) (T := TX3) (N := 6) hx hb hts hin3 hown hK hP 0 rfl rfl 5 (by decide) (hts (.fieldLink RX3 28 "TurnDigits$Text" "place" "I") (by decide +kernel)) (fun _ h9 => h9) rfl dX3_isWhole_1 ?_
  refine lv_if_eq (tgt := 19) hx hb dX3_isWhole_4 (by decide) (fun q4 => ?_) (fun q4 => ?_)
  · refine lv_iconst (v := 0) hx hb dX3_isWhole_19 (by decide) ?_
    exact W.zret (v := 0) hx hb hr rfl (fun t ht hW => ⟨congrArg (fun z => Outcome.returned (some (Value.int z))) (by simp only [tx_wh, if_pos q4]), ht⟩) hS.2.2 dX3_isWhole_20
  · refine lv_aload_n hx hb dX3_isWhole_7 rfl (lv_at hl 0 rfl) ?_
    refine va_get (D := (dC, dI)) (ci := 3) (v := .int pl) (C := RX3) (T := TX3) (N := 6) hx hb hts hin3 hown hK hP 0 rfl rfl 5 (by decide) (hts (.fieldLink RX3 28 "TurnDigits$Text" "place" "I") (by decide +kernel)) (fun _ h9 => h9) rfl dX3_isWhole_8 ?_
    refine lv_iconst (v := 2) hx hb dX3_isWhole_11 (by decide) ?_
    refine lv_icmp_eq (tgt := 19) hx hb dX3_isWhole_12 (by decide) (fun q12 => ?_) (fun q12 => ?_)
    · refine lv_iconst (v := 0) hx hb dX3_isWhole_19 (by decide) ?_
      exact W.zret (v := 0) hx hb hr rfl (fun t ht hW => ⟨congrArg (fun z => Outcome.returned (some (Value.int z))) (by simp only [tx_wh, if_neg q4, if_pos q12]), ht⟩) hS.2.2 dX3_isWhole_20
    · refine lv_iconst (v := 1) hx hb dX3_isWhole_15 (by decide) ?_
      refine lv_goto (tgt := 20) hx hb dX3_isWhole_16 (by decide) ?_
      exact W.zret (v := 1) hx hb hr rfl (fun t ht hW => ⟨congrArg (fun z => Outcome.returned (some (Value.int z))) (by simp only [tx_wh, if_neg q4, if_neg q12]), ht⟩) hS.2.2 dX3_isWhole_20

set_option maxHeartbeats 4000000 in
set_option maxRecDepth 100000 in
theorem c_X3_put (l : Launch) (dC : Nat → ClassId) (dI : Nat → Nat → Nat) (cI cS cJ : ClassId) (tt : Nat → Nat) (sz : Nat) (tx : Nat → Nat) (pl : Int32) (pa : Int32) (co : Nat → Int32) (n : Nat) (c0 : Int32) : Met l yX3_put wsX3_put ({ frames := 0, cells := 0, slots := 0, locals := 0 } : Room) (va_Pc [.ref (tx 0), .int c0] (xm_M (dC, dI) cI cS cJ tt [((tx 0), .inr (3, [.ref (tx 1), .int (nI n), .ref (tx 2), .ref (tx 3), .int pa, .int pl])), ((tx 1), .inl (cI, 60, .inl co))] sz (n ≤ 60))) (va_Qi (fun (r : Int32) (u : Int32 × (Nat → Int32)) => r = (if nI n < 60 then 1 else 0) ∧ u.1 = (if nI n < 60 then nI (n + 1) else nI n) ∧ u.2 = (if nI n < 60 then upd co n c0 else co)) (xm_B (dC, dI) (fun (u : Int32 × (Nat → Int32)) => [((tx 0), .inr (3, [.ref (tx 1), .int u.1, .ref (tx 2), .ref (tx 3), .int pa, .int pl])), ((tx 1), .inl (cI, 60, .inl u.2))]) (va_A [((tx 0), .inr (3, [.ref (tx 1), .int (nI n), .ref (tx 2), .ref (tx 3), .int pa, .int pl])), ((tx 1), .inl (cI, 60, .inl co))] sz)) (va_A [((tx 0), .inr (3, [.ref (tx 1), .int (nI n), .ref (tx 2), .ref (tx 3), .int pa, .int pl])), ((tx 1), .inl (cI, 60, .inl co))] sz)) 0 0 (va_A [((tx 0), .inr (3, [.ref (tx 1), .int (nI n), .ref (tx 2), .ref (tx 3), .int pa, .int pl])), ((tx 1), .inl (cI, 60, .inl co))] sz) := by
  refine Met.ofW (cc := cX3_put) (maxL := 2) (ret := (some .boolean)) (by decide) rfl ?_
  intro p e s m args below meth c s₁ B hml hv
  obtain ⟨rfl, hsz, hP, hE, hD0, hpre⟩ := hv
  have hx := B.exec
  have hb := B.bytes
  have hr := B.returns
  have hts := atoms_spec (ws := wsX3_put) B.pre
  have hown : s.vm.findClass RX3 = some m.cls := findClass_of_methodNamed B.named
  have hlocks := B.notSynchronized
  have hK := hE.1
  subst hsz
  have hD := hD0.self (sz := s.heap.size)
  generalize hAe : va_A [((tx 0), .inr (3, [.ref (tx 1), .int (nI n), .ref (tx 2), .ref (tx 3), .int pa, .int pl])), ((tx 1), .inl (cI, 60, .inl co))] s.heap.size = A at hD hE ⊢
  have hA : ∀ q : Nat, s.heap.size ≤ q → A q := fun q h => by rw [← hAe]; exact Or.inr h
  have hS : va_S A s.heap s.heap [] := va_S.rf
  have hP : va_P (dC, dI) vwCl [((tx 0), .inr (3, [.ref (tx 1), .int (nI n), .ref (tx 2), .ref (tx 3), .int pa, .int pl])), ((tx 1), .inl (cI, 60, .inl co))] s.heap := hP
  have hin3 : ∀ w ∈ u_ws RX3 TX3 6, w ∈ wsX3_put := by decide +kernel
  have hl := lv_entry [.ref (tx 0), .int c0] (n := 2) (Nat.le_of_ble_eq_true rfl)
  rw [lg_entry_eq]
  generalize (lg_sl [.ref (tx 0), .int c0] ++ List.replicate (2 - (lg_sl [.ref (tx 0), .int c0]).length) Slot.unset).toArray = lz at hl ⊢
  have hl : lv_has lz 2 [(0, .ref (tx 0)), (1, .int c0)] := hl
  refine lv_aload_n hx hb dX3_put_0 rfl (lv_at hl 0 rfl) ?_
  refine va_get (D := (dC, dI)) (ci := 3) (v := .int (nI n)) (C := RX3) (T := TX3) (N := 6) hx hb hts hin3 hown hK hP 0 rfl rfl 1 (by decide) (hts (.fieldLink RX3 15 "TurnDigits$Text" "length" "I") (by decide +kernel)) (fun _ h9 => h9) rfl dX3_put_1 ?_
  refine lv_bipush (v := 60) hx hb dX3_put_4 (by decide) ?_
  refine lv_icmp_lt (tgt := 11) hx hb dX3_put_6 (by decide) (fun q6 => ?_) (fun q6 => ?_)
  · have hn : n < 60 := (nI_ltI (a := n) (b := 60) (by omega) (by decide)).mp q6
    refine lv_aload_n hx hb dX3_put_11 rfl (lv_at hl 0 rfl) ?_
    refine va_get (D := (dC, dI)) (ci := 3) (v := .ref (tx 1)) (C := RX3) (T := TX3) (N := 6) hx hb hts hin3 hown hK hP 0 rfl rfl 0 (by decide) (hts (.fieldLink RX3 9 "TurnDigits$Text" "codes" "[I") (by decide +kernel)) (fun _ h9 => h9) rfl dX3_put_12 ?_
    refine lv_aload_n hx hb dX3_put_15 rfl (lv_at hl 0 rfl) ?_
    refine va_get (D := (dC, dI)) (ci := 3) (v := .int (nI n)) (C := RX3) (T := TX3) (N := 6) hx hb hts hin3 hown hK hP 0 rfl rfl 1 (by decide) (hts (.fieldLink RX3 15 "TurnDigits$Text" "length" "I") (by decide +kernel)) (fun _ h9 => h9) rfl dX3_put_16 ?_
    refine lv_iload_n hx hb dX3_put_19 rfl (lv_at hl 1 rfl) ?_
    refine xm_iast (D := (dC, dI)) hx hb hK hP hD hS 1 0 n rfl rfl (by decide) rfl (by omega) dX3_put_20 (fun H locs hP hD hS => ?_)
    have hP : va_P (dC, dI) vwCl [((tx 0), .inr (3, [.ref (tx 1), .int (nI n), .ref (tx 2), .ref (tx 3), .int pa, .int pl])), ((tx 1), .inl (cI, 60, .inl (upd co n c0)))] H := hP
    have hD : va_D A [((tx 0), .inr (3, [.ref (tx 1), .int (nI n), .ref (tx 2), .ref (tx 3), .int pa, .int pl])), ((tx 1), .inl (cI, 60, .inl (upd co n c0)))] := hD
    refine lv_aload_n hx hb dX3_put_21 rfl (lv_at hl 0 rfl) ?_
    refine lv_dup hx hb dX3_put_22 rfl ?_
    refine va_get (D := (dC, dI)) (ci := 3) (v := .int (nI n)) (C := RX3) (T := TX3) (N := 6) hx hb hts hin3 hown hK hP 0 rfl rfl 1 (by decide) (hts (.fieldLink RX3 15 "TurnDigits$Text" "length" "I") (by decide +kernel)) (fun _ h9 => h9) rfl dX3_put_23 ?_
    refine lv_iconst (v := 1) hx hb dX3_put_26 (by decide) ?_
    refine lv_iadd hx hb dX3_put_27 ?_
    refine xm_topi (y := (nI (n + 1))) (nI_1 n) ?_
    refine va_put (D := (dC, dI)) (ci := 3) (v := .int (nI (n + 1))) (ty := .int) (C := RX3) (T := TX3) (N := 6) hx hb hts hin3 tyX3 tyX3_ok nmX3 hown hK hP hD hS 0 rfl rfl 1 (by decide) (hts (.fieldLink RX3 15 "TurnDigits$Text" "length" "I") (by decide +kernel)) (fun _ h9 => h9) rfl (by decide +kernel) rfl rfl (Nat.le_of_ble_eq_true rfl) dX3_put_28 (fun H locs hP hD hS => ?_)
    have hP : va_P (dC, dI) vwCl [((tx 0), .inr (3, [.ref (tx 1), .int (nI (n + 1)), .ref (tx 2), .ref (tx 3), .int pa, .int pl])), ((tx 1), .inl (cI, 60, .inl (upd co n c0)))] H := hP
    have hD : va_D A [((tx 0), .inr (3, [.ref (tx 1), .int (nI (n + 1)), .ref (tx 2), .ref (tx 3), .int pa, .int pl])), ((tx 1), .inl (cI, 60, .inl (upd co n c0)))] := hD
    refine lv_iconst (v := 1) hx hb dX3_put_31 (by decide) ?_
    have hP9 : va_P (dC, dI) vwCl [((tx 0), .inr (3, [.ref (tx 1), .int (nI (n + 1)), .ref (tx 2), .ref (tx 3), .int pa, .int pl])), ((tx 1), .inl (cI, 60, .inl (upd co n c0)))] H := hP
    have hD9 : va_D A [((tx 0), .inr (3, [.ref (tx 1), .int (nI (n + 1)), .ref (tx 2), .ref (tx 3), .int pa, .int pl])), ((tx 1), .inl (cI, 60, .inl (upd co n c0)))] := hD
    exact W.zret (v := 1) hx hb hr rfl (fun t ht hW => ⟨⟨1, (nI (n + 1), upd co n c0), rfl, ⟨(by simp only [if_pos q6]), (by simp only [if_pos q6]), (by simp only [if_pos q6])⟩, by rw [ht]; exact hP9, hD9⟩, hS.F ht⟩) hS.2.2 dX3_put_32
  · refine lv_iconst (v := 0) hx hb dX3_put_9 (by decide) ?_
    have hP9 : va_P (dC, dI) vwCl [((tx 0), .inr (3, [.ref (tx 1), .int (nI n), .ref (tx 2), .ref (tx 3), .int pa, .int pl])), ((tx 1), .inl (cI, 60, .inl co))] s.heap := hP
    have hD9 : va_D A [((tx 0), .inr (3, [.ref (tx 1), .int (nI n), .ref (tx 2), .ref (tx 3), .int pa, .int pl])), ((tx 1), .inl (cI, 60, .inl co))] := hD
    exact W.zret (v := 0) hx hb hr rfl (fun t ht hW => ⟨⟨0, (nI n, co), rfl, ⟨(by simp only [if_neg q6]), (by simp only [if_neg q6]), (by simp only [if_neg q6])⟩, by rw [ht]; exact hP9, hD9⟩, hS.F ht⟩) hS.2.2 dX3_put_10

set_option maxHeartbeats 4000000 in
set_option maxRecDepth 100000 in
theorem c_X3_tellLevel (l : Launch) (dC : Nat → ClassId) (dI : Nat → Nat → Nat) (cI cS cJ : ClassId) (tt : Nat → Nat) (sz : Nat) (tx : Nat → Nat) (ln : Int32) (pl : Int32) (lv : Nat → Int32) (pa : Nat) (x : Int32) : Met l yX3_tellLevel wsX3_tellLevel ({ frames := 0, cells := 0, slots := 0, locals := 0 } : Room) (va_Pc [.ref (tx 0), .int x] (xm_M (dC, dI) cI cS cJ tt [((tx 0), .inr (3, [.ref (tx 1), .int ln, .ref (tx 2), .ref (tx 3), .int (nI pa), .int pl])), ((tx 3), .inl (cI, 6, .inl lv))] sz (pa ≤ 6))) (va_Qv (fun (u : (Nat → Int32)) => u = tx_tl pa x lv) (xm_B (dC, dI) (fun (u : (Nat → Int32)) => [((tx 0), .inr (3, [.ref (tx 1), .int ln, .ref (tx 2), .ref (tx 3), .int (nI pa), .int pl])), ((tx 3), .inl (cI, 6, .inl u))]) (va_A [((tx 0), .inr (3, [.ref (tx 1), .int ln, .ref (tx 2), .ref (tx 3), .int (nI pa), .int pl])), ((tx 3), .inl (cI, 6, .inl lv))] sz)) (va_A [((tx 0), .inr (3, [.ref (tx 1), .int ln, .ref (tx 2), .ref (tx 3), .int (nI pa), .int pl])), ((tx 3), .inl (cI, 6, .inl lv))] sz)) 0 0 (va_A [((tx 0), .inr (3, [.ref (tx 1), .int ln, .ref (tx 2), .ref (tx 3), .int (nI pa), .int pl])), ((tx 3), .inl (cI, 6, .inl lv))] sz) := by
  refine Met.ofW (cc := cX3_tellLevel) (maxL := 2) (ret := none) (by decide) rfl ?_
  intro p e s m args below meth c s₁ B hml hv
  obtain ⟨rfl, hsz, hP, hE, hD0, hpre⟩ := hv
  have hx := B.exec
  have hb := B.bytes
  have hr := B.returns
  have hts := atoms_spec (ws := wsX3_tellLevel) B.pre
  have hown : s.vm.findClass RX3 = some m.cls := findClass_of_methodNamed B.named
  have hlocks := B.notSynchronized
  have hK := hE.1
  subst hsz
  have hD := hD0.self (sz := s.heap.size)
  generalize hAe : va_A [((tx 0), .inr (3, [.ref (tx 1), .int ln, .ref (tx 2), .ref (tx 3), .int (nI pa), .int pl])), ((tx 3), .inl (cI, 6, .inl lv))] s.heap.size = A at hD hE ⊢
  have hA : ∀ q : Nat, s.heap.size ≤ q → A q := fun q h => by rw [← hAe]; exact Or.inr h
  have hS : va_S A s.heap s.heap [] := va_S.rf
  have hP : va_P (dC, dI) vwCl [((tx 0), .inr (3, [.ref (tx 1), .int ln, .ref (tx 2), .ref (tx 3), .int (nI pa), .int pl])), ((tx 3), .inl (cI, 6, .inl lv))] s.heap := hP
  have hin3 : ∀ w ∈ u_ws RX3 TX3 6, w ∈ wsX3_tellLevel := by decide +kernel
  have hl := lv_entry [.ref (tx 0), .int x] (n := 2) (Nat.le_of_ble_eq_true rfl)
  rw [lg_entry_eq]
  generalize (lg_sl [.ref (tx 0), .int x] ++ List.replicate (2 - (lg_sl [.ref (tx 0), .int x]).length) Slot.unset).toArray = lz at hl ⊢
  have hl : lv_has lz 2 [(0, .ref (tx 0)), (1, .int x)] := hl
  refine lv_aload_n hx hb dX3_tellLevel_0 rfl (lv_at hl 0 rfl) ?_
  refine va_get (D := (dC, dI)) (ci := 3) (v := .int (nI pa)) (C := RX3) (T := TX3) (N := 6) hx hb hts hin3 hown hK hP 0 rfl rfl 4 (by decide) (hts (.fieldLink RX3 25 "TurnDigits$Text" "parts" "I") (by decide +kernel)) (fun _ h9 => h9) rfl dX3_tellLevel_1 ?_
  refine lv_if_le (tgt := 28) hx hb dX3_tellLevel_4 (by decide) (fun q4 => ?_) (fun q4 => ?_)
  · have hP9 : va_P (dC, dI) vwCl [((tx 0), .inr (3, [.ref (tx 1), .int ln, .ref (tx 2), .ref (tx 3), .int (nI pa), .int pl])), ((tx 3), .inl (cI, 6, .inl lv))] s.heap := hP
    have hD9 : va_D A [((tx 0), .inr (3, [.ref (tx 1), .int ln, .ref (tx 2), .ref (tx 3), .int (nI pa), .int pl])), ((tx 3), .inl (cI, 6, .inl lv))] := hD
    exact W.vret hx hb hr (fun t ht hW => ⟨⟨lv, rfl, (by simp only [tx_tl, if_pos q4]), by rw [ht]; exact hP9, hD9⟩, hS.F ht⟩) hS.2.2 dX3_tellLevel_28
  · have hp : 0 < pa := Nat.pos_of_ne_zero (fun h => q4 (by rw [h]; decide))
    refine lv_aload_n hx hb dX3_tellLevel_7 rfl (lv_at hl 0 rfl) ?_
    refine va_get (D := (dC, dI)) (ci := 3) (v := .int (nI pa)) (C := RX3) (T := TX3) (N := 6) hx hb hts hin3 hown hK hP 0 rfl rfl 4 (by decide) (hts (.fieldLink RX3 25 "TurnDigits$Text" "parts" "I") (by decide +kernel)) (fun _ h9 => h9) rfl dX3_tellLevel_8 ?_
    refine lv_bipush (v := 6) hx hb dX3_tellLevel_11 (by decide) ?_
    refine lv_icmp_gt (tgt := 28) hx hb dX3_tellLevel_13 (by decide) (fun q13 => absurd q13 (nI_nlt (a := 6) (b := pa) (by omega) (by decide))) (fun q13 => ?_)
    refine lv_aload_n hx hb dX3_tellLevel_16 rfl (lv_at hl 0 rfl) ?_
    refine va_get (D := (dC, dI)) (ci := 3) (v := .ref (tx 3)) (C := RX3) (T := TX3) (N := 6) hx hb hts hin3 hown hK hP 0 rfl rfl 3 (by decide) (hts (.fieldLink RX3 22 "TurnDigits$Text" "levels" "[I") (by decide +kernel)) (fun _ h9 => h9) rfl dX3_tellLevel_17 ?_
    refine lv_aload_n hx hb dX3_tellLevel_20 rfl (lv_at hl 0 rfl) ?_
    refine va_get (D := (dC, dI)) (ci := 3) (v := .int (nI pa)) (C := RX3) (T := TX3) (N := 6) hx hb hts hin3 hown hK hP 0 rfl rfl 4 (by decide) (hts (.fieldLink RX3 25 "TurnDigits$Text" "parts" "I") (by decide +kernel)) (fun _ h9 => h9) rfl dX3_tellLevel_21 ?_
    refine lv_iconst (v := 1) hx hb dX3_tellLevel_24 (by decide) ?_
    refine lv_isub hx hb dX3_tellLevel_25 ?_
    refine lv_iload_n hx hb dX3_tellLevel_26 rfl (lv_at hl 1 rfl) ?_
    refine xm_iast (D := (dC, dI)) hx hb hK hP hD hS 1 0 (pa - 1) rfl rfl (by decide) (pk_sub (a := pa) (b := 1) (by omega)) (by omega) dX3_tellLevel_27 (fun H locs hP hD hS => ?_)
    have hP : va_P (dC, dI) vwCl [((tx 0), .inr (3, [.ref (tx 1), .int ln, .ref (tx 2), .ref (tx 3), .int (nI pa), .int pl])), ((tx 3), .inl (cI, 6, .inl (upd lv (pa - 1) x)))] H := hP
    have hD : va_D A [((tx 0), .inr (3, [.ref (tx 1), .int ln, .ref (tx 2), .ref (tx 3), .int (nI pa), .int pl])), ((tx 3), .inl (cI, 6, .inl (upd lv (pa - 1) x)))] := hD
    have hP9 : va_P (dC, dI) vwCl [((tx 0), .inr (3, [.ref (tx 1), .int ln, .ref (tx 2), .ref (tx 3), .int (nI pa), .int pl])), ((tx 3), .inl (cI, 6, .inl (upd lv (pa - 1) x)))] H := hP
    have hD9 : va_D A [((tx 0), .inr (3, [.ref (tx 1), .int ln, .ref (tx 2), .ref (tx 3), .int (nI pa), .int pl])), ((tx 3), .inl (cI, 6, .inl (upd lv (pa - 1) x)))] := hD
    exact W.vret hx hb hr (fun t ht hW => ⟨⟨upd lv (pa - 1) x, rfl, (by simp only [tx_tl, if_neg q4, if_neg q13]), by rw [ht]; exact hP9, hD9⟩, hS.F ht⟩) hS.2.2 dX3_tellLevel_28

set_option maxHeartbeats 4000000 in
set_option maxRecDepth 100000 in
theorem c_X3_takesLevel (l : Launch) (dC : Nat → ClassId) (dI : Nat → Nat → Nat) (cI cS cJ : ClassId) (tt : Nat → Nat) (sz : Nat) (tx : Nat → Nat) (ln : Int32) (pl : Int32) (lv : Nat → Int32) (pa : Nat) (c0 : Int32) : Met l yX3_takesLevel wsX3_takesLevel ({ frames := 1, cells := 0, slots := 0, locals := 21 } : Room) (va_Pc [.ref (tx 0), .int c0] (xm_M (dC, dI) cI cS cJ tt [((tx 0), .inr (3, [.ref (tx 1), .int ln, .ref (tx 2), .ref (tx 3), .int (nI pa), .int pl])), ((tx 3), .inl (cI, 6, .inl lv))] sz (pa ≤ 6))) (va_Qi (fun (r : Int32) (u : Int32 × (Nat → Int32)) => r = tx_lr c0 ∧ u.1 = tx_lp c0 pl ∧ u.2 = tx_ll c0 pa lv) (xm_B (dC, dI) (fun (u : Int32 × (Nat → Int32)) => [((tx 0), .inr (3, [.ref (tx 1), .int ln, .ref (tx 2), .ref (tx 3), .int (nI pa), .int u.1])), ((tx 3), .inl (cI, 6, .inl u.2))]) (va_A [((tx 0), .inr (3, [.ref (tx 1), .int ln, .ref (tx 2), .ref (tx 3), .int (nI pa), .int pl])), ((tx 3), .inl (cI, 6, .inl lv))] sz)) (va_A [((tx 0), .inr (3, [.ref (tx 1), .int ln, .ref (tx 2), .ref (tx 3), .int (nI pa), .int pl])), ((tx 3), .inl (cI, 6, .inl lv))] sz)) 0 0 (va_A [((tx 0), .inr (3, [.ref (tx 1), .int ln, .ref (tx 2), .ref (tx 3), .int (nI pa), .int pl])), ((tx 3), .inl (cI, 6, .inl lv))] sz) := by
  refine Met.ofW (cc := cX3_takesLevel) (maxL := 2) (ret := (some .boolean)) (by decide) rfl ?_
  intro p e s m args below meth c s₁ B hml hv
  obtain ⟨rfl, hsz, hP, hE, hD0, hpre⟩ := hv
  have hx := B.exec
  have hb := B.bytes
  have hr := B.returns
  have hts := atoms_spec (ws := wsX3_takesLevel) B.pre
  have hown : s.vm.findClass RX3 = some m.cls := findClass_of_methodNamed B.named
  have hlocks := B.notSynchronized
  have hK := hE.1
  subst hsz
  have hD := hD0.self (sz := s.heap.size)
  generalize hAe : va_A [((tx 0), .inr (3, [.ref (tx 1), .int ln, .ref (tx 2), .ref (tx 3), .int (nI pa), .int pl])), ((tx 3), .inl (cI, 6, .inl lv))] s.heap.size = A at hD hE ⊢
  have hA : ∀ q : Nat, s.heap.size ≤ q → A q := fun q h => by rw [← hAe]; exact Or.inr h
  have hS : va_S A s.heap s.heap [] := va_S.rf
  have hP : va_P (dC, dI) vwCl [((tx 0), .inr (3, [.ref (tx 1), .int ln, .ref (tx 2), .ref (tx 3), .int (nI pa), .int pl])), ((tx 3), .inl (cI, 6, .inl lv))] s.heap := hP
  have hin3 : ∀ w ∈ u_ws RX3 TX3 6, w ∈ wsX3_takesLevel := by decide +kernel
  have hl := lv_entry [.ref (tx 0), .int c0] (n := 2) (Nat.le_of_ble_eq_true rfl)
  rw [lg_entry_eq]
  generalize (lg_sl [.ref (tx 0), .int c0] ++ List.replicate (2 - (lg_sl [.ref (tx 0), .int c0]).length) Slot.unset).toArray = lz at hl ⊢
  have hl : lv_has lz 2 [(0, .ref (tx 0)), (1, .int c0)] := hl
  refine lv_iload_n hx hb dX3_takesLevel_0 rfl (lv_at hl 1 rfl) ?_
  refine lv_bipush (v := 48) hx hb dX3_takesLevel_1 (by decide) ?_
  refine lv_icmp_lt (tgt := 12) hx hb dX3_takesLevel_3 (by decide) (fun q3 => ?_) (fun q3 => ?_)
  · refine lv_iconst (v := 0) hx hb dX3_takesLevel_12 (by decide) ?_
    have hP9 : va_P (dC, dI) vwCl [((tx 0), .inr (3, [.ref (tx 1), .int ln, .ref (tx 2), .ref (tx 3), .int (nI pa), .int pl])), ((tx 3), .inl (cI, 6, .inl lv))] s.heap := hP
    have hD9 : va_D A [((tx 0), .inr (3, [.ref (tx 1), .int ln, .ref (tx 2), .ref (tx 3), .int (nI pa), .int pl])), ((tx 3), .inl (cI, 6, .inl lv))] := hD
    exact W.zret (v := 0) hx hb hr rfl (fun t ht hW => ⟨⟨0, (pl, lv), rfl, ⟨(by simp only [tx_lr, tx_lp, tx_ll, if_pos q3]), (by simp only [tx_lr, tx_lp, tx_ll, if_pos q3]), (by simp only [tx_lr, tx_lp, tx_ll, if_pos q3])⟩, by rw [ht]; exact hP9, hD9⟩, hS.F ht⟩) hS.2.2 dX3_takesLevel_13
  · refine lv_iload_n hx hb dX3_takesLevel_6 rfl (lv_at hl 1 rfl) ?_
    refine lv_bipush (v := 57) hx hb dX3_takesLevel_7 (by decide) ?_
    refine lv_icmp_le (tgt := 14) hx hb dX3_takesLevel_9 (by decide) (fun q9 => ?_) (fun q9 => ?_)
    · refine lv_aload_n hx hb dX3_takesLevel_14 rfl (lv_at hl 0 rfl) ?_
      refine lv_iload_n hx hb dX3_takesLevel_15 rfl (lv_at hl 1 rfl) ?_
      refine lv_bipush (v := 48) hx hb dX3_takesLevel_16 (by decide) ?_
      refine lv_isub hx hb dX3_takesLevel_18 ?_
      have hPc := hP.sub (ws' := [((tx 0), .inr (3, [.ref (tx 1), .int ln, .ref (tx 2), .ref (tx 3), .int (nI pa), .int pl])), ((tx 3), .inl (cI, 6, .inl lv))]) [0, 1] rfl
      have hDc := hD.sub (ws' := [((tx 0), .inr (3, [.ref (tx 1), .int ln, .ref (tx 2), .ref (tx 3), .int (nI pa), .int pl])), ((tx 3), .inl (cI, 6, .inl lv))]) [0, 1] (by decide) rfl
      have hFc := va_free (wc := [((tx 0), .inr (3, [.ref (tx 1), .int ln, .ref (tx 2), .ref (tx 3), .int (nI pa), .int pl])), ((tx 3), .inl (cI, 6, .inl lv))]) hD hS hA [0, 1] rfl
      refine va_callv (va_runV (As := [.int (c0 - 48)]) (rest := []) ⟨hx, hb, hml, hown, hts⟩ (c_X3_tellLevel l dC dI cI cS cJ tt s.heap.size tx ln pl lv pa (c0 - 48)) (cwV 1 hts gX3_takesLevel_X3_tellLevel rfl rfl rfl (by decide +kernel) ⟨Nat.le_of_ble_eq_true rfl, Nat.le_of_ble_eq_true rfl⟩) ⟨xm_Mblind, va_recv hK hPc (ci := 3) (q0 := 0) rfl rfl, fun U hU hW => ⟨rfl, by rw [hU], by rw [hU]; exact hPc, hE.go hS hFc hU hW, hDc.weaken (fun _ _ _ _ => trivial), hpre⟩⟩ rfl rfl hl.1 rfl (lv_room (Nat.le_of_ble_eq_true rfl)) dX3_takesLevel_19 ⟨Nat.zero_le _, Nat.zero_le _⟩) hS (fun q _ h => hFc q h) hFc (fun u t H1 locs ht hvm hw hB hz1 hk1 hS => ?_)
      obtain ⟨u_1, rfl⟩ : ∃ z, z = u := ⟨_, rfl⟩
      obtain ⟨hP1, hD1⟩ := hB
      rw [ht] at hP1
      have hw_2 := hw
      have hw_2 : u_1 = tx_tl pa (c0 - 48) lv := hw_2
      subst hw_2
      obtain ⟨hP, hD⟩ := va_join (wr := []) (w1 := [((tx 0), .inr (3, [.ref (tx 1), .int ln, .ref (tx 2), .ref (tx 3), .int (nI pa), .int pl])), ((tx 3), .inl (cI, 6, .inl (tx_tl pa (c0 - 48) lv)))]) hP hD [0, 1] [] rfl rfl (by decide) (by decide) hk1 hFc hP1 hD1
      generalize H1 = H at hP hS ⊢
      have hP : va_P (dC, dI) vwCl [((tx 0), .inr (3, [.ref (tx 1), .int ln, .ref (tx 2), .ref (tx 3), .int (nI pa), .int pl])), ((tx 3), .inl (cI, 6, .inl (tx_tl pa (c0 - 48) lv)))] H := hP
      have hD : va_D A [((tx 0), .inr (3, [.ref (tx 1), .int ln, .ref (tx 2), .ref (tx 3), .int (nI pa), .int pl])), ((tx 3), .inl (cI, 6, .inl (tx_tl pa (c0 - 48) lv)))] := hD
      refine lv_aload_n hx hb dX3_takesLevel_22 rfl (lv_at hl 0 rfl) ?_
      refine lv_iload_n hx hb dX3_takesLevel_23 rfl (lv_at hl 1 rfl) ?_
      refine lv_bipush (v := 49) hx hb dX3_takesLevel_24 (by decide) ?_
      refine lv_icmp_ne (tgt := 33) hx hb dX3_takesLevel_26 (by decide) (fun q26 => ?_) (fun q26 => ?_)
      · refine lv_iconst (v := 4) hx hb dX3_takesLevel_33 (by decide) ?_
        refine va_put (D := (dC, dI)) (ci := 3) (v := .int 4) (ty := .int) (C := RX3) (T := TX3) (N := 6) hx hb hts hin3 tyX3 tyX3_ok nmX3 hown hK hP hD hS 0 rfl rfl 5 (by decide) (hts (.fieldLink RX3 28 "TurnDigits$Text" "place" "I") (by decide +kernel)) (fun _ h9 => h9) rfl (by decide +kernel) rfl rfl (Nat.le_of_ble_eq_true rfl) dX3_takesLevel_34 (fun H locs hP hD hS => ?_)
        have hP : va_P (dC, dI) vwCl [((tx 0), .inr (3, [.ref (tx 1), .int ln, .ref (tx 2), .ref (tx 3), .int (nI pa), .int 4])), ((tx 3), .inl (cI, 6, .inl (tx_tl pa (c0 - 48) lv)))] H := hP
        have hD : va_D A [((tx 0), .inr (3, [.ref (tx 1), .int ln, .ref (tx 2), .ref (tx 3), .int (nI pa), .int 4])), ((tx 3), .inl (cI, 6, .inl (tx_tl pa (c0 - 48) lv)))] := hD
        refine lv_iconst (v := 1) hx hb dX3_takesLevel_37 (by decide) ?_
        have hP9 : va_P (dC, dI) vwCl [((tx 0), .inr (3, [.ref (tx 1), .int ln, .ref (tx 2), .ref (tx 3), .int (nI pa), .int 4])), ((tx 3), .inl (cI, 6, .inl (tx_tl pa (c0 - 48) lv)))] H := hP
        have hD9 : va_D A [((tx 0), .inr (3, [.ref (tx 1), .int ln, .ref (tx 2), .ref (tx 3), .int (nI pa), .int 4])), ((tx 3), .inl (cI, 6, .inl (tx_tl pa (c0 - 48) lv)))] := hD
        exact W.zret (v := 1) hx hb hr rfl (fun t ht hW => ⟨⟨1, (4, (tx_tl pa (c0 - 48) lv)), rfl, ⟨(by simp only [tx_lr, tx_lp, tx_ll, if_neg q3, if_pos q9, if_neg q26]), (by simp only [tx_lr, tx_lp, tx_ll, if_neg q3, if_pos q9, if_neg q26]), (by simp only [tx_lr, tx_lp, tx_ll, if_neg q3, if_pos q9, if_neg q26])⟩, by rw [ht]; exact hP9, hD9⟩, hS.F ht⟩) hS.2.2 dX3_takesLevel_38
      · refine lv_iconst (v := 3) hx hb dX3_takesLevel_29 (by decide) ?_
        refine lv_goto (tgt := 34) hx hb dX3_takesLevel_30 (by decide) ?_
        refine va_put (D := (dC, dI)) (ci := 3) (v := .int 3) (ty := .int) (C := RX3) (T := TX3) (N := 6) hx hb hts hin3 tyX3 tyX3_ok nmX3 hown hK hP hD hS 0 rfl rfl 5 (by decide) (hts (.fieldLink RX3 28 "TurnDigits$Text" "place" "I") (by decide +kernel)) (fun _ h9 => h9) rfl (by decide +kernel) rfl rfl (Nat.le_of_ble_eq_true rfl) dX3_takesLevel_34 (fun H locs hP hD hS => ?_)
        have hP : va_P (dC, dI) vwCl [((tx 0), .inr (3, [.ref (tx 1), .int ln, .ref (tx 2), .ref (tx 3), .int (nI pa), .int 3])), ((tx 3), .inl (cI, 6, .inl (tx_tl pa (c0 - 48) lv)))] H := hP
        have hD : va_D A [((tx 0), .inr (3, [.ref (tx 1), .int ln, .ref (tx 2), .ref (tx 3), .int (nI pa), .int 3])), ((tx 3), .inl (cI, 6, .inl (tx_tl pa (c0 - 48) lv)))] := hD
        refine lv_iconst (v := 1) hx hb dX3_takesLevel_37 (by decide) ?_
        have hP9 : va_P (dC, dI) vwCl [((tx 0), .inr (3, [.ref (tx 1), .int ln, .ref (tx 2), .ref (tx 3), .int (nI pa), .int 3])), ((tx 3), .inl (cI, 6, .inl (tx_tl pa (c0 - 48) lv)))] H := hP
        have hD9 : va_D A [((tx 0), .inr (3, [.ref (tx 1), .int ln, .ref (tx 2), .ref (tx 3), .int (nI pa), .int 3])), ((tx 3), .inl (cI, 6, .inl (tx_tl pa (c0 - 48) lv)))] := hD
        exact W.zret (v := 1) hx hb hr rfl (fun t ht hW => ⟨⟨1, (3, (tx_tl pa (c0 - 48) lv)), rfl, ⟨(by simp only [tx_lr, tx_lp, tx_ll, if_neg q3, if_pos q9, if_pos q26]), (by simp only [tx_lr, tx_lp, tx_ll, if_neg q3, if_pos q9, if_pos q26]), (by simp only [tx_lr, tx_lp, tx_ll, if_neg q3, if_pos q9, if_pos q26])⟩, by rw [ht]; exact hP9, hD9⟩, hS.F ht⟩) hS.2.2 dX3_takesLevel_38
    · refine lv_iconst (v := 0) hx hb dX3_takesLevel_12 (by decide) ?_
      have hP9 : va_P (dC, dI) vwCl [((tx 0), .inr (3, [.ref (tx 1), .int ln, .ref (tx 2), .ref (tx 3), .int (nI pa), .int pl])), ((tx 3), .inl (cI, 6, .inl lv))] s.heap := hP
      have hD9 : va_D A [((tx 0), .inr (3, [.ref (tx 1), .int ln, .ref (tx 2), .ref (tx 3), .int (nI pa), .int pl])), ((tx 3), .inl (cI, 6, .inl lv))] := hD
      exact W.zret (v := 0) hx hb hr rfl (fun t ht hW => ⟨⟨0, (pl, lv), rfl, ⟨(by simp only [tx_lr, tx_lp, tx_ll, if_neg q3, if_neg q9]), (by simp only [tx_lr, tx_lp, tx_ll, if_neg q3, if_neg q9]), (by simp only [tx_lr, tx_lp, tx_ll, if_neg q3, if_neg q9])⟩, by rw [ht]; exact hP9, hD9⟩, hS.F ht⟩) hS.2.2 dX3_takesLevel_13

set_option maxHeartbeats 4000000 in
set_option maxRecDepth 100000 in
theorem c_X3_takesSign (l : Launch) (dC : Nat → ClassId) (dI : Nat → Nat → Nat) (cI cS cJ : ClassId) (tt : Nat → Nat) (sz : Nat) (tx : Nat → Nat) (ln : Int32) (pl : Int32) (sg : Nat → Int32) (lv : Nat → Int32) (pa : Nat) (c0 : Int32) : Met l yX3_takesSign wsX3_takesSign ({ frames := 1, cells := 0, slots := 0, locals := 20 } : Room) (va_Pc [.ref (tx 0), .int c0] (xm_M (dC, dI) cI cS cJ tt [((tx 0), .inr (3, [.ref (tx 1), .int ln, .ref (tx 2), .ref (tx 3), .int (nI pa), .int pl])), ((tx 2), .inl (cI, 6, .inl sg)), ((tx 3), .inl (cI, 6, .inl lv))] sz (pa ≤ 6))) (va_Qi (fun (r : Int32) (u : Int32 × Int32 × (Nat → Int32) × (Nat → Int32)) => r = tx_sr c0 pa ∧ u.1 = nI (tx_sa c0 pa) ∧ u.2.1 = tx_sp c0 pa pl ∧ u.2.2.1 = tx_ss c0 pa sg ∧ u.2.2.2 = tx_sl c0 pa lv) (xm_B (dC, dI) (fun (u : Int32 × Int32 × (Nat → Int32) × (Nat → Int32)) => [((tx 0), .inr (3, [.ref (tx 1), .int ln, .ref (tx 2), .ref (tx 3), .int u.1, .int u.2.1])), ((tx 2), .inl (cI, 6, .inl u.2.2.1)), ((tx 3), .inl (cI, 6, .inl u.2.2.2))]) (va_A [((tx 0), .inr (3, [.ref (tx 1), .int ln, .ref (tx 2), .ref (tx 3), .int (nI pa), .int pl])), ((tx 2), .inl (cI, 6, .inl sg)), ((tx 3), .inl (cI, 6, .inl lv))] sz)) (va_A [((tx 0), .inr (3, [.ref (tx 1), .int ln, .ref (tx 2), .ref (tx 3), .int (nI pa), .int pl])), ((tx 2), .inl (cI, 6, .inl sg)), ((tx 3), .inl (cI, 6, .inl lv))] sz)) 0 0 (va_A [((tx 0), .inr (3, [.ref (tx 1), .int ln, .ref (tx 2), .ref (tx 3), .int (nI pa), .int pl])), ((tx 2), .inl (cI, 6, .inl sg)), ((tx 3), .inl (cI, 6, .inl lv))] sz) := by
  refine Met.ofW (cc := cX3_takesSign) (maxL := 3) (ret := (some .boolean)) (by decide) rfl ?_
  intro p e s m args below meth c s₁ B hml hv
  obtain ⟨rfl, hsz, hP, hE, hD0, hpre⟩ := hv
  have hx := B.exec
  have hb := B.bytes
  have hr := B.returns
  have hts := atoms_spec (ws := wsX3_takesSign) B.pre
  have hown : s.vm.findClass RX3 = some m.cls := findClass_of_methodNamed B.named
  have hlocks := B.notSynchronized
  have hK := hE.1
  subst hsz
  have hD := hD0.self (sz := s.heap.size)
  generalize hAe : va_A [((tx 0), .inr (3, [.ref (tx 1), .int ln, .ref (tx 2), .ref (tx 3), .int (nI pa), .int pl])), ((tx 2), .inl (cI, 6, .inl sg)), ((tx 3), .inl (cI, 6, .inl lv))] s.heap.size = A at hD hE ⊢
  have hA : ∀ q : Nat, s.heap.size ≤ q → A q := fun q h => by rw [← hAe]; exact Or.inr h
  have hS : va_S A s.heap s.heap [] := va_S.rf
  have hP : va_P (dC, dI) vwCl [((tx 0), .inr (3, [.ref (tx 1), .int ln, .ref (tx 2), .ref (tx 3), .int (nI pa), .int pl])), ((tx 2), .inl (cI, 6, .inl sg)), ((tx 3), .inl (cI, 6, .inl lv))] s.heap := hP
  have hin3 : ∀ w ∈ u_ws RX3 TX3 6, w ∈ wsX3_takesSign := by decide +kernel
  have hl := lv_entry [.ref (tx 0), .int c0] (n := 3) (Nat.le_of_ble_eq_true rfl)
  rw [lg_entry_eq]
  generalize (lg_sl [.ref (tx 0), .int c0] ++ List.replicate (3 - (lg_sl [.ref (tx 0), .int c0]).length) Slot.unset).toArray = lz at hl ⊢
  have hl : lv_has lz 3 [(0, .ref (tx 0)), (1, .int c0)] := hl
  refine lv_iload_n hx hb dX3_takesSign_0 rfl (lv_at hl 1 rfl) ?_
  have hPc := hP.sub (ws' := []) [] rfl
  refine W.callV ((va_runS (As := [.int c0]) (rest := []) ⟨hx, hb, hml, hown, hts⟩ (c_X3_signOf l dC dI cI cS cJ tt c0) (va_cwS 1 hts gX3_takesSign_X3_signOf rfl rfl rfl (by decide +kernel) ⟨Nat.le_of_ble_eq_true rfl, Nat.le_of_ble_eq_true rfl⟩) ⟨xm_Rblind, fun U hU hW => ⟨rfl, by rw [hU]; exact hPc, hE.go hS (fun _ q => q.elim) hU hW, trivial⟩⟩ rfl rfl hl.1 rfl (lv_room (Nat.le_of_ble_eq_true rfl)) dX3_takesSign_1 ⟨Nat.zero_le _, Nat.zero_le _⟩).run) ?_
  refine W.eq (g2 := F0 m 4 lz (.int (tx_so c0) :: [])) rfl ?_
  refine lv_istore_n (lv' := [(2, .int (tx_so c0)), (0, .ref (tx 0)), (1, .int c0)]) hx hb dX3_takesSign_4 rfl hl (by decide) rfl (fun lz hl => ?_)
  refine lv_iload_n hx hb dX3_takesSign_5 rfl (lv_at hl 0 rfl) ?_
  refine lv_iconst (v := (-1)) hx hb dX3_takesSign_6 (by decide) ?_
  refine lv_icmp_eq (tgt := 19) hx hb dX3_takesSign_7 (by decide) (fun q7 => ?_) (fun q7 => ?_)
  · refine lv_iconst (v := 0) hx hb dX3_takesSign_19 (by decide) ?_
    have hP9 : va_P (dC, dI) vwCl [((tx 0), .inr (3, [.ref (tx 1), .int ln, .ref (tx 2), .ref (tx 3), .int (nI pa), .int pl])), ((tx 2), .inl (cI, 6, .inl sg)), ((tx 3), .inl (cI, 6, .inl lv))] s.heap := hP
    have hD9 : va_D A [((tx 0), .inr (3, [.ref (tx 1), .int ln, .ref (tx 2), .ref (tx 3), .int (nI pa), .int pl])), ((tx 2), .inl (cI, 6, .inl sg)), ((tx 3), .inl (cI, 6, .inl lv))] := hD
    exact W.zret (v := 0) hx hb hr rfl (fun t ht hW => ⟨⟨0, (nI pa, pl, sg, lv), rfl, ⟨(by simp only [tx_sr, tx_sa, tx_sp, tx_ss, tx_sl, if_pos q7]), (by simp only [tx_sr, tx_sa, tx_sp, tx_ss, tx_sl, if_pos q7]), (by simp only [tx_sr, tx_sa, tx_sp, tx_ss, tx_sl, if_pos q7]), (by simp only [tx_sr, tx_sa, tx_sp, tx_ss, tx_sl, if_pos q7]), (by simp only [tx_sr, tx_sa, tx_sp, tx_ss, tx_sl, if_pos q7])⟩, by rw [ht]; exact hP9, hD9⟩, hS.F ht⟩) hS.2.2 dX3_takesSign_20
  · refine lv_aload_n hx hb dX3_takesSign_10 rfl (lv_at hl 1 rfl) ?_
    refine va_get (D := (dC, dI)) (ci := 3) (v := .int (nI pa)) (C := RX3) (T := TX3) (N := 6) hx hb hts hin3 hown hK hP 0 rfl rfl 4 (by decide) (hts (.fieldLink RX3 25 "TurnDigits$Text" "parts" "I") (by decide +kernel)) (fun _ h9 => h9) rfl dX3_takesSign_11 ?_
    refine lv_bipush (v := 6) hx hb dX3_takesSign_14 (by decide) ?_
    refine lv_icmp_lt (tgt := 21) hx hb dX3_takesSign_16 (by decide) (fun q16 => ?_) (fun q16 => ?_)
    · have hn : pa < 6 := (nI_ltI (a := pa) (b := 6) (by omega) (by decide)).mp q16
      refine lv_aload_n hx hb dX3_takesSign_21 rfl (lv_at hl 1 rfl) ?_
      refine va_get (D := (dC, dI)) (ci := 3) (v := .ref (tx 2)) (C := RX3) (T := TX3) (N := 6) hx hb hts hin3 hown hK hP 0 rfl rfl 2 (by decide) (hts (.fieldLink RX3 19 "TurnDigits$Text" "signs" "[I") (by decide +kernel)) (fun _ h9 => h9) rfl dX3_takesSign_22 ?_
      refine lv_aload_n hx hb dX3_takesSign_25 rfl (lv_at hl 1 rfl) ?_
      refine va_get (D := (dC, dI)) (ci := 3) (v := .int (nI pa)) (C := RX3) (T := TX3) (N := 6) hx hb hts hin3 hown hK hP 0 rfl rfl 4 (by decide) (hts (.fieldLink RX3 25 "TurnDigits$Text" "parts" "I") (by decide +kernel)) (fun _ h9 => h9) rfl dX3_takesSign_26 ?_
      refine lv_iload_n hx hb dX3_takesSign_29 rfl (lv_at hl 0 rfl) ?_
      refine xm_iast (D := (dC, dI)) hx hb hK hP hD hS 1 0 pa rfl rfl (by decide) rfl (by omega) dX3_takesSign_30 (fun H locs hP hD hS => ?_)
      have hP : va_P (dC, dI) vwCl [((tx 0), .inr (3, [.ref (tx 1), .int ln, .ref (tx 2), .ref (tx 3), .int (nI pa), .int pl])), ((tx 2), .inl (cI, 6, .inl (upd sg pa (tx_so c0)))), ((tx 3), .inl (cI, 6, .inl lv))] H := hP
      have hD : va_D A [((tx 0), .inr (3, [.ref (tx 1), .int ln, .ref (tx 2), .ref (tx 3), .int (nI pa), .int pl])), ((tx 2), .inl (cI, 6, .inl (upd sg pa (tx_so c0)))), ((tx 3), .inl (cI, 6, .inl lv))] := hD
      refine lv_aload_n hx hb dX3_takesSign_31 rfl (lv_at hl 1 rfl) ?_
      refine va_get (D := (dC, dI)) (ci := 3) (v := .ref (tx 3)) (C := RX3) (T := TX3) (N := 6) hx hb hts hin3 hown hK hP 0 rfl rfl 3 (by decide) (hts (.fieldLink RX3 22 "TurnDigits$Text" "levels" "[I") (by decide +kernel)) (fun _ h9 => h9) rfl dX3_takesSign_32 ?_
      refine lv_aload_n hx hb dX3_takesSign_35 rfl (lv_at hl 1 rfl) ?_
      refine va_get (D := (dC, dI)) (ci := 3) (v := .int (nI pa)) (C := RX3) (T := TX3) (N := 6) hx hb hts hin3 hown hK hP 0 rfl rfl 4 (by decide) (hts (.fieldLink RX3 25 "TurnDigits$Text" "parts" "I") (by decide +kernel)) (fun _ h9 => h9) rfl dX3_takesSign_36 ?_
      refine lv_iconst (v := (-1)) hx hb dX3_takesSign_39 (by decide) ?_
      refine xm_iast (D := (dC, dI)) hx hb hK hP hD hS 2 0 pa rfl rfl (by decide) rfl (by omega) dX3_takesSign_40 (fun H locs hP hD hS => ?_)
      have hP : va_P (dC, dI) vwCl [((tx 0), .inr (3, [.ref (tx 1), .int ln, .ref (tx 2), .ref (tx 3), .int (nI pa), .int pl])), ((tx 2), .inl (cI, 6, .inl (upd sg pa (tx_so c0)))), ((tx 3), .inl (cI, 6, .inl (upd lv pa (-1))))] H := hP
      have hD : va_D A [((tx 0), .inr (3, [.ref (tx 1), .int ln, .ref (tx 2), .ref (tx 3), .int (nI pa), .int pl])), ((tx 2), .inl (cI, 6, .inl (upd sg pa (tx_so c0)))), ((tx 3), .inl (cI, 6, .inl (upd lv pa (-1))))] := hD
      refine lv_aload_n hx hb dX3_takesSign_41 rfl (lv_at hl 1 rfl) ?_
      refine lv_dup hx hb dX3_takesSign_42 rfl ?_
      refine va_get (D := (dC, dI)) (ci := 3) (v := .int (nI pa)) (C := RX3) (T := TX3) (N := 6) hx hb hts hin3 hown hK hP 0 rfl rfl 4 (by decide) (hts (.fieldLink RX3 25 "TurnDigits$Text" "parts" "I") (by decide +kernel)) (fun _ h9 => h9) rfl dX3_takesSign_43 ?_
      refine lv_iconst (v := 1) hx hb dX3_takesSign_46 (by decide) ?_
      refine lv_iadd hx hb dX3_takesSign_47 ?_
      refine xm_topi (y := (nI (pa + 1))) (nI_1 pa) ?_
      refine va_put (D := (dC, dI)) (ci := 3) (v := .int (nI (pa + 1))) (ty := .int) (C := RX3) (T := TX3) (N := 6) hx hb hts hin3 tyX3 tyX3_ok nmX3 hown hK hP hD hS 0 rfl rfl 4 (by decide) (hts (.fieldLink RX3 25 "TurnDigits$Text" "parts" "I") (by decide +kernel)) (fun _ h9 => h9) rfl (by decide +kernel) rfl rfl (Nat.le_of_ble_eq_true rfl) dX3_takesSign_48 (fun H locs hP hD hS => ?_)
      have hP : va_P (dC, dI) vwCl [((tx 0), .inr (3, [.ref (tx 1), .int ln, .ref (tx 2), .ref (tx 3), .int (nI (pa + 1)), .int pl])), ((tx 2), .inl (cI, 6, .inl (upd sg pa (tx_so c0)))), ((tx 3), .inl (cI, 6, .inl (upd lv pa (-1))))] H := hP
      have hD : va_D A [((tx 0), .inr (3, [.ref (tx 1), .int ln, .ref (tx 2), .ref (tx 3), .int (nI (pa + 1)), .int pl])), ((tx 2), .inl (cI, 6, .inl (upd sg pa (tx_so c0)))), ((tx 3), .inl (cI, 6, .inl (upd lv pa (-1))))] := hD
      refine lv_aload_n hx hb dX3_takesSign_51 rfl (lv_at hl 1 rfl) ?_
      refine lv_iconst (v := 1) hx hb dX3_takesSign_52 (by decide) ?_
      refine va_put (D := (dC, dI)) (ci := 3) (v := .int 1) (ty := .int) (C := RX3) (T := TX3) (N := 6) hx hb hts hin3 tyX3 tyX3_ok nmX3 hown hK hP hD hS 0 rfl rfl 5 (by decide) (hts (.fieldLink RX3 28 "TurnDigits$Text" "place" "I") (by decide +kernel)) (fun _ h9 => h9) rfl (by decide +kernel) rfl rfl (Nat.le_of_ble_eq_true rfl) dX3_takesSign_53 (fun H locs hP hD hS => ?_)
      have hP : va_P (dC, dI) vwCl [((tx 0), .inr (3, [.ref (tx 1), .int ln, .ref (tx 2), .ref (tx 3), .int (nI (pa + 1)), .int 1])), ((tx 2), .inl (cI, 6, .inl (upd sg pa (tx_so c0)))), ((tx 3), .inl (cI, 6, .inl (upd lv pa (-1))))] H := hP
      have hD : va_D A [((tx 0), .inr (3, [.ref (tx 1), .int ln, .ref (tx 2), .ref (tx 3), .int (nI (pa + 1)), .int 1])), ((tx 2), .inl (cI, 6, .inl (upd sg pa (tx_so c0)))), ((tx 3), .inl (cI, 6, .inl (upd lv pa (-1))))] := hD
      refine lv_iconst (v := 1) hx hb dX3_takesSign_56 (by decide) ?_
      have hP9 : va_P (dC, dI) vwCl [((tx 0), .inr (3, [.ref (tx 1), .int ln, .ref (tx 2), .ref (tx 3), .int (nI (pa + 1)), .int 1])), ((tx 2), .inl (cI, 6, .inl (upd sg pa (tx_so c0)))), ((tx 3), .inl (cI, 6, .inl (upd lv pa (-1))))] H := hP
      have hD9 : va_D A [((tx 0), .inr (3, [.ref (tx 1), .int ln, .ref (tx 2), .ref (tx 3), .int (nI (pa + 1)), .int 1])), ((tx 2), .inl (cI, 6, .inl (upd sg pa (tx_so c0)))), ((tx 3), .inl (cI, 6, .inl (upd lv pa (-1))))] := hD
      exact W.zret (v := 1) hx hb hr rfl (fun t ht hW => ⟨⟨1, (nI (pa + 1), 1, upd sg pa (tx_so c0), upd lv pa (-1)), rfl, ⟨(by simp only [tx_sr, tx_sa, tx_sp, tx_ss, tx_sl, if_neg q7, if_pos q16]), (by simp only [tx_sr, tx_sa, tx_sp, tx_ss, tx_sl, if_neg q7, if_pos q16]), (by simp only [tx_sr, tx_sa, tx_sp, tx_ss, tx_sl, if_neg q7, if_pos q16]), (by simp only [tx_sr, tx_sa, tx_sp, tx_ss, tx_sl, if_neg q7, if_pos q16]), (by simp only [tx_sr, tx_sa, tx_sp, tx_ss, tx_sl, if_neg q7, if_pos q16])⟩, by rw [ht]; exact hP9, hD9⟩, hS.F ht⟩) hS.2.2 dX3_takesSign_57
    · refine lv_iconst (v := 0) hx hb dX3_takesSign_19 (by decide) ?_
      have hP9 : va_P (dC, dI) vwCl [((tx 0), .inr (3, [.ref (tx 1), .int ln, .ref (tx 2), .ref (tx 3), .int (nI pa), .int pl])), ((tx 2), .inl (cI, 6, .inl sg)), ((tx 3), .inl (cI, 6, .inl lv))] s.heap := hP
      have hD9 : va_D A [((tx 0), .inr (3, [.ref (tx 1), .int ln, .ref (tx 2), .ref (tx 3), .int (nI pa), .int pl])), ((tx 2), .inl (cI, 6, .inl sg)), ((tx 3), .inl (cI, 6, .inl lv))] := hD
      exact W.zret (v := 0) hx hb hr rfl (fun t ht hW => ⟨⟨0, (nI pa, pl, sg, lv), rfl, ⟨(by simp only [tx_sr, tx_sa, tx_sp, tx_ss, tx_sl, if_neg q7, if_neg q16]), (by simp only [tx_sr, tx_sa, tx_sp, tx_ss, tx_sl, if_neg q7, if_neg q16]), (by simp only [tx_sr, tx_sa, tx_sp, tx_ss, tx_sl, if_neg q7, if_neg q16]), (by simp only [tx_sr, tx_sa, tx_sp, tx_ss, tx_sl, if_neg q7, if_neg q16]), (by simp only [tx_sr, tx_sa, tx_sp, tx_ss, tx_sl, if_neg q7, if_neg q16])⟩, by rw [ht]; exact hP9, hD9⟩, hS.F ht⟩) hS.2.2 dX3_takesSign_20

set_option maxHeartbeats 4000000 in
set_option maxRecDepth 100000 in
theorem c_X3_takes (l : Launch) (dC : Nat → ClassId) (dI : Nat → Nat → Nat) (cI cS cJ : ClassId) (tt : Nat → Nat) (sz : Nat) (tx : Nat → Nat) (ln : Int32) (pl : Int32) (sg : Nat → Int32) (lv : Nat → Int32) (pa : Nat) (c0 : Int32) : Met l yX3_takes wsX3_takes ({ frames := 2, cells := 0, slots := 0, locals := 42 } : Room) (va_Pc [.ref (tx 0), .int c0] (xm_M (dC, dI) cI cS cJ tt [((tx 0), .inr (3, [.ref (tx 1), .int ln, .ref (tx 2), .ref (tx 3), .int (nI pa), .int pl])), ((tx 2), .inl (cI, 6, .inl sg)), ((tx 3), .inl (cI, 6, .inl lv))] sz (pa ≤ 6))) (va_Qi (fun (r : Int32) (u : Int32 × Int32 × (Nat → Int32) × (Nat → Int32)) => r = tx_r c0 pa pl ∧ u.1 = nI (tx_a c0 pa pl) ∧ u.2.1 = tx_p c0 pa pl ∧ u.2.2.1 = tx_s c0 pa pl sg ∧ u.2.2.2 = tx_l c0 pa pl lv) (xm_B (dC, dI) (fun (u : Int32 × Int32 × (Nat → Int32) × (Nat → Int32)) => [((tx 0), .inr (3, [.ref (tx 1), .int ln, .ref (tx 2), .ref (tx 3), .int u.1, .int u.2.1])), ((tx 2), .inl (cI, 6, .inl u.2.2.1)), ((tx 3), .inl (cI, 6, .inl u.2.2.2))]) (va_A [((tx 0), .inr (3, [.ref (tx 1), .int ln, .ref (tx 2), .ref (tx 3), .int (nI pa), .int pl])), ((tx 2), .inl (cI, 6, .inl sg)), ((tx 3), .inl (cI, 6, .inl lv))] sz)) (va_A [((tx 0), .inr (3, [.ref (tx 1), .int ln, .ref (tx 2), .ref (tx 3), .int (nI pa), .int pl])), ((tx 2), .inl (cI, 6, .inl sg)), ((tx 3), .inl (cI, 6, .inl lv))] sz)) 0 0 (va_A [((tx 0), .inr (3, [.ref (tx 1), .int ln, .ref (tx 2), .ref (tx 3), .int (nI pa), .int pl])), ((tx 2), .inl (cI, 6, .inl sg)), ((tx 3), .inl (cI, 6, .inl lv))] sz) := by
  refine Met.ofW (cc := cX3_takes) (maxL := 2) (ret := (some .boolean)) (by decide) rfl ?_
  intro p e s m args below meth c s₁ B hml hv
  obtain ⟨rfl, hsz, hP, hE, hD0, hpre⟩ := hv
  have hx := B.exec
  have hb := B.bytes
  have hr := B.returns
  have hts := atoms_spec (ws := wsX3_takes) B.pre
  have hown : s.vm.findClass RX3 = some m.cls := findClass_of_methodNamed B.named
  have hlocks := B.notSynchronized
  have hK := hE.1
  subst hsz
  have hD := hD0.self (sz := s.heap.size)
  generalize hAe : va_A [((tx 0), .inr (3, [.ref (tx 1), .int ln, .ref (tx 2), .ref (tx 3), .int (nI pa), .int pl])), ((tx 2), .inl (cI, 6, .inl sg)), ((tx 3), .inl (cI, 6, .inl lv))] s.heap.size = A at hD hE ⊢
  have hA : ∀ q : Nat, s.heap.size ≤ q → A q := fun q h => by rw [← hAe]; exact Or.inr h
  have hS : va_S A s.heap s.heap [] := va_S.rf
  have hP : va_P (dC, dI) vwCl [((tx 0), .inr (3, [.ref (tx 1), .int ln, .ref (tx 2), .ref (tx 3), .int (nI pa), .int pl])), ((tx 2), .inl (cI, 6, .inl sg)), ((tx 3), .inl (cI, 6, .inl lv))] s.heap := hP
  have hin3 : ∀ w ∈ u_ws RX3 TX3 6, w ∈ wsX3_takes := by decide +kernel
  have hl := lv_entry [.ref (tx 0), .int c0] (n := 2) (Nat.le_of_ble_eq_true rfl)
  rw [lg_entry_eq]
  generalize (lg_sl [.ref (tx 0), .int c0] ++ List.replicate (2 - (lg_sl [.ref (tx 0), .int c0]).length) Slot.unset).toArray = lz at hl ⊢
  have hl : lv_has lz 2 [(0, .ref (tx 0)), (1, .int c0)] := hl
  refine lv_aload_n hx hb dX3_takes_0 rfl (lv_at hl 0 rfl) ?_
  refine va_get (D := (dC, dI)) (ci := 3) (v := .int pl) (C := RX3) (T := TX3) (N := 6) hx hb hts hin3 hown hK hP 0 rfl rfl 5 (by decide) (hts (.fieldLink RX3 28 "TurnDigits$Text" "place" "I") (by decide +kernel)) (fun _ h9 => h9) rfl dX3_takes_1 ?_
  refine lv_iconst (v := 2) hx hb dX3_takes_4 (by decide) ?_
  refine lv_icmp_ne (tgt := 14) hx hb dX3_takes_5 (by decide) (fun q5 => ?_) (fun q5 => ?_)
  · refine lv_aload_n hx hb dX3_takes_14 rfl (lv_at hl 0 rfl) ?_
    refine va_get (D := (dC, dI)) (ci := 3) (v := .int pl) (C := RX3) (T := TX3) (N := 6) hx hb hts hin3 hown hK hP 0 rfl rfl 5 (by decide) (hts (.fieldLink RX3 28 "TurnDigits$Text" "place" "I") (by decide +kernel)) (fun _ h9 => h9) rfl dX3_takes_15 ?_
    refine lv_iconst (v := 3) hx hb dX3_takes_18 (by decide) ?_
    refine lv_icmp_ne (tgt := 52) hx hb dX3_takes_19 (by decide) (fun q19 => ?_) (fun q19 => ?_)
    · refine lv_aload_n hx hb dX3_takes_52 rfl (lv_at hl 0 rfl) ?_
      refine va_get (D := (dC, dI)) (ci := 3) (v := .int pl) (C := RX3) (T := TX3) (N := 6) hx hb hts hin3 hown hK hP 0 rfl rfl 5 (by decide) (hts (.fieldLink RX3 28 "TurnDigits$Text" "place" "I") (by decide +kernel)) (fun _ h9 => h9) rfl dX3_takes_53 ?_
      refine lv_iconst (v := 1) hx hb dX3_takes_56 (by decide) ?_
      refine lv_icmp_ne (tgt := 73) hx hb dX3_takes_57 (by decide) (fun q57 => ?_) (fun q57 => ?_)
      · refine lv_aload_n hx hb dX3_takes_73 rfl (lv_at hl 0 rfl) ?_
        refine lv_iload_n hx hb dX3_takes_74 rfl (lv_at hl 1 rfl) ?_
        have hPc := hP.sub (ws' := [((tx 0), .inr (3, [.ref (tx 1), .int ln, .ref (tx 2), .ref (tx 3), .int (nI pa), .int pl])), ((tx 2), .inl (cI, 6, .inl sg)), ((tx 3), .inl (cI, 6, .inl lv))]) [0, 1, 2] rfl
        have hDc := hD.sub (ws' := [((tx 0), .inr (3, [.ref (tx 1), .int ln, .ref (tx 2), .ref (tx 3), .int (nI pa), .int pl])), ((tx 2), .inl (cI, 6, .inl sg)), ((tx 3), .inl (cI, 6, .inl lv))]) [0, 1, 2] (by decide) rfl
        have hFc := va_free (wc := [((tx 0), .inr (3, [.ref (tx 1), .int ln, .ref (tx 2), .ref (tx 3), .int (nI pa), .int pl])), ((tx 2), .inl (cI, 6, .inl sg)), ((tx 3), .inl (cI, 6, .inl lv))]) hD hS hA [0, 1, 2] rfl
        refine va_calli (va_runV (As := [.int c0]) (rest := []) ⟨hx, hb, hml, hown, hts⟩ (c_X3_takesSign l dC dI cI cS cJ tt s.heap.size tx ln pl sg lv pa c0) (cwV 1 hts gX3_takes_X3_takesSign rfl rfl rfl (by decide +kernel) ⟨Nat.le_of_ble_eq_true rfl, Nat.le_of_ble_eq_true rfl⟩) ⟨xm_Mblind, va_recv hK hPc (ci := 3) (q0 := 0) rfl rfl, fun U hU hW => ⟨rfl, by rw [hU], by rw [hU]; exact hPc, hE.go hS hFc hU hW, hDc.weaken (fun _ _ _ _ => trivial), hpre⟩⟩ rfl rfl hl.1 rfl (lv_room (Nat.le_of_ble_eq_true rfl)) dX3_takes_75 ⟨Nat.zero_le _, Nat.zero_le _⟩) hS (fun q _ h => hFc q h) hFc (fun r u t H1 locs ht hvm hw hB hz1 hk1 hS => ?_)
        obtain ⟨u_1, u_2, u_3, u_4⟩ := u
        obtain ⟨hP1, hD1⟩ := hB
        rw [ht] at hP1
        obtain ⟨hw_5, hw_6, hw_7, hw_8, hw_9⟩ := hw
        have hw_5 : r = tx_sr c0 pa := hw_5
        subst hw_5
        have hw_6 : u_1 = nI (tx_sa c0 pa) := hw_6
        subst hw_6
        have hw_7 : u_2 = tx_sp c0 pa pl := hw_7
        subst hw_7
        have hw_8 : u_3 = tx_ss c0 pa sg := hw_8
        subst hw_8
        have hw_9 : u_4 = tx_sl c0 pa lv := hw_9
        subst hw_9
        obtain ⟨hP, hD⟩ := va_join (wr := []) (w1 := [((tx 0), .inr (3, [.ref (tx 1), .int ln, .ref (tx 2), .ref (tx 3), .int (nI (tx_sa c0 pa)), .int (tx_sp c0 pa pl)])), ((tx 2), .inl (cI, 6, .inl (tx_ss c0 pa sg))), ((tx 3), .inl (cI, 6, .inl (tx_sl c0 pa lv)))]) hP hD [0, 1, 2] [] rfl rfl (by decide) (by decide) hk1 hFc hP1 hD1
        generalize H1 = H at hP hS ⊢
        have hP : va_P (dC, dI) vwCl [((tx 0), .inr (3, [.ref (tx 1), .int ln, .ref (tx 2), .ref (tx 3), .int (nI (tx_sa c0 pa)), .int (tx_sp c0 pa pl)])), ((tx 2), .inl (cI, 6, .inl (tx_ss c0 pa sg))), ((tx 3), .inl (cI, 6, .inl (tx_sl c0 pa lv)))] H := hP
        have hD : va_D A [((tx 0), .inr (3, [.ref (tx 1), .int ln, .ref (tx 2), .ref (tx 3), .int (nI (tx_sa c0 pa)), .int (tx_sp c0 pa pl)])), ((tx 2), .inl (cI, 6, .inl (tx_ss c0 pa sg))), ((tx 3), .inl (cI, 6, .inl (tx_sl c0 pa lv)))] := hD
        have hP9 : va_P (dC, dI) vwCl [((tx 0), .inr (3, [.ref (tx 1), .int ln, .ref (tx 2), .ref (tx 3), .int (nI (tx_sa c0 pa)), .int (tx_sp c0 pa pl)])), ((tx 2), .inl (cI, 6, .inl (tx_ss c0 pa sg))), ((tx 3), .inl (cI, 6, .inl (tx_sl c0 pa lv)))] H := hP
        have hD9 : va_D A [((tx 0), .inr (3, [.ref (tx 1), .int ln, .ref (tx 2), .ref (tx 3), .int (nI (tx_sa c0 pa)), .int (tx_sp c0 pa pl)])), ((tx 2), .inl (cI, 6, .inl (tx_ss c0 pa sg))), ((tx 3), .inl (cI, 6, .inl (tx_sl c0 pa lv)))] := hD
        exact W.zret (v := tx_sr c0 pa) hx hb hr (by unfold tx_sr; (repeat' split) <;> rfl) (fun t ht hW => ⟨⟨tx_sr c0 pa, ((nI (tx_sa c0 pa)), (tx_sp c0 pa pl), (tx_ss c0 pa sg), (tx_sl c0 pa lv)), rfl, ⟨(by simp only [tx_r, tx_a, tx_p, tx_s, tx_l, tx_by, if_neg q5, if_neg q19, if_neg q57]), (by simp only [tx_r, tx_a, tx_p, tx_s, tx_l, tx_by, if_neg q5, if_neg q19, if_neg q57]), (by simp only [tx_r, tx_a, tx_p, tx_s, tx_l, tx_by, if_neg q5, if_neg q19, if_neg q57]), (by simp only [tx_r, tx_a, tx_p, tx_s, tx_l, tx_by, if_neg q5, if_neg q19, if_neg q57]), (by simp only [tx_r, tx_a, tx_p, tx_s, tx_l, tx_by, if_neg q5, if_neg q19, if_neg q57])⟩, by rw [ht]; exact hP9, hD9⟩, hS.F ht⟩) hS.2.2 dX3_takes_78
      · refine lv_iload_n hx hb dX3_takes_60 rfl (lv_at hl 1 rfl) ?_
        refine lv_bipush (v := 42) hx hb dX3_takes_61 (by decide) ?_
        refine lv_icmp_ne (tgt := 73) hx hb dX3_takes_63 (by decide) (fun q63 => ?_) (fun q63 => ?_)
        · refine lv_aload_n hx hb dX3_takes_73 rfl (lv_at hl 0 rfl) ?_
          refine lv_iload_n hx hb dX3_takes_74 rfl (lv_at hl 1 rfl) ?_
          have hPc := hP.sub (ws' := [((tx 0), .inr (3, [.ref (tx 1), .int ln, .ref (tx 2), .ref (tx 3), .int (nI pa), .int pl])), ((tx 2), .inl (cI, 6, .inl sg)), ((tx 3), .inl (cI, 6, .inl lv))]) [0, 1, 2] rfl
          have hDc := hD.sub (ws' := [((tx 0), .inr (3, [.ref (tx 1), .int ln, .ref (tx 2), .ref (tx 3), .int (nI pa), .int pl])), ((tx 2), .inl (cI, 6, .inl sg)), ((tx 3), .inl (cI, 6, .inl lv))]) [0, 1, 2] (by decide) rfl
          have hFc := va_free (wc := [((tx 0), .inr (3, [.ref (tx 1), .int ln, .ref (tx 2), .ref (tx 3), .int (nI pa), .int pl])), ((tx 2), .inl (cI, 6, .inl sg)), ((tx 3), .inl (cI, 6, .inl lv))]) hD hS hA [0, 1, 2] rfl
          refine va_calli (va_runV (As := [.int c0]) (rest := []) ⟨hx, hb, hml, hown, hts⟩ (c_X3_takesSign l dC dI cI cS cJ tt s.heap.size tx ln pl sg lv pa c0) (cwV 1 hts gX3_takes_X3_takesSign rfl rfl rfl (by decide +kernel) ⟨Nat.le_of_ble_eq_true rfl, Nat.le_of_ble_eq_true rfl⟩) ⟨xm_Mblind, va_recv hK hPc (ci := 3) (q0 := 0) rfl rfl, fun U hU hW => ⟨rfl, by rw [hU], by rw [hU]; exact hPc, hE.go hS hFc hU hW, hDc.weaken (fun _ _ _ _ => trivial), hpre⟩⟩ rfl rfl hl.1 rfl (lv_room (Nat.le_of_ble_eq_true rfl)) dX3_takes_75 ⟨Nat.zero_le _, Nat.zero_le _⟩) hS (fun q _ h => hFc q h) hFc (fun r u t H1 locs ht hvm hw hB hz1 hk1 hS => ?_)
          obtain ⟨u_10, u_11, u_12, u_13⟩ := u
          obtain ⟨hP1, hD1⟩ := hB
          rw [ht] at hP1
          obtain ⟨hw_14, hw_15, hw_16, hw_17, hw_18⟩ := hw
          have hw_14 : r = tx_sr c0 pa := hw_14
          subst hw_14
          have hw_15 : u_10 = nI (tx_sa c0 pa) := hw_15
          subst hw_15
          have hw_16 : u_11 = tx_sp c0 pa pl := hw_16
          subst hw_16
          have hw_17 : u_12 = tx_ss c0 pa sg := hw_17
          subst hw_17
          have hw_18 : u_13 = tx_sl c0 pa lv := hw_18
          subst hw_18
          obtain ⟨hP, hD⟩ := va_join (wr := []) (w1 := [((tx 0), .inr (3, [.ref (tx 1), .int ln, .ref (tx 2), .ref (tx 3), .int (nI (tx_sa c0 pa)), .int (tx_sp c0 pa pl)])), ((tx 2), .inl (cI, 6, .inl (tx_ss c0 pa sg))), ((tx 3), .inl (cI, 6, .inl (tx_sl c0 pa lv)))]) hP hD [0, 1, 2] [] rfl rfl (by decide) (by decide) hk1 hFc hP1 hD1
          generalize H1 = H at hP hS ⊢
          have hP : va_P (dC, dI) vwCl [((tx 0), .inr (3, [.ref (tx 1), .int ln, .ref (tx 2), .ref (tx 3), .int (nI (tx_sa c0 pa)), .int (tx_sp c0 pa pl)])), ((tx 2), .inl (cI, 6, .inl (tx_ss c0 pa sg))), ((tx 3), .inl (cI, 6, .inl (tx_sl c0 pa lv)))] H := hP
          have hD : va_D A [((tx 0), .inr (3, [.ref (tx 1), .int ln, .ref (tx 2), .ref (tx 3), .int (nI (tx_sa c0 pa)), .int (tx_sp c0 pa pl)])), ((tx 2), .inl (cI, 6, .inl (tx_ss c0 pa sg))), ((tx 3), .inl (cI, 6, .inl (tx_sl c0 pa lv)))] := hD
          have hP9 : va_P (dC, dI) vwCl [((tx 0), .inr (3, [.ref (tx 1), .int ln, .ref (tx 2), .ref (tx 3), .int (nI (tx_sa c0 pa)), .int (tx_sp c0 pa pl)])), ((tx 2), .inl (cI, 6, .inl (tx_ss c0 pa sg))), ((tx 3), .inl (cI, 6, .inl (tx_sl c0 pa lv)))] H := hP
          have hD9 : va_D A [((tx 0), .inr (3, [.ref (tx 1), .int ln, .ref (tx 2), .ref (tx 3), .int (nI (tx_sa c0 pa)), .int (tx_sp c0 pa pl)])), ((tx 2), .inl (cI, 6, .inl (tx_ss c0 pa sg))), ((tx 3), .inl (cI, 6, .inl (tx_sl c0 pa lv)))] := hD
          exact W.zret (v := tx_sr c0 pa) hx hb hr (by unfold tx_sr; (repeat' split) <;> rfl) (fun t ht hW => ⟨⟨tx_sr c0 pa, ((nI (tx_sa c0 pa)), (tx_sp c0 pa pl), (tx_ss c0 pa sg), (tx_sl c0 pa lv)), rfl, ⟨(by simp only [tx_r, tx_a, tx_p, tx_s, tx_l, tx_by, if_neg q5, if_neg q19, if_pos q57, if_neg q63]), (by simp only [tx_r, tx_a, tx_p, tx_s, tx_l, tx_by, if_neg q5, if_neg q19, if_pos q57, if_neg q63]), (by simp only [tx_r, tx_a, tx_p, tx_s, tx_l, tx_by, if_neg q5, if_neg q19, if_pos q57, if_neg q63]), (by simp only [tx_r, tx_a, tx_p, tx_s, tx_l, tx_by, if_neg q5, if_neg q19, if_pos q57, if_neg q63]), (by simp only [tx_r, tx_a, tx_p, tx_s, tx_l, tx_by, if_neg q5, if_neg q19, if_pos q57, if_neg q63])⟩, by rw [ht]; exact hP9, hD9⟩, hS.F ht⟩) hS.2.2 dX3_takes_78
        · refine lv_aload_n hx hb dX3_takes_66 rfl (lv_at hl 0 rfl) ?_
          refine lv_iconst (v := 2) hx hb dX3_takes_67 (by decide) ?_
          refine va_put (D := (dC, dI)) (ci := 3) (v := .int 2) (ty := .int) (C := RX3) (T := TX3) (N := 6) hx hb hts hin3 tyX3 tyX3_ok nmX3 hown hK hP hD hS 0 rfl rfl 5 (by decide) (hts (.fieldLink RX3 28 "TurnDigits$Text" "place" "I") (by decide +kernel)) (fun _ h9 => h9) rfl (by decide +kernel) rfl rfl (Nat.le_of_ble_eq_true rfl) dX3_takes_68 (fun H locs hP hD hS => ?_)
          have hP : va_P (dC, dI) vwCl [((tx 0), .inr (3, [.ref (tx 1), .int ln, .ref (tx 2), .ref (tx 3), .int (nI pa), .int 2])), ((tx 2), .inl (cI, 6, .inl sg)), ((tx 3), .inl (cI, 6, .inl lv))] H := hP
          have hD : va_D A [((tx 0), .inr (3, [.ref (tx 1), .int ln, .ref (tx 2), .ref (tx 3), .int (nI pa), .int 2])), ((tx 2), .inl (cI, 6, .inl sg)), ((tx 3), .inl (cI, 6, .inl lv))] := hD
          refine lv_iconst (v := 1) hx hb dX3_takes_71 (by decide) ?_
          have hP9 : va_P (dC, dI) vwCl [((tx 0), .inr (3, [.ref (tx 1), .int ln, .ref (tx 2), .ref (tx 3), .int (nI pa), .int 2])), ((tx 2), .inl (cI, 6, .inl sg)), ((tx 3), .inl (cI, 6, .inl lv))] H := hP
          have hD9 : va_D A [((tx 0), .inr (3, [.ref (tx 1), .int ln, .ref (tx 2), .ref (tx 3), .int (nI pa), .int 2])), ((tx 2), .inl (cI, 6, .inl sg)), ((tx 3), .inl (cI, 6, .inl lv))] := hD
          exact W.zret (v := 1) hx hb hr rfl (fun t ht hW => ⟨⟨1, (nI pa, 2, sg, lv), rfl, ⟨(by simp only [tx_r, tx_a, tx_p, tx_s, tx_l, tx_by, if_neg q5, if_neg q19, if_pos q57, if_pos q63]), (by simp only [tx_r, tx_a, tx_p, tx_s, tx_l, tx_by, if_neg q5, if_neg q19, if_pos q57, if_pos q63]), (by simp only [tx_r, tx_a, tx_p, tx_s, tx_l, tx_by, if_neg q5, if_neg q19, if_pos q57, if_pos q63]), (by simp only [tx_r, tx_a, tx_p, tx_s, tx_l, tx_by, if_neg q5, if_neg q19, if_pos q57, if_pos q63]), (by simp only [tx_r, tx_a, tx_p, tx_s, tx_l, tx_by, if_neg q5, if_neg q19, if_pos q57, if_pos q63])⟩, by rw [ht]; exact hP9, hD9⟩, hS.F ht⟩) hS.2.2 dX3_takes_72
    · refine lv_iload_n hx hb dX3_takes_22 rfl (lv_at hl 1 rfl) ?_
      refine lv_bipush (v := 48) hx hb dX3_takes_23 (by decide) ?_
      refine lv_icmp_lt (tgt := 52) hx hb dX3_takes_25 (by decide) (fun q25 => ?_) (fun q25 => ?_)
      · refine lv_aload_n hx hb dX3_takes_52 rfl (lv_at hl 0 rfl) ?_
        refine va_get (D := (dC, dI)) (ci := 3) (v := .int pl) (C := RX3) (T := TX3) (N := 6) hx hb hts hin3 hown hK hP 0 rfl rfl 5 (by decide) (hts (.fieldLink RX3 28 "TurnDigits$Text" "place" "I") (by decide +kernel)) (fun _ h9 => h9) rfl dX3_takes_53 ?_
        refine lv_iconst (v := 1) hx hb dX3_takes_56 (by decide) ?_
        refine lv_icmp_ne (tgt := 73) hx hb dX3_takes_57 (by decide) (fun q57 => ?_) (fun q57 => ?_)
        · refine lv_aload_n hx hb dX3_takes_73 rfl (lv_at hl 0 rfl) ?_
          refine lv_iload_n hx hb dX3_takes_74 rfl (lv_at hl 1 rfl) ?_
          have hPc := hP.sub (ws' := [((tx 0), .inr (3, [.ref (tx 1), .int ln, .ref (tx 2), .ref (tx 3), .int (nI pa), .int pl])), ((tx 2), .inl (cI, 6, .inl sg)), ((tx 3), .inl (cI, 6, .inl lv))]) [0, 1, 2] rfl
          have hDc := hD.sub (ws' := [((tx 0), .inr (3, [.ref (tx 1), .int ln, .ref (tx 2), .ref (tx 3), .int (nI pa), .int pl])), ((tx 2), .inl (cI, 6, .inl sg)), ((tx 3), .inl (cI, 6, .inl lv))]) [0, 1, 2] (by decide) rfl
          have hFc := va_free (wc := [((tx 0), .inr (3, [.ref (tx 1), .int ln, .ref (tx 2), .ref (tx 3), .int (nI pa), .int pl])), ((tx 2), .inl (cI, 6, .inl sg)), ((tx 3), .inl (cI, 6, .inl lv))]) hD hS hA [0, 1, 2] rfl
          refine va_calli (va_runV (As := [.int c0]) (rest := []) ⟨hx, hb, hml, hown, hts⟩ (c_X3_takesSign l dC dI cI cS cJ tt s.heap.size tx ln pl sg lv pa c0) (cwV 1 hts gX3_takes_X3_takesSign rfl rfl rfl (by decide +kernel) ⟨Nat.le_of_ble_eq_true rfl, Nat.le_of_ble_eq_true rfl⟩) ⟨xm_Mblind, va_recv hK hPc (ci := 3) (q0 := 0) rfl rfl, fun U hU hW => ⟨rfl, by rw [hU], by rw [hU]; exact hPc, hE.go hS hFc hU hW, hDc.weaken (fun _ _ _ _ => trivial), hpre⟩⟩ rfl rfl hl.1 rfl (lv_room (Nat.le_of_ble_eq_true rfl)) dX3_takes_75 ⟨Nat.zero_le _, Nat.zero_le _⟩) hS (fun q _ h => hFc q h) hFc (fun r u t H1 locs ht hvm hw hB hz1 hk1 hS => ?_)
          obtain ⟨u_19, u_20, u_21, u_22⟩ := u
          obtain ⟨hP1, hD1⟩ := hB
          rw [ht] at hP1
          obtain ⟨hw_23, hw_24, hw_25, hw_26, hw_27⟩ := hw
          have hw_23 : r = tx_sr c0 pa := hw_23
          subst hw_23
          have hw_24 : u_19 = nI (tx_sa c0 pa) := hw_24
          subst hw_24
          have hw_25 : u_20 = tx_sp c0 pa pl := hw_25
          subst hw_25
          have hw_26 : u_21 = tx_ss c0 pa sg := hw_26
          subst hw_26
          have hw_27 : u_22 = tx_sl c0 pa lv := hw_27
          subst hw_27
          obtain ⟨hP, hD⟩ := va_join (wr := []) (w1 := [((tx 0), .inr (3, [.ref (tx 1), .int ln, .ref (tx 2), .ref (tx 3), .int (nI (tx_sa c0 pa)), .int (tx_sp c0 pa pl)])), ((tx 2), .inl (cI, 6, .inl (tx_ss c0 pa sg))), ((tx 3), .inl (cI, 6, .inl (tx_sl c0 pa lv)))]) hP hD [0, 1, 2] [] rfl rfl (by decide) (by decide) hk1 hFc hP1 hD1
          generalize H1 = H at hP hS ⊢
          have hP : va_P (dC, dI) vwCl [((tx 0), .inr (3, [.ref (tx 1), .int ln, .ref (tx 2), .ref (tx 3), .int (nI (tx_sa c0 pa)), .int (tx_sp c0 pa pl)])), ((tx 2), .inl (cI, 6, .inl (tx_ss c0 pa sg))), ((tx 3), .inl (cI, 6, .inl (tx_sl c0 pa lv)))] H := hP
          have hD : va_D A [((tx 0), .inr (3, [.ref (tx 1), .int ln, .ref (tx 2), .ref (tx 3), .int (nI (tx_sa c0 pa)), .int (tx_sp c0 pa pl)])), ((tx 2), .inl (cI, 6, .inl (tx_ss c0 pa sg))), ((tx 3), .inl (cI, 6, .inl (tx_sl c0 pa lv)))] := hD
          have hP9 : va_P (dC, dI) vwCl [((tx 0), .inr (3, [.ref (tx 1), .int ln, .ref (tx 2), .ref (tx 3), .int (nI (tx_sa c0 pa)), .int (tx_sp c0 pa pl)])), ((tx 2), .inl (cI, 6, .inl (tx_ss c0 pa sg))), ((tx 3), .inl (cI, 6, .inl (tx_sl c0 pa lv)))] H := hP
          have hD9 : va_D A [((tx 0), .inr (3, [.ref (tx 1), .int ln, .ref (tx 2), .ref (tx 3), .int (nI (tx_sa c0 pa)), .int (tx_sp c0 pa pl)])), ((tx 2), .inl (cI, 6, .inl (tx_ss c0 pa sg))), ((tx 3), .inl (cI, 6, .inl (tx_sl c0 pa lv)))] := hD
          exact W.zret (v := tx_sr c0 pa) hx hb hr (by unfold tx_sr; (repeat' split) <;> rfl) (fun t ht hW => ⟨⟨tx_sr c0 pa, ((nI (tx_sa c0 pa)), (tx_sp c0 pa pl), (tx_ss c0 pa sg), (tx_sl c0 pa lv)), rfl, ⟨(by simp only [tx_r, tx_a, tx_p, tx_s, tx_l, tx_by, if_neg q5, if_pos q19, if_pos q25, if_neg q57]), (by simp only [tx_r, tx_a, tx_p, tx_s, tx_l, tx_by, if_neg q5, if_pos q19, if_pos q25, if_neg q57]), (by simp only [tx_r, tx_a, tx_p, tx_s, tx_l, tx_by, if_neg q5, if_pos q19, if_pos q25, if_neg q57]), (by simp only [tx_r, tx_a, tx_p, tx_s, tx_l, tx_by, if_neg q5, if_pos q19, if_pos q25, if_neg q57]), (by simp only [tx_r, tx_a, tx_p, tx_s, tx_l, tx_by, if_neg q5, if_pos q19, if_pos q25, if_neg q57])⟩, by rw [ht]; exact hP9, hD9⟩, hS.F ht⟩) hS.2.2 dX3_takes_78
        · refine lv_iload_n hx hb dX3_takes_60 rfl (lv_at hl 1 rfl) ?_
          refine lv_bipush (v := 42) hx hb dX3_takes_61 (by decide) ?_
          refine lv_icmp_ne (tgt := 73) hx hb dX3_takes_63 (by decide) (fun q63 => ?_) (fun q63 => ?_)
          · refine lv_aload_n hx hb dX3_takes_73 rfl (lv_at hl 0 rfl) ?_
            refine lv_iload_n hx hb dX3_takes_74 rfl (lv_at hl 1 rfl) ?_
            have hPc := hP.sub (ws' := [((tx 0), .inr (3, [.ref (tx 1), .int ln, .ref (tx 2), .ref (tx 3), .int (nI pa), .int pl])), ((tx 2), .inl (cI, 6, .inl sg)), ((tx 3), .inl (cI, 6, .inl lv))]) [0, 1, 2] rfl
            have hDc := hD.sub (ws' := [((tx 0), .inr (3, [.ref (tx 1), .int ln, .ref (tx 2), .ref (tx 3), .int (nI pa), .int pl])), ((tx 2), .inl (cI, 6, .inl sg)), ((tx 3), .inl (cI, 6, .inl lv))]) [0, 1, 2] (by decide) rfl
            have hFc := va_free (wc := [((tx 0), .inr (3, [.ref (tx 1), .int ln, .ref (tx 2), .ref (tx 3), .int (nI pa), .int pl])), ((tx 2), .inl (cI, 6, .inl sg)), ((tx 3), .inl (cI, 6, .inl lv))]) hD hS hA [0, 1, 2] rfl
            refine va_calli (va_runV (As := [.int c0]) (rest := []) ⟨hx, hb, hml, hown, hts⟩ (c_X3_takesSign l dC dI cI cS cJ tt s.heap.size tx ln pl sg lv pa c0) (cwV 1 hts gX3_takes_X3_takesSign rfl rfl rfl (by decide +kernel) ⟨Nat.le_of_ble_eq_true rfl, Nat.le_of_ble_eq_true rfl⟩) ⟨xm_Mblind, va_recv hK hPc (ci := 3) (q0 := 0) rfl rfl, fun U hU hW => ⟨rfl, by rw [hU], by rw [hU]; exact hPc, hE.go hS hFc hU hW, hDc.weaken (fun _ _ _ _ => trivial), hpre⟩⟩ rfl rfl hl.1 rfl (lv_room (Nat.le_of_ble_eq_true rfl)) dX3_takes_75 ⟨Nat.zero_le _, Nat.zero_le _⟩) hS (fun q _ h => hFc q h) hFc (fun r u t H1 locs ht hvm hw hB hz1 hk1 hS => ?_)
            obtain ⟨u_28, u_29, u_30, u_31⟩ := u
            obtain ⟨hP1, hD1⟩ := hB
            rw [ht] at hP1
            obtain ⟨hw_32, hw_33, hw_34, hw_35, hw_36⟩ := hw
            have hw_32 : r = tx_sr c0 pa := hw_32
            subst hw_32
            have hw_33 : u_28 = nI (tx_sa c0 pa) := hw_33
            subst hw_33
            have hw_34 : u_29 = tx_sp c0 pa pl := hw_34
            subst hw_34
            have hw_35 : u_30 = tx_ss c0 pa sg := hw_35
            subst hw_35
            have hw_36 : u_31 = tx_sl c0 pa lv := hw_36
            subst hw_36
            obtain ⟨hP, hD⟩ := va_join (wr := []) (w1 := [((tx 0), .inr (3, [.ref (tx 1), .int ln, .ref (tx 2), .ref (tx 3), .int (nI (tx_sa c0 pa)), .int (tx_sp c0 pa pl)])), ((tx 2), .inl (cI, 6, .inl (tx_ss c0 pa sg))), ((tx 3), .inl (cI, 6, .inl (tx_sl c0 pa lv)))]) hP hD [0, 1, 2] [] rfl rfl (by decide) (by decide) hk1 hFc hP1 hD1
            generalize H1 = H at hP hS ⊢
            have hP : va_P (dC, dI) vwCl [((tx 0), .inr (3, [.ref (tx 1), .int ln, .ref (tx 2), .ref (tx 3), .int (nI (tx_sa c0 pa)), .int (tx_sp c0 pa pl)])), ((tx 2), .inl (cI, 6, .inl (tx_ss c0 pa sg))), ((tx 3), .inl (cI, 6, .inl (tx_sl c0 pa lv)))] H := hP
            have hD : va_D A [((tx 0), .inr (3, [.ref (tx 1), .int ln, .ref (tx 2), .ref (tx 3), .int (nI (tx_sa c0 pa)), .int (tx_sp c0 pa pl)])), ((tx 2), .inl (cI, 6, .inl (tx_ss c0 pa sg))), ((tx 3), .inl (cI, 6, .inl (tx_sl c0 pa lv)))] := hD
            have hP9 : va_P (dC, dI) vwCl [((tx 0), .inr (3, [.ref (tx 1), .int ln, .ref (tx 2), .ref (tx 3), .int (nI (tx_sa c0 pa)), .int (tx_sp c0 pa pl)])), ((tx 2), .inl (cI, 6, .inl (tx_ss c0 pa sg))), ((tx 3), .inl (cI, 6, .inl (tx_sl c0 pa lv)))] H := hP
            have hD9 : va_D A [((tx 0), .inr (3, [.ref (tx 1), .int ln, .ref (tx 2), .ref (tx 3), .int (nI (tx_sa c0 pa)), .int (tx_sp c0 pa pl)])), ((tx 2), .inl (cI, 6, .inl (tx_ss c0 pa sg))), ((tx 3), .inl (cI, 6, .inl (tx_sl c0 pa lv)))] := hD
            exact W.zret (v := tx_sr c0 pa) hx hb hr (by unfold tx_sr; (repeat' split) <;> rfl) (fun t ht hW => ⟨⟨tx_sr c0 pa, ((nI (tx_sa c0 pa)), (tx_sp c0 pa pl), (tx_ss c0 pa sg), (tx_sl c0 pa lv)), rfl, ⟨(by simp only [tx_r, tx_a, tx_p, tx_s, tx_l, tx_by, if_neg q5, if_pos q19, if_pos q25, if_pos q57, if_neg q63]), (by simp only [tx_r, tx_a, tx_p, tx_s, tx_l, tx_by, if_neg q5, if_pos q19, if_pos q25, if_pos q57, if_neg q63]), (by simp only [tx_r, tx_a, tx_p, tx_s, tx_l, tx_by, if_neg q5, if_pos q19, if_pos q25, if_pos q57, if_neg q63]), (by simp only [tx_r, tx_a, tx_p, tx_s, tx_l, tx_by, if_neg q5, if_pos q19, if_pos q25, if_pos q57, if_neg q63]), (by simp only [tx_r, tx_a, tx_p, tx_s, tx_l, tx_by, if_neg q5, if_pos q19, if_pos q25, if_pos q57, if_neg q63])⟩, by rw [ht]; exact hP9, hD9⟩, hS.F ht⟩) hS.2.2 dX3_takes_78
          · refine lv_aload_n hx hb dX3_takes_66 rfl (lv_at hl 0 rfl) ?_
            refine lv_iconst (v := 2) hx hb dX3_takes_67 (by decide) ?_
            refine va_put (D := (dC, dI)) (ci := 3) (v := .int 2) (ty := .int) (C := RX3) (T := TX3) (N := 6) hx hb hts hin3 tyX3 tyX3_ok nmX3 hown hK hP hD hS 0 rfl rfl 5 (by decide) (hts (.fieldLink RX3 28 "TurnDigits$Text" "place" "I") (by decide +kernel)) (fun _ h9 => h9) rfl (by decide +kernel) rfl rfl (Nat.le_of_ble_eq_true rfl) dX3_takes_68 (fun H locs hP hD hS => ?_)
            have hP : va_P (dC, dI) vwCl [((tx 0), .inr (3, [.ref (tx 1), .int ln, .ref (tx 2), .ref (tx 3), .int (nI pa), .int 2])), ((tx 2), .inl (cI, 6, .inl sg)), ((tx 3), .inl (cI, 6, .inl lv))] H := hP
            have hD : va_D A [((tx 0), .inr (3, [.ref (tx 1), .int ln, .ref (tx 2), .ref (tx 3), .int (nI pa), .int 2])), ((tx 2), .inl (cI, 6, .inl sg)), ((tx 3), .inl (cI, 6, .inl lv))] := hD
            refine lv_iconst (v := 1) hx hb dX3_takes_71 (by decide) ?_
            have hP9 : va_P (dC, dI) vwCl [((tx 0), .inr (3, [.ref (tx 1), .int ln, .ref (tx 2), .ref (tx 3), .int (nI pa), .int 2])), ((tx 2), .inl (cI, 6, .inl sg)), ((tx 3), .inl (cI, 6, .inl lv))] H := hP
            have hD9 : va_D A [((tx 0), .inr (3, [.ref (tx 1), .int ln, .ref (tx 2), .ref (tx 3), .int (nI pa), .int 2])), ((tx 2), .inl (cI, 6, .inl sg)), ((tx 3), .inl (cI, 6, .inl lv))] := hD
            exact W.zret (v := 1) hx hb hr rfl (fun t ht hW => ⟨⟨1, (nI pa, 2, sg, lv), rfl, ⟨(by simp only [tx_r, tx_a, tx_p, tx_s, tx_l, tx_by, if_neg q5, if_pos q19, if_pos q25, if_pos q57, if_pos q63]), (by simp only [tx_r, tx_a, tx_p, tx_s, tx_l, tx_by, if_neg q5, if_pos q19, if_pos q25, if_pos q57, if_pos q63]), (by simp only [tx_r, tx_a, tx_p, tx_s, tx_l, tx_by, if_neg q5, if_pos q19, if_pos q25, if_pos q57, if_pos q63]), (by simp only [tx_r, tx_a, tx_p, tx_s, tx_l, tx_by, if_neg q5, if_pos q19, if_pos q25, if_pos q57, if_pos q63]), (by simp only [tx_r, tx_a, tx_p, tx_s, tx_l, tx_by, if_neg q5, if_pos q19, if_pos q25, if_pos q57, if_pos q63])⟩, by rw [ht]; exact hP9, hD9⟩, hS.F ht⟩) hS.2.2 dX3_takes_72
      · refine lv_iload_n hx hb dX3_takes_28 rfl (lv_at hl 1 rfl) ?_
        refine lv_bipush (v := 53) hx hb dX3_takes_29 (by decide) ?_
        refine lv_icmp_gt (tgt := 52) hx hb dX3_takes_31 (by decide) (fun q31 => ?_) (fun q31 => ?_)
        · refine lv_aload_n hx hb dX3_takes_52 rfl (lv_at hl 0 rfl) ?_
          refine va_get (D := (dC, dI)) (ci := 3) (v := .int pl) (C := RX3) (T := TX3) (N := 6) hx hb hts hin3 hown hK hP 0 rfl rfl 5 (by decide) (hts (.fieldLink RX3 28 "TurnDigits$Text" "place" "I") (by decide +kernel)) (fun _ h9 => h9) rfl dX3_takes_53 ?_
          refine lv_iconst (v := 1) hx hb dX3_takes_56 (by decide) ?_
          refine lv_icmp_ne (tgt := 73) hx hb dX3_takes_57 (by decide) (fun q57 => ?_) (fun q57 => ?_)
          · refine lv_aload_n hx hb dX3_takes_73 rfl (lv_at hl 0 rfl) ?_
            refine lv_iload_n hx hb dX3_takes_74 rfl (lv_at hl 1 rfl) ?_
            have hPc := hP.sub (ws' := [((tx 0), .inr (3, [.ref (tx 1), .int ln, .ref (tx 2), .ref (tx 3), .int (nI pa), .int pl])), ((tx 2), .inl (cI, 6, .inl sg)), ((tx 3), .inl (cI, 6, .inl lv))]) [0, 1, 2] rfl
            have hDc := hD.sub (ws' := [((tx 0), .inr (3, [.ref (tx 1), .int ln, .ref (tx 2), .ref (tx 3), .int (nI pa), .int pl])), ((tx 2), .inl (cI, 6, .inl sg)), ((tx 3), .inl (cI, 6, .inl lv))]) [0, 1, 2] (by decide) rfl
            have hFc := va_free (wc := [((tx 0), .inr (3, [.ref (tx 1), .int ln, .ref (tx 2), .ref (tx 3), .int (nI pa), .int pl])), ((tx 2), .inl (cI, 6, .inl sg)), ((tx 3), .inl (cI, 6, .inl lv))]) hD hS hA [0, 1, 2] rfl
            refine va_calli (va_runV (As := [.int c0]) (rest := []) ⟨hx, hb, hml, hown, hts⟩ (c_X3_takesSign l dC dI cI cS cJ tt s.heap.size tx ln pl sg lv pa c0) (cwV 1 hts gX3_takes_X3_takesSign rfl rfl rfl (by decide +kernel) ⟨Nat.le_of_ble_eq_true rfl, Nat.le_of_ble_eq_true rfl⟩) ⟨xm_Mblind, va_recv hK hPc (ci := 3) (q0 := 0) rfl rfl, fun U hU hW => ⟨rfl, by rw [hU], by rw [hU]; exact hPc, hE.go hS hFc hU hW, hDc.weaken (fun _ _ _ _ => trivial), hpre⟩⟩ rfl rfl hl.1 rfl (lv_room (Nat.le_of_ble_eq_true rfl)) dX3_takes_75 ⟨Nat.zero_le _, Nat.zero_le _⟩) hS (fun q _ h => hFc q h) hFc (fun r u t H1 locs ht hvm hw hB hz1 hk1 hS => ?_)
            obtain ⟨u_37, u_38, u_39, u_40⟩ := u
            obtain ⟨hP1, hD1⟩ := hB
            rw [ht] at hP1
            obtain ⟨hw_41, hw_42, hw_43, hw_44, hw_45⟩ := hw
            have hw_41 : r = tx_sr c0 pa := hw_41
            subst hw_41
            have hw_42 : u_37 = nI (tx_sa c0 pa) := hw_42
            subst hw_42
            have hw_43 : u_38 = tx_sp c0 pa pl := hw_43
            subst hw_43
            have hw_44 : u_39 = tx_ss c0 pa sg := hw_44
            subst hw_44
            have hw_45 : u_40 = tx_sl c0 pa lv := hw_45
            subst hw_45
            obtain ⟨hP, hD⟩ := va_join (wr := []) (w1 := [((tx 0), .inr (3, [.ref (tx 1), .int ln, .ref (tx 2), .ref (tx 3), .int (nI (tx_sa c0 pa)), .int (tx_sp c0 pa pl)])), ((tx 2), .inl (cI, 6, .inl (tx_ss c0 pa sg))), ((tx 3), .inl (cI, 6, .inl (tx_sl c0 pa lv)))]) hP hD [0, 1, 2] [] rfl rfl (by decide) (by decide) hk1 hFc hP1 hD1
            generalize H1 = H at hP hS ⊢
            have hP : va_P (dC, dI) vwCl [((tx 0), .inr (3, [.ref (tx 1), .int ln, .ref (tx 2), .ref (tx 3), .int (nI (tx_sa c0 pa)), .int (tx_sp c0 pa pl)])), ((tx 2), .inl (cI, 6, .inl (tx_ss c0 pa sg))), ((tx 3), .inl (cI, 6, .inl (tx_sl c0 pa lv)))] H := hP
            have hD : va_D A [((tx 0), .inr (3, [.ref (tx 1), .int ln, .ref (tx 2), .ref (tx 3), .int (nI (tx_sa c0 pa)), .int (tx_sp c0 pa pl)])), ((tx 2), .inl (cI, 6, .inl (tx_ss c0 pa sg))), ((tx 3), .inl (cI, 6, .inl (tx_sl c0 pa lv)))] := hD
            have hP9 : va_P (dC, dI) vwCl [((tx 0), .inr (3, [.ref (tx 1), .int ln, .ref (tx 2), .ref (tx 3), .int (nI (tx_sa c0 pa)), .int (tx_sp c0 pa pl)])), ((tx 2), .inl (cI, 6, .inl (tx_ss c0 pa sg))), ((tx 3), .inl (cI, 6, .inl (tx_sl c0 pa lv)))] H := hP
            have hD9 : va_D A [((tx 0), .inr (3, [.ref (tx 1), .int ln, .ref (tx 2), .ref (tx 3), .int (nI (tx_sa c0 pa)), .int (tx_sp c0 pa pl)])), ((tx 2), .inl (cI, 6, .inl (tx_ss c0 pa sg))), ((tx 3), .inl (cI, 6, .inl (tx_sl c0 pa lv)))] := hD
            exact W.zret (v := tx_sr c0 pa) hx hb hr (by unfold tx_sr; (repeat' split) <;> rfl) (fun t ht hW => ⟨⟨tx_sr c0 pa, ((nI (tx_sa c0 pa)), (tx_sp c0 pa pl), (tx_ss c0 pa sg), (tx_sl c0 pa lv)), rfl, ⟨(by simp only [tx_r, tx_a, tx_p, tx_s, tx_l, tx_by, if_neg q5, if_pos q19, if_neg q25, if_pos q31, if_neg q57]), (by simp only [tx_r, tx_a, tx_p, tx_s, tx_l, tx_by, if_neg q5, if_pos q19, if_neg q25, if_pos q31, if_neg q57]), (by simp only [tx_r, tx_a, tx_p, tx_s, tx_l, tx_by, if_neg q5, if_pos q19, if_neg q25, if_pos q31, if_neg q57]), (by simp only [tx_r, tx_a, tx_p, tx_s, tx_l, tx_by, if_neg q5, if_pos q19, if_neg q25, if_pos q31, if_neg q57]), (by simp only [tx_r, tx_a, tx_p, tx_s, tx_l, tx_by, if_neg q5, if_pos q19, if_neg q25, if_pos q31, if_neg q57])⟩, by rw [ht]; exact hP9, hD9⟩, hS.F ht⟩) hS.2.2 dX3_takes_78
          · refine lv_iload_n hx hb dX3_takes_60 rfl (lv_at hl 1 rfl) ?_
            refine lv_bipush (v := 42) hx hb dX3_takes_61 (by decide) ?_
            refine lv_icmp_ne (tgt := 73) hx hb dX3_takes_63 (by decide) (fun q63 => ?_) (fun q63 => ?_)
            · refine lv_aload_n hx hb dX3_takes_73 rfl (lv_at hl 0 rfl) ?_
              refine lv_iload_n hx hb dX3_takes_74 rfl (lv_at hl 1 rfl) ?_
              have hPc := hP.sub (ws' := [((tx 0), .inr (3, [.ref (tx 1), .int ln, .ref (tx 2), .ref (tx 3), .int (nI pa), .int pl])), ((tx 2), .inl (cI, 6, .inl sg)), ((tx 3), .inl (cI, 6, .inl lv))]) [0, 1, 2] rfl
              have hDc := hD.sub (ws' := [((tx 0), .inr (3, [.ref (tx 1), .int ln, .ref (tx 2), .ref (tx 3), .int (nI pa), .int pl])), ((tx 2), .inl (cI, 6, .inl sg)), ((tx 3), .inl (cI, 6, .inl lv))]) [0, 1, 2] (by decide) rfl
              have hFc := va_free (wc := [((tx 0), .inr (3, [.ref (tx 1), .int ln, .ref (tx 2), .ref (tx 3), .int (nI pa), .int pl])), ((tx 2), .inl (cI, 6, .inl sg)), ((tx 3), .inl (cI, 6, .inl lv))]) hD hS hA [0, 1, 2] rfl
              refine va_calli (va_runV (As := [.int c0]) (rest := []) ⟨hx, hb, hml, hown, hts⟩ (c_X3_takesSign l dC dI cI cS cJ tt s.heap.size tx ln pl sg lv pa c0) (cwV 1 hts gX3_takes_X3_takesSign rfl rfl rfl (by decide +kernel) ⟨Nat.le_of_ble_eq_true rfl, Nat.le_of_ble_eq_true rfl⟩) ⟨xm_Mblind, va_recv hK hPc (ci := 3) (q0 := 0) rfl rfl, fun U hU hW => ⟨rfl, by rw [hU], by rw [hU]; exact hPc, hE.go hS hFc hU hW, hDc.weaken (fun _ _ _ _ => trivial), hpre⟩⟩ rfl rfl hl.1 rfl (lv_room (Nat.le_of_ble_eq_true rfl)) dX3_takes_75 ⟨Nat.zero_le _, Nat.zero_le _⟩) hS (fun q _ h => hFc q h) hFc (fun r u t H1 locs ht hvm hw hB hz1 hk1 hS => ?_)
              obtain ⟨u_46, u_47, u_48, u_49⟩ := u
              obtain ⟨hP1, hD1⟩ := hB
              rw [ht] at hP1
              obtain ⟨hw_50, hw_51, hw_52, hw_53, hw_54⟩ := hw
              have hw_50 : r = tx_sr c0 pa := hw_50
              subst hw_50
              have hw_51 : u_46 = nI (tx_sa c0 pa) := hw_51
              subst hw_51
              have hw_52 : u_47 = tx_sp c0 pa pl := hw_52
              subst hw_52
              have hw_53 : u_48 = tx_ss c0 pa sg := hw_53
              subst hw_53
              have hw_54 : u_49 = tx_sl c0 pa lv := hw_54
              subst hw_54
              obtain ⟨hP, hD⟩ := va_join (wr := []) (w1 := [((tx 0), .inr (3, [.ref (tx 1), .int ln, .ref (tx 2), .ref (tx 3), .int (nI (tx_sa c0 pa)), .int (tx_sp c0 pa pl)])), ((tx 2), .inl (cI, 6, .inl (tx_ss c0 pa sg))), ((tx 3), .inl (cI, 6, .inl (tx_sl c0 pa lv)))]) hP hD [0, 1, 2] [] rfl rfl (by decide) (by decide) hk1 hFc hP1 hD1
              generalize H1 = H at hP hS ⊢
              have hP : va_P (dC, dI) vwCl [((tx 0), .inr (3, [.ref (tx 1), .int ln, .ref (tx 2), .ref (tx 3), .int (nI (tx_sa c0 pa)), .int (tx_sp c0 pa pl)])), ((tx 2), .inl (cI, 6, .inl (tx_ss c0 pa sg))), ((tx 3), .inl (cI, 6, .inl (tx_sl c0 pa lv)))] H := hP
              have hD : va_D A [((tx 0), .inr (3, [.ref (tx 1), .int ln, .ref (tx 2), .ref (tx 3), .int (nI (tx_sa c0 pa)), .int (tx_sp c0 pa pl)])), ((tx 2), .inl (cI, 6, .inl (tx_ss c0 pa sg))), ((tx 3), .inl (cI, 6, .inl (tx_sl c0 pa lv)))] := hD
              have hP9 : va_P (dC, dI) vwCl [((tx 0), .inr (3, [.ref (tx 1), .int ln, .ref (tx 2), .ref (tx 3), .int (nI (tx_sa c0 pa)), .int (tx_sp c0 pa pl)])), ((tx 2), .inl (cI, 6, .inl (tx_ss c0 pa sg))), ((tx 3), .inl (cI, 6, .inl (tx_sl c0 pa lv)))] H := hP
              have hD9 : va_D A [((tx 0), .inr (3, [.ref (tx 1), .int ln, .ref (tx 2), .ref (tx 3), .int (nI (tx_sa c0 pa)), .int (tx_sp c0 pa pl)])), ((tx 2), .inl (cI, 6, .inl (tx_ss c0 pa sg))), ((tx 3), .inl (cI, 6, .inl (tx_sl c0 pa lv)))] := hD
              exact W.zret (v := tx_sr c0 pa) hx hb hr (by unfold tx_sr; (repeat' split) <;> rfl) (fun t ht hW => ⟨⟨tx_sr c0 pa, ((nI (tx_sa c0 pa)), (tx_sp c0 pa pl), (tx_ss c0 pa sg), (tx_sl c0 pa lv)), rfl, ⟨(by simp only [tx_r, tx_a, tx_p, tx_s, tx_l, tx_by, if_neg q5, if_pos q19, if_neg q25, if_pos q31, if_pos q57, if_neg q63]), (by simp only [tx_r, tx_a, tx_p, tx_s, tx_l, tx_by, if_neg q5, if_pos q19, if_neg q25, if_pos q31, if_pos q57, if_neg q63]), (by simp only [tx_r, tx_a, tx_p, tx_s, tx_l, tx_by, if_neg q5, if_pos q19, if_neg q25, if_pos q31, if_pos q57, if_neg q63]), (by simp only [tx_r, tx_a, tx_p, tx_s, tx_l, tx_by, if_neg q5, if_pos q19, if_neg q25, if_pos q31, if_pos q57, if_neg q63]), (by simp only [tx_r, tx_a, tx_p, tx_s, tx_l, tx_by, if_neg q5, if_pos q19, if_neg q25, if_pos q31, if_pos q57, if_neg q63])⟩, by rw [ht]; exact hP9, hD9⟩, hS.F ht⟩) hS.2.2 dX3_takes_78
            · refine lv_aload_n hx hb dX3_takes_66 rfl (lv_at hl 0 rfl) ?_
              refine lv_iconst (v := 2) hx hb dX3_takes_67 (by decide) ?_
              refine va_put (D := (dC, dI)) (ci := 3) (v := .int 2) (ty := .int) (C := RX3) (T := TX3) (N := 6) hx hb hts hin3 tyX3 tyX3_ok nmX3 hown hK hP hD hS 0 rfl rfl 5 (by decide) (hts (.fieldLink RX3 28 "TurnDigits$Text" "place" "I") (by decide +kernel)) (fun _ h9 => h9) rfl (by decide +kernel) rfl rfl (Nat.le_of_ble_eq_true rfl) dX3_takes_68 (fun H locs hP hD hS => ?_)
              have hP : va_P (dC, dI) vwCl [((tx 0), .inr (3, [.ref (tx 1), .int ln, .ref (tx 2), .ref (tx 3), .int (nI pa), .int 2])), ((tx 2), .inl (cI, 6, .inl sg)), ((tx 3), .inl (cI, 6, .inl lv))] H := hP
              have hD : va_D A [((tx 0), .inr (3, [.ref (tx 1), .int ln, .ref (tx 2), .ref (tx 3), .int (nI pa), .int 2])), ((tx 2), .inl (cI, 6, .inl sg)), ((tx 3), .inl (cI, 6, .inl lv))] := hD
              refine lv_iconst (v := 1) hx hb dX3_takes_71 (by decide) ?_
              have hP9 : va_P (dC, dI) vwCl [((tx 0), .inr (3, [.ref (tx 1), .int ln, .ref (tx 2), .ref (tx 3), .int (nI pa), .int 2])), ((tx 2), .inl (cI, 6, .inl sg)), ((tx 3), .inl (cI, 6, .inl lv))] H := hP
              have hD9 : va_D A [((tx 0), .inr (3, [.ref (tx 1), .int ln, .ref (tx 2), .ref (tx 3), .int (nI pa), .int 2])), ((tx 2), .inl (cI, 6, .inl sg)), ((tx 3), .inl (cI, 6, .inl lv))] := hD
              exact W.zret (v := 1) hx hb hr rfl (fun t ht hW => ⟨⟨1, (nI pa, 2, sg, lv), rfl, ⟨(by simp only [tx_r, tx_a, tx_p, tx_s, tx_l, tx_by, if_neg q5, if_pos q19, if_neg q25, if_pos q31, if_pos q57, if_pos q63]), (by simp only [tx_r, tx_a, tx_p, tx_s, tx_l, tx_by, if_neg q5, if_pos q19, if_neg q25, if_pos q31, if_pos q57, if_pos q63]), (by simp only [tx_r, tx_a, tx_p, tx_s, tx_l, tx_by, if_neg q5, if_pos q19, if_neg q25, if_pos q31, if_pos q57, if_pos q63]), (by simp only [tx_r, tx_a, tx_p, tx_s, tx_l, tx_by, if_neg q5, if_pos q19, if_neg q25, if_pos q31, if_pos q57, if_pos q63]), (by simp only [tx_r, tx_a, tx_p, tx_s, tx_l, tx_by, if_neg q5, if_pos q19, if_neg q25, if_pos q31, if_pos q57, if_pos q63])⟩, by rw [ht]; exact hP9, hD9⟩, hS.F ht⟩) hS.2.2 dX3_takes_72
        · refine lv_aload_n hx hb dX3_takes_34 rfl (lv_at hl 0 rfl) ?_
          refine lv_bipush (v := 10) hx hb dX3_takes_35 (by decide) ?_
          refine lv_iload_n hx hb dX3_takes_37 rfl (lv_at hl 1 rfl) ?_
          refine lv_iadd hx hb dX3_takes_38 ?_
          refine lv_bipush (v := 48) hx hb dX3_takes_39 (by decide) ?_
          refine lv_isub hx hb dX3_takes_41 ?_
          have hPc := hP.sub (ws' := [((tx 0), .inr (3, [.ref (tx 1), .int ln, .ref (tx 2), .ref (tx 3), .int (nI pa), .int pl])), ((tx 3), .inl (cI, 6, .inl lv))]) [0, 2] rfl
          have hDc := hD.sub (ws' := [((tx 0), .inr (3, [.ref (tx 1), .int ln, .ref (tx 2), .ref (tx 3), .int (nI pa), .int pl])), ((tx 3), .inl (cI, 6, .inl lv))]) [0, 2] (by decide) rfl
          have hFc := va_free (wc := [((tx 0), .inr (3, [.ref (tx 1), .int ln, .ref (tx 2), .ref (tx 3), .int (nI pa), .int pl])), ((tx 3), .inl (cI, 6, .inl lv))]) hD hS hA [0, 2] rfl
          refine va_callv (va_runV (As := [.int ((10 + c0) - 48)]) (rest := []) ⟨hx, hb, hml, hown, hts⟩ (c_X3_tellLevel l dC dI cI cS cJ tt s.heap.size tx ln pl lv pa ((10 + c0) - 48)) (cwV 1 hts gX3_takes_X3_tellLevel rfl rfl rfl (by decide +kernel) ⟨Nat.le_of_ble_eq_true rfl, Nat.le_of_ble_eq_true rfl⟩) ⟨xm_Mblind, va_recv hK hPc (ci := 3) (q0 := 0) rfl rfl, fun U hU hW => ⟨rfl, by rw [hU], by rw [hU]; exact hPc, hE.go hS hFc hU hW, hDc.weaken (fun _ _ _ _ => trivial), hpre⟩⟩ rfl rfl hl.1 rfl (lv_room (Nat.le_of_ble_eq_true rfl)) dX3_takes_42 ⟨Nat.zero_le _, Nat.zero_le _⟩) hS (fun q _ h => hFc q h) hFc (fun u t H1 locs ht hvm hw hB hz1 hk1 hS => ?_)
          obtain ⟨u_55, rfl⟩ : ∃ z, z = u := ⟨_, rfl⟩
          obtain ⟨hP1, hD1⟩ := hB
          rw [ht] at hP1
          have hw_56 := hw
          have hw_56 : u_55 = tx_tl pa ((10 + c0) - 48) lv := hw_56
          subst hw_56
          obtain ⟨hP, hD⟩ := va_join (wr := [((tx 2), .inl (cI, 6, .inl sg))]) (w1 := [((tx 0), .inr (3, [.ref (tx 1), .int ln, .ref (tx 2), .ref (tx 3), .int (nI pa), .int pl])), ((tx 3), .inl (cI, 6, .inl (tx_tl pa ((10 + c0) - 48) lv)))]) hP hD [0, 2] [1] rfl rfl (by decide) (by decide) hk1 hFc hP1 hD1
          generalize H1 = H at hP hS ⊢
          have hP : va_P (dC, dI) vwCl [((tx 2), .inl (cI, 6, .inl sg)), ((tx 0), .inr (3, [.ref (tx 1), .int ln, .ref (tx 2), .ref (tx 3), .int (nI pa), .int pl])), ((tx 3), .inl (cI, 6, .inl (tx_tl pa ((10 + c0) - 48) lv)))] H := hP
          have hD : va_D A [((tx 2), .inl (cI, 6, .inl sg)), ((tx 0), .inr (3, [.ref (tx 1), .int ln, .ref (tx 2), .ref (tx 3), .int (nI pa), .int pl])), ((tx 3), .inl (cI, 6, .inl (tx_tl pa ((10 + c0) - 48) lv)))] := hD
          refine lv_aload_n hx hb dX3_takes_45 rfl (lv_at hl 0 rfl) ?_
          refine lv_iconst (v := 4) hx hb dX3_takes_46 (by decide) ?_
          refine va_put (D := (dC, dI)) (ci := 3) (v := .int 4) (ty := .int) (C := RX3) (T := TX3) (N := 6) hx hb hts hin3 tyX3 tyX3_ok nmX3 hown hK hP hD hS 1 rfl rfl 5 (by decide) (hts (.fieldLink RX3 28 "TurnDigits$Text" "place" "I") (by decide +kernel)) (fun _ h9 => h9) rfl (by decide +kernel) rfl rfl (Nat.le_of_ble_eq_true rfl) dX3_takes_47 (fun H locs hP hD hS => ?_)
          have hP : va_P (dC, dI) vwCl [((tx 2), .inl (cI, 6, .inl sg)), ((tx 0), .inr (3, [.ref (tx 1), .int ln, .ref (tx 2), .ref (tx 3), .int (nI pa), .int 4])), ((tx 3), .inl (cI, 6, .inl (tx_tl pa ((10 + c0) - 48) lv)))] H := hP
          have hD : va_D A [((tx 2), .inl (cI, 6, .inl sg)), ((tx 0), .inr (3, [.ref (tx 1), .int ln, .ref (tx 2), .ref (tx 3), .int (nI pa), .int 4])), ((tx 3), .inl (cI, 6, .inl (tx_tl pa ((10 + c0) - 48) lv)))] := hD
          refine lv_iconst (v := 1) hx hb dX3_takes_50 (by decide) ?_
          have hP9 := hP.sub (ws' := [((tx 0), .inr (3, [.ref (tx 1), .int ln, .ref (tx 2), .ref (tx 3), .int (nI pa), .int 4])), ((tx 2), .inl (cI, 6, .inl sg)), ((tx 3), .inl (cI, 6, .inl (tx_tl pa ((10 + c0) - 48) lv)))]) [1, 0, 2] rfl
          have hD9 := hD.sub (ws' := [((tx 0), .inr (3, [.ref (tx 1), .int ln, .ref (tx 2), .ref (tx 3), .int (nI pa), .int 4])), ((tx 2), .inl (cI, 6, .inl sg)), ((tx 3), .inl (cI, 6, .inl (tx_tl pa ((10 + c0) - 48) lv)))]) [1, 0, 2] (by decide) rfl
          exact W.zret (v := 1) hx hb hr rfl (fun t ht hW => ⟨⟨1, (nI pa, 4, sg, (tx_tl pa ((10 + c0) - 48) lv)), rfl, ⟨(by simp only [tx_r, tx_a, tx_p, tx_s, tx_l, tx_by, if_neg q5, if_pos q19, if_neg q25, if_neg q31]), (by simp only [tx_r, tx_a, tx_p, tx_s, tx_l, tx_by, if_neg q5, if_pos q19, if_neg q25, if_neg q31]), (by simp only [tx_r, tx_a, tx_p, tx_s, tx_l, tx_by, if_neg q5, if_pos q19, if_neg q25, if_neg q31]), (by simp only [tx_r, tx_a, tx_p, tx_s, tx_l, tx_by, if_neg q5, if_pos q19, if_neg q25, if_neg q31]), (by simp only [tx_r, tx_a, tx_p, tx_s, tx_l, tx_by, if_neg q5, if_pos q19, if_neg q25, if_neg q31])⟩, by rw [ht]; exact hP9, hD9⟩, hS.F ht⟩) hS.2.2 dX3_takes_51
  · refine lv_aload_n hx hb dX3_takes_8 rfl (lv_at hl 0 rfl) ?_
    refine lv_iload_n hx hb dX3_takes_9 rfl (lv_at hl 1 rfl) ?_
    have hPc := hP.sub (ws' := [((tx 0), .inr (3, [.ref (tx 1), .int ln, .ref (tx 2), .ref (tx 3), .int (nI pa), .int pl])), ((tx 3), .inl (cI, 6, .inl lv))]) [0, 2] rfl
    have hDc := hD.sub (ws' := [((tx 0), .inr (3, [.ref (tx 1), .int ln, .ref (tx 2), .ref (tx 3), .int (nI pa), .int pl])), ((tx 3), .inl (cI, 6, .inl lv))]) [0, 2] (by decide) rfl
    have hFc := va_free (wc := [((tx 0), .inr (3, [.ref (tx 1), .int ln, .ref (tx 2), .ref (tx 3), .int (nI pa), .int pl])), ((tx 3), .inl (cI, 6, .inl lv))]) hD hS hA [0, 2] rfl
    refine va_calli (va_runV (As := [.int c0]) (rest := []) ⟨hx, hb, hml, hown, hts⟩ (c_X3_takesLevel l dC dI cI cS cJ tt s.heap.size tx ln pl lv pa c0) (cwV 1 hts gX3_takes_X3_takesLevel rfl rfl rfl (by decide +kernel) ⟨Nat.le_of_ble_eq_true rfl, Nat.le_of_ble_eq_true rfl⟩) ⟨xm_Mblind, va_recv hK hPc (ci := 3) (q0 := 0) rfl rfl, fun U hU hW => ⟨rfl, by rw [hU], by rw [hU]; exact hPc, hE.go hS hFc hU hW, hDc.weaken (fun _ _ _ _ => trivial), hpre⟩⟩ rfl rfl hl.1 rfl (lv_room (Nat.le_of_ble_eq_true rfl)) dX3_takes_10 ⟨Nat.zero_le _, Nat.zero_le _⟩) hS (fun q _ h => hFc q h) hFc (fun r u t H1 locs ht hvm hw hB hz1 hk1 hS => ?_)
    obtain ⟨u_57, u_58⟩ := u
    obtain ⟨hP1, hD1⟩ := hB
    rw [ht] at hP1
    obtain ⟨hw_59, hw_60, hw_61⟩ := hw
    have hw_59 : r = tx_lr c0 := hw_59
    subst hw_59
    have hw_60 : u_57 = tx_lp c0 pl := hw_60
    subst hw_60
    have hw_61 : u_58 = tx_ll c0 pa lv := hw_61
    subst hw_61
    obtain ⟨hP, hD⟩ := va_join (wr := [((tx 2), .inl (cI, 6, .inl sg))]) (w1 := [((tx 0), .inr (3, [.ref (tx 1), .int ln, .ref (tx 2), .ref (tx 3), .int (nI pa), .int (tx_lp c0 pl)])), ((tx 3), .inl (cI, 6, .inl (tx_ll c0 pa lv)))]) hP hD [0, 2] [1] rfl rfl (by decide) (by decide) hk1 hFc hP1 hD1
    generalize H1 = H at hP hS ⊢
    have hP : va_P (dC, dI) vwCl [((tx 2), .inl (cI, 6, .inl sg)), ((tx 0), .inr (3, [.ref (tx 1), .int ln, .ref (tx 2), .ref (tx 3), .int (nI pa), .int (tx_lp c0 pl)])), ((tx 3), .inl (cI, 6, .inl (tx_ll c0 pa lv)))] H := hP
    have hD : va_D A [((tx 2), .inl (cI, 6, .inl sg)), ((tx 0), .inr (3, [.ref (tx 1), .int ln, .ref (tx 2), .ref (tx 3), .int (nI pa), .int (tx_lp c0 pl)])), ((tx 3), .inl (cI, 6, .inl (tx_ll c0 pa lv)))] := hD
    have hP9 := hP.sub (ws' := [((tx 0), .inr (3, [.ref (tx 1), .int ln, .ref (tx 2), .ref (tx 3), .int (nI pa), .int (tx_lp c0 pl)])), ((tx 2), .inl (cI, 6, .inl sg)), ((tx 3), .inl (cI, 6, .inl (tx_ll c0 pa lv)))]) [1, 0, 2] rfl
    have hD9 := hD.sub (ws' := [((tx 0), .inr (3, [.ref (tx 1), .int ln, .ref (tx 2), .ref (tx 3), .int (nI pa), .int (tx_lp c0 pl)])), ((tx 2), .inl (cI, 6, .inl sg)), ((tx 3), .inl (cI, 6, .inl (tx_ll c0 pa lv)))]) [1, 0, 2] (by decide) rfl
    exact W.zret (v := tx_lr c0) hx hb hr (by unfold tx_lr; (repeat' split) <;> rfl) (fun t ht hW => ⟨⟨tx_lr c0, (nI pa, (tx_lp c0 pl), sg, (tx_ll c0 pa lv)), rfl, ⟨(by simp only [tx_r, tx_a, tx_p, tx_s, tx_l, tx_by, if_pos q5]), (by simp only [tx_r, tx_a, tx_p, tx_s, tx_l, tx_by, if_pos q5]), (by simp only [tx_r, tx_a, tx_p, tx_s, tx_l, tx_by, if_pos q5]), (by simp only [tx_r, tx_a, tx_p, tx_s, tx_l, tx_by, if_pos q5]), (by simp only [tx_r, tx_a, tx_p, tx_s, tx_l, tx_by, if_pos q5])⟩, by rw [ht]; exact hP9, hD9⟩, hS.F ht⟩) hS.2.2 dX3_takes_13

set_option maxHeartbeats 4000000 in
set_option maxRecDepth 100000 in
theorem c_X3_scan (l : Launch) (dC : Nat → ClassId) (dI : Nat → Nat → Nat) (cI cS cJ : ClassId) (tt : Nat → Nat) (sz : Nat) (tx : Nat → Nat) (n : Nat) (pl : Int32) (pa : Int32) (co : Nat → Int32) (sg : Nat → Int32) (lv : Nat → Int32) : Met l yX3_scan wsX3_scan ({ frames := 3, cells := 0, slots := 0, locals := 63 } : Room) (va_Pc [.ref (tx 0)] (xm_M (dC, dI) cI cS cJ tt [((tx 0), .inr (3, [.ref (tx 1), .int (nI n), .ref (tx 2), .ref (tx 3), .int pa, .int pl])), ((tx 1), .inl (cI, 60, .inl co)), ((tx 2), .inl (cI, 6, .inl sg)), ((tx 3), .inl (cI, 6, .inl lv))] sz (n ≤ 60))) (va_Qi (fun (r : Int32) (u : Int32 × Int32 × (Nat → Int32) × (Nat → Int32)) => r = nI (sc_to co n 0) ∧ u.1 = nI (sc_ap co (sc_to co n 0)).1 ∧ u.2.1 = (sc_ap co (sc_to co n 0)).2 ∧ u.2.2.1 = sc_s co sg (sc_to co n 0) ∧ u.2.2.2 = sc_l co lv (sc_to co n 0)) (xm_B (dC, dI) (fun (u : Int32 × Int32 × (Nat → Int32) × (Nat → Int32)) => [((tx 0), .inr (3, [.ref (tx 1), .int (nI n), .ref (tx 2), .ref (tx 3), .int u.1, .int u.2.1])), ((tx 1), .inl (cI, 60, .inl co)), ((tx 2), .inl (cI, 6, .inl u.2.2.1)), ((tx 3), .inl (cI, 6, .inl u.2.2.2))]) (va_A [((tx 0), .inr (3, [.ref (tx 1), .int (nI n), .ref (tx 2), .ref (tx 3), .int pa, .int pl])), ((tx 1), .inl (cI, 60, .inl co)), ((tx 2), .inl (cI, 6, .inl sg)), ((tx 3), .inl (cI, 6, .inl lv))] sz)) (va_A [((tx 0), .inr (3, [.ref (tx 1), .int (nI n), .ref (tx 2), .ref (tx 3), .int pa, .int pl])), ((tx 1), .inl (cI, 60, .inl co)), ((tx 2), .inl (cI, 6, .inl sg)), ((tx 3), .inl (cI, 6, .inl lv))] sz)) 0 0 (va_A [((tx 0), .inr (3, [.ref (tx 1), .int (nI n), .ref (tx 2), .ref (tx 3), .int pa, .int pl])), ((tx 1), .inl (cI, 60, .inl co)), ((tx 2), .inl (cI, 6, .inl sg)), ((tx 3), .inl (cI, 6, .inl lv))] sz) := by
  refine Met.ofW (cc := cX3_scan) (maxL := 2) (ret := (some .int)) (by decide) rfl ?_
  intro p e s m args below meth c s₁ B hml hv
  obtain ⟨rfl, hsz, hP, hE, hD0, hpre⟩ := hv
  have hx := B.exec
  have hb := B.bytes
  have hr := B.returns
  have hts := atoms_spec (ws := wsX3_scan) B.pre
  have hown : s.vm.findClass RX3 = some m.cls := findClass_of_methodNamed B.named
  have hlocks := B.notSynchronized
  have hK := hE.1
  subst hsz
  have hD := hD0.self (sz := s.heap.size)
  generalize hAe : va_A [((tx 0), .inr (3, [.ref (tx 1), .int (nI n), .ref (tx 2), .ref (tx 3), .int pa, .int pl])), ((tx 1), .inl (cI, 60, .inl co)), ((tx 2), .inl (cI, 6, .inl sg)), ((tx 3), .inl (cI, 6, .inl lv))] s.heap.size = A at hD hE ⊢
  have hA : ∀ q : Nat, s.heap.size ≤ q → A q := fun q h => by rw [← hAe]; exact Or.inr h
  have hS : va_S A s.heap s.heap [] := va_S.rf
  have hP : va_P (dC, dI) vwCl [((tx 0), .inr (3, [.ref (tx 1), .int (nI n), .ref (tx 2), .ref (tx 3), .int pa, .int pl])), ((tx 1), .inl (cI, 60, .inl co)), ((tx 2), .inl (cI, 6, .inl sg)), ((tx 3), .inl (cI, 6, .inl lv))] s.heap := hP
  have hin3 : ∀ w ∈ u_ws RX3 TX3 6, w ∈ wsX3_scan := by decide +kernel
  have hl := lv_entry [.ref (tx 0)] (n := 2) (Nat.le_of_ble_eq_true rfl)
  rw [lg_entry_eq]
  generalize (lg_sl [.ref (tx 0)] ++ List.replicate (2 - (lg_sl [.ref (tx 0)]).length) Slot.unset).toArray = lz at hl ⊢
  have hl : lv_has lz 2 [(0, .ref (tx 0))] := hl
  refine lv_aload_n hx hb dX3_scan_0 rfl (lv_at hl 0 rfl) ?_
  refine lv_iconst (v := 0) hx hb dX3_scan_1 (by decide) ?_
  refine va_put (D := (dC, dI)) (ci := 3) (v := .int 0) (ty := .int) (C := RX3) (T := TX3) (N := 6) hx hb hts hin3 tyX3 tyX3_ok nmX3 hown hK hP hD hS 0 rfl rfl 4 (by decide) (hts (.fieldLink RX3 25 "TurnDigits$Text" "parts" "I") (by decide +kernel)) (fun _ h9 => h9) rfl (by decide +kernel) rfl rfl (Nat.le_of_ble_eq_true rfl) dX3_scan_2 (fun H locs hP hD hS => ?_)
  have hP : va_P (dC, dI) vwCl [((tx 0), .inr (3, [.ref (tx 1), .int (nI n), .ref (tx 2), .ref (tx 3), .int 0, .int pl])), ((tx 1), .inl (cI, 60, .inl co)), ((tx 2), .inl (cI, 6, .inl sg)), ((tx 3), .inl (cI, 6, .inl lv))] H := hP
  have hD : va_D A [((tx 0), .inr (3, [.ref (tx 1), .int (nI n), .ref (tx 2), .ref (tx 3), .int 0, .int pl])), ((tx 1), .inl (cI, 60, .inl co)), ((tx 2), .inl (cI, 6, .inl sg)), ((tx 3), .inl (cI, 6, .inl lv))] := hD
  refine lv_aload_n hx hb dX3_scan_5 rfl (lv_at hl 0 rfl) ?_
  refine lv_iconst (v := 0) hx hb dX3_scan_6 (by decide) ?_
  refine va_put (D := (dC, dI)) (ci := 3) (v := .int 0) (ty := .int) (C := RX3) (T := TX3) (N := 6) hx hb hts hin3 tyX3 tyX3_ok nmX3 hown hK hP hD hS 0 rfl rfl 5 (by decide) (hts (.fieldLink RX3 28 "TurnDigits$Text" "place" "I") (by decide +kernel)) (fun _ h9 => h9) rfl (by decide +kernel) rfl rfl (Nat.le_of_ble_eq_true rfl) dX3_scan_7 (fun H locs hP hD hS => ?_)
  have hP : va_P (dC, dI) vwCl [((tx 0), .inr (3, [.ref (tx 1), .int (nI n), .ref (tx 2), .ref (tx 3), .int 0, .int 0])), ((tx 1), .inl (cI, 60, .inl co)), ((tx 2), .inl (cI, 6, .inl sg)), ((tx 3), .inl (cI, 6, .inl lv))] H := hP
  have hD : va_D A [((tx 0), .inr (3, [.ref (tx 1), .int (nI n), .ref (tx 2), .ref (tx 3), .int 0, .int 0])), ((tx 1), .inl (cI, 60, .inl co)), ((tx 2), .inl (cI, 6, .inl sg)), ((tx 3), .inl (cI, 6, .inl lv))] := hD
  refine lv_iconst (v := 0) hx hb dX3_scan_10 (by decide) ?_
  refine lv_istore_n (lv' := [(1, .int 0), (0, .ref (tx 0))]) hx hb dX3_scan_11 rfl hl (by decide) rfl (fun lz hl => ?_)
  have L12 : ∀ (zz i : Nat), i ≤ n → n + 1 ≤ i + zz → ∀ (pa1 : Int32) (pl1 : Int32) (sg1 : Nat → Int32) (lv1 : Nat → Int32), pa1 = nI (sc_ap co i).1 → pl1 = (sc_ap co i).2 → sg1 = sc_s co sg i → lv1 = sc_l co lv i → (sc_to co (n - i) i = sc_to co n 0) → ∀ (H : Heap) (locs : List Loc), va_P (dC, dI) vwCl [((tx 0), .inr (3, [.ref (tx 1), .int (nI n), .ref (tx 2), .ref (tx 3), .int pa1, .int pl1])), ((tx 1), .inl (cI, 60, .inl co)), ((tx 2), .inl (cI, 6, .inl sg1)), ((tx 3), .inl (cI, 6, .inl lv1))] H → va_D A [((tx 0), .inr (3, [.ref (tx 1), .int (nI n), .ref (tx 2), .ref (tx 3), .int pa1, .int pl1])), ((tx 1), .inl (cI, 60, .inl co)), ((tx 2), .inl (cI, 6, .inl sg1)), ((tx 3), .inl (cI, 6, .inl lv1))] → va_S A s.heap H locs → ∀ (lz : Array Slot), lv_has lz 2 [(0, .ref (tx 0)), (1, .int (nI i))] → W p l e (headSpec wsX3_scan ({ frames := 3, cells := 0, slots := 0, locals := 63 } : Room)).room s m ([.ref (tx 0)] : List Value).toArray below meth c H locs 0 0 (MQ below (va_Qi (fun (r : Int32) (u : Int32 × Int32 × (Nat → Int32) × (Nat → Int32)) => r = nI (sc_to co n 0) ∧ u.1 = nI (sc_ap co (sc_to co n 0)).1 ∧ u.2.1 = (sc_ap co (sc_to co n 0)).2 ∧ u.2.2.1 = sc_s co sg (sc_to co n 0) ∧ u.2.2.2 = sc_l co lv (sc_to co n 0)) (xm_B (dC, dI) (fun (u : Int32 × Int32 × (Nat → Int32) × (Nat → Int32)) => [((tx 0), .inr (3, [.ref (tx 1), .int (nI n), .ref (tx 2), .ref (tx 3), .int u.1, .int u.2.1])), ((tx 1), .inl (cI, 60, .inl co)), ((tx 2), .inl (cI, 6, .inl u.2.2.1)), ((tx 3), .inl (cI, 6, .inl u.2.2.2))]) A) A) ([.ref (tx 0)] : List Value).toArray s 0 0 A) (F0 m 12 lz []) := by
    intro zz
    induction zz with
    | zero => intro i hii hni; exact absurd hni (by omega)
    | succ zz ih12 =>
      intro i hii hni pa1 pl1 sg1 lv1 e_pa1 e_pl1 e_sg1 e_lv1 hst H locs hP hD hS lz hl
      subst e_pa1 e_pl1 e_sg1 e_lv1
      refine lv_iload_n hx hb dX3_scan_12 rfl (lv_at hl 1 rfl) ?_
      refine lv_aload_n hx hb dX3_scan_13 rfl (lv_at hl 0 rfl) ?_
      refine va_get (D := (dC, dI)) (ci := 3) (v := .int (nI n)) (C := RX3) (T := TX3) (N := 6) hx hb hts hin3 hown hK hP 0 rfl rfl 1 (by decide) (hts (.fieldLink RX3 15 "TurnDigits$Text" "length" "I") (by decide +kernel)) (fun _ h9 => h9) rfl dX3_scan_14 ?_
      refine lv_icmp_ge (tgt := 45) hx hb dX3_scan_17 (by decide) (fun q17 => ?_) (fun q17 => ?_)
      · have hNi : n = i := (xm_end (N := n) hii (by omega) q17).symm
        subst hNi
        refine lv_iload_n hx hb dX3_scan_45 rfl (lv_at hl 1 rfl) ?_
        have hP9 : va_P (dC, dI) vwCl [((tx 0), .inr (3, [.ref (tx 1), .int (nI n), .ref (tx 2), .ref (tx 3), .int (nI (sc_ap co n).1), .int ((sc_ap co n).2)])), ((tx 1), .inl (cI, 60, .inl co)), ((tx 2), .inl (cI, 6, .inl (sc_s co sg n))), ((tx 3), .inl (cI, 6, .inl (sc_l co lv n)))] H := hP
        have hD9 : va_D A [((tx 0), .inr (3, [.ref (tx 1), .int (nI n), .ref (tx 2), .ref (tx 3), .int (nI (sc_ap co n).1), .int ((sc_ap co n).2)])), ((tx 1), .inl (cI, 60, .inl co)), ((tx 2), .inl (cI, 6, .inl (sc_s co sg n))), ((tx 3), .inl (cI, 6, .inl (sc_l co lv n)))] := hD
        exact W.iret (v := nI n) hx hb hr (fun t ht hW => ⟨⟨nI n, ((nI (sc_ap co n).1), ((sc_ap co n).2), (sc_s co sg n), (sc_l co lv n)), rfl, ⟨(by rw [← hst, Nat.sub_self]; rfl), (by rw [← hst, Nat.sub_self]; rfl), (by rw [← hst, Nat.sub_self]; rfl), (by rw [← hst, Nat.sub_self]; rfl), (by rw [← hst, Nat.sub_self]; rfl)⟩, by rw [ht]; exact hP9, hD9⟩, hS.F ht⟩) hS.2.2 dX3_scan_46
      · have hlti : i < n := xm_lt (N := n) hii (by omega) q17
        refine lv_iload_n hx hb dX3_scan_20 rfl (lv_at hl 1 rfl) ?_
        refine lv_bipush (v := 60) hx hb dX3_scan_21 (by decide) ?_
        refine lv_icmp_ge (tgt := 45) hx hb dX3_scan_23 (by decide) (fun q23 => absurd q23 (nI_ge (a := i) (b := 60) (by omega) (by decide))) (fun q23 => ?_)
        refine lv_aload_n hx hb dX3_scan_26 rfl (lv_at hl 0 rfl) ?_
        refine lv_aload_n hx hb dX3_scan_27 rfl (lv_at hl 0 rfl) ?_
        refine va_get (D := (dC, dI)) (ci := 3) (v := .ref (tx 1)) (C := RX3) (T := TX3) (N := 6) hx hb hts hin3 hown hK hP 0 rfl rfl 0 (by decide) (hts (.fieldLink RX3 9 "TurnDigits$Text" "codes" "[I") (by decide +kernel)) (fun _ h9 => h9) rfl dX3_scan_28 ?_
        refine lv_iload_n hx hb dX3_scan_31 rfl (lv_at hl 1 rfl) ?_
        refine xm_iald (D := (dC, dI)) hx hb hK hP 1 0 i (v := co i) rfl rfl (by decide) rfl (by omega) rfl dX3_scan_32 ?_
        have hPc := hP.sub (ws' := [((tx 0), .inr (3, [.ref (tx 1), .int (nI n), .ref (tx 2), .ref (tx 3), .int (nI ((sc_ap co i).1)), .int ((sc_ap co i).2)])), ((tx 2), .inl (cI, 6, .inl (sc_s co sg i))), ((tx 3), .inl (cI, 6, .inl (sc_l co lv i)))]) [0, 2, 3] rfl
        have hDc := hD.sub (ws' := [((tx 0), .inr (3, [.ref (tx 1), .int (nI n), .ref (tx 2), .ref (tx 3), .int (nI ((sc_ap co i).1)), .int ((sc_ap co i).2)])), ((tx 2), .inl (cI, 6, .inl (sc_s co sg i))), ((tx 3), .inl (cI, 6, .inl (sc_l co lv i)))]) [0, 2, 3] (by decide) rfl
        have hFc := va_free (wc := [((tx 0), .inr (3, [.ref (tx 1), .int (nI n), .ref (tx 2), .ref (tx 3), .int (nI ((sc_ap co i).1)), .int ((sc_ap co i).2)])), ((tx 2), .inl (cI, 6, .inl (sc_s co sg i))), ((tx 3), .inl (cI, 6, .inl (sc_l co lv i)))]) hD hS hA [0, 2, 3] rfl
        refine va_calli (va_runV (As := [.int (co i)]) (rest := []) ⟨hx, hb, hml, hown, hts⟩ (c_X3_takes l dC dI cI cS cJ tt H.size tx (nI n) ((sc_ap co i).2) (sc_s co sg i) (sc_l co lv i) ((sc_ap co i).1) (co i)) (cwV 1 hts gX3_scan_X3_takes rfl rfl rfl (by decide +kernel) ⟨Nat.le_of_ble_eq_true rfl, Nat.le_of_ble_eq_true rfl⟩) ⟨xm_Mblind, va_recv hK hPc (ci := 3) (q0 := 0) rfl rfl, fun U hU hW => ⟨rfl, by rw [hU], by rw [hU]; exact hPc, hE.go hS hFc hU hW, hDc.weaken (fun _ _ _ _ => trivial), sc_in co i⟩⟩ rfl rfl hl.1 rfl (lv_room (Nat.le_of_ble_eq_true rfl)) dX3_scan_33 ⟨Nat.zero_le _, Nat.zero_le _⟩) hS (fun q _ h => hFc q h) hFc (fun r u t H1 locs ht hvm hw hB hz1 hk1 hS => ?_)
        obtain ⟨u_1, u_2, u_3, u_4⟩ := u
        obtain ⟨hP1, hD1⟩ := hB
        rw [ht] at hP1
        obtain ⟨hw_5, hw_6, hw_7, hw_8, hw_9⟩ := hw
        have hw_5 : r = tx_r (co i) ((sc_ap co i).1) ((sc_ap co i).2) := hw_5
        subst hw_5
        have hw_6 : u_1 = nI (tx_a (co i) ((sc_ap co i).1) ((sc_ap co i).2)) := hw_6
        subst hw_6
        have hw_7 : u_2 = tx_p (co i) ((sc_ap co i).1) ((sc_ap co i).2) := hw_7
        subst hw_7
        have hw_8 : u_3 = tx_s (co i) ((sc_ap co i).1) ((sc_ap co i).2) (sc_s co sg i) := hw_8
        subst hw_8
        have hw_9 : u_4 = tx_l (co i) ((sc_ap co i).1) ((sc_ap co i).2) (sc_l co lv i) := hw_9
        subst hw_9
        obtain ⟨hP, hD⟩ := va_join (wr := [((tx 1), .inl (cI, 60, .inl co))]) (w1 := [((tx 0), .inr (3, [.ref (tx 1), .int (nI n), .ref (tx 2), .ref (tx 3), .int (nI (tx_a (co i) ((sc_ap co i).1) ((sc_ap co i).2))), .int (tx_p (co i) ((sc_ap co i).1) ((sc_ap co i).2))])), ((tx 2), .inl (cI, 6, .inl (tx_s (co i) ((sc_ap co i).1) ((sc_ap co i).2) (sc_s co sg i)))), ((tx 3), .inl (cI, 6, .inl (tx_l (co i) ((sc_ap co i).1) ((sc_ap co i).2) (sc_l co lv i))))]) hP hD [0, 2, 3] [1] rfl rfl (by decide) (by decide) hk1 hFc hP1 hD1
        generalize H1 = H at hP hS ⊢
        have hP : va_P (dC, dI) vwCl [((tx 1), .inl (cI, 60, .inl co)), ((tx 0), .inr (3, [.ref (tx 1), .int (nI n), .ref (tx 2), .ref (tx 3), .int (nI (tx_a (co i) ((sc_ap co i).1) ((sc_ap co i).2))), .int (tx_p (co i) ((sc_ap co i).1) ((sc_ap co i).2))])), ((tx 2), .inl (cI, 6, .inl (tx_s (co i) ((sc_ap co i).1) ((sc_ap co i).2) (sc_s co sg i)))), ((tx 3), .inl (cI, 6, .inl (tx_l (co i) ((sc_ap co i).1) ((sc_ap co i).2) (sc_l co lv i))))] H := hP
        have hD : va_D A [((tx 1), .inl (cI, 60, .inl co)), ((tx 0), .inr (3, [.ref (tx 1), .int (nI n), .ref (tx 2), .ref (tx 3), .int (nI (tx_a (co i) ((sc_ap co i).1) ((sc_ap co i).2))), .int (tx_p (co i) ((sc_ap co i).1) ((sc_ap co i).2))])), ((tx 2), .inl (cI, 6, .inl (tx_s (co i) ((sc_ap co i).1) ((sc_ap co i).2) (sc_s co sg i)))), ((tx 3), .inl (cI, 6, .inl (tx_l (co i) ((sc_ap co i).1) ((sc_ap co i).2) (sc_l co lv i))))] := hD
        refine lv_if_eq (tgt := 45) hx hb dX3_scan_36 (by decide) (fun q36 => ?_) (fun q36 => ?_)
        · refine lv_iload_n hx hb dX3_scan_45 rfl (lv_at hl 1 rfl) ?_
          have hP9 := hP.sub (ws' := [((tx 0), .inr (3, [.ref (tx 1), .int (nI n), .ref (tx 2), .ref (tx 3), .int (nI (tx_a (co i) ((sc_ap co i).1) ((sc_ap co i).2))), .int (tx_p (co i) ((sc_ap co i).1) ((sc_ap co i).2))])), ((tx 1), .inl (cI, 60, .inl co)), ((tx 2), .inl (cI, 6, .inl (tx_s (co i) ((sc_ap co i).1) ((sc_ap co i).2) (sc_s co sg i)))), ((tx 3), .inl (cI, 6, .inl (tx_l (co i) ((sc_ap co i).1) ((sc_ap co i).2) (sc_l co lv i))))]) [1, 0, 2, 3] rfl
          have hD9 := hD.sub (ws' := [((tx 0), .inr (3, [.ref (tx 1), .int (nI n), .ref (tx 2), .ref (tx 3), .int (nI (tx_a (co i) ((sc_ap co i).1) ((sc_ap co i).2))), .int (tx_p (co i) ((sc_ap co i).1) ((sc_ap co i).2))])), ((tx 1), .inl (cI, 60, .inl co)), ((tx 2), .inl (cI, 6, .inl (tx_s (co i) ((sc_ap co i).1) ((sc_ap co i).2) (sc_s co sg i)))), ((tx 3), .inl (cI, 6, .inl (tx_l (co i) ((sc_ap co i).1) ((sc_ap co i).2) (sc_l co lv i))))]) [1, 0, 2, 3] (by decide) rfl
          exact W.iret (v := nI i) hx hb hr (fun t ht hW => ⟨⟨nI i, ((nI (tx_a (co i) ((sc_ap co i).1) ((sc_ap co i).2))), (tx_p (co i) ((sc_ap co i).1) ((sc_ap co i).2)), (tx_s (co i) ((sc_ap co i).1) ((sc_ap co i).2) (sc_s co sg i)), (tx_l (co i) ((sc_ap co i).1) ((sc_ap co i).2) (sc_l co lv i))), rfl, ⟨(by rw [← hst, sc_to_s hlti, if_pos q36]), (by rw [← hst, sc_to_s hlti, if_pos q36]; rw [(tx_no q36).1]), (by rw [← hst, sc_to_s hlti, if_pos q36]; exact (tx_no q36).2.1), (by rw [← hst, sc_to_s hlti, if_pos q36]; exact (tx_no q36).2.2.1 _), (by rw [← hst, sc_to_s hlti, if_pos q36]; exact (tx_no q36).2.2.2 _)⟩, by rw [ht]; exact hP9, hD9⟩, hS.F ht⟩) hS.2.2 dX3_scan_46
        · refine lv_iinc (v := nI (i + 1)) (lv' := [(1, .int (nI (i + 1))), (0, .ref (tx 0))]) hx hb dX3_scan_39 hl (k := 1) rfl (nI_1 i) (by decide) rfl (fun lz hl => ?_)
          refine lv_goto (tgt := 12) hx hb dX3_scan_42 (by decide) ?_
          have hP := hP.sub (ws' := [((tx 0), .inr (3, [.ref (tx 1), .int (nI n), .ref (tx 2), .ref (tx 3), .int (nI (tx_a (co i) ((sc_ap co i).1) ((sc_ap co i).2))), .int (tx_p (co i) ((sc_ap co i).1) ((sc_ap co i).2))])), ((tx 1), .inl (cI, 60, .inl co)), ((tx 2), .inl (cI, 6, .inl (tx_s (co i) ((sc_ap co i).1) ((sc_ap co i).2) (sc_s co sg i)))), ((tx 3), .inl (cI, 6, .inl (tx_l (co i) ((sc_ap co i).1) ((sc_ap co i).2) (sc_l co lv i))))]) [1, 0, 2, 3] rfl
          have hD := hD.sub (ws' := [((tx 0), .inr (3, [.ref (tx 1), .int (nI n), .ref (tx 2), .ref (tx 3), .int (nI (tx_a (co i) ((sc_ap co i).1) ((sc_ap co i).2))), .int (tx_p (co i) ((sc_ap co i).1) ((sc_ap co i).2))])), ((tx 1), .inl (cI, 60, .inl co)), ((tx 2), .inl (cI, 6, .inl (tx_s (co i) ((sc_ap co i).1) ((sc_ap co i).2) (sc_s co sg i)))), ((tx 3), .inl (cI, 6, .inl (tx_l (co i) ((sc_ap co i).1) ((sc_ap co i).2) (sc_l co lv i))))]) [1, 0, 2, 3] (by decide) rfl
          exact ih12 (i + 1) hlti (by omega) (nI (tx_a (co i) ((sc_ap co i).1) ((sc_ap co i).2))) (tx_p (co i) ((sc_ap co i).1) ((sc_ap co i).2)) (tx_s (co i) ((sc_ap co i).1) ((sc_ap co i).2) (sc_s co sg i)) (tx_l (co i) ((sc_ap co i).1) ((sc_ap co i).2) (sc_l co lv i)) rfl rfl rfl rfl (by rw [← hst, sc_to_s hlti, if_neg q36]) H locs hP hD hS lz (lv_sub hl [1, 0] rfl)
  exact L12 (n + 1) 0 (by omega) (by omega) 0 0 sg lv rfl rfl rfl rfl rfl H locs hP hD hS lz (lv_sub hl [1, 0] rfl)

