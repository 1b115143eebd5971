/-! Pure words: what the methods compute. -/
theorem xm_nb (P : Prop) [Decidable P] : narrow .boolean (.int (if P then (1 : Int32) else 0)) = .int (if P then 1 else 0) := by split <;> rfl
/-- the first i places from f, the others from g -/
def fm_fl (f g : Nat → Int32) (i : Nat) : Nat → Int32 := fun j => if j < i then f j else g j
theorem fm_fl_0 (f g : Nat → Int32) : fm_fl f g 0 = g := by
  funext j
  simp [fm_fl]
theorem fm_fl_in {f g : Nat → Int32} {i j : Nat} (h : j < i) : fm_fl f g i j = f j := by simp [fm_fl, h]
theorem fm_fl_out {f g : Nat → Int32} {i j : Nat} (h : ¬ j < i) : fm_fl f g i j = g j := by simp [fm_fl, h]
theorem fm_fl_at {f g : Nat → Int32} {i : Nat} : fm_fl f g i i = g i := fm_fl_out (Nat.lt_irrefl i)
theorem fm_fl_t {f g : Nat → Int32} {k : Nat} {x : Int32} (h : x = f k) : upd (fm_fl f g k) k x = fm_fl f g (k + 1) := by
  subst h
  funext j
  by_cases h : j = k
  · subst h
    simp [fm_fl, upd]
  · have e : (j < k + 1) = (j < k) := by
      apply propext; omega
    simp [fm_fl, upd, h, e]
theorem fm_fl_k {f g : Nat → Int32} {k : Nat} (h : g k = f k) : fm_fl f g k = fm_fl f g (k + 1) := by
  funext j
  by_cases e : j = k
  · subst e
    simp [fm_fl, h]
  · have e2 : (j < k + 1) = (j < k) := by
      apply propext; omega
    simp [fm_fl, e2]
def fm_litIn (o a c : Int32) : Int32 := if c = 0 then o else if o = a then o else -1
def fm_mag (n : Int32) : Int64 := if 0 ≤ n then n.toInt64 else -n.toInt64
def fm_sum (lv : Nat → Int32) : Nat → Int32
  | 0 => 0
  | k + 1 => fm_sum lv k + lv k
def fm_own (lv cr : Nat → Int32) : Nat → Int32
  | 0 => -1
  | k + 1 => if lv k ≤ 0 then fm_own lv cr k else if fm_own lv cr k = -1 then nI k else if cr k + lv k ≤ cr (fm_own lv cr k).toNatClampNeg + lv (fm_own lv cr k).toNatClampNeg then fm_own lv cr k else nI k
theorem fm_own_in (lv cr : Nat → Int32) : ∀ k : Nat, fm_own lv cr k = -1 ∨ ∃ j : Nat, j < k ∧ fm_own lv cr k = nI j
  | 0 => Or.inl rfl
  | k + 1 => by
    have ih := fm_own_in lv cr k
    have up : fm_own lv cr k = -1 ∨ ∃ j : Nat, j < k + 1 ∧ fm_own lv cr k = nI j := ih.imp id (fun ⟨j, h1, h2⟩ => ⟨j, by omega, h2⟩)
    have ne : nI k = -1 ∨ ∃ j : Nat, j < k + 1 ∧ nI k = nI j := Or.inr ⟨k, by omega, rfl⟩
    unfold fm_own
    split
    · exact up
    · split
      · exact ne
      · split
        · exact up
        · exact ne
/-- the owner as a place -/
theorem fm_own_at {lv cr : Nat → Int32} {k : Nat} (hk : k < 2 ^ 31) (h : ¬ fm_own lv cr k = -1) : fm_own lv cr k = nI (fm_own lv cr k).toNatClampNeg ∧ (fm_own lv cr k).toNatClampNeg < k := by
  rcases fm_own_in lv cr k with q | ⟨j, h1, h2⟩
  · exact absurd q h
  · rw [h2, nI_clamp (by omega)]
    exact ⟨rfl, h1⟩
/-- the credits behind a slot -/
def fm_crd (lv cr : Nat → Int32) : Nat → Int32 := if fm_own lv cr 6 = -1 then (fun j => cr j + lv j) else upd (fun j => cr j + lv j) (fm_own lv cr 6).toNatClampNeg (cr (fm_own lv cr 6).toNatClampNeg + lv (fm_own lv cr 6).toNatClampNeg - fm_sum lv 6)
/-! a slot, noted -/
def ns_ls (lt : Int32) (ls : Nat → Int32) : Nat → Int32 := fun j => if nI j = lt then ls j + 1 else ls j
def ns_dr (lt : Int32) (dr : Nat → Int32) : Nat → Int32 := fun j => if nI j = lt then 0 else dr j + 1
def ns_gp (lt : Int32) (dr gp : Nat → Int32) : Nat → Int32 := fun j => if nI j = lt then gp j else if gp j < dr j + 1 then dr j + 1 else gp j
/-! a frame, slot by slot -/
def fr_cr (lv cr : Nat → Int32) : Nat → (Nat → Int32)
  | 0 => cr
  | k + 1 => fm_crd lv (fr_cr lv cr k)
def fr_ow (lv cr : Nat → Int32) : Nat → Int32 := fun k => fm_own lv (fr_cr lv cr k) 6
def fr_ah (lv cr : Nat → Int32) (ah : Int32) : Nat → Int32
  | 0 => ah
  | k + 1 => fr_ow lv cr k
def fr_li (lv cr : Nat → Int32) (ah dk : Int32) : Nat → Int32 := fun k => fm_litIn (fr_ow lv cr k) (fr_ah lv cr ah k) dk
def fr_ls (li : Nat → Int32) : Nat → (Nat → Int32)
  | 0 => fun _ => 0
  | k + 1 => ns_ls (li k) (fr_ls li k)
def fr_dr (li : Nat → Int32) : Nat → (Nat → Int32)
  | 0 => fun _ => 0
  | k + 1 => ns_dr (li k) (fr_dr li k)
def fr_gp (li : Nat → Int32) : Nat → (Nat → Int32)
  | 0 => fun _ => 0
  | k + 1 => ns_gp (li k) (fr_dr li k) (fr_gp li k)
def fm_dk (x : Int32) : Int32 := if x = 1 then 1 else 0
/-! looks at a frame -/
def fm_light (ln x : Int32) : Int32 := if ln ≤ 0 then 0 else x * 1000 / ln
def fm_flk (x g pe : Int32) : Int32 := if x ≤ 0 then 0 else if g ≤ pe then 0 else 1
def fm_see (lt ne fl : Int32) : Int32 := if lt ≤ 0 then 0 else if lt < ne then 0 else if fl = 0 then 1 else 0
/-- how many places differ, agree -/
def fm_cntF (x y : Nat → Int32) : Nat → Int32
  | 0 => 0
  | k + 1 => if x k = y k then fm_cntF x y k else fm_cntF x y k + 1
def fm_cntT (x y : Nat → Int32) : Nat → Int32
  | 0 => 0
  | k + 1 => if x k = y k then fm_cntT x y k + 1 else fm_cntT x y k
/-- changes among the first k + 1 -/
def fm_chg (x : Nat → Int32) : Nat → Int32
  | 0 => 0
  | k + 1 => if x (k + 1) = x k then fm_chg x k else fm_chg x k + 1

set_option maxHeartbeats 4000000 in
set_option maxRecDepth 100000 in
theorem c_X4_litIn (l : Launch) (dC : Nat → ClassId) (dI : Nat → Nat → Nat) (cI cS cJ : ClassId) (tt : Nat → Nat) (o : Int32) (a : Int32) (c0 : Int32) : Met l yX4_litIn wsX4_litIn ({ frames := 0, cells := 0, slots := 0, locals := 0 } : Room) (va_Pc [.int o, .int a, .int c0] (xm_R (dC, dI) cI cS cJ tt [] (True))) (k2_QcV (.int (fm_litIn o a c0))) 0 0 (fun _ => False) := by
  refine Met.ofW (cc := cX4_litIn) (maxL := 3) (ret := (some .int)) (by decide) rfl ?_
  intro p e s m args below meth c s₁ B hml hv
  obtain ⟨rfl, hP, hE, hpre⟩ := hv
  have hx := B.exec
  have hb := B.bytes
  have hr := B.returns
  have hts := atoms_spec (ws := wsX4_litIn) B.pre
  have hown : s.vm.findClass RX4 = some m.cls := findClass_of_methodNamed B.named
  have hlocks := B.notSynchronized
  have hK := hE.1
  have hS : va_S (fun _ => False) s.heap s.heap [] := va_S.rf
  have hP : va_P (dC, dI) vwCl [] s.heap := hP
  have hl := lv_entry [.int o, .int a, .int c0] (n := 3) (Nat.le_of_ble_eq_true rfl)
  rw [lg_entry_eq]
  generalize (lg_sl [.int o, .int a, .int c0] ++ List.replicate (3 - (lg_sl [.int o, .int a, .int c0]).length) Slot.unset).toArray = lz at hl ⊢
  have hl : lv_has lz 3 [(0, .int o), (1, .int a), (2, .int c0)] := hl
  refine lv_iload_n hx hb dX4_litIn_0 rfl (lv_at hl 2 rfl) ?_
  refine lv_if_eq (tgt := 13) hx hb dX4_litIn_1 (by decide) (fun q1 => ?_) (fun q1 => ?_)
  · refine lv_iload_n hx hb dX4_litIn_13 rfl (lv_at hl 0 rfl) ?_
    exact W.iret (v := o) hx hb hr (fun t ht hW => ⟨congrArg (fun z => Outcome.returned (some (Value.int z))) (by simp only [fm_litIn, if_pos q1]), ht⟩) hS.2.2 dX4_litIn_14
  · refine lv_iload_n hx hb dX4_litIn_4 rfl (lv_at hl 0 rfl) ?_
    refine lv_iload_n hx hb dX4_litIn_5 rfl (lv_at hl 1 rfl) ?_
    refine lv_icmp_eq (tgt := 13) hx hb dX4_litIn_6 (by decide) (fun q6 => ?_) (fun q6 => ?_)
    · refine lv_iload_n hx hb dX4_litIn_13 rfl (lv_at hl 0 rfl) ?_
      exact W.iret (v := o) hx hb hr (fun t ht hW => ⟨congrArg (fun z => Outcome.returned (some (Value.int z))) (by simp only [fm_litIn, if_neg q1, if_pos q6]), ht⟩) hS.2.2 dX4_litIn_14
    · refine lv_iconst (v := (-1)) hx hb dX4_litIn_9 (by decide) ?_
      refine lv_goto (tgt := 14) hx hb dX4_litIn_10 (by decide) ?_
      exact W.iret (v := (-1)) hx hb hr (fun t ht hW => ⟨congrArg (fun z => Outcome.returned (some (Value.int z))) (by simp only [fm_litIn, if_neg q1, if_neg q6]), ht⟩) hS.2.2 dX4_litIn_14

set_option maxHeartbeats 4000000 in
set_option maxRecDepth 100000 in
theorem c_X4_magnitude (l : Launch) (dC : Nat → ClassId) (dI : Nat → Nat → Nat) (cI cS cJ : ClassId) (tt : Nat → Nat) (n : Int32) : Met l yX4_magnitude wsX4_magnitude ({ frames := 0, cells := 0, slots := 0, locals := 0 } : Room) (va_Pc [.int n] (xm_R (dC, dI) cI cS cJ tt [] (True))) (k2_QcV (.long (fm_mag n))) 0 0 (fun _ => False) := by
  refine Met.ofW (cc := cX4_magnitude) (maxL := 1) (ret := (some .long)) (by decide) rfl ?_
  intro p e s m args below meth c s₁ B hml hv
  obtain ⟨rfl, hP, hE, hpre⟩ := hv
  have hx := B.exec
  have hb := B.bytes
  have hr := B.returns
  have hts := atoms_spec (ws := wsX4_magnitude) B.pre
  have hown : s.vm.findClass RX4 = some m.cls := findClass_of_methodNamed B.named
  have hlocks := B.notSynchronized
  have hK := hE.1
  have hS : va_S (fun _ => False) s.heap s.heap [] := va_S.rf
  have hP : va_P (dC, dI) vwCl [] s.heap := hP
  have hl := lv_entry [.int n] (n := 1) (Nat.le_of_ble_eq_true rfl)
  rw [lg_entry_eq]
  generalize (lg_sl [.int n] ++ List.replicate (1 - (lg_sl [.int n]).length) Slot.unset).toArray = lz at hl ⊢
  have hl : lv_has lz 1 [(0, .int n)] := hl
  refine lv_iload_n hx hb dX4_magnitude_0 rfl (lv_at hl 0 rfl) ?_
  refine lv_if_ge (tgt := 10) hx hb dX4_magnitude_1 (by decide) (fun q1 => ?_) (fun q1 => ?_)
  · refine lv_iload_n hx hb dX4_magnitude_10 rfl (lv_at hl 0 rfl) ?_
    refine lv_i2l hx hb dX4_magnitude_11 rfl ?_
    exact W.lret (v := n.toInt64) hx hb hr (fun t ht hW => ⟨congrArg (fun z => Outcome.returned (some (Value.long z))) (by simp only [fm_mag, if_pos q1]), ht⟩) hS.2.2 dX4_magnitude_12
  · refine lv_iload_n hx hb dX4_magnitude_4 rfl (lv_at hl 0 rfl) ?_
    refine lv_i2l hx hb dX4_magnitude_5 rfl ?_
    refine lv_lneg hx hb dX4_magnitude_6 ?_
    refine lv_goto (tgt := 12) hx hb dX4_magnitude_7 (by decide) ?_
    exact W.lret (v := -n.toInt64) hx hb hr (fun t ht hW => ⟨congrArg (fun z => Outcome.returned (some (Value.long z))) (by simp only [fm_mag, if_neg q1]), ht⟩) hS.2.2 dX4_magnitude_12

set_option maxHeartbeats 4000000 in
set_option maxRecDepth 100000 in
theorem c_X4_wearPlace (l : Launch) (dC : Nat → ClassId) (dI : Nat → Nat → Nat) (cI cS cJ : ClassId) (tt : Nat → Nat) (d : Nat) (k : Nat) : Met l yX4_wearPlace wsX4_wearPlace ({ frames := 0, cells := 0, slots := 0, locals := 0 } : Room) (va_Pc [.int (nI d), .int (nI k)] (xm_R (dC, dI) cI cS cJ tt [] (True))) (k2_QcV (.int (nI (d * 7 + k)))) 0 0 (fun _ => False) := by
  refine Met.ofW (cc := cX4_wearPlace) (maxL := 2) (ret := (some .int)) (by decide) rfl ?_
  intro p e s m args below meth c s₁ B hml hv
  obtain ⟨rfl, hP, hE, hpre⟩ := hv
  have hx := B.exec
  have hb := B.bytes
  have hr := B.returns
  have hts := atoms_spec (ws := wsX4_wearPlace) B.pre
  have hown : s.vm.findClass RX4 = some m.cls := findClass_of_methodNamed B.named
  have hlocks := B.notSynchronized
  have hK := hE.1
  have hS : va_S (fun _ => False) s.heap s.heap [] := va_S.rf
  have hP : va_P (dC, dI) vwCl [] s.heap := hP
  have hl := lv_entry [.int (nI d), .int (nI k)] (n := 2) (Nat.le_of_ble_eq_true rfl)
  rw [lg_entry_eq]
  generalize (lg_sl [.int (nI d), .int (nI k)] ++ List.replicate (2 - (lg_sl [.int (nI d), .int (nI k)]).length) Slot.unset).toArray = lz at hl ⊢
  have hl : lv_has lz 2 [(0, .int (nI d)), (1, .int (nI k))] := hl
  refine lv_iload_n hx hb dX4_wearPlace_0 rfl (lv_at hl 0 rfl) ?_
  refine lv_bipush (v := 7) hx hb dX4_wearPlace_1 (by decide) ?_
  refine lv_imul hx hb dX4_wearPlace_3 ?_
  refine lv_iload_n hx hb dX4_wearPlace_4 rfl (lv_at hl 1 rfl) ?_
  refine lv_iadd hx hb dX4_wearPlace_5 ?_
  exact W.iret (v := ((nI d) * 7) + (nI k)) hx hb hr (fun t ht hW => ⟨congrArg (fun z => Outcome.returned (some (Value.int z))) (by rw [show (7 : Int32) = nI 7 from rfl, pk_mul, nI_add]), ht⟩) hS.2.2 dX4_wearPlace_6

set_option maxHeartbeats 4000000 in
set_option maxRecDepth 100000 in
theorem c_X4_giveSlot (l : Launch) (dC : Nat → ClassId) (dI : Nat → Nat → Nat) (cI cS cJ : ClassId) (tt : Nat → Nat) (sz : Nat) (a : Nat) (b : Nat) (lv : Nat → Int32) (cr : Nat → Int32) : Met l yX4_giveSlot wsX4_giveSlot ({ frames := 0, cells := 0, slots := 0, locals := 0 } : Room) (va_Pc [.ref a, .ref b] (xm_M (dC, dI) cI cS cJ tt [(a, .inl (cI, 6, .inl lv)), (b, .inl (cI, 6, .inl cr))] sz (True))) (va_Qi (fun (r : Int32) (u : (Nat → Int32)) => r = fm_own lv cr 6 ∧ u = fm_crd lv cr) (xm_B (dC, dI) (fun (u : (Nat → Int32)) => [(a, .inl (cI, 6, .inl lv)), (b, .inl (cI, 6, .inl u))]) (va_A [(a, .inl (cI, 6, .inl lv)), (b, .inl (cI, 6, .inl cr))] sz)) (va_A [(a, .inl (cI, 6, .inl lv)), (b, .inl (cI, 6, .inl cr))] sz)) 0 0 (va_A [(a, .inl (cI, 6, .inl lv)), (b, .inl (cI, 6, .inl cr))] sz) := by
  refine Met.ofW (cc := cX4_giveSlot) (maxL := 5) (ret := (some .int)) (by decide) rfl ?_
  intro p e s m args below meth c s₁ B hml hv
  obtain ⟨rfl, hsz, hP, hE, hD0, hpre⟩ := hv
  have hx := B.exec
  have hb := B.bytes
  have hr := B.returns
  have hts := atoms_spec (ws := wsX4_giveSlot) B.pre
  have hown : s.vm.findClass RX4 = some m.cls := findClass_of_methodNamed B.named
  have hlocks := B.notSynchronized
  have hK := hE.1
  subst hsz
  have hD := hD0.self (sz := s.heap.size)
  generalize hAe : va_A [(a, .inl (cI, 6, .inl lv)), (b, .inl (cI, 6, .inl cr))] s.heap.size = A at hD hE ⊢
  have hA : ∀ q : Nat, s.heap.size ≤ q → A q := fun q h => by rw [← hAe]; exact Or.inr h
  have hS : va_S A s.heap s.heap [] := va_S.rf
  have hP : va_P (dC, dI) vwCl [(a, .inl (cI, 6, .inl lv)), (b, .inl (cI, 6, .inl cr))] s.heap := hP
  have hl := lv_entry [.ref a, .ref b] (n := 5) (Nat.le_of_ble_eq_true rfl)
  rw [lg_entry_eq]
  generalize (lg_sl [.ref a, .ref b] ++ List.replicate (5 - (lg_sl [.ref a, .ref b]).length) Slot.unset).toArray = lz at hl ⊢
  have hl : lv_has lz 5 [(0, .ref a), (1, .ref b)] := hl
  refine lv_iconst (v := 0) hx hb dX4_giveSlot_0 (by decide) ?_
  refine lv_istore_n (lv' := [(2, .int 0), (0, .ref a), (1, .ref b)]) hx hb dX4_giveSlot_1 rfl hl (by decide) rfl (fun lz hl => ?_)
  refine lv_iconst (v := (-1)) hx hb dX4_giveSlot_2 (by decide) ?_
  refine lv_istore_n (lv' := [(3, .int (-1)), (2, .int 0), (0, .ref a), (1, .ref b)]) hx hb dX4_giveSlot_3 rfl hl (by decide) rfl (fun lz hl => ?_)
  refine lv_iconst (v := 0) hx hb dX4_giveSlot_4 (by decide) ?_
  refine lv_istore (lv' := [(4, .int 0), (3, .int (-1)), (2, .int 0), (0, .ref a), (1, .ref b)]) hx hb dX4_giveSlot_5 hl (by decide) rfl (fun lz hl => ?_)
  have L7 : ∀ (zz i : Nat), i ≤ 6 → 6 + 1 ≤ i + zz → ∀ (x2 : Int32) (x3 : Int32) (f : Nat → Int32), x2 = fm_sum lv i → x3 = fm_own lv cr i → f = fm_fl (fun j => cr j + lv j) cr i → ∀ (H : Heap) (locs : List Loc), va_P (dC, dI) vwCl [(a, .inl (cI, 6, .inl lv)), (b, .inl (cI, 6, .inl f))] H → va_D A [(a, .inl (cI, 6, .inl lv)), (b, .inl (cI, 6, .inl f))] → va_S A s.heap H locs → ∀ (lz : Array Slot), lv_has lz 5 [(0, .ref a), (1, .ref b), (2, .int x2), (3, .int x3), (4, .int (nI i))] → W p l e (headSpec wsX4_giveSlot ({ frames := 0, cells := 0, slots := 0, locals := 0 } : Room)).room s m ([.ref a, .ref b] : List Value).toArray below meth c H locs 0 0 (MQ below (va_Qi (fun (r : Int32) (u : (Nat → Int32)) => r = fm_own lv cr 6 ∧ u = fm_crd lv cr) (xm_B (dC, dI) (fun (u : (Nat → Int32)) => [(a, .inl (cI, 6, .inl lv)), (b, .inl (cI, 6, .inl u))]) A) A) ([.ref a, .ref b] : List Value).toArray s 0 0 A) (F0 m 7 lz []) := by
    intro zz
    induction zz with
    | zero => intro i hii hni; exact absurd hni (by omega)
    | succ zz ih7 =>
      intro i hii hni x2 x3 f e_x2 e_x3 e_f  H locs hP hD hS lz hl
      subst e_x2 e_x3 e_f
      refine lv_iload hx hb dX4_giveSlot_7 (lv_at hl 4 rfl) ?_
      refine lv_bipush (v := 6) hx hb dX4_giveSlot_9 (by decide) ?_
      refine lv_icmp_ge (tgt := 63) hx hb dX4_giveSlot_11 (by decide) (fun q11 => ?_) (fun q11 => ?_)
      · have hNi : 6 = i := (xm_end (N := 6) hii (by decide) q11).symm
        subst hNi
        obtain ⟨hP, hD⟩ := xm_cong hP hD 1 rfl ((fun j => cr j + lv j)) (fun j hj => by rw [fm_fl_in hj])
        have hP : va_P (dC, dI) vwCl [(a, .inl (cI, 6, .inl lv)), (b, .inl (cI, 6, .inl (fun j => cr j + lv j)))] H := hP
        have hD : va_D A [(a, .inl (cI, 6, .inl lv)), (b, .inl (cI, 6, .inl (fun j => cr j + lv j)))] := hD
        refine lv_iload_n hx hb dX4_giveSlot_63 rfl (lv_at hl 3 rfl) ?_
        refine lv_iconst (v := (-1)) hx hb dX4_giveSlot_64 (by decide) ?_
        refine lv_icmp_eq (tgt := 75) hx hb dX4_giveSlot_65 (by decide) (fun q65 => ?_) (fun q65 => ?_)
        · refine lv_iload_n hx hb dX4_giveSlot_75 rfl (lv_at hl 3 rfl) ?_
          have hP9 : va_P (dC, dI) vwCl [(a, .inl (cI, 6, .inl lv)), (b, .inl (cI, 6, .inl (fun j => cr j + lv j)))] H := hP
          have hD9 : va_D A [(a, .inl (cI, 6, .inl lv)), (b, .inl (cI, 6, .inl (fun j => cr j + lv j)))] := hD
          exact W.iret (v := (fm_own lv cr 6)) hx hb hr (fun t ht hW => ⟨⟨(fm_own lv cr 6), (fun j => cr j + lv j), rfl, ⟨(by simp only [fm_crd, if_pos q11, if_pos q65]), (by simp only [fm_crd, if_pos q11, if_pos q65])⟩, by rw [ht]; exact hP9, hD9⟩, hS.F ht⟩) hS.2.2 dX4_giveSlot_76
        · refine lv_aload_n hx hb dX4_giveSlot_68 rfl (lv_at hl 1 rfl) ?_
          refine lv_iload_n hx hb dX4_giveSlot_69 rfl (lv_at hl 3 rfl) ?_
          refine lv_dup2_11 hx hb dX4_giveSlot_70 rfl rfl ?_
          refine xm_iald (D := (dC, dI)) hx hb hK hP 1 0 ((fm_own lv cr 6).toNatClampNeg) (v := (fun j => cr j + lv j) ((fm_own lv cr 6).toNatClampNeg)) rfl rfl (by decide) (fm_own_at (by decide) q65).1 (fm_own_at (by decide) q65).2 rfl dX4_giveSlot_71 ?_
          refine lv_iload_n hx hb dX4_giveSlot_72 rfl (lv_at hl 2 rfl) ?_
          refine lv_isub hx hb dX4_giveSlot_73 ?_
          refine xm_iast (D := (dC, dI)) hx hb hK hP hD hS 1 0 ((fm_own lv cr 6).toNatClampNeg) rfl rfl (by decide) (fm_own_at (by decide) q65).1 (fm_own_at (by decide) q65).2 dX4_giveSlot_74 (fun H locs hP hD hS => ?_)
          have hP : va_P (dC, dI) vwCl [(a, .inl (cI, 6, .inl lv)), (b, .inl (cI, 6, .inl (upd (fun j => cr j + lv j) ((fm_own lv cr 6).toNatClampNeg) (((fun j => cr j + lv j) ((fm_own lv cr 6).toNatClampNeg)) - (fm_sum lv 6)))))] H := hP
          have hD : va_D A [(a, .inl (cI, 6, .inl lv)), (b, .inl (cI, 6, .inl (upd (fun j => cr j + lv j) ((fm_own lv cr 6).toNatClampNeg) (((fun j => cr j + lv j) ((fm_own lv cr 6).toNatClampNeg)) - (fm_sum lv 6)))))] := hD
          refine lv_iload_n hx hb dX4_giveSlot_75 rfl (lv_at hl 3 rfl) ?_
          have hP9 : va_P (dC, dI) vwCl [(a, .inl (cI, 6, .inl lv)), (b, .inl (cI, 6, .inl (upd (fun j => cr j + lv j) ((fm_own lv cr 6).toNatClampNeg) (((fun j => cr j + lv j) ((fm_own lv cr 6).toNatClampNeg)) - (fm_sum lv 6)))))] H := hP
          have hD9 : va_D A [(a, .inl (cI, 6, .inl lv)), (b, .inl (cI, 6, .inl (upd (fun j => cr j + lv j) ((fm_own lv cr 6).toNatClampNeg) (((fun j => cr j + lv j) ((fm_own lv cr 6).toNatClampNeg)) - (fm_sum lv 6)))))] := hD
          exact W.iret (v := (fm_own lv cr 6)) hx hb hr (fun t ht hW => ⟨⟨(fm_own lv cr 6), upd (fun j => cr j + lv j) ((fm_own lv cr 6).toNatClampNeg) (((fun j => cr j + lv j) ((fm_own lv cr 6).toNatClampNeg)) - (fm_sum lv 6)), rfl, ⟨(by simp only [fm_crd, if_pos q11, if_neg q65]), (by simp only [fm_crd, if_pos q11, if_neg q65])⟩, by rw [ht]; exact hP9, hD9⟩, hS.F ht⟩) hS.2.2 dX4_giveSlot_76
      · have hlti : i < 6 := xm_lt (N := 6) hii (by decide) q11
        refine lv_aload_n hx hb dX4_giveSlot_14 rfl (lv_at hl 1 rfl) ?_
        refine lv_iload hx hb dX4_giveSlot_15 (lv_at hl 4 rfl) ?_
        refine lv_dup2_11 hx hb dX4_giveSlot_17 rfl rfl ?_
        refine xm_iald (D := (dC, dI)) hx hb hK hP 1 0 i (v := (fm_fl (fun j => cr j + lv j) cr i) i) rfl rfl (by decide) rfl (by omega) rfl dX4_giveSlot_18 ?_
        refine xm_topi (y := (cr i)) fm_fl_at ?_
        refine lv_aload_n hx hb dX4_giveSlot_19 rfl (lv_at hl 0 rfl) ?_
        refine lv_iload hx hb dX4_giveSlot_20 (lv_at hl 4 rfl) ?_
        refine xm_iald (D := (dC, dI)) hx hb hK hP 0 0 i (v := lv i) rfl rfl (by decide) rfl (by omega) rfl dX4_giveSlot_22 ?_
        refine lv_iadd hx hb dX4_giveSlot_23 ?_
        refine xm_iast (D := (dC, dI)) hx hb hK hP hD hS 1 0 i rfl rfl (by decide) rfl (by omega) dX4_giveSlot_24 (fun H locs hP hD hS => ?_)
        have hP : va_P (dC, dI) vwCl [(a, .inl (cI, 6, .inl lv)), (b, .inl (cI, 6, .inl (upd (fm_fl (fun j => cr j + lv j) cr i) i ((cr i) + (lv i)))))] H := hP
        have hD : va_D A [(a, .inl (cI, 6, .inl lv)), (b, .inl (cI, 6, .inl (upd (fm_fl (fun j => cr j + lv j) cr i) i ((cr i) + (lv i)))))] := hD
        refine lv_iload_n hx hb dX4_giveSlot_25 rfl (lv_at hl 2 rfl) ?_
        refine lv_aload_n hx hb dX4_giveSlot_26 rfl (lv_at hl 0 rfl) ?_
        refine lv_iload hx hb dX4_giveSlot_27 (lv_at hl 4 rfl) ?_
        refine xm_iald (D := (dC, dI)) hx hb hK hP 0 0 i (v := lv i) rfl rfl (by decide) rfl (by omega) rfl dX4_giveSlot_29 ?_
        refine lv_iadd hx hb dX4_giveSlot_30 ?_
        refine lv_istore_n (lv' := [(2, .int ((fm_sum lv i) + (lv i))), (0, .ref a), (1, .ref b), (3, .int (fm_own lv cr i)), (4, .int (nI i))]) hx hb dX4_giveSlot_31 rfl hl (by decide) rfl (fun lz hl => ?_)
        refine lv_aload_n hx hb dX4_giveSlot_32 rfl (lv_at hl 1 rfl) ?_
        refine lv_iload hx hb dX4_giveSlot_33 (lv_at hl 4 rfl) ?_
        refine xm_iald (D := (dC, dI)) hx hb hK hP 0 0 i (v := lv i) rfl rfl (by decide) rfl (by omega) rfl dX4_giveSlot_35 ?_
        refine lv_if_le (tgt := 57) hx hb dX4_giveSlot_36 (by decide) (fun q36 => ?_) (fun q36 => ?_)
        · refine lv_iinc (v := nI (i + 1)) (lv' := [(4, .int (nI (i + 1))), (2, .int ((fm_sum lv i) + (lv i))), (0, .ref a), (1, .ref b), (3, .int (fm_own lv cr i))]) hx hb dX4_giveSlot_57 hl (k := 4) rfl (nI_1 i) (by decide) rfl (fun lz hl => ?_)
          refine lv_goto (tgt := 7) hx hb dX4_giveSlot_60 (by decide) ?_
          exact ih7 (i + 1) hlti (by omega) ((fm_sum lv i) + (lv i)) (fm_own lv cr i) (upd (fm_fl (fun j => cr j + lv j) cr i) i ((cr i) + (lv i))) rfl (by simp only [fm_own, if_neg q11, if_pos q36]) (fm_fl_t rfl)  H locs hP hD hS lz (lv_sub hl [2, 3, 1, 4, 0] rfl)
        · refine lv_iload_n hx hb dX4_giveSlot_39 rfl (lv_at hl 3 rfl) ?_
          refine lv_iconst (v := (-1)) hx hb dX4_giveSlot_40 (by decide) ?_
          refine lv_icmp_eq (tgt := 54) hx hb dX4_giveSlot_41 (by decide) (fun q41 => ?_) (fun q41 => ?_)
          · refine lv_iload hx hb dX4_giveSlot_54 (lv_at hl 4 rfl) ?_
            refine lv_istore_n (lv' := [(3, .int (nI i)), (2, .int ((fm_sum lv i) + (lv i))), (0, .ref a), (1, .ref b), (4, .int (nI i))]) hx hb dX4_giveSlot_56 rfl hl (by decide) rfl (fun lz hl => ?_)
            refine lv_iinc (v := nI (i + 1)) (lv' := [(4, .int (nI (i + 1))), (3, .int (nI i)), (2, .int ((fm_sum lv i) + (lv i))), (0, .ref a), (1, .ref b)]) hx hb dX4_giveSlot_57 hl (k := 4) rfl (nI_1 i) (by decide) rfl (fun lz hl => ?_)
            refine lv_goto (tgt := 7) hx hb dX4_giveSlot_60 (by decide) ?_
            exact ih7 (i + 1) hlti (by omega) ((fm_sum lv i) + (lv i)) (nI i) (upd (fm_fl (fun j => cr j + lv j) cr i) i ((cr i) + (lv i))) rfl (by simp only [fm_own, if_neg q11, if_neg q36, if_pos q41]) (fm_fl_t rfl)  H locs hP hD hS lz (lv_sub hl [3, 4, 2, 1, 0] rfl)
          · refine lv_aload_n hx hb dX4_giveSlot_44 rfl (lv_at hl 2 rfl) ?_
            refine lv_iload hx hb dX4_giveSlot_45 (lv_at hl 4 rfl) ?_
            refine xm_iald (D := (dC, dI)) hx hb hK hP 1 0 i (v := (upd (fm_fl (fun j => cr j + lv j) cr i) i ((cr i) + (lv i))) i) rfl rfl (by decide) rfl (by omega) rfl dX4_giveSlot_47 ?_
            refine xm_topi (y := (cr i + lv i)) pk_us ?_
            refine lv_aload_n hx hb dX4_giveSlot_48 rfl (lv_at hl 2 rfl) ?_
            refine lv_iload_n hx hb dX4_giveSlot_49 rfl (lv_at hl 3 rfl) ?_
            refine xm_iald (D := (dC, dI)) hx hb hK hP 1 0 ((fm_own lv cr i).toNatClampNeg) (v := (upd (fm_fl (fun j => cr j + lv j) cr i) i ((cr i) + (lv i))) ((fm_own lv cr i).toNatClampNeg)) rfl rfl (by decide) (fm_own_at (by omega) q41).1 (Nat.lt_trans (fm_own_at (by omega) q41).2 hlti) rfl dX4_giveSlot_50 ?_
            refine xm_topi (y := (cr (fm_own lv cr i).toNatClampNeg + lv (fm_own lv cr i).toNatClampNeg)) ((pk_un (Nat.ne_of_lt (fm_own_at (by omega) q41).2)).trans (fm_fl_in (fm_own_at (by omega) q41).2)) ?_
            refine lv_icmp_le (tgt := 57) hx hb dX4_giveSlot_51 (by decide) (fun q51 => ?_) (fun q51 => ?_)
            · refine lv_iinc (v := nI (i + 1)) (lv' := [(4, .int (nI (i + 1))), (2, .int ((fm_sum lv i) + (lv i))), (0, .ref a), (1, .ref b), (3, .int (fm_own lv cr i))]) hx hb dX4_giveSlot_57 hl (k := 4) rfl (nI_1 i) (by decide) rfl (fun lz hl => ?_)
              refine lv_goto (tgt := 7) hx hb dX4_giveSlot_60 (by decide) ?_
              exact ih7 (i + 1) hlti (by omega) ((fm_sum lv i) + (lv i)) (fm_own lv cr i) (upd (fm_fl (fun j => cr j + lv j) cr i) i ((cr i) + (lv i))) rfl (by simp only [fm_own, if_neg q11, if_neg q36, if_neg q41, if_pos q51]) (fm_fl_t rfl)  H locs hP hD hS lz (lv_sub hl [2, 3, 1, 4, 0] rfl)
            · refine lv_iload hx hb dX4_giveSlot_54 (lv_at hl 4 rfl) ?_
              refine lv_istore_n (lv' := [(3, .int (nI i)), (2, .int ((fm_sum lv i) + (lv i))), (0, .ref a), (1, .ref b), (4, .int (nI i))]) hx hb dX4_giveSlot_56 rfl hl (by decide) rfl (fun lz hl => ?_)
              refine lv_iinc (v := nI (i + 1)) (lv' := [(4, .int (nI (i + 1))), (3, .int (nI i)), (2, .int ((fm_sum lv i) + (lv i))), (0, .ref a), (1, .ref b)]) hx hb dX4_giveSlot_57 hl (k := 4) rfl (nI_1 i) (by decide) rfl (fun lz hl => ?_)
              refine lv_goto (tgt := 7) hx hb dX4_giveSlot_60 (by decide) ?_
              exact ih7 (i + 1) hlti (by omega) ((fm_sum lv i) + (lv i)) (nI i) (upd (fm_fl (fun j => cr j + lv j) cr i) i ((cr i) + (lv i))) rfl (by simp only [fm_own, if_neg q11, if_neg q36, if_neg q41, if_neg q51]) (fm_fl_t rfl)  H locs hP hD hS lz (lv_sub hl [3, 4, 2, 1, 0] rfl)
  exact L7 (6 + 1) 0 (by omega) (by omega) 0 (-1) cr rfl rfl (fm_fl_0 _ _).symm  s.heap [] hP hD hS lz (lv_sub hl [3, 4, 2, 1, 0] rfl)

set_option maxHeartbeats 4000000 in
set_option maxRecDepth 100000 in
theorem c_J7_fill_53178 (l : Launch) (dC : Nat → ClassId) (dI : Nat → Nat → Nat) (cI cS cJ : ClassId) (tt : Nat → Nat) (sz : Nat) (a : Nat) (f : Nat → Int32) (v : Int32) : Met l yJ7_fill_53178 wsJ7_fill_53178 ({ frames := 0, cells := 0, slots := 0, locals := 0 } : Room) (va_Pc [.ref a, .int v] (xm_M (dC, dI) cI cS cJ tt [(a, .inl (cI, 6, .inl f))] sz (True))) (va_Qv (fun (u : (Nat → Int32)) => u = (fun _ => v)) (xm_B (dC, dI) (fun (u : (Nat → Int32)) => [(a, .inl (cI, 6, .inl u))]) (va_A [(a, .inl (cI, 6, .inl f))] sz)) (va_A [(a, .inl (cI, 6, .inl f))] sz)) 0 0 (va_A [(a, .inl (cI, 6, .inl f))] sz) := by
  refine Met.ofW (cc := cJ7_fill_53178) (maxL := 4) (ret := none) (by decide) rfl ?_
  intro p e s m args below meth c s₁ B hml hv
  obtain ⟨rfl, hsz, hP, hE, hD0, hpre⟩ := hv
  have hx := B.exec
  have hb := B.bytes
  have hr := B.returns
  have hts := atoms_spec (ws := wsJ7_fill_53178) B.pre
  have hown : s.vm.findClass RJ7 = some m.cls := findClass_of_methodNamed B.named
  have hlocks := B.notSynchronized
  have hK := hE.1
  subst hsz
  have hD := hD0.self (sz := s.heap.size)
  generalize hAe : va_A [(a, .inl (cI, 6, .inl f))] s.heap.size = A at hD hE ⊢
  have hA : ∀ q : Nat, s.heap.size ≤ q → A q := fun q h => by rw [← hAe]; exact Or.inr h
  have hS : va_S A s.heap s.heap [] := va_S.rf
  have hP : va_P (dC, dI) vwCl [(a, .inl (cI, 6, .inl f))] s.heap := hP
  have hl := lv_entry [.ref a, .int v] (n := 4) (Nat.le_of_ble_eq_true rfl)
  rw [lg_entry_eq]
  generalize (lg_sl [.ref a, .int v] ++ List.replicate (4 - (lg_sl [.ref a, .int v]).length) Slot.unset).toArray = lz at hl ⊢
  have hl : lv_has lz 4 [(0, .ref a), (1, .int v)] := hl
  refine lv_iconst (v := 0) hx hb dJ7_fill_53178_0 (by decide) ?_
  refine lv_istore_n (lv' := [(2, .int 0), (0, .ref a), (1, .int v)]) hx hb dJ7_fill_53178_1 rfl hl (by decide) rfl (fun lz hl => ?_)
  refine lv_aload_n hx hb dJ7_fill_53178_2 rfl (lv_at hl 1 rfl) ?_
  refine va_alen (D := (dC, dI)) hx hb hK hP 0 0 (v := 6) rfl rfl rfl dJ7_fill_53178_3 ?_
  refine lv_istore_n (lv' := [(3, .int 6), (2, .int 0), (0, .ref a), (1, .int v)]) hx hb dJ7_fill_53178_4 rfl hl (by decide) rfl (fun lz hl => ?_)
  have L5 : ∀ (zz i : Nat), i ≤ 6 → 6 + 1 ≤ i + zz → ∀ (h : Nat → Int32), h = fm_fl (fun _ => v) f i → ∀ (H : Heap) (locs : List Loc), va_P (dC, dI) vwCl [(a, .inl (cI, 6, .inl h))] H → va_D A [(a, .inl (cI, 6, .inl h))] → va_S A s.heap H locs → ∀ (lz : Array Slot), lv_has lz 4 [(0, .ref a), (1, .int v), (2, .int (nI i)), (3, .int 6)] → W p l e (headSpec wsJ7_fill_53178 ({ frames := 0, cells := 0, slots := 0, locals := 0 } : Room)).room s m ([.ref a, .int v] : List Value).toArray below meth c H locs 0 0 (MQ below (va_Qv (fun (u : (Nat → Int32)) => u = (fun _ => v)) (xm_B (dC, dI) (fun (u : (Nat → Int32)) => [(a, .inl (cI, 6, .inl u))]) A) A) ([.ref a, .int v] : List Value).toArray s 0 0 A) (F0 m 5 lz []) := by
    intro zz
    induction zz with
    | zero => intro i hii hni; exact absurd hni (by omega)
    | succ zz ih5 =>
      intro i hii hni h e_h  H locs hP hD hS lz hl
      subst e_h
      refine lv_iload_n hx hb dJ7_fill_53178_5 rfl (lv_at hl 2 rfl) ?_
      refine lv_iload_n hx hb dJ7_fill_53178_6 rfl (lv_at hl 3 rfl) ?_
      refine lv_icmp_ge (tgt := 20) hx hb dJ7_fill_53178_7 (by decide) (fun q7 => ?_) (fun q7 => ?_)
      · have hNi : 6 = i := (xm_end (N := 6) hii (by decide) q7).symm
        subst hNi
        obtain ⟨hP, hD⟩ := xm_cong hP hD 0 rfl ((fun _ => v)) (fun j hj => by rw [fm_fl_in hj])
        have hP : va_P (dC, dI) vwCl [(a, .inl (cI, 6, .inl (fun _ => v)))] H := hP
        have hD : va_D A [(a, .inl (cI, 6, .inl (fun _ => v)))] := hD
        have hP9 : va_P (dC, dI) vwCl [(a, .inl (cI, 6, .inl (fun _ => v)))] H := hP
        have hD9 : va_D A [(a, .inl (cI, 6, .inl (fun _ => v)))] := hD
        exact W.vret hx hb hr (fun t ht hW => ⟨⟨(fun _ => v), rfl, rfl, by rw [ht]; exact hP9, hD9⟩, hS.F ht⟩) hS.2.2 dJ7_fill_53178_20
      · have hlti : i < 6 := xm_lt (N := 6) hii (by decide) q7
        refine lv_aload_n hx hb dJ7_fill_53178_10 rfl (lv_at hl 0 rfl) ?_
        refine lv_iload_n hx hb dJ7_fill_53178_11 rfl (lv_at hl 2 rfl) ?_
        refine lv_iload_n hx hb dJ7_fill_53178_12 rfl (lv_at hl 1 rfl) ?_
        refine xm_iast (D := (dC, dI)) hx hb hK hP hD hS 0 0 i rfl rfl (by decide) rfl (by omega) dJ7_fill_53178_13 (fun H locs hP hD hS => ?_)
        have hP : va_P (dC, dI) vwCl [(a, .inl (cI, 6, .inl (upd (fm_fl (fun _ => v) f i) i v)))] H := hP
        have hD : va_D A [(a, .inl (cI, 6, .inl (upd (fm_fl (fun _ => v) f i) i v)))] := hD
        refine lv_iinc (v := nI (i + 1)) (lv' := [(2, .int (nI (i + 1))), (0, .ref a), (1, .int v), (3, .int 6)]) hx hb dJ7_fill_53178_14 hl (k := 2) rfl (nI_1 i) (by decide) rfl (fun lz hl => ?_)
        refine lv_goto (tgt := 5) hx hb dJ7_fill_53178_17 (by decide) ?_
        exact ih5 (i + 1) hlti (by omega) (upd (fm_fl (fun _ => v) f i) i v) (fm_fl_t rfl)  H locs hP hD hS lz (lv_sub hl [1, 2, 0, 3] rfl)
  exact L5 (6 + 1) 0 (by omega) (by omega) f (fm_fl_0 _ _).symm  s.heap [] hP hD hS lz (lv_sub hl [2, 3, 1, 0] rfl)


