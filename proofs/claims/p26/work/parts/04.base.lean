/-! Words of mine for all modules: the class's constant arrays, what a method's start says of the machine, reads that leave the heap, and rows for places in arrays. -/
def xm_mk : Nat → Int32 := fun j => ([63, 6, 91, 79, 102, 109, 125, 7, 127, 111, 64, 0] : List Int32).getD j 0
def xm_lo : Nat → Int32 := fun j => ([6, 0, 1, 1, 0] : List Int32).getD j 0
def xm_hi : Nat → Int32 := fun j => ([96, 1, 96, 20, 99] : List Int32).getD j 0
def xm_fi : Nat → Int32 := fun j => ([24, 0, 12, 10, 0] : List Int32).getD j 0
/-- a constant array of the class: its static, and its cells -/
def xm_Z (n : String) (N : Nat) (f : Nat → Int32) (t : Nat) (A : Nat → Prop) (U : State) (H : Heap) : Prop := va_Z "TurnDigits" n "[I" (.ref t) A U H ∧ va_T .int t N (fun j => .int (f j)) A U H
theorem xm_Z.moved {n : String} {N : Nat} {f : Nat → Int32} {t : Nat} {A : Nat → Prop} {u U : State} {H : Heap} (hvm : u.vm.Alike U.vm) (h : xm_Z n N f t A u H) : xm_Z n N f t A U H := ⟨h.1.moved hvm, h.2.moved hvm⟩
theorem xm_Z.kept {n : String} {N : Nat} {f : Nat → Int32} {t : Nat} {A : Nat → Prop} {U : State} {H H1 : Heap} (h : xm_Z n N f t A U H) (hq : ∀ a : Nat, a < H.size → ¬ A a → H1[a]? = H[a]?) : xm_Z n N f t A U H1 := ⟨h.1.kept hq, h.2.kept hq⟩
theorem xm_Z.narrow {n : String} {N : Nat} {f : Nat → Int32} {t : Nat} {A B : Nat → Prop} {U : State} {H : Heap} (h : xm_Z n N f t A U H) (hAB : ∀ q, B q → A q) : xm_Z n N f t B U H := ⟨h.1.narrow hAB, h.2.narrow hAB⟩
/-- private members of the nest that are used -/
def xm_N (U : State) : Prop :=
  va_Nw (.fieldLinkNest RX2 49 "TurnDigits" "FIRST_VALUES" "[I" "TurnDigits") U ∧ va_Nw (.fieldLinkNest RX2 83 "TurnDigits" "MASKS" "[I" "TurnDigits") U ∧
  va_Nw (.methodLinkNest RX4 32 yX0_init "TurnDigits") U ∧ va_Nw (.methodLinkNest RX0 72 yX4_giveSlot "TurnDigits") U ∧ va_Nw (.methodLinkNest RX0 76 yX4_litIn "TurnDigits") U ∧
  va_Nw (.methodLinkNest RX2 58 yX4_magnitude "TurnDigits") U ∧ va_Nw (.methodLinkNest RX2 64 yX4_giveSlot "TurnDigits") U ∧ va_Nw (.methodLinkNest RX2 68 yX4_litIn "TurnDigits") U ∧ va_Nw (.methodLinkNest RX2 79 yX4_wearPlace "TurnDigits") U ∧ va_Nw (.methodLinkNest RX4 25 yX3_init "TurnDigits") U
theorem xm_N.warm {s U : State} (hW : s.WarmedH U.vm) (h : xm_N s) : xm_N U := by
  obtain ⟨h1, h2, h3, h4, h5, h6, h7, h8, h9, h10⟩ := h
  exact ⟨h1.warmF hW, h2.warmF hW, h3.warmM hW, h4.warmM hW, h5.warmM hW, h6.warmM hW, h7.warmM hW, h8.warmM hW, h9.warmM hW, h10.warmM hW⟩
theorem xm_N.same {s U : State} (hW : s.vm = U.vm) (h : xm_N s) : xm_N U := by
  obtain ⟨h1, h2, h3, h4, h5, h6, h7, h8, h9, h10⟩ := h
  exact ⟨h1.same rfl hW, h2.same rfl hW, h3.same rfl hW, h4.same rfl hW, h5.same rfl hW, h6.same rfl hW, h7.same rfl hW, h8.same rfl hW, h9.same rfl hW, h10.same rfl hW⟩
/-- the kinds of arrays -/
abbrev xm_ty (cI cS cJ : ClassId) : List (ClassId × FieldType) := [(cI, .int), (cS, .object RX2)]
/-- what every start says of the machine -/
def xm_E (D : va_G) (cI cS cJ : ClassId) (tt : Nat → Nat) (A : Nat → Prop) (U : State) (H : Heap) : Prop :=
  va_K D vwCl (xm_ty cI cS cJ) U ∧ xm_N U ∧ xm_Z "MASKS" 12 xm_mk (tt 0) A U H ∧ xm_Z "LEAST_VALUES" 5 xm_lo (tt 1) A U H ∧ xm_Z "MOST_VALUES" 5 xm_hi (tt 2) A U H ∧ xm_Z "FIRST_VALUES" 5 xm_fi (tt 3) A U H
section XME
variable {D : va_G} {cI cS cJ : ClassId} {tt : Nat → Nat} {A B : Nat → Prop} {s U : State} {H H1 : Heap}
theorem xm_E.narrow (h : xm_E D cI cS cJ tt A U H) (hAB : ∀ q, B q → A q) : xm_E D cI cS cJ tt B U H := ⟨h.1, h.2.1, h.2.2.1.narrow hAB, h.2.2.2.1.narrow hAB, h.2.2.2.2.1.narrow hAB, h.2.2.2.2.2.narrow hAB⟩
theorem xm_E.kept (h : xm_E D cI cS cJ tt A U H) (hq : ∀ a : Nat, a < H.size → ¬ A a → H1[a]? = H[a]?) : xm_E D cI cS cJ tt A U H1 := ⟨h.1, h.2.1, h.2.2.1.kept hq, h.2.2.2.1.kept hq, h.2.2.2.2.1.kept hq, h.2.2.2.2.2.kept hq⟩
theorem xm_E.warm (h : xm_E D cI cS cJ tt A s H) (hW : s.WarmedH U.vm) : xm_E D cI cS cJ tt A U H := ⟨va_K.moved hW.alike h.1, h.2.1.warm hW, h.2.2.1.moved hW.alike, h.2.2.2.1.moved hW.alike, h.2.2.2.2.1.moved hW.alike, h.2.2.2.2.2.moved hW.alike⟩
theorem xm_E.same (h : xm_E D cI cS cJ tt A s H) (hW : s.vm = U.vm) : xm_E D cI cS cJ tt A U H := by
  have e : s.vm.Alike U.vm := by rw [hW]; exact Vm.Alike.refl U.vm
  exact ⟨va_K.moved e h.1, h.2.1.same hW, h.2.2.1.moved e, h.2.2.2.1.moved e, h.2.2.2.2.1.moved e, h.2.2.2.2.2.moved e⟩
/-- to a callee's start -/
theorem xm_E.go {locs : List Loc} (h : xm_E D cI cS cJ tt A s s.heap) (hS : va_S A s.heap H locs) (hAB : ∀ q, B q → A q) (hU : U.heap = H) (hW : s.WarmedH U.vm) : xm_E D cI cS cJ tt B U U.heap := by
  rw [hU]
  exact ((h.kept hS.2.1).narrow hAB).warm hW
theorem xm_E.no (h : xm_E D cI cS cJ tt A s H) : xm_E D cI cS cJ tt (fun _ => False) s H := h.narrow (fun _ q => q.elim)
end XME
/-- a reader's start: its cells are there, nothing of the frame -/
abbrev xm_R (D : va_G) (cI cS cJ : ClassId) (tt : Nat → Nat) (ws : va_W) (P : Prop) (U : State) : Prop := va_P D vwCl ws U.heap ∧ xm_E D cI cS cJ tt (fun _ => False) U U.heap ∧ P
/-- a writer's start -/
abbrev xm_M (D : va_G) (cI cS cJ : ClassId) (tt : Nat → Nat) (ws : va_W) (sz : Nat) (P : Prop) (U : State) : Prop := U.heap.size = sz ∧ va_P D vwCl ws U.heap ∧ xm_E D cI cS cJ tt (va_A ws sz) U U.heap ∧ va_D (fun _ => True) ws ∧ P
/-- what a writer leaves -/
abbrev xm_B {S : Type} (D : va_G) (w : S → va_W) (A : Nat → Prop) (u : S) (t : State) : Prop := va_P D vwCl (w u) t.heap ∧ va_D A (w u)
theorem xm_Rblind {D : va_G} {cI cS cJ : ClassId} {tt : Nat → Nat} {ws : va_W} {P : Prop} {av : List Value} : FrameBlind (va_Pc av (xm_R D cI cS cJ tt ws P)) := fun a U g mk q => ⟨q.1, q.2.1, q.2.2.1.same (U := U.calling g mk a) rfl, q.2.2.2⟩
theorem xm_Mblind {D : va_G} {cI cS cJ : ClassId} {tt : Nat → Nat} {ws : va_W} {sz : Nat} {P : Prop} {av : List Value} : FrameBlind (va_Pc av (xm_M D cI cS cJ tt ws sz P)) := fun a U g mk q => ⟨q.1, q.2.1, q.2.2.1, q.2.2.2.1.same (U := U.calling g mk a) rfl, q.2.2.2.2⟩
section XMW
variable {p : Program} {l : Launch} {e : Env} {R : Room} {s : State} {m : MethodId} {args : Array Value} {below : List Frame} {meth : Method} {c : Code} {H : Heap} {locs : List Loc} {cells slots : Nat} {Q : State → Prop}
variable {cc : ByteArray} {pc : Nat} {ls : Array Slot} {rest st0 : List Value} {A : Nat → Prop} {H0 : Heap} {D : va_G} {cl : List vw_C} {tys : List (ClassId × FieldType)} {ws : va_W} {a : Nat}
theorem xm_topi {x y : Int32} (h : x = y) (k : W p l e R s m args below meth c H locs cells slots Q (F0 m pc ls (.int y :: rest))) : W p l e R s m args below meth c H locs cells slots Q (F0 m pc ls (.int x :: rest)) := by rw [h]; exact k
theorem xm_topl {x y : Int64} (h : x = y) (k : W p l e R s m args below meth c H locs cells slots Q (F0 m pc ls (.long y :: rest))) : W p l e R s m args below meth c H locs cells slots Q (F0 m pc ls (.long x :: rest)) := by rw [h]; exact k
theorem xm_iald (hexec : p.tables.exec = Jvm.exec) (hb : c.code = cc) (hK : va_K D cl tys s) (hP : va_P D cl ws H) (q0 t0 : Nat) {cA : ClassId} {n : Nat} {f : Nat → Int32} (k : Nat) {v : Int32} {i : Int32} (ha : ws[q0]? = some (a, .inl (cA, n, .inl f))) (ht : tys[t0]? = some (cA, .int)) (hn : n < 2 ^ 31) (hi : i = nI k) (hk : k < n) (hv : f k = v) (hdg : decode cc pc = .ok (.iaload, 1))
    (kk : W p l e R s m args below meth c H locs cells slots Q (F0 m (pc + 1) ls (.int v :: rest))) : W p l e R s m args below meth c H locs cells slots Q (F0 m pc ls (.int i :: .ref a :: rest)) := by
  subst hi
  have hc : (nI k).toNatClampNeg = k := nI_clamp (Nat.lt_trans hk hn)
  exact va_iald hexec hb hK hP q0 t0 ha ht (vp_in_nI hk hn) hdg (by rw [hc, hv]; exact kk)
theorem xm_iast (hexec : p.tables.exec = Jvm.exec) (hb : c.code = cc) (hK : va_K D cl tys s) (hP : va_P D cl ws H) (hD : va_D A ws) (hS : va_S A H0 H locs) (q0 t0 : Nat) {cA : ClassId} {n : Nat} {f : Nat → Int32} (k : Nat) {i x : Int32} (ha : ws[q0]? = some (a, .inl (cA, n, .inl f))) (ht : tys[t0]? = some (cA, .int)) (hn : n < 2 ^ 31) (hi : i = nI k) (hk : k < n) (hdg : decode cc pc = .ok (.iastore, 1))
    (kk : ∀ (H1 : Heap) (locs1 : List Loc), va_P D cl (ws.set q0 (a, .inl (cA, n, .inl (upd f k x)))) H1 → va_D A (ws.set q0 (a, .inl (cA, n, .inl (upd f k x)))) → va_S A H0 H1 locs1 → W p l e R s m args below meth c H1 locs1 cells slots Q (F0 m (pc + 1) ls rest)) : W p l e R s m args below meth c H locs cells slots Q (F0 m pc ls (.int x :: .int i :: .ref a :: rest)) := by
  subst hi
  have hc : (nI k).toNatClampNeg = k := nI_clamp (Nat.lt_trans hk hn)
  exact va_iast hexec hb hK hP hD hS q0 t0 ha ht (vp_in_nI hk hn) hdg (by rw [hc]; exact kk)
theorem xm_ti (hexec : p.tables.exec = Jvm.exec) (hb : c.code = cc) {n : String} {N t : Nat} {f : Nat → Int32} (hT : xm_Z n N f t A s s.heap) (hS : va_S A s.heap H locs) (k : Nat) {i v : Int32} (hN : N < 2 ^ 31) (hi : i = nI k) (hk : k < N) (hv : f k = v) (hdg : decode cc pc = .ok (.iaload, 1))
    (kk : W p l e R s m args below meth c H locs cells slots Q (F0 m (pc + 1) ls (.int v :: rest))) : W p l e R s m args below meth c H locs cells slots Q (F0 m pc ls (.int i :: .ref t :: rest)) := by
  subst hi
  have hc : (nI k).toNatClampNeg = k := nI_clamp (Nat.lt_trans hk hN)
  exact va_ti hexec hb hT.2 hS (vp_in_nI hk hN) (v := .int v) (by rw [hc, hv]) hdg kk
end XMW
/-- the cells of a loop's bound -/
theorem xm_lt {i N : Nat} (hi : i ≤ N) (hN : N < 2 ^ 31) (h : ¬ nI N ≤ nI i) : i < N := by
  rcases Nat.lt_or_ge i N with q | q
  · exact q
  · exact absurd (nI_le q (by omega)) h
theorem xm_end {i N : Nat} (hi : i ≤ N) (hN : N < 2 ^ 31) (h : nI N ≤ nI i) : i = N := by
  have := (nI_leI hN (by omega)).mp h
  omega
/-- a caller's world, explicit cells first, a rest behind them: a call on some of the first -/
theorem xm_join {A0 : Nat → Prop} {D : va_G} {cl : List vw_C} {ws wc wr w1 T : va_W} {H H1 : Heap} (hP : va_P D cl (ws ++ T) H) (hD : va_D A0 (ws ++ T)) (isC isR : List Nat) (hC : isC.map (fun i => ws[i]?) = wc.map some) (hR : isR.map (fun i => ws[i]?) = wr.map some) (hn : va_nd isR = true) (hdis : ∀ i ∈ isR, i ∉ isC)
    (hk : ∀ q : Nat, q < H.size → ¬ va_A wc H.size q → H1[q]? = H[q]?) (hF : ∀ q, va_A wc H.size q → A0 q) (hP1 : va_P D cl w1 H1) (hD1 : va_D (va_A wc H.size) w1) : va_P D cl ((wr ++ w1) ++ T) H1 ∧ va_D A0 ((wr ++ w1) ++ T) := by
  have gl : ∀ {k : Nat} {q : Nat × va_E}, ws[k]? = some q → (ws ++ T)[k]? = some q := fun {k q} h => by rw [List.getElem?_append_left (List.getElem?_eq_some_iff.mp h).1]; exact h
  have gr : ∀ {k : Nat} {q : Nat × va_E}, T[k]? = some q → (ws ++ T)[ws.length + k]? = some q := fun {k q} h => by rw [List.getElem?_append_right (Nat.le_add_right _ _), Nat.add_sub_cancel_left]; exact h
  have hPw : va_P D cl ws H := fun k q h => hP k q (gl h)
  have hPT : va_P D cl T H := fun k q h => hP _ q (gr h)
  have hDw : va_D A0 ws := ⟨fun i j p q h1 h2 h => hD.1 i j p q (gl h1) (gl h2) h, fun k q h => hD.2 k q (gl h)⟩
  have hDT : va_D A0 T := ⟨fun i j p q h1 h2 h => by have := hD.1 _ _ p q (gr h1) (gr h2) h; omega, fun k q h => hD.2 _ q (gr h)⟩
  obtain ⟨hPj, hDj⟩ := va_join hPw hDw isC isR hC hR hn hdis hk hF hP1 hD1
  have outT : ∀ (k : Nat) (q : Nat × va_E), T[k]? = some q → q.1 < H.size ∧ ¬ va_A wc H.size q.1 := by
    intro k q hq
    have hl := (hPT k q hq).lt
    refine ⟨hl, fun h => ?_⟩
    rcases h with ⟨k2, e, h⟩ | h
    · have h1 : (isC.map (fun i => ws[i]?))[k2]? = some (some (q.1, e)) := by rw [hC, List.getElem?_map, h]; rfl
      rw [List.getElem?_map] at h1
      cases hi : isC[k2]? with
      | none => rw [hi] at h1; cases h1
      | some i =>
        rw [hi] at h1
        have h2 : ws[i]? = some (q.1, e) := Option.some.inj h1
        have := hD.1 _ _ _ _ (gl h2) (gr hq) rfl
        have := (List.getElem?_eq_some_iff.mp h2).1
        omega
    · omega
  refine ⟨va_P.app hPj (fun k q hq => (hPT k q hq).kept (hk q.1 (outT k q hq).1 (outT k q hq).2)), va_D.app hDj hDT (fun i j x y hx hy hxy => ?_)⟩
  rcases List.mem_append.mp (List.mem_of_getElem? hx) with h | h
  · obtain ⟨k, hk1⟩ := List.getElem?_of_mem h
    have h1 : (isR.map (fun i => ws[i]?))[k]? = some (some x) := by rw [hR, List.getElem?_map, hk1]; rfl
    rw [List.getElem?_map] at h1
    cases hi : isR[k]? with
    | none => rw [hi] at h1; cases h1
    | some i2 =>
      rw [hi] at h1
      have h2 : ws[i2]? = some x := Option.some.inj h1
      have := hD.1 _ _ _ _ (gl h2) (gr hy) hxy
      have := (List.getElem?_eq_some_iff.mp h2).1
      omega
  · obtain ⟨k, hk1⟩ := List.getElem?_of_mem h
    exact (outT j y hy).2 (by rw [← hxy]; exact hD1.2 k x hk1)
/-- what an array holds matters only at its places -/
theorem xm_cell {cA : ClassId} {n : Nat} {f g : Nat → Int32} (h : ∀ j, j < n → g j = f j) : vp_cell cA (n, .inl g) = vp_cell cA (n, .inl f) := by
  show arrV cA n (fun j => .int (g j)) = arrV cA n (fun j => .int (f j))
  unfold arrV
  congr 2
  funext j
  show Value.int (g j.val) = Value.int (f j.val)
  rw [h j.val j.isLt]
theorem xm_cong {D : va_G} {cl : List vw_C} {A : Nat → Prop} {ws : va_W} {H : Heap} {a : Nat} {cA : ClassId} {n : Nat} {f : Nat → Int32} (hP : va_P D cl ws H) (hD : va_D A ws) (q0 : Nat) (ha : ws[q0]? = some (a, .inl (cA, n, .inl f))) (g : Nat → Int32) (h : ∀ j, j < n → g j = f j) : va_P D cl (ws.set q0 (a, .inl (cA, n, .inl g))) H ∧ va_D A (ws.set q0 (a, .inl (cA, n, .inl g))) := by
  refine ⟨hP.set hD ha ?_ (fun _ _ => rfl), hD.set ha⟩
  show H[a]? = some (vp_cell cA (n, .inl g))
  rw [xm_cell h]
  exact hP q0 _ ha

