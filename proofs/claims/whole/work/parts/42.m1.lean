/-! The model's leaves. -/
theorem xm_bT {P : Prop} [Decidable P] (h : ¬ (if P then (1 : Int32) else 0) = 0) : P := by
  by_cases q : P
  · exact q
  · rw [if_neg q] at h; exact absurd rfl h
theorem xm_bF {P : Prop} [Decidable P] (h : (if P then (1 : Int32) else 0) = 0) : ¬ P := fun q => by
  rw [if_pos q] at h
  exact absurd h (by decide)
theorem mi_le {d : Int32} {n : Nat} (hn : n < 2 ^ 30) : d ≤ nI n ↔ d < nI (n + 1) := by
  rw [Int32.le_iff_toInt_le, Int32.lt_iff_toInt_lt, nI_toInt (by omega), nI_toInt (by omega)]
  omega
theorem mi_rd (n : Nat) (hn : n < 2 ^ 30) (d : Int32) : xt_rg d 0 (nI n) = xt_dg (nI (n + 1)) d := by
  unfold xt_rg xt_dg
  by_cases q : d ≤ nI n
  · rw [if_pos q, if_pos ((mi_le hn).mp q)]
  · rw [if_neg q, if_neg (fun h => q ((mi_le hn).mpr h))]
theorem xv_rw_0 (o : Nat) (g v : Nat → Int32) : xv_rw o 0 g v = v := by
  funext j
  unfold xv_rw
  rw [if_neg (by omega)]
theorem xv_rw_t {o i : Nat} {g v : Nat → Int32} {x : Int32} (h : x = g i) : upd (xv_rw o i g v) (o + i) x = xv_rw o (i + 1) g v := by
  subst h
  funext j
  unfold upd xv_rw
  by_cases e : j = o + i
  · subst e
    rw [if_pos rfl, if_pos (by omega), Nat.add_sub_cancel_left]
  · rw [if_neg e]
    by_cases h2 : o ≤ j ∧ j < o + i
    · rw [if_pos h2, if_pos (by omega)]
    · rw [if_neg h2, if_neg (by omega)]
theorem xv_rw_o {o n j : Nat} {g v : Nat → Int32} (h : ¬ (o ≤ j ∧ j < o + n)) : xv_rw o n g v j = v j := if_neg h
theorem xv_rw_i {o n j : Nat} {g v : Nat → Int32} (h : j < n) : xv_rw o n g v (o + j) = g j := by
  unfold xv_rw
  rw [if_pos (by omega), Nat.add_sub_cancel_left]
theorem fm_sum_c {f g : Nat → Int32} : ∀ {k : Nat}, (∀ j, j < k → g j = f j) → fm_sum g k = fm_sum f k
  | 0, _ => rfl
  | k + 1, h => by
    unfold fm_sum
    rw [fm_sum_c (fun j hj => h j (by omega)), h k (by omega)]
/-- who is lit -/
def ml_by (x o a k : Int32) : Int32 := if x = 1 then (if o = a then (if k = 0 then -1 else o) else -1) else o
theorem ml_lit {x o a k : Int32} (h : k = 0 → a = -1) : ml_by x o a k = fm_litIn o a (fm_dk x) := by
  unfold ml_by fm_litIn fm_dk
  by_cases h1 : x = 1
  · rw [if_pos h1, if_pos h1, if_neg (show ¬ (1 : Int32) = 0 by decide)]
    by_cases h2 : o = a
    · rw [if_pos h2, if_pos h2]
      by_cases h3 : k = 0
      · rw [if_pos h3, h2, h h3]
      · rw [if_neg h3]
    · rw [if_neg h2, if_neg h2]
  · rw [if_neg h1, if_neg h1, if_pos rfl]
/-- gaps are numbers of slots; a digit that is lit once has no gap as long as the frame -/
theorem fr_gl (li : Nat → Int32) (d : Nat) : ∀ n, ∃ c g r : Nat, fr_ls li n d = nI c ∧ fr_gp li n d = nI g ∧ fr_dr li n d = nI r ∧ c ≤ n ∧ g ≤ n ∧ r ≤ n ∧ (n < 2 ^ 30 → (c = 0 → g = n ∧ r = n) ∧ (0 < c → g < n ∧ r < n))
  | 0 => ⟨0, 0, 0, rfl, rfl, rfl, Nat.le_refl 0, Nat.le_refl 0, Nat.le_refl 0, fun _ => ⟨fun _ => ⟨rfl, rfl⟩, fun h => absurd h (Nat.lt_irrefl 0)⟩⟩
  | n + 1 => by
    obtain ⟨c, g, r, h1, h2, h3, h4, h5, h6, h7⟩ := fr_gl li d n
    by_cases q : nI d = li n
    · refine ⟨c + 1, g, 0, ?_, ?_, ?_, by omega, by omega, by omega, fun hn => ?_⟩
      · show (if nI d = li n then fr_ls li n d + 1 else _) = _
        rw [if_pos q, h1]; exact nI_1 c
      · show (if nI d = li n then fr_gp li n d else _) = _
        rw [if_pos q, h2]
      · show (if nI d = li n then 0 else _) = _
        rw [if_pos q]; rfl
      · exact ⟨fun h => absurd h (by omega), fun _ => ⟨by omega, by omega⟩⟩
    · by_cases hn : n + 1 < 2 ^ 30
      · obtain ⟨h8, h9⟩ := h7 (by omega)
        refine ⟨c, if g < r + 1 then r + 1 else g, r + 1, ?_, ?_, ?_, by omega, by split <;> omega, by omega, fun _ => ⟨fun h => ?_, fun h => ?_⟩⟩
        · show (if nI d = li n then _ else fr_ls li n d) = _
          rw [if_neg q, h1]
        · show (if nI d = li n then _ else if fr_gp li n d < fr_dr li n d + 1 then fr_dr li n d + 1 else fr_gp li n d) = _
          rw [if_neg q, h2, h3, nI_1]
          by_cases z : g < r + 1
          · rw [if_pos z, if_pos ((nI_ltI (by omega) (by omega)).mpr z)]
          · rw [if_neg z, if_neg (fun y => z ((nI_ltI (by omega) (by omega)).mp y))]
        · show (if nI d = li n then _ else fr_dr li n d + 1) = _
          rw [if_neg q, h3, nI_1]
        · have := h8 h
          constructor
          · split <;> omega
          · omega
        · have := h9 h
          constructor
          · split <;> omega
          · omega
      · by_cases z : nI g < nI (r + 1)
        · refine ⟨c, r + 1, r + 1, ?_, ?_, ?_, by omega, by omega, by omega, fun h => absurd h hn⟩
          · show (if nI d = li n then _ else fr_ls li n d) = _
            rw [if_neg q, h1]
          · show (if nI d = li n then _ else if fr_gp li n d < fr_dr li n d + 1 then fr_dr li n d + 1 else fr_gp li n d) = _
            rw [if_neg q, h2, h3, nI_1, if_pos z]
          · show (if nI d = li n then _ else fr_dr li n d + 1) = _
            rw [if_neg q, h3, nI_1]
        · refine ⟨c, g, r + 1, ?_, ?_, ?_, by omega, by omega, by omega, fun h => absurd h hn⟩
          · show (if nI d = li n then _ else fr_ls li n d) = _
            rw [if_neg q, h1]
          · show (if nI d = li n then _ else if fr_gp li n d < fr_dr li n d + 1 then fr_dr li n d + 1 else fr_gp li n d) = _
            rw [if_neg q, h2, h3, nI_1, if_neg z]
          · show (if nI d = li n then _ else fr_dr li n d + 1) = _
            rw [if_neg q, h3, nI_1]
theorem fr_gp0 (li : Nat → Int32) (d : Nat) {n : Nat} (hn : n < 2 ^ 30) : 0 ≤ fr_gp li n d := by
  obtain ⟨c, g, r, -, h2, -, -, h5, -⟩ := fr_gl li d n
  rw [h2]
  exact nI_pos' (by omega)
/-- a gap as long as the frame: never lit -/
theorem fr_gpn (li : Nat → Int32) (d : Nat) {n : Nat} (hn : n < 2 ^ 30) : nI n ≤ fr_gp li n d ↔ fr_ls li n d ≤ 0 := by
  obtain ⟨c, g, r, h1, h2, -, h4, h5, h6, h7⟩ := fr_gl li d n
  obtain ⟨h8, h9⟩ := h7 hn
  rw [h1, h2, show (0 : Int32) = nI 0 from rfl, nI_leI (by omega) (by omega), nI_leI (by omega) (by omega)]
  rcases Nat.eq_zero_or_pos c with z | z
  · have := h8 z; omega
  · have := h9 z; omega
/-! ones of a mask of segments -/
def mo_l (x : Int32) : Nat → Int32
  | 0 => x
  | k + 1 => mo_l x k &&& (mo_l x k - 1)
theorem mo_all : ∀ y, y < 128 → ∃ h, h < 8 ∧ fm_bc (nI y) = nI h ∧ mo_l (nI y) h = 0 ∧ ∀ k, k < h → ¬ mo_l (nI y) k = 0 := by decide +kernel
/-! a mask of signs with one bit -/
theorem mr_or : ∀ k, k < 12 → ∀ x, x < 2 ^ k → nI x ||| ((1 : Int32) <<< (nI k &&& 31)) = nI (x + 2 ^ k) := by decide +kernel
theorem mr_bc2 : ∀ a, a < 64 → ∀ b, b < 64 → 0 < 64 * a + b → (fm_bc (nI (64 * a + b)) = 1 ↔ nI (64 * a + b) &&& (nI (64 * a + b) - 1) = 0) := by decide +kernel
theorem mr_bc (x : Nat) (h : x < 4096) (h0 : 0 < x) : fm_bc (nI x) = 1 ↔ nI x &&& (nI x - 1) = 0 := by
  have e : x = 64 * (x / 64) + x % 64 := by omega
  rw [e]
  exact mr_bc2 (x / 64) (by omega) (x % 64) (by omega) (by omega)
theorem rdb_s {b sh : Int32} {k : Nat} : fm_rdb b sh (k + 1) = if xm_mk k &&& (b ^^^ (-1)) = sh then fm_rdb b sh k ||| ((1 : Int32) <<< (nI k &&& 31)) else fm_rdb b sh k := rfl
theorem mr_n (b sh : Int32) : ∀ k, k ≤ 12 → ∃ x, x < 2 ^ k ∧ fm_rdb b sh k = nI x ∧ ∀ j, j < k → xm_mk j &&& (b ^^^ (-1)) = sh → 0 < x
  | 0, _ => ⟨0, by decide, rfl, fun j h => absurd h (Nat.not_lt_zero j)⟩
  | k + 1, hk => by
    obtain ⟨x, h1, h2, h3⟩ := mr_n b sh k (by omega)
    have hp : 2 ^ (k + 1) = 2 ^ k + 2 ^ k := by rw [Nat.pow_succ]; omega
    have hp2 : 0 < 2 ^ k := Nat.two_pow_pos k
    by_cases q : xm_mk k &&& (b ^^^ (-1)) = sh
    · refine ⟨x + 2 ^ k, by omega, ?_, fun _ _ _ => by omega⟩
      unfold fm_rdb
      rw [if_pos q, h2]
      exact mr_or k (by omega) x h1
    · refine ⟨x, by omega, ?_, fun j hj e => ?_⟩
      · unfold fm_rdb
        rw [if_neg q, h2]
      · rcases Nat.lt_or_ge j k with h | h
        · exact h3 j h e
        · have : j = k := by omega
          subst this
          exact absurd e q
theorem mr_one {v : Nat → Int32} {d : Nat} (h : fm_ix (v (8 + d)) 12) : fm_bc (lk_rd v d) = 1 ↔ lk_rd v d &&& (lk_rd v d - 1) = 0 := by
  obtain ⟨x, h1, h2, h3⟩ := mr_n (v (20 + d)) (fm_shw (v (8 + d)) (v (20 + d))) 12 (Nat.le_refl 12)
  have e : lk_rd v d = nI x := h2
  rw [e]
  exact mr_bc x h1 (h3 _ h.2 rfl)
/-! the saved states -/
def mp_sh (pv : Nat → Int32) : Nat → (Nat → Int32)
  | 0 => pv
  | k + 1 => upd (mp_sh pv k) k (pv (k + 80))
theorem mp_sh_o {pv : Nat → Int32} : ∀ {k j : Nat}, k ≤ j → mp_sh pv k j = pv j
  | 0, _, _ => rfl
  | k + 1, j, h => by
    show upd (mp_sh pv k) k (pv (k + 80)) j = pv j
    rw [pk_un (by omega)]
    exact mp_sh_o (by omega)
theorem mp_sh_i {pv : Nat → Int32} : ∀ {k j : Nat}, j < k → mp_sh pv k j = pv (j + 80)
  | 0, j, h => absurd h (Nat.not_lt_zero j)
  | k + 1, j, h => by
    show upd (mp_sh pv k) k (pv (k + 80)) j = pv (j + 80)
    by_cases e : j = k
    · subst e; exact pk_us
    · rw [pk_un e]
      exact mp_sh_i (by omega)
def mp_sv (pv : Nat → Int32) (z : Nat) (v : Nat → Int32) : Nat → Int32 := if z = 6 then xv_rw 400 80 v (mp_sh pv 400) else xv_rw (80 * z) 80 v pv

set_option maxHeartbeats 4000000 in
set_option maxRecDepth 100000 in
theorem c_X5_thrown (l : Launch) (dC : Nat → ClassId) (dI : Nat → Nat → Nat) (cI cS cJ : ClassId) (tt : Nat → Nat) (mm : Nat → Nat) (kp : Int32) (ty : Int32) (th : Int32) (at0 : Int32) (fa : Int32) (ts : Int32) (fr : Int32) : Met l yX5_thrown wsX5_thrown ({ frames := 0, cells := 0, slots := 0, locals := 0 } : Room) (va_Pc [.ref (mm 0)] (xm_R (dC, dI) cI cS cJ tt [((mm 0), .inr (5, [.ref (mm 1), .ref (mm 2), .ref (mm 3), .ref (mm 4), .int kp, .ref (mm 5), .int ty, .int th, .int at0, .int fa, .ref (mm 6), .int ts, .ref (mm 7), .ref (mm 8), .ref (mm 9), .int fr]))] (True))) (k2_QcV (.int th)) 0 0 (fun _ => False) := by
  refine Met.ofW (cc := cX5_thrown) (maxL := 1) (ret := (some .int)) (by decide) rfl ?_
  intro p e s m args below meth c s₁ B hml hv
  obtain ⟨rfl, hP, hE, hpre⟩ := hv
  have hx := B.exec
  have hb := B.bytes
  have hr := B.returns
  have hts := atoms_spec (ws := wsX5_thrown) B.pre
  have hown : s.vm.findClass RX5 = some m.cls := findClass_of_methodNamed B.named
  have hlocks := B.notSynchronized
  have hK := hE.1
  have hS : va_S (fun _ => False) s.heap s.heap [] := va_S.rf
  have hP : va_P (dC, dI) vwCl [((mm 0), .inr (5, [.ref (mm 1), .ref (mm 2), .ref (mm 3), .ref (mm 4), .int kp, .ref (mm 5), .int ty, .int th, .int at0, .int fa, .ref (mm 6), .int ts, .ref (mm 7), .ref (mm 8), .ref (mm 9), .int fr]))] s.heap := hP
  have hin5 : ∀ w ∈ u_ws RX5 TX5 16, w ∈ wsX5_thrown := by decide +kernel
  have hl := lv_entry [.ref (mm 0)] (n := 1) (Nat.le_of_ble_eq_true rfl)
  rw [lg_entry_eq]
  generalize (lg_sl [.ref (mm 0)] ++ List.replicate (1 - (lg_sl [.ref (mm 0)]).length) Slot.unset).toArray = lz at hl ⊢
  have hl : lv_has lz 1 [(0, .ref (mm 0))] := hl
  refine lv_aload_n hx hb dX5_thrown_0 rfl (lv_at hl 0 rfl) ?_
  refine va_get (D := (dC, dI)) (ci := 5) (v := .int th) (C := RX5) (T := TX5) (N := 16) hx hb hts hin5 hown hK hP 0 rfl rfl 7 (by decide) (hts (.fieldLink RX5 37 "TurnDigitsModel" "thrown" "I") (by decide +kernel)) (fun _ h9 => h9) rfl dX5_thrown_1 ?_
  exact W.iret (v := th) hx hb hr (fun t ht hW => ⟨congrArg (fun z => Outcome.returned (some (Value.int z))) rfl, ht⟩) hS.2.2 dX5_thrown_4

set_option maxHeartbeats 4000000 in
set_option maxRecDepth 100000 in
theorem c_X5_fails (l : Launch) (dC : Nat → ClassId) (dI : Nat → Nat → Nat) (cI cS cJ : ClassId) (tt : Nat → Nat) (sz : Nat) (mm : Nat → Nat) (kp : Int32) (ty : Int32) (th : Int32) (at0 : Int32) (fa : Int32) (ts : Int32) (fr : Int32) (k0 : Int32) : Met l yX5_fails wsX5_fails ({ frames := 0, cells := 0, slots := 0, locals := 0 } : Room) (va_Pc [.ref (mm 0), .int k0] (xm_M (dC, dI) cI cS cJ tt [((mm 0), .inr (5, [.ref (mm 1), .ref (mm 2), .ref (mm 3), .ref (mm 4), .int kp, .ref (mm 5), .int ty, .int th, .int at0, .int fa, .ref (mm 6), .int ts, .ref (mm 7), .ref (mm 8), .ref (mm 9), .int fr]))] sz (True))) (va_Qi (fun (r : Int32) (u : Int32) => r = 0 ∧ u = k0) (xm_B (dC, dI) (fun (u : Int32) => [((mm 0), .inr (5, [.ref (mm 1), .ref (mm 2), .ref (mm 3), .ref (mm 4), .int kp, .ref (mm 5), .int ty, .int u, .int at0, .int fa, .ref (mm 6), .int ts, .ref (mm 7), .ref (mm 8), .ref (mm 9), .int fr]))]) (va_A [((mm 0), .inr (5, [.ref (mm 1), .ref (mm 2), .ref (mm 3), .ref (mm 4), .int kp, .ref (mm 5), .int ty, .int th, .int at0, .int fa, .ref (mm 6), .int ts, .ref (mm 7), .ref (mm 8), .ref (mm 9), .int fr]))] sz)) (va_A [((mm 0), .inr (5, [.ref (mm 1), .ref (mm 2), .ref (mm 3), .ref (mm 4), .int kp, .ref (mm 5), .int ty, .int th, .int at0, .int fa, .ref (mm 6), .int ts, .ref (mm 7), .ref (mm 8), .ref (mm 9), .int fr]))] sz)) 0 0 (va_A [((mm 0), .inr (5, [.ref (mm 1), .ref (mm 2), .ref (mm 3), .ref (mm 4), .int kp, .ref (mm 5), .int ty, .int th, .int at0, .int fa, .ref (mm 6), .int ts, .ref (mm 7), .ref (mm 8), .ref (mm 9), .int fr]))] sz) := by
  refine Met.ofW (cc := cX5_fails) (maxL := 2) (ret := (some .int)) (by decide) rfl ?_
  intro p e s m args below meth c s₁ B hml hv
  obtain ⟨rfl, hsz, hP, hE, hD0, hpre⟩ := hv
  have hx := B.exec
  have hb := B.bytes
  have hr := B.returns
  have hts := atoms_spec (ws := wsX5_fails) B.pre
  have hown : s.vm.findClass RX5 = some m.cls := findClass_of_methodNamed B.named
  have hlocks := B.notSynchronized
  have hK := hE.1
  subst hsz
  have hD := hD0.self (sz := s.heap.size)
  generalize hAe : va_A [((mm 0), .inr (5, [.ref (mm 1), .ref (mm 2), .ref (mm 3), .ref (mm 4), .int kp, .ref (mm 5), .int ty, .int th, .int at0, .int fa, .ref (mm 6), .int ts, .ref (mm 7), .ref (mm 8), .ref (mm 9), .int fr]))] s.heap.size = A at hD hE ⊢
  have hA : ∀ q : Nat, s.heap.size ≤ q → A q := fun q h => by rw [← hAe]; exact Or.inr h
  have hS : va_S A s.heap s.heap [] := va_S.rf
  have hP : va_P (dC, dI) vwCl [((mm 0), .inr (5, [.ref (mm 1), .ref (mm 2), .ref (mm 3), .ref (mm 4), .int kp, .ref (mm 5), .int ty, .int th, .int at0, .int fa, .ref (mm 6), .int ts, .ref (mm 7), .ref (mm 8), .ref (mm 9), .int fr]))] s.heap := hP
  have hin5 : ∀ w ∈ u_ws RX5 TX5 16, w ∈ wsX5_fails := by decide +kernel
  have hl := lv_entry [.ref (mm 0), .int k0] (n := 2) (Nat.le_of_ble_eq_true rfl)
  rw [lg_entry_eq]
  generalize (lg_sl [.ref (mm 0), .int k0] ++ List.replicate (2 - (lg_sl [.ref (mm 0), .int k0]).length) Slot.unset).toArray = lz at hl ⊢
  have hl : lv_has lz 2 [(0, .ref (mm 0)), (1, .int k0)] := hl
  refine lv_aload_n hx hb dX5_fails_0 rfl (lv_at hl 0 rfl) ?_
  refine lv_iload_n hx hb dX5_fails_1 rfl (lv_at hl 1 rfl) ?_
  refine va_put (D := (dC, dI)) (ci := 5) (v := .int k0) (ty := .int) (C := RX5) (T := TX5) (N := 16) hx hb hts hin5 tyX5 tyX5_ok nmX5 hown hK hP hD hS 0 rfl rfl 7 (by decide) (hts (.fieldLink RX5 37 "TurnDigitsModel" "thrown" "I") (by decide +kernel)) (fun _ h9 => h9) rfl (by decide +kernel) rfl rfl (Nat.le_of_ble_eq_true rfl) dX5_fails_2 (fun H locs hP hD hS => ?_)
  have hP : va_P (dC, dI) vwCl [((mm 0), .inr (5, [.ref (mm 1), .ref (mm 2), .ref (mm 3), .ref (mm 4), .int kp, .ref (mm 5), .int ty, .int k0, .int at0, .int fa, .ref (mm 6), .int ts, .ref (mm 7), .ref (mm 8), .ref (mm 9), .int fr]))] H := hP
  have hD : va_D A [((mm 0), .inr (5, [.ref (mm 1), .ref (mm 2), .ref (mm 3), .ref (mm 4), .int kp, .ref (mm 5), .int ty, .int k0, .int at0, .int fa, .ref (mm 6), .int ts, .ref (mm 7), .ref (mm 8), .ref (mm 9), .int fr]))] := hD
  refine lv_iconst (v := 0) hx hb dX5_fails_5 (by decide) ?_
  have hP9 : va_P (dC, dI) vwCl [((mm 0), .inr (5, [.ref (mm 1), .ref (mm 2), .ref (mm 3), .ref (mm 4), .int kp, .ref (mm 5), .int ty, .int k0, .int at0, .int fa, .ref (mm 6), .int ts, .ref (mm 7), .ref (mm 8), .ref (mm 9), .int fr]))] H := hP
  have hD9 : va_D A [((mm 0), .inr (5, [.ref (mm 1), .ref (mm 2), .ref (mm 3), .ref (mm 4), .int kp, .ref (mm 5), .int ty, .int k0, .int at0, .int fa, .ref (mm 6), .int ts, .ref (mm 7), .ref (mm 8), .ref (mm 9), .int fr]))] := hD
  exact W.iret (v := 0) hx hb hr (fun t ht hW => ⟨⟨0, k0, rfl, ⟨rfl, rfl⟩, by rw [ht]; exact hP9, hD9⟩, hS.F ht⟩) hS.2.2 dX5_fails_6

set_option maxHeartbeats 4000000 in
set_option maxRecDepth 100000 in
theorem c_X5_in (l : Launch) (dC : Nat → ClassId) (dI : Nat → Nat → Nat) (cI cS cJ : ClassId) (tt : Nat → Nat) (x0 : Int32) (lo : Int32) (hi : Int32) : Met l yX5_in wsX5_in ({ frames := 0, cells := 0, slots := 0, locals := 0 } : Room) (va_Pc [.int x0, .int lo, .int hi] (xm_R (dC, dI) cI cS cJ tt [] (True))) (k2_QcV (.int (if xt_rg x0 lo hi = 0 then 1 else 0))) 0 0 (fun _ => False) := by
  refine Met.ofW (cc := cX5_in) (maxL := 3) (ret := (some .boolean)) (by decide) rfl ?_
  intro p e s m args below meth c s₁ B hml hv
  obtain ⟨rfl, hP, hE, hpre⟩ := hv
  have hx := B.exec
  have hb := B.bytes
  have hr := B.returns
  have hts := atoms_spec (ws := wsX5_in) B.pre
  have hown : s.vm.findClass RX5 = some m.cls := findClass_of_methodNamed B.named
  have hlocks := B.notSynchronized
  have hK := hE.1
  have hS : va_S (fun _ => False) s.heap s.heap [] := va_S.rf
  have hP : va_P (dC, dI) vwCl [] s.heap := hP
  have hl := lv_entry [.int x0, .int lo, .int hi] (n := 3) (Nat.le_of_ble_eq_true rfl)
  rw [lg_entry_eq]
  generalize (lg_sl [.int x0, .int lo, .int hi] ++ List.replicate (3 - (lg_sl [.int x0, .int lo, .int hi]).length) Slot.unset).toArray = lz at hl ⊢
  have hl : lv_has lz 3 [(0, .int x0), (1, .int lo), (2, .int hi)] := hl
  refine lv_iload_n hx hb dX5_in_0 rfl (lv_at hl 0 rfl) ?_
  refine lv_iload_n hx hb dX5_in_1 rfl (lv_at hl 1 rfl) ?_
  refine lv_icmp_lt (tgt := 14) hx hb dX5_in_2 (by decide) (fun q2 => ?_) (fun q2 => ?_)
  · refine lv_iconst (v := 0) hx hb dX5_in_14 (by decide) ?_
    exact W.zret (v := 0) hx hb hr rfl (fun t ht hW => ⟨congrArg (fun z => Outcome.returned (some (Value.int z))) (by unfold xt_rg; rw [if_pos q2]; rfl), ht⟩) hS.2.2 dX5_in_15
  · refine lv_iload_n hx hb dX5_in_5 rfl (lv_at hl 0 rfl) ?_
    refine lv_iload_n hx hb dX5_in_6 rfl (lv_at hl 2 rfl) ?_
    refine lv_icmp_gt (tgt := 14) hx hb dX5_in_7 (by decide) (fun q7 => ?_) (fun q7 => ?_)
    · refine lv_iconst (v := 0) hx hb dX5_in_14 (by decide) ?_
      exact W.zret (v := 0) hx hb hr rfl (fun t ht hW => ⟨congrArg (fun z => Outcome.returned (some (Value.int z))) (by unfold xt_rg; rw [if_neg q2, if_neg (Int32.not_le.mpr q7)]; rfl), ht⟩) hS.2.2 dX5_in_15
    · refine lv_iconst (v := 1) hx hb dX5_in_10 (by decide) ?_
      refine lv_goto (tgt := 15) hx hb dX5_in_11 (by decide) ?_
      exact W.zret (v := 1) hx hb hr rfl (fun t ht hW => ⟨congrArg (fun z => Outcome.returned (some (Value.int z))) (by unfold xt_rg; rw [if_neg q2, if_pos (Int32.not_lt.mp q7)]; rfl), ht⟩) hS.2.2 dX5_in_15

set_option maxHeartbeats 4000000 in
set_option maxRecDepth 100000 in
theorem c_X5_isDigit (l : Launch) (dC : Nat → ClassId) (dI : Nat → Nat → Nat) (cI cS cJ : ClassId) (tt : Nat → Nat) (x0 : Int32) : Met l yX5_isDigit wsX5_isDigit ({ frames := 1, cells := 0, slots := 0, locals := 22 } : Room) (va_Pc [.int x0] (xm_R (dC, dI) cI cS cJ tt [] (True))) (k2_QcV (.int (if xt_dg 6 x0 = 0 then 1 else 0))) 0 0 (fun _ => False) := by
  refine Met.ofW (cc := cX5_isDigit) (maxL := 1) (ret := (some .boolean)) (by decide) rfl ?_
  intro p e s m args below meth c s₁ B hml hv
  obtain ⟨rfl, hP, hE, hpre⟩ := hv
  have hx := B.exec
  have hb := B.bytes
  have hr := B.returns
  have hts := atoms_spec (ws := wsX5_isDigit) B.pre
  have hown : s.vm.findClass RX5 = some m.cls := findClass_of_methodNamed B.named
  have hlocks := B.notSynchronized
  have hK := hE.1
  have hS : va_S (fun _ => False) s.heap s.heap [] := va_S.rf
  have hP : va_P (dC, dI) vwCl [] s.heap := hP
  have hl := lv_entry [.int x0] (n := 1) (Nat.le_of_ble_eq_true rfl)
  rw [lg_entry_eq]
  generalize (lg_sl [.int x0] ++ List.replicate (1 - (lg_sl [.int x0]).length) Slot.unset).toArray = lz at hl ⊢
  have hl : lv_has lz 1 [(0, .int x0)] := hl
  refine lv_iload_n hx hb dX5_isDigit_0 rfl (lv_at hl 0 rfl) ?_
  refine lv_iconst (v := 0) hx hb dX5_isDigit_1 (by decide) ?_
  refine lv_iconst (v := 5) hx hb dX5_isDigit_2 (by decide) ?_
  have hPc := hP.sub (ws' := []) [] rfl
  refine W.callV ((va_runS (As := [.int x0, .int 0, .int 5]) (rest := []) ⟨hx, hb, hml, hown, hts⟩ (c_X5_in l dC dI cI cS cJ tt x0 0 5) (va_cwS 3 hts gX5_isDigit_X5_in rfl rfl rfl (by decide +kernel) ⟨Nat.le_of_ble_eq_true rfl, Nat.le_of_ble_eq_true rfl⟩) ⟨xm_Rblind, fun U hU hW => ⟨rfl, by rw [hU]; exact hPc, hE.go hS (fun _ q => q.elim) hU hW, trivial⟩⟩ rfl rfl hl.1 rfl (lv_room (Nat.le_of_ble_eq_true rfl)) dX5_isDigit_3 ⟨Nat.zero_le _, Nat.zero_le _⟩).run) ?_
  refine W.eq (g2 := F0 m 6 lz (.int (if xt_rg x0 0 5 = 0 then 1 else 0) :: [])) rfl ?_
  exact W.zret (v := if xt_rg x0 0 5 = 0 then 1 else 0) hx hb hr (xm_nb _) (fun t ht hW => ⟨congrArg (fun z => Outcome.returned (some (Value.int z))) (by rw [show xt_rg x0 0 5 = xt_dg 6 x0 from mi_rd 5 (by decide) x0]), ht⟩) hS.2.2 dX5_isDigit_6

set_option maxHeartbeats 4000000 in
set_option maxRecDepth 100000 in
theorem c_X5_isSegment (l : Launch) (dC : Nat → ClassId) (dI : Nat → Nat → Nat) (cI cS cJ : ClassId) (tt : Nat → Nat) (x0 : Int32) : Met l yX5_isSegment wsX5_isSegment ({ frames := 1, cells := 0, slots := 0, locals := 22 } : Room) (va_Pc [.int x0] (xm_R (dC, dI) cI cS cJ tt [] (True))) (k2_QcV (.int (if xt_dg 7 x0 = 0 then 1 else 0))) 0 0 (fun _ => False) := by
  refine Met.ofW (cc := cX5_isSegment) (maxL := 1) (ret := (some .boolean)) (by decide) rfl ?_
  intro p e s m args below meth c s₁ B hml hv
  obtain ⟨rfl, hP, hE, hpre⟩ := hv
  have hx := B.exec
  have hb := B.bytes
  have hr := B.returns
  have hts := atoms_spec (ws := wsX5_isSegment) B.pre
  have hown : s.vm.findClass RX5 = some m.cls := findClass_of_methodNamed B.named
  have hlocks := B.notSynchronized
  have hK := hE.1
  have hS : va_S (fun _ => False) s.heap s.heap [] := va_S.rf
  have hP : va_P (dC, dI) vwCl [] s.heap := hP
  have hl := lv_entry [.int x0] (n := 1) (Nat.le_of_ble_eq_true rfl)
  rw [lg_entry_eq]
  generalize (lg_sl [.int x0] ++ List.replicate (1 - (lg_sl [.int x0]).length) Slot.unset).toArray = lz at hl ⊢
  have hl : lv_has lz 1 [(0, .int x0)] := hl
  refine lv_iload_n hx hb dX5_isSegment_0 rfl (lv_at hl 0 rfl) ?_
  refine lv_iconst (v := 0) hx hb dX5_isSegment_1 (by decide) ?_
  refine lv_bipush (v := 6) hx hb dX5_isSegment_2 (by decide) ?_
  have hPc := hP.sub (ws' := []) [] rfl
  refine W.callV ((va_runS (As := [.int x0, .int 0, .int 6]) (rest := []) ⟨hx, hb, hml, hown, hts⟩ (c_X5_in l dC dI cI cS cJ tt x0 0 6) (va_cwS 3 hts gX5_isSegment_X5_in rfl rfl rfl (by decide +kernel) ⟨Nat.le_of_ble_eq_true rfl, Nat.le_of_ble_eq_true rfl⟩) ⟨xm_Rblind, fun U hU hW => ⟨rfl, by rw [hU]; exact hPc, hE.go hS (fun _ q => q.elim) hU hW, trivial⟩⟩ rfl rfl hl.1 rfl (lv_room (Nat.le_of_ble_eq_true rfl)) dX5_isSegment_4 ⟨Nat.zero_le _, Nat.zero_le _⟩).run) ?_
  refine W.eq (g2 := F0 m 7 lz (.int (if xt_rg x0 0 6 = 0 then 1 else 0) :: [])) rfl ?_
  exact W.zret (v := if xt_rg x0 0 6 = 0 then 1 else 0) hx hb hr (xm_nb _) (fun t ht hW => ⟨congrArg (fun z => Outcome.returned (some (Value.int z))) (by rw [show xt_rg x0 0 6 = xt_dg 7 x0 from mi_rd 6 (by decide) x0]), ht⟩) hS.2.2 dX5_isSegment_7

set_option maxHeartbeats 4000000 in
set_option maxRecDepth 100000 in
theorem c_X5_isSign (l : Launch) (dC : Nat → ClassId) (dI : Nat → Nat → Nat) (cI cS cJ : ClassId) (tt : Nat → Nat) (x0 : Int32) : Met l yX5_isSign wsX5_isSign ({ frames := 1, cells := 0, slots := 0, locals := 22 } : Room) (va_Pc [.int x0] (xm_R (dC, dI) cI cS cJ tt [] (True))) (k2_QcV (.int (if xt_rg x0 0 11 = 0 then 1 else 0))) 0 0 (fun _ => False) := by
  refine Met.ofW (cc := cX5_isSign) (maxL := 1) (ret := (some .boolean)) (by decide) rfl ?_
  intro p e s m args below meth c s₁ B hml hv
  obtain ⟨rfl, hP, hE, hpre⟩ := hv
  have hx := B.exec
  have hb := B.bytes
  have hr := B.returns
  have hts := atoms_spec (ws := wsX5_isSign) B.pre
  have hown : s.vm.findClass RX5 = some m.cls := findClass_of_methodNamed B.named
  have hlocks := B.notSynchronized
  have hK := hE.1
  have hS : va_S (fun _ => False) s.heap s.heap [] := va_S.rf
  have hP : va_P (dC, dI) vwCl [] s.heap := hP
  have hl := lv_entry [.int x0] (n := 1) (Nat.le_of_ble_eq_true rfl)
  rw [lg_entry_eq]
  generalize (lg_sl [.int x0] ++ List.replicate (1 - (lg_sl [.int x0]).length) Slot.unset).toArray = lz at hl ⊢
  have hl : lv_has lz 1 [(0, .int x0)] := hl
  refine lv_iload_n hx hb dX5_isSign_0 rfl (lv_at hl 0 rfl) ?_
  refine lv_iconst (v := 0) hx hb dX5_isSign_1 (by decide) ?_
  refine lv_bipush (v := 11) hx hb dX5_isSign_2 (by decide) ?_
  have hPc := hP.sub (ws' := []) [] rfl
  refine W.callV ((va_runS (As := [.int x0, .int 0, .int 11]) (rest := []) ⟨hx, hb, hml, hown, hts⟩ (c_X5_in l dC dI cI cS cJ tt x0 0 11) (va_cwS 3 hts gX5_isSign_X5_in rfl rfl rfl (by decide +kernel) ⟨Nat.le_of_ble_eq_true rfl, Nat.le_of_ble_eq_true rfl⟩) ⟨xm_Rblind, fun U hU hW => ⟨rfl, by rw [hU]; exact hPc, hE.go hS (fun _ q => q.elim) hU hW, trivial⟩⟩ rfl rfl hl.1 rfl (lv_room (Nat.le_of_ble_eq_true rfl)) dX5_isSign_4 ⟨Nat.zero_le _, Nat.zero_le _⟩).run) ?_
  refine W.eq (g2 := F0 m 7 lz (.int (if xt_rg x0 0 11 = 0 then 1 else 0) :: [])) rfl ?_
  exact W.zret (v := if xt_rg x0 0 11 = 0 then 1 else 0) hx hb hr (xm_nb _) (fun t ht hW => ⟨congrArg (fun z => Outcome.returned (some (Value.int z))) (rfl), ht⟩) hS.2.2 dX5_isSign_7

set_option maxHeartbeats 4000000 in
set_option maxRecDepth 100000 in
theorem c_X5_isLevel (l : Launch) (dC : Nat → ClassId) (dI : Nat → Nat → Nat) (cI cS cJ : ClassId) (tt : Nat → Nat) (x0 : Int32) : Met l yX5_isLevel wsX5_isLevel ({ frames := 1, cells := 0, slots := 0, locals := 22 } : Room) (va_Pc [.int x0] (xm_R (dC, dI) cI cS cJ tt [] (True))) (k2_QcV (.int (if xt_rg x0 0 15 = 0 then 1 else 0))) 0 0 (fun _ => False) := by
  refine Met.ofW (cc := cX5_isLevel) (maxL := 1) (ret := (some .boolean)) (by decide) rfl ?_
  intro p e s m args below meth c s₁ B hml hv
  obtain ⟨rfl, hP, hE, hpre⟩ := hv
  have hx := B.exec
  have hb := B.bytes
  have hr := B.returns
  have hts := atoms_spec (ws := wsX5_isLevel) B.pre
  have hown : s.vm.findClass RX5 = some m.cls := findClass_of_methodNamed B.named
  have hlocks := B.notSynchronized
  have hK := hE.1
  have hS : va_S (fun _ => False) s.heap s.heap [] := va_S.rf
  have hP : va_P (dC, dI) vwCl [] s.heap := hP
  have hl := lv_entry [.int x0] (n := 1) (Nat.le_of_ble_eq_true rfl)
  rw [lg_entry_eq]
  generalize (lg_sl [.int x0] ++ List.replicate (1 - (lg_sl [.int x0]).length) Slot.unset).toArray = lz at hl ⊢
  have hl : lv_has lz 1 [(0, .int x0)] := hl
  refine lv_iload_n hx hb dX5_isLevel_0 rfl (lv_at hl 0 rfl) ?_
  refine lv_iconst (v := 0) hx hb dX5_isLevel_1 (by decide) ?_
  refine lv_bipush (v := 15) hx hb dX5_isLevel_2 (by decide) ?_
  have hPc := hP.sub (ws' := []) [] rfl
  refine W.callV ((va_runS (As := [.int x0, .int 0, .int 15]) (rest := []) ⟨hx, hb, hml, hown, hts⟩ (c_X5_in l dC dI cI cS cJ tt x0 0 15) (va_cwS 3 hts gX5_isLevel_X5_in rfl rfl rfl (by decide +kernel) ⟨Nat.le_of_ble_eq_true rfl, Nat.le_of_ble_eq_true rfl⟩) ⟨xm_Rblind, fun U hU hW => ⟨rfl, by rw [hU]; exact hPc, hE.go hS (fun _ q => q.elim) hU hW, trivial⟩⟩ rfl rfl hl.1 rfl (lv_room (Nat.le_of_ble_eq_true rfl)) dX5_isLevel_4 ⟨Nat.zero_le _, Nat.zero_le _⟩).run) ?_
  refine W.eq (g2 := F0 m 7 lz (.int (if xt_rg x0 0 15 = 0 then 1 else 0) :: [])) rfl ?_
  exact W.zret (v := if xt_rg x0 0 15 = 0 then 1 else 0) hx hb hr (xm_nb _) (fun t ht hW => ⟨congrArg (fun z => Outcome.returned (some (Value.int z))) (rfl), ht⟩) hS.2.2 dX5_isLevel_7

set_option maxHeartbeats 4000000 in
set_option maxRecDepth 100000 in
theorem c_X5_shownAs (l : Launch) (dC : Nat → ClassId) (dI : Nat → Nat → Nat) (cI cS cJ : ClassId) (tt : Nat → Nat) (mm : Nat → Nat) (kp : Int32) (ty : Int32) (th : Int32) (at0 : Int32) (fa : Int32) (ts : Int32) (fr : Int32) (v : Nat → Int32) (d : Nat) (w0 : Nat) : Met l yX5_shownAs wsX5_shownAs ({ frames := 0, cells := 0, slots := 0, locals := 0 } : Room) (va_Pc [.ref (mm 0), .int (nI d), .int (nI w0)] (xm_R (dC, dI) cI cS cJ tt [((mm 0), .inr (5, [.ref (mm 1), .ref (mm 2), .ref (mm 3), .ref (mm 4), .int kp, .ref (mm 5), .int ty, .int th, .int at0, .int fa, .ref (mm 6), .int ts, .ref (mm 7), .ref (mm 8), .ref (mm 9), .int fr])), ((mm 1), .inl (cI, 12, .inl xm_mk)), ((mm 2), .inl (cI, 80, .inl v))] (d < 6 ∧ w0 < 12))) (k2_QcV (.int (xm_mk w0 &&& (v (20 + d) ^^^ (-1))))) 0 0 (fun _ => False) := by
  refine Met.ofW (cc := cX5_shownAs) (maxL := 3) (ret := (some .int)) (by decide) rfl ?_
  intro p e s m args below meth c s₁ B hml hv
  obtain ⟨rfl, hP, hE, hpre⟩ := hv
  have hx := B.exec
  have hb := B.bytes
  have hr := B.returns
  have hts := atoms_spec (ws := wsX5_shownAs) B.pre
  have hown : s.vm.findClass RX5 = some m.cls := findClass_of_methodNamed B.named
  have hlocks := B.notSynchronized
  have hK := hE.1
  have hS : va_S (fun _ => False) s.heap s.heap [] := va_S.rf
  have hP : va_P (dC, dI) vwCl [((mm 0), .inr (5, [.ref (mm 1), .ref (mm 2), .ref (mm 3), .ref (mm 4), .int kp, .ref (mm 5), .int ty, .int th, .int at0, .int fa, .ref (mm 6), .int ts, .ref (mm 7), .ref (mm 8), .ref (mm 9), .int fr])), ((mm 1), .inl (cI, 12, .inl xm_mk)), ((mm 2), .inl (cI, 80, .inl v))] s.heap := hP
  have hin5 : ∀ w ∈ u_ws RX5 TX5 16, w ∈ wsX5_shownAs := by decide +kernel
  have hl := lv_entry [.ref (mm 0), .int (nI d), .int (nI w0)] (n := 3) (Nat.le_of_ble_eq_true rfl)
  rw [lg_entry_eq]
  generalize (lg_sl [.ref (mm 0), .int (nI d), .int (nI w0)] ++ List.replicate (3 - (lg_sl [.ref (mm 0), .int (nI d), .int (nI w0)]).length) Slot.unset).toArray = lz at hl ⊢
  have hl : lv_has lz 3 [(0, .ref (mm 0)), (1, .int (nI d)), (2, .int (nI w0))] := hl
  obtain ⟨hd6, hw12⟩ := hpre
  refine lv_aload_n hx hb dX5_shownAs_0 rfl (lv_at hl 0 rfl) ?_
  refine va_get (D := (dC, dI)) (ci := 5) (v := .ref (mm 1)) (C := RX5) (T := TX5) (N := 16) hx hb hts hin5 hown hK hP 0 rfl rfl 0 (by decide) (hts (.fieldLink RX5 7 "TurnDigitsModel" "masks" "[I") (by decide +kernel)) (fun _ h9 => h9) rfl dX5_shownAs_1 ?_
  refine lv_iload_n hx hb dX5_shownAs_4 rfl (lv_at hl 2 rfl) ?_
  refine xm_iald (D := (dC, dI)) hx hb hK hP 1 0 w0 (v := xm_mk w0) rfl rfl (by decide) rfl (by omega) rfl dX5_shownAs_5 ?_
  refine lv_aload_n hx hb dX5_shownAs_6 rfl (lv_at hl 0 rfl) ?_
  refine va_get (D := (dC, dI)) (ci := 5) (v := .ref (mm 2)) (C := RX5) (T := TX5) (N := 16) hx hb hts hin5 hown hK hP 0 rfl rfl 1 (by decide) (hts (.fieldLink RX5 13 "TurnDigitsModel" "now" "[I") (by decide +kernel)) (fun _ h9 => h9) rfl dX5_shownAs_7 ?_
  refine lv_bipush (v := 20) hx hb dX5_shownAs_10 (by decide) ?_
  refine lv_iload_n hx hb dX5_shownAs_12 rfl (lv_at hl 1 rfl) ?_
  refine lv_iadd hx hb dX5_shownAs_13 ?_
  refine xm_topi (y := nI (20 + d)) (nI_add 20 d) ?_
  refine xm_iald (D := (dC, dI)) hx hb hK hP 2 0 (20 + d) (v := v (20 + d)) rfl rfl (by decide) rfl (by omega) rfl dX5_shownAs_14 ?_
  refine lv_iconst (v := (-1)) hx hb dX5_shownAs_15 (by decide) ?_
  refine lv_ixor hx hb dX5_shownAs_16 ?_
  refine lv_iand hx hb dX5_shownAs_17 ?_
  exact W.iret (v := (xm_mk w0) &&& ((v (20 + d)) ^^^ (-1))) hx hb hr (fun t ht hW => ⟨congrArg (fun z => Outcome.returned (some (Value.int z))) (rfl), ht⟩) hS.2.2 dX5_shownAs_18

set_option maxHeartbeats 4000000 in
set_option maxRecDepth 100000 in
theorem c_X5_levels (l : Launch) (dC : Nat → ClassId) (dI : Nat → Nat → Nat) (cI cS cJ : ClassId) (tt : Nat → Nat) (b : Nat) (s0 : Nat → Int32) : Met l yX5_levels wsX5_levels ({ frames := 0, cells := 0, slots := 0, locals := 0 } : Room) (va_Pc [.ref b] (xm_R (dC, dI) cI cS cJ tt [(b, .inl (cI, 80, .inl s0))] (True))) (k2_QcV (.int (fm_sum (fun j => s0 (14 + j)) 6))) 0 0 (fun _ => False) := by
  refine Met.ofW (cc := cX5_levels) (maxL := 3) (ret := (some .int)) (by decide) rfl ?_
  intro p e s m args below meth c s₁ B hml hv
  obtain ⟨rfl, hP, hE, hpre⟩ := hv
  have hx := B.exec
  have hb := B.bytes
  have hr := B.returns
  have hts := atoms_spec (ws := wsX5_levels) B.pre
  have hown : s.vm.findClass RX5 = some m.cls := findClass_of_methodNamed B.named
  have hlocks := B.notSynchronized
  have hK := hE.1
  have hS : va_S (fun _ => False) s.heap s.heap [] := va_S.rf
  have hP : va_P (dC, dI) vwCl [(b, .inl (cI, 80, .inl s0))] s.heap := hP
  have hl := lv_entry [.ref b] (n := 3) (Nat.le_of_ble_eq_true rfl)
  rw [lg_entry_eq]
  generalize (lg_sl [.ref b] ++ List.replicate (3 - (lg_sl [.ref b]).length) Slot.unset).toArray = lz at hl ⊢
  have hl : lv_has lz 3 [(0, .ref b)] := hl
  refine lv_iconst (v := 0) hx hb dX5_levels_0 (by decide) ?_
  refine lv_istore_n (lv' := [(1, .int 0), (0, .ref b)]) hx hb dX5_levels_1 rfl hl (by decide) rfl (fun lz hl => ?_)
  refine lv_iconst (v := 0) hx hb dX5_levels_2 (by decide) ?_
  refine lv_istore_n (lv' := [(2, .int 0), (1, .int 0), (0, .ref b)]) hx hb dX5_levels_3 rfl hl (by decide) rfl (fun lz hl => ?_)
  have L4 : ∀ (zz i : Nat), i ≤ 6 → 6 + 1 ≤ i + zz → ∀ (x1 : Int32), x1 = fm_sum (fun j => s0 (14 + j)) i → ∀ (lz : Array Slot), lv_has lz 3 [(0, .ref b), (1, .int x1), (2, .int (nI i))] → W p l e (headSpec wsX5_levels ({ frames := 0, cells := 0, slots := 0, locals := 0 } : Room)).room s m ([.ref b] : List Value).toArray below meth c s.heap [] 0 0 (MQ below (k2_QcV (.int (fm_sum (fun j => s0 (14 + j)) 6))) ([.ref b] : List Value).toArray s 0 0 (fun _ => False)) (F0 m 4 lz []) := by
    intro zz
    induction zz with
    | zero => intro i hii hni; exact absurd hni (by omega)
    | succ zz ih4 =>
      intro i hii hni x1 e_x1  lz hl
      subst e_x1
      refine lv_iload_n hx hb dX5_levels_4 rfl (lv_at hl 2 rfl) ?_
      refine lv_bipush (v := 6) hx hb dX5_levels_5 (by decide) ?_
      refine lv_icmp_ge (tgt := 25) hx hb dX5_levels_7 (by decide) (fun q7 => ?_) (fun q7 => ?_)
      · have hNi : 6 = i := (xm_end (N := 6) hii (by decide) q7).symm
        subst hNi
        refine lv_iload_n hx hb dX5_levels_25 rfl (lv_at hl 1 rfl) ?_
        exact W.iret (v := (fm_sum (fun j => s0 (14 + j)) 6)) hx hb hr (fun t ht hW => ⟨congrArg (fun z => Outcome.returned (some (Value.int z))) (rfl), ht⟩) hS.2.2 dX5_levels_26
      · have hlti : i < 6 := xm_lt (N := 6) hii (by decide) q7
        refine lv_iload_n hx hb dX5_levels_10 rfl (lv_at hl 1 rfl) ?_
        refine lv_aload_n hx hb dX5_levels_11 rfl (lv_at hl 0 rfl) ?_
        refine lv_bipush (v := 14) hx hb dX5_levels_12 (by decide) ?_
        refine lv_iload_n hx hb dX5_levels_14 rfl (lv_at hl 2 rfl) ?_
        refine lv_iadd hx hb dX5_levels_15 ?_
        refine xm_topi (y := nI (14 + i)) (nI_add 14 i) ?_
        refine xm_iald (D := (dC, dI)) hx hb hK hP 0 0 (14 + i) (v := s0 (14 + i)) rfl rfl (by decide) rfl (by omega) rfl dX5_levels_16 ?_
        refine lv_iadd hx hb dX5_levels_17 ?_
        refine lv_istore_n (lv' := [(1, .int ((fm_sum (fun j => s0 (14 + j)) i) + (s0 (14 + i)))), (0, .ref b), (2, .int (nI i))]) hx hb dX5_levels_18 rfl hl (by decide) rfl (fun lz hl => ?_)
        refine lv_iinc (v := nI (i + 1)) (lv' := [(2, .int (nI (i + 1))), (1, .int ((fm_sum (fun j => s0 (14 + j)) i) + (s0 (14 + i)))), (0, .ref b)]) hx hb dX5_levels_19 hl (k := 2) rfl (nI_1 i) (by decide) rfl (fun lz hl => ?_)
        refine lv_goto (tgt := 4) hx hb dX5_levels_22 (by decide) ?_
        exact ih4 (i + 1) hlti (by omega) ((fm_sum (fun j => s0 (14 + j)) i) + (s0 (14 + i))) rfl  lz (lv_sub hl [2, 1, 0] rfl)
  exact L4 (6 + 1) 0 (by omega) (by omega) 0 rfl  lz (lv_sub hl [2, 1, 0] rfl)

set_option maxHeartbeats 4000000 in
set_option maxRecDepth 100000 in
theorem c_X5_turns_d (l : Launch) (dC : Nat → ClassId) (dI : Nat → Nat → Nat) (cI cS cJ : ClassId) (tt : Nat → Nat) (sz : Nat) (b : Nat) (s0 : Nat → Int32) (b2 : Nat) (cr : Nat → Int32) : Met l yX5_turns wsX5_turns ({ frames := 1, cells := 0, slots := 0, locals := 22 } : Room) (va_Pc [.ref b, .ref b2, .int 0] (xm_M (dC, dI) cI cS cJ tt [(b, .inl (cI, 80, .inl s0)), (b2, .inl (cI, 6, .inl cr))] sz (True))) (va_Qi (fun (r : Int32) (u : (Nat → Int32)) => r = fm_own (fun j => s0 (14 + j)) cr 6 ∧ u = fm_crd (fun j => s0 (14 + j)) cr) (xm_B (dC, dI) (fun (u : (Nat → Int32)) => [(b, .inl (cI, 80, .inl s0)), (b2, .inl (cI, 6, .inl u))]) (va_A [(b, .inl (cI, 80, .inl s0)), (b2, .inl (cI, 6, .inl cr))] sz)) (va_A [(b, .inl (cI, 80, .inl s0)), (b2, .inl (cI, 6, .inl cr))] sz)) 0 0 (va_A [(b, .inl (cI, 80, .inl s0)), (b2, .inl (cI, 6, .inl cr))] sz) := by
  refine Met.ofW (cc := cX5_turns) (maxL := 5) (ret := (some .int)) (by decide) rfl ?_
  intro p e s m args below meth c s₁ B hml hv
  obtain ⟨rfl, hsz, hP, hE, hD0, hpre⟩ := hv
  have hx := B.exec
  have hb := B.bytes
  have hr := B.returns
  have hts := atoms_spec (ws := wsX5_turns) B.pre
  have hown : s.vm.findClass RX5 = some m.cls := findClass_of_methodNamed B.named
  have hlocks := B.notSynchronized
  have hK := hE.1
  subst hsz
  have hD := hD0.self (sz := s.heap.size)
  generalize hAe : va_A [(b, .inl (cI, 80, .inl s0)), (b2, .inl (cI, 6, .inl cr))] s.heap.size = A at hD hE ⊢
  have hA : ∀ q : Nat, s.heap.size ≤ q → A q := fun q h => by rw [← hAe]; exact Or.inr h
  have hS : va_S A s.heap s.heap [] := va_S.rf
  have hP : va_P (dC, dI) vwCl [(b, .inl (cI, 80, .inl s0)), (b2, .inl (cI, 6, .inl cr))] s.heap := hP
  have hl := lv_entry [.ref b, .ref b2, .int 0] (n := 5) (Nat.le_of_ble_eq_true rfl)
  rw [lg_entry_eq]
  generalize (lg_sl [.ref b, .ref b2, .int 0] ++ List.replicate (5 - (lg_sl [.ref b, .ref b2, .int 0]).length) Slot.unset).toArray = lz at hl ⊢
  have hl : lv_has lz 5 [(0, .ref b), (1, .ref b2), (2, .int 0)] := hl
  refine lv_iconst (v := (-1)) hx hb dX5_turns_0 (by decide) ?_
  refine lv_istore_n (lv' := [(3, .int (-1)), (0, .ref b), (1, .ref b2), (2, .int 0)]) hx hb dX5_turns_1 rfl hl (by decide) rfl (fun lz hl => ?_)
  refine lv_iconst (v := 0) hx hb dX5_turns_2 (by decide) ?_
  refine lv_istore (lv' := [(4, .int 0), (3, .int (-1)), (0, .ref b), (1, .ref b2), (2, .int 0)]) hx hb dX5_turns_3 hl (by decide) rfl (fun lz hl => ?_)
  have L5 : ∀ (zz i : Nat), i ≤ 6 → 6 + 1 ≤ i + zz → ∀ (x3 : Int32) (f : Nat → Int32), x3 = fm_own (fun j => s0 (14 + j)) cr i → f = fm_fl (fun j => cr j + s0 (14 + j)) cr i → ∀ (H : Heap) (locs : List Loc), va_P (dC, dI) vwCl [(b, .inl (cI, 80, .inl s0)), (b2, .inl (cI, 6, .inl f))] H → va_D A [(b, .inl (cI, 80, .inl s0)), (b2, .inl (cI, 6, .inl f))] → va_S A s.heap H locs → ∀ (lz : Array Slot), lv_has lz 5 [(0, .ref b), (1, .ref b2), (2, .int 0), (3, .int x3), (4, .int (nI i))] → W p l e (headSpec wsX5_turns ({ frames := 1, cells := 0, slots := 0, locals := 22 } : Room)).room s m ([.ref b, .ref b2, .int 0] : List Value).toArray below meth c H locs 0 0 (MQ below (va_Qi (fun (r : Int32) (u : (Nat → Int32)) => r = fm_own (fun j => s0 (14 + j)) cr 6 ∧ u = fm_crd (fun j => s0 (14 + j)) cr) (xm_B (dC, dI) (fun (u : (Nat → Int32)) => [(b, .inl (cI, 80, .inl s0)), (b2, .inl (cI, 6, .inl u))]) A) A) ([.ref b, .ref b2, .int 0] : List Value).toArray s 0 0 A) (F0 m 5 lz []) := by
    intro zz
    induction zz with
    | zero => intro i hii hni; exact absurd hni (by omega)
    | succ zz ih5 =>
      intro i hii hni x3 f e_x3 e_f  H locs hP hD hS lz hl
      subst e_x3 e_f
      refine lv_iload hx hb dX5_turns_5 (lv_at hl 4 rfl) ?_
      refine lv_bipush (v := 6) hx hb dX5_turns_7 (by decide) ?_
      refine lv_icmp_ge (tgt := 70) hx hb dX5_turns_9 (by decide) (fun q9 => ?_) (fun q9 => ?_)
      · have hNi : 6 = i := (xm_end (N := 6) hii (by decide) q9).symm
        subst hNi
        obtain ⟨hP, hD⟩ := xm_cong hP hD 1 rfl ((fun j => cr j + s0 (14 + j))) (fun j hj => by rw [fm_fl_in hj])
        have hP : va_P (dC, dI) vwCl [(b, .inl (cI, 80, .inl s0)), (b2, .inl (cI, 6, .inl (fun j => cr j + s0 (14 + j))))] H := hP
        have hD : va_D A [(b, .inl (cI, 80, .inl s0)), (b2, .inl (cI, 6, .inl (fun j => cr j + s0 (14 + j))))] := hD
        refine lv_iload_n hx hb dX5_turns_70 rfl (lv_at hl 3 rfl) ?_
        refine lv_iconst (v := (-1)) hx hb dX5_turns_71 (by decide) ?_
        refine lv_icmp_eq (tgt := 87) hx hb dX5_turns_72 (by decide) (fun q72 => ?_) (fun q72 => ?_)
        · refine lv_iload_n hx hb dX5_turns_87 rfl (lv_at hl 3 rfl) ?_
          have hP9 : va_P (dC, dI) vwCl [(b, .inl (cI, 80, .inl s0)), (b2, .inl (cI, 6, .inl (fun j => cr j + s0 (14 + j))))] H := hP
          have hD9 : va_D A [(b, .inl (cI, 80, .inl s0)), (b2, .inl (cI, 6, .inl (fun j => cr j + s0 (14 + j))))] := hD
          exact W.iret (v := (fm_own (fun j => s0 (14 + j)) cr 6)) hx hb hr (fun t ht hW => ⟨⟨(fm_own (fun j => s0 (14 + j)) cr 6), (fun j => cr j + s0 (14 + j)), rfl, ⟨(by simp only [fm_crd, if_pos q9, if_pos q72]), (by simp only [fm_crd, if_pos q9, if_pos q72])⟩, by rw [ht]; exact hP9, hD9⟩, hS.F ht⟩) hS.2.2 dX5_turns_88
        · refine lv_aload_n hx hb dX5_turns_75 rfl (lv_at hl 1 rfl) ?_
          refine lv_iload_n hx hb dX5_turns_76 rfl (lv_at hl 2 rfl) ?_
          refine lv_iload_n hx hb dX5_turns_77 rfl (lv_at hl 3 rfl) ?_
          refine lv_iadd hx hb dX5_turns_78 ?_
          refine lv_dup2_11 hx hb dX5_turns_79 rfl rfl ?_
          refine xm_iald (D := (dC, dI)) hx hb hK hP 1 0 ((fm_own (fun j => s0 (14 + j)) cr 6).toNatClampNeg) (v := (fun j => cr j + s0 (14 + j)) ((fm_own (fun j => s0 (14 + j)) cr 6).toNatClampNeg)) rfl rfl (by decide) ((Int32.zero_add _).trans (fm_own_at (by decide) q72).1) (by have := (fm_own_at (by decide) q72).2; omega) rfl dX5_turns_80 ?_
          refine lv_aload_n hx hb dX5_turns_81 rfl (lv_at hl 0 rfl) ?_
          have hPc := hP.sub (ws' := [(b, .inl (cI, 80, .inl s0))]) [0] rfl
          refine W.callV ((va_runS (As := [.ref b]) (rest := [.int ((fun j => cr j + s0 (14 + j)) ((fm_own (fun j => s0 (14 + j)) cr 6).toNatClampNeg)), .int (0 + (fm_own (fun j => s0 (14 + j)) cr 6)), .ref b2]) ⟨hx, hb, hml, hown, hts⟩ (c_X5_levels l dC dI cI cS cJ tt b s0) (va_cwS 1 hts gX5_turns_X5_levels rfl rfl rfl (by decide +kernel) ⟨Nat.le_of_ble_eq_true rfl, Nat.le_of_ble_eq_true rfl⟩) ⟨xm_Rblind, fun U hU hW => ⟨rfl, by rw [hU]; exact hPc, hE.go hS (fun _ q => q.elim) hU hW, trivial⟩⟩ rfl rfl hl.1 rfl (lv_room (Nat.le_of_ble_eq_true rfl)) dX5_turns_82 ⟨Nat.zero_le _, Nat.zero_le _⟩).run) ?_
          refine W.eq (g2 := F0 m 85 lz (.int (fm_sum (fun j => s0 (14 + j)) 6) :: [.int ((fun j => cr j + s0 (14 + j)) ((fm_own (fun j => s0 (14 + j)) cr 6).toNatClampNeg)), .int (0 + (fm_own (fun j => s0 (14 + j)) cr 6)), .ref b2])) rfl ?_
          refine lv_isub hx hb dX5_turns_85 ?_
          refine xm_iast (D := (dC, dI)) hx hb hK hP hD hS 1 0 ((fm_own (fun j => s0 (14 + j)) cr 6).toNatClampNeg) rfl rfl (by decide) ((Int32.zero_add _).trans (fm_own_at (by decide) q72).1) (by have := (fm_own_at (by decide) q72).2; omega) dX5_turns_86 (fun H locs hP hD hS => ?_)
          have hP : va_P (dC, dI) vwCl [(b, .inl (cI, 80, .inl s0)), (b2, .inl (cI, 6, .inl (upd (fun j => cr j + s0 (14 + j)) ((fm_own (fun j => s0 (14 + j)) cr 6).toNatClampNeg) (((fun j => cr j + s0 (14 + j)) ((fm_own (fun j => s0 (14 + j)) cr 6).toNatClampNeg)) - (fm_sum (fun j => s0 (14 + j)) 6)))))] H := hP
          have hD : va_D A [(b, .inl (cI, 80, .inl s0)), (b2, .inl (cI, 6, .inl (upd (fun j => cr j + s0 (14 + j)) ((fm_own (fun j => s0 (14 + j)) cr 6).toNatClampNeg) (((fun j => cr j + s0 (14 + j)) ((fm_own (fun j => s0 (14 + j)) cr 6).toNatClampNeg)) - (fm_sum (fun j => s0 (14 + j)) 6)))))] := hD
          refine lv_iload_n hx hb dX5_turns_87 rfl (lv_at hl 3 rfl) ?_
          have hP9 : va_P (dC, dI) vwCl [(b, .inl (cI, 80, .inl s0)), (b2, .inl (cI, 6, .inl (upd (fun j => cr j + s0 (14 + j)) ((fm_own (fun j => s0 (14 + j)) cr 6).toNatClampNeg) (((fun j => cr j + s0 (14 + j)) ((fm_own (fun j => s0 (14 + j)) cr 6).toNatClampNeg)) - (fm_sum (fun j => s0 (14 + j)) 6)))))] H := hP
          have hD9 : va_D A [(b, .inl (cI, 80, .inl s0)), (b2, .inl (cI, 6, .inl (upd (fun j => cr j + s0 (14 + j)) ((fm_own (fun j => s0 (14 + j)) cr 6).toNatClampNeg) (((fun j => cr j + s0 (14 + j)) ((fm_own (fun j => s0 (14 + j)) cr 6).toNatClampNeg)) - (fm_sum (fun j => s0 (14 + j)) 6)))))] := hD
          exact W.iret (v := (fm_own (fun j => s0 (14 + j)) cr 6)) hx hb hr (fun t ht hW => ⟨⟨(fm_own (fun j => s0 (14 + j)) cr 6), upd (fun j => cr j + s0 (14 + j)) ((fm_own (fun j => s0 (14 + j)) cr 6).toNatClampNeg) (((fun j => cr j + s0 (14 + j)) ((fm_own (fun j => s0 (14 + j)) cr 6).toNatClampNeg)) - (fm_sum (fun j => s0 (14 + j)) 6)), rfl, ⟨(by simp only [fm_crd, if_pos q9, if_neg q72]), (by simp only [fm_crd, if_pos q9, if_neg q72])⟩, by rw [ht]; exact hP9, hD9⟩, hS.F ht⟩) hS.2.2 dX5_turns_88
      · have hlti : i < 6 := xm_lt (N := 6) hii (by decide) q9
        refine lv_aload_n hx hb dX5_turns_12 rfl (lv_at hl 1 rfl) ?_
        refine lv_iload_n hx hb dX5_turns_13 rfl (lv_at hl 2 rfl) ?_
        refine lv_iload hx hb dX5_turns_14 (lv_at hl 4 rfl) ?_
        refine lv_iadd hx hb dX5_turns_16 ?_
        refine xm_topi (y := nI i) (Int32.zero_add _) ?_
        refine lv_dup2_11 hx hb dX5_turns_17 rfl rfl ?_
        refine xm_iald (D := (dC, dI)) hx hb hK hP 1 0 i (v := (fm_fl (fun j => cr j + s0 (14 + j)) cr i) i) rfl rfl (by decide) rfl (by omega) rfl dX5_turns_18 ?_
        refine xm_topi (y := (cr i)) fm_fl_at ?_
        refine lv_aload_n hx hb dX5_turns_19 rfl (lv_at hl 0 rfl) ?_
        refine lv_bipush (v := 14) hx hb dX5_turns_20 (by decide) ?_
        refine lv_iload hx hb dX5_turns_22 (lv_at hl 4 rfl) ?_
        refine lv_iadd hx hb dX5_turns_24 ?_
        refine xm_topi (y := nI (14 + i)) (nI_add 14 i) ?_
        refine xm_iald (D := (dC, dI)) hx hb hK hP 0 0 (14 + i) (v := s0 (14 + i)) rfl rfl (by decide) rfl (by omega) rfl dX5_turns_25 ?_
        refine lv_iadd hx hb dX5_turns_26 ?_
        refine xm_iast (D := (dC, dI)) hx hb hK hP hD hS 1 0 i rfl rfl (by decide) rfl (by omega) dX5_turns_27 (fun H locs hP hD hS => ?_)
        have hP : va_P (dC, dI) vwCl [(b, .inl (cI, 80, .inl s0)), (b2, .inl (cI, 6, .inl (upd (fm_fl (fun j => cr j + s0 (14 + j)) cr i) i ((cr i) + (s0 (14 + i))))))] H := hP
        have hD : va_D A [(b, .inl (cI, 80, .inl s0)), (b2, .inl (cI, 6, .inl (upd (fm_fl (fun j => cr j + s0 (14 + j)) cr i) i ((cr i) + (s0 (14 + i))))))] := hD
        refine lv_aload_n hx hb dX5_turns_28 rfl (lv_at hl 0 rfl) ?_
        refine lv_bipush (v := 14) hx hb dX5_turns_29 (by decide) ?_
        refine lv_iload hx hb dX5_turns_31 (lv_at hl 4 rfl) ?_
        refine lv_iadd hx hb dX5_turns_33 ?_
        refine xm_topi (y := nI (14 + i)) (nI_add 14 i) ?_
        refine xm_iald (D := (dC, dI)) hx hb hK hP 0 0 (14 + i) (v := s0 (14 + i)) rfl rfl (by decide) rfl (by omega) rfl dX5_turns_34 ?_
        refine lv_if_le (tgt := 62) hx hb dX5_turns_35 (by decide) (fun q35 => ?_) (fun q35 => ?_)
        · refine lv_iload_n hx hb dX5_turns_62 rfl (lv_at hl 3 rfl) ?_
          refine lv_istore_n (lv' := [(3, .int (fm_own (fun j => s0 (14 + j)) cr i)), (0, .ref b), (1, .ref b2), (2, .int 0), (4, .int (nI i))]) hx hb dX5_turns_63 rfl hl (by decide) rfl (fun lz hl => ?_)
          refine lv_iinc (v := nI (i + 1)) (lv' := [(4, .int (nI (i + 1))), (3, .int (fm_own (fun j => s0 (14 + j)) cr i)), (0, .ref b), (1, .ref b2), (2, .int 0)]) hx hb dX5_turns_64 hl (k := 4) rfl (nI_1 i) (by decide) rfl (fun lz hl => ?_)
          refine lv_goto (tgt := 5) hx hb dX5_turns_67 (by decide) ?_
          exact ih5 (i + 1) hlti (by omega) (fm_own (fun j => s0 (14 + j)) cr i) (upd (fm_fl (fun j => cr j + s0 (14 + j)) cr i) i ((cr i) + (s0 (14 + i)))) (by simp only [fm_own, if_neg q9, if_pos q35]) (fm_fl_t rfl)  H locs hP hD hS lz (lv_sub hl [2, 3, 4, 1, 0] rfl)
        · refine lv_iload_n hx hb dX5_turns_38 rfl (lv_at hl 3 rfl) ?_
          refine lv_iconst (v := (-1)) hx hb dX5_turns_39 (by decide) ?_
          refine lv_icmp_eq (tgt := 57) hx hb dX5_turns_40 (by decide) (fun q40 => ?_) (fun q40 => ?_)
          · refine lv_iload hx hb dX5_turns_57 (lv_at hl 4 rfl) ?_
            refine lv_goto (tgt := 63) hx hb dX5_turns_59 (by decide) ?_
            refine lv_istore_n (lv' := [(3, .int (nI i)), (0, .ref b), (1, .ref b2), (2, .int 0), (4, .int (nI i))]) hx hb dX5_turns_63 rfl hl (by decide) rfl (fun lz hl => ?_)
            refine lv_iinc (v := nI (i + 1)) (lv' := [(4, .int (nI (i + 1))), (3, .int (nI i)), (0, .ref b), (1, .ref b2), (2, .int 0)]) hx hb dX5_turns_64 hl (k := 4) rfl (nI_1 i) (by decide) rfl (fun lz hl => ?_)
            refine lv_goto (tgt := 5) hx hb dX5_turns_67 (by decide) ?_
            exact ih5 (i + 1) hlti (by omega) (nI i) (upd (fm_fl (fun j => cr j + s0 (14 + j)) cr i) i ((cr i) + (s0 (14 + i)))) (by simp only [fm_own, if_neg q9, if_neg q35, if_pos q40]) (fm_fl_t rfl)  H locs hP hD hS lz (lv_sub hl [2, 3, 4, 1, 0] rfl)
          · refine lv_aload_n hx hb dX5_turns_43 rfl (lv_at hl 1 rfl) ?_
            refine lv_iload_n hx hb dX5_turns_44 rfl (lv_at hl 2 rfl) ?_
            refine lv_iload hx hb dX5_turns_45 (lv_at hl 4 rfl) ?_
            refine lv_iadd hx hb dX5_turns_47 ?_
            refine xm_topi (y := nI i) (Int32.zero_add _) ?_
            refine xm_iald (D := (dC, dI)) hx hb hK hP 1 0 i (v := (upd (fm_fl (fun j => cr j + s0 (14 + j)) cr i) i ((cr i) + (s0 (14 + i)))) i) rfl rfl (by decide) rfl (by omega) rfl dX5_turns_48 ?_
            refine xm_topi (y := (cr i + s0 (14 + i))) pk_us ?_
            refine lv_aload_n hx hb dX5_turns_49 rfl (lv_at hl 1 rfl) ?_
            refine lv_iload_n hx hb dX5_turns_50 rfl (lv_at hl 2 rfl) ?_
            refine lv_iload_n hx hb dX5_turns_51 rfl (lv_at hl 3 rfl) ?_
            refine lv_iadd hx hb dX5_turns_52 ?_
            refine xm_iald (D := (dC, dI)) hx hb hK hP 1 0 ((fm_own (fun j => s0 (14 + j)) cr i).toNatClampNeg) (v := (upd (fm_fl (fun j => cr j + s0 (14 + j)) cr i) i ((cr i) + (s0 (14 + i)))) ((fm_own (fun j => s0 (14 + j)) cr i).toNatClampNeg)) rfl rfl (by decide) ((Int32.zero_add _).trans (fm_own_at (by omega) q40).1) (by have := (fm_own_at (by omega) q40).2; omega) rfl dX5_turns_53 ?_
            refine xm_topi (y := (cr (fm_own (fun j => s0 (14 + j)) cr i).toNatClampNeg + s0 (14 + (fm_own (fun j => s0 (14 + j)) cr i).toNatClampNeg))) ((pk_un (Nat.ne_of_lt (fm_own_at (by omega) q40).2)).trans (fm_fl_in (fm_own_at (by omega) q40).2)) ?_
            refine lv_icmp_le (tgt := 62) hx hb dX5_turns_54 (by decide) (fun q54 => ?_) (fun q54 => ?_)
            · refine lv_iload_n hx hb dX5_turns_62 rfl (lv_at hl 3 rfl) ?_
              refine lv_istore_n (lv' := [(3, .int (fm_own (fun j => s0 (14 + j)) cr i)), (0, .ref b), (1, .ref b2), (2, .int 0), (4, .int (nI i))]) hx hb dX5_turns_63 rfl hl (by decide) rfl (fun lz hl => ?_)
              refine lv_iinc (v := nI (i + 1)) (lv' := [(4, .int (nI (i + 1))), (3, .int (fm_own (fun j => s0 (14 + j)) cr i)), (0, .ref b), (1, .ref b2), (2, .int 0)]) hx hb dX5_turns_64 hl (k := 4) rfl (nI_1 i) (by decide) rfl (fun lz hl => ?_)
              refine lv_goto (tgt := 5) hx hb dX5_turns_67 (by decide) ?_
              exact ih5 (i + 1) hlti (by omega) (fm_own (fun j => s0 (14 + j)) cr i) (upd (fm_fl (fun j => cr j + s0 (14 + j)) cr i) i ((cr i) + (s0 (14 + i)))) (by simp only [fm_own, if_neg q9, if_neg q35, if_neg q40, if_pos q54]) (fm_fl_t rfl)  H locs hP hD hS lz (lv_sub hl [2, 3, 4, 1, 0] rfl)
            · refine lv_iload hx hb dX5_turns_57 (lv_at hl 4 rfl) ?_
              refine lv_goto (tgt := 63) hx hb dX5_turns_59 (by decide) ?_
              refine lv_istore_n (lv' := [(3, .int (nI i)), (0, .ref b), (1, .ref b2), (2, .int 0), (4, .int (nI i))]) hx hb dX5_turns_63 rfl hl (by decide) rfl (fun lz hl => ?_)
              refine lv_iinc (v := nI (i + 1)) (lv' := [(4, .int (nI (i + 1))), (3, .int (nI i)), (0, .ref b), (1, .ref b2), (2, .int 0)]) hx hb dX5_turns_64 hl (k := 4) rfl (nI_1 i) (by decide) rfl (fun lz hl => ?_)
              refine lv_goto (tgt := 5) hx hb dX5_turns_67 (by decide) ?_
              exact ih5 (i + 1) hlti (by omega) (nI i) (upd (fm_fl (fun j => cr j + s0 (14 + j)) cr i) i ((cr i) + (s0 (14 + i)))) (by simp only [fm_own, if_neg q9, if_neg q35, if_neg q40, if_neg q54]) (fm_fl_t rfl)  H locs hP hD hS lz (lv_sub hl [2, 3, 4, 1, 0] rfl)
  exact L5 (6 + 1) 0 (by omega) (by omega) (-1) cr rfl (fm_fl_0 _ _).symm  s.heap [] hP hD hS lz (lv_sub hl [2, 3, 4, 1, 0] rfl)

set_option maxHeartbeats 4000000 in
set_option maxRecDepth 100000 in
theorem c_X5_turns_a (l : Launch) (dC : Nat → ClassId) (dI : Nat → Nat → Nat) (cI cS cJ : ClassId) (tt : Nat → Nat) (sz : Nat) (b : Nat) (v : Nat → Int32) : Met l yX5_turns wsX5_turns ({ frames := 1, cells := 0, slots := 0, locals := 22 } : Room) (va_Pc [.ref b, .ref b, .int 26] (xm_M (dC, dI) cI cS cJ tt [(b, .inl (cI, 80, .inl v))] sz (True))) (va_Qi (fun (r : Int32) (u : (Nat → Int32)) => r = fm_own (fun j => v (14 + j)) (fun j => v (26 + j)) 6 ∧ u = xv_rw 26 6 (fm_crd (fun j => v (14 + j)) (fun j => v (26 + j))) v) (xm_B (dC, dI) (fun (u : (Nat → Int32)) => [(b, .inl (cI, 80, .inl u))]) (va_A [(b, .inl (cI, 80, .inl v))] sz)) (va_A [(b, .inl (cI, 80, .inl v))] sz)) 0 0 (va_A [(b, .inl (cI, 80, .inl v))] sz) := by
  refine Met.ofW (cc := cX5_turns) (maxL := 5) (ret := (some .int)) (by decide) rfl ?_
  intro p e s m args below meth c s₁ B hml hv
  obtain ⟨rfl, hsz, hP, hE, hD0, hpre⟩ := hv
  have hx := B.exec
  have hb := B.bytes
  have hr := B.returns
  have hts := atoms_spec (ws := wsX5_turns) B.pre
  have hown : s.vm.findClass RX5 = some m.cls := findClass_of_methodNamed B.named
  have hlocks := B.notSynchronized
  have hK := hE.1
  subst hsz
  have hD := hD0.self (sz := s.heap.size)
  generalize hAe : va_A [(b, .inl (cI, 80, .inl v))] s.heap.size = A at hD hE ⊢
  have hA : ∀ q : Nat, s.heap.size ≤ q → A q := fun q h => by rw [← hAe]; exact Or.inr h
  have hS : va_S A s.heap s.heap [] := va_S.rf
  have hP : va_P (dC, dI) vwCl [(b, .inl (cI, 80, .inl v))] s.heap := hP
  have hl := lv_entry [.ref b, .ref b, .int 26] (n := 5) (Nat.le_of_ble_eq_true rfl)
  rw [lg_entry_eq]
  generalize (lg_sl [.ref b, .ref b, .int 26] ++ List.replicate (5 - (lg_sl [.ref b, .ref b, .int 26]).length) Slot.unset).toArray = lz at hl ⊢
  have hl : lv_has lz 5 [(0, .ref b), (1, .ref b), (2, .int 26)] := hl
  refine lv_iconst (v := (-1)) hx hb dX5_turns_0 (by decide) ?_
  refine lv_istore_n (lv' := [(3, .int (-1)), (0, .ref b), (1, .ref b), (2, .int 26)]) hx hb dX5_turns_1 rfl hl (by decide) rfl (fun lz hl => ?_)
  refine lv_iconst (v := 0) hx hb dX5_turns_2 (by decide) ?_
  refine lv_istore (lv' := [(4, .int 0), (3, .int (-1)), (0, .ref b), (1, .ref b), (2, .int 26)]) hx hb dX5_turns_3 hl (by decide) rfl (fun lz hl => ?_)
  have L5 : ∀ (zz i : Nat), i ≤ 6 → 6 + 1 ≤ i + zz → ∀ (x3 : Int32) (f : Nat → Int32), x3 = fm_own (fun j => v (14 + j)) (fun j => v (26 + j)) i → f = xv_rw 26 i (fun j => v (26 + j) + v (14 + j)) v → ∀ (H : Heap) (locs : List Loc), va_P (dC, dI) vwCl [(b, .inl (cI, 80, .inl f))] H → va_D A [(b, .inl (cI, 80, .inl f))] → va_S A s.heap H locs → ∀ (lz : Array Slot), lv_has lz 5 [(0, .ref b), (1, .ref b), (2, .int 26), (3, .int x3), (4, .int (nI i))] → W p l e (headSpec wsX5_turns ({ frames := 1, cells := 0, slots := 0, locals := 22 } : Room)).room s m ([.ref b, .ref b, .int 26] : List Value).toArray below meth c H locs 0 0 (MQ below (va_Qi (fun (r : Int32) (u : (Nat → Int32)) => r = fm_own (fun j => v (14 + j)) (fun j => v (26 + j)) 6 ∧ u = xv_rw 26 6 (fm_crd (fun j => v (14 + j)) (fun j => v (26 + j))) v) (xm_B (dC, dI) (fun (u : (Nat → Int32)) => [(b, .inl (cI, 80, .inl u))]) A) A) ([.ref b, .ref b, .int 26] : List Value).toArray s 0 0 A) (F0 m 5 lz []) := by
    intro zz
    induction zz with
    | zero => intro i hii hni; exact absurd hni (by omega)
    | succ zz ih5 =>
      intro i hii hni x3 f e_x3 e_f  H locs hP hD hS lz hl
      subst e_x3 e_f
      refine lv_iload hx hb dX5_turns_5 (lv_at hl 4 rfl) ?_
      refine lv_bipush (v := 6) hx hb dX5_turns_7 (by decide) ?_
      refine lv_icmp_ge (tgt := 70) hx hb dX5_turns_9 (by decide) (fun q9 => ?_) (fun q9 => ?_)
      · have hNi : 6 = i := (xm_end (N := 6) hii (by decide) q9).symm
        subst hNi
        refine lv_iload_n hx hb dX5_turns_70 rfl (lv_at hl 3 rfl) ?_
        refine lv_iconst (v := (-1)) hx hb dX5_turns_71 (by decide) ?_
        refine lv_icmp_eq (tgt := 87) hx hb dX5_turns_72 (by decide) (fun q72 => ?_) (fun q72 => ?_)
        · obtain ⟨hP, hD⟩ := xm_cong hP hD 0 rfl (xv_rw 26 6 (fm_crd (fun j => v (14 + j)) (fun j => v (26 + j))) v) (fun j hj => by unfold xv_rw fm_crd; rw [if_pos q72])
          have hP : va_P (dC, dI) vwCl [(b, .inl (cI, 80, .inl (xv_rw 26 6 (fm_crd (fun j => v (14 + j)) (fun j => v (26 + j))) v)))] H := hP
          have hD : va_D A [(b, .inl (cI, 80, .inl (xv_rw 26 6 (fm_crd (fun j => v (14 + j)) (fun j => v (26 + j))) v)))] := hD
          refine lv_iload_n hx hb dX5_turns_87 rfl (lv_at hl 3 rfl) ?_
          have hP9 : va_P (dC, dI) vwCl [(b, .inl (cI, 80, .inl (xv_rw 26 6 (fm_crd (fun j => v (14 + j)) (fun j => v (26 + j))) v)))] H := hP
          have hD9 : va_D A [(b, .inl (cI, 80, .inl (xv_rw 26 6 (fm_crd (fun j => v (14 + j)) (fun j => v (26 + j))) v)))] := hD
          exact W.iret (v := (fm_own (fun j => v (14 + j)) (fun j => v (26 + j)) 6)) hx hb hr (fun t ht hW => ⟨⟨(fm_own (fun j => v (14 + j)) (fun j => v (26 + j)) 6), xv_rw 26 6 (fm_crd (fun j => v (14 + j)) (fun j => v (26 + j))) v, rfl, ⟨(rfl), rfl⟩, by rw [ht]; exact hP9, hD9⟩, hS.F ht⟩) hS.2.2 dX5_turns_88
        · refine lv_aload_n hx hb dX5_turns_75 rfl (lv_at hl 1 rfl) ?_
          refine lv_iload_n hx hb dX5_turns_76 rfl (lv_at hl 2 rfl) ?_
          refine lv_iload_n hx hb dX5_turns_77 rfl (lv_at hl 3 rfl) ?_
          refine lv_iadd hx hb dX5_turns_78 ?_
          refine lv_dup2_11 hx hb dX5_turns_79 rfl rfl ?_
          refine xm_iald (D := (dC, dI)) hx hb hK hP 0 0 (26 + (fm_own (fun j => v (14 + j)) (fun j => v (26 + j)) 6).toNatClampNeg) (v := (xv_rw 26 6 (fun j => v (26 + j) + v (14 + j)) v) (26 + (fm_own (fun j => v (14 + j)) (fun j => v (26 + j)) 6).toNatClampNeg)) rfl rfl (by decide) (show (26 : Int32) + fm_own (fun j => v (14 + j)) (fun j => v (26 + j)) 6 = nI (26 + (fm_own (fun j => v (14 + j)) (fun j => v (26 + j)) 6).toNatClampNeg) by rw [← nI_add, ← (fm_own_at (by decide) q72).1]; rfl) (by have := (fm_own_at (by decide) q72).2; omega) rfl dX5_turns_80 ?_
          refine xm_topi (y := (v (26 + (fm_own (fun j => v (14 + j)) (fun j => v (26 + j)) 6).toNatClampNeg) + v (14 + (fm_own (fun j => v (14 + j)) (fun j => v (26 + j)) 6).toNatClampNeg))) (xv_rw_i (g := (fun j => v (26 + j) + v (14 + j))) (fm_own_at (by decide) q72).2) ?_
          refine lv_aload_n hx hb dX5_turns_81 rfl (lv_at hl 0 rfl) ?_
          have hPc := hP.sub (ws' := [(b, .inl (cI, 80, .inl (xv_rw 26 6 (fun j => v (26 + j) + v (14 + j)) v)))]) [0] rfl
          refine W.callV ((va_runS (As := [.ref b]) (rest := [.int (v (26 + (fm_own (fun j => v (14 + j)) (fun j => v (26 + j)) 6).toNatClampNeg) + v (14 + (fm_own (fun j => v (14 + j)) (fun j => v (26 + j)) 6).toNatClampNeg)), .int (26 + (fm_own (fun j => v (14 + j)) (fun j => v (26 + j)) 6)), .ref b]) ⟨hx, hb, hml, hown, hts⟩ (c_X5_levels l dC dI cI cS cJ tt b (xv_rw 26 6 (fun j => v (26 + j) + v (14 + j)) v)) (va_cwS 1 hts gX5_turns_X5_levels rfl rfl rfl (by decide +kernel) ⟨Nat.le_of_ble_eq_true rfl, Nat.le_of_ble_eq_true rfl⟩) ⟨xm_Rblind, fun U hU hW => ⟨rfl, by rw [hU]; exact hPc, hE.go hS (fun _ q => q.elim) hU hW, trivial⟩⟩ rfl rfl hl.1 rfl (lv_room (Nat.le_of_ble_eq_true rfl)) dX5_turns_82 ⟨Nat.zero_le _, Nat.zero_le _⟩).run) ?_
          refine W.eq (g2 := F0 m 85 lz (.int (fm_sum (fun j => (xv_rw 26 6 (fun j => v (26 + j) + v (14 + j)) v) (14 + j)) 6) :: [.int (v (26 + (fm_own (fun j => v (14 + j)) (fun j => v (26 + j)) 6).toNatClampNeg) + v (14 + (fm_own (fun j => v (14 + j)) (fun j => v (26 + j)) 6).toNatClampNeg)), .int (26 + (fm_own (fun j => v (14 + j)) (fun j => v (26 + j)) 6)), .ref b])) rfl ?_
          refine xm_topi (y := (fm_sum (fun j => v (14 + j)) 6)) (fm_sum_c (fun j hj => xv_rw_o (by omega))) ?_
          refine lv_isub hx hb dX5_turns_85 ?_
          refine xm_iast (D := (dC, dI)) hx hb hK hP hD hS 0 0 (26 + (fm_own (fun j => v (14 + j)) (fun j => v (26 + j)) 6).toNatClampNeg) rfl rfl (by decide) (show (26 : Int32) + fm_own (fun j => v (14 + j)) (fun j => v (26 + j)) 6 = nI (26 + (fm_own (fun j => v (14 + j)) (fun j => v (26 + j)) 6).toNatClampNeg) by rw [← nI_add, ← (fm_own_at (by decide) q72).1]; rfl) (by have := (fm_own_at (by decide) q72).2; omega) dX5_turns_86 (fun H locs hP hD hS => ?_)
          have hP : va_P (dC, dI) vwCl [(b, .inl (cI, 80, .inl (upd (xv_rw 26 6 (fun j => v (26 + j) + v (14 + j)) v) (26 + (fm_own (fun j => v (14 + j)) (fun j => v (26 + j)) 6).toNatClampNeg) ((v (26 + (fm_own (fun j => v (14 + j)) (fun j => v (26 + j)) 6).toNatClampNeg) + v (14 + (fm_own (fun j => v (14 + j)) (fun j => v (26 + j)) 6).toNatClampNeg)) - (fm_sum (fun j => v (14 + j)) 6)))))] H := hP
          have hD : va_D A [(b, .inl (cI, 80, .inl (upd (xv_rw 26 6 (fun j => v (26 + j) + v (14 + j)) v) (26 + (fm_own (fun j => v (14 + j)) (fun j => v (26 + j)) 6).toNatClampNeg) ((v (26 + (fm_own (fun j => v (14 + j)) (fun j => v (26 + j)) 6).toNatClampNeg) + v (14 + (fm_own (fun j => v (14 + j)) (fun j => v (26 + j)) 6).toNatClampNeg)) - (fm_sum (fun j => v (14 + j)) 6)))))] := hD
          obtain ⟨hP, hD⟩ := xm_cong hP hD 0 rfl (xv_rw 26 6 (fm_crd (fun j => v (14 + j)) (fun j => v (26 + j))) v) (fun j hj => by unfold xv_rw fm_crd; rw [if_neg q72]; simp only [upd]; (repeat' split) <;> first | rfl | (exfalso; omega) | (rename_i h1 h2; exact absurd (show j - 26 = _ by omega) h2) | (rename_i h1; exfalso; have := (fm_own_at (lv := (fun j => v (14 + j))) (cr := (fun j => v (26 + j))) (k := 6) (by decide) q72).2; omega))
          have hP : va_P (dC, dI) vwCl [(b, .inl (cI, 80, .inl (xv_rw 26 6 (fm_crd (fun j => v (14 + j)) (fun j => v (26 + j))) v)))] H := hP
          have hD : va_D A [(b, .inl (cI, 80, .inl (xv_rw 26 6 (fm_crd (fun j => v (14 + j)) (fun j => v (26 + j))) v)))] := hD
          refine lv_iload_n hx hb dX5_turns_87 rfl (lv_at hl 3 rfl) ?_
          have hP9 : va_P (dC, dI) vwCl [(b, .inl (cI, 80, .inl (xv_rw 26 6 (fm_crd (fun j => v (14 + j)) (fun j => v (26 + j))) v)))] H := hP
          have hD9 : va_D A [(b, .inl (cI, 80, .inl (xv_rw 26 6 (fm_crd (fun j => v (14 + j)) (fun j => v (26 + j))) v)))] := hD
          exact W.iret (v := (fm_own (fun j => v (14 + j)) (fun j => v (26 + j)) 6)) hx hb hr (fun t ht hW => ⟨⟨(fm_own (fun j => v (14 + j)) (fun j => v (26 + j)) 6), xv_rw 26 6 (fm_crd (fun j => v (14 + j)) (fun j => v (26 + j))) v, rfl, ⟨(rfl), rfl⟩, by rw [ht]; exact hP9, hD9⟩, hS.F ht⟩) hS.2.2 dX5_turns_88
      · have hlti : i < 6 := xm_lt (N := 6) hii (by decide) q9
        refine lv_aload_n hx hb dX5_turns_12 rfl (lv_at hl 1 rfl) ?_
        refine lv_iload_n hx hb dX5_turns_13 rfl (lv_at hl 2 rfl) ?_
        refine lv_iload hx hb dX5_turns_14 (lv_at hl 4 rfl) ?_
        refine lv_iadd hx hb dX5_turns_16 ?_
        refine xm_topi (y := nI (26 + i)) (nI_add 26 i) ?_
        refine lv_dup2_11 hx hb dX5_turns_17 rfl rfl ?_
        refine xm_iald (D := (dC, dI)) hx hb hK hP 0 0 (26 + i) (v := (xv_rw 26 i (fun j => v (26 + j) + v (14 + j)) v) (26 + i)) rfl rfl (by decide) rfl (by omega) rfl dX5_turns_18 ?_
        refine xm_topi (y := (v (26 + i))) (xv_rw_o (by omega)) ?_
        refine lv_aload_n hx hb dX5_turns_19 rfl (lv_at hl 0 rfl) ?_
        refine lv_bipush (v := 14) hx hb dX5_turns_20 (by decide) ?_
        refine lv_iload hx hb dX5_turns_22 (lv_at hl 4 rfl) ?_
        refine lv_iadd hx hb dX5_turns_24 ?_
        refine xm_topi (y := nI (14 + i)) (nI_add 14 i) ?_
        refine xm_iald (D := (dC, dI)) hx hb hK hP 0 0 (14 + i) (v := (xv_rw 26 i (fun j => v (26 + j) + v (14 + j)) v) (14 + i)) rfl rfl (by decide) rfl (by omega) rfl dX5_turns_25 ?_
        refine xm_topi (y := (v (14 + i))) (xv_rw_o (by omega)) ?_
        refine lv_iadd hx hb dX5_turns_26 ?_
        refine xm_iast (D := (dC, dI)) hx hb hK hP hD hS 0 0 (26 + i) rfl rfl (by decide) rfl (by omega) dX5_turns_27 (fun H locs hP hD hS => ?_)
        have hP : va_P (dC, dI) vwCl [(b, .inl (cI, 80, .inl (upd (xv_rw 26 i (fun j => v (26 + j) + v (14 + j)) v) (26 + i) ((v (26 + i)) + (v (14 + i))))))] H := hP
        have hD : va_D A [(b, .inl (cI, 80, .inl (upd (xv_rw 26 i (fun j => v (26 + j) + v (14 + j)) v) (26 + i) ((v (26 + i)) + (v (14 + i))))))] := hD
        refine lv_aload_n hx hb dX5_turns_28 rfl (lv_at hl 0 rfl) ?_
        refine lv_bipush (v := 14) hx hb dX5_turns_29 (by decide) ?_
        refine lv_iload hx hb dX5_turns_31 (lv_at hl 4 rfl) ?_
        refine lv_iadd hx hb dX5_turns_33 ?_
        refine xm_topi (y := nI (14 + i)) (nI_add 14 i) ?_
        refine xm_iald (D := (dC, dI)) hx hb hK hP 0 0 (14 + i) (v := (upd (xv_rw 26 i (fun j => v (26 + j) + v (14 + j)) v) (26 + i) ((v (26 + i)) + (v (14 + i)))) (14 + i)) rfl rfl (by decide) rfl (by omega) rfl dX5_turns_34 ?_
        refine xm_topi (y := (v (14 + i))) ((pk_un (by omega)).trans (xv_rw_o (by omega))) ?_
        refine lv_if_le (tgt := 62) hx hb dX5_turns_35 (by decide) (fun q35 => ?_) (fun q35 => ?_)
        · refine lv_iload_n hx hb dX5_turns_62 rfl (lv_at hl 3 rfl) ?_
          refine lv_istore_n (lv' := [(3, .int (fm_own (fun j => v (14 + j)) (fun j => v (26 + j)) i)), (0, .ref b), (1, .ref b), (2, .int 26), (4, .int (nI i))]) hx hb dX5_turns_63 rfl hl (by decide) rfl (fun lz hl => ?_)
          refine lv_iinc (v := nI (i + 1)) (lv' := [(4, .int (nI (i + 1))), (3, .int (fm_own (fun j => v (14 + j)) (fun j => v (26 + j)) i)), (0, .ref b), (1, .ref b), (2, .int 26)]) hx hb dX5_turns_64 hl (k := 4) rfl (nI_1 i) (by decide) rfl (fun lz hl => ?_)
          refine lv_goto (tgt := 5) hx hb dX5_turns_67 (by decide) ?_
          exact ih5 (i + 1) hlti (by omega) (fm_own (fun j => v (14 + j)) (fun j => v (26 + j)) i) (upd (xv_rw 26 i (fun j => v (26 + j) + v (14 + j)) v) (26 + i) ((v (26 + i)) + (v (14 + i)))) (by simp only [fm_own, if_neg q9, if_pos q35]) (xv_rw_t rfl)  H locs hP hD hS lz (lv_sub hl [2, 3, 4, 1, 0] rfl)
        · refine lv_iload_n hx hb dX5_turns_38 rfl (lv_at hl 3 rfl) ?_
          refine lv_iconst (v := (-1)) hx hb dX5_turns_39 (by decide) ?_
          refine lv_icmp_eq (tgt := 57) hx hb dX5_turns_40 (by decide) (fun q40 => ?_) (fun q40 => ?_)
          · refine lv_iload hx hb dX5_turns_57 (lv_at hl 4 rfl) ?_
            refine lv_goto (tgt := 63) hx hb dX5_turns_59 (by decide) ?_
            refine lv_istore_n (lv' := [(3, .int (nI i)), (0, .ref b), (1, .ref b), (2, .int 26), (4, .int (nI i))]) hx hb dX5_turns_63 rfl hl (by decide) rfl (fun lz hl => ?_)
            refine lv_iinc (v := nI (i + 1)) (lv' := [(4, .int (nI (i + 1))), (3, .int (nI i)), (0, .ref b), (1, .ref b), (2, .int 26)]) hx hb dX5_turns_64 hl (k := 4) rfl (nI_1 i) (by decide) rfl (fun lz hl => ?_)
            refine lv_goto (tgt := 5) hx hb dX5_turns_67 (by decide) ?_
            exact ih5 (i + 1) hlti (by omega) (nI i) (upd (xv_rw 26 i (fun j => v (26 + j) + v (14 + j)) v) (26 + i) ((v (26 + i)) + (v (14 + i)))) (by simp only [fm_own, if_neg q9, if_neg q35, if_pos q40]) (xv_rw_t rfl)  H locs hP hD hS lz (lv_sub hl [2, 3, 4, 1, 0] rfl)
          · refine lv_aload_n hx hb dX5_turns_43 rfl (lv_at hl 1 rfl) ?_
            refine lv_iload_n hx hb dX5_turns_44 rfl (lv_at hl 2 rfl) ?_
            refine lv_iload hx hb dX5_turns_45 (lv_at hl 4 rfl) ?_
            refine lv_iadd hx hb dX5_turns_47 ?_
            refine xm_topi (y := nI (26 + i)) (nI_add 26 i) ?_
            refine xm_iald (D := (dC, dI)) hx hb hK hP 0 0 (26 + i) (v := (upd (xv_rw 26 i (fun j => v (26 + j) + v (14 + j)) v) (26 + i) ((v (26 + i)) + (v (14 + i)))) (26 + i)) rfl rfl (by decide) rfl (by omega) rfl dX5_turns_48 ?_
            refine xm_topi (y := (v (26 + i) + v (14 + i))) pk_us ?_
            refine lv_aload_n hx hb dX5_turns_49 rfl (lv_at hl 1 rfl) ?_
            refine lv_iload_n hx hb dX5_turns_50 rfl (lv_at hl 2 rfl) ?_
            refine lv_iload_n hx hb dX5_turns_51 rfl (lv_at hl 3 rfl) ?_
            refine lv_iadd hx hb dX5_turns_52 ?_
            refine xm_iald (D := (dC, dI)) hx hb hK hP 0 0 (26 + (fm_own (fun j => v (14 + j)) (fun j => v (26 + j)) i).toNatClampNeg) (v := (upd (xv_rw 26 i (fun j => v (26 + j) + v (14 + j)) v) (26 + i) ((v (26 + i)) + (v (14 + i)))) (26 + (fm_own (fun j => v (14 + j)) (fun j => v (26 + j)) i).toNatClampNeg)) rfl rfl (by decide) (show (26 : Int32) + fm_own (fun j => v (14 + j)) (fun j => v (26 + j)) i = nI (26 + (fm_own (fun j => v (14 + j)) (fun j => v (26 + j)) i).toNatClampNeg) by rw [← nI_add, ← (fm_own_at (by omega) q40).1]; rfl) (by have := (fm_own_at (by omega) q40).2; omega) rfl dX5_turns_53 ?_
            refine xm_topi (y := (v (26 + (fm_own (fun j => v (14 + j)) (fun j => v (26 + j)) i).toNatClampNeg) + v (14 + (fm_own (fun j => v (14 + j)) (fun j => v (26 + j)) i).toNatClampNeg))) ((pk_un (by have := (fm_own_at (by omega) q40).2; omega)).trans (xv_rw_i (g := (fun j => v (26 + j) + v (14 + j))) (fm_own_at (by omega) q40).2)) ?_
            refine lv_icmp_le (tgt := 62) hx hb dX5_turns_54 (by decide) (fun q54 => ?_) (fun q54 => ?_)
            · refine lv_iload_n hx hb dX5_turns_62 rfl (lv_at hl 3 rfl) ?_
              refine lv_istore_n (lv' := [(3, .int (fm_own (fun j => v (14 + j)) (fun j => v (26 + j)) i)), (0, .ref b), (1, .ref b), (2, .int 26), (4, .int (nI i))]) hx hb dX5_turns_63 rfl hl (by decide) rfl (fun lz hl => ?_)
              refine lv_iinc (v := nI (i + 1)) (lv' := [(4, .int (nI (i + 1))), (3, .int (fm_own (fun j => v (14 + j)) (fun j => v (26 + j)) i)), (0, .ref b), (1, .ref b), (2, .int 26)]) hx hb dX5_turns_64 hl (k := 4) rfl (nI_1 i) (by decide) rfl (fun lz hl => ?_)
              refine lv_goto (tgt := 5) hx hb dX5_turns_67 (by decide) ?_
              exact ih5 (i + 1) hlti (by omega) (fm_own (fun j => v (14 + j)) (fun j => v (26 + j)) i) (upd (xv_rw 26 i (fun j => v (26 + j) + v (14 + j)) v) (26 + i) ((v (26 + i)) + (v (14 + i)))) (by simp only [fm_own, if_neg q9, if_neg q35, if_neg q40, if_pos q54]) (xv_rw_t rfl)  H locs hP hD hS lz (lv_sub hl [2, 3, 4, 1, 0] rfl)
            · refine lv_iload hx hb dX5_turns_57 (lv_at hl 4 rfl) ?_
              refine lv_goto (tgt := 63) hx hb dX5_turns_59 (by decide) ?_
              refine lv_istore_n (lv' := [(3, .int (nI i)), (0, .ref b), (1, .ref b), (2, .int 26), (4, .int (nI i))]) hx hb dX5_turns_63 rfl hl (by decide) rfl (fun lz hl => ?_)
              refine lv_iinc (v := nI (i + 1)) (lv' := [(4, .int (nI (i + 1))), (3, .int (nI i)), (0, .ref b), (1, .ref b), (2, .int 26)]) hx hb dX5_turns_64 hl (k := 4) rfl (nI_1 i) (by decide) rfl (fun lz hl => ?_)
              refine lv_goto (tgt := 5) hx hb dX5_turns_67 (by decide) ?_
              exact ih5 (i + 1) hlti (by omega) (nI i) (upd (xv_rw 26 i (fun j => v (26 + j) + v (14 + j)) v) (26 + i) ((v (26 + i)) + (v (14 + i)))) (by simp only [fm_own, if_neg q9, if_neg q35, if_neg q40, if_neg q54]) (xv_rw_t rfl)  H locs hP hD hS lz (lv_sub hl [2, 3, 4, 1, 0] rfl)
  exact L5 (6 + 1) 0 (by omega) (by omega) (-1) v rfl (xv_rw_0 _ _ _).symm  s.heap [] hP hD hS lz (lv_sub hl [2, 3, 4, 1, 0] rfl)

set_option maxHeartbeats 4000000 in
set_option maxRecDepth 100000 in
theorem c_X5_litBy (l : Launch) (dC : Nat → ClassId) (dI : Nat → Nat → Nat) (cI cS cJ : ClassId) (tt : Nat → Nat) (b : Nat) (s0 : Nat → Int32) (o : Int32) (a : Int32) (k0 : Int32) : Met l yX5_litBy wsX5_litBy ({ frames := 0, cells := 0, slots := 0, locals := 0 } : Room) (va_Pc [.ref b, .int o, .int a, .int k0] (xm_R (dC, dI) cI cS cJ tt [(b, .inl (cI, 80, .inl s0))] (True))) (k2_QcV (.int (ml_by (s0 3) o a k0))) 0 0 (fun _ => False) := by
  refine Met.ofW (cc := cX5_litBy) (maxL := 4) (ret := (some .int)) (by decide) rfl ?_
  intro p e s m args below meth c s₁ B hml hv
  obtain ⟨rfl, hP, hE, hpre⟩ := hv
  have hx := B.exec
  have hb := B.bytes
  have hr := B.returns
  have hts := atoms_spec (ws := wsX5_litBy) B.pre
  have hown : s.vm.findClass RX5 = some m.cls := findClass_of_methodNamed B.named
  have hlocks := B.notSynchronized
  have hK := hE.1
  have hS : va_S (fun _ => False) s.heap s.heap [] := va_S.rf
  have hP : va_P (dC, dI) vwCl [(b, .inl (cI, 80, .inl s0))] s.heap := hP
  have hl := lv_entry [.ref b, .int o, .int a, .int k0] (n := 4) (Nat.le_of_ble_eq_true rfl)
  rw [lg_entry_eq]
  generalize (lg_sl [.ref b, .int o, .int a, .int k0] ++ List.replicate (4 - (lg_sl [.ref b, .int o, .int a, .int k0]).length) Slot.unset).toArray = lz at hl ⊢
  have hl : lv_has lz 4 [(0, .ref b), (1, .int o), (2, .int a), (3, .int k0)] := hl
  refine lv_aload_n hx hb dX5_litBy_0 rfl (lv_at hl 0 rfl) ?_
  refine lv_iconst (v := 3) hx hb dX5_litBy_1 (by decide) ?_
  refine xm_iald (D := (dC, dI)) hx hb hK hP 0 0 3 (v := s0 3) rfl rfl (by decide) rfl (by decide) rfl dX5_litBy_2 ?_
  refine lv_iconst (v := 1) hx hb dX5_litBy_3 (by decide) ?_
  refine lv_icmp_ne (tgt := 20) hx hb dX5_litBy_4 (by decide) (fun q4 => ?_) (fun q4 => ?_)
  · refine lv_iload_n hx hb dX5_litBy_20 rfl (lv_at hl 1 rfl) ?_
    exact W.iret (v := o) hx hb hr (fun t ht hW => ⟨congrArg (fun z => Outcome.returned (some (Value.int z))) (by simp only [ml_by, if_neg q4]), ht⟩) hS.2.2 dX5_litBy_21
  · refine lv_iload_n hx hb dX5_litBy_7 rfl (lv_at hl 1 rfl) ?_
    refine lv_iload_n hx hb dX5_litBy_8 rfl (lv_at hl 2 rfl) ?_
    refine lv_icmp_ne (tgt := 16) hx hb dX5_litBy_9 (by decide) (fun q9 => ?_) (fun q9 => ?_)
    · refine lv_iconst (v := (-1)) hx hb dX5_litBy_16 (by decide) ?_
      refine lv_goto (tgt := 21) hx hb dX5_litBy_17 (by decide) ?_
      exact W.iret (v := (-1)) hx hb hr (fun t ht hW => ⟨congrArg (fun z => Outcome.returned (some (Value.int z))) (by simp only [ml_by, if_pos q4, if_neg q9]), ht⟩) hS.2.2 dX5_litBy_21
    · refine lv_iload_n hx hb dX5_litBy_12 rfl (lv_at hl 3 rfl) ?_
      refine lv_if_ne (tgt := 20) hx hb dX5_litBy_13 (by decide) (fun q13 => ?_) (fun q13 => ?_)
      · refine lv_iload_n hx hb dX5_litBy_20 rfl (lv_at hl 1 rfl) ?_
        exact W.iret (v := o) hx hb hr (fun t ht hW => ⟨congrArg (fun z => Outcome.returned (some (Value.int z))) (by simp only [ml_by, if_pos q4, if_pos q9, if_neg q13]), ht⟩) hS.2.2 dX5_litBy_21
      · refine lv_iconst (v := (-1)) hx hb dX5_litBy_16 (by decide) ?_
        refine lv_goto (tgt := 21) hx hb dX5_litBy_17 (by decide) ?_
        exact W.iret (v := (-1)) hx hb hr (fun t ht hW => ⟨congrArg (fun z => Outcome.returned (some (Value.int z))) (by simp only [ml_by, if_pos q4, if_pos q9, if_pos q13]), ht⟩) hS.2.2 dX5_litBy_21

set_option maxHeartbeats 4000000 in
set_option maxRecDepth 100000 in
theorem c_X5_light (l : Launch) (dC : Nat → ClassId) (dI : Nat → Nat → Nat) (cI cS cJ : ClassId) (tt : Nat → Nat) (mm : Nat → Nat) (kp : Int32) (ty : Int32) (th : Int32) (at0 : Int32) (fa : Int32) (ts : Int32) (F : Nat → Int32) (y : Nat → Int32) (n : Nat) (d : Nat) : Met l yX5_light wsX5_light ({ frames := 0, cells := 0, slots := 0, locals := 0 } : Room) (va_Pc [.ref (mm 0), .int (nI d)] (xm_R (dC, dI) cI cS cJ tt [((mm 0), .inr (5, [.ref (mm 1), .ref (mm 2), .ref (mm 3), .ref (mm 4), .int kp, .ref (mm 5), .int ty, .int th, .int at0, .int fa, .ref (mm 6), .int ts, .ref (mm 7), .ref (mm 8), .ref (mm 9), .int (nI n)])), ((mm 8), .inl (cI, 96, .inl (fm_fl F y n)))] (1 ≤ n ∧ n ≤ 96))) (k2_QcV (.int (fm_light (nI n) (fr_ls F n d)))) 0 0 (fun _ => False) := by
  refine Met.ofW (cc := cX5_light) (maxL := 4) (ret := (some .int)) (by decide) rfl ?_
  intro p e s m args below meth c s₁ B hml hv
  obtain ⟨rfl, hP, hE, hpre⟩ := hv
  have hx := B.exec
  have hb := B.bytes
  have hr := B.returns
  have hts := atoms_spec (ws := wsX5_light) B.pre
  have hown : s.vm.findClass RX5 = some m.cls := findClass_of_methodNamed B.named
  have hlocks := B.notSynchronized
  have hK := hE.1
  have hS : va_S (fun _ => False) s.heap s.heap [] := va_S.rf
  have hP : va_P (dC, dI) vwCl [((mm 0), .inr (5, [.ref (mm 1), .ref (mm 2), .ref (mm 3), .ref (mm 4), .int kp, .ref (mm 5), .int ty, .int th, .int at0, .int fa, .ref (mm 6), .int ts, .ref (mm 7), .ref (mm 8), .ref (mm 9), .int (nI n)])), ((mm 8), .inl (cI, 96, .inl (fm_fl F y n)))] s.heap := hP
  have hin5 : ∀ w ∈ u_ws RX5 TX5 16, w ∈ wsX5_light := by decide +kernel
  have hl := lv_entry [.ref (mm 0), .int (nI d)] (n := 4) (Nat.le_of_ble_eq_true rfl)
  rw [lg_entry_eq]
  generalize (lg_sl [.ref (mm 0), .int (nI d)] ++ List.replicate (4 - (lg_sl [.ref (mm 0), .int (nI d)]).length) Slot.unset).toArray = lz at hl ⊢
  have hl : lv_has lz 4 [(0, .ref (mm 0)), (1, .int (nI d))] := hl
  refine lv_iconst (v := 0) hx hb dX5_light_0 (by decide) ?_
  refine lv_istore_n (lv' := [(2, .int 0), (0, .ref (mm 0)), (1, .int (nI d))]) hx hb dX5_light_1 rfl hl (by decide) rfl (fun lz hl => ?_)
  refine lv_iconst (v := 0) hx hb dX5_light_2 (by decide) ?_
  refine lv_istore_n (lv' := [(3, .int 0), (2, .int 0), (0, .ref (mm 0)), (1, .int (nI d))]) hx hb dX5_light_3 rfl hl (by decide) rfl (fun lz hl => ?_)
  have L4 : ∀ (zz i : Nat), i ≤ n → n + 1 ≤ i + zz → ∀ (x2 : Int32), x2 = fr_ls F i d → ∀ (lz : Array Slot), lv_has lz 4 [(0, .ref (mm 0)), (1, .int (nI d)), (2, .int x2), (3, .int (nI i))] → W p l e (headSpec wsX5_light ({ frames := 0, cells := 0, slots := 0, locals := 0 } : Room)).room s m ([.ref (mm 0), .int (nI d)] : List Value).toArray below meth c s.heap [] 0 0 (MQ below (k2_QcV (.int (fm_light (nI n) (fr_ls F n d)))) ([.ref (mm 0), .int (nI d)] : List Value).toArray s 0 0 (fun _ => False)) (F0 m 4 lz []) := by
    intro zz
    induction zz with
    | zero => intro i hii hni; exact absurd hni (by omega)
    | succ zz ih4 =>
      intro i hii hni x2 e_x2  lz hl
      subst e_x2
      refine lv_iload_n hx hb dX5_light_4 rfl (lv_at hl 3 rfl) ?_
      refine lv_aload_n hx hb dX5_light_5 rfl (lv_at hl 0 rfl) ?_
      refine va_get (D := (dC, dI)) (ci := 5) (v := .int (nI n)) (C := RX5) (T := TX5) (N := 16) hx hb hts hin5 hown hK hP 0 rfl rfl 15 (by decide) (hts (.fieldLink RX5 56 "TurnDigitsModel" "frame" "I") (by decide +kernel)) (fun _ h9 => h9) rfl dX5_light_6 ?_
      refine lv_icmp_ge (tgt := 36) hx hb dX5_light_9 (by decide) (fun q9 => ?_) (fun q9 => ?_)
      · have hNi : n = i := (xm_end (N := n) hii (by omega) q9).symm
        subst hNi
        refine lv_iload_n hx hb dX5_light_36 rfl (lv_at hl 2 rfl) ?_
        refine lv_sipush (v := 1000) hx hb dX5_light_37 (by decide) ?_
        refine lv_imul hx hb dX5_light_40 ?_
        refine lv_aload_n hx hb dX5_light_41 rfl (lv_at hl 0 rfl) ?_
        refine va_get (D := (dC, dI)) (ci := 5) (v := .int (nI n)) (C := RX5) (T := TX5) (N := 16) hx hb hts hin5 hown hK hP 0 rfl rfl 15 (by decide) (hts (.fieldLink RX5 56 "TurnDigitsModel" "frame" "I") (by decide +kernel)) (fun _ h9 => h9) rfl dX5_light_42 ?_
        refine lv_idiv hx hb dX5_light_45 (nI_ne0 (by omega) (by omega)) ?_
        exact W.iret (v := ((fr_ls F n d) * 1000) / (nI n)) hx hb hr (fun t ht hW => ⟨congrArg (fun z => Outcome.returned (some (Value.int z))) (by unfold fm_light; rw [if_neg (nI_nle (by omega) (by omega))]), ht⟩) hS.2.2 dX5_light_46
      · have hlti : i < n := xm_lt (N := n) hii (by omega) q9
        refine lv_iload_n hx hb dX5_light_12 rfl (lv_at hl 2 rfl) ?_
        refine lv_aload_n hx hb dX5_light_13 rfl (lv_at hl 0 rfl) ?_
        refine va_get (D := (dC, dI)) (ci := 5) (v := .ref (mm 8)) (C := RX5) (T := TX5) (N := 16) hx hb hts hin5 hown hK hP 0 rfl rfl 13 (by decide) (hts (.fieldLink RX5 31 "TurnDigitsModel" "lits" "[I") (by decide +kernel)) (fun _ h9 => h9) rfl dX5_light_14 ?_
        refine lv_iload_n hx hb dX5_light_17 rfl (lv_at hl 3 rfl) ?_
        refine xm_iald (D := (dC, dI)) hx hb hK hP 1 0 i (v := (fm_fl F y n) i) rfl rfl (by decide) rfl (by omega) rfl dX5_light_18 ?_
        refine xm_topi (y := (F i)) (fm_fl_in hlti) ?_
        refine lv_iload_n hx hb dX5_light_19 rfl (lv_at hl 1 rfl) ?_
        refine lv_icmp_ne (tgt := 27) hx hb dX5_light_20 (by decide) (fun q20 => ?_) (fun q20 => ?_)
        · refine lv_iconst (v := 0) hx hb dX5_light_27 (by decide) ?_
          refine lv_iadd hx hb dX5_light_28 ?_
          refine lv_istore_n (lv' := [(2, .int ((fr_ls F i d) + 0)), (0, .ref (mm 0)), (1, .int (nI d)), (3, .int (nI i))]) hx hb dX5_light_29 rfl hl (by decide) rfl (fun lz hl => ?_)
          refine lv_iinc (v := nI (i + 1)) (lv' := [(3, .int (nI (i + 1))), (2, .int ((fr_ls F i d) + 0)), (0, .ref (mm 0)), (1, .int (nI d))]) hx hb dX5_light_30 hl (k := 3) rfl (nI_1 i) (by decide) rfl (fun lz hl => ?_)
          refine lv_goto (tgt := 4) hx hb dX5_light_33 (by decide) ?_
          exact ih4 (i + 1) hlti (by omega) ((fr_ls F i d) + 0) (by show _ = (if nI d = F i then fr_ls F i d + 1 else fr_ls F i d); rw [if_neg (fun h => q20 h.symm)]; exact Int32.add_zero _)  lz (lv_sub hl [2, 3, 1, 0] rfl)
        · refine lv_iconst (v := 1) hx hb dX5_light_23 (by decide) ?_
          refine lv_goto (tgt := 28) hx hb dX5_light_24 (by decide) ?_
          refine lv_iadd hx hb dX5_light_28 ?_
          refine lv_istore_n (lv' := [(2, .int ((fr_ls F i d) + 1)), (0, .ref (mm 0)), (1, .int (nI d)), (3, .int (nI i))]) hx hb dX5_light_29 rfl hl (by decide) rfl (fun lz hl => ?_)
          refine lv_iinc (v := nI (i + 1)) (lv' := [(3, .int (nI (i + 1))), (2, .int ((fr_ls F i d) + 1)), (0, .ref (mm 0)), (1, .int (nI d))]) hx hb dX5_light_30 hl (k := 3) rfl (nI_1 i) (by decide) rfl (fun lz hl => ?_)
          refine lv_goto (tgt := 4) hx hb dX5_light_33 (by decide) ?_
          exact ih4 (i + 1) hlti (by omega) ((fr_ls F i d) + 1) (by show _ = (if nI d = F i then fr_ls F i d + 1 else fr_ls F i d); rw [if_pos q20.symm])  lz (lv_sub hl [2, 3, 1, 0] rfl)
  exact L4 (n + 1) 0 (by omega) (by omega) 0 rfl  lz (lv_sub hl [2, 3, 1, 0] rfl)

set_option maxHeartbeats 4000000 in
set_option maxRecDepth 100000 in
theorem c_X5_gap (l : Launch) (dC : Nat → ClassId) (dI : Nat → Nat → Nat) (cI cS cJ : ClassId) (tt : Nat → Nat) (mm : Nat → Nat) (kp : Int32) (ty : Int32) (th : Int32) (at0 : Int32) (fa : Int32) (ts : Int32) (F : Nat → Int32) (y : Nat → Int32) (n : Nat) (d : Nat) : Met l yX5_gap wsX5_gap ({ frames := 0, cells := 0, slots := 0, locals := 0 } : Room) (va_Pc [.ref (mm 0), .int (nI d)] (xm_R (dC, dI) cI cS cJ tt [((mm 0), .inr (5, [.ref (mm 1), .ref (mm 2), .ref (mm 3), .ref (mm 4), .int kp, .ref (mm 5), .int ty, .int th, .int at0, .int fa, .ref (mm 6), .int ts, .ref (mm 7), .ref (mm 8), .ref (mm 9), .int (nI n)])), ((mm 8), .inl (cI, 96, .inl (fm_fl F y n)))] (1 ≤ n ∧ n ≤ 96))) (k2_QcV (.int (fr_gp F n d))) 0 0 (fun _ => False) := by
  refine Met.ofW (cc := cX5_gap) (maxL := 5) (ret := (some .int)) (by decide) rfl ?_
  intro p e s m args below meth c s₁ B hml hv
  obtain ⟨rfl, hP, hE, hpre⟩ := hv
  have hx := B.exec
  have hb := B.bytes
  have hr := B.returns
  have hts := atoms_spec (ws := wsX5_gap) B.pre
  have hown : s.vm.findClass RX5 = some m.cls := findClass_of_methodNamed B.named
  have hlocks := B.notSynchronized
  have hK := hE.1
  have hS : va_S (fun _ => False) s.heap s.heap [] := va_S.rf
  have hP : va_P (dC, dI) vwCl [((mm 0), .inr (5, [.ref (mm 1), .ref (mm 2), .ref (mm 3), .ref (mm 4), .int kp, .ref (mm 5), .int ty, .int th, .int at0, .int fa, .ref (mm 6), .int ts, .ref (mm 7), .ref (mm 8), .ref (mm 9), .int (nI n)])), ((mm 8), .inl (cI, 96, .inl (fm_fl F y n)))] s.heap := hP
  have hin5 : ∀ w ∈ u_ws RX5 TX5 16, w ∈ wsX5_gap := by decide +kernel
  have hl := lv_entry [.ref (mm 0), .int (nI d)] (n := 5) (Nat.le_of_ble_eq_true rfl)
  rw [lg_entry_eq]
  generalize (lg_sl [.ref (mm 0), .int (nI d)] ++ List.replicate (5 - (lg_sl [.ref (mm 0), .int (nI d)]).length) Slot.unset).toArray = lz at hl ⊢
  have hl : lv_has lz 5 [(0, .ref (mm 0)), (1, .int (nI d))] := hl
  refine lv_iconst (v := 0) hx hb dX5_gap_0 (by decide) ?_
  refine lv_istore_n (lv' := [(2, .int 0), (0, .ref (mm 0)), (1, .int (nI d))]) hx hb dX5_gap_1 rfl hl (by decide) rfl (fun lz hl => ?_)
  refine lv_iconst (v := 0) hx hb dX5_gap_2 (by decide) ?_
  refine lv_istore_n (lv' := [(3, .int 0), (2, .int 0), (0, .ref (mm 0)), (1, .int (nI d))]) hx hb dX5_gap_3 rfl hl (by decide) rfl (fun lz hl => ?_)
  refine lv_iconst (v := 0) hx hb dX5_gap_4 (by decide) ?_
  refine lv_istore (lv' := [(4, .int 0), (3, .int 0), (2, .int 0), (0, .ref (mm 0)), (1, .int (nI d))]) hx hb dX5_gap_5 hl (by decide) rfl (fun lz hl => ?_)
  have L7 : ∀ (zz i : Nat), i ≤ n → n + 1 ≤ i + zz → ∀ (x2 : Int32) (x3 : Int32), x2 = fr_gp F i d → x3 = fr_dr F i d → ∀ (lz : Array Slot), lv_has lz 5 [(0, .ref (mm 0)), (1, .int (nI d)), (2, .int x2), (3, .int x3), (4, .int (nI i))] → W p l e (headSpec wsX5_gap ({ frames := 0, cells := 0, slots := 0, locals := 0 } : Room)).room s m ([.ref (mm 0), .int (nI d)] : List Value).toArray below meth c s.heap [] 0 0 (MQ below (k2_QcV (.int (fr_gp F n d))) ([.ref (mm 0), .int (nI d)] : List Value).toArray s 0 0 (fun _ => False)) (F0 m 7 lz []) := by
    intro zz
    induction zz with
    | zero => intro i hii hni; exact absurd hni (by omega)
    | succ zz ih7 =>
      intro i hii hni x2 x3 e_x2 e_x3  lz hl
      subst e_x2 e_x3
      refine lv_iload hx hb dX5_gap_7 (lv_at hl 4 rfl) ?_
      refine lv_aload_n hx hb dX5_gap_9 rfl (lv_at hl 0 rfl) ?_
      refine va_get (D := (dC, dI)) (ci := 5) (v := .int (nI n)) (C := RX5) (T := TX5) (N := 16) hx hb hts hin5 hown hK hP 0 rfl rfl 15 (by decide) (hts (.fieldLink RX5 56 "TurnDigitsModel" "frame" "I") (by decide +kernel)) (fun _ h9 => h9) rfl dX5_gap_10 ?_
      refine lv_icmp_ge (tgt := 52) hx hb dX5_gap_13 (by decide) (fun q13 => ?_) (fun q13 => ?_)
      · have hNi : n = i := (xm_end (N := n) hii (by omega) q13).symm
        subst hNi
        refine lv_iload_n hx hb dX5_gap_52 rfl (lv_at hl 2 rfl) ?_
        exact W.iret (v := (fr_gp F n d)) hx hb hr (fun t ht hW => ⟨congrArg (fun z => Outcome.returned (some (Value.int z))) (rfl), ht⟩) hS.2.2 dX5_gap_53
      · have hlti : i < n := xm_lt (N := n) hii (by omega) q13
        refine lv_aload_n hx hb dX5_gap_16 rfl (lv_at hl 0 rfl) ?_
        refine va_get (D := (dC, dI)) (ci := 5) (v := .ref (mm 8)) (C := RX5) (T := TX5) (N := 16) hx hb hts hin5 hown hK hP 0 rfl rfl 13 (by decide) (hts (.fieldLink RX5 31 "TurnDigitsModel" "lits" "[I") (by decide +kernel)) (fun _ h9 => h9) rfl dX5_gap_17 ?_
        refine lv_iload hx hb dX5_gap_20 (lv_at hl 4 rfl) ?_
        refine xm_iald (D := (dC, dI)) hx hb hK hP 1 0 i (v := (fm_fl F y n) i) rfl rfl (by decide) rfl (by omega) rfl dX5_gap_22 ?_
        refine xm_topi (y := (F i)) (fm_fl_in hlti) ?_
        refine lv_iload_n hx hb dX5_gap_23 rfl (lv_at hl 1 rfl) ?_
        refine lv_icmp_ne (tgt := 31) hx hb dX5_gap_24 (by decide) (fun q24 => ?_) (fun q24 => ?_)
        · refine lv_iload_n hx hb dX5_gap_31 rfl (lv_at hl 3 rfl) ?_
          refine lv_iconst (v := 1) hx hb dX5_gap_32 (by decide) ?_
          refine lv_iadd hx hb dX5_gap_33 ?_
          refine lv_istore_n (lv' := [(3, .int ((fr_dr F i d) + 1)), (0, .ref (mm 0)), (1, .int (nI d)), (2, .int (fr_gp F i d)), (4, .int (nI i))]) hx hb dX5_gap_34 rfl hl (by decide) rfl (fun lz hl => ?_)
          refine lv_iload_n hx hb dX5_gap_35 rfl (lv_at hl 0 rfl) ?_
          refine lv_iload_n hx hb dX5_gap_36 rfl (lv_at hl 3 rfl) ?_
          refine lv_icmp_le (tgt := 44) hx hb dX5_gap_37 (by decide) (fun q37 => ?_) (fun q37 => ?_)
          · refine lv_iload_n hx hb dX5_gap_44 rfl (lv_at hl 3 rfl) ?_
            refine lv_istore_n (lv' := [(2, .int (fr_gp F i d)), (3, .int ((fr_dr F i d) + 1)), (0, .ref (mm 0)), (1, .int (nI d)), (4, .int (nI i))]) hx hb dX5_gap_45 rfl hl (by decide) rfl (fun lz hl => ?_)
            refine lv_iinc (v := nI (i + 1)) (lv' := [(4, .int (nI (i + 1))), (2, .int (fr_gp F i d)), (3, .int ((fr_dr F i d) + 1)), (0, .ref (mm 0)), (1, .int (nI d))]) hx hb dX5_gap_46 hl (k := 4) rfl (nI_1 i) (by decide) rfl (fun lz hl => ?_)
            refine lv_goto (tgt := 7) hx hb dX5_gap_49 (by decide) ?_
            exact ih7 (i + 1) hlti (by omega) (fr_gp F i d) ((fr_dr F i d) + 1) (by show _ = (if nI d = F i then fr_gp F i d else if fr_gp F i d < fr_dr F i d + 1 then fr_dr F i d + 1 else fr_gp F i d); rw [if_neg (fun h => q24 h.symm), if_neg (Int32.not_lt.mpr q37)]) (by show _ = (if nI d = F i then 0 else fr_dr F i d + 1); rw [if_neg (fun h => q24 h.symm)])  lz (lv_sub hl [3, 4, 1, 2, 0] rfl)
          · refine lv_iload_n hx hb dX5_gap_40 rfl (lv_at hl 0 rfl) ?_
            refine lv_goto (tgt := 45) hx hb dX5_gap_41 (by decide) ?_
            refine lv_istore_n (lv' := [(2, .int ((fr_dr F i d) + 1)), (3, .int ((fr_dr F i d) + 1)), (0, .ref (mm 0)), (1, .int (nI d)), (4, .int (nI i))]) hx hb dX5_gap_45 rfl hl (by decide) rfl (fun lz hl => ?_)
            refine lv_iinc (v := nI (i + 1)) (lv' := [(4, .int (nI (i + 1))), (2, .int ((fr_dr F i d) + 1)), (3, .int ((fr_dr F i d) + 1)), (0, .ref (mm 0)), (1, .int (nI d))]) hx hb dX5_gap_46 hl (k := 4) rfl (nI_1 i) (by decide) rfl (fun lz hl => ?_)
            refine lv_goto (tgt := 7) hx hb dX5_gap_49 (by decide) ?_
            exact ih7 (i + 1) hlti (by omega) ((fr_dr F i d) + 1) ((fr_dr F i d) + 1) (by show _ = (if nI d = F i then fr_gp F i d else if fr_gp F i d < fr_dr F i d + 1 then fr_dr F i d + 1 else fr_gp F i d); rw [if_neg (fun h => q24 h.symm), if_pos (Int32.not_le.mp q37)]) (by show _ = (if nI d = F i then 0 else fr_dr F i d + 1); rw [if_neg (fun h => q24 h.symm)])  lz (lv_sub hl [3, 4, 1, 2, 0] rfl)
        · refine lv_iconst (v := 0) hx hb dX5_gap_27 (by decide) ?_
          refine lv_goto (tgt := 34) hx hb dX5_gap_28 (by decide) ?_
          refine lv_istore_n (lv' := [(3, .int 0), (0, .ref (mm 0)), (1, .int (nI d)), (2, .int (fr_gp F i d)), (4, .int (nI i))]) hx hb dX5_gap_34 rfl hl (by decide) rfl (fun lz hl => ?_)
          refine lv_iload_n hx hb dX5_gap_35 rfl (lv_at hl 0 rfl) ?_
          refine lv_iload_n hx hb dX5_gap_36 rfl (lv_at hl 3 rfl) ?_
          refine lv_icmp_le (tgt := 44) hx hb dX5_gap_37 (by decide) (fun q37 => ?_) (fun q37 => absurd (fr_gp0 F d (n := i) (by omega)) q37)
          refine lv_iload_n hx hb dX5_gap_44 rfl (lv_at hl 3 rfl) ?_
          refine lv_istore_n (lv' := [(2, .int (fr_gp F i d)), (3, .int 0), (0, .ref (mm 0)), (1, .int (nI d)), (4, .int (nI i))]) hx hb dX5_gap_45 rfl hl (by decide) rfl (fun lz hl => ?_)
          refine lv_iinc (v := nI (i + 1)) (lv' := [(4, .int (nI (i + 1))), (2, .int (fr_gp F i d)), (3, .int 0), (0, .ref (mm 0)), (1, .int (nI d))]) hx hb dX5_gap_46 hl (k := 4) rfl (nI_1 i) (by decide) rfl (fun lz hl => ?_)
          refine lv_goto (tgt := 7) hx hb dX5_gap_49 (by decide) ?_
          exact ih7 (i + 1) hlti (by omega) (fr_gp F i d) 0 (by show _ = (if nI d = F i then fr_gp F i d else if fr_gp F i d < fr_dr F i d + 1 then fr_dr F i d + 1 else fr_gp F i d); rw [if_pos q24.symm]) (by show _ = (if nI d = F i then 0 else fr_dr F i d + 1); rw [if_pos q24.symm])  lz (lv_sub hl [3, 4, 1, 2, 0] rfl)
  exact L7 (n + 1) 0 (by omega) (by omega) 0 0 rfl rfl  lz (lv_sub hl [3, 4, 2, 1, 0] rfl)

set_option maxHeartbeats 4000000 in
set_option maxRecDepth 100000 in
theorem c_X5_flickers (l : Launch) (dC : Nat → ClassId) (dI : Nat → Nat → Nat) (cI cS cJ : ClassId) (tt : Nat → Nat) (mm : Nat → Nat) (kp : Int32) (ty : Int32) (th : Int32) (at0 : Int32) (fa : Int32) (ts : Int32) (F : Nat → Int32) (y : Nat → Int32) (n : Nat) (b : Nat) (s0 : Nat → Int32) (d : Nat) : Met l yX5_flickers wsX5_flickers ({ frames := 1, cells := 0, slots := 0, locals := 24 } : Room) (va_Pc [.ref (mm 0), .ref b, .int (nI d)] (xm_R (dC, dI) cI cS cJ tt [((mm 0), .inr (5, [.ref (mm 1), .ref (mm 2), .ref (mm 3), .ref (mm 4), .int kp, .ref (mm 5), .int ty, .int th, .int at0, .int fa, .ref (mm 6), .int ts, .ref (mm 7), .ref (mm 8), .ref (mm 9), .int (nI n)])), ((mm 8), .inl (cI, 96, .inl (fm_fl F y n))), (b, .inl (cI, 80, .inl s0))] (1 ≤ n ∧ n ≤ 96))) (k2_QcV (.int (fm_flk (fr_ls F n d) (fr_gp F n d) (s0 4)))) 0 0 (fun _ => False) := by
  refine Met.ofW (cc := cX5_flickers) (maxL := 4) (ret := (some .boolean)) (by decide) rfl ?_
  intro p e s m args below meth c s₁ B hml hv
  obtain ⟨rfl, hP, hE, hpre⟩ := hv
  have hx := B.exec
  have hb := B.bytes
  have hr := B.returns
  have hts := atoms_spec (ws := wsX5_flickers) B.pre
  have hown : s.vm.findClass RX5 = some m.cls := findClass_of_methodNamed B.named
  have hlocks := B.notSynchronized
  have hK := hE.1
  have hS : va_S (fun _ => False) s.heap s.heap [] := va_S.rf
  have hP : va_P (dC, dI) vwCl [((mm 0), .inr (5, [.ref (mm 1), .ref (mm 2), .ref (mm 3), .ref (mm 4), .int kp, .ref (mm 5), .int ty, .int th, .int at0, .int fa, .ref (mm 6), .int ts, .ref (mm 7), .ref (mm 8), .ref (mm 9), .int (nI n)])), ((mm 8), .inl (cI, 96, .inl (fm_fl F y n))), (b, .inl (cI, 80, .inl s0))] s.heap := hP
  have hin5 : ∀ w ∈ u_ws RX5 TX5 16, w ∈ wsX5_flickers := by decide +kernel
  have hl := lv_entry [.ref (mm 0), .ref b, .int (nI d)] (n := 4) (Nat.le_of_ble_eq_true rfl)
  rw [lg_entry_eq]
  generalize (lg_sl [.ref (mm 0), .ref b, .int (nI d)] ++ List.replicate (4 - (lg_sl [.ref (mm 0), .ref b, .int (nI d)]).length) Slot.unset).toArray = lz at hl ⊢
  have hl : lv_has lz 4 [(0, .ref (mm 0)), (1, .ref b), (2, .int (nI d))] := hl
  refine lv_aload_n hx hb dX5_flickers_0 rfl (lv_at hl 0 rfl) ?_
  refine lv_iload_n hx hb dX5_flickers_1 rfl (lv_at hl 2 rfl) ?_
  have hPc := hP.sub (ws' := [((mm 0), .inr (5, [.ref (mm 1), .ref (mm 2), .ref (mm 3), .ref (mm 4), .int kp, .ref (mm 5), .int ty, .int th, .int at0, .int fa, .ref (mm 6), .int ts, .ref (mm 7), .ref (mm 8), .ref (mm 9), .int (nI n)])), ((mm 8), .inl (cI, 96, .inl (fm_fl F y n)))]) [0, 1] rfl
  refine W.callV ((va_runV (As := [.int (nI d)]) (rest := []) ⟨hx, hb, hml, hown, hts⟩ (c_X5_gap l dC dI cI cS cJ tt mm kp ty th at0 fa ts F y n d) (cwV 1 hts gX5_flickers_X5_gap rfl rfl rfl (by decide +kernel) ⟨Nat.le_of_ble_eq_true rfl, Nat.le_of_ble_eq_true rfl⟩) ⟨xm_Rblind, va_recv hK hPc (ci := 5) (q0 := 0) rfl rfl, fun U hU hW => ⟨rfl, by rw [hU]; exact hPc, hE.go hS (fun _ q => q.elim) hU hW, hpre⟩⟩ rfl rfl hl.1 rfl (lv_room (Nat.le_of_ble_eq_true rfl)) dX5_flickers_2 ⟨Nat.zero_le _, Nat.zero_le _⟩).run) ?_
  refine W.eq (g2 := F0 m 5 lz (.int (fr_gp F n d) :: [])) rfl ?_
  refine lv_istore_n (lv' := [(3, .int (fr_gp F n d)), (0, .ref (mm 0)), (1, .ref b), (2, .int (nI d))]) hx hb dX5_flickers_5 rfl hl (by decide) rfl (fun lz hl => ?_)
  refine lv_iload_n hx hb dX5_flickers_6 rfl (lv_at hl 0 rfl) ?_
  refine lv_aload_n hx hb dX5_flickers_7 rfl (lv_at hl 1 rfl) ?_
  refine va_get (D := (dC, dI)) (ci := 5) (v := .int (nI n)) (C := RX5) (T := TX5) (N := 16) hx hb hts hin5 hown hK hP 0 rfl rfl 15 (by decide) (hts (.fieldLink RX5 56 "TurnDigitsModel" "frame" "I") (by decide +kernel)) (fun _ h9 => h9) rfl dX5_flickers_8 ?_
  refine lv_icmp_ge (tgt := 25) hx hb dX5_flickers_11 (by decide) (fun q11 => ?_) (fun q11 => ?_)
  · refine lv_iconst (v := 0) hx hb dX5_flickers_25 (by decide) ?_
    exact W.zret (v := 0) hx hb hr rfl (fun t ht hW => ⟨congrArg (fun z => Outcome.returned (some (Value.int z))) (by unfold fm_flk; rw [if_pos ((fr_gpn F d (by omega)).mp q11)]), ht⟩) hS.2.2 dX5_flickers_26
  · refine lv_iload_n hx hb dX5_flickers_14 rfl (lv_at hl 0 rfl) ?_
    refine lv_aload_n hx hb dX5_flickers_15 rfl (lv_at hl 2 rfl) ?_
    refine lv_iconst (v := 4) hx hb dX5_flickers_16 (by decide) ?_
    refine xm_iald (D := (dC, dI)) hx hb hK hP 2 0 4 (v := s0 4) rfl rfl (by decide) rfl (by decide) rfl dX5_flickers_17 ?_
    refine lv_icmp_le (tgt := 25) hx hb dX5_flickers_18 (by decide) (fun q18 => ?_) (fun q18 => ?_)
    · refine lv_iconst (v := 0) hx hb dX5_flickers_25 (by decide) ?_
      exact W.zret (v := 0) hx hb hr rfl (fun t ht hW => ⟨congrArg (fun z => Outcome.returned (some (Value.int z))) (by unfold fm_flk; rw [if_neg (fun h => q11 ((fr_gpn F d (by omega)).mpr h)), if_pos q18]), ht⟩) hS.2.2 dX5_flickers_26
    · refine lv_iconst (v := 1) hx hb dX5_flickers_21 (by decide) ?_
      refine lv_goto (tgt := 26) hx hb dX5_flickers_22 (by decide) ?_
      exact W.zret (v := 1) hx hb hr rfl (fun t ht hW => ⟨congrArg (fun z => Outcome.returned (some (Value.int z))) (by unfold fm_flk; rw [if_neg (fun h => q11 ((fr_gpn F d (by omega)).mpr h)), if_neg q18]), ht⟩) hS.2.2 dX5_flickers_26

set_option maxHeartbeats 4000000 in
set_option maxRecDepth 100000 in
theorem c_X5_isSeen (l : Launch) (dC : Nat → ClassId) (dI : Nat → Nat → Nat) (cI cS cJ : ClassId) (tt : Nat → Nat) (mm : Nat → Nat) (kp : Int32) (ty : Int32) (th : Int32) (at0 : Int32) (fa : Int32) (ts : Int32) (F : Nat → Int32) (y : Nat → Int32) (n : Nat) (b : Nat) (s0 : Nat → Int32) (d : Nat) : Met l yX5_isSeen wsX5_isSeen ({ frames := 2, cells := 0, slots := 0, locals := 47 } : Room) (va_Pc [.ref (mm 0), .ref b, .int (nI d)] (xm_R (dC, dI) cI cS cJ tt [((mm 0), .inr (5, [.ref (mm 1), .ref (mm 2), .ref (mm 3), .ref (mm 4), .int kp, .ref (mm 5), .int ty, .int th, .int at0, .int fa, .ref (mm 6), .int ts, .ref (mm 7), .ref (mm 8), .ref (mm 9), .int (nI n)])), ((mm 8), .inl (cI, 96, .inl (fm_fl F y n))), (b, .inl (cI, 80, .inl s0))] ((1 ≤ n ∧ n ≤ 96) ∧ s0 2 = nI n))) (k2_QcV (.int (lk_see (fr_gp F n) (fr_ls F n) (s0 2) (s0 4) (s0 5 * s0 1) d))) 0 0 (fun _ => False) := by
  refine Met.ofW (cc := cX5_isSeen) (maxL := 4) (ret := (some .boolean)) (by decide) rfl ?_
  intro p e s m args below meth c s₁ B hml hv
  obtain ⟨rfl, hP, hE, hpre⟩ := hv
  have hx := B.exec
  have hb := B.bytes
  have hr := B.returns
  have hts := atoms_spec (ws := wsX5_isSeen) B.pre
  have hown : s.vm.findClass RX5 = some m.cls := findClass_of_methodNamed B.named
  have hlocks := B.notSynchronized
  have hK := hE.1
  have hS : va_S (fun _ => False) s.heap s.heap [] := va_S.rf
  have hP : va_P (dC, dI) vwCl [((mm 0), .inr (5, [.ref (mm 1), .ref (mm 2), .ref (mm 3), .ref (mm 4), .int kp, .ref (mm 5), .int ty, .int th, .int at0, .int fa, .ref (mm 6), .int ts, .ref (mm 7), .ref (mm 8), .ref (mm 9), .int (nI n)])), ((mm 8), .inl (cI, 96, .inl (fm_fl F y n))), (b, .inl (cI, 80, .inl s0))] s.heap := hP
  have hl := lv_entry [.ref (mm 0), .ref b, .int (nI d)] (n := 4) (Nat.le_of_ble_eq_true rfl)
  rw [lg_entry_eq]
  generalize (lg_sl [.ref (mm 0), .ref b, .int (nI d)] ++ List.replicate (4 - (lg_sl [.ref (mm 0), .ref b, .int (nI d)]).length) Slot.unset).toArray = lz at hl ⊢
  have hl : lv_has lz 4 [(0, .ref (mm 0)), (1, .ref b), (2, .int (nI d))] := hl
  refine lv_aload_n hx hb dX5_isSeen_0 rfl (lv_at hl 0 rfl) ?_
  refine lv_iload_n hx hb dX5_isSeen_1 rfl (lv_at hl 2 rfl) ?_
  have hPc := hP.sub (ws' := [((mm 0), .inr (5, [.ref (mm 1), .ref (mm 2), .ref (mm 3), .ref (mm 4), .int kp, .ref (mm 5), .int ty, .int th, .int at0, .int fa, .ref (mm 6), .int ts, .ref (mm 7), .ref (mm 8), .ref (mm 9), .int (nI n)])), ((mm 8), .inl (cI, 96, .inl (fm_fl F y n)))]) [0, 1] rfl
  refine W.callV ((va_runV (As := [.int (nI d)]) (rest := []) ⟨hx, hb, hml, hown, hts⟩ (c_X5_light l dC dI cI cS cJ tt mm kp ty th at0 fa ts F y n d) (cwV 1 hts gX5_isSeen_X5_light rfl rfl rfl (by decide +kernel) ⟨Nat.le_of_ble_eq_true rfl, Nat.le_of_ble_eq_true rfl⟩) ⟨xm_Rblind, va_recv hK hPc (ci := 5) (q0 := 0) rfl rfl, fun U hU hW => ⟨rfl, by rw [hU]; exact hPc, hE.go hS (fun _ q => q.elim) hU hW, hpre.1⟩⟩ rfl rfl hl.1 rfl (lv_room (Nat.le_of_ble_eq_true rfl)) dX5_isSeen_2 ⟨Nat.zero_le _, Nat.zero_le _⟩).run) ?_
  refine W.eq (g2 := F0 m 5 lz (.int (fm_light (nI n) (fr_ls F n d)) :: [])) rfl ?_
  refine lv_istore_n (lv' := [(3, .int (fm_light (nI n) (fr_ls F n d))), (0, .ref (mm 0)), (1, .ref b), (2, .int (nI d))]) hx hb dX5_isSeen_5 rfl hl (by decide) rfl (fun lz hl => ?_)
  refine lv_iload_n hx hb dX5_isSeen_6 rfl (lv_at hl 0 rfl) ?_
  refine lv_if_le (tgt := 34) hx hb dX5_isSeen_7 (by decide) (fun q7 => ?_) (fun q7 => ?_)
  · refine lv_iconst (v := 0) hx hb dX5_isSeen_34 (by decide) ?_
    exact W.zret (v := 0) hx hb hr rfl (fun t ht hW => ⟨congrArg (fun z => Outcome.returned (some (Value.int z))) (by unfold lk_see; rw [hpre.2]; simp only [fm_see, if_pos q7]), ht⟩) hS.2.2 dX5_isSeen_35
  · refine lv_iload_n hx hb dX5_isSeen_10 rfl (lv_at hl 0 rfl) ?_
    refine lv_aload_n hx hb dX5_isSeen_11 rfl (lv_at hl 2 rfl) ?_
    refine lv_iconst (v := 5) hx hb dX5_isSeen_12 (by decide) ?_
    refine xm_iald (D := (dC, dI)) hx hb hK hP 2 0 5 (v := s0 5) rfl rfl (by decide) rfl (by decide) rfl dX5_isSeen_13 ?_
    refine lv_aload_n hx hb dX5_isSeen_14 rfl (lv_at hl 2 rfl) ?_
    refine lv_iconst (v := 1) hx hb dX5_isSeen_15 (by decide) ?_
    refine xm_iald (D := (dC, dI)) hx hb hK hP 2 0 1 (v := s0 1) rfl rfl (by decide) rfl (by decide) rfl dX5_isSeen_16 ?_
    refine lv_imul hx hb dX5_isSeen_17 ?_
    refine lv_icmp_lt (tgt := 34) hx hb dX5_isSeen_18 (by decide) (fun q18 => ?_) (fun q18 => ?_)
    · refine lv_iconst (v := 0) hx hb dX5_isSeen_34 (by decide) ?_
      exact W.zret (v := 0) hx hb hr rfl (fun t ht hW => ⟨congrArg (fun z => Outcome.returned (some (Value.int z))) (by unfold lk_see; rw [hpre.2]; simp only [fm_see, if_neg q7, if_pos q18]), ht⟩) hS.2.2 dX5_isSeen_35
    · refine lv_aload_n hx hb dX5_isSeen_21 rfl (lv_at hl 1 rfl) ?_
      refine lv_aload_n hx hb dX5_isSeen_22 rfl (lv_at hl 2 rfl) ?_
      refine lv_iload_n hx hb dX5_isSeen_23 rfl (lv_at hl 3 rfl) ?_
      have hPc := hP.sub (ws' := [((mm 0), .inr (5, [.ref (mm 1), .ref (mm 2), .ref (mm 3), .ref (mm 4), .int kp, .ref (mm 5), .int ty, .int th, .int at0, .int fa, .ref (mm 6), .int ts, .ref (mm 7), .ref (mm 8), .ref (mm 9), .int (nI n)])), ((mm 8), .inl (cI, 96, .inl (fm_fl F y n))), (b, .inl (cI, 80, .inl s0))]) [0, 1, 2] rfl
      refine W.callV ((va_runV (As := [.ref b, .int (nI d)]) (rest := []) ⟨hx, hb, hml, hown, hts⟩ (c_X5_flickers l dC dI cI cS cJ tt mm kp ty th at0 fa ts F y n b s0 d) (cwV 2 hts gX5_isSeen_X5_flickers rfl rfl rfl (by decide +kernel) ⟨Nat.le_of_ble_eq_true rfl, Nat.le_of_ble_eq_true rfl⟩) ⟨xm_Rblind, va_recv hK hPc (ci := 5) (q0 := 0) rfl rfl, fun U hU hW => ⟨rfl, by rw [hU]; exact hPc, hE.go hS (fun _ q => q.elim) hU hW, hpre.1⟩⟩ rfl rfl hl.1 rfl (lv_room (Nat.le_of_ble_eq_true rfl)) dX5_isSeen_24 ⟨Nat.zero_le _, Nat.zero_le _⟩).run) ?_
      refine W.eq (g2 := F0 m 27 lz (.int (fm_flk (fr_ls F n d) (fr_gp F n d) (s0 4)) :: [])) rfl ?_
      refine lv_if_ne (tgt := 34) hx hb dX5_isSeen_27 (by decide) (fun q27 => ?_) (fun q27 => ?_)
      · refine lv_iconst (v := 0) hx hb dX5_isSeen_34 (by decide) ?_
        exact W.zret (v := 0) hx hb hr rfl (fun t ht hW => ⟨congrArg (fun z => Outcome.returned (some (Value.int z))) (by unfold lk_see; rw [hpre.2]; simp only [fm_see, if_neg q7, if_neg q18, if_neg q27]), ht⟩) hS.2.2 dX5_isSeen_35
      · refine lv_iconst (v := 1) hx hb dX5_isSeen_30 (by decide) ?_
        refine lv_goto (tgt := 35) hx hb dX5_isSeen_31 (by decide) ?_
        exact W.zret (v := 1) hx hb hr rfl (fun t ht hW => ⟨congrArg (fun z => Outcome.returned (some (Value.int z))) (by unfold lk_see; rw [hpre.2]; simp only [fm_see, if_neg q7, if_neg q18, if_pos q27]), ht⟩) hS.2.2 dX5_isSeen_35

set_option maxHeartbeats 4000000 in
set_option maxRecDepth 100000 in
theorem c_X5_readable (l : Launch) (dC : Nat → ClassId) (dI : Nat → Nat → Nat) (cI cS cJ : ClassId) (tt : Nat → Nat) (mm : Nat → Nat) (kp : Int32) (ty : Int32) (th : Int32) (at0 : Int32) (fa : Int32) (ts : Int32) (fr : Int32) (v : Nat → Int32) (d : Nat) : Met l yX5_readable wsX5_readable ({ frames := 1, cells := 0, slots := 0, locals := 22 } : Room) (va_Pc [.ref (mm 0), .int (nI d)] (xm_R (dC, dI) cI cS cJ tt [((mm 0), .inr (5, [.ref (mm 1), .ref (mm 2), .ref (mm 3), .ref (mm 4), .int kp, .ref (mm 5), .int ty, .int th, .int at0, .int fa, .ref (mm 6), .int ts, .ref (mm 7), .ref (mm 8), .ref (mm 9), .int fr])), ((mm 1), .inl (cI, 12, .inl xm_mk)), ((mm 2), .inl (cI, 80, .inl v))] (d < 6 ∧ fm_ix (v (8 + d)) 12))) (k2_QcV (.int (lk_rd v d))) 0 0 (fun _ => False) := by
  refine Met.ofW (cc := cX5_readable) (maxL := 4) (ret := (some .int)) (by decide) rfl ?_
  intro p e s m args below meth c s₁ B hml hv
  obtain ⟨rfl, hP, hE, hpre⟩ := hv
  have hx := B.exec
  have hb := B.bytes
  have hr := B.returns
  have hts := atoms_spec (ws := wsX5_readable) B.pre
  have hown : s.vm.findClass RX5 = some m.cls := findClass_of_methodNamed B.named
  have hlocks := B.notSynchronized
  have hK := hE.1
  have hS : va_S (fun _ => False) s.heap s.heap [] := va_S.rf
  have hP : va_P (dC, dI) vwCl [((mm 0), .inr (5, [.ref (mm 1), .ref (mm 2), .ref (mm 3), .ref (mm 4), .int kp, .ref (mm 5), .int ty, .int th, .int at0, .int fa, .ref (mm 6), .int ts, .ref (mm 7), .ref (mm 8), .ref (mm 9), .int fr])), ((mm 1), .inl (cI, 12, .inl xm_mk)), ((mm 2), .inl (cI, 80, .inl v))] s.heap := hP
  have hin5 : ∀ w ∈ u_ws RX5 TX5 16, w ∈ wsX5_readable := by decide +kernel
  have hl := lv_entry [.ref (mm 0), .int (nI d)] (n := 4) (Nat.le_of_ble_eq_true rfl)
  rw [lg_entry_eq]
  generalize (lg_sl [.ref (mm 0), .int (nI d)] ++ List.replicate (4 - (lg_sl [.ref (mm 0), .int (nI d)]).length) Slot.unset).toArray = lz at hl ⊢
  have hl : lv_has lz 4 [(0, .ref (mm 0)), (1, .int (nI d))] := hl
  refine lv_iconst (v := 0) hx hb dX5_readable_0 (by decide) ?_
  refine lv_istore_n (lv' := [(2, .int 0), (0, .ref (mm 0)), (1, .int (nI d))]) hx hb dX5_readable_1 rfl hl (by decide) rfl (fun lz hl => ?_)
  refine lv_iconst (v := 0) hx hb dX5_readable_2 (by decide) ?_
  refine lv_istore_n (lv' := [(3, .int 0), (2, .int 0), (0, .ref (mm 0)), (1, .int (nI d))]) hx hb dX5_readable_3 rfl hl (by decide) rfl (fun lz hl => ?_)
  have L4 : ∀ (zz i : Nat), i ≤ 12 → 12 + 1 ≤ i + zz → ∀ (x2 : Int32), x2 = fm_rdb (v (20 + d)) (fm_shw (v (8 + d)) (v (20 + d))) i → ∀ (lz : Array Slot), lv_has lz 4 [(0, .ref (mm 0)), (1, .int (nI d)), (2, .int x2), (3, .int (nI i))] → W p l e (headSpec wsX5_readable ({ frames := 1, cells := 0, slots := 0, locals := 22 } : Room)).room s m ([.ref (mm 0), .int (nI d)] : List Value).toArray below meth c s.heap [] 0 0 (MQ below (k2_QcV (.int (lk_rd v d))) ([.ref (mm 0), .int (nI d)] : List Value).toArray s 0 0 (fun _ => False)) (F0 m 4 lz []) := by
    intro zz
    induction zz with
    | zero => intro i hii hni; exact absurd hni (by omega)
    | succ zz ih4 =>
      intro i hii hni x2 e_x2  lz hl
      subst e_x2
      refine lv_iload_n hx hb dX5_readable_4 rfl (lv_at hl 3 rfl) ?_
      refine lv_bipush (v := 12) hx hb dX5_readable_5 (by decide) ?_
      refine lv_icmp_ge (tgt := 49) hx hb dX5_readable_7 (by decide) (fun q7 => ?_) (fun q7 => ?_)
      · have hNi : 12 = i := (xm_end (N := 12) hii (by decide) q7).symm
        subst hNi
        refine lv_iload_n hx hb dX5_readable_49 rfl (lv_at hl 2 rfl) ?_
        exact W.iret (v := (fm_rdb (v (20 + d)) (fm_shw (v (8 + d)) (v (20 + d))) 12)) hx hb hr (fun t ht hW => ⟨congrArg (fun z => Outcome.returned (some (Value.int z))) (rfl), ht⟩) hS.2.2 dX5_readable_50
      · have hlti : i < 12 := xm_lt (N := 12) hii (by decide) q7
        refine lv_iload_n hx hb dX5_readable_10 rfl (lv_at hl 2 rfl) ?_
        refine lv_aload_n hx hb dX5_readable_11 rfl (lv_at hl 0 rfl) ?_
        refine lv_iload_n hx hb dX5_readable_12 rfl (lv_at hl 1 rfl) ?_
        refine lv_iload_n hx hb dX5_readable_13 rfl (lv_at hl 3 rfl) ?_
        have hPc := hP.sub (ws' := [((mm 0), .inr (5, [.ref (mm 1), .ref (mm 2), .ref (mm 3), .ref (mm 4), .int kp, .ref (mm 5), .int ty, .int th, .int at0, .int fa, .ref (mm 6), .int ts, .ref (mm 7), .ref (mm 8), .ref (mm 9), .int fr])), ((mm 1), .inl (cI, 12, .inl xm_mk)), ((mm 2), .inl (cI, 80, .inl v))]) [0, 1, 2] rfl
        refine W.callV ((va_runV (As := [.int (nI d), .int (nI i)]) (rest := [.int (fm_rdb (v (20 + d)) (fm_shw (v (8 + d)) (v (20 + d))) i)]) ⟨hx, hb, hml, hown, hts⟩ (c_X5_shownAs l dC dI cI cS cJ tt mm kp ty th at0 fa ts fr v d i) (cwV 2 hts gX5_readable_X5_shownAs rfl rfl rfl (by decide +kernel) ⟨Nat.le_of_ble_eq_true rfl, Nat.le_of_ble_eq_true rfl⟩) ⟨xm_Rblind, va_recv hK hPc (ci := 5) (q0 := 0) rfl rfl, fun U hU hW => ⟨rfl, by rw [hU]; exact hPc, hE.go hS (fun _ q => q.elim) hU hW, ⟨hpre.1, hlti⟩⟩⟩ rfl rfl hl.1 rfl (lv_room (Nat.le_of_ble_eq_true rfl)) dX5_readable_14 ⟨Nat.zero_le _, Nat.zero_le _⟩).run) ?_
        refine W.eq (g2 := F0 m 17 lz (.int (xm_mk i &&& (v (20 + d) ^^^ (-1))) :: [.int (fm_rdb (v (20 + d)) (fm_shw (v (8 + d)) (v (20 + d))) i)])) rfl ?_
        refine lv_aload_n hx hb dX5_readable_17 rfl (lv_at hl 0 rfl) ?_
        refine lv_iload_n hx hb dX5_readable_18 rfl (lv_at hl 1 rfl) ?_
        refine lv_aload_n hx hb dX5_readable_19 rfl (lv_at hl 0 rfl) ?_
        refine va_get (D := (dC, dI)) (ci := 5) (v := .ref (mm 2)) (C := RX5) (T := TX5) (N := 16) hx hb hts hin5 hown hK hP 0 rfl rfl 1 (by decide) (hts (.fieldLink RX5 13 "TurnDigitsModel" "now" "[I") (by decide +kernel)) (fun _ h9 => h9) rfl dX5_readable_20 ?_
        refine lv_bipush (v := 8) hx hb dX5_readable_23 (by decide) ?_
        refine lv_iload_n hx hb dX5_readable_25 rfl (lv_at hl 1 rfl) ?_
        refine lv_iadd hx hb dX5_readable_26 ?_
        refine xm_topi (y := nI (8 + d)) (nI_add 8 d) ?_
        refine xm_iald (D := (dC, dI)) hx hb hK hP 2 0 (8 + d) (v := v (8 + d)) rfl rfl (by decide) rfl (by omega) rfl dX5_readable_27 ?_
        refine xm_topi (y := (nI (v (8 + d)).toNatClampNeg)) hpre.2.1 ?_
        have hPc := hP.sub (ws' := [((mm 0), .inr (5, [.ref (mm 1), .ref (mm 2), .ref (mm 3), .ref (mm 4), .int kp, .ref (mm 5), .int ty, .int th, .int at0, .int fa, .ref (mm 6), .int ts, .ref (mm 7), .ref (mm 8), .ref (mm 9), .int fr])), ((mm 1), .inl (cI, 12, .inl xm_mk)), ((mm 2), .inl (cI, 80, .inl v))]) [0, 1, 2] rfl
        refine W.callV ((va_runV (As := [.int (nI d), .int (nI (v (8 + d)).toNatClampNeg)]) (rest := [.int (xm_mk i &&& (v (20 + d) ^^^ (-1))), .int (fm_rdb (v (20 + d)) (fm_shw (v (8 + d)) (v (20 + d))) i)]) ⟨hx, hb, hml, hown, hts⟩ (c_X5_shownAs l dC dI cI cS cJ tt mm kp ty th at0 fa ts fr v d ((v (8 + d)).toNatClampNeg)) (cwV 2 hts gX5_readable_X5_shownAs rfl rfl rfl (by decide +kernel) ⟨Nat.le_of_ble_eq_true rfl, Nat.le_of_ble_eq_true rfl⟩) ⟨xm_Rblind, va_recv hK hPc (ci := 5) (q0 := 0) rfl rfl, fun U hU hW => ⟨rfl, by rw [hU]; exact hPc, hE.go hS (fun _ q => q.elim) hU hW, ⟨hpre.1, hpre.2.2⟩⟩⟩ rfl rfl hl.1 rfl (lv_room (Nat.le_of_ble_eq_true rfl)) dX5_readable_28 ⟨Nat.zero_le _, Nat.zero_le _⟩).run) ?_
        refine W.eq (g2 := F0 m 31 lz (.int (xm_mk ((v (8 + d)).toNatClampNeg) &&& (v (20 + d) ^^^ (-1))) :: [.int (xm_mk i &&& (v (20 + d) ^^^ (-1))), .int (fm_rdb (v (20 + d)) (fm_shw (v (8 + d)) (v (20 + d))) i)])) rfl ?_
        refine xm_topi (y := (fm_shw (v (8 + d)) (v (20 + d)))) rfl ?_
        refine lv_icmp_ne (tgt := 40) hx hb dX5_readable_31 (by decide) (fun q31 => ?_) (fun q31 => ?_)
        · refine lv_iconst (v := 0) hx hb dX5_readable_40 (by decide) ?_
          refine lv_ior hx hb dX5_readable_41 ?_
          refine lv_istore_n (lv' := [(2, .int ((fm_rdb (v (20 + d)) (fm_shw (v (8 + d)) (v (20 + d))) i) ||| 0)), (0, .ref (mm 0)), (1, .int (nI d)), (3, .int (nI i))]) hx hb dX5_readable_42 rfl hl (by decide) rfl (fun lz hl => ?_)
          refine lv_iinc (v := nI (i + 1)) (lv' := [(3, .int (nI (i + 1))), (2, .int ((fm_rdb (v (20 + d)) (fm_shw (v (8 + d)) (v (20 + d))) i) ||| 0)), (0, .ref (mm 0)), (1, .int (nI d))]) hx hb dX5_readable_43 hl (k := 3) rfl (nI_1 i) (by decide) rfl (fun lz hl => ?_)
          refine lv_goto (tgt := 4) hx hb dX5_readable_46 (by decide) ?_
          exact ih4 (i + 1) hlti (by omega) ((fm_rdb (v (20 + d)) (fm_shw (v (8 + d)) (v (20 + d))) i) ||| 0) (by rw [rdb_s, if_neg q31]; exact Int32.or_zero)  lz (lv_sub hl [2, 3, 1, 0] rfl)
        · refine lv_iconst (v := 1) hx hb dX5_readable_34 (by decide) ?_
          refine lv_iload_n hx hb dX5_readable_35 rfl (lv_at hl 3 rfl) ?_
          refine lv_ishl hx hb dX5_readable_36 ?_
          refine lv_goto (tgt := 41) hx hb dX5_readable_37 (by decide) ?_
          refine lv_ior hx hb dX5_readable_41 ?_
          refine lv_istore_n (lv' := [(2, .int ((fm_rdb (v (20 + d)) (fm_shw (v (8 + d)) (v (20 + d))) i) ||| (1 <<< ((nI i) &&& 31)))), (0, .ref (mm 0)), (1, .int (nI d)), (3, .int (nI i))]) hx hb dX5_readable_42 rfl hl (by decide) rfl (fun lz hl => ?_)
          refine lv_iinc (v := nI (i + 1)) (lv' := [(3, .int (nI (i + 1))), (2, .int ((fm_rdb (v (20 + d)) (fm_shw (v (8 + d)) (v (20 + d))) i) ||| (1 <<< ((nI i) &&& 31)))), (0, .ref (mm 0)), (1, .int (nI d))]) hx hb dX5_readable_43 hl (k := 3) rfl (nI_1 i) (by decide) rfl (fun lz hl => ?_)
          refine lv_goto (tgt := 4) hx hb dX5_readable_46 (by decide) ?_
          exact ih4 (i + 1) hlti (by omega) ((fm_rdb (v (20 + d)) (fm_shw (v (8 + d)) (v (20 + d))) i) ||| (1 <<< ((nI i) &&& 31))) (by rw [rdb_s, if_pos q31])  lz (lv_sub hl [2, 3, 1, 0] rfl)
  exact L4 (12 + 1) 0 (by omega) (by omega) 0 rfl  lz (lv_sub hl [2, 3, 1, 0] rfl)

set_option maxHeartbeats 4000000 in
set_option maxRecDepth 100000 in
theorem c_X5_isClear (l : Launch) (dC : Nat → ClassId) (dI : Nat → Nat → Nat) (cI cS cJ : ClassId) (tt : Nat → Nat) (mm : Nat → Nat) (kp : Int32) (ty : Int32) (th : Int32) (at0 : Int32) (fa : Int32) (ts : Int32) (F : Nat → Int32) (y : Nat → Int32) (n : Nat) (v : Nat → Int32) (d : Nat) : Met l yX5_isClear wsX5_isClear ({ frames := 3, cells := 0, slots := 0, locals := 70 } : Room) (va_Pc [.ref (mm 0), .int (nI d)] (xm_R (dC, dI) cI cS cJ tt [((mm 0), .inr (5, [.ref (mm 1), .ref (mm 2), .ref (mm 3), .ref (mm 4), .int kp, .ref (mm 5), .int ty, .int th, .int at0, .int fa, .ref (mm 6), .int ts, .ref (mm 7), .ref (mm 8), .ref (mm 9), .int (nI n)])), ((mm 1), .inl (cI, 12, .inl xm_mk)), ((mm 2), .inl (cI, 80, .inl v)), ((mm 8), .inl (cI, 96, .inl (fm_fl F y n)))] ((d < 6 ∧ fm_ix (v (8 + d)) 12) ∧ (1 ≤ n ∧ n ≤ 96) ∧ v 2 = nI n))) (k2_QcV (.int (lk_clr (fr_gp F n) (fr_ls F n) (v 2) (v 4) (v 5 * v 1) v d))) 0 0 (fun _ => False) := by
  refine Met.ofW (cc := cX5_isClear) (maxL := 3) (ret := (some .boolean)) (by decide) rfl ?_
  intro p e s m args below meth c s₁ B hml hv
  obtain ⟨rfl, hP, hE, hpre⟩ := hv
  have hx := B.exec
  have hb := B.bytes
  have hr := B.returns
  have hts := atoms_spec (ws := wsX5_isClear) B.pre
  have hown : s.vm.findClass RX5 = some m.cls := findClass_of_methodNamed B.named
  have hlocks := B.notSynchronized
  have hK := hE.1
  have hS : va_S (fun _ => False) s.heap s.heap [] := va_S.rf
  have hP : va_P (dC, dI) vwCl [((mm 0), .inr (5, [.ref (mm 1), .ref (mm 2), .ref (mm 3), .ref (mm 4), .int kp, .ref (mm 5), .int ty, .int th, .int at0, .int fa, .ref (mm 6), .int ts, .ref (mm 7), .ref (mm 8), .ref (mm 9), .int (nI n)])), ((mm 1), .inl (cI, 12, .inl xm_mk)), ((mm 2), .inl (cI, 80, .inl v)), ((mm 8), .inl (cI, 96, .inl (fm_fl F y n)))] s.heap := hP
  have hin5 : ∀ w ∈ u_ws RX5 TX5 16, w ∈ wsX5_isClear := by decide +kernel
  have hl := lv_entry [.ref (mm 0), .int (nI d)] (n := 3) (Nat.le_of_ble_eq_true rfl)
  rw [lg_entry_eq]
  generalize (lg_sl [.ref (mm 0), .int (nI d)] ++ List.replicate (3 - (lg_sl [.ref (mm 0), .int (nI d)]).length) Slot.unset).toArray = lz at hl ⊢
  have hl : lv_has lz 3 [(0, .ref (mm 0)), (1, .int (nI d))] := hl
  refine lv_aload_n hx hb dX5_isClear_0 rfl (lv_at hl 0 rfl) ?_
  refine lv_iload_n hx hb dX5_isClear_1 rfl (lv_at hl 1 rfl) ?_
  have hPc := hP.sub (ws' := [((mm 0), .inr (5, [.ref (mm 1), .ref (mm 2), .ref (mm 3), .ref (mm 4), .int kp, .ref (mm 5), .int ty, .int th, .int at0, .int fa, .ref (mm 6), .int ts, .ref (mm 7), .ref (mm 8), .ref (mm 9), .int (nI n)])), ((mm 1), .inl (cI, 12, .inl xm_mk)), ((mm 2), .inl (cI, 80, .inl v))]) [0, 1, 2] rfl
  refine W.callV ((va_runV (As := [.int (nI d)]) (rest := []) ⟨hx, hb, hml, hown, hts⟩ (c_X5_readable l dC dI cI cS cJ tt mm kp ty th at0 fa ts (nI n) v d) (cwV 1 hts gX5_isClear_X5_readable rfl rfl rfl (by decide +kernel) ⟨Nat.le_of_ble_eq_true rfl, Nat.le_of_ble_eq_true rfl⟩) ⟨xm_Rblind, va_recv hK hPc (ci := 5) (q0 := 0) rfl rfl, fun U hU hW => ⟨rfl, by rw [hU]; exact hPc, hE.go hS (fun _ q => q.elim) hU hW, hpre.1⟩⟩ rfl rfl hl.1 rfl (lv_room (Nat.le_of_ble_eq_true rfl)) dX5_isClear_2 ⟨Nat.zero_le _, Nat.zero_le _⟩).run) ?_
  refine W.eq (g2 := F0 m 5 lz (.int (lk_rd v d) :: [])) rfl ?_
  refine lv_istore_n (lv' := [(2, .int (lk_rd v d)), (0, .ref (mm 0)), (1, .int (nI d))]) hx hb dX5_isClear_5 rfl hl (by decide) rfl (fun lz hl => ?_)
  refine lv_aload_n hx hb dX5_isClear_6 rfl (lv_at hl 1 rfl) ?_
  refine lv_aload_n hx hb dX5_isClear_7 rfl (lv_at hl 1 rfl) ?_
  refine va_get (D := (dC, dI)) (ci := 5) (v := .ref (mm 2)) (C := RX5) (T := TX5) (N := 16) hx hb hts hin5 hown hK hP 0 rfl rfl 1 (by decide) (hts (.fieldLink RX5 13 "TurnDigitsModel" "now" "[I") (by decide +kernel)) (fun _ h9 => h9) rfl dX5_isClear_8 ?_
  refine lv_iload_n hx hb dX5_isClear_11 rfl (lv_at hl 2 rfl) ?_
  have hPc := hP.sub (ws' := [((mm 0), .inr (5, [.ref (mm 1), .ref (mm 2), .ref (mm 3), .ref (mm 4), .int kp, .ref (mm 5), .int ty, .int th, .int at0, .int fa, .ref (mm 6), .int ts, .ref (mm 7), .ref (mm 8), .ref (mm 9), .int (nI n)])), ((mm 8), .inl (cI, 96, .inl (fm_fl F y n))), ((mm 2), .inl (cI, 80, .inl v))]) [0, 3, 2] rfl
  refine W.callV ((va_runV (As := [.ref (mm 2), .int (nI d)]) (rest := []) ⟨hx, hb, hml, hown, hts⟩ (c_X5_isSeen l dC dI cI cS cJ tt mm kp ty th at0 fa ts F y n (mm 2) v d) (cwV 2 hts gX5_isClear_X5_isSeen rfl rfl rfl (by decide +kernel) ⟨Nat.le_of_ble_eq_true rfl, Nat.le_of_ble_eq_true rfl⟩) ⟨xm_Rblind, va_recv hK hPc (ci := 5) (q0 := 0) rfl rfl, fun U hU hW => ⟨rfl, by rw [hU]; exact hPc, hE.go hS (fun _ q => q.elim) hU hW, hpre.2⟩⟩ rfl rfl hl.1 rfl (lv_room (Nat.le_of_ble_eq_true rfl)) dX5_isClear_12 ⟨Nat.zero_le _, Nat.zero_le _⟩).run) ?_
  refine W.eq (g2 := F0 m 15 lz (.int (lk_see (fr_gp F n) (fr_ls F n) (v 2) (v 4) (v 5 * v 1) d) :: [])) rfl ?_
  refine lv_if_eq (tgt := 30) hx hb dX5_isClear_15 (by decide) (fun q15 => ?_) (fun q15 => ?_)
  · refine lv_iconst (v := 0) hx hb dX5_isClear_30 (by decide) ?_
    exact W.zret (v := 0) hx hb hr rfl (fun t ht hW => ⟨congrArg (fun z => Outcome.returned (some (Value.int z))) (by unfold lk_clr cl_clr; rw [if_pos q15]), ht⟩) hS.2.2 dX5_isClear_31
  · refine lv_iload_n hx hb dX5_isClear_18 rfl (lv_at hl 0 rfl) ?_
    refine lv_iload_n hx hb dX5_isClear_19 rfl (lv_at hl 0 rfl) ?_
    refine lv_iconst (v := 1) hx hb dX5_isClear_20 (by decide) ?_
    refine lv_isub hx hb dX5_isClear_21 ?_
    refine lv_iand hx hb dX5_isClear_22 ?_
    refine lv_if_ne (tgt := 30) hx hb dX5_isClear_23 (by decide) (fun q23 => ?_) (fun q23 => ?_)
    · refine lv_iconst (v := 0) hx hb dX5_isClear_30 (by decide) ?_
      exact W.zret (v := 0) hx hb hr rfl (fun t ht hW => ⟨congrArg (fun z => Outcome.returned (some (Value.int z))) (by unfold lk_clr cl_clr; rw [if_neg q15, if_neg (fun h => q23 ((mr_one hpre.1.2).mp h))]), ht⟩) hS.2.2 dX5_isClear_31
    · refine lv_iconst (v := 1) hx hb dX5_isClear_26 (by decide) ?_
      refine lv_goto (tgt := 31) hx hb dX5_isClear_27 (by decide) ?_
      exact W.zret (v := 1) hx hb hr rfl (fun t ht hW => ⟨congrArg (fun z => Outcome.returned (some (Value.int z))) (by unfold lk_clr cl_clr; rw [if_neg q15, if_pos ((mr_one hpre.1.2).mpr q23)]), ht⟩) hS.2.2 dX5_isClear_31

set_option maxHeartbeats 4000000 in
set_option maxRecDepth 100000 in
theorem c_X5_ones (l : Launch) (dC : Nat → ClassId) (dI : Nat → Nat → Nat) (cI cS cJ : ClassId) (tt : Nat → Nat) (x0 : Int32) : Met l yX5_ones wsX5_ones ({ frames := 0, cells := 0, slots := 0, locals := 0 } : Room) (va_Pc [.int x0] (xm_R (dC, dI) cI cS cJ tt [] (∃ y, y < 128 ∧ x0 = nI y))) (k2_QcV (.int (fm_bc x0))) 0 0 (fun _ => False) := by
  refine Met.ofW (cc := cX5_ones) (maxL := 3) (ret := (some .int)) (by decide) rfl ?_
  intro p e s m args below meth c s₁ B hml hv
  obtain ⟨rfl, hP, hE, hpre⟩ := hv
  have hx := B.exec
  have hb := B.bytes
  have hr := B.returns
  have hts := atoms_spec (ws := wsX5_ones) B.pre
  have hown : s.vm.findClass RX5 = some m.cls := findClass_of_methodNamed B.named
  have hlocks := B.notSynchronized
  have hK := hE.1
  have hS : va_S (fun _ => False) s.heap s.heap [] := va_S.rf
  have hP : va_P (dC, dI) vwCl [] s.heap := hP
  have hl := lv_entry [.int x0] (n := 3) (Nat.le_of_ble_eq_true rfl)
  rw [lg_entry_eq]
  generalize (lg_sl [.int x0] ++ List.replicate (3 - (lg_sl [.int x0]).length) Slot.unset).toArray = lz at hl ⊢
  have hl : lv_has lz 3 [(0, .int x0)] := hl
  obtain ⟨y9, hy9, ey9⟩ := hpre
  obtain ⟨h9, hh8, hbc, hz9, hk9⟩ := mo_all y9 hy9
  refine lv_iconst (v := 0) hx hb dX5_ones_0 (by decide) ?_
  refine lv_istore_n (lv' := [(1, .int 0), (0, .int x0)]) hx hb dX5_ones_1 rfl hl (by decide) rfl (fun lz hl => ?_)
  refine lv_iload_n hx hb dX5_ones_2 rfl (lv_at hl 1 rfl) ?_
  refine xm_topi (y := (nI y9)) ey9 ?_
  refine lv_istore_n (lv' := [(2, .int (nI y9)), (1, .int 0), (0, .int x0)]) hx hb dX5_ones_3 rfl hl (by decide) rfl (fun lz hl => ?_)
  have L4 : ∀ (zz i : Nat), i ≤ h9 → h9 + 1 ≤ i + zz → ∀ (x2 : Int32), x2 = mo_l (nI y9) i → ∀ (lz : Array Slot), lv_has lz 3 [(1, .int (nI i)), (2, .int x2)] → W p l e (headSpec wsX5_ones ({ frames := 0, cells := 0, slots := 0, locals := 0 } : Room)).room s m ([.int x0] : List Value).toArray below meth c s.heap [] 0 0 (MQ below (k2_QcV (.int (fm_bc x0))) ([.int x0] : List Value).toArray s 0 0 (fun _ => False)) (F0 m 4 lz []) := by
    intro zz
    induction zz with
    | zero => intro i hii hni; exact absurd hni (by omega)
    | succ zz ih4 =>
      intro i hii hni x2 e_x2  lz hl
      subst e_x2
      refine lv_iload_n hx hb dX5_ones_4 rfl (lv_at hl 1 rfl) ?_
      refine lv_if_eq (tgt := 20) hx hb dX5_ones_5 (by decide) (fun q5 => ?_) (fun q5 => ?_)
      · have hNi : h9 = i := by rcases Nat.lt_or_ge i h9 with h | h; exact absurd q5 (hk9 i h); omega
        subst hNi
        refine lv_iload_n hx hb dX5_ones_20 rfl (lv_at hl 0 rfl) ?_
        exact W.iret (v := nI h9) hx hb hr (fun t ht hW => ⟨congrArg (fun z => Outcome.returned (some (Value.int z))) (by rw [ey9]; exact hbc.symm), ht⟩) hS.2.2 dX5_ones_21
      · have hlti : i < h9 := by rcases Nat.lt_or_ge i h9 with h | h; exact h; exact absurd (by rw [show i = h9 by omega]; exact hz9) q5
        refine lv_iinc (v := nI (i + 1)) (lv' := [(1, .int (nI (i + 1))), (2, .int (mo_l (nI y9) i))]) hx hb dX5_ones_8 hl (k := 0) rfl (nI_1 i) (by decide) rfl (fun lz hl => ?_)
        refine lv_iload_n hx hb dX5_ones_11 rfl (lv_at hl 1 rfl) ?_
        refine lv_iload_n hx hb dX5_ones_12 rfl (lv_at hl 1 rfl) ?_
        refine lv_iconst (v := 1) hx hb dX5_ones_13 (by decide) ?_
        refine lv_isub hx hb dX5_ones_14 ?_
        refine lv_iand hx hb dX5_ones_15 ?_
        refine lv_istore_n (lv' := [(2, .int ((mo_l (nI y9) i) &&& ((mo_l (nI y9) i) - 1))), (1, .int (nI (i + 1)))]) hx hb dX5_ones_16 rfl hl (by decide) rfl (fun lz hl => ?_)
        refine lv_goto (tgt := 4) hx hb dX5_ones_17 (by decide) ?_
        exact ih4 (i + 1) hlti (by omega) ((mo_l (nI y9) i) &&& ((mo_l (nI y9) i) - 1)) rfl  lz (lv_sub hl [1, 0] rfl)
  exact L4 (h9 + 1) 0 (by omega) (by omega) (nI y9) rfl  lz (lv_sub hl [1, 0] rfl)

set_option maxHeartbeats 4000000 in
set_option maxRecDepth 100000 in
theorem c_X5_changes (l : Launch) (dC : Nat → ClassId) (dI : Nat → Nat → Nat) (cI cS cJ : ClassId) (tt : Nat → Nat) (sz : Nat) (mm : Nat → Nat) (kp : Int32) (ty : Int32) (th : Int32) (at0 : Int32) (fa : Int32) (ts : Int32) (fr : Int32) (v : Nat → Int32) (k0 : Nat) (x0 : Int32) : Met l yX5_changes wsX5_changes ({ frames := 0, cells := 0, slots := 0, locals := 0 } : Room) (va_Pc [.ref (mm 0), .int (nI k0), .int x0] (xm_M (dC, dI) cI cS cJ tt [((mm 0), .inr (5, [.ref (mm 1), .ref (mm 2), .ref (mm 3), .ref (mm 4), .int kp, .ref (mm 5), .int ty, .int th, .int at0, .int fa, .ref (mm 6), .int ts, .ref (mm 7), .ref (mm 8), .ref (mm 9), .int fr])), ((mm 2), .inl (cI, 80, .inl v))] sz (k0 < 80))) (va_Qi (fun (r : Int32) (u : (Nat → Int32)) => r = v k0 ∧ u = upd v k0 x0) (xm_B (dC, dI) (fun (u : (Nat → Int32)) => [((mm 0), .inr (5, [.ref (mm 1), .ref (mm 2), .ref (mm 3), .ref (mm 4), .int kp, .ref (mm 5), .int ty, .int th, .int at0, .int fa, .ref (mm 6), .int ts, .ref (mm 7), .ref (mm 8), .ref (mm 9), .int fr])), ((mm 2), .inl (cI, 80, .inl u))]) (va_A [((mm 0), .inr (5, [.ref (mm 1), .ref (mm 2), .ref (mm 3), .ref (mm 4), .int kp, .ref (mm 5), .int ty, .int th, .int at0, .int fa, .ref (mm 6), .int ts, .ref (mm 7), .ref (mm 8), .ref (mm 9), .int fr])), ((mm 2), .inl (cI, 80, .inl v))] sz)) (va_A [((mm 0), .inr (5, [.ref (mm 1), .ref (mm 2), .ref (mm 3), .ref (mm 4), .int kp, .ref (mm 5), .int ty, .int th, .int at0, .int fa, .ref (mm 6), .int ts, .ref (mm 7), .ref (mm 8), .ref (mm 9), .int fr])), ((mm 2), .inl (cI, 80, .inl v))] sz)) 0 0 (va_A [((mm 0), .inr (5, [.ref (mm 1), .ref (mm 2), .ref (mm 3), .ref (mm 4), .int kp, .ref (mm 5), .int ty, .int th, .int at0, .int fa, .ref (mm 6), .int ts, .ref (mm 7), .ref (mm 8), .ref (mm 9), .int fr])), ((mm 2), .inl (cI, 80, .inl v))] sz) := by
  refine Met.ofW (cc := cX5_changes) (maxL := 4) (ret := (some .int)) (by decide) rfl ?_
  intro p e s m args below meth c s₁ B hml hv
  obtain ⟨rfl, hsz, hP, hE, hD0, hpre⟩ := hv
  have hx := B.exec
  have hb := B.bytes
  have hr := B.returns
  have hts := atoms_spec (ws := wsX5_changes) B.pre
  have hown : s.vm.findClass RX5 = some m.cls := findClass_of_methodNamed B.named
  have hlocks := B.notSynchronized
  have hK := hE.1
  subst hsz
  have hD := hD0.self (sz := s.heap.size)
  generalize hAe : va_A [((mm 0), .inr (5, [.ref (mm 1), .ref (mm 2), .ref (mm 3), .ref (mm 4), .int kp, .ref (mm 5), .int ty, .int th, .int at0, .int fa, .ref (mm 6), .int ts, .ref (mm 7), .ref (mm 8), .ref (mm 9), .int fr])), ((mm 2), .inl (cI, 80, .inl v))] s.heap.size = A at hD hE ⊢
  have hA : ∀ q : Nat, s.heap.size ≤ q → A q := fun q h => by rw [← hAe]; exact Or.inr h
  have hS : va_S A s.heap s.heap [] := va_S.rf
  have hP : va_P (dC, dI) vwCl [((mm 0), .inr (5, [.ref (mm 1), .ref (mm 2), .ref (mm 3), .ref (mm 4), .int kp, .ref (mm 5), .int ty, .int th, .int at0, .int fa, .ref (mm 6), .int ts, .ref (mm 7), .ref (mm 8), .ref (mm 9), .int fr])), ((mm 2), .inl (cI, 80, .inl v))] s.heap := hP
  have hin5 : ∀ w ∈ u_ws RX5 TX5 16, w ∈ wsX5_changes := by decide +kernel
  have hl := lv_entry [.ref (mm 0), .int (nI k0), .int x0] (n := 4) (Nat.le_of_ble_eq_true rfl)
  rw [lg_entry_eq]
  generalize (lg_sl [.ref (mm 0), .int (nI k0), .int x0] ++ List.replicate (4 - (lg_sl [.ref (mm 0), .int (nI k0), .int x0]).length) Slot.unset).toArray = lz at hl ⊢
  have hl : lv_has lz 4 [(0, .ref (mm 0)), (1, .int (nI k0)), (2, .int x0)] := hl
  refine lv_aload_n hx hb dX5_changes_0 rfl (lv_at hl 0 rfl) ?_
  refine va_get (D := (dC, dI)) (ci := 5) (v := .ref (mm 2)) (C := RX5) (T := TX5) (N := 16) hx hb hts hin5 hown hK hP 0 rfl rfl 1 (by decide) (hts (.fieldLink RX5 13 "TurnDigitsModel" "now" "[I") (by decide +kernel)) (fun _ h9 => h9) rfl dX5_changes_1 ?_
  refine lv_iload_n hx hb dX5_changes_4 rfl (lv_at hl 1 rfl) ?_
  refine xm_iald (D := (dC, dI)) hx hb hK hP 1 0 k0 (v := v k0) rfl rfl (by decide) rfl (by omega) rfl dX5_changes_5 ?_
  refine lv_istore_n (lv' := [(3, .int (v k0)), (0, .ref (mm 0)), (1, .int (nI k0)), (2, .int x0)]) hx hb dX5_changes_6 rfl hl (by decide) rfl (fun lz hl => ?_)
  refine lv_aload_n hx hb dX5_changes_7 rfl (lv_at hl 1 rfl) ?_
  refine va_get (D := (dC, dI)) (ci := 5) (v := .ref (mm 2)) (C := RX5) (T := TX5) (N := 16) hx hb hts hin5 hown hK hP 0 rfl rfl 1 (by decide) (hts (.fieldLink RX5 13 "TurnDigitsModel" "now" "[I") (by decide +kernel)) (fun _ h9 => h9) rfl dX5_changes_8 ?_
  refine lv_iload_n hx hb dX5_changes_11 rfl (lv_at hl 2 rfl) ?_
  refine lv_iload_n hx hb dX5_changes_12 rfl (lv_at hl 3 rfl) ?_
  refine xm_iast (D := (dC, dI)) hx hb hK hP hD hS 1 0 k0 rfl rfl (by decide) rfl (by omega) dX5_changes_13 (fun H locs hP hD hS => ?_)
  have hP : va_P (dC, dI) vwCl [((mm 0), .inr (5, [.ref (mm 1), .ref (mm 2), .ref (mm 3), .ref (mm 4), .int kp, .ref (mm 5), .int ty, .int th, .int at0, .int fa, .ref (mm 6), .int ts, .ref (mm 7), .ref (mm 8), .ref (mm 9), .int fr])), ((mm 2), .inl (cI, 80, .inl (upd v k0 x0)))] H := hP
  have hD : va_D A [((mm 0), .inr (5, [.ref (mm 1), .ref (mm 2), .ref (mm 3), .ref (mm 4), .int kp, .ref (mm 5), .int ty, .int th, .int at0, .int fa, .ref (mm 6), .int ts, .ref (mm 7), .ref (mm 8), .ref (mm 9), .int fr])), ((mm 2), .inl (cI, 80, .inl (upd v k0 x0)))] := hD
  refine lv_iload_n hx hb dX5_changes_14 rfl (lv_at hl 0 rfl) ?_
  have hP9 : va_P (dC, dI) vwCl [((mm 0), .inr (5, [.ref (mm 1), .ref (mm 2), .ref (mm 3), .ref (mm 4), .int kp, .ref (mm 5), .int ty, .int th, .int at0, .int fa, .ref (mm 6), .int ts, .ref (mm 7), .ref (mm 8), .ref (mm 9), .int fr])), ((mm 2), .inl (cI, 80, .inl (upd v k0 x0)))] H := hP
  have hD9 : va_D A [((mm 0), .inr (5, [.ref (mm 1), .ref (mm 2), .ref (mm 3), .ref (mm 4), .int kp, .ref (mm 5), .int ty, .int th, .int at0, .int fa, .ref (mm 6), .int ts, .ref (mm 7), .ref (mm 8), .ref (mm 9), .int fr])), ((mm 2), .inl (cI, 80, .inl (upd v k0 x0)))] := hD
  exact W.iret (v := v k0) hx hb hr (fun t ht hW => ⟨⟨v k0, upd v k0 x0, rfl, ⟨rfl, rfl⟩, by rw [ht]; exact hP9, hD9⟩, hS.F ht⟩) hS.2.2 dX5_changes_15

set_option maxHeartbeats 4000000 in
set_option maxRecDepth 100000 in
theorem c_X5_noCredits (l : Launch) (dC : Nat → ClassId) (dI : Nat → Nat → Nat) (cI cS cJ : ClassId) (tt : Nat → Nat) (sz : Nat) (mm : Nat → Nat) (kp : Int32) (ty : Int32) (th : Int32) (at0 : Int32) (fa : Int32) (ts : Int32) (fr : Int32) (v : Nat → Int32) : Met l yX5_noCredits wsX5_noCredits ({ frames := 0, cells := 0, slots := 0, locals := 0 } : Room) (va_Pc [.ref (mm 0)] (xm_M (dC, dI) cI cS cJ tt [((mm 0), .inr (5, [.ref (mm 1), .ref (mm 2), .ref (mm 3), .ref (mm 4), .int kp, .ref (mm 5), .int ty, .int th, .int at0, .int fa, .ref (mm 6), .int ts, .ref (mm 7), .ref (mm 8), .ref (mm 9), .int fr])), ((mm 2), .inl (cI, 80, .inl v))] sz (True))) (va_Qv (fun (u : (Nat → Int32)) => u = xv_zc v) (xm_B (dC, dI) (fun (u : (Nat → Int32)) => [((mm 0), .inr (5, [.ref (mm 1), .ref (mm 2), .ref (mm 3), .ref (mm 4), .int kp, .ref (mm 5), .int ty, .int th, .int at0, .int fa, .ref (mm 6), .int ts, .ref (mm 7), .ref (mm 8), .ref (mm 9), .int fr])), ((mm 2), .inl (cI, 80, .inl u))]) (va_A [((mm 0), .inr (5, [.ref (mm 1), .ref (mm 2), .ref (mm 3), .ref (mm 4), .int kp, .ref (mm 5), .int ty, .int th, .int at0, .int fa, .ref (mm 6), .int ts, .ref (mm 7), .ref (mm 8), .ref (mm 9), .int fr])), ((mm 2), .inl (cI, 80, .inl v))] sz)) (va_A [((mm 0), .inr (5, [.ref (mm 1), .ref (mm 2), .ref (mm 3), .ref (mm 4), .int kp, .ref (mm 5), .int ty, .int th, .int at0, .int fa, .ref (mm 6), .int ts, .ref (mm 7), .ref (mm 8), .ref (mm 9), .int fr])), ((mm 2), .inl (cI, 80, .inl v))] sz)) 0 0 (va_A [((mm 0), .inr (5, [.ref (mm 1), .ref (mm 2), .ref (mm 3), .ref (mm 4), .int kp, .ref (mm 5), .int ty, .int th, .int at0, .int fa, .ref (mm 6), .int ts, .ref (mm 7), .ref (mm 8), .ref (mm 9), .int fr])), ((mm 2), .inl (cI, 80, .inl v))] sz) := by
  refine Met.ofW (cc := cX5_noCredits) (maxL := 2) (ret := none) (by decide) rfl ?_
  intro p e s m args below meth c s₁ B hml hv
  obtain ⟨rfl, hsz, hP, hE, hD0, hpre⟩ := hv
  have hx := B.exec
  have hb := B.bytes
  have hr := B.returns
  have hts := atoms_spec (ws := wsX5_noCredits) B.pre
  have hown : s.vm.findClass RX5 = some m.cls := findClass_of_methodNamed B.named
  have hlocks := B.notSynchronized
  have hK := hE.1
  subst hsz
  have hD := hD0.self (sz := s.heap.size)
  generalize hAe : va_A [((mm 0), .inr (5, [.ref (mm 1), .ref (mm 2), .ref (mm 3), .ref (mm 4), .int kp, .ref (mm 5), .int ty, .int th, .int at0, .int fa, .ref (mm 6), .int ts, .ref (mm 7), .ref (mm 8), .ref (mm 9), .int fr])), ((mm 2), .inl (cI, 80, .inl v))] s.heap.size = A at hD hE ⊢
  have hA : ∀ q : Nat, s.heap.size ≤ q → A q := fun q h => by rw [← hAe]; exact Or.inr h
  have hS : va_S A s.heap s.heap [] := va_S.rf
  have hP : va_P (dC, dI) vwCl [((mm 0), .inr (5, [.ref (mm 1), .ref (mm 2), .ref (mm 3), .ref (mm 4), .int kp, .ref (mm 5), .int ty, .int th, .int at0, .int fa, .ref (mm 6), .int ts, .ref (mm 7), .ref (mm 8), .ref (mm 9), .int fr])), ((mm 2), .inl (cI, 80, .inl v))] s.heap := hP
  have hin5 : ∀ w ∈ u_ws RX5 TX5 16, w ∈ wsX5_noCredits := by decide +kernel
  have hl := lv_entry [.ref (mm 0)] (n := 2) (Nat.le_of_ble_eq_true rfl)
  rw [lg_entry_eq]
  generalize (lg_sl [.ref (mm 0)] ++ List.replicate (2 - (lg_sl [.ref (mm 0)]).length) Slot.unset).toArray = lz at hl ⊢
  have hl : lv_has lz 2 [(0, .ref (mm 0))] := hl
  refine lv_iconst (v := 0) hx hb dX5_noCredits_0 (by decide) ?_
  refine lv_istore_n (lv' := [(1, .int 0), (0, .ref (mm 0))]) hx hb dX5_noCredits_1 rfl hl (by decide) rfl (fun lz hl => ?_)
  have L2 : ∀ (zz i : Nat), i ≤ 6 → 6 + 1 ≤ i + zz → ∀ (f : Nat → Int32), f = xv_rw 26 i (fun _ => 0) v → ∀ (H : Heap) (locs : List Loc), va_P (dC, dI) vwCl [((mm 0), .inr (5, [.ref (mm 1), .ref (mm 2), .ref (mm 3), .ref (mm 4), .int kp, .ref (mm 5), .int ty, .int th, .int at0, .int fa, .ref (mm 6), .int ts, .ref (mm 7), .ref (mm 8), .ref (mm 9), .int fr])), ((mm 2), .inl (cI, 80, .inl f))] H → va_D A [((mm 0), .inr (5, [.ref (mm 1), .ref (mm 2), .ref (mm 3), .ref (mm 4), .int kp, .ref (mm 5), .int ty, .int th, .int at0, .int fa, .ref (mm 6), .int ts, .ref (mm 7), .ref (mm 8), .ref (mm 9), .int fr])), ((mm 2), .inl (cI, 80, .inl f))] → va_S A s.heap H locs → ∀ (lz : Array Slot), lv_has lz 2 [(0, .ref (mm 0)), (1, .int (nI i))] → W p l e (headSpec wsX5_noCredits ({ frames := 0, cells := 0, slots := 0, locals := 0 } : Room)).room s m ([.ref (mm 0)] : List Value).toArray below meth c H locs 0 0 (MQ below (va_Qv (fun (u : (Nat → Int32)) => u = xv_zc v) (xm_B (dC, dI) (fun (u : (Nat → Int32)) => [((mm 0), .inr (5, [.ref (mm 1), .ref (mm 2), .ref (mm 3), .ref (mm 4), .int kp, .ref (mm 5), .int ty, .int th, .int at0, .int fa, .ref (mm 6), .int ts, .ref (mm 7), .ref (mm 8), .ref (mm 9), .int fr])), ((mm 2), .inl (cI, 80, .inl u))]) A) A) ([.ref (mm 0)] : List Value).toArray s 0 0 A) (F0 m 2 lz []) := by
    intro zz
    induction zz with
    | zero => intro i hii hni; exact absurd hni (by omega)
    | succ zz ih2 =>
      intro i hii hni f e_f  H locs hP hD hS lz hl
      subst e_f
      refine lv_iload_n hx hb dX5_noCredits_2 rfl (lv_at hl 1 rfl) ?_
      refine lv_bipush (v := 6) hx hb dX5_noCredits_3 (by decide) ?_
      refine lv_icmp_ge (tgt := 24) hx hb dX5_noCredits_5 (by decide) (fun q5 => ?_) (fun q5 => ?_)
      · have hNi : 6 = i := (xm_end (N := 6) hii (by decide) q5).symm
        subst hNi
        obtain ⟨hP, hD⟩ := xm_cong hP hD 1 rfl (xv_zc v) (fun j hj => by unfold xv_zc xv_rw; rfl)
        have hP : va_P (dC, dI) vwCl [((mm 0), .inr (5, [.ref (mm 1), .ref (mm 2), .ref (mm 3), .ref (mm 4), .int kp, .ref (mm 5), .int ty, .int th, .int at0, .int fa, .ref (mm 6), .int ts, .ref (mm 7), .ref (mm 8), .ref (mm 9), .int fr])), ((mm 2), .inl (cI, 80, .inl (xv_zc v)))] H := hP
        have hD : va_D A [((mm 0), .inr (5, [.ref (mm 1), .ref (mm 2), .ref (mm 3), .ref (mm 4), .int kp, .ref (mm 5), .int ty, .int th, .int at0, .int fa, .ref (mm 6), .int ts, .ref (mm 7), .ref (mm 8), .ref (mm 9), .int fr])), ((mm 2), .inl (cI, 80, .inl (xv_zc v)))] := hD
        have hP9 : va_P (dC, dI) vwCl [((mm 0), .inr (5, [.ref (mm 1), .ref (mm 2), .ref (mm 3), .ref (mm 4), .int kp, .ref (mm 5), .int ty, .int th, .int at0, .int fa, .ref (mm 6), .int ts, .ref (mm 7), .ref (mm 8), .ref (mm 9), .int fr])), ((mm 2), .inl (cI, 80, .inl (xv_zc v)))] H := hP
        have hD9 : va_D A [((mm 0), .inr (5, [.ref (mm 1), .ref (mm 2), .ref (mm 3), .ref (mm 4), .int kp, .ref (mm 5), .int ty, .int th, .int at0, .int fa, .ref (mm 6), .int ts, .ref (mm 7), .ref (mm 8), .ref (mm 9), .int fr])), ((mm 2), .inl (cI, 80, .inl (xv_zc v)))] := hD
        exact W.vret hx hb hr (fun t ht hW => ⟨⟨xv_zc v, rfl, rfl, by rw [ht]; exact hP9, hD9⟩, hS.F ht⟩) hS.2.2 dX5_noCredits_24
      · have hlti : i < 6 := xm_lt (N := 6) hii (by decide) q5
        refine lv_aload_n hx hb dX5_noCredits_8 rfl (lv_at hl 0 rfl) ?_
        refine va_get (D := (dC, dI)) (ci := 5) (v := .ref (mm 2)) (C := RX5) (T := TX5) (N := 16) hx hb hts hin5 hown hK hP 0 rfl rfl 1 (by decide) (hts (.fieldLink RX5 13 "TurnDigitsModel" "now" "[I") (by decide +kernel)) (fun _ h9 => h9) rfl dX5_noCredits_9 ?_
        refine lv_bipush (v := 26) hx hb dX5_noCredits_12 (by decide) ?_
        refine lv_iload_n hx hb dX5_noCredits_14 rfl (lv_at hl 1 rfl) ?_
        refine lv_iadd hx hb dX5_noCredits_15 ?_
        refine xm_topi (y := nI (26 + i)) (nI_add 26 i) ?_
        refine lv_iconst (v := 0) hx hb dX5_noCredits_16 (by decide) ?_
        refine xm_iast (D := (dC, dI)) hx hb hK hP hD hS 1 0 (26 + i) rfl rfl (by decide) rfl (by omega) dX5_noCredits_17 (fun H locs hP hD hS => ?_)
        have hP : va_P (dC, dI) vwCl [((mm 0), .inr (5, [.ref (mm 1), .ref (mm 2), .ref (mm 3), .ref (mm 4), .int kp, .ref (mm 5), .int ty, .int th, .int at0, .int fa, .ref (mm 6), .int ts, .ref (mm 7), .ref (mm 8), .ref (mm 9), .int fr])), ((mm 2), .inl (cI, 80, .inl (upd (xv_rw 26 i (fun _ => 0) v) (26 + i) 0)))] H := hP
        have hD : va_D A [((mm 0), .inr (5, [.ref (mm 1), .ref (mm 2), .ref (mm 3), .ref (mm 4), .int kp, .ref (mm 5), .int ty, .int th, .int at0, .int fa, .ref (mm 6), .int ts, .ref (mm 7), .ref (mm 8), .ref (mm 9), .int fr])), ((mm 2), .inl (cI, 80, .inl (upd (xv_rw 26 i (fun _ => 0) v) (26 + i) 0)))] := hD
        refine lv_iinc (v := nI (i + 1)) (lv' := [(1, .int (nI (i + 1))), (0, .ref (mm 0))]) hx hb dX5_noCredits_18 hl (k := 1) rfl (nI_1 i) (by decide) rfl (fun lz hl => ?_)
        refine lv_goto (tgt := 2) hx hb dX5_noCredits_21 (by decide) ?_
        exact ih2 (i + 1) hlti (by omega) (upd (xv_rw 26 i (fun _ => 0) v) (26 + i) 0) (xv_rw_t rfl)  H locs hP hD hS lz (lv_sub hl [1, 0] rfl)
  exact L2 (6 + 1) 0 (by omega) (by omega) v (xv_rw_0 _ _ _).symm  s.heap [] hP hD hS lz (lv_sub hl [1, 0] rfl)

set_option maxHeartbeats 4000000 in
set_option maxRecDepth 100000 in
theorem c_X5_saves (l : Launch) (dC : Nat → ClassId) (dI : Nat → Nat → Nat) (cI cS cJ : ClassId) (tt : Nat → Nat) (sz : Nat) (mm : Nat → Nat) (ty : Int32) (th : Int32) (at0 : Int32) (fa : Int32) (ts : Int32) (fr : Int32) (z : Nat) (v : Nat → Int32) (pv : Nat → Int32) : Met l yX5_saves wsX5_saves ({ frames := 0, cells := 0, slots := 0, locals := 0 } : Room) (va_Pc [.ref (mm 0)] (xm_M (dC, dI) cI cS cJ tt [((mm 0), .inr (5, [.ref (mm 1), .ref (mm 2), .ref (mm 3), .ref (mm 4), .int (nI z), .ref (mm 5), .int ty, .int th, .int at0, .int fa, .ref (mm 6), .int ts, .ref (mm 7), .ref (mm 8), .ref (mm 9), .int fr])), ((mm 2), .inl (cI, 80, .inl v)), ((mm 4), .inl (cI, 480, .inl pv))] sz (z ≤ 6))) (va_Qv (fun (u : Int32 × (Nat → Int32)) => u.1 = nI (if z = 6 then 6 else z + 1) ∧ u.2 = mp_sv pv z v) (xm_B (dC, dI) (fun (u : Int32 × (Nat → Int32)) => [((mm 0), .inr (5, [.ref (mm 1), .ref (mm 2), .ref (mm 3), .ref (mm 4), .int u.1, .ref (mm 5), .int ty, .int th, .int at0, .int fa, .ref (mm 6), .int ts, .ref (mm 7), .ref (mm 8), .ref (mm 9), .int fr])), ((mm 2), .inl (cI, 80, .inl v)), ((mm 4), .inl (cI, 480, .inl u.2))]) (va_A [((mm 0), .inr (5, [.ref (mm 1), .ref (mm 2), .ref (mm 3), .ref (mm 4), .int (nI z), .ref (mm 5), .int ty, .int th, .int at0, .int fa, .ref (mm 6), .int ts, .ref (mm 7), .ref (mm 8), .ref (mm 9), .int fr])), ((mm 2), .inl (cI, 80, .inl v)), ((mm 4), .inl (cI, 480, .inl pv))] sz)) (va_A [((mm 0), .inr (5, [.ref (mm 1), .ref (mm 2), .ref (mm 3), .ref (mm 4), .int (nI z), .ref (mm 5), .int ty, .int th, .int at0, .int fa, .ref (mm 6), .int ts, .ref (mm 7), .ref (mm 8), .ref (mm 9), .int fr])), ((mm 2), .inl (cI, 80, .inl v)), ((mm 4), .inl (cI, 480, .inl pv))] sz)) 0 0 (va_A [((mm 0), .inr (5, [.ref (mm 1), .ref (mm 2), .ref (mm 3), .ref (mm 4), .int (nI z), .ref (mm 5), .int ty, .int th, .int at0, .int fa, .ref (mm 6), .int ts, .ref (mm 7), .ref (mm 8), .ref (mm 9), .int fr])), ((mm 2), .inl (cI, 80, .inl v)), ((mm 4), .inl (cI, 480, .inl pv))] sz) := by
  refine Met.ofW (cc := cX5_saves) (maxL := 2) (ret := none) (by decide) rfl ?_
  intro p e s m args below meth c s₁ B hml hv
  obtain ⟨rfl, hsz, hP, hE, hD0, hpre⟩ := hv
  have hx := B.exec
  have hb := B.bytes
  have hr := B.returns
  have hts := atoms_spec (ws := wsX5_saves) B.pre
  have hown : s.vm.findClass RX5 = some m.cls := findClass_of_methodNamed B.named
  have hlocks := B.notSynchronized
  have hK := hE.1
  subst hsz
  have hD := hD0.self (sz := s.heap.size)
  generalize hAe : va_A [((mm 0), .inr (5, [.ref (mm 1), .ref (mm 2), .ref (mm 3), .ref (mm 4), .int (nI z), .ref (mm 5), .int ty, .int th, .int at0, .int fa, .ref (mm 6), .int ts, .ref (mm 7), .ref (mm 8), .ref (mm 9), .int fr])), ((mm 2), .inl (cI, 80, .inl v)), ((mm 4), .inl (cI, 480, .inl pv))] s.heap.size = A at hD hE ⊢
  have hA : ∀ q : Nat, s.heap.size ≤ q → A q := fun q h => by rw [← hAe]; exact Or.inr h
  have hS : va_S A s.heap s.heap [] := va_S.rf
  have hP : va_P (dC, dI) vwCl [((mm 0), .inr (5, [.ref (mm 1), .ref (mm 2), .ref (mm 3), .ref (mm 4), .int (nI z), .ref (mm 5), .int ty, .int th, .int at0, .int fa, .ref (mm 6), .int ts, .ref (mm 7), .ref (mm 8), .ref (mm 9), .int fr])), ((mm 2), .inl (cI, 80, .inl v)), ((mm 4), .inl (cI, 480, .inl pv))] s.heap := hP
  have hin5 : ∀ w ∈ u_ws RX5 TX5 16, w ∈ wsX5_saves := by decide +kernel
  have hl := lv_entry [.ref (mm 0)] (n := 2) (Nat.le_of_ble_eq_true rfl)
  rw [lg_entry_eq]
  generalize (lg_sl [.ref (mm 0)] ++ List.replicate (2 - (lg_sl [.ref (mm 0)]).length) Slot.unset).toArray = lz at hl ⊢
  have hl : lv_has lz 2 [(0, .ref (mm 0))] := hl
  have J49 : ∀ (z1 : Nat) (p1 : Nat → Int32), (z1 < 6) → (z1 + 1 = (if z = 6 then 6 else z + 1)) → (mp_sv pv z v = xv_rw (80 * z1) 80 v p1) → ∀ (H : Heap) (locs : List Loc), va_P (dC, dI) vwCl [((mm 0), .inr (5, [.ref (mm 1), .ref (mm 2), .ref (mm 3), .ref (mm 4), .int (nI z1), .ref (mm 5), .int ty, .int th, .int at0, .int fa, .ref (mm 6), .int ts, .ref (mm 7), .ref (mm 8), .ref (mm 9), .int fr])), ((mm 2), .inl (cI, 80, .inl v)), ((mm 4), .inl (cI, 480, .inl p1))] H → va_D A [((mm 0), .inr (5, [.ref (mm 1), .ref (mm 2), .ref (mm 3), .ref (mm 4), .int (nI z1), .ref (mm 5), .int ty, .int th, .int at0, .int fa, .ref (mm 6), .int ts, .ref (mm 7), .ref (mm 8), .ref (mm 9), .int fr])), ((mm 2), .inl (cI, 80, .inl v)), ((mm 4), .inl (cI, 480, .inl p1))] → va_S A s.heap H locs → ∀ (lz : Array Slot), lv_has lz 2 [(0, .ref (mm 0))] → W p l e (headSpec wsX5_saves ({ frames := 0, cells := 0, slots := 0, locals := 0 } : Room)).room s m ([.ref (mm 0)] : List Value).toArray below meth c H locs 0 0 (MQ below (va_Qv (fun (u : Int32 × (Nat → Int32)) => u.1 = nI (if z = 6 then 6 else z + 1) ∧ u.2 = mp_sv pv z v) (xm_B (dC, dI) (fun (u : Int32 × (Nat → Int32)) => [((mm 0), .inr (5, [.ref (mm 1), .ref (mm 2), .ref (mm 3), .ref (mm 4), .int u.1, .ref (mm 5), .int ty, .int th, .int at0, .int fa, .ref (mm 6), .int ts, .ref (mm 7), .ref (mm 8), .ref (mm 9), .int fr])), ((mm 2), .inl (cI, 80, .inl v)), ((mm 4), .inl (cI, 480, .inl u.2))]) A) A) ([.ref (mm 0)] : List Value).toArray s 0 0 A) (F0 m 49 lz []) := by
    intro z1 p1 hz1 ez1 ep1 H locs hP hD hS lz hl
    refine lv_iconst (v := 0) hx hb dX5_saves_49 (by decide) ?_
    refine lv_istore_n (lv' := [(1, .int 0), (0, .ref (mm 0))]) hx hb dX5_saves_50 rfl hl (by decide) rfl (fun lz hl => ?_)
    have L51 : ∀ (zz i : Nat), i ≤ 80 → 80 + 1 ≤ i + zz → ∀ (f : Nat → Int32), f = xv_rw (80 * z1) i v p1 → ∀ (H : Heap) (locs : List Loc), va_P (dC, dI) vwCl [((mm 0), .inr (5, [.ref (mm 1), .ref (mm 2), .ref (mm 3), .ref (mm 4), .int (nI z1), .ref (mm 5), .int ty, .int th, .int at0, .int fa, .ref (mm 6), .int ts, .ref (mm 7), .ref (mm 8), .ref (mm 9), .int fr])), ((mm 2), .inl (cI, 80, .inl v)), ((mm 4), .inl (cI, 480, .inl f))] H → va_D A [((mm 0), .inr (5, [.ref (mm 1), .ref (mm 2), .ref (mm 3), .ref (mm 4), .int (nI z1), .ref (mm 5), .int ty, .int th, .int at0, .int fa, .ref (mm 6), .int ts, .ref (mm 7), .ref (mm 8), .ref (mm 9), .int fr])), ((mm 2), .inl (cI, 80, .inl v)), ((mm 4), .inl (cI, 480, .inl f))] → va_S A s.heap H locs → ∀ (lz : Array Slot), lv_has lz 2 [(0, .ref (mm 0)), (1, .int (nI i))] → W p l e (headSpec wsX5_saves ({ frames := 0, cells := 0, slots := 0, locals := 0 } : Room)).room s m ([.ref (mm 0)] : List Value).toArray below meth c H locs 0 0 (MQ below (va_Qv (fun (u : Int32 × (Nat → Int32)) => u.1 = nI (if z = 6 then 6 else z + 1) ∧ u.2 = mp_sv pv z v) (xm_B (dC, dI) (fun (u : Int32 × (Nat → Int32)) => [((mm 0), .inr (5, [.ref (mm 1), .ref (mm 2), .ref (mm 3), .ref (mm 4), .int u.1, .ref (mm 5), .int ty, .int th, .int at0, .int fa, .ref (mm 6), .int ts, .ref (mm 7), .ref (mm 8), .ref (mm 9), .int fr])), ((mm 2), .inl (cI, 80, .inl v)), ((mm 4), .inl (cI, 480, .inl u.2))]) A) A) ([.ref (mm 0)] : List Value).toArray s 0 0 A) (F0 m 51 lz []) := by
      intro zz
      induction zz with
      | zero => intro i hii hni; exact absurd hni (by omega)
      | succ zz ih51 =>
        intro i hii hni f e_f  H locs hP hD hS lz hl
        subst e_f
        refine lv_iload_n hx hb dX5_saves_51 rfl (lv_at hl 1 rfl) ?_
        refine lv_bipush (v := 80) hx hb dX5_saves_52 (by decide) ?_
        refine lv_icmp_ge (tgt := 83) hx hb dX5_saves_54 (by decide) (fun q54 => ?_) (fun q54 => ?_)
        · have hNi : 80 = i := (xm_end (N := 80) hii (by decide) q54).symm
          subst hNi
          refine lv_aload_n hx hb dX5_saves_83 rfl (lv_at hl 0 rfl) ?_
          refine lv_dup hx hb dX5_saves_84 rfl ?_
          refine va_get (D := (dC, dI)) (ci := 5) (v := .int (nI z1)) (C := RX5) (T := TX5) (N := 16) hx hb hts hin5 hown hK hP 0 rfl rfl 4 (by decide) (hts (.fieldLink RX5 45 "TurnDigitsModel" "kept" "I") (by decide +kernel)) (fun _ h9 => h9) rfl dX5_saves_85 ?_
          refine lv_iconst (v := 1) hx hb dX5_saves_88 (by decide) ?_
          refine lv_iadd hx hb dX5_saves_89 ?_
          refine xm_topi (y := (nI (z1 + 1))) (nI_1 z1) ?_
          refine va_put (D := (dC, dI)) (ci := 5) (v := .int (nI (z1 + 1))) (ty := .int) (C := RX5) (T := TX5) (N := 16) hx hb hts hin5 tyX5 tyX5_ok nmX5 hown hK hP hD hS 0 rfl rfl 4 (by decide) (hts (.fieldLink RX5 45 "TurnDigitsModel" "kept" "I") (by decide +kernel)) (fun _ h9 => h9) rfl (by decide +kernel) rfl rfl (Nat.le_of_ble_eq_true rfl) dX5_saves_90 (fun H locs hP hD hS => ?_)
          have hP : va_P (dC, dI) vwCl [((mm 0), .inr (5, [.ref (mm 1), .ref (mm 2), .ref (mm 3), .ref (mm 4), .int (nI (z1 + 1)), .ref (mm 5), .int ty, .int th, .int at0, .int fa, .ref (mm 6), .int ts, .ref (mm 7), .ref (mm 8), .ref (mm 9), .int fr])), ((mm 2), .inl (cI, 80, .inl v)), ((mm 4), .inl (cI, 480, .inl (xv_rw (80 * z1) 80 v p1)))] H := hP
          have hD : va_D A [((mm 0), .inr (5, [.ref (mm 1), .ref (mm 2), .ref (mm 3), .ref (mm 4), .int (nI (z1 + 1)), .ref (mm 5), .int ty, .int th, .int at0, .int fa, .ref (mm 6), .int ts, .ref (mm 7), .ref (mm 8), .ref (mm 9), .int fr])), ((mm 2), .inl (cI, 80, .inl v)), ((mm 4), .inl (cI, 480, .inl (xv_rw (80 * z1) 80 v p1)))] := hD
          have hP9 : va_P (dC, dI) vwCl [((mm 0), .inr (5, [.ref (mm 1), .ref (mm 2), .ref (mm 3), .ref (mm 4), .int (nI (z1 + 1)), .ref (mm 5), .int ty, .int th, .int at0, .int fa, .ref (mm 6), .int ts, .ref (mm 7), .ref (mm 8), .ref (mm 9), .int fr])), ((mm 2), .inl (cI, 80, .inl v)), ((mm 4), .inl (cI, 480, .inl (xv_rw (80 * z1) 80 v p1)))] H := hP
          have hD9 : va_D A [((mm 0), .inr (5, [.ref (mm 1), .ref (mm 2), .ref (mm 3), .ref (mm 4), .int (nI (z1 + 1)), .ref (mm 5), .int ty, .int th, .int at0, .int fa, .ref (mm 6), .int ts, .ref (mm 7), .ref (mm 8), .ref (mm 9), .int fr])), ((mm 2), .inl (cI, 80, .inl v)), ((mm 4), .inl (cI, 480, .inl (xv_rw (80 * z1) 80 v p1)))] := hD
          exact W.vret hx hb hr (fun t ht hW => ⟨⟨(nI (z1 + 1), (xv_rw (80 * z1) 80 v p1)), rfl, ⟨(by rw [ez1]), (by rw [ep1])⟩, by rw [ht]; exact hP9, hD9⟩, hS.F ht⟩) hS.2.2 dX5_saves_93
        · have hlti : i < 80 := xm_lt (N := 80) hii (by decide) q54
          refine lv_aload_n hx hb dX5_saves_57 rfl (lv_at hl 0 rfl) ?_
          refine va_get (D := (dC, dI)) (ci := 5) (v := .ref (mm 4)) (C := RX5) (T := TX5) (N := 16) hx hb hts hin5 hown hK hP 0 rfl rfl 3 (by decide) (hts (.fieldLink RX5 19 "TurnDigitsModel" "past" "[I") (by decide +kernel)) (fun _ h9 => h9) rfl dX5_saves_58 ?_
          refine lv_bipush (v := 80) hx hb dX5_saves_61 (by decide) ?_
          refine lv_aload_n hx hb dX5_saves_63 rfl (lv_at hl 0 rfl) ?_
          refine va_get (D := (dC, dI)) (ci := 5) (v := .int (nI z1)) (C := RX5) (T := TX5) (N := 16) hx hb hts hin5 hown hK hP 0 rfl rfl 4 (by decide) (hts (.fieldLink RX5 45 "TurnDigitsModel" "kept" "I") (by decide +kernel)) (fun _ h9 => h9) rfl dX5_saves_64 ?_
          refine lv_imul hx hb dX5_saves_67 ?_
          refine xm_topi (y := nI (80 * z1)) (pk_mul 80 z1) ?_
          refine lv_iload_n hx hb dX5_saves_68 rfl (lv_at hl 1 rfl) ?_
          refine lv_iadd hx hb dX5_saves_69 ?_
          refine xm_topi (y := nI (80 * z1 + i)) (nI_add (80 * z1) i) ?_
          refine lv_aload_n hx hb dX5_saves_70 rfl (lv_at hl 0 rfl) ?_
          refine va_get (D := (dC, dI)) (ci := 5) (v := .ref (mm 2)) (C := RX5) (T := TX5) (N := 16) hx hb hts hin5 hown hK hP 0 rfl rfl 1 (by decide) (hts (.fieldLink RX5 13 "TurnDigitsModel" "now" "[I") (by decide +kernel)) (fun _ h9 => h9) rfl dX5_saves_71 ?_
          refine lv_iload_n hx hb dX5_saves_74 rfl (lv_at hl 1 rfl) ?_
          refine xm_iald (D := (dC, dI)) hx hb hK hP 1 0 i (v := v i) rfl rfl (by decide) rfl (by omega) rfl dX5_saves_75 ?_
          refine xm_iast (D := (dC, dI)) hx hb hK hP hD hS 2 0 (80 * z1 + i) rfl rfl (by decide) rfl (by omega) dX5_saves_76 (fun H locs hP hD hS => ?_)
          have hP : va_P (dC, dI) vwCl [((mm 0), .inr (5, [.ref (mm 1), .ref (mm 2), .ref (mm 3), .ref (mm 4), .int (nI z1), .ref (mm 5), .int ty, .int th, .int at0, .int fa, .ref (mm 6), .int ts, .ref (mm 7), .ref (mm 8), .ref (mm 9), .int fr])), ((mm 2), .inl (cI, 80, .inl v)), ((mm 4), .inl (cI, 480, .inl (upd (xv_rw (80 * z1) i v p1) (80 * z1 + i) (v i))))] H := hP
          have hD : va_D A [((mm 0), .inr (5, [.ref (mm 1), .ref (mm 2), .ref (mm 3), .ref (mm 4), .int (nI z1), .ref (mm 5), .int ty, .int th, .int at0, .int fa, .ref (mm 6), .int ts, .ref (mm 7), .ref (mm 8), .ref (mm 9), .int fr])), ((mm 2), .inl (cI, 80, .inl v)), ((mm 4), .inl (cI, 480, .inl (upd (xv_rw (80 * z1) i v p1) (80 * z1 + i) (v i))))] := hD
          refine lv_iinc (v := nI (i + 1)) (lv' := [(1, .int (nI (i + 1))), (0, .ref (mm 0))]) hx hb dX5_saves_77 hl (k := 1) rfl (nI_1 i) (by decide) rfl (fun lz hl => ?_)
          refine lv_goto (tgt := 51) hx hb dX5_saves_80 (by decide) ?_
          exact ih51 (i + 1) hlti (by omega) (upd (xv_rw (80 * z1) i v p1) (80 * z1 + i) (v i)) (xv_rw_t rfl)  H locs hP hD hS lz (lv_sub hl [1, 0] rfl)
    exact L51 (80 + 1) 0 (by omega) (by omega) p1 (xv_rw_0 _ _ _).symm  H locs hP hD hS lz (lv_sub hl [1, 0] rfl)
  refine lv_aload_n hx hb dX5_saves_0 rfl (lv_at hl 0 rfl) ?_
  refine va_get (D := (dC, dI)) (ci := 5) (v := .int (nI z)) (C := RX5) (T := TX5) (N := 16) hx hb hts hin5 hown hK hP 0 rfl rfl 4 (by decide) (hts (.fieldLink RX5 45 "TurnDigitsModel" "kept" "I") (by decide +kernel)) (fun _ h9 => h9) rfl dX5_saves_1 ?_
  refine lv_bipush (v := 6) hx hb dX5_saves_4 (by decide) ?_
  refine lv_icmp_ne (tgt := 49) hx hb dX5_saves_6 (by decide) (fun q6 => ?_) (fun q6 => ?_)
  · have hz6n : ¬ z = 6 := fun h => q6 (by rw [h]; rfl)
    exact J49 z pv (by omega) (by rw [if_neg hz6n]) (by unfold mp_sv; rw [if_neg hz6n]) s.heap [] hP hD hS lz (lv_sub hl [0] rfl)
  · have hz6 : z = 6 := (nI_eq (a := z) (b := 6) (by omega) (by decide)).mp q6
    refine lv_iconst (v := 0) hx hb dX5_saves_9 (by decide) ?_
    refine lv_istore_n (lv' := [(1, .int 0), (0, .ref (mm 0))]) hx hb dX5_saves_10 rfl hl (by decide) rfl (fun lz hl => ?_)
    have L11 : ∀ (zz i : Nat), i ≤ 400 → 400 + 1 ≤ i + zz → ∀ (f : Nat → Int32), f = mp_sh pv i → ∀ (H : Heap) (locs : List Loc), va_P (dC, dI) vwCl [((mm 0), .inr (5, [.ref (mm 1), .ref (mm 2), .ref (mm 3), .ref (mm 4), .int (nI z), .ref (mm 5), .int ty, .int th, .int at0, .int fa, .ref (mm 6), .int ts, .ref (mm 7), .ref (mm 8), .ref (mm 9), .int fr])), ((mm 2), .inl (cI, 80, .inl v)), ((mm 4), .inl (cI, 480, .inl f))] H → va_D A [((mm 0), .inr (5, [.ref (mm 1), .ref (mm 2), .ref (mm 3), .ref (mm 4), .int (nI z), .ref (mm 5), .int ty, .int th, .int at0, .int fa, .ref (mm 6), .int ts, .ref (mm 7), .ref (mm 8), .ref (mm 9), .int fr])), ((mm 2), .inl (cI, 80, .inl v)), ((mm 4), .inl (cI, 480, .inl f))] → va_S A s.heap H locs → ∀ (lz : Array Slot), lv_has lz 2 [(0, .ref (mm 0)), (1, .int (nI i))] → W p l e (headSpec wsX5_saves ({ frames := 0, cells := 0, slots := 0, locals := 0 } : Room)).room s m ([.ref (mm 0)] : List Value).toArray below meth c H locs 0 0 (MQ below (va_Qv (fun (u : Int32 × (Nat → Int32)) => u.1 = nI (if z = 6 then 6 else z + 1) ∧ u.2 = mp_sv pv z v) (xm_B (dC, dI) (fun (u : Int32 × (Nat → Int32)) => [((mm 0), .inr (5, [.ref (mm 1), .ref (mm 2), .ref (mm 3), .ref (mm 4), .int u.1, .ref (mm 5), .int ty, .int th, .int at0, .int fa, .ref (mm 6), .int ts, .ref (mm 7), .ref (mm 8), .ref (mm 9), .int fr])), ((mm 2), .inl (cI, 80, .inl v)), ((mm 4), .inl (cI, 480, .inl u.2))]) A) A) ([.ref (mm 0)] : List Value).toArray s 0 0 A) (F0 m 11 lz []) := by
      intro zz
      induction zz with
      | zero => intro i hii hni; exact absurd hni (by omega)
      | succ zz ih11 =>
        intro i hii hni f e_f  H locs hP hD hS lz hl
        subst e_f
        refine lv_iload_n hx hb dX5_saves_11 rfl (lv_at hl 1 rfl) ?_
        refine lv_sipush (v := 400) hx hb dX5_saves_12 (by decide) ?_
        refine lv_icmp_ge (tgt := 39) hx hb dX5_saves_15 (by decide) (fun q15 => ?_) (fun q15 => ?_)
        · have hNi : 400 = i := (xm_end (N := 400) hii (by decide) q15).symm
          subst hNi
          refine lv_aload_n hx hb dX5_saves_39 rfl (lv_at hl 0 rfl) ?_
          refine lv_dup hx hb dX5_saves_40 rfl ?_
          refine va_get (D := (dC, dI)) (ci := 5) (v := .int (nI z)) (C := RX5) (T := TX5) (N := 16) hx hb hts hin5 hown hK hP 0 rfl rfl 4 (by decide) (hts (.fieldLink RX5 45 "TurnDigitsModel" "kept" "I") (by decide +kernel)) (fun _ h9 => h9) rfl dX5_saves_41 ?_
          refine lv_iconst (v := 1) hx hb dX5_saves_44 (by decide) ?_
          refine lv_isub hx hb dX5_saves_45 ?_
          refine xm_topi (y := (nI 5)) (by rw [hz6]; rfl) ?_
          refine va_put (D := (dC, dI)) (ci := 5) (v := .int (nI 5)) (ty := .int) (C := RX5) (T := TX5) (N := 16) hx hb hts hin5 tyX5 tyX5_ok nmX5 hown hK hP hD hS 0 rfl rfl 4 (by decide) (hts (.fieldLink RX5 45 "TurnDigitsModel" "kept" "I") (by decide +kernel)) (fun _ h9 => h9) rfl (by decide +kernel) rfl rfl (Nat.le_of_ble_eq_true rfl) dX5_saves_46 (fun H locs hP hD hS => ?_)
          have hP : va_P (dC, dI) vwCl [((mm 0), .inr (5, [.ref (mm 1), .ref (mm 2), .ref (mm 3), .ref (mm 4), .int (nI 5), .ref (mm 5), .int ty, .int th, .int at0, .int fa, .ref (mm 6), .int ts, .ref (mm 7), .ref (mm 8), .ref (mm 9), .int fr])), ((mm 2), .inl (cI, 80, .inl v)), ((mm 4), .inl (cI, 480, .inl (mp_sh pv 400)))] H := hP
          have hD : va_D A [((mm 0), .inr (5, [.ref (mm 1), .ref (mm 2), .ref (mm 3), .ref (mm 4), .int (nI 5), .ref (mm 5), .int ty, .int th, .int at0, .int fa, .ref (mm 6), .int ts, .ref (mm 7), .ref (mm 8), .ref (mm 9), .int fr])), ((mm 2), .inl (cI, 80, .inl v)), ((mm 4), .inl (cI, 480, .inl (mp_sh pv 400)))] := hD
          exact J49 5 (mp_sh pv 400) (by decide) (by rw [if_pos hz6]) (by unfold mp_sv; rw [if_pos hz6]) H locs hP hD hS lz (lv_sub hl [0] rfl)
        · have hlti : i < 400 := xm_lt (N := 400) hii (by decide) q15
          refine lv_aload_n hx hb dX5_saves_18 rfl (lv_at hl 0 rfl) ?_
          refine va_get (D := (dC, dI)) (ci := 5) (v := .ref (mm 4)) (C := RX5) (T := TX5) (N := 16) hx hb hts hin5 hown hK hP 0 rfl rfl 3 (by decide) (hts (.fieldLink RX5 19 "TurnDigitsModel" "past" "[I") (by decide +kernel)) (fun _ h9 => h9) rfl dX5_saves_19 ?_
          refine lv_iload_n hx hb dX5_saves_22 rfl (lv_at hl 1 rfl) ?_
          refine lv_aload_n hx hb dX5_saves_23 rfl (lv_at hl 0 rfl) ?_
          refine va_get (D := (dC, dI)) (ci := 5) (v := .ref (mm 4)) (C := RX5) (T := TX5) (N := 16) hx hb hts hin5 hown hK hP 0 rfl rfl 3 (by decide) (hts (.fieldLink RX5 19 "TurnDigitsModel" "past" "[I") (by decide +kernel)) (fun _ h9 => h9) rfl dX5_saves_24 ?_
          refine lv_iload_n hx hb dX5_saves_27 rfl (lv_at hl 1 rfl) ?_
          refine lv_bipush (v := 80) hx hb dX5_saves_28 (by decide) ?_
          refine lv_iadd hx hb dX5_saves_30 ?_
          refine xm_topi (y := nI (i + 80)) (nI_add i 80) ?_
          refine xm_iald (D := (dC, dI)) hx hb hK hP 2 0 (i + 80) (v := (mp_sh pv i) (i + 80)) rfl rfl (by decide) rfl (by omega) rfl dX5_saves_31 ?_
          refine xm_topi (y := (pv (i + 80))) (mp_sh_o (by omega)) ?_
          refine xm_iast (D := (dC, dI)) hx hb hK hP hD hS 2 0 i rfl rfl (by decide) rfl (by omega) dX5_saves_32 (fun H locs hP hD hS => ?_)
          have hP : va_P (dC, dI) vwCl [((mm 0), .inr (5, [.ref (mm 1), .ref (mm 2), .ref (mm 3), .ref (mm 4), .int (nI z), .ref (mm 5), .int ty, .int th, .int at0, .int fa, .ref (mm 6), .int ts, .ref (mm 7), .ref (mm 8), .ref (mm 9), .int fr])), ((mm 2), .inl (cI, 80, .inl v)), ((mm 4), .inl (cI, 480, .inl (upd (mp_sh pv i) i (pv (i + 80)))))] H := hP
          have hD : va_D A [((mm 0), .inr (5, [.ref (mm 1), .ref (mm 2), .ref (mm 3), .ref (mm 4), .int (nI z), .ref (mm 5), .int ty, .int th, .int at0, .int fa, .ref (mm 6), .int ts, .ref (mm 7), .ref (mm 8), .ref (mm 9), .int fr])), ((mm 2), .inl (cI, 80, .inl v)), ((mm 4), .inl (cI, 480, .inl (upd (mp_sh pv i) i (pv (i + 80)))))] := hD
          refine lv_iinc (v := nI (i + 1)) (lv' := [(1, .int (nI (i + 1))), (0, .ref (mm 0))]) hx hb dX5_saves_33 hl (k := 1) rfl (nI_1 i) (by decide) rfl (fun lz hl => ?_)
          refine lv_goto (tgt := 11) hx hb dX5_saves_36 (by decide) ?_
          exact ih11 (i + 1) hlti (by omega) (upd (mp_sh pv i) i (pv (i + 80))) rfl  H locs hP hD hS lz (lv_sub hl [1, 0] rfl)
    exact L11 (400 + 1) 0 (by omega) (by omega) pv rfl  s.heap [] hP hD hS lz (lv_sub hl [1, 0] rfl)

