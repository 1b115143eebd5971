/-! A slot that goes by, in the model. -/
def go_X (v : Nat → Int32) : Nat := (xv_X v).toNatClampNeg
def go_S (v : Nat → Int32) : Int32 := fm_shw (v (8 + go_X v)) (v (20 + go_X v))
def go_W (v : Nat → Int32) (i : Nat) : Nat → Int32 := fm_wow (go_S v) (go_X v) (fun j => v (38 + j)) i
def go_B (v : Nat → Int32) (i : Nat) : Int32 := fm_wob (go_S v) (v 6 * 100) (go_X v) (fun j => v (38 + j)) (v (20 + go_X v)) i
def go_N (v : Nat → Int32) (i : Nat) : Int32 := fm_won (go_S v) (v 6 * 100) (go_X v) (fun j => v (38 + j)) i
def go_O (v : Nat → Int32) : Int32 := fm_own (fun j => v (14 + j)) (fun j => v (26 + j)) 6
def go_3 (v : Nat → Int32) : Nat → Int32 := upd (upd (xv_rw 26 6 (fm_crd (fun j => v (14 + j)) (fun j => v (26 + j))) v) 7 (go_O v)) 0 (v 0 + 1)
def go_4 (v : Nat → Int32) : Nat → Int32 := upd (go_3 v) (32 + go_X v) (v (32 + go_X v) + 1)
def go_r (v : Nat → Int32) (i : Nat) : Nat → Int32 := upd (xv_rw 38 42 (go_W v i) (go_4 v)) (20 + go_X v) (go_B v i)
theorem go_3o {v : Nat → Int32} {j : Nat} (h : 0 < j ∧ ¬ j = 7 ∧ ¬ (26 ≤ j ∧ j < 32)) : go_3 v j = v j := by
  unfold go_3
  rw [pk_un (by omega), pk_un (by omega), xv_rw_o (by omega)]
theorem go_4o {v : Nat → Int32} {j : Nat} (h : 0 < j ∧ ¬ j = 7 ∧ ¬ (26 ≤ j ∧ j < 38)) (hx : go_X v < 6) : go_4 v j = v j := by
  unfold go_4
  rw [pk_un (by omega), go_3o (by omega)]
theorem go_ro {v : Nat → Int32} {i j : Nat} (h : 0 < j ∧ ¬ j = 7 ∧ j < 20) (hx : go_X v < 6) : go_r v i j = v j := by
  unfold go_r
  rw [pk_un (by omega), xv_rw_o (by omega), go_4o (by omega) hx]
theorem go_rw {v : Nat → Int32} {i k : Nat} (hk : k < 7) (hx : go_X v < 6) : go_r v i (38 + 7 * go_X v + k) = go_W v i (go_X v * 7 + k) := by
  unfold go_r
  rw [pk_un (by omega), show 38 + 7 * go_X v + k = 38 + (go_X v * 7 + k) by omega, xv_rw_i (by omega)]
theorem go_rb {v : Nat → Int32} {i : Nat} : go_r v i (20 + go_X v) = go_B v i := pk_us
theorem go_r0 {v : Nat → Int32} (hx : go_X v < 6) : go_4 v = go_r v 0 := by
  funext j
  show go_4 v j = if j = 20 + go_X v then v (20 + go_X v) else xv_rw 38 42 (fun j => v (38 + j)) (go_4 v) j
  by_cases e : j = 20 + go_X v
  · rw [if_pos e, e, go_4o (by omega) hx]
  · rw [if_neg e]
    by_cases z : 38 ≤ j ∧ j < 38 + 42
    · rw [go_4o (by omega) hx]
      unfold xv_rw
      rw [if_pos z]
      show v j = v (38 + (j - 38))
      congr 1; omega
    · rw [xv_rw_o z]
theorem go_no {v : Nat → Int32} {i : Nat} (q : ¬ fm_bit (go_S v) i = 1) : go_r v i = go_r v (i + 1) ∧ go_N v i = go_N v (i + 1) := by
  have e1 : go_W v (i + 1) = go_W v i := if_neg q
  have e2 : go_B v (i + 1) = go_B v i := if_neg q
  have e3 : go_N v (i + 1) = go_N v i := if_neg q
  unfold go_r
  rw [e1, e2, e3]
  exact ⟨rfl, rfl⟩
theorem go_yes {v : Nat → Int32} {i : Nat} {x : Int32} (hi : i < 7) (hx : go_X v < 6) (q : fm_bit (go_S v) i = 1) (e2 : x = go_B v (i + 1)) : upd (upd (go_r v i) (38 + 7 * go_X v + i) (go_W v i (go_X v * 7 + i) + 1)) (20 + go_X v) x = go_r v (i + 1) := by
  have e1 : go_W v (i + 1) = upd (go_W v i) (go_X v * 7 + i) (go_W v i (go_X v * 7 + i) + 1) := if_pos q
  funext j
  unfold go_r
  rw [e1, e2]
  generalize go_W v i (go_X v * 7 + i) + 1 = y
  show (if j = 20 + go_X v then go_B v (i + 1) else if j = 38 + 7 * go_X v + i then y else if j = 20 + go_X v then go_B v i else xv_rw 38 42 (go_W v i) (go_4 v) j) = if j = 20 + go_X v then go_B v (i + 1) else xv_rw 38 42 (upd (go_W v i) (go_X v * 7 + i) y) (go_4 v) j
  by_cases z : j = 20 + go_X v
  · rw [if_pos z, if_pos z]
  · rw [if_neg z, if_neg z, if_neg z]
    by_cases z2 : j = 38 + 7 * go_X v + i
    · rw [if_pos z2]
      unfold xv_rw
      rw [if_pos (by omega)]
      show y = if j - 38 = go_X v * 7 + i then y else _
      rw [if_pos (by omega)]
    · rw [if_neg z2]
      unfold xv_rw
      by_cases z3 : 38 ≤ j ∧ j < 38 + 42
      · rw [if_pos z3, if_pos z3]
        show _ = if j - 38 = go_X v * 7 + i then y else go_W v i (j - 38)
        rw [if_neg (by omega)]
      · rw [if_neg z3, if_neg z3]
theorem go_life {v : Nat → Int32} (h : ∃ y, y ≤ 99 ∧ v 6 = nI y) : v 6 * 100 ≤ 0 ↔ v 6 ≤ 0 := by
  obtain ⟨y, hy, e⟩ := h
  rw [e, show (100 : Int32) = nI 100 from rfl, pk_mul, show (0 : Int32) = nI 0 from rfl, nI_leI (by omega) (by decide), nI_leI (by omega) (by decide)]
  omega
theorem go_b0 {v : Nat → Int32} {i : Nat} (q : fm_bit (go_S v) i = 1) (h : v 6 * 100 ≤ 0 ∨ go_W v i (go_X v * 7 + i) + 1 < v 6 * 100) : go_B v i ||| 0 = go_B v (i + 1) ∧ go_N v i + 0 = go_N v (i + 1) := by
  have e2 : go_B v (i + 1) = if v 6 * 100 ≤ 0 then go_B v i else if go_W v i (go_X v * 7 + i) + 1 < v 6 * 100 then go_B v i else go_B v i ||| ((1 : Int32) <<< (nI i &&& 31)) := if_pos q
  have e3 : go_N v (i + 1) = if v 6 * 100 ≤ 0 then go_N v i else if go_W v i (go_X v * 7 + i) + 1 < v 6 * 100 then go_N v i else go_N v i + 1 := if_pos q
  rw [e2, e3]
  constructor
  · rw [Int32.or_zero]
    rcases h with h | h
    · rw [if_pos h]
    · split
      · rfl
      · rfl
  · rw [Int32.add_zero]
    rcases h with h | h
    · rw [if_pos h]
    · split
      · rfl
      · rfl
theorem go_b1 {v : Nat → Int32} {i : Nat} (q : fm_bit (go_S v) i = 1) (h1 : ¬ v 6 * 100 ≤ 0) (h2 : ¬ go_W v i (go_X v * 7 + i) + 1 < v 6 * 100) : go_B v i ||| ((1 : Int32) <<< (nI i &&& 31)) = go_B v (i + 1) ∧ go_N v i + 1 = go_N v (i + 1) := by
  have e2 : go_B v (i + 1) = if v 6 * 100 ≤ 0 then go_B v i else if go_W v i (go_X v * 7 + i) + 1 < v 6 * 100 then go_B v i else go_B v i ||| ((1 : Int32) <<< (nI i &&& 31)) := if_pos q
  have e3 : go_N v (i + 1) = if v 6 * 100 ≤ 0 then go_N v i else if go_W v i (go_X v * 7 + i) + 1 < v 6 * 100 then go_N v i else go_N v i + 1 := if_pos q
  rw [e2, e3, if_neg h1, if_neg h2, if_neg h1, if_neg h2]
  exact ⟨rfl, rfl⟩
theorem go_at {v : Nat → Int32} (h : ¬ xv_X v = -1) : xv_X v = nI (go_X v) ∧ go_X v < 6 := fm_lit_at (lv := fun j => v (14 + j)) (cr := fun j => v (26 + j)) h
/-- no digit lit -/
theorem go_e0 {v : Nat → Int32} (h : xv_X v = -1) : ∀ j, j < 80 → xv_slot v j = go_3 v j := by
  intro j _
  unfold xv_slot sl_we sl_ls sl_bu
  rw [if_pos h, if_pos h, if_pos h]
  unfold go_3
  show (if 38 ≤ j ∧ j < 38 + 42 then v (38 + (j - 38)) else if 32 ≤ j ∧ j < 32 + 6 then v (32 + (j - 32)) else if 26 ≤ j ∧ j < 26 + 6 then fm_crd (fun j => v (14 + j)) (fun j => v (26 + j)) (j - 26) else if 20 ≤ j ∧ j < 20 + 6 then v (20 + (j - 20)) else if j = 7 then go_O v else if j = 0 then v 0 + 1 else v j) = if j = 0 then v 0 + 1 else if j = 7 then go_O v else if 26 ≤ j ∧ j < 26 + 6 then fm_crd (fun j => v (14 + j)) (fun j => v (26 + j)) (j - 26) else v j
  (repeat' split) <;> first | rfl | (exfalso; omega) | (congr 1; omega)
theorem go_e1 {v : Nat → Int32} (h : ¬ xv_X v = -1) : ∀ j, j < 80 → xv_slot v j = go_r v 7 j := by
  intro j _
  have hx := (go_at h).2
  unfold xv_slot sl_we sl_ls sl_bu
  rw [if_neg h, if_neg h, if_neg h]
  unfold go_r go_4 go_3
  show (if 38 ≤ j ∧ j < 38 + 42 then go_W v 7 (j - 38) else if 32 ≤ j ∧ j < 32 + 6 then (if j - 32 = go_X v then v (32 + go_X v) + 1 else v (32 + (j - 32))) else if 26 ≤ j ∧ j < 26 + 6 then fm_crd (fun j => v (14 + j)) (fun j => v (26 + j)) (j - 26) else if 20 ≤ j ∧ j < 20 + 6 then (if j - 20 = go_X v then go_B v 7 else v (20 + (j - 20))) else if j = 7 then go_O v else if j = 0 then v 0 + 1 else v j) = if j = 20 + go_X v then go_B v 7 else if 38 ≤ j ∧ j < 38 + 42 then go_W v 7 (j - 38) else if j = 32 + go_X v then v (32 + go_X v) + 1 else if j = 0 then v 0 + 1 else if j = 7 then go_O v else if 26 ≤ j ∧ j < 26 + 6 then fm_crd (fun j => v (14 + j)) (fun j => v (26 + j)) (j - 26) else v j
  (repeat' split) <;> first | rfl | (exfalso; omega) | (congr 1; omega)
theorem go_n1 {v : Nat → Int32} (h : ¬ xv_X v = -1) : go_N v 7 = xv_sn v := (if_neg h).symm
theorem go_n0 {v : Nat → Int32} (h : xv_X v = -1) : 0 = xv_sn v := (if_pos h).symm
theorem xc_re_01 (co : Nat → Int32) (n : Nat) : xc_re co n = 0 ∨ xc_re co n = 1 := by
  unfold xc_re
  split
  · exact Or.inr rfl
  · split
    · exact Or.inr rfl
    · exact Or.inl rfl
/-- what the model says of a row that is stepped -/
def vo_b (v : Nat → Int32) : Prop := ∀ j, j < 6 → ∃ y, y < 128 ∧ v (20 + j) = nI y
def vo_s (v : Nat → Int32) : Prop := ∀ j, j < 6 → fm_ix (v (8 + j)) 12
def vo_l (v : Nat → Int32) : Prop := ∃ y, y ≤ 99 ∧ v 6 = nI y
def vo_t (v : Nat → Int32) : Prop := v 0 = 0 → v 7 = -1
