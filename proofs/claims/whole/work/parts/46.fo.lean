/-! The model's text: a part, and the whole, and what they have to do with the scan. -/
abbrev tq (co : Nat → Int32) (n a : Nat) (lo hi : Int32) : Prop := a < n ∧ xt_rg (co a) lo hi = 0
def pp_r1 (co : Nat → Int32) (n a : Nat) : Int32 := if tq co n (a + 1) 42 42 then (if tq co n (a + 1 + 1) 48 57 then 1 else 0) else 1
def pp_r (co : Nat → Int32) (n a : Nat) : Int32 := if tq co n a 48 57 then pp_r1 co n a else if tq co n a 45 45 then pp_r1 co n a else if tq co n a 95 95 then pp_r1 co n a else 0
def pp_a1 (co : Nat → Int32) (n a : Nat) : Nat := if tq co n (a + 1) 42 42 then (if tq co n (a + 1 + 1) 48 57 then (if co (a + 1 + 1) - 48 = 1 then (if tq co n (a + 1 + 1 + 1) 48 53 then a + 1 + 1 + 1 + 1 else a + 1 + 1 + 1) else a + 1 + 1 + 1) else a + 1 + 1) else a + 1
def pp_a (co : Nat → Int32) (n a : Nat) : Nat := if tq co n a 48 57 then pp_a1 co n a else if tq co n a 45 45 then pp_a1 co n a else if tq co n a 95 95 then pp_a1 co n a else a
def pp_g (co : Nat → Int32) (n a : Nat) : Int32 := if tq co n a 48 57 then co a - 48 else if tq co n a 45 45 then 10 else 11
def pp_l (co : Nat → Int32) (n a : Nat) : Int32 := if tq co n (a + 1) 42 42 then (if tq co n (a + 1 + 1) 48 57 then (if co (a + 1 + 1) - 48 = 1 then (if tq co n (a + 1 + 1 + 1) 48 53 then 10 + co (a + 1 + 1 + 1) - 48 else co (a + 1 + 1) - 48) else co (a + 1 + 1) - 48) else -1) else -1
def pp_t1 (co : Nat → Int32) (n a j : Nat) (tl : Nat → Int32) : Nat → Int32 := upd (upd tl (2 * j) (pp_g co n a)) (2 * j + 1) (pp_l co n a)
def pp_t (co : Nat → Int32) (n a j : Nat) (tl : Nat → Int32) : Nat → Int32 := if tq co n a 48 57 then pp_t1 co n a j tl else if tq co n a 45 45 then pp_t1 co n a j tl else if tq co n a 95 95 then pp_t1 co n a j tl else tl
def tp_r (co : Nat → Int32) (n : Nat) : Nat → Nat → Nat → Int32
  | 0, _, _ => 0
  | f + 1, j, a => if pp_r co n a = 0 then 0 else if j + 1 < 6 ∧ pp_a co n a < n then tp_r co n f (j + 1) (pp_a co n a) else if pp_a co n a = n then 1 else 0
def tp_a (co : Nat → Int32) (n : Nat) : Nat → Nat → Nat → Nat
  | 0, _, a => a
  | f + 1, j, a => if pp_r co n a = 0 then pp_a co n a else if j + 1 < 6 ∧ pp_a co n a < n then tp_a co n f (j + 1) (pp_a co n a) else pp_a co n a
def tp_j (co : Nat → Int32) (n : Nat) : Nat → Nat → Nat → Nat
  | 0, j, _ => j
  | f + 1, j, a => if pp_r co n a = 0 then j else if j + 1 < 6 ∧ pp_a co n a < n then tp_j co n f (j + 1) (pp_a co n a) else j + 1
def tp_t (co : Nat → Int32) (n : Nat) : Nat → Nat → Nat → (Nat → Int32) → (Nat → Int32)
  | 0, _, _, tl => tl
  | f + 1, j, a, tl => if pp_r co n a = 0 then pp_t co n a j tl else if j + 1 < 6 ∧ pp_a co n a < n then tp_t co n f (j + 1) (pp_a co n a) (pp_t co n a j tl) else pp_t co n a j tl
theorem pp_a_in {co : Nat → Int32} {n a : Nat} (h : a ≤ n) : pp_a co n a ≤ n := by
  have h1 : a < n → pp_a1 co n a ≤ n := by
    intro ha
    unfold pp_a1 tq
    (repeat' split) <;> omega
  unfold pp_a tq
  (repeat' split) <;> first | exact h | (rename_i q; exact h1 q.1) | (rename_i q _; exact h1 q.1)
/-! codes -/
theorem tc_le (x : Int32) (a b : Nat) (ha : a < 2 ^ 30) (hb : b < 2 ^ 30) : xt_rg x (nI a) (nI b) = 0 ↔ (a : Int) ≤ x.toInt ∧ x.toInt ≤ b := by
  unfold xt_rg
  by_cases q : x < nI a
  · rw [if_pos q]
    have := Int32.lt_iff_toInt_lt.mp q
    rw [nI_toInt (by omega)] at this
    constructor
    · intro h; exact absurd h (by decide)
    · intro h; omega
  · rw [if_neg q]
    have h1 := Int32.le_iff_toInt_le.mp (Int32.not_lt.mp q)
    rw [nI_toInt (by omega)] at h1
    by_cases q2 : x ≤ nI b
    · rw [if_pos q2]
      have := Int32.le_iff_toInt_le.mp q2
      rw [nI_toInt (by omega)] at this
      exact ⟨fun _ => ⟨h1, this⟩, fun _ => rfl⟩
    · rw [if_neg q2]
      have := Int32.lt_iff_toInt_lt.mp (Int32.not_le.mp q2)
      rw [nI_toInt (by omega)] at this
      constructor
      · intro h; exact absurd h (by decide)
      · intro h; omega
theorem tc_lt (x : Int32) (a : Nat) (ha : a < 2 ^ 30) : x < nI a ↔ x.toInt < a := by rw [Int32.lt_iff_toInt_lt, nI_toInt (by omega)]
theorem tc_gt (x : Int32) (a : Nat) (ha : a < 2 ^ 30) : nI a < x ↔ (a : Int) < x.toInt := by rw [Int32.lt_iff_toInt_lt, nI_toInt (by omega)]
theorem tc_l2 (x : Int32) (a : Nat) (ha : a < 2 ^ 30) : x ≤ nI a ↔ x.toInt ≤ a := by rw [Int32.le_iff_toInt_le, nI_toInt (by omega)]
theorem tc_eq (x : Int32) (a : Nat) (ha : a < 2 ^ 30) : x = nI a ↔ x.toInt = a := by
  constructor
  · intro h; rw [h, nI_toInt (by omega)]
  · intro h; exact Int32.toInt.inj (by rw [h, nI_toInt (by omega)])
theorem tc_fig (x : Int32) : xt_rg x 48 57 = 0 ↔ 48 ≤ x.toInt ∧ x.toInt ≤ 57 := tc_le x 48 57 (by decide) (by decide)
theorem tc_53 (x : Int32) : xt_rg x 48 53 = 0 ↔ 48 ≤ x.toInt ∧ x.toInt ≤ 53 := tc_le x 48 53 (by decide) (by decide)
theorem tc_45 (x : Int32) : xt_rg x 45 45 = 0 ↔ x.toInt = 45 := by rw [show xt_rg x 45 45 = 0 ↔ _ from tc_le x 45 45 (by decide) (by decide)]; omega
theorem tc_95 (x : Int32) : xt_rg x 95 95 = 0 ↔ x.toInt = 95 := by rw [show xt_rg x 95 95 = 0 ↔ _ from tc_le x 95 95 (by decide) (by decide)]; omega
theorem tc_42 (x : Int32) : xt_rg x 42 42 = 0 ↔ x.toInt = 42 := by rw [show xt_rg x 42 42 = 0 ↔ _ from tc_le x 42 42 (by decide) (by decide)]; omega
/-- a sign's code -/
theorem tc_so (x : Int32) : tx_so x = if xt_rg x 48 57 = 0 then x - 48 else if xt_rg x 45 45 = 0 then 10 else if xt_rg x 95 95 = 0 then 11 else -1 := by
  have e1 : x < 48 ↔ x.toInt < 48 := tc_lt x 48 (by decide)
  have e2 : 57 < x ↔ 57 < x.toInt := tc_gt x 57 (by decide)
  have e3 : x = 45 ↔ x.toInt = 45 := tc_eq x 45 (by decide)
  have e4 : x = 95 ↔ x.toInt = 95 := tc_eq x 95 (by decide)
  unfold tx_so
  simp only [tc_fig, tc_45, tc_95, e1, e2, e3, e4]
  (repeat' split) <;> first | rfl | (exfalso; omega)
theorem tc_fig_n (x : Int32) (h : xt_rg x 48 57 = 0) : ∃ y, y < 10 ∧ x = nI (48 + y) ∧ x - 48 = nI y := by
  have h2 := (tc_fig x).mp h
  refine ⟨(x.toInt - 48).toNat, by omega, ?_, ?_⟩
  · exact Int32.toInt.inj (by rw [nI_toInt (by omega)]; omega)
  · have e : x = nI (48 + (x.toInt - 48).toNat) := Int32.toInt.inj (by rw [nI_toInt (by omega)]; omega)
    have e2 : x - 48 = nI (48 + (x.toInt - 48).toNat) - nI 48 := by rw [← e]; rfl
    rw [e2, pk_sub (by omega), Nat.add_sub_cancel_left]
/-- the scan stands between two parts, j of them behind it -/
def tb_ok (co : Nat → Int32) (n a j : Nat) : Prop := (sc_ap co a).1 = j ∧ ¬ (sc_ap co a).2 = 2 ∧ ((sc_ap co a).2 = 0 ↔ j = 0) ∧ (a < n → (sc_ap co a).2 = 1 → ¬ co a = 42) ∧ (a < n → (sc_ap co a).2 = 3 → ¬ xt_rg (co a) 48 53 = 0) ∧ ∀ i, i < a → ¬ tx_r (co i) (sc_ap co i).1 (sc_ap co i).2 = 0
theorem tx_by_s {α : Type} {c pl : Int32} {lev two star sgn : α} (h2 : ¬ pl = 2) (h1 : pl = 1 → ¬ c = 42) (h3 : pl = 3 → ¬ xt_rg c 48 53 = 0) : tx_by c pl lev two star sgn = sgn := by
  have e1 : c < 48 ↔ c.toInt < 48 := tc_lt c 48 (by decide)
  have e2 : 53 < c ↔ 53 < c.toInt := tc_gt c 53 (by decide)
  have h3' : pl = 3 → ¬ (48 ≤ c.toInt ∧ c.toInt ≤ 53) := fun q z => h3 q ((tc_53 c).mpr z)
  unfold tx_by
  rw [if_neg h2]
  simp only [e1, e2]
  (repeat' split) <;> first | rfl | (exfalso; rename_i q1 q2; exact h1 q1 q2) | (exfalso; rename_i q1 q2 q3; exact h3' q1 (by omega)) | (exfalso; rename_i q1 _ q2 q3; exact h1 q2 q3) | (exfalso; omega)
theorem tx_by_2 {α : Type} {c : Int32} {lev two star sgn : α} : tx_by c 2 lev two star sgn = lev := if_pos rfl
theorem tx_by_st {α : Type} {lev two star sgn : α} : tx_by 42 1 lev two star sgn = star := by
  unfold tx_by
  rw [if_neg (show ¬ (1 : Int32) = 2 by decide), if_neg (show ¬ (1 : Int32) = 3 by decide), if_pos rfl, if_pos rfl]
theorem tx_by_3 {α : Type} {c : Int32} {lev two star sgn : α} (h : xt_rg c 48 53 = 0) : tx_by c 3 lev two star sgn = two := by
  have e1 : c < 48 ↔ c.toInt < 48 := tc_lt c 48 (by decide)
  have e2 : 53 < c ↔ 53 < c.toInt := tc_gt c 53 (by decide)
  have h3 := (tc_53 c).mp h
  unfold tx_by
  rw [if_neg (show ¬ (3 : Int32) = 2 by decide), if_pos rfl, if_neg (by rw [e1]; omega), if_neg (by rw [e2]; omega)]
/-- the state behind a code -/
theorem sc_s1 (co : Nat → Int32) (k : Nat) : sc_ap co (k + 1) = (tx_a (co k) (sc_ap co k).1 (sc_ap co k).2, tx_p (co k) (sc_ap co k).1 (sc_ap co k).2) := rfl
/-- where the scan goes on -/
theorem sc_reach {co : Nat → Int32} {n : Nat} : ∀ {a : Nat}, a ≤ n → (∀ i, i < a → ¬ tx_r (co i) (sc_ap co i).1 (sc_ap co i).2 = 0) → sc_to co n 0 = sc_to co (n - a) a
  | 0, _, _ => rfl
  | a + 1, h, ht => by
    rw [sc_reach (a := a) (by omega) (fun i hi => ht i (by omega)), sc_to_s (by omega), if_neg (ht a (by omega))]
theorem sc_stop {co : Nat → Int32} {n a : Nat} (h : a < n) (hr : tx_r (co a) (sc_ap co a).1 (sc_ap co a).2 = 0) (ht : ∀ i, i < a → ¬ tx_r (co i) (sc_ap co i).1 (sc_ap co i).2 = 0) : sc_to co n 0 = a := by
  rw [sc_reach (by omega) ht, sc_to_s h, if_pos hr]
theorem sc_end {co : Nat → Int32} {n : Nat} (ht : ∀ i, i < n → ¬ tx_r (co i) (sc_ap co i).1 (sc_ap co i).2 = 0) : sc_to co n 0 = n := by
  rw [sc_reach (Nat.le_refl n) ht, Nat.sub_self]
  rfl
/-- a sign, taken -/
theorem ts_sgn {co : Nat → Int32} {n a j : Nat} (hB : tb_ok co n a j) (ha : a < n) (hj : j < 6) (hs : ¬ tx_so (co a) = -1) : sc_ap co (a + 1) = (j + 1, 1) ∧ ¬ tx_r (co a) (sc_ap co a).1 (sc_ap co a).2 = 0 ∧ (∀ sg, sc_s co sg (a + 1) = upd (sc_s co sg a) j (tx_so (co a))) ∧ ∀ lv, sc_l co lv (a + 1) = upd (sc_l co lv a) j (-1) := by
  obtain ⟨h1, h2, -, h4, h5, -⟩ := hB
  have k := fun (α : Type) (a1 a2 a3 a4 : α) => tx_by_s (c := co a) (pl := (sc_ap co a).2) (lev := a1) (two := a2) (star := a3) (sgn := a4) h2 (h4 ha) (h5 ha)
  have hn : nI (sc_ap co a).1 < 6 := by rw [h1]; exact (nI_ltI (a := j) (b := 6) (by omega) (by decide)).mpr hj
  refine ⟨?_, ?_, fun sg => ?_, fun lv => ?_⟩
  · rw [sc_s1]
    unfold tx_a tx_p
    rw [k, k]
    unfold tx_sa tx_sp
    rw [if_neg hs, if_pos hn, if_neg hs, if_pos hn, h1]
  · unfold tx_r
    rw [k]
    unfold tx_sr
    rw [if_neg hs, if_pos hn]
    decide
  · show tx_s (co a) (sc_ap co a).1 (sc_ap co a).2 (sc_s co sg a) = _
    unfold tx_s
    rw [k]
    unfold tx_ss
    rw [if_neg hs, if_pos hn, h1]
  · show tx_l (co a) (sc_ap co a).1 (sc_ap co a).2 (sc_l co lv a) = _
    unfold tx_l
    rw [k]
    unfold tx_sl
    rw [if_neg hs, if_pos hn, h1]
/-- no sign, or no room: it stops there -/
theorem ts_no {co : Nat → Int32} {n a j : Nat} (hB : tb_ok co n a j) (ha : a < n) (hs : tx_so (co a) = -1 ∨ j = 6) : sc_to co n 0 = a := by
  obtain ⟨h1, h2, -, h4, h5, h6⟩ := hB
  refine sc_stop ha ?_ h6
  unfold tx_r
  rw [tx_by_s h2 (h4 ha) (h5 ha)]
  unfold tx_sr
  rcases hs with h | h
  · rw [if_pos h]
  · split
    · rfl
    · rw [h1, h]
      exact if_neg (by decide)
/-- the star -/
theorem ts_star {co : Nat → Int32} {a j : Nat} (h : sc_ap co a = (j, 1)) (hc : co a = 42) : sc_ap co (a + 1) = (j, 2) ∧ ¬ tx_r (co a) (sc_ap co a).1 (sc_ap co a).2 = 0 ∧ (∀ sg, sc_s co sg (a + 1) = sc_s co sg a) ∧ ∀ lv, sc_l co lv (a + 1) = sc_l co lv a := by
  refine ⟨?_, ?_, fun sg => ?_, fun lv => ?_⟩
  · rw [sc_s1, h, hc]
    unfold tx_a tx_p
    rw [tx_by_st, tx_by_st]
  · rw [h, hc]
    unfold tx_r
    rw [tx_by_st]
    decide
  · show tx_s (co a) (sc_ap co a).1 (sc_ap co a).2 (sc_s co sg a) = _
    rw [h, hc]
    unfold tx_s
    exact tx_by_st
  · show tx_l (co a) (sc_ap co a).1 (sc_ap co a).2 (sc_l co lv a) = _
    rw [h, hc]
    unfold tx_l
    exact tx_by_st
theorem tx_tl_s {j : Nat} {x : Int32} {lv : Nat → Int32} (hj : j < 6) : tx_tl (j + 1) x lv = upd lv j x := by
  unfold tx_tl
  rw [if_neg (nI_nle (by omega) (by omega)), Nat.add_sub_cancel]
/-- a level's first figure -/
theorem ts_fig {co : Nat → Int32} {a j : Nat} (h : sc_ap co a = (j + 1, 2)) (hj : j < 6) (hc : xt_rg (co a) 48 57 = 0) : sc_ap co (a + 1) = (j + 1, if co a = 49 then 3 else 4) ∧ ¬ tx_r (co a) (sc_ap co a).1 (sc_ap co a).2 = 0 ∧ (∀ sg, sc_s co sg (a + 1) = sc_s co sg a) ∧ ∀ lv, sc_l co lv (a + 1) = upd (sc_l co lv a) j (co a - 48) := by
  have h2 := (tc_fig (co a)).mp hc
  have e1 : ¬ co a < 48 := by rw [show co a < 48 ↔ _ from tc_lt (co a) 48 (by decide)]; omega
  have e2 : co a ≤ 57 := (tc_l2 (co a) 57 (by decide)).mpr h2.2
  refine ⟨?_, ?_, fun sg => ?_, fun lv => ?_⟩
  · rw [sc_s1, h]
    unfold tx_a tx_p
    rw [tx_by_2, tx_by_2]
    unfold tx_lp
    rw [if_neg e1, if_pos e2]
  · rw [h]
    unfold tx_r
    rw [tx_by_2]
    unfold tx_lr
    rw [if_neg e1, if_pos e2]
    decide
  · show tx_s (co a) (sc_ap co a).1 (sc_ap co a).2 (sc_s co sg a) = _
    rw [h]
    exact tx_by_2
  · show tx_l (co a) (sc_ap co a).1 (sc_ap co a).2 (sc_l co lv a) = _
    rw [h]
    unfold tx_l
    rw [tx_by_2]
    unfold tx_ll
    rw [if_neg e1, if_pos e2, tx_tl_s hj]
theorem ts_nofig {co : Nat → Int32} {n a j : Nat} (h : sc_ap co a = (j, 2)) (ha : a < n) (hc : ¬ xt_rg (co a) 48 57 = 0) (ht : ∀ i, i < a → ¬ tx_r (co i) (sc_ap co i).1 (sc_ap co i).2 = 0) : sc_to co n 0 = a := by
  have h2 : ¬ (48 ≤ (co a).toInt ∧ (co a).toInt ≤ 57) := fun q => hc ((tc_fig (co a)).mpr q)
  refine sc_stop ha ?_ ht
  rw [h]
  unfold tx_r
  rw [tx_by_2]
  unfold tx_lr
  have e1 : co a < 48 ↔ (co a).toInt < 48 := tc_lt (co a) 48 (by decide)
  have e2 : co a ≤ 57 ↔ (co a).toInt ≤ 57 := tc_l2 (co a) 57 (by decide)
  split
  · rfl
  · split
    · rename_i q1 q2
      exact absurd ⟨by rw [e1] at q1; omega, e2.mp q2⟩ h2
    · rfl
/-- its second figure -/
theorem ts_two {co : Nat → Int32} {a j : Nat} (h : sc_ap co a = (j + 1, 3)) (hj : j < 6) (hc : xt_rg (co a) 48 53 = 0) : sc_ap co (a + 1) = (j + 1, 4) ∧ ¬ tx_r (co a) (sc_ap co a).1 (sc_ap co a).2 = 0 ∧ (∀ sg, sc_s co sg (a + 1) = sc_s co sg a) ∧ ∀ lv, sc_l co lv (a + 1) = upd (sc_l co lv a) j (10 + co a - 48) := by
  refine ⟨?_, ?_, fun sg => ?_, fun lv => ?_⟩
  · rw [sc_s1, h]
    unfold tx_a tx_p
    rw [tx_by_3 hc, tx_by_3 hc]
  · rw [h]
    unfold tx_r
    rw [tx_by_3 hc]
    decide
  · show tx_s (co a) (sc_ap co a).1 (sc_ap co a).2 (sc_s co sg a) = _
    rw [h]
    exact tx_by_3 hc
  · show tx_l (co a) (sc_ap co a).1 (sc_ap co a).2 (sc_l co lv a) = _
    rw [h]
    unfold tx_l
    rw [tx_by_3 hc, tx_tl_s hj]
/-- what was told of the parts -/
def tb_t (co : Nat → Int32) (a j : Nat) (tl : Nat → Int32) : Prop := ∀ k, k < j → (∀ sg, tl (2 * k) = sc_s co sg a k) ∧ ∀ lv, tl (2 * k + 1) = sc_l co lv a k
theorem tb_step {co : Nat → Int32} {a a' j : Nat} {tl : Nat → Int32} {s x : Int32} (h : tb_t co a j tl) (hs : ∀ sg, sc_s co sg a' = upd (sc_s co sg a) j s) (hl : ∀ lv, ∀ k, sc_l co lv a' k = if k = j then x else sc_l co lv a k) : tb_t co a' (j + 1) (upd (upd tl (2 * j) s) (2 * j + 1) x) := by
  intro k hk
  by_cases e : k = j
  · subst e
    refine ⟨fun sg => ?_, fun lv => ?_⟩
    · rw [hs, pk_un (by omega), pk_us, pk_us]
    · rw [hl, if_pos rfl, pk_us]
  · obtain ⟨h1, h2⟩ := h k (by omega)
    refine ⟨fun sg => ?_, fun lv => ?_⟩
    · rw [hs, pk_un (by omega), pk_un (by omega), pk_un e]
      exact h1 sg
    · rw [hl, if_neg e, pk_un (by omega), pk_un (by omega)]
      exact h2 lv
/-- a part: its end, its answer -/
theorem tp_part {co : Nat → Int32} {n a j : Nat} {tl : Nat → Int32} (hB : tb_ok co n a j) (ha : a ≤ n) (hj : j < 6) (ht : tb_t co a j tl) :
    (pp_r co n a = 0 ∧ sc_to co n 0 = pp_a co n a ∧ (pp_a co n a = n → (sc_ap co n).2 = 2 ∨ (a = n ∧ (sc_ap co n).2 = (sc_ap co a).2))) ∨ (pp_r co n a = 1 ∧ a < pp_a co n a ∧ pp_a co n a ≤ n ∧ tb_ok co n (pp_a co n a) (j + 1) ∧ tb_t co (pp_a co n a) (j + 1) (pp_t co n a j tl)) := by
  by_cases hs : a < n ∧ ¬ tx_so (co a) = -1
  · obtain ⟨han, hso⟩ := hs
    have er : pp_r co n a = pp_r1 co n a ∧ pp_a co n a = pp_a1 co n a ∧ pp_t co n a j tl = pp_t1 co n a j tl ∧ pp_g co n a = tx_so (co a) := by
      have e := tc_so (co a)
      unfold pp_r pp_a pp_t pp_g tq
      simp only [han, true_and]
      rw [e]
      rw [e] at hso
      by_cases z1 : xt_rg (co a) 48 57 = 0
      · simp only [z1, if_true, and_self]
      · by_cases z2 : xt_rg (co a) 45 45 = 0
        · simp only [z1, z2, if_true, if_false, and_self]
        · by_cases z3 : xt_rg (co a) 95 95 = 0
          · simp only [z1, z2, z3, if_true, if_false, and_self]
          · rw [if_neg z1, if_neg z2, if_neg z3] at hso
            exact absurd rfl hso
    obtain ⟨er1, er2, er3, er4⟩ := er
    obtain ⟨s1, s2, s3, s4⟩ := ts_sgn hB han hj hso
    have hk1 : ∀ i, i < a + 1 → ¬ tx_r (co i) (sc_ap co i).1 (sc_ap co i).2 = 0 := fun i hi => by
      rcases Nat.lt_or_ge i a with h | h
      · exact hB.2.2.2.2.2 i h
      · rw [show i = a by omega]; exact s2
    rw [er1, er2, er3]
    unfold pp_r1 pp_a1 pp_t1 pp_l tq
    rw [er4]
    by_cases z1 : a + 1 < n ∧ xt_rg (co (a + 1)) 42 42 = 0
    · have c42 : co (a + 1) = 42 := (tc_eq (co (a + 1)) 42 (by decide)).mpr ((tc_42 _).mp z1.2)
      obtain ⟨t1, t2, t3, t4⟩ := ts_star s1 c42
      have hk2 : ∀ i, i < a + 1 + 1 → ¬ tx_r (co i) (sc_ap co i).1 (sc_ap co i).2 = 0 := fun i hi => by
        rcases Nat.lt_or_ge i (a + 1) with h | h
        · exact hk1 i h
        · rw [show i = a + 1 by omega]; exact t2
      rw [if_pos z1, if_pos z1, if_pos z1]
      by_cases z2 : a + 1 + 1 < n ∧ xt_rg (co (a + 1 + 1)) 48 57 = 0
      · right
        obtain ⟨u1, u2, u3, u4⟩ := ts_fig t1 hj z2.2
        have hk3 : ∀ i, i < a + 1 + 1 + 1 → ¬ tx_r (co i) (sc_ap co i).1 (sc_ap co i).2 = 0 := fun i hi => by
          rcases Nat.lt_or_ge i (a + 1 + 1) with h | h
          · exact hk2 i h
          · rw [show i = a + 1 + 1 by omega]; exact u2
        rw [if_pos z2, if_pos z2, if_pos z2]
        have e49 : co (a + 1 + 1) - 48 = 1 ↔ co (a + 1 + 1) = 49 := by
          obtain ⟨y, hy, e1, e2⟩ := tc_fig_n _ z2.2
          rw [e2, e1]
          rw [show (1 : Int32) = nI 1 from rfl, show (49 : Int32) = nI 49 from rfl, nI_eq (by omega) (by decide), nI_eq (by omega) (by decide)]
          omega
        have hl3 : ∀ lv : Nat → Int32, ∀ k, sc_l co lv (a + 1 + 1 + 1) k = if k = j then co (a + 1 + 1) - 48 else sc_l co lv a k := fun lv k => by
          rw [u4, t4, s4]
          unfold upd
          by_cases e : k = j
          · rw [if_pos e, if_pos e]
          · rw [if_neg e, if_neg e, if_neg e]
        have hs3 : ∀ sg, sc_s co sg (a + 1 + 1 + 1) = upd (sc_s co sg a) j (tx_so (co a)) := fun sg => by rw [u3, t3, s3]
        have hB3 : ∀ (_ : ¬ (co (a + 1 + 1) - 48 = 1 ∧ (a + 1 + 1 + 1 < n ∧ xt_rg (co (a + 1 + 1 + 1)) 48 53 = 0))), tb_ok co n (a + 1 + 1 + 1) (j + 1) := fun hno => by
          refine ⟨by rw [u1], ?_, ?_, ?_, ?_, hk3⟩
          · rw [u1]; show ¬ (if co (a + 1 + 1) = 49 then (3 : Int32) else 4) = 2
            split <;> decide
          · rw [u1]
            constructor
            · intro h
              exfalso
              revert h
              show ¬ (if co (a + 1 + 1) = 49 then (3 : Int32) else 4) = 0
              split <;> decide
            · intro h; omega
          · intro _ h
            exfalso
            rw [u1] at h
            revert h
            show ¬ (if co (a + 1 + 1) = 49 then (3 : Int32) else 4) = 1
            split <;> decide
          · intro hlt h
            rw [u1] at h
            have h49 : co (a + 1 + 1) = 49 := by
              by_cases e : co (a + 1 + 1) = 49
              · exact e
              · exfalso
                have h' : (if co (a + 1 + 1) = 49 then (3 : Int32) else 4) = 3 := h
                rw [if_neg e] at h'
                exact absurd h' (by decide)
            exact fun q => hno ⟨e49.mpr h49, hlt, q⟩
        by_cases z3 : co (a + 1 + 1) - 48 = 1
        · rw [if_pos z3, if_pos z3]
          by_cases z4 : a + 1 + 1 + 1 < n ∧ xt_rg (co (a + 1 + 1 + 1)) 48 53 = 0
          · rw [if_pos z4, if_pos z4]
            have u1' : sc_ap co (a + 1 + 1 + 1) = (j + 1, 3) := by rw [u1, if_pos (e49.mp z3)]
            obtain ⟨w1, w2, w3, w4⟩ := ts_two u1' hj z4.2
            refine ⟨rfl, by omega, by omega, ⟨by rw [w1], by rw [w1]; show ¬ (4 : Int32) = 2; decide, ?_, ?_, ?_, ?_⟩, tb_step ht (fun sg => by rw [w3, hs3]) (fun lv k => ?_)⟩
            · rw [w1]
              constructor
              · intro h; exact absurd (show (4 : Int32) = 0 from h) (by decide)
              · intro h; omega
            · intro _ h; rw [w1] at h; exact absurd (show (4 : Int32) = 1 from h) (by decide)
            · intro _ h; rw [w1] at h; exact absurd (show (4 : Int32) = 3 from h) (by decide)
            · intro i hi
              rcases Nat.lt_or_ge i (a + 1 + 1 + 1) with h | h
              · exact hk3 i h
              · rw [show i = a + 1 + 1 + 1 by omega]; exact w2
            · rw [w4]
              unfold upd
              by_cases e : k = j
              · rw [if_pos e, if_pos e]
              · rw [if_neg e, if_neg e, hl3, if_neg e]
          · rw [if_neg z4, if_neg z4]
            exact ⟨rfl, by omega, by omega, hB3 (fun q => z4 q.2), tb_step ht hs3 hl3⟩
        · rw [if_neg z3, if_neg z3]
          exact ⟨rfl, by omega, by omega, hB3 (fun q => z3 q.1), tb_step ht hs3 hl3⟩
      · left
        rw [if_neg z2, if_neg z2]
        refine ⟨rfl, ?_, fun e => Or.inl (by rw [← e, t1])⟩
        rcases Nat.lt_or_ge (a + 1 + 1) n with h | h
        · exact ts_nofig t1 h (fun q => z2 ⟨h, q⟩) hk2
        · have en : n = a + 1 + 1 := by omega
          rw [en]
          exact sc_end hk2
    · right
      rw [if_neg z1, if_neg z1, if_neg z1]
      refine ⟨rfl, by omega, by omega, ⟨by rw [s1], by rw [s1]; show ¬ (1 : Int32) = 2; decide, ?_, ?_, ?_, hk1⟩, tb_step ht s3 (fun lv k => by rw [s4]; rfl)⟩
      · rw [s1]
        constructor
        · intro h; exact absurd (show (1 : Int32) = 0 from h) (by decide)
        · intro h; omega
      · intro hlt _ q
        exact z1 ⟨hlt, (tc_42 _).mpr ((tc_eq _ 42 (by decide)).mp q)⟩
      · intro _ h; rw [s1] at h; exact absurd (show (1 : Int32) = 3 from h) (by decide)
  · left
    have hno : pp_r co n a = 0 ∧ pp_a co n a = a := by
      have e := tc_so (co a)
      unfold pp_r pp_a tq
      by_cases han : a < n
      · have hso : tx_so (co a) = -1 := by
          by_cases q : tx_so (co a) = -1
          · exact q
          · exact absurd ⟨han, q⟩ hs
        simp only [han, true_and]
        by_cases z1 : xt_rg (co a) 48 57 = 0
        · exfalso
          obtain ⟨y, hy, e1, e2⟩ := tc_fig_n _ z1
          rw [e, if_pos z1, e2] at hso
          have := congrArg Int32.toInt hso
          rw [nI_toInt (by omega), show (-1 : Int32).toInt = -1 by decide] at this
          omega
        · by_cases z2 : xt_rg (co a) 45 45 = 0
          · exfalso
            rw [e, if_neg z1, if_pos z2] at hso
            exact absurd hso (by decide)
          · by_cases z3 : xt_rg (co a) 95 95 = 0
            · exfalso
              rw [e, if_neg z1, if_neg z2, if_pos z3] at hso
              exact absurd hso (by decide)
            · rw [if_neg z1, if_neg z2, if_neg z3, if_neg z1, if_neg z2, if_neg z3]
              exact ⟨rfl, rfl⟩
      · simp only [han, false_and, if_false, and_self]
    rw [hno.1, hno.2]
    refine ⟨rfl, ?_, fun e => Or.inr ⟨e, by rw [e]⟩⟩
    rcases Nat.lt_or_ge a n with h | h
    · refine ts_no hB h (Or.inl ?_)
      by_cases q : tx_so (co a) = -1
      · exact q
      · exact absurd ⟨h, q⟩ hs
    · have en : n = a := by omega
      rw [en]
      exact sc_end hB.2.2.2.2.2
theorem xc_re_0 {co : Nat → Int32} {n : Nat} (h : sc_to co n 0 = n) (h2 : ¬ (sc_ap co n).2 = 0) (h3 : ¬ (sc_ap co n).2 = 2) : xc_re co n = 0 := by
  unfold xc_re
  rw [h, if_neg Int32.lt_irrefl]
  unfold tx_wh
  rw [if_neg h2, if_neg h3, if_neg (by decide)]
theorem xc_re_1 {co : Nat → Int32} {n : Nat} (hn : n ≤ 60) (h : sc_to co n 0 < n ∨ (sc_to co n 0 = n ∧ ((sc_ap co n).2 = 0 ∨ (sc_ap co n).2 = 2))) : xc_re co n = 1 := by
  unfold xc_re
  rcases h with h | ⟨h, h2⟩
  · rw [if_pos ((nI_ltI (by omega) (by omega)).mpr h)]
  · rw [h, if_neg Int32.lt_irrefl]
    unfold tx_wh
    rcases h2 with h2 | h2
    · rw [if_pos h2, if_pos rfl]
    · rw [h2, if_neg (show ¬ (2 : Int32) = 0 by decide), if_pos rfl, if_pos rfl]
/-- the whole text -/
theorem tp_all {co : Nat → Int32} {n : Nat} (hn : n ≤ 60) : ∀ (f j a : Nat) (tl : Nat → Int32), f + j = 6 → j < 6 → a ≤ n → (a < n ∨ j = 0 ∧ a = 0) → tb_ok co n a j → tb_t co a j tl →
    sc_to co n 0 = tp_a co n f j a ∧ tp_a co n f j a ≤ n ∧ (tp_r co n f j a = if xc_re co n = 0 then 1 else 0) ∧ (xc_re co n = 0 → tp_a co n f j a = n ∧ (sc_ap co n).1 = tp_j co n f j a ∧ tp_j co n f j a ≤ 6 ∧ tb_t co n (tp_j co n f j a) (tp_t co n f j a tl))
  | 0, j, _, _, h, hj, _, _, _, _ => absurd hj (by omega)
  | f + 1, j, a, tl, hf, hj, ha, h0, hB, ht => by
    unfold tp_a tp_r tp_j tp_t
    rcases tp_part hB ha hj ht with ⟨r1, r2, r3⟩ | ⟨r1, r2, r3, r4, r5⟩
    · rw [if_pos r1, if_pos r1, if_pos r1, if_pos r1]
      have hx : xc_re co n = 1 := by
        refine xc_re_1 hn ?_
        rw [r2]
        have hle := pp_a_in (co := co) ha
        rcases Nat.lt_or_ge (pp_a co n a) n with h | h
        · exact Or.inl h
        · right
          have en : pp_a co n a = n := by omega
          refine ⟨en, ?_⟩
          rcases r3 en with h2 | ⟨h2, h3⟩
          · exact Or.inr h2
          · left
            have : j = 0 := by omega
            rw [h3]
            exact hB.2.2.1.mpr this
      refine ⟨r2, pp_a_in ha, by rw [hx]; rfl, fun q => ?_⟩
      rw [hx] at q
      exact absurd q (by decide)
    · have n0 : ¬ pp_r co n a = 0 := by rw [r1]; decide
      rw [if_neg n0, if_neg n0, if_neg n0, if_neg n0]
      by_cases z : j + 1 < 6 ∧ pp_a co n a < n
      · rw [if_pos z, if_pos z, if_pos z, if_pos z]
        exact tp_all hn f (j + 1) (pp_a co n a) _ (by omega) z.1 r3 (Or.inl z.2) r4 r5
      · rw [if_neg z, if_neg z, if_neg z, if_neg z]
        rcases Nat.lt_or_ge (pp_a co n a) n with h | h
        · have hj6 : j + 1 = 6 := by omega
          have hs := ts_no r4 h (Or.inr hj6)
          have hx : xc_re co n = 1 := xc_re_1 hn (Or.inl (by rw [hs]; exact h))
          rw [if_neg (by omega), hx]
          refine ⟨hs, r3, rfl, fun q => absurd q (by decide)⟩
        · have en : pp_a co n a = n := by omega
          rw [en] at r4 r5 ⊢
          have hs : sc_to co n 0 = n := sc_end r4.2.2.2.2.2
          have hx : xc_re co n = 0 := xc_re_0 hs (fun q => by have := r4.2.2.1.mp q; omega) r4.2.1
          rw [if_pos rfl, hx]
          exact ⟨hs, Nat.le_refl n, rfl, fun _ => ⟨rfl, r4.1, by omega, r5⟩⟩
theorem tp_0 (co : Nat → Int32) (n : Nat) (tl : Nat → Int32) : tb_ok co n 0 0 ∧ tb_t co 0 0 tl := ⟨⟨rfl, by show ¬ (0 : Int32) = 2; decide, ⟨fun _ => rfl, fun _ => rfl⟩, fun _ h => absurd (show (0 : Int32) = 1 from h) (by decide), fun _ h => absurd (show (0 : Int32) = 3 from h) (by decide), fun i h => absurd h (Nat.not_lt_zero i)⟩, fun k h => absurd h (Nat.not_lt_zero k)⟩
