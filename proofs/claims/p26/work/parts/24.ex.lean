theorem xv_rw_o {o n j : Nat} {g v : Nat → Int32} (h : ¬ (o ≤ j ∧ j < o + n)) : xv_rw o n g v j = v j := if_neg h
theorem xv_rw_i {o n j : Nat} {g v : Nat → Int32} (h : j < n) : xv_rw o n g v (o + j) = g j := by
  unfold xv_rw
  rw [if_pos (by omega), Nat.add_sub_cancel_left]
theorem xv_zc_lo {v : Nat → Int32} {j : Nat} (h : j < 26) : xv_zc v j = v j := if_neg (by omega)
theorem i64_div (a : Int64) : (a / 10).toInt = a.toInt.tdiv 10 := by
  rw [Int64.toInt_div_of_ne_right _ _ (by decide)]
  rfl
def xa (x : Int32) : Nat := x.toInt.natAbs
theorem xa_le (x : Int32) : xa x ≤ 2147483648 := by
  have h1 := x.toInt_lt
  have h2 := x.le_toInt
  unfold xa
  omega
theorem mag_n (x : Int32) : (fm_mag x).toInt = ((xa x : Nat) : Int) := by
  have h1 := x.toInt_lt
  have h2 := x.le_toInt
  have e : (0 ≤ x) ↔ 0 ≤ x.toInt := by rw [Int32.le_iff_toInt_le]; rfl
  unfold fm_mag xa
  split
  · rename_i q
    rw [Int32.toInt_toInt64]
    have := e.mp q
    omega
  · rename_i q
    have : ¬ 0 ≤ x.toInt := fun z => q (e.mpr z)
    rw [Int64.toInt_neg, Int32.toInt_toInt64, Int.bmod_eq_of_le (by omega) (by omega)]
    omega
/-- the figures: the object's -/
theorem pr_n {x fg : Int32} : ∀ t, (∀ s, s < t → ¬ fg ≤ nI s) → (fm_pr fg (fm_mag x) t).toInt = ((xa x / 10 ^ t : Nat) : Int)
  | 0, _ => by
    show (fm_mag x).toInt = _
    rw [mag_n, Nat.pow_zero, Nat.div_one]
  | t + 1, h => by
    show (if fg ≤ nI t then fm_pr fg (fm_mag x) t else fm_pr fg (fm_mag x) t / 10).toInt = _
    rw [if_neg (h t (by omega)), i64_div, pr_n t (fun s hs => h s (by omega)), Nat.pow_succ, ← Nat.div_div_eq_div_mul]
    rfl
theorem pv_n {x fg ln : Int32} {t : Nat} (h : ∀ s, s < t + 1 → ¬ fg ≤ nI s) : fm_pv fg ln (fm_mag x) t = nI (xa x / 10 ^ t % 10) := by
  have e := pr_n (x := x) (fg := fg) t (fun s hs => h s (by omega))
  have h1 := xa_le x
  have h2 : xa x / 10 ^ t ≤ xa x := Nat.div_le_self _ _
  unfold fm_pv
  rw [if_neg (h t (by omega))]
  generalize fm_pr fg (fm_mag x) t = y at e
  generalize xa x / 10 ^ t = w at e h2
  refine Int32.toInt.inj ?_
  have e10 : (10 : Int64).toInt = 10 := by decide
  have e5 : (y / 10 * 10).toInt = ((w / 10 * 10 : Nat) : Int) := by
    rw [Int64.toInt_mul, i64_div, e, e10]
    have : ((w : Int).tdiv 10) = ((w / 10 : Nat) : Int) := rfl
    rw [this, Int.bmod_eq_of_le (by omega) (by omega)]
    omega
  rw [Int64.toInt_toInt32, Int64.toInt_sub, e5, e, Int.bmod_eq_of_le (n := (w : Int) - ((w / 10 * 10 : Nat) : Int)) (by omega) (by omega), Int.bmod_eq_of_le (by omega) (by omega), nI_toInt (by omega)]
  omega
theorem ob_or : ∀ y, y < 128 → ∀ s, s < 7 → ∃ w, w < 128 ∧ nI y ||| ((1 : Int32) <<< (nI s &&& 31)) = nI w := by
  have key : ∀ y, y < 128 → ∀ s, s < 7 → nI y ||| ((1 : Int32) <<< (nI s &&& 31)) = nI (y ||| 2 ^ s) ∧ y ||| 2 ^ s < 128 := by decide +kernel
  exact fun y hy s hs => ⟨_, (key y hy s hs).2, (key y hy s hs).1⟩
theorem ob_no : ∀ y, y < 128 → ∀ s, s < 7 → ∃ w, w < 128 ∧ nI y &&& (((1 : Int32) <<< (nI s &&& 31)) ^^^ (-1)) = nI w := by
  have key : ∀ y, y < 128 → ∀ s, s < 7 → nI y &&& (((1 : Int32) <<< (nI s &&& 31)) ^^^ (-1)) = nI (y &&& (127 - 2 ^ s)) ∧ y &&& (127 - 2 ^ s) < 128 := by decide +kernel
  exact fun y hy s hs => ⟨_, (key y hy s hs).2, (key y hy s hs).1⟩
theorem pv_ix (x fg ln : Int32) (t : Nat) (ht : t < 100) : fm_ix (fm_pv fg ln (fm_mag x) t) 12 := by
  by_cases q : fg ≤ nI t
  · unfold fm_pv
    rw [if_pos q]
    split
    · exact fm_ix_nI (k := 11) (by decide) (by decide)
    · exact fm_ix_nI (k := 10) (by decide) (by decide)
  · rw [pv_n (fun s hs => fun z => q (Int32.le_trans z (nI_le (by omega) (by omega))))]
    exact fm_ix_nI (by omega) (by decide)
theorem pa_ix {x fg ln : Int32} {last : Nat} {sg : Nat → Int32} (hl : last < 6) (h : ∀ j, j < 6 → fm_ix (sg j) 12) : ∀ t, t ≤ 6 → ∀ j, j < 6 → fm_ix (fm_pa fg ln (fm_mag x) last sg t j) 12
  | 0, _ => h
  | t + 1, ht => fun j hj => by
    show fm_ix (upd (fm_pa fg ln (fm_mag x) last sg t) (last - t) (fm_pv fg ln (fm_mag x) t) j) 12
    by_cases e : j = last - t
    · rw [e, pk_us]; exact pv_ix x fg ln t (by omega)
    · rw [pk_un e]; exact pa_ix hl h t (by omega) j hj
theorem wob_ix {sm life : Int32} {d : Nat} {we : Nat → Int32} {b : Int32} (h : ∃ y, y < 128 ∧ b = nI y) : ∀ k, k ≤ 7 → ∃ y, y < 128 ∧ fm_wob sm life d we b k = nI y
  | 0, _ => h
  | k + 1, hk => by
    obtain ⟨y, hy, e⟩ := wob_ix (sm := sm) (life := life) (d := d) (we := we) h k (by omega)
    unfold fm_wob
    (repeat' split) <;> first | exact ⟨y, hy, e⟩ | (rw [e]; exact ob_or y hy k (by omega))
theorem slot_lo {v : Nat → Int32} {j : Nat} (h : 0 < j ∧ j < 20 ∧ ¬ j = 7) : xv_slot v j = v j := by
  unfold xv_slot
  rw [xv_rw_o (by omega), xv_rw_o (by omega), xv_rw_o (by omega), xv_rw_o (by omega), pk_un (by omega), pk_un (by omega)]
theorem slot_0 {v : Nat → Int32} : xv_slot v 0 = v 0 + 1 := by
  unfold xv_slot
  rw [xv_rw_o (by decide), xv_rw_o (by decide), xv_rw_o (by decide), xv_rw_o (by decide), pk_un (by decide), pk_us]
theorem it_lo {v : Nat → Int32} {j : Nat} (h : 0 < j ∧ j < 20 ∧ ¬ j = 7) : ∀ k, xv_it v k j = v j
  | 0 => rfl
  | k + 1 => (slot_lo h).trans (it_lo h k)
theorem it_0 {v : Nat → Int32} {t : Nat} (h : v 0 = nI t) : ∀ k, xv_it v k 0 = nI (t + k)
  | 0 => h
  | k + 1 => by
    show xv_slot (xv_it v k) 0 = _
    rw [slot_0, it_0 h k]
    exact nI_1 (t + k)
