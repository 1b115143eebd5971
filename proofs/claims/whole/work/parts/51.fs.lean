/-! Numbers: the model's figures and the object's. -/
def ld (x : Int32) : Nat → Int32
  | 0 => x
  | k + 1 => ld x k / 10
theorem i32_div (a : Int32) : (a / 10).toInt = a.toInt.tdiv 10 := by
  rw [Int32.toInt_div_of_ne_right _ _ (by decide)]
  rfl
theorem i64_div (a : Int64) : (a / 10).toInt = a.toInt.tdiv 10 := by
  rw [Int64.toInt_div_of_ne_right _ _ (by decide)]
  rfl
def xa (x : Int32) : Nat := x.toInt.natAbs
theorem xa_le (x : Int32) : xa x ≤ 2147483648 := by
  have h1 := x.toInt_lt
  have h2 := x.le_toInt
  unfold xa
  omega
theorem ld_n (x : Int32) : ∀ k, (0 ≤ x.toInt → (ld x k).toInt = ((xa x / 10 ^ k : Nat) : Int)) ∧ (x.toInt < 0 → (ld x k).toInt = -((xa x / 10 ^ k : Nat) : Int))
  | 0 => by
    constructor
    · intro h
      show x.toInt = _
      rw [Nat.pow_zero, Nat.div_one]
      unfold xa
      omega
    · intro h
      show x.toInt = _
      rw [Nat.pow_zero, Nat.div_one]
      unfold xa
      omega
  | k + 1 => by
    obtain ⟨h1, h2⟩ := ld_n x k
    have e : xa x / 10 ^ (k + 1) = xa x / 10 ^ k / 10 := by rw [Nat.pow_succ, Nat.div_div_eq_div_mul]
    constructor
    · intro h
      show (ld x k / 10).toInt = _
      rw [i32_div, h1 h, e]
      rfl
    · intro h
      show (ld x k / 10).toInt = _
      rw [i32_div, h2 h, e, Int.neg_tdiv]
      rfl
theorem ld_0 (x : Int32) (k : Nat) : ld x k = 0 ↔ xa x / 10 ^ k = 0 := by
  obtain ⟨h1, h2⟩ := ld_n x k
  have e : (0 : Int32).toInt = 0 := by decide
  constructor
  · intro h
    rw [h, e] at h1 h2
    rcases Int.lt_or_le x.toInt 0 with q | q
    · have := h2 q; omega
    · have := h1 q; omega
  · intro h
    rw [h] at h1 h2
    refine Int32.toInt.inj ?_
    rw [e]
    rcases Int.lt_or_le x.toInt 0 with q | q
    · rw [h2 q]; rfl
    · rw [h1 q]; rfl
theorem mag_n (x : Int32) : (fm_mag x).toInt = ((xa x : Nat) : Int) := by
  have h1 := x.toInt_lt
  have h2 := x.le_toInt
  have e : (0 ≤ x) ↔ 0 ≤ x.toInt := by rw [Int32.le_iff_toInt_le]; rfl
  unfold fm_mag xa
  split
  · rename_i q
    rw [Int32.toInt_toInt64]
    have := e.mp q
    omega
  · rename_i q
    have : ¬ 0 ≤ x.toInt := fun z => q (e.mpr z)
    rw [Int64.toInt_neg, Int32.toInt_toInt64, Int.bmod_eq_of_le (by omega) (by omega)]
    omega
theorem nl_dn (x : Int32) : ∀ k, (nl_d (fm_mag x) k).toInt = ((xa x / 10 ^ (k + 1) : Nat) : Int)
  | 0 => by
    show (fm_mag x / 10).toInt = _
    rw [i64_div, mag_n, Nat.zero_add, Nat.pow_one]
    rfl
  | k + 1 => by
    show (nl_d (fm_mag x) k / 10).toInt = _
    rw [i64_div, nl_dn x k, Nat.pow_succ _ (k + 1), ← Nat.div_div_eq_div_mul]
    rfl
/-- how often a number is divided until nothing is left -/
def sz_to (x : Int32) : Nat → Nat → Nat
  | 0, i => i
  | f + 1, i => if ld x (i + 1) = 0 then i else sz_to x f (i + 1)
def sz_h (x : Int32) : Nat := sz_to x 10 0
theorem sz_to_s {x : Int32} {i : Nat} (h : i < 10) : sz_to x (10 - i) i = if ld x (i + 1) = 0 then i else sz_to x (10 - (i + 1)) (i + 1) := by
  rw [show 10 - i = (10 - (i + 1)) + 1 by omega]
  rfl
theorem sz_9 {x : Int32} {i : Nat} (h : 9 ≤ i) : ld x (i + 1) = 0 := by
  rw [ld_0]
  have h1 := xa_le x
  have h2 : 10 ^ 10 ≤ 10 ^ (i + 1) := Nat.pow_le_pow_right (by decide) (by omega)
  exact Nat.div_eq_of_lt (by omega)
theorem sz_ge (x : Int32) : ∀ g i, i ≤ sz_to x g i
  | 0, i => Nat.le_refl i
  | g + 1, i => by
    unfold sz_to
    split
    · exact Nat.le_refl i
    · exact Nat.le_trans (Nat.le_succ i) (sz_ge x g (i + 1))
theorem sz_nl {x : Int32} {l0 : Nat} : ∀ (f i g : Nat), f ≤ g → nl_to (fm_mag x) l0 f i = l0 + min (sz_to x g i) (i + f)
  | 0, i, g, _ => by
    show l0 + i = _
    have := sz_ge x g i
    omega
  | f + 1, i, 0, h => absurd h (by omega)
  | f + 1, i, g + 1, h => by
    have hc : lg_cmp (nl_d (fm_mag x) i) 0 ≤ 0 ↔ ld x (i + 1) = 0 := by
      rw [ld_0]
      have e := nl_dn x i
      have e0 : (0 : Int64).toInt = 0 := by decide
      generalize nl_d (fm_mag x) i = y at e
      generalize xa x / 10 ^ (i + 1) = w at e
      rw [lg_cmp_le, Int64.le_iff_toInt_le, e, e0]
      omega
    unfold nl_to sz_to
    by_cases q : ld x (i + 1) = 0
    · rw [if_pos (hc.mpr q), if_pos q]
      omega
    · rw [if_neg (fun z => q (hc.mp z)), if_neg q, sz_nl f (i + 1) g (by omega)]
      omega
theorem nl_sz (x : Int32) : nl_n x = min (nl_0 x + sz_h x) 7 := by
  have h := nl_0_in x
  unfold nl_n sz_h
  rw [sz_nl (7 - nl_0 x) 0 10 (by omega)]
  omega
theorem sz_h9 (x : Int32) : ∀ f i, i + f ≤ 10 → sz_to x f i ≤ i + f
  | 0, i, _ => Nat.le_refl i
  | f + 1, i, h => by
    unfold sz_to
    split
    · omega
    · have := sz_h9 x f (i + 1) (by omega)
      omega
/-- whether a number fits -/
theorem nu_ok {x : Int32} {a b : Nat} (ha : a < 6) (hb : b < 6) : xt_rg (nI (nl_n x)) 1 (nI b - nI a + 1) = 0 ↔ ¬ nI b < nI a ∧ nI (nl_0 x + sz_h x) ≤ nI b - nI a + 1 := by
  have h1 := nl_sz x
  have h2 := nl_0_in x
  have h3 := sz_h9 x 10 0 (by decide)
  have h3 : sz_h x ≤ 10 := h3
  have e1 : (nI b - nI a + 1).toInt = (b : Int) - a + 1 := by
    have : nI b - nI a + 1 = nI (b + 1) - nI a := by rw [← nI_1, Int32.sub_eq_add_neg, Int32.sub_eq_add_neg, Int32.add_assoc, Int32.add_comm (-_) 1, ← Int32.add_assoc]
    rw [this, pk_sub_toInt (by omega) (by omega)]
    omega
  have e2 : (1 : Int32).toInt = 1 := by decide
  have e3 : (nI (nl_n x)).toInt = (nl_n x : Int) := nI_toInt (by omega)
  have e4 : (nI (nl_0 x + sz_h x)).toInt = ((nl_0 x + sz_h x : Nat) : Int) := nI_toInt (by omega)
  rw [nI_ltI (by omega) (by omega), Int32.le_iff_toInt_le, e1, e4]
  unfold xt_rg
  by_cases q : nI (nl_n x) < 1
  · have := Int32.lt_iff_toInt_lt.mp q
    omega
  · rw [if_neg q]
    by_cases q2 : nI (nl_n x) ≤ nI b - nI a + 1
    · have := Int32.le_iff_toInt_le.mp q2
      rw [if_pos q2]
      constructor
      · intro _; omega
      · intro _; rfl
    · have := Int32.lt_iff_toInt_lt.mp (Int32.not_le.mp q2)
      rw [if_neg q2]
      constructor
      · intro z; exact absurd z (by decide)
      · intro z; omega
/-- the figures: the object's -/
theorem pr_n {x fg : Int32} : ∀ t, (∀ s, s < t → ¬ fg ≤ nI s) → (fm_pr fg (fm_mag x) t).toInt = ((xa x / 10 ^ t : Nat) : Int)
  | 0, _ => by
    show (fm_mag x).toInt = _
    rw [mag_n, Nat.pow_zero, Nat.div_one]
  | t + 1, h => by
    show (if fg ≤ nI t then fm_pr fg (fm_mag x) t else fm_pr fg (fm_mag x) t / 10).toInt = _
    rw [if_neg (h t (by omega)), i64_div, pr_n t (fun s hs => h s (by omega)), Nat.pow_succ, ← Nat.div_div_eq_div_mul]
    rfl
theorem pv_n {x fg ln : Int32} {t : Nat} (h : ∀ s, s < t + 1 → ¬ fg ≤ nI s) : fm_pv fg ln (fm_mag x) t = nI (xa x / 10 ^ t % 10) := by
  have e := pr_n (x := x) (fg := fg) t (fun s hs => h s (by omega))
  have h1 := xa_le x
  have h2 : xa x / 10 ^ t ≤ xa x := Nat.div_le_self _ _
  unfold fm_pv
  rw [if_neg (h t (by omega))]
  generalize fm_pr fg (fm_mag x) t = y at e
  generalize xa x / 10 ^ t = w at e h2
  refine Int32.toInt.inj ?_
  have e10 : (10 : Int64).toInt = 10 := by decide
  have e5 : (y / 10 * 10).toInt = ((w / 10 * 10 : Nat) : Int) := by
    rw [Int64.toInt_mul, i64_div, e, e10]
    have : ((w : Int).tdiv 10) = ((w / 10 : Nat) : Int) := rfl
    rw [this, Int.bmod_eq_of_le (by omega) (by omega)]
    omega
  rw [Int64.toInt_toInt32, Int64.toInt_sub, e5, e, Int.bmod_eq_of_le (n := (w : Int) - ((w / 10 * 10 : Nat) : Int)) (by omega) (by omega), Int.bmod_eq_of_le (by omega) (by omega), nI_toInt (by omega)]
  omega
/-- the figures: the model's -/
theorem lf_n (x : Int32) (t : Nat) : (0 ≤ x.toInt → ld x t - ld x t / 10 * 10 = nI (xa x / 10 ^ t % 10)) ∧ (x.toInt < 0 → ld x t - ld x t / 10 * 10 = -nI (xa x / 10 ^ t % 10)) := by
  obtain ⟨g1, g2⟩ := ld_n x t
  have h1 := xa_le x
  have h2 : xa x / 10 ^ t ≤ xa x := Nat.div_le_self _ _
  generalize ld x t = y at g1 g2
  generalize xa x / 10 ^ t = w at g1 g2 h2
  have e10 : (10 : Int32).toInt = 10 := by decide
  constructor
  · intro q
    refine Int32.toInt.inj ?_
    have e5 : (y / 10 * 10).toInt = ((w / 10 * 10 : Nat) : Int) := by
      rw [Int32.toInt_mul, i32_div, g1 q, e10]
      have : ((w : Int).tdiv 10) = ((w / 10 : Nat) : Int) := rfl
      have hy := y.toInt_lt
      rw [g1 q] at hy
      rw [this, Int.bmod_eq_of_le (by omega) (by omega)]
      omega
    have hy := y.toInt_lt
    rw [g1 q] at hy
    rw [Int32.toInt_sub, e5, g1 q, Int.bmod_eq_of_le (by omega) (by omega), nI_toInt (by omega)]
    omega
  · intro q
    refine Int32.toInt.inj ?_
    have e5 : (y / 10 * 10).toInt = -((w / 10 * 10 : Nat) : Int) := by
      rw [Int32.toInt_mul, i32_div, g2 q, e10, Int.neg_tdiv]
      have : ((w : Int).tdiv 10) = ((w / 10 : Nat) : Int) := rfl
      rw [this, Int.bmod_eq_of_le (by omega) (by omega)]
      omega
    rw [Int32.toInt_sub, e5, g2 q, Int.bmod_eq_of_le (by omega) (by omega), Int32.toInt_neg, nI_toInt (by omega), Int.bmod_eq_of_le (by omega) (by omega)]
    omega
theorem i0_le (x : Int32) : 0 ≤ x ↔ 0 ≤ x.toInt := by rw [Int32.le_iff_toInt_le]; rfl
/-- a sign of a number: at the place t from its end -/
theorem nv_fig {x ln : Int32} {L t : Nat} (hL : ln = nI L) (hL7 : L ≤ 7) (h1 : t < L) (h2 : 0 ≤ x ∨ ¬ t = L - 1) : fm_pv (fm_fg x ln) ln (fm_mag x) t = nI (xa x / 10 ^ t % 10) := by
  refine pv_n (fun s hs => ?_)
  unfold fm_fg
  split
  · rw [hL]
    exact nI_ge (by omega) (by omega)
  · rename_i q
    have h3 : ¬ t = L - 1 := by
      rcases h2 with z | z
      · exact absurd z q
      · exact z
    rw [hL, show (1 : Int32) = nI 1 from rfl, pk_sub (by omega)]
    exact nI_ge (by omega) (by omega)
theorem nv_p {x ln : Int32} {L t : Nat} (hL : ln = nI L) (hL7 : L ≤ 7) (h1 : t < L) (h2 : 0 ≤ x ∨ ¬ t = L - 1) (q : 0 ≤ ld x t - ld x t / 10 * 10) : ld x t - ld x t / 10 * 10 = fm_pv (fm_fg x ln) ln (fm_mag x) t := by
  rw [nv_fig hL hL7 h1 h2]
  obtain ⟨g1, g2⟩ := lf_n x t
  rcases Int.lt_or_le x.toInt 0 with z | z
  · rw [g2 z] at q ⊢
    have h3 := (i0_le _).mp q
    rw [Int32.toInt_neg, nI_toInt (by omega), Int.bmod_eq_of_le (by omega) (by omega)] at h3
    have : xa x / 10 ^ t % 10 = 0 := by omega
    rw [this]
    decide
  · exact g1 z
theorem nv_m {x ln : Int32} {L t : Nat} (hL : ln = nI L) (hL7 : L ≤ 7) (h1 : t < L) (h2 : 0 ≤ x ∨ ¬ t = L - 1) (q : ¬ 0 ≤ ld x t - ld x t / 10 * 10) : -(ld x t - ld x t / 10 * 10) = fm_pv (fm_fg x ln) ln (fm_mag x) t := by
  rw [nv_fig hL hL7 h1 h2]
  obtain ⟨g1, g2⟩ := lf_n x t
  rcases Int.lt_or_le x.toInt 0 with z | z
  · rw [g2 z, Int32.neg_neg]
  · exfalso
    rw [g1 z] at q
    exact q (nI_pos' (by omega))
theorem nv_10 {x ln : Int32} {L t : Nat} (hL : ln = nI L) (hL7 : L ≤ 7) (h1 : t < L) (hx : ¬ 0 ≤ x) (h2 : t = L - 1) : 10 = fm_pv (fm_fg x ln) ln (fm_mag x) t := by
  unfold fm_pv fm_fg
  rw [if_neg hx, if_pos (by rw [hL, show (1 : Int32) = nI 1 from rfl, pk_sub (by omega)]; exact nI_le (by omega) (by omega)), if_neg (by rw [hL]; exact nI_ge h1 (by omega))]
theorem nv_11 {x ln : Int32} {L t : Nat} (hL : ln = nI L) (hL7 : L ≤ 7) (h0 : 1 ≤ L) (h1 : L ≤ t) (ht : t < 100) : 11 = fm_pv (fm_fg x ln) ln (fm_mag x) t := by
  have e2 : ln ≤ nI t := by rw [hL]; exact nI_le h1 (by omega)
  have e1 : fm_fg x ln ≤ nI t := by
    unfold fm_fg
    split
    · exact e2
    · rw [hL, show (1 : Int32) = nI 1 from rfl, pk_sub (by omega)]
      exact nI_le (by omega) (by omega)
  unfold fm_pv
  rw [if_pos e1, if_pos e2]
theorem xv_rw_u {g v : Nat → Int32} {k : Nat} {x : Int32} (h : k < 6) : upd (xv_rw 8 6 g v) (8 + k) x = xv_rw 8 6 (upd g k x) v := by
  funext j
  show (if j = 8 + k then x else if 8 ≤ j ∧ j < 8 + 6 then g (j - 8) else v j) = if 8 ≤ j ∧ j < 8 + 6 then (if j - 8 = k then x else g (j - 8)) else v j
  by_cases e : j = 8 + k
  · subst e
    rw [if_pos rfl, if_pos (by omega), if_pos (by omega)]
  · rw [if_neg e]
    by_cases z : 8 ≤ j ∧ j < 8 + 6
    · rw [if_pos z, if_pos z, if_neg (by omega)]
    · rw [if_neg z, if_neg z]
theorem xv_rw_id (v : Nat → Int32) : v = xv_rw 8 6 (fun j => v (8 + j)) v := by
  funext j
  unfold xv_rw
  split
  · congr 1; omega
  · rfl
