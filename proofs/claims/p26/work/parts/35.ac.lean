/-! p26: what an act of the law leaves. -/
def jv (T : Nat) (v : Nat → Int32) (o z : Nat) (sv : Nat → Nat → Int32) : Prop := gd T v ∧ o < 6 ∧ z ≤ 6 ∧ ∀ i, i < z → gd T (sv ((o + i) % 6))
def ac_P (T : Nat) (v : Nat → Int32) (z op : Nat) (r : Int32) (v2 : Nat → Int32) (o2 z2 : Int32) (sv2 : Nat → Nat → Int32) : Prop :=
  ∃ o9 z9 : Nat, o2 = nI o9 ∧ z2 = nI z9 ∧ jv (T + 120) v2 o9 z9 sv2 ∧ (0 ≤ r ∨ (z9 = z ∧ v2 0 = v 0 ∧ bsum v2 = bsum v)) ∧ (8 < op → bsum v2 = bsum v + r ∧ v 0 < v2 0)
theorem jv_push {T U : Nat} {v w : Nat → Int32} {o z : Nat} {sv : Nat → Nat → Int32} (h : jv T v o z sv) (hw : gd U w) (hU : T ≤ U) : jv U w (if z = 6 then (o + 1) % 6 else o) (if z = 6 then 6 else z + 1) (va_up sv (if z = 6 then o else (o + z) % 6) v) := by
  obtain ⟨h1, h2, h3, h4⟩ := h
  by_cases q : z = 6
  · rw [if_pos q, if_pos q, if_pos q]
    refine ⟨hw, Nat.mod_lt _ (by decide), Nat.le_refl 6, fun i hi => ?_⟩
    by_cases e : i = 5
    · have e2 : ((o + 1) % 6 + i) % 6 = o := by omega
      rw [e2, show va_up sv o v o = v by simp [va_up]]
      exact gd_mono h1 hU
    · have e2 : ((o + 1) % 6 + i) % 6 = (o + (i + 1)) % 6 := by omega
      have e4 : ¬ (o + (i + 1)) % 6 = o := by omega
      rw [e2, show va_up sv o v ((o + (i + 1)) % 6) = sv ((o + (i + 1)) % 6) by simp [va_up, e4]]
      exact gd_mono (h4 (i + 1) (by omega)) hU
  · rw [if_neg q, if_neg q, if_neg q]
    refine ⟨hw, h2, by omega, fun i hi => ?_⟩
    by_cases e : i = z
    · rw [e, show va_up sv ((o + z) % 6) v ((o + z) % 6) = v by simp [va_up]]
      exact gd_mono h1 hU
    · have e4 : ¬ (o + i) % 6 = (o + z) % 6 := by omega
      rw [show va_up sv ((o + z) % 6) v ((o + i) % 6) = sv ((o + i) % 6) by simp [va_up, e4]]
      exact gd_mono (h4 i (by omega)) hU
theorem ix_ge0 {x : Int32} {n : Nat} (h : fm_ix x n) (hn : n ≤ 2 ^ 31) : 0 ≤ x := Int32.not_lt.mp (ix_nn h hn)
theorem ac_push {T op : Nat} {v w : Nat → Int32} {o z : Nat} {sv : Nat → Nat → Int32} {r : Int32} (h : jv T v o z sv) (hw : gd (T + 120) w) (hr : 0 ≤ r) (ho : 8 < op → bsum w = bsum v + r ∧ v 0 < w 0) : ac_P T v z op r w (nI (if z = 6 then (o + 1) % 6 else o)) (nI (if z = 6 then 6 else z + 1)) (va_up sv (if z = 6 then o else (o + z) % 6) v) :=
  ⟨_, _, rfl, rfl, jv_push h hw (by omega), Or.inl hr, ho⟩
theorem no8 {op k : Nat} {A : Prop} (e : op = k) (hk : k ≤ 8) : 8 < op → A := fun h => absurd h (by omega)
theorem up_T {T : Nat} {v : Nat → Int32} (h : gd T v) : gd (T + 120) v := gd_mono h (by omega)
theorem ac_show {T op k d s : Nat} {v : Nat → Int32} {o z : Nat} {sv : Nat → Nat → Int32} (h : jv T v o z sv) (hd : d < 6) (hs : s < 12) (e : op = k) (hk : k ≤ 8) : ac_P T v z op (v (8 + d)) (upd v (8 + d) (nI s)) (nI (if z = 6 then (o + 1) % 6 else o)) (nI (if z = 6 then 6 else z + 1)) (va_up sv (if z = 6 then o else (o + z) % 6) v) := ac_push h (up_T (gd_show h.1 hd hs)) (ix_ge0 (h.1.1 d hd) (by decide)) (no8 e hk)
theorem ac_level {T op k d s : Nat} {v : Nat → Int32} {o z : Nat} {sv : Nat → Nat → Int32} (h : jv T v o z sv) (hd : d < 6) (hs : s < 16) (e : op = k) (hk : k ≤ 8) : ac_P T v z op (v (14 + d)) (xv_zc (upd v (14 + d) (nI s))) (nI (if z = 6 then (o + 1) % 6 else o)) (nI (if z = 6 then 6 else z + 1)) (va_up sv (if z = 6 then o else (o + z) % 6) v) := ac_push h (up_T (gd_level h.1 hd hs)) (ix_ge0 (h.1.2.1 d hd) (by decide)) (no8 e hk)
theorem ac_burn {T op k d s : Nat} {fl : Int32} {v : Nat → Int32} {o z : Nat} {sv : Nat → Nat → Int32} (h : jv T v o z sv) (hd : d < 6) (hs : s < 7) (e : op = k) (hk : k ≤ 8) : ac_P T v z op (if v (20 + d) &&& ((1 : Int32) <<< (nI s &&& 31)) = 0 then 0 else 1) (xv_bu v d s ((1 : Int32) <<< (nI s &&& 31)) fl) (nI (if z = 6 then (o + 1) % 6 else o)) (nI (if z = 6 then 6 else z + 1)) (va_up sv (if z = 6 then o else (o + z) % 6) v) := ac_push h (up_T (gd_burn h.1 hd hs)) (by split <;> decide) (no8 e hk)
theorem ac_amb {T op k s : Nat} {v : Nat → Int32} {o z : Nat} {sv : Nat → Nat → Int32} (h : jv T v o z sv) (hs : s < 21) (e : op = k) (hk : k ≤ 8) : ac_P T v z op (v 1) (upd v 1 (nI s)) (nI (if z = 6 then (o + 1) % 6 else o)) (nI (if z = 6 then 6 else z + 1)) (va_up sv (if z = 6 then o else (o + z) % 6) v) := ac_push h (up_T (gd_amb h.1 hs)) (ix_ge0 h.1.2.2.2.2.2.2.1 (by decide)) (no8 e hk)
theorem gd_se {T k : Nat} {v : Nat → Int32} (h : gd T v) (hk : k < 5) : 0 ≤ v (2 + k) := by
  obtain ⟨g1, g2, g3, g4, g5, g6, g7, ⟨n, g8, g8b, g8c⟩, g9, g10, g11, g12⟩ := h
  rcases (show k = 0 ∨ k = 1 ∨ k = 2 ∨ k = 3 ∨ k = 4 by omega) with rfl | rfl | rfl | rfl | rfl
  · exact ix_ge0 (ix_of g8 (show n < 97 by omega) (by decide)) (by decide)
  · exact ix_ge0 g9 (by decide)
  · exact ix_ge0 g10 (by decide)
  · exact ix_ge0 g11 (by decide)
  · exact ix_ge0 g12 (by decide)
theorem ac_set {T op k k0 s : Nat} {v : Nat → Int32} {o z : Nat} {sv : Nat → Nat → Int32} (h : jv T v o z sv) (hk0 : k0 < 5) (h0 : k0 = 0 → 6 ≤ s ∧ s ≤ 96) (h1 : k0 = 1 → s < 2) (h2 : k0 = 2 → s < 97) (h3 : k0 = 3 → s < 21) (h4 : k0 = 4 → s < 100) (e : op = k) (hk : k ≤ 8) : ac_P T v z op (v (2 + k0)) (upd v (2 + k0) (nI s)) (nI (if z = 6 then (o + 1) % 6 else o)) (nI (if z = 6 then 6 else z + 1)) (va_up sv (if z = 6 then o else (o + z) % 6) v) := ac_push h (up_T (gd_set h.1 hk0 h0 h1 h2 h3 h4)) (gd_se h.1 hk0) (no8 e hk)
theorem se_rg {k s : Nat} (hk : k < 5) (h0 : k = 0 → 6 ≤ s ∧ s ≤ 96) (h1 : k = 1 → s < 2) (h2 : k = 2 → 1 ≤ s ∧ s < 97) (h3 : k = 3 → 1 ≤ s ∧ s < 21) (h4 : k = 4 → s < 100) : xm_lo k ≤ nI s ∧ nI s ≤ xm_hi k := by
  rcases (show k = 0 ∨ k = 1 ∨ k = 2 ∨ k = 3 ∨ k = 4 by omega) with rfl | rfl | rfl | rfl | rfl
  · exact rg_n (lo := 6) (hi := 96) (h0 rfl).1 (h0 rfl).2 (by decide)
  · exact rg_n (lo := 0) (hi := 1) (Nat.zero_le s) (by have := h1 rfl; omega) (by decide)
  · exact rg_n (lo := 1) (hi := 96) (h2 rfl).1 (by have := h2 rfl; omega) (by decide)
  · exact rg_n (lo := 1) (hi := 20) (h3 rfl).1 (by have := h3 rfl; omega) (by decide)
  · exact rg_n (lo := 0) (hi := 99) (Nat.zero_le s) (by have := h4 rfl; omega) (by decide)
theorem ru_ok {T n : Nat} {v : Nat → Int32} (h : gd T v) (hT : T + 120 ≤ 99999) (hn : n ≤ 120) : v 0 + nI n ≤ 99999 := by
  obtain ⟨t, t1, t2, t3, t4⟩ := h.2.2.2.2.2.1
  rw [t3, nI_add]
  exact nI_le (b := 99999) (by omega) (by decide)
theorem it_t {T n : Nat} {v : Nat → Int32} (h : gd T v) (hT : T + 120 ≤ 99999) (h1 : 1 ≤ n) (hn : n ≤ 120) : v 0 < xv_it v n 0 := by
  obtain ⟨t, t1, t2, t3, t4⟩ := h.2.2.2.2.2.1
  rw [it_0 t3 n, t3]
  exact nI_lt (by omega) (by omega)
theorem ac_run {T op n : Nat} {v : Nat → Int32} {o z : Nat} {sv : Nat → Nat → Int32} (h : jv T v o z sv) (hT : T + 120 ≤ 99999) (h1 : 1 ≤ n) (hn : n ≤ 120) : ac_P T v z op (xv_in v n) (xv_it v n) (nI (if z = 6 then (o + 1) % 6 else o)) (nI (if z = 6 then 6 else z + 1)) (va_up sv (if z = 6 then o else (o + z) % 6) v) := by
  obtain ⟨m, m1, m2, m3⟩ := bs_it h.1 n (by omega)
  refine ac_push h (gd_mono (gd_it h.1 n (by omega)) (by omega)) ?_ (fun _ => ⟨m3, it_t h.1 hT h1 hn⟩)
  rw [m2]
  exact nI_pos' (by omega)
theorem ac_same {T op k : Nat} {v : Nat → Int32} {o z : Nat} {sv : Nat → Nat → Int32} {r : Int32} (h : jv T v o z sv) (e : op = k) (hk : k ≤ 8) : ac_P T v z op r v (nI o) (nI z) sv := ⟨o, z, rfl, rfl, ⟨up_T h.1, h.2.1, h.2.2.1, fun i hi => up_T (h.2.2.2 i hi)⟩, Or.inr ⟨rfl, rfl, rfl⟩, no8 e hk⟩
theorem ac_undo {T op k : Nat} {v : Nat → Int32} {o z : Nat} {sv : Nat → Nat → Int32} (h : jv T v o z sv) (e : op = k) (hk : k ≤ 8) : ac_P T v z op (if xc_un z = 0 then nI (z - 1) else -3) (if xc_un z = 0 then sv ((o + (z - 1)) % 6) else v) (nI o) (nI (if xc_un z = 0 then z - 1 else z)) sv := by
  by_cases q : xc_un z = 0
  · rw [if_pos q, if_pos q, if_pos q]
    have hz : 0 < z := by
      rcases Nat.eq_zero_or_pos z with w | w
      · subst w; exact absurd q (by decide)
      · exact w
    exact ⟨o, z - 1, rfl, rfl, ⟨up_T (h.2.2.2 (z - 1) (by omega)), h.2.1, by have := h.2.2.1; omega, fun i hi => up_T (h.2.2.2 i (by omega))⟩, Or.inl (nI_pos' (by have := h.2.2.1; omega)), no8 e hk⟩
  · rw [if_neg q, if_neg q, if_neg q]
    exact ac_same h e hk
theorem nl_le (x : Int32) : nl_n x ≤ 7 := by
  have key : ∀ (m : Int64) (l0 f i : Nat), nl_to m l0 f i ≤ l0 + i + f := by
    intro m l0 f
    induction f with
    | zero => intro i; exact Nat.le_refl _
    | succ f ih =>
      intro i
      show (if lg_cmp (nl_d m i) 0 ≤ 0 then l0 + i else nl_to m l0 f (i + 1)) ≤ _
      split
      · omega
      · have := ih (i + 1); omega
  have h := key (fm_mag x) (nl_0 x) (7 - nl_0 x) 0
  have h2 := nl_0_in x
  unfold nl_n
  omega
theorem nu_io {d : Nat} (x : Int32) (hd : d < 6) : ¬ xc_nu (nI d) 5 x = 1 := by
  unfold xc_nu
  have e1 : xt_dg 6 (nI d) = 0 := by
    unfold xt_dg
    rw [if_neg (nI_pos (by omega)), if_pos (show nI d < 6 from nI_lt (b := 6) hd (by decide))]
  rw [if_pos e1, if_pos (show xt_dg 6 5 = 0 by decide)]
  split <;> decide
theorem ac_num {T op k d : Nat} {x : Int32} {v : Nat → Int32} {o z : Nat} {sv : Nat → Nat → Int32} (h : jv T v o z sv) (hd : d < 6) (e : op = k) (hk : k ≤ 8) : ac_P T v z op (if xc_nu (nI d) 5 x = 0 then nI (nl_n x) else -2) (if xc_nu (nI d) 5 x = 0 then xv_rw 8 6 (fm_pa (fm_fg x (nI (nl_n x))) (nI (nl_n x)) (fm_mag x) (5 : Int32).toNatClampNeg (fun j => v (8 + j)) ((5 : Int32).toNatClampNeg + 1 - (nI d).toNatClampNeg)) v else v) (nI (if xc_nu (nI d) 5 x = 0 then (if z = 6 then (o + 1) % 6 else o) else o)) (nI (if xc_nu (nI d) 5 x = 0 then (if z = 6 then 6 else z + 1) else z)) (if xc_nu (nI d) 5 x = 0 then va_up sv (if z = 6 then o else (o + z) % 6) v else sv) := by
  by_cases q : xc_nu (nI d) 5 x = 0
  · rw [if_pos q, if_pos q, if_pos q, if_pos q, if_pos q]
    refine ac_push h (up_T (gd_num h.1 (by decide) ?_)) (nI_pos' (by have := nl_le x; omega)) (no8 e hk)
    rw [show (5 : Int32).toNatClampNeg = 5 by decide]
    omega
  · rw [if_neg q, if_neg q, if_neg q, if_neg q, if_neg q]
    exact ac_same h e hk
theorem jv_0 (sv : Nat → Nat → Int32) : jv 0 xv_0 0 0 sv := by
  refine ⟨⟨?_, ?_, ?_, ?_, ?_, ⟨0, Nat.le_refl 0, by decide, rfl, ?_⟩, ⟨rfl, by decide⟩, ⟨24, rfl, by decide, by decide⟩, ⟨rfl, by decide⟩, ⟨rfl, by decide⟩, ⟨rfl, by decide⟩, ⟨rfl, by decide⟩⟩, by decide, by decide, fun i hi => absurd hi (Nat.not_lt_zero i)⟩
  · intro j hj
    rcases (show j = 0 ∨ j = 1 ∨ j = 2 ∨ j = 3 ∨ j = 4 ∨ j = 5 by omega) with rfl | rfl | rfl | rfl | rfl | rfl <;> exact fm_ix_nI (k := 11) (by decide) (by decide)
  · intro j hj
    rcases (show j = 0 ∨ j = 1 ∨ j = 2 ∨ j = 3 ∨ j = 4 ∨ j = 5 by omega) with rfl | rfl | rfl | rfl | rfl | rfl <;> exact fm_ix_nI (k := 4) (by decide) (by decide)
  · intro j hj
    rcases (show j = 0 ∨ j = 1 ∨ j = 2 ∨ j = 3 ∨ j = 4 ∨ j = 5 by omega) with rfl | rfl | rfl | rfl | rfl | rfl <;> exact fm_ix_nI (k := 0) (by decide) (by decide)
  · intro j hj _
    rcases (show j = 0 ∨ j = 1 ∨ j = 2 ∨ j = 3 ∨ j = 4 ∨ j = 5 by omega) with rfl | rfl | rfl | rfl | rfl | rfl <;> rfl
  · decide
  · intro j hj
    refine ⟨0, Nat.le_refl 0, ?_, fun k hk => ?_⟩
    · rcases (show j = 0 ∨ j = 1 ∨ j = 2 ∨ j = 3 ∨ j = 4 ∨ j = 5 by omega) with rfl | rfl | rfl | rfl | rfl | rfl <;> rfl
    · have e : ∀ i, i < 42 → xv_0 (38 + i) = 0 := by decide
      rw [e _ (by omega)]
      exact fm_ix_nI (k := 0) (by decide) (by decide)

