/-! What holds of a state, p26's. -/
def gd (T : Nat) (v : Nat → Int32) : Prop :=
  (∀ j, j < 6 → fm_ix (v (8 + j)) 12) ∧ (∀ j, j < 6 → fm_ix (v (14 + j)) 16) ∧ (∀ j, j < 6 → fm_ix (v (20 + j)) 128) ∧
  (∀ j, j < 6 → v (14 + j) = 0 → v (26 + j) = 0) ∧ fm_sum (fun j => v (26 + j)) 6 = 0 ∧
  (∃ t, t ≤ T ∧ t < 2 ^ 20 ∧ v 0 = nI t ∧ ∀ j, j < 6 → ∃ c, c ≤ t ∧ v (32 + j) = nI c ∧ ∀ k, k < 7 → fm_ix (v (38 + (j * 7 + k))) (c + 1)) ∧
  fm_ix (v 1) 21 ∧ (∃ n, v 2 = nI n ∧ 6 ≤ n ∧ n ≤ 96) ∧ fm_ix (v 3) 2 ∧ fm_ix (v 4) 97 ∧ fm_ix (v 5) 21 ∧ fm_ix (v 6) 100
theorem gd_mono {T U : Nat} {v : Nat → Int32} (h : gd T v) (hU : T ≤ U) : gd U v := by
  obtain ⟨h1, h2, h3, h4, h5, ⟨t, h6, h7, h8⟩, h9⟩ := h
  exact ⟨h1, h2, h3, h4, h5, ⟨t, by omega, h7, h8⟩, h9⟩
theorem gd_of {T : Nat} {v w : Nat → Int32} (h : gd T v) (hs : ∀ j, j < 6 → fm_ix (w (8 + j)) 12) (hl : ∀ j, j < 6 → fm_ix (w (14 + j)) 16) (hb : ∀ j, j < 6 → fm_ix (w (20 + j)) 128)
    (hc : ∀ j, j < 6 → w (14 + j) = 0 → w (26 + j) = 0) (hz : fm_sum (fun j => w (26 + j)) 6 = 0) (ht : w 0 = v 0) (hls : ∀ j, j < 6 → w (32 + j) = v (32 + j)) (hw : ∀ i, 38 ≤ i → i < 80 → w i = v i ∨ w i = 0)
    (h1 : fm_ix (w 1) 21) (h2 : ∃ n, w 2 = nI n ∧ 6 ≤ n ∧ n ≤ 96) (h3 : fm_ix (w 3) 2) (h4 : fm_ix (w 4) 97) (h5 : fm_ix (w 5) 21) (h6 : fm_ix (w 6) 100) : gd T w := by
  obtain ⟨-, -, -, -, -, ⟨t, g0, g1, g2, g3⟩, -⟩ := h
  refine ⟨hs, hl, hb, hc, hz, ⟨t, g0, g1, by rw [ht]; exact g2, fun j hj => ?_⟩, h1, h2, h3, h4, h5, h6⟩
  obtain ⟨c, e1, e2, e3⟩ := g3 j hj
  refine ⟨c, e1, by rw [hls j hj]; exact e2, fun k hk => ?_⟩
  rcases hw (38 + (j * 7 + k)) (by omega) (by omega) with q | q
  · rw [q]; exact e3 k hk
  · rw [q]; exact fm_ix_nI (k := 0) (by omega) (by omega)
theorem gd_sg {T : Nat} {v w : Nat → Int32} (h : gd T v) (hs : ∀ j, j < 6 → fm_ix (w (8 + j)) 12) (ho : ∀ i, ¬ (8 ≤ i ∧ i < 14) → w i = v i) : gd T w := by
  obtain ⟨g1, g2, g3, g4, g5, g6, g7, g8, g9, g10, g11, g12⟩ := id h
  refine gd_of h hs (fun j hj => by rw [ho _ (by omega)]; exact g2 j hj) (fun j hj => by rw [ho _ (by omega)]; exact g3 j hj) (fun j hj q => by rw [ho _ (by omega)] at q ⊢; exact g4 j hj q) ?_ (ho _ (by omega)) (fun j hj => ho _ (by omega)) (fun i hi hi2 => Or.inl (ho _ (by omega))) (by rw [ho _ (by omega)]; exact g7) (by rw [ho _ (by omega)]; exact g8) (by rw [ho _ (by omega)]; exact g9) (by rw [ho _ (by omega)]; exact g10) (by rw [ho _ (by omega)]; exact g11) (by rw [ho _ (by omega)]; exact g12)
  rw [sum_c (f := fun j => w (26 + j)) (g := fun j => v (26 + j)) 6 (fun j hj => ho _ (by omega))]
  exact g5
theorem gd_show {T : Nat} {v : Nat → Int32} {d s : Nat} (h : gd T v) (hd : d < 6) (hs : s < 12) : gd T (upd v (8 + d) (nI s)) := by
  refine gd_sg h (fun j hj => ?_) (fun i hi => pk_un (by omega))
  by_cases e : j = d
  · rw [e, pk_us]; exact fm_ix_nI hs (by decide)
  · rw [pk_un (by omega)]; exact h.1 j hj
theorem gd_num {T : Nat} {v : Nat → Int32} {x fg ln : Int32} {last t : Nat} (h : gd T v) (hl : last < 6) (ht : t ≤ 6) : gd T (xv_rw 8 6 (fm_pa fg ln (fm_mag x) last (fun j => v (8 + j)) t) v) :=
  gd_sg h (fun j hj => by rw [xv_rw_i hj]; exact pa_ix hl h.1 t ht j hj) (fun i hi => xv_rw_o (by omega))
theorem gd_level {T : Nat} {v : Nat → Int32} {d s : Nat} (h : gd T v) (hd : d < 6) (hs : s < 16) : gd T (xv_zc (upd v (14 + d) (nI s))) := by
  obtain ⟨g1, g2, g3, g4, g5, g6, g7, g8, g9, g10, g11, g12⟩ := id h
  have z : ∀ j, j < 6 → xv_zc (upd v (14 + d) (nI s)) (26 + j) = 0 := fun j hj => if_pos (by omega)
  have o : ∀ i, ¬ (26 ≤ i ∧ i < 32) → ¬ i = 14 + d → xv_zc (upd v (14 + d) (nI s)) i = v i := fun i hi h2 => (if_neg hi).trans (pk_un h2)
  refine gd_of h (fun j hj => by rw [o _ (by omega) (by omega)]; exact g1 j hj) (fun j hj => ?_) (fun j hj => by rw [o _ (by omega) (by omega)]; exact g3 j hj) (fun j hj _ => z j hj) ?_ (o _ (by omega) (by omega)) (fun j hj => o _ (by omega) (by omega)) (fun i hi hi2 => Or.inl (o _ (by omega) (by omega))) (by rw [o _ (by omega) (by omega)]; exact g7) (by rw [o _ (by omega) (by omega)]; exact g8) (by rw [o _ (by omega) (by omega)]; exact g9) (by rw [o _ (by omega) (by omega)]; exact g10) (by rw [o _ (by omega) (by omega)]; exact g11) (by rw [o _ (by omega) (by omega)]; exact g12)
  · by_cases e : j = d
    · rw [e, show xv_zc (upd v (14 + d) (nI s)) (14 + d) = nI s from (if_neg (by omega)).trans pk_us]
      exact fm_ix_nI hs (by decide)
    · rw [o _ (by omega) (by omega)]; exact g2 j hj
  · rw [sum_c (f := fun j => xv_zc (upd v (14 + d) (nI s)) (26 + j)) (g := fun _ => 0) 6 (fun j hj => z j hj)]
    decide
theorem gd_amb {T : Nat} {v : Nat → Int32} {s : Nat} (h : gd T v) (hs : s < 21) : gd T (upd v 1 (nI s)) := by
  obtain ⟨g1, g2, g3, g4, g5, g6, g7, g8, g9, g10, g11, g12⟩ := id h
  have o : ∀ i, ¬ i = 1 → upd v 1 (nI s) i = v i := fun i hi => pk_un hi
  refine gd_of h (fun j hj => by rw [o _ (by omega)]; exact g1 j hj) (fun j hj => by rw [o _ (by omega)]; exact g2 j hj) (fun j hj => by rw [o _ (by omega)]; exact g3 j hj) (fun j hj q => by rw [o _ (by omega)] at q ⊢; exact g4 j hj q) ?_ (o _ (by omega)) (fun j hj => o _ (by omega)) (fun i hi hi2 => Or.inl (o _ (by omega))) (by rw [pk_us]; exact fm_ix_nI hs (by decide)) (by rw [o _ (by omega)]; exact g8) (by rw [o _ (by omega)]; exact g9) (by rw [o _ (by omega)]; exact g10) (by rw [o _ (by omega)]; exact g11) (by rw [o _ (by omega)]; exact g12)
  rw [sum_c (f := fun j => upd v 1 (nI s) (26 + j)) (g := fun j => v (26 + j)) 6 (fun j hj => o _ (by omega))]
  exact g5
theorem gd_set {T : Nat} {v : Nat → Int32} {k s : Nat} (h : gd T v) (hk : k < 5) (h0 : k = 0 → 6 ≤ s ∧ s ≤ 96) (h1 : k = 1 → s < 2) (h2 : k = 2 → s < 97) (h3 : k = 3 → s < 21) (h4 : k = 4 → s < 100) : gd T (upd v (2 + k) (nI s)) := by
  obtain ⟨g1, g2, g3, g4, g5, g6, g7, g8, g9, g10, g11, g12⟩ := id h
  have o : ∀ i, ¬ i = 2 + k → upd v (2 + k) (nI s) i = v i := fun i hi => pk_un hi
  have u : upd v (2 + k) (nI s) (2 + k) = nI s := pk_us
  refine gd_of h (fun j hj => by rw [o _ (by omega)]; exact g1 j hj) (fun j hj => by rw [o _ (by omega)]; exact g2 j hj) (fun j hj => by rw [o _ (by omega)]; exact g3 j hj) (fun j hj q => by rw [o _ (by omega)] at q ⊢; exact g4 j hj q) ?_ (o _ (by omega)) (fun j hj => o _ (by omega)) (fun i hi hi2 => Or.inl (o _ (by omega))) (by rw [o _ (by omega)]; exact g7) ?_ ?_ ?_ ?_ ?_
  · rw [sum_c (f := fun j => upd v (2 + k) (nI s) (26 + j)) (g := fun j => v (26 + j)) 6 (fun j hj => o _ (by omega))]
    exact g5
  · by_cases e : k = 0
    · subst e; exact ⟨s, u, h0 rfl⟩
    · rw [o _ (by omega)]; exact g8
  · by_cases e : k = 1
    · subst e; exact ix_of u (h1 rfl) (by decide)
    · rw [o _ (by omega)]; exact g9
  · by_cases e : k = 2
    · subst e; exact ix_of u (h2 rfl) (by decide)
    · rw [o _ (by omega)]; exact g10
  · by_cases e : k = 3
    · subst e; exact ix_of u (h3 rfl) (by decide)
    · rw [o _ (by omega)]; exact g11
  · by_cases e : k = 4
    · subst e; exact ix_of u (h4 rfl) (by decide)
    · rw [o _ (by omega)]; exact g12
theorem gd_burn {T : Nat} {v : Nat → Int32} {d s : Nat} {fl : Int32} (h : gd T v) (hd : d < 6) (hs : s < 7) : gd T (xv_bu v d s ((1 : Int32) <<< (nI s &&& 31)) fl) := by
  obtain ⟨g1, g2, g3, g4, g5, g6, g7, g8, g9, g10, g11, g12⟩ := id h
  obtain ⟨y, hy, ey⟩ := ix_n (g3 d hd)
  have o : ∀ i, ¬ i = 20 + d → i < 38 → xv_bu v d s ((1 : Int32) <<< (nI s &&& 31)) fl i = v i := fun i hi h2 => by
    unfold xv_bu
    split
    · rw [pk_un (by omega), pk_un (by omega)]
    · rw [pk_un (by omega)]
  refine gd_of h (fun j hj => by rw [o _ (by omega) (by omega)]; exact g1 j hj) (fun j hj => by rw [o _ (by omega) (by omega)]; exact g2 j hj) (fun j hj => ?_) (fun j hj q => by rw [o _ (by omega) (by omega)] at q ⊢; exact g4 j hj q) ?_ (o _ (by omega) (by omega)) (fun j hj => o _ (by omega) (by omega)) (fun i hi hi2 => ?_) (by rw [o _ (by omega) (by omega)]; exact g7) (by rw [o _ (by omega) (by omega)]; exact g8) (by rw [o _ (by omega) (by omega)]; exact g9) (by rw [o _ (by omega) (by omega)]; exact g10) (by rw [o _ (by omega) (by omega)]; exact g11) (by rw [o _ (by omega) (by omega)]; exact g12)
  · by_cases e : j = d
    · subst e
      unfold xv_bu
      split
      · rw [pk_un (by omega), pk_us, ey]
        obtain ⟨w, hw, ew⟩ := ob_no y hy s hs
        exact ix_of ew hw (by decide)
      · rw [pk_us, ey]
        obtain ⟨w, hw, ew⟩ := ob_or y hy s hs
        exact ix_of ew hw (by decide)
    · rw [o _ (by omega) (by omega)]; exact g3 j hj
  · rw [sum_c (f := fun j => xv_bu v d s ((1 : Int32) <<< (nI s &&& 31)) fl (26 + j)) (g := fun j => v (26 + j)) 6 (fun j hj => o _ (by omega) (by omega))]
    exact g5
  · unfold xv_bu
    split
    · by_cases e : i = 38 + (d * 7 + s)
      · right; rw [e, pk_us]
      · left; rw [pk_un e, pk_un (by omega)]
    · left; rw [pk_un (by omega)]
/-! a slot that goes by -/
theorem own_all {lv cr : Nat → Int32} : ∀ k, k < 2 ^ 31 → fm_own lv cr k = -1 → ∀ j, j < k → lv j ≤ 0
  | 0, _, _, j, hj => absurd hj (Nat.not_lt_zero j)
  | k + 1, hk, h, j, hj => by
    have nk : ¬ nI k = -1 := fun q => nI_pos (n := k) (by omega) (by rw [q]; decide)
    unfold fm_own at h
    by_cases q : lv k ≤ 0
    · rw [if_pos q] at h
      by_cases e : j = k
      · rw [e]; exact q
      · exact own_all k (by omega) h j (by omega)
    · rw [if_neg q] at h
      by_cases z : fm_own lv cr k = -1
      · rw [if_pos z] at h; exact absurd h nk
      · rw [if_neg z] at h
        split at h
        · exact absurd h z
        · exact absurd h nk
theorem own_pos {lv cr : Nat → Int32} : ∀ k, k < 2 ^ 31 → ¬ fm_own lv cr k = -1 → ¬ lv (fm_own lv cr k).toNatClampNeg ≤ 0
  | 0, _, h => absurd rfl h
  | k + 1, hk, h => by
    have ih := own_pos (lv := lv) (cr := cr) k (by omega)
    have ck : (nI k).toNatClampNeg = k := nI_clamp (by omega)
    unfold fm_own at h ⊢
    by_cases q : lv k ≤ 0
    · rw [if_pos q] at h ⊢
      exact ih h
    · rw [if_neg q] at h ⊢
      by_cases z : fm_own lv cr k = -1
      · rw [if_pos z, ck]; exact q
      · rw [if_neg z]
        split
        · exact ih z
        · rw [ck]; exact q
theorem own_none {lv cr : Nat → Int32} : ∀ k, (∀ j, j < k → lv j ≤ 0) → fm_own lv cr k = -1
  | 0, _ => rfl
  | k + 1, h => by
    unfold fm_own
    rw [if_pos (h k (by omega))]
    exact own_none k (fun j hj => h j (by omega))
theorem crd_sum {lv cr : Nat → Int32} (hl : ∀ j, j < 6 → fm_ix (lv j) 16) (hz : fm_sum cr 6 = 0) : fm_sum (fm_crd lv cr) 6 = 0 := by
  unfold fm_crd
  by_cases q : fm_own lv cr 6 = -1
  · have e : fm_sum (fun j => cr j + lv j) 6 = fm_sum cr 6 := sum_c (f := fun j => cr j + lv j) (g := cr) 6 (fun j hj => by
      show cr j + lv j = cr j
      rw [ix_le0' (hl j hj) (by decide) (own_all 6 (by decide) q j hj)]
      exact Int32.add_zero _)
    rw [if_pos q, e]
    exact hz
  · rw [if_neg q]
    have hk := (fm_own_at (by decide) q).2
    generalize (fm_own lv cr 6).toNatClampNeg = k at hk ⊢
    have e : fm_sum (upd (fun j => cr j + lv j) k (cr k + lv k - fm_sum lv 6)) 6 = fm_sum (fun j => cr j + lv j) 6 + - fm_sum lv 6 := by
      rw [Int32.sub_eq_add_neg]
      exact sum_upd (f := fun j => cr j + lv j) 6 hk
    rw [e, sum_add, hz, Int32.zero_add]
    exact Int32.add_right_neg _
theorem crd_0 {lv cr : Nat → Int32} {j : Nat} (hl : lv j = 0) (hc : cr j = 0) : fm_crd lv cr j = 0 := by
  have z : cr j + lv j = 0 := by rw [hl, hc]; decide
  unfold fm_crd
  by_cases q : fm_own lv cr 6 = -1
  · rw [if_pos q]
    exact z
  · have ne : j ≠ (fm_own lv cr 6).toNatClampNeg := fun e => own_pos 6 (by decide) q (by rw [← e, hl]; decide)
    rw [if_neg q, pk_un ne]
    exact z
theorem wow_o {sm : Int32} {d : Nat} {we : Nat → Int32} {i : Nat} : ∀ k, ¬ (d * 7 ≤ i ∧ i < d * 7 + k) → fm_wow sm d we k i = we i
  | 0, _ => rfl
  | k + 1, h => by
    unfold fm_wow
    split
    · rw [pk_un (by omega)]; exact wow_o k (by omega)
    · exact wow_o k (by omega)
theorem wow_i {sm : Int32} {d : Nat} {we : Nat → Int32} {i : Nat} : ∀ k, fm_wow sm d we k i = we i ∨ fm_wow sm d we k i = we i + 1
  | 0 => Or.inl rfl
  | k + 1 => by
    unfold fm_wow
    split
    · by_cases e : i = d * 7 + k
      · rw [e, pk_us, wow_o k (by omega)]; exact Or.inr rfl
      · rw [pk_un e]; exact wow_i k
    · exact wow_i k
theorem X_in (v : Nat → Int32) : xv_X v = -1 ∨ fm_ix (xv_X v) 6 := by
  by_cases q : xv_X v = -1
  · exact Or.inl q
  · exact Or.inr (fm_lit_at q)
theorem slot_v (v : Nat → Int32) : (∀ j, j < 6 → xv_slot v (20 + j) = sl_bu (fun j => v (8 + j)) (fun j => v (20 + j)) (fun j => v (38 + j)) (fun j => v (2 + j)) (xv_X v) j) ∧ (∀ j, j < 6 → xv_slot v (26 + j) = fm_crd (fun j => v (14 + j)) (fun j => v (26 + j)) j) ∧ (∀ j, j < 6 → xv_slot v (32 + j) = sl_ls (fun j => v (32 + j)) (xv_X v) j) ∧ (∀ j, j < 42 → xv_slot v (38 + j) = sl_we (fun j => v (8 + j)) (fun j => v (20 + j)) (fun j => v (38 + j)) (xv_X v) j) := by
  unfold xv_slot
  refine ⟨fun j hj => ?_, fun j hj => ?_, fun j hj => ?_, fun j hj => ?_⟩
  · rw [xv_rw_o (by omega), xv_rw_o (by omega), xv_rw_o (by omega), xv_rw_i hj]
  · rw [xv_rw_o (by omega), xv_rw_o (by omega), xv_rw_i hj]
  · rw [xv_rw_o (by omega), xv_rw_i hj]
  · rw [xv_rw_i hj]
theorem gd_slot {T : Nat} {v : Nat → Int32} (h : gd T v) (hT : T + 1 < 2 ^ 20) : gd (T + 1) (xv_slot v) := by
  obtain ⟨g1, g2, g3, g4, g5, ⟨t, t1, t2, t3, t4⟩, g7, g8, g9, g10, g11, g12⟩ := id h
  obtain ⟨s1, s2, s3, s4⟩ := slot_v v
  have lo : ∀ j, 0 < j ∧ j < 20 ∧ ¬ j = 7 → xv_slot v j = v j := fun j hj => slot_lo hj
  refine ⟨fun j hj => by rw [lo _ (by omega)]; exact g1 j hj, fun j hj => by rw [lo _ (by omega)]; exact g2 j hj, fun j hj => ?_, fun j hj q => ?_, ?_, ⟨t + 1, by omega, by omega, by rw [slot_0, t3, nI_1], fun j hj => ?_⟩, by rw [lo _ (by omega)]; exact g7, by rw [lo _ (by omega)]; exact g8, by rw [lo _ (by omega)]; exact g9, by rw [lo _ (by omega)]; exact g10, by rw [lo _ (by omega)]; exact g11, by rw [lo _ (by omega)]; exact g12⟩
  · rw [s1 j hj]
    unfold sl_bu
    split
    · exact g3 j hj
    · by_cases z : j = (xv_X v).toNatClampNeg
      · rw [z, pk_us]
        obtain ⟨y, hy, e⟩ := wob_ix (sm := sl_sm (fun j => v (8 + j)) (fun j => v (20 + j)) (xv_X v)) (life := v (2 + 4) * 100) (d := (xv_X v).toNatClampNeg) (we := fun j => v (38 + j)) (ix_n (g3 (xv_X v).toNatClampNeg (by omega))) 7 (Nat.le_refl 7)
        exact ix_of e hy (by decide)
      · rw [pk_un z]; exact g3 j hj
  · rw [lo _ (by omega)] at q
    rw [s2 j hj]
    exact crd_0 q (g4 j hj q)
  · rw [sum_c (f := fun j => xv_slot v (26 + j)) (g := fm_crd (fun j => v (14 + j)) (fun j => v (26 + j))) 6 s2]
    exact crd_sum g2 g5
  · obtain ⟨c, c1, c2, c3⟩ := t4 j hj
    have keep : xv_slot v (32 + j) = v (32 + j) → (∀ k, k < 7 → xv_slot v (38 + (j * 7 + k)) = v (38 + (j * 7 + k))) → ∃ c, c ≤ t + 1 ∧ xv_slot v (32 + j) = nI c ∧ ∀ k, k < 7 → fm_ix (xv_slot v (38 + (j * 7 + k))) (c + 1) := fun e1 e2 => ⟨c, by omega, by rw [e1]; exact c2, fun k hk => by rw [e2 k hk]; exact c3 k hk⟩
    rcases X_in v with hX | hX
    · refine keep ?_ (fun k hk => ?_)
      · rw [s3 j hj, sl_ls, if_pos hX]
      · rw [s4 _ (by omega), sl_we, if_pos hX]
    · have nX : ¬ xv_X v = -1 := fun q => ix_nn hX (by decide) (by rw [q]; decide)
      by_cases e : j = (xv_X v).toNatClampNeg
      · refine ⟨c + 1, by omega, ?_, fun k hk => ?_⟩
        · rw [s3 j hj, sl_ls, if_neg nX, ← e, pk_us]
          show v (32 + j) + 1 = _
          rw [c2, nI_1]
        · rw [s4 _ (by omega), sl_we, if_neg nX]
          obtain ⟨y, hy, ey⟩ := ix_n (c3 k hk)
          rcases wow_i (sm := sl_sm (fun j => v (8 + j)) (fun j => v (20 + j)) (xv_X v)) (d := (xv_X v).toNatClampNeg) (we := fun j => v (38 + j)) (i := j * 7 + k) 7 with z | z
          · rw [z]
            exact ix_of ey (by omega) (by omega)
          · rw [z]
            refine ix_of (y := y + 1) ?_ (by omega) (by omega)
            show v (38 + (j * 7 + k)) + 1 = _
            rw [ey, nI_1]
      · refine keep ?_ (fun k hk => ?_)
        · rw [s3 j hj, sl_ls, if_neg nX, pk_un e]
        · rw [s4 _ (by omega), sl_we, if_neg nX, wow_o 7 (by omega)]
theorem gd_it {T : Nat} {v : Nat → Int32} (h : gd T v) : ∀ k, T + k < 2 ^ 20 → gd (T + k) (xv_it v k)
  | 0, _ => h
  | k + 1, hk => gd_slot (gd_it h k (by omega)) (by omega)
/-! burnt segments -/
def bsum (v : Nat → Int32) : Int32 := fm_sum (fun j => fm_bc (v (20 + j))) 6
theorem ob_1 : ∀ y, y < 128 → ∀ k, k < 7 → (y / 2 ^ k) % 2 = 0 → nI y ||| ((1 : Int32) <<< (nI k &&& 31)) = nI (y ||| 2 ^ k) ∧ y ||| 2 ^ k < 128 ∧ fm_bc (nI (y ||| 2 ^ k)) = fm_bc (nI y) + 1 ∧ (y ||| 2 ^ k) / 2 ^ (k + 1) = y / 2 ^ (k + 1) := by decide +kernel
theorem ob_2 : ∀ s, s < 12 → ∀ b, b < 128 → ∀ k, k < 7 → fm_bit (fm_shw (nI s) (nI b)) k = 1 → (b / 2 ^ k) % 2 = 0 := by decide +kernel
theorem wob_n {s b d : Nat} {life : Int32} {we : Nat → Int32} (hs : s < 12) (hb : b < 128) : ∀ k, k ≤ 7 → ∃ y, y < 128 ∧ fm_wob (fm_shw (nI s) (nI b)) life d we (nI b) k = nI y ∧ y / 2 ^ k = b / 2 ^ k ∧ ∃ m, m ≤ k ∧ fm_won (fm_shw (nI s) (nI b)) life d we k = nI m ∧ fm_bc (nI y) = fm_bc (nI b) + nI m
  | 0, _ => ⟨b, hb, rfl, rfl, 0, Nat.le_refl 0, rfl, (Int32.add_zero _).symm⟩
  | k + 1, hk => by
    obtain ⟨y, h1, h2, h3, m, h4, h5, h6⟩ := wob_n (d := d) (life := life) (we := we) hs hb k (by omega)
    have same : ∃ y', y' < 128 ∧ nI y = nI y' ∧ y' / 2 ^ (k + 1) = b / 2 ^ (k + 1) ∧ ∃ m', m' ≤ k + 1 ∧ nI m = nI m' ∧ fm_bc (nI y') = fm_bc (nI b) + nI m' := ⟨y, h1, rfl, by rw [Nat.pow_succ, ← Nat.div_div_eq_div_mul, h3, Nat.div_div_eq_div_mul], m, by omega, rfl, h6⟩
    unfold fm_wob fm_won
    rw [h2, h5]
    by_cases q : fm_bit (fm_shw (nI s) (nI b)) k = 1
    · rw [if_pos q, if_pos q]
      by_cases q2 : life ≤ 0
      · rw [if_pos q2, if_pos q2]; exact same
      · rw [if_neg q2, if_neg q2]
        by_cases q3 : fm_wow (fm_shw (nI s) (nI b)) d we k (d * 7 + k) + 1 < life
        · rw [if_pos q3, if_pos q3]; exact same
        · rw [if_neg q3, if_neg q3]
          obtain ⟨o1, o2, o3, o4⟩ := ob_1 y h1 k (by omega) (by rw [h3]; exact ob_2 s hs b hb k (by omega) q)
          refine ⟨y ||| 2 ^ k, o2, o1, ?_, m + 1, by omega, nI_1 m, ?_⟩
          · rw [o4, Nat.pow_succ, ← Nat.div_div_eq_div_mul, h3, Nat.div_div_eq_div_mul]
          · rw [o3, h6, Int32.add_assoc, nI_1]
    · rw [if_neg q, if_neg q]; exact same
theorem bs_slot {T : Nat} {v : Nat → Int32} (h : gd T v) : ∃ m, m ≤ 7 ∧ xv_sn v = nI m ∧ bsum (xv_slot v) = bsum v + xv_sn v := by
  obtain ⟨g1, g2, g3, -⟩ := h
  obtain ⟨s1, -⟩ := slot_v v
  rcases X_in v with hX | hX
  · have e0 : xv_sn v = 0 := by unfold xv_sn sl_n; rw [if_pos hX]
    refine ⟨0, by decide, e0, ?_⟩
    rw [e0, Int32.add_zero]
    unfold bsum
    refine sum_c (f := fun j => fm_bc (xv_slot v (20 + j))) (g := fun j => fm_bc (v (20 + j))) 6 (fun j hj => ?_)
    show fm_bc (xv_slot v (20 + j)) = fm_bc (v (20 + j))
    rw [s1 j hj, sl_bu, if_pos hX]
  · have nX : ¬ xv_X v = -1 := fun q => ix_nn hX (by decide) (by rw [q]; decide)
    have hd := hX.2
    obtain ⟨s, hs, es⟩ := ix_n (g1 _ hd)
    obtain ⟨b, hb, eb⟩ := ix_n (g3 _ hd)
    have esm : sl_sm (fun j => v (8 + j)) (fun j => v (20 + j)) (xv_X v) = fm_shw (nI s) (nI b) := by
      unfold sl_sm
      rw [← es, ← eb]
    obtain ⟨y, h1, h2, -, m, h4, h5, h6⟩ := wob_n (d := (xv_X v).toNatClampNeg) (life := v (2 + 4) * 100) (we := fun j => v (38 + j)) hs hb 7 (Nat.le_refl 7)
    have e0 : xv_sn v = nI m := by
      unfold xv_sn sl_n
      rw [if_neg nX, esm]
      exact h5
    refine ⟨m, h4, e0, ?_⟩
    rw [e0]
    unfold bsum
    have e1 : ∀ j, j < 6 → fm_bc (xv_slot v (20 + j)) = upd (fun j => fm_bc (v (20 + j))) (xv_X v).toNatClampNeg ((fun j => fm_bc (v (20 + j))) (xv_X v).toNatClampNeg + nI m) j := fun j hj => by
      rw [s1 j hj, sl_bu, if_neg nX, esm]
      by_cases e : j = (xv_X v).toNatClampNeg
      · rw [e, pk_us, pk_us]
        show fm_bc (fm_wob _ _ _ _ (v (20 + (xv_X v).toNatClampNeg)) 7) = fm_bc (v (20 + (xv_X v).toNatClampNeg)) + nI m
        rw [eb, ← h6, ← h2]
      · rw [pk_un e, pk_un e]
    rw [sum_c (f := fun j => fm_bc (xv_slot v (20 + j))) 6 e1]
    exact sum_upd (f := fun j => fm_bc (v (20 + j))) 6 hd
theorem bs_it {T : Nat} {v : Nat → Int32} (h : gd T v) : ∀ k, T + k < 2 ^ 20 → ∃ m, m ≤ 7 * k ∧ xv_in v k = nI m ∧ bsum (xv_it v k) = bsum v + xv_in v k
  | 0, _ => ⟨0, Nat.le_refl 0, rfl, (Int32.add_zero _).symm⟩
  | k + 1, hk => by
    obtain ⟨m, h1, h2, h3⟩ := bs_it h k (by omega)
    obtain ⟨m2, h4, h5, h6⟩ := bs_slot (gd_it h k (by omega))
    refine ⟨m + m2, by omega, ?_, ?_⟩
    · show xv_in v k + xv_sn (xv_it v k) = _
      rw [h2, h5, nI_add]
    · show bsum (xv_slot (xv_it v k)) = bsum v + (xv_in v k + xv_sn (xv_it v k))
      rw [h6, h3, Int32.add_assoc]
