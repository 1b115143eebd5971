/-! What holds of both objects between the calls. -/
def ok_v (v : Nat → Int32) : Prop := vo_s v ∧ vo_b v ∧ vo_l v ∧ ∃ n, vo_f v n
def iv (v : Nat → Int32) (o z : Nat) (sv : Nat → Nat → Int32) (pv : Nat → Int32) (n0 : Nat) : Prop := ok_v v ∧ o < 6 ∧ z ≤ 6 ∧ n0 ≤ 60 ∧ ∀ i, i < z → ok_v (sv ((o + i) % 6)) ∧ ∀ j, j < 80 → pv (80 * i + j) = sv ((o + i) % 6) j
theorem iv_push {v w : Nat → Int32} {o z n0 : Nat} {sv : Nat → Nat → Int32} {pv : Nat → Int32} (h : iv v o z sv pv n0) (hw : ok_v w) : iv w (if z = 6 then (o + 1) % 6 else o) (if z = 6 then 6 else z + 1) (va_up sv (if z = 6 then o else (o + z) % 6) v) (mp_sv pv z v) n0 := by
  obtain ⟨h1, h2, h3, h4, h5⟩ := h
  by_cases q : z = 6
  · rw [if_pos q, if_pos q, if_pos q]
    unfold mp_sv
    rw [if_pos q]
    refine ⟨hw, Nat.mod_lt _ (by decide), Nat.le_refl 6, h4, fun i hi => ?_⟩
    by_cases e : i = 5
    · have e2 : ((o + 1) % 6 + i) % 6 = o := by omega
      rw [e2]
      have e3 : va_up sv o v o = v := by simp [va_up]
      rw [e3]
      refine ⟨h1, fun j hj => ?_⟩
      rw [e, show 80 * 5 + j = 400 + j by omega]
      exact xv_rw_i hj
    · have e2 : ((o + 1) % 6 + i) % 6 = (o + (i + 1)) % 6 := by omega
      have e4 : ¬ (o + (i + 1)) % 6 = o := by omega
      rw [e2]
      have e3 : va_up sv o v ((o + (i + 1)) % 6) = sv ((o + (i + 1)) % 6) := by simp [va_up, e4]
      rw [e3]
      obtain ⟨g1, g2⟩ := h5 (i + 1) (by omega)
      refine ⟨g1, fun j hj => ?_⟩
      rw [xv_rw_o (by omega), mp_sh_i (by omega), show 80 * i + j + 80 = 80 * (i + 1) + j by omega]
      exact g2 j hj
  · rw [if_neg q, if_neg q, if_neg q]
    unfold mp_sv
    rw [if_neg q]
    refine ⟨hw, h2, by omega, h4, fun i hi => ?_⟩
    by_cases e : i = z
    · rw [e]
      have e3 : va_up sv ((o + z) % 6) v ((o + z) % 6) = v := by simp [va_up]
      rw [e3]
      exact ⟨h1, fun j hj => xv_rw_i hj⟩
    · have e4 : ¬ (o + i) % 6 = (o + z) % 6 := by omega
      have e3 : va_up sv ((o + z) % 6) v ((o + i) % 6) = sv ((o + i) % 6) := by simp [va_up, e4]
      rw [e3]
      obtain ⟨g1, g2⟩ := h5 i (by omega)
      refine ⟨g1, fun j hj => ?_⟩
      rw [xv_rw_o (by omega)]
      exact g2 j hj
theorem iv_pop {v : Nat → Int32} {o z n0 : Nat} {sv : Nat → Nat → Int32} {pv : Nat → Int32} (h : iv v o z sv pv n0) (hz : 0 < z) : iv (sv ((o + (z - 1)) % 6)) o (z - 1) sv pv n0 := ⟨(h.2.2.2.2 (z - 1) (by omega)).1, h.2.1, by have := h.2.2.1; omega, h.2.2.2.1, fun i hi => h.2.2.2.2 i (by omega)⟩
theorem iv_text {v : Nat → Int32} {o z n0 n1 : Nat} {sv : Nat → Nat → Int32} {pv : Nat → Int32} (h : iv v o z sv pv n0) (hn : n1 ≤ 60) : iv v o z sv pv n1 := ⟨h.1, h.2.1, h.2.2.1, hn, h.2.2.2.2⟩
/-- a row that agrees where it is asked -/
theorem okv_c {v w : Nat → Int32} (h : ok_v v) (hs : vo_s w) (hb : ∀ j, j < 6 → w (20 + j) = v (20 + j)) (h0 : w 0 = v 0) (h7 : w 7 = v 7) (h2 : w 2 = v 2) (h6 : w 6 = v 6) : ok_v w := by
  obtain ⟨-, g2, g3, n, g4⟩ := h
  refine ⟨hs, fun j hj => by rw [hb j hj]; exact g2 j hj, by unfold vo_l; rw [h6]; exact g3, n, ?_⟩
  unfold vo_f
  rw [h0, h7, h2]
  exact g4
theorem ix_rg {x : Int32} {b : Nat} (hb : b < 2 ^ 30) (h : xt_rg x 0 (nI b) = 0) : fm_ix x (b + 1) := by
  obtain ⟨h1, -, h3⟩ := xc_n (a := 0) (b := b) h rfl rfl (by omega) (Nat.zero_le b)
  exact ⟨h1, by omega⟩
theorem okv_show {v : Nat → Int32} {k : Nat} {x : Int32} (h : ok_v v) (hk : k < 6) (hx : xt_rg x 0 11 = 0) : ok_v (upd v (8 + k) x) := by
  refine okv_c h (fun j hj => ?_) (fun j hj => pk_un (by omega)) (pk_un (by omega)) (pk_un (by omega)) (pk_un (by omega)) (pk_un (by omega))
  by_cases e : j = k
  · rw [e, pk_us]; exact ix_rg (b := 11) (by decide) hx
  · rw [pk_un (by omega)]; exact h.1 j hj
theorem okv_level {v : Nat → Int32} {k : Nat} {x : Int32} (h : ok_v v) (hk : k < 6) : ok_v (xv_zc (upd v (14 + k) x)) := by
  have e : ∀ j, j < 26 → ¬ j = 14 + k → xv_zc (upd v (14 + k) x) j = v j := fun j hj hn => by rw [xv_zc_lo hj, pk_un hn]
  exact okv_c h (fun j hj => by rw [e _ (by omega) (by omega)]; exact h.1 j hj) (fun j hj => e _ (by omega) (by omega)) (e _ (by omega) (by omega)) (e _ (by omega) (by omega)) (e _ (by omega) (by omega)) (e _ (by omega) (by omega))
theorem okv_amb {v : Nat → Int32} {x : Int32} (h : ok_v v) : ok_v (upd v 1 x) := okv_c h (fun j hj => by rw [pk_un (by omega)]; exact h.1 j hj) (fun j hj => pk_un (by omega)) (pk_un (by decide)) (pk_un (by decide)) (pk_un (by decide)) (pk_un (by decide))
theorem okv_set {v : Nat → Int32} {k : Nat} {x : Int32} (h : ok_v v) (hk : k < 5) (hx : xt_rg x (xm_lo k) (xm_hi k) = 0) : ok_v (upd v (2 + k) x) := by
  obtain ⟨g1, g2, g3, n, f1, f2, f3, f4, f5⟩ := h
  have s1 : vo_s (upd v (2 + k) x) := fun j hj => by rw [pk_un (by omega)]; exact g1 j hj
  have s2 : vo_b (upd v (2 + k) x) := fun j hj => by rw [pk_un (by omega)]; exact g2 j hj
  have e0 : upd v (2 + k) x 0 = v 0 := pk_un (by omega)
  have e7 : upd v (2 + k) x 7 = v 7 := pk_un (by omega)
  have s3 : vo_l (upd v (2 + k) x) := by
    unfold vo_l
    by_cases e : k = 4
    · subst e
      obtain ⟨q1, -, q3⟩ := xc_n (a := 0) (b := 99) hx rfl rfl (by decide) (by decide)
      exact ⟨_, q3, by rw [show upd v (2 + 4) x 6 = x from pk_us]; exact q1⟩
    · rw [pk_un (by omega)]; exact g3
  by_cases e : k = 0
  · subst e
    obtain ⟨q1, q2, q3⟩ := xc_n (a := 6) (b := 96) hx rfl rfl (by decide) (by decide)
    refine ⟨s1, s2, s3, x.toNatClampNeg, ?_, q2, q3, ?_, ?_⟩
    · rw [show upd v (2 + 0) x 2 = x from pk_us]; exact q1
    · rw [e0, e7]; exact f4
    · rw [e0]; exact f5
  · refine ⟨s1, s2, s3, n, ?_, f2, f3, ?_, ?_⟩
    · rw [pk_un (by omega)]; exact f1
    · rw [e0, e7]; exact f4
    · rw [e0]; exact f5
theorem ob_or : ∀ y, y < 128 → ∀ s, s < 7 → ∃ w, w < 128 ∧ nI y ||| ((1 : Int32) <<< (nI s &&& 31)) = nI w := by
  have key : ∀ y, y < 128 → ∀ s, s < 7 → nI y ||| ((1 : Int32) <<< (nI s &&& 31)) = nI (y ||| 2 ^ s) ∧ y ||| 2 ^ s < 128 := by decide +kernel
  exact fun y hy s hs => ⟨_, (key y hy s hs).2, (key y hy s hs).1⟩
theorem ob_no : ∀ y, y < 128 → ∀ s, s < 7 → ∃ w, w < 128 ∧ nI y &&& (((1 : Int32) <<< (nI s &&& 31)) ^^^ (-1)) = nI w := by
  have key : ∀ y, y < 128 → ∀ s, s < 7 → nI y &&& (((1 : Int32) <<< (nI s &&& 31)) ^^^ (-1)) = nI (y &&& (127 - 2 ^ s)) ∧ y &&& (127 - 2 ^ s) < 128 := by decide +kernel
  exact fun y hy s hs => ⟨_, (key y hy s hs).2, (key y hy s hs).1⟩
theorem okv_burn {v : Nat → Int32} {k s : Nat} {p fl : Int32} (h : ok_v v) (hk : k < 6) (hs : s < 7) (hp : p = nI s) : ok_v (xv_bu v k s ((1 : Int32) <<< (p &&& 31)) fl) := by
  subst hp
  obtain ⟨y, hy, ey⟩ := h.2.1 k hk
  have low : ∀ j, j < 20 → xv_bu v k s ((1 : Int32) <<< (nI s &&& 31)) fl j = v j := fun j hj => by
    unfold xv_bu
    split
    · rw [pk_un (by omega), pk_un (by omega)]
    · rw [pk_un (by omega)]
  refine ⟨fun j hj => by rw [low _ (by omega)]; exact h.1 j hj, fun j hj => ?_, by unfold vo_l; rw [low _ (by decide)]; exact h.2.2.1, ?_⟩
  · by_cases e : j = k
    · subst e
      unfold xv_bu
      split
      · rw [pk_un (by omega), pk_us, ey]
        exact ob_no y hy s hs
      · rw [pk_us, ey]
        exact ob_or y hy s hs
    · have e3 : xv_bu v k s ((1 : Int32) <<< (nI s &&& 31)) fl (20 + j) = v (20 + j) := by
        unfold xv_bu
        split
        · rw [pk_un (by omega), pk_un (by omega)]
        · rw [pk_un (by omega)]
      rw [e3]
      exact h.2.1 j hj
  · obtain ⟨n, f⟩ := h.2.2.2
    refine ⟨n, ?_⟩
    unfold vo_f
    rw [low _ (by decide), low _ (by decide), low _ (by decide)]
    exact f
theorem pv_ix (x fg ln : Int32) (t : Nat) (ht : t < 100) : fm_ix (fm_pv fg ln (fm_mag x) t) 12 := by
  by_cases q : fg ≤ nI t
  · unfold fm_pv
    rw [if_pos q]
    split
    · exact fm_ix_nI (k := 11) (by decide) (by decide)
    · exact fm_ix_nI (k := 10) (by decide) (by decide)
  · rw [pv_n (fun s hs => fun z => q (Int32.le_trans z (nI_le (by omega) (by omega))))]
    exact fm_ix_nI (by omega) (by decide)
theorem pa_ix {x fg ln : Int32} {last : Nat} {sg : Nat → Int32} (hl : last < 6) (h : ∀ j, j < 6 → fm_ix (sg j) 12) : ∀ t, t ≤ 6 → ∀ j, j < 6 → fm_ix (fm_pa fg ln (fm_mag x) last sg t j) 12
  | 0, _ => h
  | t + 1, ht => fun j hj => by
    show fm_ix (upd (fm_pa fg ln (fm_mag x) last sg t) (last - t) (fm_pv fg ln (fm_mag x) t) j) 12
    by_cases e : j = last - t
    · rw [e, pk_us]; exact pv_ix x fg ln t (by omega)
    · rw [pk_un e]; exact pa_ix hl h t (by omega) j hj
theorem okv_num {v : Nat → Int32} {x fg ln : Int32} {last t : Nat} (h : ok_v v) (hl : last < 6) (ht : t ≤ 6) : ok_v (xv_rw 8 6 (fm_pa fg ln (fm_mag x) last (fun j => v (8 + j)) t) v) := by
  refine okv_c h (fun j hj => ?_) (fun j hj => xv_rw_o (by omega)) (xv_rw_o (by omega)) (xv_rw_o (by omega)) (xv_rw_o (by omega)) (xv_rw_o (by omega))
  rw [xv_rw_i hj]
  exact pa_ix hl h.1 t ht j hj
/-! slots that go by -/
theorem wob_ix {sm life : Int32} {d : Nat} {we : Nat → Int32} {b : Int32} (h : ∃ y, y < 128 ∧ b = nI y) : ∀ k, k ≤ 7 → ∃ y, y < 128 ∧ fm_wob sm life d we b k = nI y
  | 0, _ => h
  | k + 1, hk => by
    obtain ⟨y, hy, e⟩ := wob_ix (sm := sm) (life := life) (d := d) (we := we) h k (by omega)
    unfold fm_wob
    (repeat' split) <;> first | exact ⟨y, hy, e⟩ | (rw [e]; exact ob_or y hy k (by omega))
theorem slot_lo {v : Nat → Int32} {j : Nat} (h : 0 < j ∧ j < 20 ∧ ¬ j = 7) : xv_slot v j = v j := by
  unfold xv_slot
  rw [xv_rw_o (by omega), xv_rw_o (by omega), xv_rw_o (by omega), xv_rw_o (by omega), pk_un (by omega), pk_un (by omega)]
theorem slot_0 {v : Nat → Int32} : xv_slot v 0 = v 0 + 1 := by
  unfold xv_slot
  rw [xv_rw_o (by decide), xv_rw_o (by decide), xv_rw_o (by decide), xv_rw_o (by decide), pk_un (by decide), pk_us]
theorem slot_b {v : Nat → Int32} (h : vo_b v) : vo_b (xv_slot v) := by
  intro j hj
  have e : xv_slot v (20 + j) = sl_bu (fun j => v (8 + j)) (fun j => v (20 + j)) (fun j => v (38 + j)) (fun j => v (2 + j)) (xv_X v) j := by
    unfold xv_slot
    rw [xv_rw_o (by omega), xv_rw_o (by omega), xv_rw_o (by omega), xv_rw_i hj]
  rw [e]
  unfold sl_bu
  split
  · exact h j hj
  · by_cases z : j = (xv_X v).toNatClampNeg
    · rw [z, pk_us]
      exact wob_ix (h _ (by omega)) 7 (Nat.le_refl 7)
    · rw [pk_un z]
      exact h j hj
theorem it_lo {v : Nat → Int32} {j : Nat} (h : 0 < j ∧ j < 20 ∧ ¬ j = 7) : ∀ k, xv_it v k j = v j
  | 0 => rfl
  | k + 1 => (slot_lo h).trans (it_lo h k)
theorem it_0 {v : Nat → Int32} {t : Nat} (h : v 0 = nI t) : ∀ k, xv_it v k 0 = nI (t + k)
  | 0 => h
  | k + 1 => by
    show xv_slot (xv_it v k) 0 = _
    rw [slot_0, it_0 h k]
    exact nI_1 (t + k)
theorem it_b {v : Nat → Int32} (h : vo_b v) : ∀ k, vo_b (xv_it v k)
  | 0 => h
  | k + 1 => slot_b (it_b h k)
theorem it_g {v : Nat → Int32} (h : ok_v v) (k : Nat) (hk : k < 500) : vo_s (xv_it v k) ∧ vo_l (xv_it v k) ∧ vo_t (xv_it v k) := by
  obtain ⟨g1, g2, g3, n, f1, f2, f3, f4, t, f5, f6⟩ := h
  refine ⟨fun j hj => by rw [it_lo (by omega)]; exact g1 j hj, by unfold vo_l; rw [it_lo (by decide)]; exact g3, fun q => ?_⟩
  rcases Nat.eq_zero_or_pos k with z | z
  · subst z
    exact f4 q
  · exfalso
    rw [it_0 f6 k] at q
    exact nI_ne0 (by omega) (by omega) q
theorem okv_run {v : Nat → Int32} {x : Int32} (h : ok_v v) (hx : xt_rg x 1 500 = 0) (ht : v 0 + x ≤ 99999) : ok_v (xv_it v x.toNatClampNeg) := by
  obtain ⟨q1, q2, q3⟩ := xc_n (a := 1) (b := 500) hx rfl rfl (by decide) (by decide)
  obtain ⟨g1, g2, g3, n, f1, f2, f3, f4, t, f5, f6⟩ := h
  have hb : t + x.toNatClampNeg ≤ 99999 := by
    rw [f6, q1, nI_add] at ht
    exact (nI_leI (a := t + x.toNatClampNeg) (b := 99999) (by omega) (by decide)).mp ht
  refine ⟨fun j hj => by rw [it_lo (by omega)]; exact g1 j hj, it_b g2 _, by unfold vo_l; rw [it_lo (by decide)]; exact g3, n, by rw [it_lo (by decide)]; exact f1, f2, f3, fun q => ?_, t + x.toNatClampNeg, hb, it_0 f6 _⟩
  exfalso
  rw [it_0 f6] at q
  exact nI_ne0 (by omega) (by omega) q
/-! a text that is read -/
theorem so_ix {x : Int32} (h : ¬ tx_so x = -1) : fm_ix (tx_so x) 12 := by
  rw [tc_so] at h ⊢
  by_cases z1 : xt_rg x 48 57 = 0
  · rw [if_pos z1]
    obtain ⟨y, hy, -, e⟩ := tc_fig_n x z1
    rw [e]
    exact fm_ix_nI (by omega) (by decide)
  · rw [if_neg z1] at h ⊢
    by_cases z2 : xt_rg x 45 45 = 0
    · rw [if_pos z2]; exact fm_ix_nI (k := 10) (by decide) (by decide)
    · rw [if_neg z2] at h ⊢
      by_cases z3 : xt_rg x 95 95 = 0
      · rw [if_pos z3]; exact fm_ix_nI (k := 11) (by decide) (by decide)
      · rw [if_neg z3] at h
        exact absurd rfl h
theorem tx_by_4 {α β : Type} (c pl : Int32) : (∀ (lev two star sgn : α), tx_by c pl lev two star sgn = lev) ∧ (∀ (lev two star sgn : β), tx_by c pl lev two star sgn = lev) ∨ (∀ (lev two star sgn : α), tx_by c pl lev two star sgn = two) ∧ (∀ (lev two star sgn : β), tx_by c pl lev two star sgn = two) ∨ (∀ (lev two star sgn : α), tx_by c pl lev two star sgn = star) ∧ (∀ (lev two star sgn : β), tx_by c pl lev two star sgn = star) ∨ (∀ (lev two star sgn : α), tx_by c pl lev two star sgn = sgn) ∧ (∀ (lev two star sgn : β), tx_by c pl lev two star sgn = sgn) := by
  unfold tx_by
  (repeat' split) <;> first | exact Or.inl ⟨fun _ _ _ _ => rfl, fun _ _ _ _ => rfl⟩ | exact Or.inr (Or.inl ⟨fun _ _ _ _ => rfl, fun _ _ _ _ => rfl⟩) | exact Or.inr (Or.inr (Or.inl ⟨fun _ _ _ _ => rfl, fun _ _ _ _ => rfl⟩)) | exact Or.inr (Or.inr (Or.inr ⟨fun _ _ _ _ => rfl, fun _ _ _ _ => rfl⟩))
theorem sc_ix {co sg : Nat → Int32} : ∀ i, ∀ k, k < (sc_ap co i).1 → fm_ix (sc_s co sg i k) 12
  | 0, k, h => absurd h (Nat.not_lt_zero k)
  | i + 1, k, h => by
    have ih := sc_ix (co := co) (sg := sg) i
    have h' : k < tx_a (co i) (sc_ap co i).1 (sc_ap co i).2 := h
    show fm_ix (tx_s (co i) (sc_ap co i).1 (sc_ap co i).2 (sc_s co sg i) k) 12
    unfold tx_a at h'
    unfold tx_s
    rcases tx_by_4 (α := Nat) (β := Nat → Int32) (co i) (sc_ap co i).2 with ⟨e1, e2⟩ | ⟨e1, e2⟩ | ⟨e1, e2⟩ | ⟨e1, e2⟩
    · rw [e1] at h'; rw [e2]; exact ih k h'
    · rw [e1] at h'; rw [e2]; exact ih k h'
    · rw [e1] at h'; rw [e2]; exact ih k h'
    · rw [e1] at h'; rw [e2]
      unfold tx_sa at h'
      unfold tx_ss
      by_cases q1 : tx_so (co i) = -1
      · rw [if_pos q1] at h' ⊢; exact ih k h'
      · rw [if_neg q1] at h' ⊢
        by_cases q2 : nI (sc_ap co i).1 < 6
        · rw [if_pos q2] at h' ⊢
          by_cases e : k = (sc_ap co i).1
          · rw [e, pk_us]; exact so_ix q1
          · rw [pk_un e]; exact ih k (by omega)
        · rw [if_neg q2] at h' ⊢; exact ih k h'
theorem rd_s_ix {sg g : Nat → Int32} (hg : ∀ j, j < 6 → fm_ix (g j) 12) : ∀ p, (∀ k, k < p → fm_ix (sg k) 12) → ∀ j, j < 6 → fm_ix (rd_s sg g p j) 12
  | 0, _ => hg
  | p + 1, h => fun j hj => by
    show fm_ix (upd (rd_s sg g p) p (sg p) j) 12
    by_cases e : j = p
    · rw [e, pk_us]; exact h p (by omega)
    · rw [pk_un e]; exact rd_s_ix hg p (fun k hk => h k (by omega)) j hj
theorem okv_read {v sg lv : Nat → Int32} {p : Nat} (h : ok_v v) (hs : ∀ k, k < p → fm_ix (sg k) 12) : ok_v (xv_re v p sg lv) := by
  have base : ok_v (xv_rw 8 6 (rd_s sg (fun j => v (8 + j)) p) (xv_rw 14 6 (rd_l lv (fun j => v (14 + j)) p) v)) := by
    refine okv_c h (fun j hj => ?_) (fun j hj => (xv_rw_o (by omega)).trans (xv_rw_o (by omega))) ((xv_rw_o (by omega)).trans (xv_rw_o (by omega))) ((xv_rw_o (by omega)).trans (xv_rw_o (by omega))) ((xv_rw_o (by omega)).trans (xv_rw_o (by omega))) ((xv_rw_o (by omega)).trans (xv_rw_o (by omega)))
    rw [xv_rw_i hj]
    exact rd_s_ix h.1 p hs j hj
  unfold xv_re
  split
  · exact base
  · exact okv_c base (fun j hj => by rw [xv_zc_lo (by omega)]; exact base.1 j hj) (fun j hj => xv_zc_lo (by omega)) (xv_zc_lo (by decide)) (xv_zc_lo (by decide)) (xv_zc_lo (by decide)) (xv_zc_lo (by decide))
theorem okv_0 : ok_v xv_0 := by
  refine ⟨?_, ?_, ⟨0, by decide, rfl⟩, 24, rfl, by decide, by decide, fun _ => rfl, 0, by decide, rfl⟩
  · intro j hj
    rcases (show j = 0 ∨ j = 1 ∨ j = 2 ∨ j = 3 ∨ j = 4 ∨ j = 5 by omega) with rfl | rfl | rfl | rfl | rfl | rfl <;> exact fm_ix_nI (k := 11) (by decide) (by decide)
  · intro j hj
    refine ⟨0, by decide, ?_⟩
    rcases (show j = 0 ∨ j = 1 ∨ j = 2 ∨ j = 3 ∨ j = 4 ∨ j = 5 by omega) with rfl | rfl | rfl | rfl | rfl | rfl <;> rfl
theorem iv_0 (pv : Nat → Int32) (sv : Nat → Nat → Int32) : iv xv_0 0 0 sv pv 0 := ⟨okv_0, by decide, by decide, by decide, fun i hi => absurd hi (Nat.not_lt_zero i)⟩
section XMS
variable {p : Program} {l : Launch} {e : Env} {R : Room} {s : State} {m : MethodId} {args : Array Value} {below : List Frame} {meth : Method} {c : Code} {H : Heap} {locs : List Loc} {cells slots : Nat} {Q : State → Prop}
variable {cc : ByteArray} {pc : Nat} {ls : Array Slot} {rest : List Value} {A : Nat → Prop} {H0 : Heap}
theorem xm_sld (hexec : p.tables.exec = Jvm.exec) (hb : c.code = cc) {b L : Nat} {xs : Nat → Int32} (hX : va_X b L xs s H0) (hbl : b < H0.size) (hbA : ¬ A b) (hS : va_S A H0 H locs) (k : Nat) {i : Int32} (hL : L < 2 ^ 31) (hi : i = nI k) (hk : k < L) (hdg : decode cc pc = .ok (.iaload, 1))
    (kk : W p l e R s m args below meth c H locs cells slots Q (F0 m (pc + 1) ls (.int (xs k) :: rest))) : W p l e R s m args below meth c H locs cells slots Q (F0 m pc ls (.int i :: .ref b :: rest)) := by
  subst hi
  have hc : (nI k).toNatClampNeg = k := nI_clamp (Nat.lt_trans hk hL)
  exact va_sld hexec hb hX hbl hbA hS (vp_in_nI hk hL) hdg (by rw [hc]; exact kk)
end XMS
