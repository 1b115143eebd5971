/-! The model's frames and looks. -/
def vo_f (v : Nat → Int32) (n : Nat) : Prop := v 2 = nI n ∧ 6 ≤ n ∧ n ≤ 96 ∧ (v 0 = 0 → v 7 = -1) ∧ ∃ t, t ≤ 99999 ∧ v 0 = nI t
theorem fs_li_0 {s0 : Nat → Int32} (h : s0 0 = 0 → s0 7 = -1) : ml_by (s0 3) (fs_ow s0 0) (s0 7) (s0 0 + nI 0) = fs_li s0 0 := ml_lit (fun q => h (by rw [show s0 0 + nI 0 = s0 0 from Int32.add_zero _] at q; exact q))
theorem fs_li_s {s0 : Nat → Int32} {i t : Nat} (h : s0 0 = nI t) (ht : t ≤ 99999) (hi : i < 96) (h0 : 0 < i) : ml_by (s0 3) (fs_ow s0 i) (fs_ow s0 (i - 1)) (s0 0 + nI i) = fs_li s0 i := by
  obtain ⟨j, rfl⟩ : ∃ j, i = j + 1 := ⟨i - 1, by omega⟩
  refine ml_lit (fun q => ?_)
  rw [h, nI_add] at q
  exact absurd q (nI_ne0 (by omega) (by omega))
theorem nI_pos0 {i : Nat} (hi : i < 2 ^ 31) (h : ¬ nI i = 0) : 0 < i := Nat.pos_of_ne_zero (fun q => h (by rw [q]; rfl))
theorem nI_z {i : Nat} (hi : i < 2 ^ 31) (h : nI i = 0) : i = 0 := (nI_eq (a := i) (b := 0) hi (by decide)).mp h
/-! in a frame: dark slots, changes -/
def mc_ch (G : Nat → Int32) : Nat → Int32
  | 0 => 0
  | k + 1 => fm_chg G k
def mi_fr (d0 : Int32) (G F : Nat → Int32) (i : Nat) : Int32 := if d0 = 0 then mc_ch G i else fm_cntT F (fun _ => -1) i
theorem mi_0 (d0 : Int32) (G F : Nat → Int32) : 0 = mi_fr d0 G F 0 := by
  unfold mi_fr
  split <;> rfl
theorem mi_c0 {d0 : Int32} {G F : Nat → Int32} {i : Nat} (h : d0 = 0) (h0 : nI i ≤ 0) (hi : i < 96) : mi_fr d0 G F i + 0 = mi_fr d0 G F (i + 1) := by
  have e : i = 0 := by
    have := (nI_leI (a := i) (b := 0) (by omega) (by decide)).mp h0
    omega
  subst e
  unfold mi_fr
  rw [if_pos h, if_pos h]
  rfl
theorem mi_c1 {d0 : Int32} {G F : Nat → Int32} {i : Nat} (h : d0 = 0) (h0 : 0 < i) (q : G i = G (i - 1)) : mi_fr d0 G F i + 0 = mi_fr d0 G F (i + 1) := by
  obtain ⟨j, rfl⟩ : ∃ j, i = j + 1 := ⟨i - 1, by omega⟩
  unfold mi_fr
  rw [if_pos h, if_pos h, Int32.add_zero]
  show fm_chg G j = if G (j + 1) = G j then fm_chg G j else fm_chg G j + 1
  exact (if_pos q).symm
theorem mi_c2 {d0 : Int32} {G F : Nat → Int32} {i : Nat} (h : d0 = 0) (h0 : 0 < i) (q : ¬ G i = G (i - 1)) : mi_fr d0 G F i + 1 = mi_fr d0 G F (i + 1) := by
  obtain ⟨j, rfl⟩ : ∃ j, i = j + 1 := ⟨i - 1, by omega⟩
  unfold mi_fr
  rw [if_pos h, if_pos h]
  show fm_chg G j + 1 = if G (j + 1) = G j then fm_chg G j else fm_chg G j + 1
  exact (if_neg q).symm
theorem mi_d0 {d0 : Int32} {G F : Nat → Int32} {i : Nat} (h : ¬ d0 = 0) (q : ¬ F i = -1) : mi_fr d0 G F i + 0 = mi_fr d0 G F (i + 1) := by
  unfold mi_fr
  rw [if_neg h, if_neg h, Int32.add_zero]
  show _ = if F i = -1 then fm_cntT F (fun _ => -1) i + 1 else fm_cntT F (fun _ => -1) i
  exact (if_neg q).symm
theorem mi_d1 {d0 : Int32} {G F : Nat → Int32} {i : Nat} (h : ¬ d0 = 0) (q : F i = -1) : mi_fr d0 G F i + 1 = mi_fr d0 G F (i + 1) := by
  unfold mi_fr
  rw [if_neg h, if_neg h]
  show _ = if F i = -1 then fm_cntT F (fun _ => -1) i + 1 else fm_cntT F (fun _ => -1) i
  exact (if_pos q).symm
theorem cntF_z {x : Nat → Int32} {k : Nat} (q : x k = 0) : fm_cntF x (fun _ => 0) k + 0 = fm_cntF x (fun _ => 0) (k + 1) := by
  rw [Int32.add_zero]
  show _ = if x k = 0 then fm_cntF x (fun _ => 0) k else fm_cntF x (fun _ => 0) k + 1
  exact (if_pos q).symm
theorem cntF_o {x : Nat → Int32} {k : Nat} (q : ¬ x k = 0) : fm_cntF x (fun _ => 0) k + 1 = fm_cntF x (fun _ => 0) (k + 1) := by
  show _ = if x k = 0 then fm_cntF x (fun _ => 0) k else fm_cntF x (fun _ => 0) k + 1
  exact (if_neg q).symm
/-! another level -/
def th_v (v : Nat → Int32) (d : Nat) (lev : Int32) : Nat → Int32 := upd (xv_zc v) (14 + d) lev
theorem th_lo {v : Nat → Int32} {d : Nat} {lev : Int32} {j : Nat} (h : j < 14) : th_v v d lev j = v j := by
  unfold th_v xv_zc
  rw [pk_un (by omega)]
  exact if_neg (by omega)
theorem th_ok {v : Nat → Int32} {d n : Nat} {lev : Int32} (h : vo_f v n) : vo_f (th_v v d lev) n := by
  obtain ⟨h1, h2, h3, h4, t, h5, h6⟩ := h
  unfold vo_f
  rw [th_lo (by decide), th_lo (by decide), th_lo (by decide)]
  exact ⟨h1, h2, h3, h4, t, h5, h6⟩
theorem fm_own_c {lv lv' cr cr' : Nat → Int32} (h1 : ∀ j, j < 6 → lv' j = lv j) (h2 : ∀ j, j < 6 → cr' j = cr j) : ∀ k, k ≤ 6 → fm_own lv' cr' k = fm_own lv cr k
  | 0, _ => rfl
  | k + 1, hk => by
    have ih := fm_own_c h1 h2 k (by omega)
    unfold fm_own
    rw [ih, h1 k (by omega), h2 k (by omega)]
    split
    · rfl
    · split
      · rfl
      · rename_i q
        have := (fm_own_at (lv := lv) (cr := cr) (k := k) (by omega) q).2
        rw [h1 _ (show _ < 6 by omega), h2 _ (show _ < 6 by omega)]
theorem fm_crd_c {lv lv' cr cr' : Nat → Int32} (h1 : ∀ j, j < 6 → lv' j = lv j) (h2 : ∀ j, j < 6 → cr' j = cr j) : ∀ j, j < 6 → fm_crd lv' cr' j = fm_crd lv cr j := by
  intro j hj
  unfold fm_crd
  rw [fm_own_c h1 h2 6 (Nat.le_refl 6)]
  split
  · show cr' j + lv' j = cr j + lv j
    rw [h1 j hj, h2 j hj]
  · rename_i q
    have := (fm_own_at (lv := lv) (cr := cr) (k := 6) (by decide) q).2
    rw [h1 _ this, h2 _ this, fm_sum_c h1]
    unfold upd
    split
    · rfl
    · show cr' j + lv' j = cr j + lv j
      rw [h1 j hj, h2 j hj]
theorem fr_cr_c {lv lv' cr cr' : Nat → Int32} (h1 : ∀ j, j < 6 → lv' j = lv j) (h2 : ∀ j, j < 6 → cr' j = cr j) : ∀ k, ∀ j, j < 6 → fr_cr lv' cr' k j = fr_cr lv cr k j
  | 0 => h2
  | k + 1 => fm_crd_c h1 (fr_cr_c h1 h2 k)
theorem fr_ow_c {lv lv' cr cr' : Nat → Int32} (h1 : ∀ j, j < 6 → lv' j = lv j) (h2 : ∀ j, j < 6 → cr' j = cr j) : fr_ow lv' cr' = fr_ow lv cr := by
  funext k
  exact fm_own_c h1 (fr_cr_c h1 h2 k) 6 (Nat.le_refl 6)
theorem fr_li_c {lv lv' cr cr' : Nat → Int32} (h1 : ∀ j, j < 6 → lv' j = lv j) (h2 : ∀ j, j < 6 → cr' j = cr j) (ah dk : Int32) : fr_li lv' cr' ah dk = fr_li lv cr ah dk := by
  funext k
  unfold fr_li
  rw [fr_ow_c h1 h2]
  cases k with
  | zero => rfl
  | succ k =>
    show fm_litIn _ (fr_ow lv' cr' k) dk = fm_litIn _ (fr_ow lv cr k) dk
    rw [fr_ow_c h1 h2]
theorem th_li {v : Nat → Int32} {d : Nat} {lev : Int32} (hd : d < 6) : fs_li (th_v v d lev) = if_li v d lev := by
  unfold fs_li if_li
  rw [th_lo (by decide), th_lo (by decide)]
  refine fr_li_c (fun j hj => ?_) (fun j hj => ?_) _ _
  · show upd (xv_zc v) (14 + d) lev (14 + j) = upd (fun j => v (14 + j)) d lev j
    unfold upd xv_zc
    by_cases e : j = d
    · rw [if_pos (by omega), if_pos e]
    · rw [if_neg (by omega), if_neg e, if_neg (by omega)]
  · show upd (xv_zc v) (14 + d) lev (26 + j) = 0
    unfold upd xv_zc
    rw [if_neg (by omega), if_pos (by omega)]
theorem th_see {v : Nat → Int32} {d n j : Nat} {lev : Int32} : lk_see (fr_gp (if_li v d lev) n) (fr_ls (if_li v d lev) n) (th_v v d lev 2) (th_v v d lev 4) (th_v v d lev 5 * th_v v d lev 1) j = if_see v n d lev j := by
  rw [th_lo (by decide), th_lo (by decide), th_lo (by decide), th_lo (by decide)]
  rfl
/-! the number shown -/
def sn_x (v : Nat → Int32) (ff : Nat) : Nat → Int32
  | 0 => 0
  | k + 1 => 10 * sn_x v ff k + v (8 + (ff + k))
def sn_is (clr v : Nat → Int32) (is : Int32) (ff : Nat) : Nat → Int32
  | 0 => is
  | k + 1 => if sn_is clr v is ff k = 0 then 0 else if 10 ≤ v (8 + (ff + k)) then 0 else if clr (ff + k) = 0 then 0 else 1
theorem sn_10 (x : Int32) : 10 ≤ x ↔ 9 < x := by
  rw [Int32.le_iff_toInt_le, Int32.lt_iff_toInt_lt, show (10 : Int32).toInt = 10 by decide, show (9 : Int32).toInt = 9 by decide]
  omega
theorem sn_z {clr v : Nat → Int32} {is : Int32} {ff : Nat} : ∀ {k m : Nat}, sn_is clr v is ff k = 0 → sn_is clr v is ff (k + m) = 0
  | _, 0, h => h
  | k, m + 1, h => by
    show (if sn_is clr v is ff (k + m) = 0 then 0 else _) = _
    rw [if_pos (sn_z h)]
theorem sn_go {clr v : Nat → Int32} {is ng : Int32} {ff : Nat} : ∀ (m k : Nat), ff + k + m = 6 → ¬ sn_is clr v is ff k = 0 → (if sn_is clr v is ff (k + m) = 0 then -1 else if ng = 0 then sn_x v ff (k + m) else -sn_x v ff (k + m)) = cn_go clr v ng m (ff + k) (sn_x v ff k)
  | 0, k, _, h => by
    show (if sn_is clr v is ff k = 0 then -1 else if ng = 0 then sn_x v ff k else -sn_x v ff k) = if ng = 0 then sn_x v ff k else -sn_x v ff k
    rw [if_neg h]
  | m + 1, k, hm, h => by
    have e : sn_is clr v is ff (k + 1) = if sn_is clr v is ff k = 0 then 0 else if 10 ≤ v (8 + (ff + k)) then 0 else if clr (ff + k) = 0 then 0 else 1 := rfl
    rw [if_neg h] at e
    have e3 : k + (m + 1) = (k + 1) + m := by omega
    show _ = if 9 < v (8 + (ff + k)) then -1 else if clr (ff + k) = 0 then -1 else cn_go clr v ng m (ff + k + 1) (10 * sn_x v ff k + v (8 + (ff + k)))
    by_cases q1 : 10 ≤ v (8 + (ff + k))
    · rw [if_pos q1] at e
      rw [if_pos ((sn_10 _).mp q1), e3, sn_z e, if_pos rfl]
    · rw [if_neg q1] at e
      rw [if_neg (fun q => q1 ((sn_10 _).mpr q))]
      by_cases q2 : clr (ff + k) = 0
      · rw [if_pos q2] at e
        rw [if_pos q2, e3, sn_z e, if_pos rfl]
      · rw [if_neg q2] at e
        rw [if_neg q2, e3]
        exact sn_go m (k + 1) (by omega) (by rw [e]; decide)
/-- whether it can be shown, from its first figure on -/
def sn_b (clr v : Nat → Int32) (i : Nat) : Int32 := if cn_ng v i = 0 then 1 else if clr i = 0 then 0 else 1
def sn_c (clr v : Nat → Int32) (i : Nat) : Int32 := if sn_b clr v i = 0 then 0 else if nI (cn_ff v i) < 6 then 1 else 0
def sn_end (clr v : Nat → Int32) (i : Nat) : Int32 := if sn_is clr v (sn_c clr v i) (cn_ff v i) (6 - cn_ff v i) = 0 then -1 else if cn_ng v i = 0 then sn_x v (cn_ff v i) (6 - cn_ff v i) else -sn_x v (cn_ff v i) (6 - cn_ff v i)
theorem sn_all (clr v : Nat → Int32) {i : Nat} (hi : i ≤ 6) : sn_end clr v i = cn_end clr v i := by
  have hff : cn_ff v i ≤ 7 := by unfold cn_ff; split <;> omega
  unfold sn_end cn_end
  by_cases q6 : 6 ≤ nI (cn_ff v i)
  · rw [if_pos q6]
    have hc : sn_c clr v i = 0 := by
      unfold sn_c
      split
      · rfl
      · exact if_neg (Int32.not_lt.mpr q6)
    have := sn_z (clr := clr) (v := v) (is := sn_c clr v i) (ff := cn_ff v i) (k := 0) (m := 6 - cn_ff v i) hc
    rw [Nat.zero_add] at this
    rw [this, if_pos rfl]
  · rw [if_neg q6]
    have h5 : cn_ff v i < 6 := by
      rcases Nat.lt_or_ge (cn_ff v i) 6 with h | h
      · exact h
      · exact absurd (nI_le (a := 6) h (by omega)) q6
    have hgo := fun (is : Int32) (h : ¬ is = 0) => sn_go (clr := clr) (v := v) (is := is) (ng := cn_ng v i) (ff := cn_ff v i) (6 - cn_ff v i) 0 (by omega) h
    simp only [Nat.zero_add, Nat.add_zero] at hgo
    by_cases q0 : cn_ng v i = 0
    · have hc : sn_c clr v i = 1 := by
        unfold sn_c sn_b
        rw [if_pos q0, if_neg (show ¬ (1 : Int32) = 0 by decide), if_pos (Int32.not_le.mp q6)]
      rw [if_pos q0, hc]
      rw [if_pos q0]
      have := hgo 1 (by decide)
      rw [if_pos q0] at this
      exact this
    · rw [if_neg q0]
      by_cases q1 : clr i = 0
      · have hc : sn_c clr v i = 0 := by
          unfold sn_c sn_b
          rw [if_neg q0, if_pos q1, if_pos rfl]
        have := sn_z (clr := clr) (v := v) (is := sn_c clr v i) (ff := cn_ff v i) (k := 0) (m := 6 - cn_ff v i) hc
        rw [Nat.zero_add] at this
        rw [if_pos q1, this, if_pos rfl, if_neg q0]
      · have hc : sn_c clr v i = 1 := by
          unfold sn_c sn_b
          rw [if_neg q0, if_neg q1, if_neg (show ¬ (1 : Int32) = 0 by decide), if_pos (Int32.not_le.mp q6)]
        rw [if_neg q1, hc]
        have := hgo 1 (by decide)
        rw [if_neg q0] at this ⊢
        exact this
/-! the light shared -/
def me_l (lv lt : Nat → Int32) : Nat → Int32
  | 0 => -1
  | k + 1 => if lv k ≤ 0 then me_l lv lt k else if me_l lv lt k = -1 then lt k else if lt k < me_l lv lt k then lt k else me_l lv lt k
theorem me_eq {lv lt : Nat → Int32} (h : ∀ j, j < 6 → 0 ≤ (lt j).toInt ∧ (lt j).toInt ≤ 1000) : ∀ k, k ≤ 6 → (me_l lv lt k = -1 ∧ le_l lv lt k = 1000 ∧ le_g lv lt k = 0) ∨ (me_l lv lt k = le_l lv lt k ∧ ¬ me_l lv lt k = -1)
  | 0, _ => Or.inl ⟨rfl, rfl, rfl⟩
  | k + 1, hk => by
    have h1 := h k (by omega)
    have hb := le_in (lv := lv) h k (by omega)
    have nn : ¬ lt k = -1 := fun q => by rw [q] at h1; exact absurd h1.1 (by decide)
    have ih := me_eq (lv := lv) h k (by omega)
    unfold me_l le_l le_g
    split
    · exact ih
    · rcases ih with ⟨h2, h3, h4⟩ | ⟨h2, h3⟩
      · right
        rw [if_pos h2, h3]
        refine ⟨?_, nn⟩
        split
        · rfl
        · rename_i q
          have q2 := Int32.le_iff_toInt_le.mp (Int32.not_lt.mp q)
          have e : (1000 : Int32).toInt = 1000 := by decide
          exact Int32.toInt.inj (by omega)
      · right
        rw [if_neg h3, h2]
        refine ⟨rfl, ?_⟩
        split
        · exact nn
        · rw [← h2]; exact h3
theorem le_g0 {lv lt : Nat → Int32} (h : ∀ j, j < 6 → 0 ≤ (lt j).toInt ∧ (lt j).toInt ≤ 1000) : le_g lv lt 6 ≤ 0 ↔ le_g lv lt 6 = 0 := by
  obtain ⟨-, h2, -⟩ := le_in (lv := lv) h 6 (Nat.le_refl 6)
  constructor
  · intro q
    have q2 := Int32.le_iff_toInt_le.mp q
    have e : (0 : Int32).toInt = 0 := by decide
    exact Int32.toInt.inj (by omega)
  · intro q; rw [q]; exact Int32.le_refl 0
theorem me_sh {lv lt : Nat → Int32} (h : ∀ j, j < 6 → 0 ≤ (lt j).toInt ∧ (lt j).toInt ≤ 1000) (q : ¬ le_g lv lt 6 = 0) : FP.ddiv (FP.i2d (me_l lv lt 6)) (FP.i2d (le_g lv lt 6)) = le_sh lv lt := by
  unfold le_sh
  rw [if_neg (fun z => q ((le_g0 h).mp z))]
  rcases me_eq h 6 (Nat.le_refl 6) with ⟨-, -, h4⟩ | ⟨h2, -⟩
  · exact absurd h4 q
  · rw [h2]
theorem me_s0 {lv lt : Nat → Int32} (h : ∀ j, j < 6 → 0 ≤ (lt j).toInt ∧ (lt j).toInt ≤ 1000) (q : le_g lv lt 6 = 0) : FP.dconst1 = le_sh lv lt := by
  unfold le_sh
  rw [if_pos ((le_g0 h).mpr q)]
theorem fp_gpos {lv lt : Nat → Int32} (h : ∀ j, j < 6 → 0 ≤ (lt j).toInt ∧ (lt j).toInt ≤ 1000) (q : ¬ le_g lv lt 6 = 0) : 0 < (le_g lv lt 6).toInt := by
  obtain ⟨-, h2, -⟩ := le_in (lv := lv) h 6 (Nat.le_refl 6)
  rcases Int.lt_or_le 0 (le_g lv lt 6).toInt with z | z
  · exact z
  · exact absurd (Int32.toInt.inj (by have e : (0 : Int32).toInt = 0 := by decide
                                      omega)) q
