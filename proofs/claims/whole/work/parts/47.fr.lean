/-! What the model's calls do to the row. -/
theorem xv_zc_lo {v : Nat → Int32} {j : Nat} (h : j < 26) : xv_zc v j = v j := if_neg (by omega)
theorem xv_zc_up {v : Nat → Int32} {k : Nat} {x : Int32} (h : k < 26) : upd (xv_zc v) k x = xv_zc (upd v k x) := by
  funext j
  show (if j = k then x else if 26 ≤ j ∧ j < 32 then 0 else v j) = if 26 ≤ j ∧ j < 32 then 0 else if j = k then x else v j
  by_cases e : j = k
  · subst e
    rw [if_pos rfl, if_neg (by omega), if_pos rfl]
  · rw [if_neg e, if_neg e]
theorem mb_all : ∀ y, y < 128 → ∀ s, s < 7 → ((nI y >>> (nI s &&& 31)) &&& 1) = if nI y &&& ((1 : Int32) <<< (nI s &&& 31)) = 0 then 0 else 1 := by decide +kernel
theorem mb_bit {x p : Int32} {s : Nat} (hx : ∃ y, y < 128 ∧ x = nI y) (hp : p = nI s) (hs : s < 7) : ((x >>> (p &&& 31)) &&& 1) = if x &&& ((1 : Int32) <<< (p &&& 31)) = 0 then 0 else 1 := by
  obtain ⟨y, hy, rfl⟩ := hx
  subst hp
  exact mb_all y hy s hs
/-- a text that is read, digit by digit -/
def rr_v (v tl : Nat → Int32) : Nat → (Nat → Int32)
  | 0 => v
  | k + 1 => if tl (2 * k + 1) = -1 then upd (rr_v v tl k) (8 + k) (tl (2 * k)) else xv_zc (upd (upd (rr_v v tl k) (8 + k) (tl (2 * k))) (14 + k) (tl (2 * k + 1)))
theorem rd_s_c {sg sg' g : Nat → Int32} : ∀ {p : Nat}, (∀ k, k < p → sg' k = sg k) → rd_s sg' g p = rd_s sg g p
  | 0, _ => rfl
  | p + 1, h => by
    unfold rd_s
    rw [rd_s_c (fun k hk => h k (by omega)), h p (by omega)]
theorem rd_l_c {sg sg' g : Nat → Int32} : ∀ {p : Nat}, (∀ k, k < p → sg' k = sg k) → rd_l sg' g p = rd_l sg g p
  | 0, _ => rfl
  | p + 1, h => by
    unfold rd_l
    rw [rd_l_c (fun k hk => h k (by omega)), h p (by omega)]
theorem rd_f_c {sg sg' : Nat → Int32} : ∀ {p : Nat}, (∀ k, k < p → sg' k = sg k) → rd_f sg' p = rd_f sg p
  | 0, _ => rfl
  | p + 1, h => by
    unfold rd_f
    rw [rd_f_c (fun k hk => h k (by omega)), h p (by omega)]
theorem xv_re_c {v sg sg' lv lv' : Nat → Int32} {p : Nat} (h1 : ∀ k, k < p → sg' k = sg k) (h2 : ∀ k, k < p → lv' k = lv k) : xv_re v p sg' lv' = xv_re v p sg lv := by
  unfold xv_re
  rw [rd_s_c h1, rd_l_c h2, rd_f_c h2]
theorem rd_s_o {sg g : Nat → Int32} : ∀ {p j : Nat}, p ≤ j → rd_s sg g p j = g j
  | 0, _, _ => rfl
  | p + 1, j, h => by
    show upd (rd_s sg g p) p (sg p) j = g j
    rw [pk_un (by omega)]
    exact rd_s_o (by omega)
theorem rd_l_o {sg g : Nat → Int32} : ∀ {p j : Nat}, p ≤ j → rd_l sg g p j = g j
  | 0, _, _ => rfl
  | p + 1, j, h => by
    show (if sg p = -1 then rd_l sg g p else upd (rd_l sg g p) p (sg p)) j = g j
    split
    · exact rd_l_o (by omega)
    · rw [pk_un (by omega)]
      exact rd_l_o (by omega)
theorem rr_at (v tl : Nat → Int32) : ∀ p, p ≤ 6 → ∀ j, rr_v v tl p j = if 8 ≤ j ∧ j < 14 then rd_s (fun k => tl (2 * k)) (fun j => v (8 + j)) p (j - 8) else if 14 ≤ j ∧ j < 20 then rd_l (fun k => tl (2 * k + 1)) (fun j => v (14 + j)) p (j - 14) else if 26 ≤ j ∧ j < 32 then (if rd_f (fun k => tl (2 * k + 1)) p = 0 then v j else 0) else v j
  | 0, _, j => by
    unfold rr_v rd_s rd_l rd_f
    rw [if_pos rfl]
    (repeat' split) <;> first | rfl | (congr 1; omega)
  | p + 1, hp, j => by
    have ih := rr_at v tl p (by omega) j
    unfold rr_v
    by_cases q : tl (2 * p + 1) = -1
    · rw [if_pos q]
      have e1 : rd_l (fun k => tl (2 * k + 1)) (fun j => v (14 + j)) (p + 1) = rd_l (fun k => tl (2 * k + 1)) (fun j => v (14 + j)) p := if_pos q
      have e2 : rd_f (fun k => tl (2 * k + 1)) (p + 1) = rd_f (fun k => tl (2 * k + 1)) p := if_pos q
      rw [e1, e2]
      unfold upd rd_s upd
      by_cases e : j = 8 + p
      · subst e
        rw [if_pos rfl, if_pos (by omega), Nat.add_sub_cancel_left, if_pos rfl]
      · rw [if_neg e, ih]
        by_cases z : 8 ≤ j ∧ j < 14
        · rw [if_pos z, if_pos z, if_neg (by omega)]
        · rw [if_neg z, if_neg z]
    · rw [if_neg q]
      have e1 : rd_l (fun k => tl (2 * k + 1)) (fun j => v (14 + j)) (p + 1) = upd (rd_l (fun k => tl (2 * k + 1)) (fun j => v (14 + j)) p) p (tl (2 * p + 1)) := if_neg q
      have e2 : rd_f (fun k => tl (2 * k + 1)) (p + 1) = 1 := if_neg q
      rw [e1, e2, if_neg (show ¬ (1 : Int32) = 0 by decide)]
      unfold xv_zc
      by_cases z3 : 26 ≤ j ∧ j < 32
      · rw [if_pos z3, if_neg (by omega), if_neg (by omega), if_pos z3]
      · rw [if_neg z3, if_neg z3]
        rw [if_neg z3] at ih
        unfold rd_s upd
        by_cases e : j = 14 + p
        · subst e
          rw [if_pos rfl, if_neg (by omega), if_pos (by omega), Nat.add_sub_cancel_left, if_pos rfl]
        · rw [if_neg e]
          by_cases e' : j = 8 + p
          · subst e'
            rw [if_pos rfl, if_pos (by omega), Nat.add_sub_cancel_left, if_pos rfl]
          · rw [if_neg e', ih]
            by_cases z : 8 ≤ j ∧ j < 14
            · rw [if_pos z, if_pos z, if_neg (by omega)]
            · rw [if_neg z, if_neg z]
              by_cases z2 : 14 ≤ j ∧ j < 20
              · rw [if_pos z2, if_pos z2, if_neg (by omega)]
              · rw [if_neg z2, if_neg z2]
theorem rr_re (v tl : Nat → Int32) {p : Nat} (hp : p ≤ 6) : rr_v v tl p = xv_re v p (fun k => tl (2 * k)) (fun k => tl (2 * k + 1)) := by
  funext j
  rw [rr_at v tl p hp j]
  unfold xv_re
  by_cases q : rd_f (fun k => tl (2 * k + 1)) p = 0
  · rw [if_pos q, if_pos q]
    unfold xv_rw
    by_cases z : 8 ≤ j ∧ j < 14
    · rw [if_pos z, if_pos z]
    · rw [if_neg z, if_neg z]
      by_cases z2 : 14 ≤ j ∧ j < 20
      · rw [if_pos z2, if_pos z2]
      · rw [if_neg z2, if_neg z2]
        split <;> rfl
  · rw [if_neg q, if_neg q]
    unfold xv_zc xv_rw
    by_cases z3 : 26 ≤ j ∧ j < 32
    · rw [if_neg (by omega), if_neg (by omega), if_pos z3, if_pos z3]
    · rw [if_neg z3, if_neg z3]
/-- read, by the scan -/
theorem rr_sc {co v tl sg lv : Nat → Int32} {n p : Nat} (hp : p ≤ 6) (h : tb_t co n p tl) : rr_v v tl p = xv_re v p (sc_s co sg n) (sc_l co lv n) := by
  rw [rr_re v tl hp]
  exact xv_re_c (fun k hk => (h k hk).1 sg) (fun k hk => (h k hk).2 lv)
theorem ap_60 {n : Nat} (hn : n ≤ 60) : (¬ nI n = 60) ↔ nI n < 60 := by
  rw [show (nI n = 60) ↔ n = 60 from nI_eq (a := n) (b := 60) (by omega) (by decide), show (nI n < 60) ↔ n < 60 from nI_ltI (a := n) (b := 60) (by omega) (by decide)]
  omega
