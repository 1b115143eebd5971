/-! read, and the digest. -/
theorem le_min {lv lt : Nat → Int32} : ∀ k, 0 < le_g lv lt k → le_l lv lt k ≤ le_g lv lt k
  | 0, h => absurd h (by show ¬ (0 : Int32) < 0; decide)
  | k + 1, h => by
    unfold le_g at h ⊢
    unfold le_l
    split
    · rename_i q
      rw [if_pos q] at h
      exact le_min k h
    · have h1 : (if lt k < le_l lv lt k then lt k else le_l lv lt k) ≤ lt k := by
        split
        · exact Int32.le_refl _
        · rename_i q2; exact Int32.not_lt.mp q2
      have h2 : lt k ≤ (if le_g lv lt k < lt k then lt k else le_g lv lt k) := by
        split
        · exact Int32.le_refl _
        · rename_i q2; exact Int32.not_lt.mp q2
      exact Int32.le_trans h1 h2
theorem fp_toI {x : Int32} (h : 0 ≤ x.toInt ∧ x.toInt ≤ 1000) : x = nI x.toInt.toNat := Int32.toInt.inj (by rw [nI_toInt (by omega)]; omega)
theorem le_ok {lv lt : Nat → Int32} (h : ∀ j, j < 6 → 0 ≤ (lt j).toInt ∧ (lt j).toInt ≤ 1000) : fp_ok (le_sh lv lt) := by
  unfold le_sh
  split
  · exact fp_one
  · rename_i q
    obtain ⟨h1, h2⟩ := le_in h 6 (Nat.le_refl 6)
    have h3 := fm_pos q
    have h4 := Int32.le_iff_toInt_le.mp (le_min 6 (Int32.not_le.mp q))
    rw [fp_toI h1, fp_toI h2]
    exact fp_share (by omega) (by omega) (by omega)
theorem lk_ev_ok {v : Nat → Int32} {n : Nat} (h : v 2 = nI n) (hn : 1 ≤ n) (h96 : n ≤ 96) : fp_ok (lk_ev v n) := le_ok (fun j _ => lt_in h hn h96 j)
theorem fp_zero {x : UInt64} (h : x.toNat = 0) : x = 0 := UInt64.toNat.inj h
theorem fp_case {x : UInt64} (h : fp_ok x) (h2 : ¬ x = 0) : 24 * 2 ^ 52 ≤ x.toNat ∧ x.toNat < 1024 * 2 ^ 52 := by
  rcases h with h | h
  · exact absurd (fp_zero h) h2
  · exact h




