/-! p26's own words: numbers out of the script, ones of a set. -/
def lw_lo (x : Int32) (n : Nat) : Nat := x.toBitVec.toNat % 2 ^ 31 % n
theorem lw_lo_lt (x : Int32) {n : Nat} (h : 0 < n) : lw_lo x n < n := Nat.mod_lt _ h
theorem lw_lo_e (x : Int32) {n : Nat} (h : 0 < n) (h2 : n < 2 ^ 31) : (x &&& 2147483647) - (x &&& 2147483647) / nI n * nI n = nI (lw_lo x n) := by
  rw [pk_and x (m := 2147483647) 31 (by decide)]
  exact pk_rem (Nat.mod_lt _ (by decide)) h h2
theorem nI_and (a b : Nat) : nI a &&& nI b = nI (a &&& b) := by
  apply Int32.toBitVec_inj.mp
  exact (BitVec.ofNat_and (w := 32) (x := a) (y := b)).symm
def lw_dn (y : Nat) : Nat := y &&& (y - 1)
def lw_it (y : Nat) : Nat → Nat
  | 0 => y
  | i + 1 => lw_dn (lw_it y i)
def lw_pc : Nat → Nat → Nat
  | 0, _ => 0
  | f + 1, y => if y = 0 then 0 else lw_pc f (lw_dn y) + 1
def lw_on (y : Nat) : Nat := lw_pc 12 y
theorem lw_it_le (y : Nat) : ∀ i, lw_it y i ≤ y
  | 0 => Nat.le_refl y
  | i + 1 => Nat.le_trans (Nat.and_le_left) (lw_it_le y i)
theorem lw_it_12 {y : Nat} (h : y < 4096) : lw_it y 12 = 0 := by
  have key : ∀ a, a < 64 → ∀ b, b < 64 → lw_it (64 * a + b) 12 = 0 := by decide +kernel
  have := key (y / 64) (by omega) (y % 64) (by omega)
  rwa [Nat.div_add_mod] at this
theorem lw_pc_0 : ∀ f, lw_pc f 0 = 0
  | 0 => rfl
  | _ + 1 => rfl
theorem lw_dn_e {y : Nat} (h : ¬ y = 0) : nI y &&& (nI y - 1) = nI (lw_dn y) := by
  rw [show (1 : Int32) = nI 1 from rfl, pk_sub (by omega), nI_and]
  rfl
theorem lw_st {y i : Nat} (hy : y < 4096) (hi : i ≤ 12) (hz : ¬ lw_it y i = 0) (h : i + lw_pc (12 - i) (lw_it y i) = lw_on y) : i < 12 ∧ i + 1 + lw_pc (12 - (i + 1)) (lw_it y (i + 1)) = lw_on y := by
  have h12 : i < 12 := by
    rcases Nat.lt_or_ge i 12 with q | q
    · exact q
    · have e : i = 12 := by omega
      subst e
      exact absurd (lw_it_12 hy) hz
  refine ⟨h12, ?_⟩
  rw [← h, show 12 - i = (12 - (i + 1)) + 1 by omega]
  show _ = i + (if lw_it y i = 0 then 0 else lw_pc (12 - (i + 1)) (lw_dn (lw_it y i)) + 1)
  rw [if_neg hz]
  show i + 1 + lw_pc (12 - (i + 1)) (lw_dn (lw_it y i)) = _
  omega
theorem lw_en {y i : Nat} (hz : lw_it y i = 0) (h : i + lw_pc (12 - i) (lw_it y i) = lw_on y) : i = lw_on y := by
  rw [hz, lw_pc_0] at h
  omega
theorem lw_on_le (y : Nat) : lw_on y ≤ 12 := by
  have : ∀ f y, lw_pc f y ≤ f := by
    intro f
    induction f with
    | zero => intro y; exact Nat.le_refl 0
    | succ f ih =>
      intro y
      show (if y = 0 then 0 else lw_pc f (lw_dn y) + 1) ≤ f + 1
      split
      · omega
      · have := ih (lw_dn y); omega
  exact this 12 y
theorem on_bc {y : Nat} (h : y < 4096) : fm_bc (nI y) = nI (lw_on y) := by
  have key : ∀ a, a < 64 → ∀ b, b < 64 → fm_bc (nI (64 * a + b)) = nI (lw_on (64 * a + b)) := by decide +kernel
  have := key (y / 64) (by omega) (y % 64) (by omega)
  rwa [Nat.div_add_mod] at this
/-! tables of signs and burnt segments -/
def lw_rd (s b : Nat) : Int32 := fm_rdb (nI b) (fm_shw (nI s) (nI b)) 12
theorem tb_1 : ∀ s, s < 12 → ∀ b, b < 128 → (lw_rd s b = nI (lw_rd s b).toNatClampNeg ∧ (lw_rd s b).toNatClampNeg < 4096) ∧ (lw_rd s b >>> (nI s &&& 31)) &&& 1 = 1 ∧ fm_shw (nI s) (nI b) &&& nI b = 0 ∧ (b = 0 → fm_bc (lw_rd s b) = 1) := by decide +kernel
theorem tb_2 : ∀ b, b < 128 → ap_to (nI b ^^^ (-1)) 12 ≤ 66 ∧ (b = 0 → ap_to (nI b ^^^ (-1)) 12 = 0) ∧ (127 ≤ b → ap_to (nI b ^^^ (-1)) 12 = 66) := by decide +kernel
/-! places, numbers -/
theorem ix_n {x : Int32} {n : Nat} (h : fm_ix x n) : ∃ y, y < n ∧ x = nI y := ⟨_, h.2, h.1⟩
theorem ix_of {x : Int32} {y n : Nat} (h : x = nI y) (hy : y < n) (hn : n ≤ 2 ^ 31) : fm_ix x n := by rw [h]; exact fm_ix_nI hy hn
theorem ix_mono {x : Int32} {m n : Nat} (h : fm_ix x m) (hn : m ≤ n) : fm_ix x n := ⟨h.1, by have := h.2; omega⟩
theorem ix_nn {x : Int32} {n : Nat} (h : fm_ix x n) (hn : n ≤ 2 ^ 31) : ¬ x < 0 := by
  obtain ⟨y, hy, e⟩ := ix_n h
  rw [e]
  exact nI_pos (by omega)
theorem ix_le0 {x : Int32} {n : Nat} (h : fm_ix x n) (hn : n ≤ 2 ^ 31) (q : ¬ 0 < x) : x = 0 := by
  obtain ⟨y, hy, e⟩ := ix_n h
  subst e
  rcases Nat.eq_zero_or_pos y with z | z
  · subst z; rfl
  · exact absurd (nI_lt (a := 0) (b := y) z (by omega)) q
theorem ix_le0' {x : Int32} {n : Nat} (h : fm_ix x n) (hn : n ≤ 2 ^ 31) (q : x ≤ 0) : x = 0 := ix_le0 h hn (Int32.not_lt.mpr q)
/-! sums -/
theorem sum_c {f g : Nat → Int32} : ∀ k, (∀ j, j < k → f j = g j) → fm_sum f k = fm_sum g k
  | 0, _ => rfl
  | k + 1, h => by
    show fm_sum f k + f k = fm_sum g k + g k
    rw [sum_c k (fun j hj => h j (by omega)), h k (by omega)]
theorem sum_upd {f : Nat → Int32} {d : Nat} {y : Int32} : ∀ k, d < k → fm_sum (upd f d (f d + y)) k = fm_sum f k + y
  | 0, h => absurd h (Nat.not_lt_zero d)
  | k + 1, h => by
    show fm_sum (upd f d (f d + y)) k + upd f d (f d + y) k = fm_sum f k + f k + y
    by_cases e : k = d
    · subst e
      rw [pk_us, sum_c (g := f) k (fun j hj => pk_un (by omega)), Int32.add_assoc]
    · rw [pk_un e, sum_upd k (by omega), Int32.add_assoc, Int32.add_comm y, ← Int32.add_assoc]
theorem sum_add {f g : Nat → Int32} : ∀ k, fm_sum (fun j => f j + g j) k = fm_sum f k + fm_sum g k
  | 0 => rfl
  | k + 1 => by
    show fm_sum (fun j => f j + g j) k + (f k + g k) = fm_sum f k + f k + (fm_sum g k + g k)
    rw [sum_add k, Int32.add_assoc, ← Int32.add_assoc (fm_sum g k), Int32.add_comm (fm_sum g k) (f k), Int32.add_assoc (f k), ← Int32.add_assoc (fm_sum f k)]
theorem sum_n {f : Nat → Int32} {b : Nat} : ∀ k, (∀ j, j < k → fm_ix (f j) (b + 1)) → ∃ S, S ≤ k * b ∧ fm_sum f k = nI S ∧ ((∀ j, j < k → f j = 0) ∨ 0 < S)
  | 0, _ => ⟨0, Nat.zero_le _, rfl, Or.inl (fun j h => absurd h (Nat.not_lt_zero j))⟩
  | k + 1, h => by
    obtain ⟨S, h1, h2, h3⟩ := sum_n k (fun j hj => h j (by omega))
    obtain ⟨y, hy, e⟩ := ix_n (h k (by omega))
    refine ⟨S + y, ?_, ?_, ?_⟩
    · have : (k + 1) * b = k * b + b := Nat.succ_mul k b
      omega
    · show fm_sum f k + f k = _
      rw [h2, e, nI_add]
    · rcases h3 with z | z
      · rcases Nat.eq_zero_or_pos y with z2 | z2
        · left
          intro j hj
          by_cases ek : j = k
          · rw [ek, e, z2]; rfl
          · exact z j (by omega)
        · right; omega
      · right; omega
/-- wears: their sum -/
theorem wr_sum {f : Nat → Int32} {c : Nat} {x : Int32} (hx : x = nI c) (hc : c < 2 ^ 20) (h : ∀ j, j < 7 → fm_ix (f j) (c + 1)) : ¬ 7 * x < fm_sum f 7 := by
  obtain ⟨S, h1, h2, -⟩ := sum_n (b := c) 7 h
  rw [h2, hx, show (7 : Int32) = nI 7 from rfl, pk_mul]
  exact nI_nlt h1 (by omega)
/-! counts -/
theorem cF_n {f : Nat → Int32} : ∀ k, ∃ c, c ≤ k ∧ fm_cntF f (fun _ => 0) k = nI c
  | 0 => ⟨0, Nat.le_refl 0, rfl⟩
  | k + 1 => by
    obtain ⟨c, h1, h2⟩ := cF_n (f := f) k
    by_cases q : f k = 0
    · refine ⟨c, by omega, ?_⟩
      show (if f k = 0 then _ else _) = _
      rw [if_pos q, h2]
    · refine ⟨c + 1, by omega, ?_⟩
      show (if f k = 0 then _ else fm_cntF f (fun _ => 0) k + 1) = _
      rw [if_neg q, h2, nI_1]
theorem cF_le {f g : Nat → Int32} : ∀ k, (∀ j, j < k → ¬ f j = 0 → ¬ g j = 0) → ∃ c e, c ≤ e ∧ e ≤ k ∧ fm_cntF f (fun _ => 0) k = nI c ∧ fm_cntF g (fun _ => 0) k = nI e
  | 0, _ => ⟨0, 0, Nat.le_refl 0, Nat.le_refl 0, rfl, rfl⟩
  | k + 1, h => by
    obtain ⟨c, e, h1, h2, h3, h4⟩ := cF_le k (fun j hj => h j (by omega))
    by_cases q : f k = 0
    · by_cases z : g k = 0
      · refine ⟨c, e, h1, by omega, ?_, ?_⟩
        · show (if f k = 0 then fm_cntF f (fun _ => 0) k else fm_cntF f (fun _ => 0) k + 1) = _
          rw [if_pos q, h3]
        · show (if g k = 0 then fm_cntF g (fun _ => 0) k else fm_cntF g (fun _ => 0) k + 1) = _
          rw [if_pos z, h4]
      · refine ⟨c, e + 1, by omega, by omega, ?_, ?_⟩
        · show (if f k = 0 then fm_cntF f (fun _ => 0) k else fm_cntF f (fun _ => 0) k + 1) = _
          rw [if_pos q, h3]
        · show (if g k = 0 then fm_cntF g (fun _ => 0) k else fm_cntF g (fun _ => 0) k + 1) = _
          rw [if_neg z, h4, nI_1]
    · refine ⟨c + 1, e + 1, by omega, by omega, ?_, ?_⟩
      · show (if f k = 0 then fm_cntF f (fun _ => 0) k else fm_cntF f (fun _ => 0) k + 1) = _
        rw [if_neg q, h3, nI_1]
      · show (if g k = 0 then fm_cntF g (fun _ => 0) k else fm_cntF g (fun _ => 0) k + 1) = _
        rw [if_neg (h k (by omega) q), h4, nI_1]
theorem cF_two {f g : Nat → Int32} : ∀ k, (∀ j, j < k → ¬ f j = 0 → g j = 0) → ∃ c e, c + e ≤ k ∧ fm_cntF f (fun _ => 0) k = nI c ∧ fm_cntF g (fun _ => 0) k = nI e
  | 0, _ => ⟨0, 0, Nat.le_refl 0, rfl, rfl⟩
  | k + 1, h => by
    obtain ⟨c, e, h1, h3, h4⟩ := cF_two k (fun j hj => h j (by omega))
    by_cases q : f k = 0
    · by_cases z : g k = 0
      · refine ⟨c, e, by omega, ?_, ?_⟩
        · show (if f k = 0 then fm_cntF f (fun _ => 0) k else fm_cntF f (fun _ => 0) k + 1) = _
          rw [if_pos q, h3]
        · show (if g k = 0 then fm_cntF g (fun _ => 0) k else fm_cntF g (fun _ => 0) k + 1) = _
          rw [if_pos z, h4]
      · refine ⟨c, e + 1, by omega, ?_, ?_⟩
        · show (if f k = 0 then fm_cntF f (fun _ => 0) k else fm_cntF f (fun _ => 0) k + 1) = _
          rw [if_pos q, h3]
        · show (if g k = 0 then fm_cntF g (fun _ => 0) k else fm_cntF g (fun _ => 0) k + 1) = _
          rw [if_neg z, h4, nI_1]
    · refine ⟨c + 1, e, by omega, ?_, ?_⟩
      · show (if f k = 0 then fm_cntF f (fun _ => 0) k else fm_cntF f (fun _ => 0) k + 1) = _
        rw [if_neg q, h3, nI_1]
      · show (if g k = 0 then fm_cntF g (fun _ => 0) k else fm_cntF g (fun _ => 0) k + 1) = _
        rw [if_pos (h k (by omega) q), h4]
theorem cF_sum {f : Nat → Int32} : ∀ k, fm_sum (fun j => if f j = 0 then 0 else 1) k = fm_cntF f (fun _ => 0) k
  | 0 => rfl
  | k + 1 => by
    show fm_sum (fun j => if f j = 0 then 0 else 1) k + (if f k = 0 then 0 else 1) = (if f k = 0 then fm_cntF f (fun _ => 0) k else fm_cntF f (fun _ => 0) k + 1)
    rw [cF_sum k]
    by_cases q : f k = 0
    · rw [if_pos q, if_pos q]
      exact Int32.add_zero _
    · rw [if_neg q, if_neg q]
theorem cT_all {f : Nat → Int32} {y : Int32} : ∀ k, (∀ j, j < k → f j = y) → fm_cntT f (fun _ => y) k = nI k
  | 0, _ => rfl
  | k + 1, h => by
    show (if f k = y then fm_cntT f (fun _ => y) k + 1 else _) = _
    rw [if_pos (h k (by omega)), cT_all k (fun j hj => h j (by omega)), nI_1]
theorem cT_no {f : Nat → Int32} {y : Int32} : ∀ k, (∀ j, j < k → ¬ f j = y) → fm_cntT f (fun _ => y) k = 0
  | 0, _ => rfl
  | k + 1, h => by
    show (if f k = y then _ else fm_cntT f (fun _ => y) k) = _
    rw [if_neg (h k (by omega)), cT_no k (fun j hj => h j (by omega))]
theorem chg_n (x : Nat → Int32) : ∀ k, ∃ c, c ≤ k ∧ fm_chg x k = nI c
  | 0 => ⟨0, Nat.le_refl 0, rfl⟩
  | k + 1 => by
    obtain ⟨c, h1, h2⟩ := chg_n x k
    by_cases q : x (k + 1) = x k
    · refine ⟨c, by omega, ?_⟩
      show (if x (k + 1) = x k then fm_chg x k else fm_chg x k + 1) = _
      rw [if_pos q, h2]
    · refine ⟨c + 1, by omega, ?_⟩
      show (if x (k + 1) = x k then fm_chg x k else fm_chg x k + 1) = _
      rw [if_neg q, h2, nI_1]
theorem chg_0 {x : Nat → Int32} {y : Int32} (h : ∀ j, x j = y) : ∀ k, fm_chg x k = 0
  | 0 => rfl
  | k + 1 => by
    show (if x (k + 1) = x k then fm_chg x k else fm_chg x k + 1) = _
    rw [if_pos ((h _).trans (h _).symm), chg_0 h k]
