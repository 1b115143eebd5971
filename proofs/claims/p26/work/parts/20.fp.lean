/-! Doubles: a share's bits. -/
theorem fp_n64 {r : UInt64} (h : FP.Core.dIsNaN r = false) : vf_n64 r := by
  have h1 : ¬ 9218868437227405312 < r.toNat % 2 ^ 63 := fun q => by
    have := (FP.Core.isNaN_bits r).mpr q
    rw [h] at this
    exact absurd this (by decide)
  show r &&& 0x7fffffffffffffff ≤ 0x7ff0000000000000
  rw [UInt64.le_iff_toNat_le, UInt64.toNat_and]
  have e : (0x7fffffffffffffff : UInt64).toNat = 2 ^ 63 - 1 := by decide
  have e2 : (0x7ff0000000000000 : UInt64).toNat = 9218868437227405312 := by decide
  rw [e, e2, Nat.and_two_pow_sub_one_eq_mod]
  omega
theorem fp_fin_n64 {r : UInt64} (h : FP.Core.DFin r) : vf_n64 r := fp_n64 h.notNaN
theorem fp_nz {y : Int32} (h : 0 < y.toInt) : ¬ FP.Core.DZero (FP.Core.i2d y) := fun q => by
  have h1 := (FP.Core.zero_bits2 _).mp q
  exact FP.Core.i2d_ne_zero (v := y) (fun e => by subst e; exact absurd h (by decide)) h1
theorem fp_div_n {x y : Int32} (hy : 0 < y.toInt) : vf_n64 (FP.ddiv (FP.i2d x) (FP.i2d y)) := fp_n64 (FP.Core.ddiv_out (FP.Core.i2d_fin x).notNaN (FP.Core.i2d_fin y) (fp_nz hy))
/-- the datum of bits -/
theorem fp_val {x : UInt64} {E t : Nat} (h : x.toNat = E * 2 ^ 52 + t) (hE : 1 ≤ E) (hE2 : E ≤ 2046) (ht : t < 2 ^ 52) : FP.Core.val64 x = .fin false (2 ^ 52 + t) ((E : Int) - 1075) := by
  have e1 : FP.Core.fieldE FP.Core.b64 x.toNat = E := by
    unfold FP.Core.fieldE
    rw [FP.Core.tails_b64, show FP.Core.b64.exps = 2048 from rfl, h]
    omega
  have e2 : FP.Core.fieldT FP.Core.b64 x.toNat = t := by
    unfold FP.Core.fieldT
    rw [FP.Core.tails_b64, h]
    omega
  have e3 : FP.Core.fieldS FP.Core.b64 x.toNat = false := by
    unfold FP.Core.fieldS
    rw [FP.Core.tails_b64, show FP.Core.b64.exps = 2048 from rfl, h, show (E * 2 ^ 52 + t) / 2 ^ 52 / 2048 = 0 by omega]
    rfl
  unfold FP.Core.val64 FP.Core.decode
  rw [e1, e2, e3, FP.Core.tails_b64, FP.Core.qmin_b64, show FP.Core.b64.exps = 2048 from rfl, if_neg (by omega), if_neg (by omega)]
  congr 1
  omega
theorem fp_fits {c : Nat} {q : Int} (h1 : 2 ^ 52 ≤ c) (h2 : c < 2 ^ 53) (h3 : -1074 ≤ q) (h4 : q ≤ 971) : FP.Core.fits FP.Core.b64 (.fin false c q) := by
  refine ⟨h2, ?_, ?_, Or.inr ?_⟩
  · rw [FP.Core.qmin_b64]; exact h3
  · rw [show FP.Core.b64.qmax = 971 by decide]; exact h4
  · rw [FP.Core.tails_b64]; exact h1
theorem fp_toN {E t : Nat} (hE : 1 ≤ E) (hE2 : E ≤ 2046) (ht : t < 2 ^ 52) : (FP.Core.of64 (.fin false (2 ^ 52 + t) ((E : Int) - 1075))).toNat = E * 2 ^ 52 + t := by
  rw [FP.Core.toNat_of64 (fp_fits (by omega) (by omega) (by omega) (by omega))]
  unfold FP.Core.encode FP.Core.assemble
  rw [FP.Core.tails_b64, FP.Core.qmin_b64, show FP.Core.b64.exps = 2048 from rfl]
  simp only []
  rw [if_neg (by omega), show ((E : Int) - 1075 - -1074).toNat + 1 = E by omega, show Bool.toNat false = 0 from rfl]
  omega
def fp_two : UInt64 := 4611686018427387904
def fp_big : UInt64 := 4841369599423283200
theorem fp_v2 : FP.Core.val64 fp_two = .fin false (2 ^ 52) (-51) := by decide +kernel
theorem fp_vb : FP.Core.val64 fp_big = .fin false (2 ^ 52) 0 := by decide +kernel
theorem fp_v1 : FP.Core.val64 FP.dconst1 = .fin false (2 ^ 52) (-52) := by decide +kernel
/-- doubling -/
theorem fp_dbl {x : UInt64} {E t : Nat} (h : x.toNat = E * 2 ^ 52 + t) (hE : 1 ≤ E) (hE2 : E ≤ 2045) (ht : t < 2 ^ 52) : (FP.dmul x fp_two).toNat = (E + 1) * 2 ^ 52 + t := by
  have e : FP.dmul x fp_two = FP.Core.of64 (FP.Core.round FP.Core.b64 (FP.Core.exactProduct (FP.Core.val64 x) (FP.Core.val64 fp_two))) := rfl
  have e2 : FP.Core.round FP.Core.b64 (FP.Core.exactProduct (FP.Core.val64 x) (FP.Core.val64 fp_two)) = .fin false (2 ^ 52 + t) (((E + 1 : Nat) : Int) - 1075) := by
    rw [fp_val h hE (by omega) ht, fp_v2]
    show FP.Core.roundRatio FP.Core.b64 false ((2 ^ 52 + t) * 2 ^ 52) 1 (((E : Int) - 1075) + (-51)) = _
    refine FP.Core.roundRatio_exact FP.Core.good_b64 (by decide) (fp_fits (by omega) (by omega) (by omega) (by omega)) ?_
    rw [show (((E : Int) - 1075) + (-51) - (((E + 1 : Nat) : Int) - 1075)).toNat = 0 by omega, show ((((E + 1 : Nat) : Int) - 1075) - (((E : Int) - 1075) + (-51))).toNat = 52 by omega]
    omega
  rw [e, e2]
  exact fp_toN (by omega) (by omega) ht
/-- a share as bits: 0, or from 2^-999 to below 2 -/
def fp_ok (x : UInt64) : Prop := x.toNat = 0 ∨ (24 * 2 ^ 52 ≤ x.toNat ∧ x.toNat < 1024 * 2 ^ 52)
def fp_E (x : UInt64) : Nat := x.toNat / 2 ^ 52
def fp_T (x : UInt64) : Nat := x.toNat % 2 ^ 52
def fp_up (x : UInt64) : Nat → UInt64
  | 0 => x
  | k + 1 => FP.dmul (fp_up x k) fp_two
def fp_ex : Nat → Int64
  | 0 => 1023
  | k + 1 => fp_ex k - 1
theorem fp_eq (x : UInt64) : x.toNat = fp_E x * 2 ^ 52 + fp_T x := by
  unfold fp_E fp_T
  omega
theorem fp_T_lt (x : UInt64) : fp_T x < 2 ^ 52 := Nat.mod_lt _ (by decide)
theorem fp_E_in {x : UInt64} (h : 24 * 2 ^ 52 ≤ x.toNat ∧ x.toNat < 1024 * 2 ^ 52) : 24 ≤ fp_E x ∧ fp_E x ≤ 1023 := by
  unfold fp_E
  omega
theorem fp_up_n {x : UInt64} (h : 24 * 2 ^ 52 ≤ x.toNat ∧ x.toNat < 1024 * 2 ^ 52) : ∀ k, k ≤ 1023 - fp_E x → (fp_up x k).toNat = (fp_E x + k) * 2 ^ 52 + fp_T x
  | 0, _ => fp_eq x
  | k + 1, hk => by
    have hE := fp_E_in h
    exact fp_dbl (E := fp_E x + k) (t := fp_T x) (fp_up_n h k (by omega)) (by omega) (by omega) (fp_T_lt x)
theorem fp_nn {x : UInt64} {E t : Nat} (h : x.toNat = E * 2 ^ 52 + t) (hE : 1 ≤ E) (hE2 : E ≤ 2046) (ht : t < 2 ^ 52) : FP.Core.DFin x := ⟨_, _, _, fp_val h hE hE2 ht⟩
/-- the test against 1 -/
theorem fp_tst {x : UInt64} {E t : Nat} (h : x.toNat = E * 2 ^ 52 + t) (hE : 1 ≤ E) (hE2 : E ≤ 1023) (ht : t < 2 ^ 52) : 0 ≤ Op.cmpValue (FP.dcmp x FP.dconst1) .g ↔ E = 1023 := by
  have n1 : FP.Core.val64 x ≠ .nan := by rw [fp_val h hE (by omega) ht]; exact fun q => by cases q
  have n2 : FP.Core.val64 FP.dconst1 ≠ .nan := by rw [fp_v1]; exact fun q => by cases q
  have k1 : FP.Core.dkey x = ((E * 2 ^ 52 + t : Nat) : Int) := by
    unfold FP.Core.dkey
    rw [if_neg (by omega), h]
  have k2 : FP.Core.dkey FP.dconst1 = ((1023 * 2 ^ 52 : Nat) : Int) := by decide +kernel
  have hk := FP.Core.dcmp_key n1 n2
  show 0 ≤ Op.cmpValue (FP.Core.dcmp x FP.dconst1) .g ↔ E = 1023
  rw [hk, k1, k2, FP.Core.compare_ite]
  by_cases c1 : ((E * 2 ^ 52 + t : Nat) : Int) < ((1023 * 2 ^ 52 : Nat) : Int)
  · rw [if_pos c1]
    constructor
    · intro q; exact absurd q (by decide)
    · intro q; subst q; omega
  · rw [if_neg c1]
    constructor
    · intro _; omega
    · intro _
      split <;> decide
theorem fp_pos {x : UInt64} {E t : Nat} (h : x.toNat = E * 2 ^ 52 + t) (hE : 1 ≤ E) (hE2 : E ≤ 2046) (ht : t < 2 ^ 52) : 0 < Op.cmpValue (FP.dcmp x FP.dconst0) .g := by
  have n1 : FP.Core.val64 x ≠ .nan := by rw [fp_val h hE (by omega) ht]; exact fun q => by cases q
  have n2 : FP.Core.val64 FP.dconst0 ≠ .nan := by decide +kernel
  have k1 : FP.Core.dkey x = ((E * 2 ^ 52 + t : Nat) : Int) := by
    unfold FP.Core.dkey
    rw [if_neg (by omega), h]
  have k2 : FP.Core.dkey FP.dconst0 = 0 := by decide +kernel
  have hk := FP.Core.dcmp_key n1 n2
  show 0 < Op.cmpValue (FP.Core.dcmp x FP.dconst0) .g
  rw [hk, k1, k2, FP.Core.compare_ite, if_neg (by omega), if_neg (by omega)]
  decide
/-- the fraction -/
theorem fp_sub {x : UInt64} {t : Nat} (h : x.toNat = 1023 * 2 ^ 52 + t) (ht : t < 2 ^ 52) : ∃ c q, FP.Core.val64 (FP.dsub x FP.dconst1) = .fin false c q ∧ FP.Core.inUnits c q (-1074) = t * 2 ^ 1022 ∧ -1074 ≤ q := by
  have e : FP.Core.val64 (FP.dsub x FP.dconst1) = FP.Core.round FP.Core.b64 (FP.Core.exactSum (FP.Core.val64 x) (FP.Core.negate (FP.Core.val64 FP.dconst1))) := FP.Core.val64_dsub _ _
  rw [fp_val h (by decide) (by decide) ht, fp_v1] at e
  have e2 : FP.Core.exactSum (.fin false (2 ^ 52 + t) (((1023 : Nat) : Int) - 1075)) (FP.Core.negate (.fin false (2 ^ 52) (-52))) = .fin false t (-52) := by
    have u : FP.Core.sumUnits false (2 ^ 52 + t) (-52) true (2 ^ 52) (-52) (-52) = (t : Int) := by
      unfold FP.Core.sumUnits FP.Core.inUnits FP.Core.signed
      simp
      omega
    show FP.Core.Datum.fin (FP.Core.sumSign false true (FP.Core.sumUnits false (2 ^ 52 + t) (-52) true (2 ^ 52) (-52) (-52))) (FP.Core.sumUnits false (2 ^ 52 + t) (-52) true (2 ^ 52) (-52) (-52)).natAbs (-52) = _
    rw [u]
    congr 1
    unfold FP.Core.sumSign
    split
    · rfl
    · exact decide_eq_false (by omega)
  rw [e2] at e
  obtain ⟨c, q, h1, h2⟩ := FP.Core.round_exact FP.Core.good_b64 false (c := t) (q := -52) (by show t < 2 ^ 53; omega) (by rw [FP.Core.qmin_b64]; decide) (by rw [show FP.Core.b64.qmax = 971 by decide]; decide)
  have hf := FP.Core.round_fits FP.Core.good_b64 (.fin false t (-52))
  rw [h1] at e hf
  rw [FP.Core.qmin_b64] at h2
  refine ⟨c, q, e, h2, ?_⟩
  have := hf.2.1
  rw [FP.Core.qmin_b64] at this
  exact this
theorem fp_frac {x : UInt64} {t : Nat} (h : x.toNat = 1023 * 2 ^ 52 + t) (ht : t < 2 ^ 52) : FP.d2l (FP.dmul (FP.dsub x FP.dconst1) fp_big) = Int64.ofNat t := by
  obtain ⟨c, q, e, h2, h3⟩ := fp_sub h ht
  have hi : (Int64.ofNat t).toInt = (t : Int) := Int64.toInt_ofNat_of_lt (by omega)
  refine FP.Core.d2l_int ?_
  show FP.Core.Whole _ (FP.Core.val64 (FP.Core.dmul (FP.dsub x FP.dconst1) fp_big))
  rw [FP.Core.val64_dmul, e, fp_vb, hi]
  refine FP.Core.whole_round FP.Core.good_b64 FP.Core.wide_b64 (by show t ≤ 2 ^ 53; omega) ?_
  show FP.Core.signed false (c * 2 ^ 52 * 2 ^ (q + 0).toNat) = (t : Int) * ((2 ^ (-(q + 0)).toNat : Nat) : Int)
  unfold FP.Core.inUnits at h2
  have k : c * 2 ^ 52 * 2 ^ (q + 0).toNat = t * 2 ^ (-(q + 0)).toNat := by
    have p : 0 < 2 ^ 1022 := Nat.two_pow_pos 1022
    refine Nat.eq_of_mul_eq_mul_right p ?_
    rw [Nat.mul_right_comm t, ← h2, Nat.mul_assoc, Nat.mul_assoc, Nat.mul_assoc, ← Nat.pow_add, ← Nat.pow_add, ← Nat.pow_add]
    congr 2
    omega
  rw [k]
  show ((t * 2 ^ (-(q + 0)).toNat : Nat) : Int) = _
  exact Int.natCast_mul _ _
theorem fp_ex_n : ∀ k, k ≤ 1023 → fp_ex k = Int64.ofNat (1023 - k)
  | 0, _ => rfl
  | k + 1, h => by
    show fp_ex k - 1 = _
    rw [fp_ex_n k (by omega)]
    refine Int64.toInt.inj ?_
    rw [Int64.toInt_sub, Int64.toInt_ofNat_of_lt (by omega), Int64.toInt_ofNat_of_lt (by omega), show (1 : Int64).toInt = 1 by decide]
    rw [Int.bmod_eq_of_le (by omega) (by omega)]
    omega
theorem fp_end {E t : Nat} (hE : E ≤ 1023) (ht : t < 2 ^ 52) {x : UInt64} (h : x.toNat = E * 2 ^ 52 + t) : (Int64.ofNat E <<< ((52 : Int32).toInt64 &&& 63)) ||| Int64.ofNat t = x.toInt64 := by
  have e : x = UInt64.ofNat (E * 2 ^ 52 + t) := by
    refine UInt64.toNat.inj ?_
    rw [h, UInt64.toNat_ofNat_of_lt' (by show _ < 2 ^ 64; omega)]
  have e2 : (Int64.ofNat E <<< ((52 : Int32).toInt64 &&& 63)) = (UInt64.ofNat (E * 2 ^ 52)).toInt64 := by
    refine Int64.toBitVec.inj ?_
    have b : ((52 : Int32).toInt64 &&& 63) = 52 := by decide
    rw [b, Int64.toBitVec_shiftLeft]
    show (BitVec.ofNat 64 E) <<< ((52 : BitVec 64).smod 64) = BitVec.ofNat 64 (E * 2 ^ 52)
    have b2 : (52 : BitVec 64).smod 64 = 52 := by decide
    rw [b2]
    refine BitVec.eq_of_toNat_eq ?_
    show ((BitVec.ofNat 64 E) <<< 52).toNat = _
    rw [BitVec.toNat_shiftLeft, BitVec.toNat_ofNat, BitVec.toNat_ofNat, Nat.shiftLeft_eq, Nat.mod_eq_of_lt (show E < 2 ^ 64 by omega)]
  rw [e2, e]
  refine Int64.toBitVec.inj ?_
  rw [Int64.toBitVec_or]
  show BitVec.ofNat 64 (E * 2 ^ 52) ||| BitVec.ofNat 64 t = BitVec.ofNat 64 (E * 2 ^ 52 + t)
  refine BitVec.eq_of_toNat_eq ?_
  rw [BitVec.toNat_or, BitVec.toNat_ofNat, BitVec.toNat_ofNat, BitVec.toNat_ofNat, Nat.mod_eq_of_lt (show E * 2 ^ 52 < 2 ^ 64 by omega), Nat.mod_eq_of_lt (show t < 2 ^ 64 by omega), Nat.mod_eq_of_lt (show E * 2 ^ 52 + t < 2 ^ 64 by omega)]
  rw [Nat.mul_comm]
  exact (Nat.two_pow_add_eq_or_of_lt ht E).symm
/-- a quotient of lights is a share -/
theorem fp_i2d : ∀ L, L < 1001 → 0 < L → FP.Core.val64 (FP.Core.i2d (Int32.ofNat L)) = .fin false (L * 2 ^ (52 - L.log2)) ((L.log2 : Int) - 52) := by decide +kernel
theorem fp_share {L G : Nat} (hG : 0 < G) (hG2 : G ≤ 1000) (hL : L ≤ G) : fp_ok (FP.ddiv (FP.i2d (nI L)) (FP.i2d (nI G))) := by
  rcases Nat.eq_zero_or_pos L with h0 | h0
  · subst h0
    left
    have e : FP.Core.val64 (FP.ddiv (FP.i2d (nI 0)) (FP.i2d (nI G))) = .fin false 0 FP.Core.b64.qmin := by
      rw [show FP.ddiv (FP.i2d (nI 0)) (FP.i2d (nI G)) = FP.Core.ddiv (FP.Core.i2d (nI 0)) (FP.Core.i2d (Int32.ofNat G)) from rfl, FP.Core.val64_ddiv, fp_i2d G (by omega) hG, show FP.Core.val64 (FP.Core.i2d (nI 0)) = .fin false 0 FP.Core.b64.qmin by decide +kernel]
      have p : G * 2 ^ (52 - G.log2) ≠ 0 := Nat.mul_ne_zero (by omega) (Nat.pos_iff_ne_zero.mp (Nat.two_pow_pos _))
      show (if G * 2 ^ (52 - G.log2) = 0 then _ else FP.Core.roundRatio FP.Core.b64 (false != false) 0 (G * 2 ^ (52 - G.log2)) _) = _
      rw [if_neg p]
      rfl
    have z : FP.ddiv (FP.i2d (nI 0)) (FP.i2d (nI G)) = 0 := FP.Core.val64_inj (by rw [e]; exact fun q => by cases q) (by rw [e]; decide +kernel)
    rw [z]
    rfl
  · right
    have lL : L.log2 ≤ 9 := by
      have h1 := Nat.log2_self_le (n := L) (by omega)
      rcases Nat.lt_or_ge 9 L.log2 with h | h
      · have := Nat.pow_le_pow_right (n := 2) (by decide) (show 10 ≤ L.log2 by omega); omega
      · exact h
    have lG : G.log2 ≤ 9 := by
      have h1 := Nat.log2_self_le (n := G) (by omega)
      rcases Nat.lt_or_ge 9 G.log2 with h | h
      · have := Nat.pow_le_pow_right (n := 2) (by decide) (show 10 ≤ G.log2 by omega); omega
      · exact h
    have e : FP.Core.val64 (FP.ddiv (FP.i2d (nI L)) (FP.i2d (nI G))) = FP.Core.roundRatio FP.Core.b64 false L G 0 := by
      rw [show FP.ddiv (FP.i2d (nI L)) (FP.i2d (nI G)) = FP.Core.ddiv (FP.Core.i2d (Int32.ofNat L)) (FP.Core.i2d (Int32.ofNat G)) from rfl, FP.Core.val64_ddiv, fp_i2d G (by omega) hG, fp_i2d L (by omega) h0]
      have p : G * 2 ^ (52 - G.log2) ≠ 0 := Nat.mul_ne_zero (by omega) (Nat.pos_iff_ne_zero.mp (Nat.two_pow_pos _))
      show (if G * 2 ^ (52 - G.log2) = 0 then _ else FP.Core.roundRatio FP.Core.b64 (false != false) (L * 2 ^ (52 - L.log2)) (G * 2 ^ (52 - G.log2)) ((L.log2 : Int) - 52 - ((G.log2 : Int) - 52))) = _
      rw [if_neg p]
      refine FP.Core.roundRatio_congr (by omega) hG ?_
      rw [Nat.mul_right_comm, Nat.mul_assoc L, Nat.mul_right_comm L, Nat.mul_assoc, Nat.mul_assoc, Nat.mul_assoc, ← Nat.pow_add, ← Nat.pow_add]
      congr 3
      omega
    generalize hx : FP.ddiv (FP.i2d (nI L)) (FP.i2d (nI G)) = x at e
    have s0 : x.toNat < 2 ^ 63 := by
      have hn : FP.Core.val64 x ≠ .nan := by rw [e]; exact FP.Core.roundRatio_ne_nan _ _ _ _ _
      have h1 := FP.Core.sgn_bits hn
      rw [e, FP.Core.sgn_roundRatio] at h1
      have := of_decide_eq_false h1.symm
      omega
    have ma : FP.Core.mag FP.Core.b64 x.toNat = x.toNat := by rw [FP.Core.mag_toNat64]; exact Nat.mod_eq_of_lt s0
    have u1 : FP.Core.mag FP.Core.b64 x.toNat ≤ 1023 * FP.Core.b64.tails := by
      refine FP.Core.mag_le FP.Core.good_b64 e hG (e0 := FP.Core.b64.qmin) (by omega) (by rw [FP.Core.qmin_b64]; decide) ?_
      rw [FP.Core.unitsOf_start (by decide), Int.sub_self, Int.toNat_zero, Nat.pow_zero, Nat.mul_one, FP.Core.tails_b64, FP.Core.qmin_b64]
      unfold FP.Core.inUnits
      rw [show ((0 : Int) - -1074).toNat = 1074 from rfl, ← Nat.pow_add, Nat.mul_comm, show 52 + (1023 - 1) = 1074 from rfl]
      exact Nat.mul_le_mul_left _ hL
    have u2 : 24 * FP.Core.b64.tails ≤ FP.Core.mag FP.Core.b64 x.toNat := by
      refine FP.Core.mag_ge FP.Core.good_b64 e hG (e0 := FP.Core.b64.qmin) (by omega) (by rw [FP.Core.qmin_b64]; decide) (by rw [FP.Core.infBits_b64, FP.Core.tails_b64]; decide) ?_
      rw [FP.Core.unitsOf_start (by decide), Int.sub_self, Int.toNat_zero, Nat.pow_zero, Nat.mul_one, FP.Core.tails_b64, FP.Core.qmin_b64]
      unfold FP.Core.inUnits
      rw [show ((0 : Int) - -1074).toNat = 1074 from rfl, ← Nat.pow_add, show 52 + (24 - 1) = 75 from rfl]
      have h1 : 2 ^ 75 * G ≤ 2 ^ 75 * 2 ^ 10 := Nat.mul_le_mul_left _ (by omega)
      have h2 : 2 ^ 75 * 2 ^ 10 ≤ 2 ^ 1074 := by rw [← Nat.pow_add]; exact Nat.pow_le_pow_right (by decide) (by decide)
      exact Nat.le_trans h1 (Nat.le_trans h2 (Nat.le_mul_of_pos_left _ h0))
    rw [ma, FP.Core.tails_b64] at u1 u2
    omega
theorem fp_one : fp_ok FP.dconst1 := by
  right
  decide

