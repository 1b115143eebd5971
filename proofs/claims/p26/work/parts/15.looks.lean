/-! Looks. -/
def cl_clr (see rd : Int32) : Int32 := if see = 0 then 0 else if fm_bc rd = 1 then 1 else 0
def lk_see (gp ls : Nat → Int32) (ln pe ne : Int32) (d : Nat) : Int32 := fm_see (fm_light ln (ls d)) ne (fm_flk (ls d) (gp d) pe)
def lk_rd (v : Nat → Int32) (d : Nat) : Int32 := fm_rdb (v (20 + d)) (fm_shw (v (8 + d)) (v (20 + d))) 12
def lk_clr (gp ls : Nat → Int32) (ln pe ne : Int32) (v : Nat → Int32) (d : Nat) : Int32 := cl_clr (lk_see gp ls ln pe ne d) (lk_rd v d)
def lk_pr (gp ls : Nat → Int32) (ln pe ne : Int32) (v : Nat → Int32) (d : Nat) : Nat → Int32
  | 0 => v (8 + d)
  | 1 => v (14 + d)
  | 2 => v (20 + d)
  | 3 => fm_shw (v (8 + d)) (v (20 + d))
  | 4 => v (26 + d)
  | 5 => fm_light ln (ls d)
  | 6 => gp d
  | 7 => if fm_flk (ls d) (gp d) pe = 0 then 0 else 1
  | 8 => if lk_see gp ls ln pe ne d = 0 then 0 else 1
  | 9 => if lk_clr gp ls ln pe ne v d = 0 then 0 else 1
  | 10 => lk_rd v d
  | _ => v (32 + d)
def lk_to (ow li gp ls : Nat → Int32) (ln pe ne : Int32) (n : Nat) (v : Nat → Int32) (z : Int32) : Nat → Int32
  | 0 => v 0
  | 1 => fm_sum (fun j => v (14 + j)) 6
  | 2 => fm_cntT li (fun _ => -1) n
  | 3 => fm_chg ow (n - 1)
  | 4 => fm_cntF (fun j => fm_flk (ls j) (gp j) pe) (fun _ => 0) 6
  | 5 => fm_cntF (fun j => lk_see gp ls ln pe ne j) (fun _ => 0) 6
  | 6 => fm_cntF (fun j => lk_clr gp ls ln pe ne v j) (fun _ => 0) 6
  | 7 => fm_sum (fun j => fm_bc (v (20 + j))) 6
  | 8 => v 1
  | 9 => v 7
  | _ => z
def lk_tr (gp ls : Nat → Int32) (ln pe ne : Int32) (d : Nat) : Nat → Int32
  | 0 => fm_light ln (ls d)
  | 1 => fm_cntF (fun j => lk_see gp ls ln pe ne j) (fun _ => 0) 6
  | _ => fm_cntF (fun j => fm_flk (ls j) (gp j) pe) (fun _ => 0) 6
/-! the number shown -/
def cn_st (v : Nat → Int32) : Nat → Nat → Nat
  | 0, i => i
  | f + 1, i => if v (8 + i) = 11 then cn_st v f (i + 1) else i
def cn_ng (v : Nat → Int32) (i : Nat) : Int32 := if 6 ≤ nI i then 0 else if v (8 + i) = 10 then 1 else 0
def cn_go (clr v : Nat → Int32) (ng : Int32) : Nat → Nat → Int32 → Int32
  | 0, _, x => if ng = 0 then x else -x
  | f + 1, d, x => if 9 < v (8 + d) then -1 else if clr d = 0 then -1 else cn_go clr v ng f (d + 1) (10 * x + v (8 + d))
def cn_ff (v : Nat → Int32) (i : Nat) : Nat := if cn_ng v i = 0 then i else i + 1
def cn_end (clr v : Nat → Int32) (i : Nat) : Int32 := if 6 ≤ nI (cn_ff v i) then -1 else if cn_ng v i = 0 then cn_go clr v (cn_ng v i) (6 - cn_ff v i) (cn_ff v i) 0 else if clr i = 0 then -1 else cn_go clr v (cn_ng v i) (6 - cn_ff v i) (cn_ff v i) 0
def cn_all (clr v : Nat → Int32) : Int32 := cn_end clr v (cn_st v 6 0)
theorem cn_st_s {v : Nat → Int32} {i : Nat} (h : i < 6) : cn_st v (6 - i) i = if v (8 + i) = 11 then cn_st v (6 - (i + 1)) (i + 1) else i := by
  rw [show 6 - i = (6 - (i + 1)) + 1 by omega]
  rfl
theorem cn_go_s {clr v : Nat → Int32} {ng : Int32} {i : Nat} {x : Int32} (h : i < 6) : cn_go clr v ng (6 - i) i x = if 9 < v (8 + i) then -1 else if clr i = 0 then -1 else cn_go clr v ng (6 - (i + 1)) (i + 1) (10 * x + v (8 + i)) := by
  rw [show 6 - i = (6 - (i + 1)) + 1 by omega]
  rfl
theorem fm_pos {x : Int32} (h : ¬ x ≤ 0) : 0 < x.toInt := by
  have h2 := Int32.lt_iff_toInt_lt.mp (Int32.not_le.mp h)
  simpa using h2
/-! the light shared -/
def le_l (lv lt : Nat → Int32) : Nat → Int32
  | 0 => 1000
  | k + 1 => if lv k ≤ 0 then le_l lv lt k else if lt k < le_l lv lt k then lt k else le_l lv lt k
def le_g (lv lt : Nat → Int32) : Nat → Int32
  | 0 => 0
  | k + 1 => if lv k ≤ 0 then le_g lv lt k else if le_g lv lt k < lt k then lt k else le_g lv lt k
def le_sh (lv lt : Nat → Int32) : UInt64 := if le_g lv lt 6 ≤ 0 then FP.dconst1 else FP.ddiv (FP.i2d (le_l lv lt 6)) (FP.i2d (le_g lv lt 6))
/-! signs that are alike -/
def ap_in (wk : Int32) (a : Nat) (c0 : Int32) : Nat → Int32
  | 0 => c0
  | k + 1 => if xm_mk a &&& wk = xm_mk (a + 1 + k) &&& wk then ap_in wk a c0 k + 1 else ap_in wk a c0 k
def ap_to (wk : Int32) : Nat → Int32
  | 0 => 0
  | a + 1 => ap_in wk a (ap_to wk a) (11 - a)
/-! a number's length -/
def nl_d (m : Int64) : Nat → Int64
  | 0 => m / 10
  | k + 1 => nl_d m k / 10
def nl_0 (x : Int32) : Nat := if 0 ≤ x then 1 else 2
def nl_to (m : Int64) (l0 : Nat) : Nat → Nat → Nat
  | 0, i => l0 + i
  | f + 1, i => if lg_cmp (nl_d m i) 0 ≤ 0 then l0 + i else nl_to m l0 f (i + 1)
def nl_n (x : Int32) : Nat := nl_to (fm_mag x) (nl_0 x) (7 - nl_0 x) 0
theorem nl_to_s {m : Int64} {l0 i : Nat} (h : l0 + i < 7) : nl_to m l0 (7 - l0 - i) i = if lg_cmp (nl_d m i) 0 ≤ 0 then l0 + i else nl_to m l0 (7 - l0 - (i + 1)) (i + 1) := by
  rw [show 7 - l0 - i = (7 - l0 - (i + 1)) + 1 by omega]
  rfl
theorem nl_0_in (x : Int32) : 1 ≤ nl_0 x ∧ nl_0 x ≤ 2 := by
  unfold nl_0
  split <;> omega
theorem le_in {lv lt : Nat → Int32} (h : ∀ j, j < 6 → 0 ≤ (lt j).toInt ∧ (lt j).toInt ≤ 1000) : ∀ k, k ≤ 6 → (0 ≤ (le_l lv lt k).toInt ∧ (le_l lv lt k).toInt ≤ 1000) ∧ 0 ≤ (le_g lv lt k).toInt ∧ (le_g lv lt k).toInt ≤ 1000
  | 0, _ => by
    show (0 ≤ (1000 : Int32).toInt ∧ (1000 : Int32).toInt ≤ 1000) ∧ 0 ≤ (0 : Int32).toInt ∧ (0 : Int32).toInt ≤ 1000
    decide
  | k + 1, hk => by
    obtain ⟨h1, h2⟩ := le_in h k (by omega)
    have h3 := h k (by omega)
    unfold le_l le_g
    split
    · exact ⟨h1, h2⟩
    · constructor
      · split
        · exact h3
        · exact h1
      · split
        · exact h3
        · exact h2
/-! what would be -/
def if_li (v : Nat → Int32) (d : Nat) (lev : Int32) : Nat → Int32 := fr_li (upd (fun j => v (14 + j)) d lev) (fun _ => 0) (v 7) (fm_dk (v 3))
def if_see (v : Nat → Int32) (n d : Nat) (lev : Int32) (j : Nat) : Int32 := lk_see (fr_gp (if_li v d lev) n) (fr_ls (if_li v d lev) n) (v 2) (v 4) (v 5 * v 1) j
def if_tr (v : Nat → Int32) (n d : Nat) (lev : Int32) : Nat → Int32 := lk_tr (fr_gp (if_li v d lev) n) (fr_ls (if_li v d lev) n) (v 2) (v 4) (v 5 * v 1) d
def ls_to (v : Nat → Int32) (n d : Nat) : Nat → Nat → Int32
  | 0, _ => -1
  | f + 1, i => if if_see v n d (nI i) d = 0 then ls_to v n d f (i + 1) else nI i
theorem ls_to_s {v : Nat → Int32} {n d i : Nat} (h : i < 16) : ls_to v n d (16 - i) i = if if_see v n d (nI i) d = 0 then ls_to v n d (16 - (i + 1)) (i + 1) else nI i := by
  rw [show 16 - i = (16 - (i + 1)) + 1 by omega]
  rfl
/-! the digest -/
def hm (f : Nat → Int32) (h : Int64) : Nat → Int64
  | 0 => h
  | k + 1 => 31 * hm f h k + (f k).toInt64
def md_1 (gp ls : Nat → Int32) (ln pe ne : Int32) (v : Nat → Int32) (d : Nat) (h : Int64) : Int64 := hm (fun j => v (38 + (d * 7 + j))) (hm (lk_pr gp ls ln pe ne v d) h 12) 7
def md_2 (v : Nat → Int32) (n d : Nat) (h : Int64) : Int64 := 31 * (31 * hm (if_tr v n d 9) h 3 + (ls_to v n d 16 0).toInt64) + (ap_to (v (20 + d) ^^^ (-1)) 12).toInt64
def md (gp ls : Nat → Int32) (ln pe ne : Int32) (v : Nat → Int32) (n d : Nat) (h : Int64) : Int64 := md_2 v n d (md_1 gp ls ln pe ne v d h)
theorem fp_div_ok {x y : Int32} (hx : 0 ≤ x.toInt ∧ x.toInt ≤ 1000) (hy : 0 < y.toInt ∧ y.toInt ≤ 1000) : vf_n64 (FP.ddiv (FP.i2d x) (FP.i2d y)) := by
  have h : FP.Core.dIsNaN (FP.Core.ddiv (FP.Core.i2d x) (FP.Core.i2d y)) = false := FP.Core.ddiv_out (FP.Core.i2d_fin x).notNaN (FP.Core.i2d_fin y) (fun q => FP.Core.i2d_ne_zero (v := y) (fun e => by subst e; exact absurd hy.1 (by decide)) ((FP.Core.zero_bits2 _).mp q))
  generalize hr : FP.Core.ddiv (FP.Core.i2d x) (FP.Core.i2d y) = r at h
  show FP.Core.ddiv (FP.Core.i2d x) (FP.Core.i2d y) &&& 0x7fffffffffffffff ≤ 0x7ff0000000000000
  rw [hr]
  have h1 : ¬ 9218868437227405312 < r.toNat % 2 ^ 63 := fun q => by
    have := (FP.Core.isNaN_bits r).mpr q
    rw [h] at this
    exact absurd this (by decide)
  rw [UInt64.le_iff_toNat_le, UInt64.toNat_and]
  have e : (0x7fffffffffffffff : UInt64).toNat = 2 ^ 63 - 1 := by decide
  have e2 : (0x7ff0000000000000 : UInt64).toNat = 9218868437227405312 := by decide
  rw [e, e2, Nat.and_two_pow_sub_one_eq_mod]
  omega


set_option maxHeartbeats 4000000 in
set_option maxRecDepth 100000 in
theorem c_X4_isClear (l : Launch) (dC : Nat → ClassId) (dI : Nat → Nat → Nat) (cI cS cJ : ClassId) (tt : Nat → Nat) (x : Nat) (a : Nat → Nat) (h : Nat → Nat) (tx : Nat → Nat) (g : Nat → Nat) (k : Nat → Nat) (gp : Nat → Int32) (ls : Nat → Int32) (ln : Int32) (pe : Int32) (ne : Int32) (v : Nat → Int32) (d : Nat) : Met l yX4_isClear wsX4_isClear ({ frames := 2, cells := 0, slots := 0, locals := 45 } : Room) (va_Pc [.ref x, .int (nI d)] (xm_R (dC, dI) cI cS cJ tt [(x, .inr (4, [.ref (a 0), .ref (h 0), .ref (tx 0), .ref (g 0), .ref (k 0)])), ((g 0), .inr (0, [.ref (g 1), .ref (g 2), .ref (g 3), .ref (g 4), .ref (g 5), .ref (g 6), .ref (g 7), .int ln, .int pe, .int ne])), ((g 3), .inl (cI, 6, .inl gp)), ((g 4), .inl (cI, 6, .inl ls)), ((a 0), .inr (2, [.ref (a 1), .ref (a 2), .ref (a 3), .ref (a 4), .ref (a 5), .ref (a 6), .ref (a 7), .int (v 1), .int (v 0), .int (v 7)])), ((a 1), .inl (cI, 6, .inl (fun j => v (8 + j)))), ((a 3), .inl (cI, 6, .inl (fun j => v (20 + j))))] (d < 6 ∧ fm_ix (v (8 + d)) 12))) (k2_QcV (.int (lk_clr gp ls ln pe ne v d))) 0 0 (fun _ => False) := by
  refine Met.ofW (cc := cX4_isClear) (maxL := 2) (ret := (some .boolean)) (by decide) rfl ?_
  intro p e s m args below meth c s₁ B hml hv
  obtain ⟨rfl, hP, hE, hpre⟩ := hv
  have hx := B.exec
  have hb := B.bytes
  have hr := B.returns
  have hts := atoms_spec (ws := wsX4_isClear) B.pre
  have hown : s.vm.findClass RX4 = some m.cls := findClass_of_methodNamed B.named
  have hlocks := B.notSynchronized
  have hK := hE.1
  have hS : va_S (fun _ => False) s.heap s.heap [] := va_S.rf
  have hP : va_P (dC, dI) vwCl [(x, .inr (4, [.ref (a 0), .ref (h 0), .ref (tx 0), .ref (g 0), .ref (k 0)])), ((g 0), .inr (0, [.ref (g 1), .ref (g 2), .ref (g 3), .ref (g 4), .ref (g 5), .ref (g 6), .ref (g 7), .int ln, .int pe, .int ne])), ((g 3), .inl (cI, 6, .inl gp)), ((g 4), .inl (cI, 6, .inl ls)), ((a 0), .inr (2, [.ref (a 1), .ref (a 2), .ref (a 3), .ref (a 4), .ref (a 5), .ref (a 6), .ref (a 7), .int (v 1), .int (v 0), .int (v 7)])), ((a 1), .inl (cI, 6, .inl (fun j => v (8 + j)))), ((a 3), .inl (cI, 6, .inl (fun j => v (20 + j))))] s.heap := hP
  have hin4 : ∀ w ∈ u_ws RX4 TX4 5, w ∈ wsX4_isClear := by decide +kernel
  have hl := lv_entry [.ref x, .int (nI d)] (n := 2) (Nat.le_of_ble_eq_true rfl)
  rw [lg_entry_eq]
  generalize (lg_sl [.ref x, .int (nI d)] ++ List.replicate (2 - (lg_sl [.ref x, .int (nI d)]).length) Slot.unset).toArray = lz at hl ⊢
  have hl : lv_has lz 2 [(0, .ref x), (1, .int (nI d))] := hl
  obtain ⟨hd6, hsg⟩ := id hpre
  refine lv_aload_n hx hb dX4_isClear_0 rfl (lv_at hl 0 rfl) ?_
  refine va_get (D := (dC, dI)) (ci := 4) (v := .ref (g 0)) (C := RX4) (T := TX4) (N := 5) hx hb hts hin4 hown hK hP 0 rfl rfl 3 (by decide) (hts (.fieldLink RX4 33 "TurnDigits" "frame" "LTurnDigits$Frame;") (by decide +kernel)) (fun _ h9 => h9) rfl dX4_isClear_1 ?_
  refine lv_iload_n hx hb dX4_isClear_4 rfl (lv_at hl 1 rfl) ?_
  have hPc := hP.sub (ws' := [((g 0), .inr (0, [.ref (g 1), .ref (g 2), .ref (g 3), .ref (g 4), .ref (g 5), .ref (g 6), .ref (g 7), .int ln, .int pe, .int ne])), ((g 3), .inl (cI, 6, .inl gp)), ((g 4), .inl (cI, 6, .inl ls))]) [1, 2, 3] rfl
  refine W.callV ((va_runV (As := [.int (nI d)]) (rest := []) ⟨hx, hb, hml, hown, hts⟩ (c_X0_isSeen l dC dI cI cS cJ tt g gp ls ln pe ne d) (cwV 1 hts gX4_isClear_X0_isSeen rfl rfl rfl (by decide +kernel) ⟨Nat.le_of_ble_eq_true rfl, Nat.le_of_ble_eq_true rfl⟩) ⟨xm_Rblind, va_recv hK hPc (ci := 0) (q0 := 0) rfl rfl, fun U hU hW => ⟨rfl, by rw [hU]; exact hPc, hE.go hS (fun _ q => q.elim) hU hW, hd6⟩⟩ rfl rfl hl.1 rfl (lv_room (Nat.le_of_ble_eq_true rfl)) dX4_isClear_5 ⟨Nat.zero_le _, Nat.zero_le _⟩).run) ?_
  refine W.eq (g2 := F0 m 8 lz (.int (fm_see (fm_light ln (ls d)) ne (fm_flk (ls d) (gp d) pe)) :: [])) rfl ?_
  refine xm_topi (y := (lk_see gp ls ln pe ne d)) rfl ?_
  refine lv_if_eq (tgt := 30) hx hb dX4_isClear_8 (by decide) (fun q8 => ?_) (fun q8 => ?_)
  · refine lv_iconst (v := 0) hx hb dX4_isClear_30 (by decide) ?_
    exact W.zret (v := 0) hx hb hr rfl (fun t ht hW => ⟨congrArg (fun z => Outcome.returned (some (Value.int z))) (by simp only [lk_clr, cl_clr, if_pos q8]), ht⟩) hS.2.2 dX4_isClear_31
  · refine lv_aload_n hx hb dX4_isClear_11 rfl (lv_at hl 0 rfl) ?_
    refine va_get (D := (dC, dI)) (ci := 4) (v := .ref (a 0)) (C := RX4) (T := TX4) (N := 5) hx hb hts hin4 hown hK hP 0 rfl rfl 0 (by decide) (hts (.fieldLink RX4 10 "TurnDigits" "state" "LTurnDigits$State;") (by decide +kernel)) (fun _ h9 => h9) rfl dX4_isClear_12 ?_
    refine lv_iload_n hx hb dX4_isClear_15 rfl (lv_at hl 1 rfl) ?_
    have hPc := hP.sub (ws' := [((a 0), .inr (2, [.ref (a 1), .ref (a 2), .ref (a 3), .ref (a 4), .ref (a 5), .ref (a 6), .ref (a 7), .int (v 1), .int (v 0), .int (v 7)])), ((a 1), .inl (cI, 6, .inl (fun j => v (8 + j)))), ((a 3), .inl (cI, 6, .inl (fun j => v (20 + j))))]) [4, 5, 6] rfl
    refine W.callV ((va_runV (As := [.int (nI d)]) (rest := []) ⟨hx, hb, hml, hown, hts⟩ (c_X2_readableSigns l dC dI cI cS cJ tt a (v 1) (v 0) (v 7) (fun j => v (8 + j)) (fun j => v (20 + j)) d) (cwV 1 hts gX4_isClear_X2_readableSigns rfl rfl rfl (by decide +kernel) ⟨Nat.le_of_ble_eq_true rfl, Nat.le_of_ble_eq_true rfl⟩) ⟨xm_Rblind, va_recv hK hPc (ci := 2) (q0 := 0) rfl rfl, fun U hU hW => ⟨rfl, by rw [hU]; exact hPc, hE.go hS (fun _ q => q.elim) hU hW, hpre⟩⟩ rfl rfl hl.1 rfl (lv_room (Nat.le_of_ble_eq_true rfl)) dX4_isClear_16 ⟨Nat.zero_le _, Nat.zero_le _⟩).run) ?_
    refine W.eq (g2 := F0 m 19 lz (.int (fm_rdb ((fun j => v (20 + j)) d) (fm_shw ((fun j => v (8 + j)) d) ((fun j => v (20 + j)) d)) 12) :: [])) rfl ?_
    refine xm_topi (y := (lk_rd v d)) rfl ?_
    have hPc := hP.sub (ws' := []) [] rfl
    refine W.callV ((va_runS (As := [.int (lk_rd v d)]) (rest := []) ⟨hx, hb, hml, hown, hts⟩ (c_J6_bitCount_0f7a4 l dC dI cI cS cJ tt (lk_rd v d)) (va_cwS 1 hts gX4_isClear_J6_bitCount_0f7a4 rfl rfl rfl (by decide +kernel) ⟨Nat.le_of_ble_eq_true rfl, Nat.le_of_ble_eq_true rfl⟩) ⟨xm_Rblind, fun U hU hW => ⟨rfl, by rw [hU]; exact hPc, hE.go hS (fun _ q => q.elim) hU hW, trivial⟩⟩ rfl rfl hl.1 rfl (lv_room (Nat.le_of_ble_eq_true rfl)) dX4_isClear_19 ⟨Nat.zero_le _, Nat.zero_le _⟩).run) ?_
    refine W.eq (g2 := F0 m 22 lz (.int (fm_bc (lk_rd v d)) :: [])) rfl ?_
    refine lv_iconst (v := 1) hx hb dX4_isClear_22 (by decide) ?_
    refine lv_icmp_ne (tgt := 30) hx hb dX4_isClear_23 (by decide) (fun q23 => ?_) (fun q23 => ?_)
    · refine lv_iconst (v := 0) hx hb dX4_isClear_30 (by decide) ?_
      exact W.zret (v := 0) hx hb hr rfl (fun t ht hW => ⟨congrArg (fun z => Outcome.returned (some (Value.int z))) (by simp only [lk_clr, cl_clr, if_neg q8, if_neg q23]), ht⟩) hS.2.2 dX4_isClear_31
    · refine lv_iconst (v := 1) hx hb dX4_isClear_26 (by decide) ?_
      refine lv_goto (tgt := 31) hx hb dX4_isClear_27 (by decide) ?_
      exact W.zret (v := 1) hx hb hr rfl (fun t ht hW => ⟨congrArg (fun z => Outcome.returned (some (Value.int z))) (by simp only [lk_clr, cl_clr, if_neg q8, if_pos q23]), ht⟩) hS.2.2 dX4_isClear_31

set_option maxHeartbeats 4000000 in
set_option maxRecDepth 100000 in
theorem c_X4_clearDigits (l : Launch) (dC : Nat → ClassId) (dI : Nat → Nat → Nat) (cI cS cJ : ClassId) (tt : Nat → Nat) (x : Nat) (a : Nat → Nat) (h : Nat → Nat) (tx : Nat → Nat) (g : Nat → Nat) (k : Nat → Nat) (gp : Nat → Int32) (ls : Nat → Int32) (ln : Int32) (pe : Int32) (ne : Int32) (v : Nat → Int32) : Met l yX4_clearDigits wsX4_clearDigits ({ frames := 3, cells := 0, slots := 0, locals := 66 } : Room) (va_Pc [.ref x] (xm_R (dC, dI) cI cS cJ tt [(x, .inr (4, [.ref (a 0), .ref (h 0), .ref (tx 0), .ref (g 0), .ref (k 0)])), ((g 0), .inr (0, [.ref (g 1), .ref (g 2), .ref (g 3), .ref (g 4), .ref (g 5), .ref (g 6), .ref (g 7), .int ln, .int pe, .int ne])), ((g 3), .inl (cI, 6, .inl gp)), ((g 4), .inl (cI, 6, .inl ls)), ((a 0), .inr (2, [.ref (a 1), .ref (a 2), .ref (a 3), .ref (a 4), .ref (a 5), .ref (a 6), .ref (a 7), .int (v 1), .int (v 0), .int (v 7)])), ((a 1), .inl (cI, 6, .inl (fun j => v (8 + j)))), ((a 3), .inl (cI, 6, .inl (fun j => v (20 + j))))] (∀ j, j < 6 → fm_ix (v (8 + j)) 12))) (k2_QcV (.int (fm_cntF (fun j => lk_clr gp ls ln pe ne v j) (fun _ => 0) 6))) 0 0 (fun _ => False) := by
  refine Met.ofW (cc := cX4_clearDigits) (maxL := 3) (ret := (some .int)) (by decide) rfl ?_
  intro p e s m args below meth c s₁ B hml hv
  obtain ⟨rfl, hP, hE, hpre⟩ := hv
  have hx := B.exec
  have hb := B.bytes
  have hr := B.returns
  have hts := atoms_spec (ws := wsX4_clearDigits) B.pre
  have hown : s.vm.findClass RX4 = some m.cls := findClass_of_methodNamed B.named
  have hlocks := B.notSynchronized
  have hK := hE.1
  have hS : va_S (fun _ => False) s.heap s.heap [] := va_S.rf
  have hP : va_P (dC, dI) vwCl [(x, .inr (4, [.ref (a 0), .ref (h 0), .ref (tx 0), .ref (g 0), .ref (k 0)])), ((g 0), .inr (0, [.ref (g 1), .ref (g 2), .ref (g 3), .ref (g 4), .ref (g 5), .ref (g 6), .ref (g 7), .int ln, .int pe, .int ne])), ((g 3), .inl (cI, 6, .inl gp)), ((g 4), .inl (cI, 6, .inl ls)), ((a 0), .inr (2, [.ref (a 1), .ref (a 2), .ref (a 3), .ref (a 4), .ref (a 5), .ref (a 6), .ref (a 7), .int (v 1), .int (v 0), .int (v 7)])), ((a 1), .inl (cI, 6, .inl (fun j => v (8 + j)))), ((a 3), .inl (cI, 6, .inl (fun j => v (20 + j))))] s.heap := hP
  have hl := lv_entry [.ref x] (n := 3) (Nat.le_of_ble_eq_true rfl)
  rw [lg_entry_eq]
  generalize (lg_sl [.ref x] ++ List.replicate (3 - (lg_sl [.ref x]).length) Slot.unset).toArray = lz at hl ⊢
  have hl : lv_has lz 3 [(0, .ref x)] := hl
  refine lv_iconst (v := 0) hx hb dX4_clearDigits_0 (by decide) ?_
  refine lv_istore_n (lv' := [(1, .int 0), (0, .ref x)]) hx hb dX4_clearDigits_1 rfl hl (by decide) rfl (fun lz hl => ?_)
  refine lv_iconst (v := 0) hx hb dX4_clearDigits_2 (by decide) ?_
  refine lv_istore_n (lv' := [(2, .int 0), (1, .int 0), (0, .ref x)]) hx hb dX4_clearDigits_3 rfl hl (by decide) rfl (fun lz hl => ?_)
  have L4 : ∀ (zz i : Nat), i ≤ 6 → 6 + 1 ≤ i + zz → ∀ (x1 : Int32), x1 = fm_cntF (fun j => lk_clr gp ls ln pe ne v j) (fun _ => 0) i → ∀ (lz : Array Slot), lv_has lz 3 [(0, .ref x), (1, .int x1), (2, .int (nI i))] → W p l e (headSpec wsX4_clearDigits ({ frames := 3, cells := 0, slots := 0, locals := 66 } : Room)).room s m ([.ref x] : List Value).toArray below meth c s.heap [] 0 0 (MQ below (k2_QcV (.int (fm_cntF (fun j => lk_clr gp ls ln pe ne v j) (fun _ => 0) 6))) ([.ref x] : List Value).toArray s 0 0 (fun _ => False)) (F0 m 4 lz []) := by
    intro zz
    induction zz with
    | zero => intro i hii hni; exact absurd hni (by omega)
    | succ zz ih4 =>
      intro i hii hni x1 e_x1  lz hl
      subst e_x1
      refine lv_iload_n hx hb dX4_clearDigits_4 rfl (lv_at hl 2 rfl) ?_
      refine lv_bipush (v := 6) hx hb dX4_clearDigits_5 (by decide) ?_
      refine lv_icmp_ge (tgt := 27) hx hb dX4_clearDigits_7 (by decide) (fun q7 => ?_) (fun q7 => ?_)
      · have hNi : 6 = i := (xm_end (N := 6) hii (by decide) q7).symm
        subst hNi
        refine lv_iload_n hx hb dX4_clearDigits_27 rfl (lv_at hl 1 rfl) ?_
        exact W.iret (v := (fm_cntF (fun j => lk_clr gp ls ln pe ne v j) (fun _ => 0) 6)) hx hb hr (fun t ht hW => ⟨congrArg (fun z => Outcome.returned (some (Value.int z))) (by simp), ht⟩) hS.2.2 dX4_clearDigits_28
      · have hlti : i < 6 := xm_lt (N := 6) hii (by decide) q7
        refine lv_aload_n hx hb dX4_clearDigits_10 rfl (lv_at hl 0 rfl) ?_
        refine lv_iload_n hx hb dX4_clearDigits_11 rfl (lv_at hl 2 rfl) ?_
        have hPc := hP.sub (ws' := [(x, .inr (4, [.ref (a 0), .ref (h 0), .ref (tx 0), .ref (g 0), .ref (k 0)])), ((g 0), .inr (0, [.ref (g 1), .ref (g 2), .ref (g 3), .ref (g 4), .ref (g 5), .ref (g 6), .ref (g 7), .int ln, .int pe, .int ne])), ((g 3), .inl (cI, 6, .inl gp)), ((g 4), .inl (cI, 6, .inl ls)), ((a 0), .inr (2, [.ref (a 1), .ref (a 2), .ref (a 3), .ref (a 4), .ref (a 5), .ref (a 6), .ref (a 7), .int (v 1), .int (v 0), .int (v 7)])), ((a 1), .inl (cI, 6, .inl (fun j => v (8 + j)))), ((a 3), .inl (cI, 6, .inl (fun j => v (20 + j))))]) [0, 1, 2, 3, 4, 5, 6] rfl
        refine W.callV ((va_runV (As := [.int (nI i)]) (rest := []) ⟨hx, hb, hml, hown, hts⟩ (c_X4_isClear l dC dI cI cS cJ tt x a h tx g k gp ls ln pe ne v i) (cwV 1 hts gX4_clearDigits_X4_isClear rfl rfl rfl (by decide +kernel) ⟨Nat.le_of_ble_eq_true rfl, Nat.le_of_ble_eq_true rfl⟩) ⟨xm_Rblind, va_recv hK hPc (ci := 4) (q0 := 0) rfl rfl, fun U hU hW => ⟨rfl, by rw [hU]; exact hPc, hE.go hS (fun _ q => q.elim) hU hW, ⟨hlti, hpre i hlti⟩⟩⟩ rfl rfl hl.1 rfl (lv_room (Nat.le_of_ble_eq_true rfl)) dX4_clearDigits_12 ⟨Nat.zero_le _, Nat.zero_le _⟩).run) ?_
        refine W.eq (g2 := F0 m 15 lz (.int (lk_clr gp ls ln pe ne v i) :: [])) rfl ?_
        refine lv_if_eq (tgt := 21) hx hb dX4_clearDigits_15 (by decide) (fun q15 => ?_) (fun q15 => ?_)
        · refine lv_iinc (v := nI (i + 1)) (lv' := [(2, .int (nI (i + 1))), (0, .ref x), (1, .int (fm_cntF (fun j => lk_clr gp ls ln pe ne v j) (fun _ => 0) i))]) hx hb dX4_clearDigits_21 hl (k := 2) rfl (nI_1 i) (by decide) rfl (fun lz hl => ?_)
          refine lv_goto (tgt := 4) hx hb dX4_clearDigits_24 (by decide) ?_
          exact ih4 (i + 1) hlti (by omega) (fm_cntF (fun j => lk_clr gp ls ln pe ne v j) (fun _ => 0) i) (by simp only [fm_cntF, if_neg q7, if_pos q15])  lz (lv_sub hl [1, 2, 0] rfl)
        · refine lv_iinc (v := ((fm_cntF (fun j => lk_clr gp ls ln pe ne v j) (fun _ => 0) i) + 1)) (lv' := [(1, .int ((fm_cntF (fun j => lk_clr gp ls ln pe ne v j) (fun _ => 0) i) + 1)), (0, .ref x), (2, .int (nI i))]) hx hb dX4_clearDigits_18 hl (k := 1) rfl rfl (by decide) rfl (fun lz hl => ?_)
          refine lv_iinc (v := nI (i + 1)) (lv' := [(2, .int (nI (i + 1))), (1, .int ((fm_cntF (fun j => lk_clr gp ls ln pe ne v j) (fun _ => 0) i) + 1)), (0, .ref x)]) hx hb dX4_clearDigits_21 hl (k := 2) rfl (nI_1 i) (by decide) rfl (fun lz hl => ?_)
          refine lv_goto (tgt := 4) hx hb dX4_clearDigits_24 (by decide) ?_
          exact ih4 (i + 1) hlti (by omega) ((fm_cntF (fun j => lk_clr gp ls ln pe ne v j) (fun _ => 0) i) + 1) (by simp only [fm_cntF, if_neg q7, if_neg q15])  lz (lv_sub hl [2, 1, 0] rfl)
  exact L4 (6 + 1) 0 (by omega) (by omega) 0 rfl  lz (lv_sub hl [2, 1, 0] rfl)

set_option maxHeartbeats 4000000 in
set_option maxRecDepth 100000 in
theorem c_X4_alikePairs (l : Launch) (dC : Nat → ClassId) (dI : Nat → Nat → Nat) (cI cS cJ : ClassId) (tt : Nat → Nat) (x : Nat) (a : Nat → Nat) (h : Nat → Nat) (tx : Nat → Nat) (g : Nat → Nat) (k : Nat → Nat) (v : Nat → Int32) (d : Nat) : Met l yX4_alikePairs wsX4_alikePairs ({ frames := 0, cells := 0, slots := 0, locals := 0 } : Room) (va_Pc [.ref x, .int (nI d)] (xm_R (dC, dI) cI cS cJ tt [(x, .inr (4, [.ref (a 0), .ref (h 0), .ref (tx 0), .ref (g 0), .ref (k 0)])), ((a 0), .inr (2, [.ref (a 1), .ref (a 2), .ref (a 3), .ref (a 4), .ref (a 5), .ref (a 6), .ref (a 7), .int (v 1), .int (v 0), .int (v 7)])), ((a 3), .inl (cI, 6, .inl (fun j => v (20 + j))))] (d < 6))) (k2_QcV (.int (ap_to (v (20 + d) ^^^ (-1)) 12))) 0 0 (fun _ => False) := by
  refine Met.ofW (cc := cX4_alikePairs) (maxL := 6) (ret := (some .int)) (by decide) rfl ?_
  intro p e s m args below meth c s₁ B hml hv
  obtain ⟨rfl, hP, hE, hpre⟩ := hv
  have hx := B.exec
  have hb := B.bytes
  have hr := B.returns
  have hts := atoms_spec (ws := wsX4_alikePairs) B.pre
  have hown : s.vm.findClass RX4 = some m.cls := findClass_of_methodNamed B.named
  have hlocks := B.notSynchronized
  have hK := hE.1
  have hS : va_S (fun _ => False) s.heap s.heap [] := va_S.rf
  have hP : va_P (dC, dI) vwCl [(x, .inr (4, [.ref (a 0), .ref (h 0), .ref (tx 0), .ref (g 0), .ref (k 0)])), ((a 0), .inr (2, [.ref (a 1), .ref (a 2), .ref (a 3), .ref (a 4), .ref (a 5), .ref (a 6), .ref (a 7), .int (v 1), .int (v 0), .int (v 7)])), ((a 3), .inl (cI, 6, .inl (fun j => v (20 + j))))] s.heap := hP
  have hin2 : ∀ w ∈ u_ws RX2 TX2 10, w ∈ wsX4_alikePairs := by decide +kernel
  have hin4 : ∀ w ∈ u_ws RX4 TX4 5, w ∈ wsX4_alikePairs := by decide +kernel
  have hl := lv_entry [.ref x, .int (nI d)] (n := 6) (Nat.le_of_ble_eq_true rfl)
  rw [lg_entry_eq]
  generalize (lg_sl [.ref x, .int (nI d)] ++ List.replicate (6 - (lg_sl [.ref x, .int (nI d)]).length) Slot.unset).toArray = lz at hl ⊢
  have hl : lv_has lz 6 [(0, .ref x), (1, .int (nI d))] := hl
  refine lv_aload_n hx hb dX4_alikePairs_0 rfl (lv_at hl 0 rfl) ?_
  refine va_get (D := (dC, dI)) (ci := 4) (v := .ref (a 0)) (C := RX4) (T := TX4) (N := 5) hx hb hts hin4 hown hK hP 0 rfl rfl 0 (by decide) (hts (.fieldLink RX4 10 "TurnDigits" "state" "LTurnDigits$State;") (by decide +kernel)) (fun _ h9 => h9) rfl dX4_alikePairs_1 ?_
  refine va_get (D := (dC, dI)) (ci := 2) (v := .ref (a 3)) (C := RX2) (T := TX2) (N := 10) hx hb hts hin2 hown hK hP 1 rfl rfl 2 (by decide) (hts (.fieldLink RX4 65 "TurnDigits$State" "burnt" "[I") (by decide +kernel)) (fun _ h9 => h9) rfl dX4_alikePairs_4 ?_
  refine lv_iload_n hx hb dX4_alikePairs_7 rfl (lv_at hl 1 rfl) ?_
  refine xm_iald (D := (dC, dI)) hx hb hK hP 2 0 d (v := (fun j => v (20 + j)) d) rfl rfl (by decide) rfl (by omega) rfl dX4_alikePairs_8 ?_
  refine lv_iconst (v := (-1)) hx hb dX4_alikePairs_9 (by decide) ?_
  refine lv_ixor hx hb dX4_alikePairs_10 ?_
  refine xm_topi (y := (v (20 + d) ^^^ (-1))) rfl ?_
  refine lv_istore_n (lv' := [(2, .int (v (20 + d) ^^^ (-1))), (0, .ref x), (1, .int (nI d))]) hx hb dX4_alikePairs_11 rfl hl (by decide) rfl (fun lz hl => ?_)
  refine lv_iconst (v := 0) hx hb dX4_alikePairs_12 (by decide) ?_
  refine lv_istore_n (lv' := [(3, .int 0), (2, .int (v (20 + d) ^^^ (-1))), (0, .ref x), (1, .int (nI d))]) hx hb dX4_alikePairs_13 rfl hl (by decide) rfl (fun lz hl => ?_)
  refine lv_iconst (v := 0) hx hb dX4_alikePairs_14 (by decide) ?_
  refine lv_istore (lv' := [(4, .int 0), (3, .int 0), (2, .int (v (20 + d) ^^^ (-1))), (0, .ref x), (1, .int (nI d))]) hx hb dX4_alikePairs_15 hl (by decide) rfl (fun lz hl => ?_)
  have L17 : ∀ (zz i : Nat), i ≤ 12 → 12 + 1 ≤ i + zz → ∀ (x3 : Int32), x3 = ap_to (v (20 + d) ^^^ (-1)) i → ∀ (lz : Array Slot), lv_has lz 6 [(0, .ref x), (1, .int (nI d)), (2, .int (v (20 + d) ^^^ (-1))), (3, .int x3), (4, .int (nI i))] → W p l e (headSpec wsX4_alikePairs ({ frames := 0, cells := 0, slots := 0, locals := 0 } : Room)).room s m ([.ref x, .int (nI d)] : List Value).toArray below meth c s.heap [] 0 0 (MQ below (k2_QcV (.int (ap_to (v (20 + d) ^^^ (-1)) 12))) ([.ref x, .int (nI d)] : List Value).toArray s 0 0 (fun _ => False)) (F0 m 17 lz []) := by
    intro zz
    induction zz with
    | zero => intro i hii hni; exact absurd hni (by omega)
    | succ zz ih17 =>
      intro i hii hni x3 e_x3  lz hl
      subst e_x3
      refine lv_iload hx hb dX4_alikePairs_17 (lv_at hl 4 rfl) ?_
      refine lv_bipush (v := 12) hx hb dX4_alikePairs_19 (by decide) ?_
      refine lv_icmp_ge (tgt := 71) hx hb dX4_alikePairs_21 (by decide) (fun q21 => ?_) (fun q21 => ?_)
      · have hNi : 12 = i := (xm_end (N := 12) hii (by decide) q21).symm
        subst hNi
        refine lv_iload_n hx hb dX4_alikePairs_71 rfl (lv_at hl 3 rfl) ?_
        exact W.iret (v := (ap_to (v (20 + d) ^^^ (-1)) 12)) hx hb hr (fun t ht hW => ⟨congrArg (fun z => Outcome.returned (some (Value.int z))) (by simp), ht⟩) hS.2.2 dX4_alikePairs_72
      · have hlti : i < 12 := xm_lt (N := 12) hii (by decide) q21
        refine lv_iload hx hb dX4_alikePairs_24 (lv_at hl 4 rfl) ?_
        refine lv_iconst (v := 1) hx hb dX4_alikePairs_26 (by decide) ?_
        refine lv_iadd hx hb dX4_alikePairs_27 ?_
        refine xm_topi (y := (nI (i + 1 + 0))) (nI_1 i) ?_
        refine lv_istore (lv' := [(5, .int (nI (i + 1 + 0))), (0, .ref x), (1, .int (nI d)), (2, .int (v (20 + d) ^^^ (-1))), (3, .int (ap_to (v (20 + d) ^^^ (-1)) i)), (4, .int (nI i))]) hx hb dX4_alikePairs_28 hl (by decide) rfl (fun lz hl => ?_)
        have L30 : ∀ (zz j : Nat), j ≤ (11 - i) → (11 - i) + 1 ≤ j + zz → ∀ (x3 : Int32), x3 = ap_in (v (20 + d) ^^^ (-1)) i (ap_to (v (20 + d) ^^^ (-1)) i) j → ∀ (lz : Array Slot), lv_has lz 6 [(0, .ref x), (1, .int (nI d)), (2, .int (v (20 + d) ^^^ (-1))), (3, .int x3), (4, .int (nI i)), (5, .int (nI (i + 1 + j)))] → W p l e (headSpec wsX4_alikePairs ({ frames := 0, cells := 0, slots := 0, locals := 0 } : Room)).room s m ([.ref x, .int (nI d)] : List Value).toArray below meth c s.heap [] 0 0 (MQ below (k2_QcV (.int (ap_to (v (20 + d) ^^^ (-1)) 12))) ([.ref x, .int (nI d)] : List Value).toArray s 0 0 (fun _ => False)) (F0 m 30 lz []) := by
          intro zz
          induction zz with
          | zero => intro j hij hnj; exact absurd hnj (by omega)
          | succ zz ih30 =>
            intro j hij hnj x3 e_x3  lz hl
            subst e_x3
            refine lv_iload hx hb dX4_alikePairs_30 (lv_at hl 5 rfl) ?_
            refine lv_bipush (v := 12) hx hb dX4_alikePairs_32 (by decide) ?_
            refine lv_icmp_ge (tgt := 65) hx hb dX4_alikePairs_34 (by decide) (fun q34 => ?_) (fun q34 => ?_)
            · have hNj : 11 - i = j := by have h := xm_end (N := 12) (i := i + 1 + j) (by omega) (by decide) q34; omega
              subst hNj
              refine lv_iinc (v := nI (i + 1)) (lv' := [(4, .int (nI (i + 1))), (0, .ref x), (1, .int (nI d)), (2, .int (v (20 + d) ^^^ (-1))), (3, .int (ap_in (v (20 + d) ^^^ (-1)) i (ap_to (v (20 + d) ^^^ (-1)) i) (11 - i))), (5, .int (nI (i + 1 + (11 - i))))]) hx hb dX4_alikePairs_65 hl (k := 4) rfl (nI_1 i) (by decide) rfl (fun lz hl => ?_)
              refine lv_goto (tgt := 17) hx hb dX4_alikePairs_68 (by decide) ?_
              exact ih17 (i + 1) hlti (by omega) (ap_in (v (20 + d) ^^^ (-1)) i (ap_to (v (20 + d) ^^^ (-1)) i) (11 - i)) rfl  lz (lv_sub hl [1, 2, 3, 4, 0] rfl)
            · have hltj : j < 11 - i := by have h := xm_lt (N := 12) (i := i + 1 + j) (by omega) (by decide) q34; omega
              refine va_gets (C := "TurnDigits") (n := "MASKS") (d := "[I") (v := .ref (tt 0)) hx hb hE.2.2.1.1 hS hown (hts (.fieldLink RX4 272 "TurnDigits" "MASKS" "[I") (by decide +kernel)) (fun _ h9 => h9) dX4_alikePairs_37 ?_
              refine lv_iload hx hb dX4_alikePairs_40 (lv_at hl 4 rfl) ?_
              refine xm_ti hx hb hE.2.2.1 hS i (v := xm_mk i) (by decide) rfl (by omega) rfl dX4_alikePairs_42 ?_
              refine lv_iload_n hx hb dX4_alikePairs_43 rfl (lv_at hl 2 rfl) ?_
              refine lv_iand hx hb dX4_alikePairs_44 ?_
              refine va_gets (C := "TurnDigits") (n := "MASKS") (d := "[I") (v := .ref (tt 0)) hx hb hE.2.2.1.1 hS hown (hts (.fieldLink RX4 272 "TurnDigits" "MASKS" "[I") (by decide +kernel)) (fun _ h9 => h9) dX4_alikePairs_45 ?_
              refine lv_iload hx hb dX4_alikePairs_48 (lv_at hl 5 rfl) ?_
              refine xm_ti hx hb hE.2.2.1 hS (i + 1 + j) (v := xm_mk (i + 1 + j)) (by decide) rfl (by omega) rfl dX4_alikePairs_50 ?_
              refine lv_iload_n hx hb dX4_alikePairs_51 rfl (lv_at hl 2 rfl) ?_
              refine lv_iand hx hb dX4_alikePairs_52 ?_
              refine lv_icmp_ne (tgt := 59) hx hb dX4_alikePairs_53 (by decide) (fun q53 => ?_) (fun q53 => ?_)
              · refine lv_iinc (v := nI ((i + 1 + j) + 1)) (lv' := [(5, .int (nI ((i + 1 + j) + 1))), (0, .ref x), (1, .int (nI d)), (2, .int (v (20 + d) ^^^ (-1))), (3, .int (ap_in (v (20 + d) ^^^ (-1)) i (ap_to (v (20 + d) ^^^ (-1)) i) j)), (4, .int (nI i))]) hx hb dX4_alikePairs_59 hl (k := 5) rfl (nI_1 (i + 1 + j)) (by decide) rfl (fun lz hl => ?_)
                refine lv_goto (tgt := 30) hx hb dX4_alikePairs_62 (by decide) ?_
                exact ih30 (j + 1) hltj (by omega) (ap_in (v (20 + d) ^^^ (-1)) i (ap_to (v (20 + d) ^^^ (-1)) i) j) (by simp only [ap_in, if_neg q21, if_neg q34, if_neg q53])  lz (lv_sub hl [1, 2, 3, 4, 5, 0] rfl)
              · refine lv_iinc (v := ((ap_in (v (20 + d) ^^^ (-1)) i (ap_to (v (20 + d) ^^^ (-1)) i) j) + 1)) (lv' := [(3, .int ((ap_in (v (20 + d) ^^^ (-1)) i (ap_to (v (20 + d) ^^^ (-1)) i) j) + 1)), (0, .ref x), (1, .int (nI d)), (2, .int (v (20 + d) ^^^ (-1))), (4, .int (nI i)), (5, .int (nI (i + 1 + j)))]) hx hb dX4_alikePairs_56 hl (k := 3) rfl rfl (by decide) rfl (fun lz hl => ?_)
                refine lv_iinc (v := nI ((i + 1 + j) + 1)) (lv' := [(5, .int (nI ((i + 1 + j) + 1))), (3, .int ((ap_in (v (20 + d) ^^^ (-1)) i (ap_to (v (20 + d) ^^^ (-1)) i) j) + 1)), (0, .ref x), (1, .int (nI d)), (2, .int (v (20 + d) ^^^ (-1))), (4, .int (nI i))]) hx hb dX4_alikePairs_59 hl (k := 5) rfl (nI_1 (i + 1 + j)) (by decide) rfl (fun lz hl => ?_)
                refine lv_goto (tgt := 30) hx hb dX4_alikePairs_62 (by decide) ?_
                exact ih30 (j + 1) hltj (by omega) ((ap_in (v (20 + d) ^^^ (-1)) i (ap_to (v (20 + d) ^^^ (-1)) i) j) + 1) (by simp only [ap_in, if_neg q21, if_neg q34, if_pos q53])  lz (lv_sub hl [2, 3, 4, 1, 5, 0] rfl)
        exact L30 ((11 - i) + 1) 0 (by omega) (by omega) (ap_to (v (20 + d) ^^^ (-1)) i) rfl  lz (lv_sub hl [1, 2, 3, 4, 5, 0] rfl)
  exact L17 (12 + 1) 0 (by omega) (by omega) 0 rfl  lz (lv_sub hl [3, 4, 2, 1, 0] rfl)


set_option maxHeartbeats 4000000 in
set_option maxRecDepth 100000 in
theorem c_X4_property (l : Launch) (dC : Nat → ClassId) (dI : Nat → Nat → Nat) (cI cS cJ : ClassId) (tt : Nat → Nat) (x : Nat) (a : Nat → Nat) (h : Nat → Nat) (tx : Nat → Nat) (g : Nat → Nat) (k : Nat → Nat) (gp : Nat → Int32) (ls : Nat → Int32) (ln : Int32) (pe : Int32) (ne : Int32) (v : Nat → Int32) (d : Nat) (w0 : Nat) : Met l yX4_property wsX4_property ({ frames := 3, cells := 0, slots := 0, locals := 66 } : Room) (va_Pc [.ref x, .int (nI d), .int (nI w0)] (xm_R (dC, dI) cI cS cJ tt [(x, .inr (4, [.ref (a 0), .ref (h 0), .ref (tx 0), .ref (g 0), .ref (k 0)])), ((a 0), .inr (2, [.ref (a 1), .ref (a 2), .ref (a 3), .ref (a 4), .ref (a 5), .ref (a 6), .ref (a 7), .int (v 1), .int (v 0), .int (v 7)])), ((a 1), .inl (cI, 6, .inl (fun j => v (8 + j)))), ((a 2), .inl (cI, 6, .inl (fun j => v (14 + j)))), ((a 3), .inl (cI, 6, .inl (fun j => v (20 + j)))), ((a 4), .inl (cI, 6, .inl (fun j => v (26 + j)))), ((a 5), .inl (cI, 6, .inl (fun j => v (32 + j)))), ((a 6), .inl (cI, 42, .inl (fun j => v (38 + j)))), ((a 7), .inl (cI, 5, .inl (fun j => v (2 + j)))), ((g 0), .inr (0, [.ref (g 1), .ref (g 2), .ref (g 3), .ref (g 4), .ref (g 5), .ref (g 6), .ref (g 7), .int ln, .int pe, .int ne])), ((g 3), .inl (cI, 6, .inl gp)), ((g 4), .inl (cI, 6, .inl ls))] ((d < 6 ∧ fm_ix (v (8 + d)) 12) ∧ w0 ≤ 11))) (k2_QcV (.int (lk_pr gp ls ln pe ne v d w0))) 0 0 (fun _ => False) := by
  refine Met.ofW (cc := cX4_property) (maxL := 3) (ret := (some .int)) (by decide) rfl ?_
  intro p e s m args below meth c s₁ B hml hv
  obtain ⟨rfl, hP, hE, hpre⟩ := hv
  have hx := B.exec
  have hb := B.bytes
  have hr := B.returns
  have hts := atoms_spec (ws := wsX4_property) B.pre
  have hown : s.vm.findClass RX4 = some m.cls := findClass_of_methodNamed B.named
  have hlocks := B.notSynchronized
  have hK := hE.1
  have hS : va_S (fun _ => False) s.heap s.heap [] := va_S.rf
  have hP : va_P (dC, dI) vwCl [(x, .inr (4, [.ref (a 0), .ref (h 0), .ref (tx 0), .ref (g 0), .ref (k 0)])), ((a 0), .inr (2, [.ref (a 1), .ref (a 2), .ref (a 3), .ref (a 4), .ref (a 5), .ref (a 6), .ref (a 7), .int (v 1), .int (v 0), .int (v 7)])), ((a 1), .inl (cI, 6, .inl (fun j => v (8 + j)))), ((a 2), .inl (cI, 6, .inl (fun j => v (14 + j)))), ((a 3), .inl (cI, 6, .inl (fun j => v (20 + j)))), ((a 4), .inl (cI, 6, .inl (fun j => v (26 + j)))), ((a 5), .inl (cI, 6, .inl (fun j => v (32 + j)))), ((a 6), .inl (cI, 42, .inl (fun j => v (38 + j)))), ((a 7), .inl (cI, 5, .inl (fun j => v (2 + j)))), ((g 0), .inr (0, [.ref (g 1), .ref (g 2), .ref (g 3), .ref (g 4), .ref (g 5), .ref (g 6), .ref (g 7), .int ln, .int pe, .int ne])), ((g 3), .inl (cI, 6, .inl gp)), ((g 4), .inl (cI, 6, .inl ls))] s.heap := hP
  have hin0 : ∀ w ∈ u_ws RX0 TX0 10, w ∈ wsX4_property := by decide +kernel
  have hin2 : ∀ w ∈ u_ws RX2 TX2 10, w ∈ wsX4_property := by decide +kernel
  have hin4 : ∀ w ∈ u_ws RX4 TX4 5, w ∈ wsX4_property := by decide +kernel
  have hl := lv_entry [.ref x, .int (nI d), .int (nI w0)] (n := 3) (Nat.le_of_ble_eq_true rfl)
  rw [lg_entry_eq]
  generalize (lg_sl [.ref x, .int (nI d), .int (nI w0)] ++ List.replicate (3 - (lg_sl [.ref x, .int (nI d), .int (nI w0)]).length) Slot.unset).toArray = lz at hl ⊢
  have hl : lv_has lz 3 [(0, .ref x), (1, .int (nI d)), (2, .int (nI w0))] := hl
  obtain ⟨⟨hd6, hsg⟩, hw⟩ := hpre
  refine lv_iload_n hx hb dX4_property_0 rfl (lv_at hl 2 rfl) ?_
  rcases (show w0 = 0 ∨ w0 = 1 ∨ w0 = 2 ∨ w0 = 3 ∨ w0 = 4 ∨ w0 = 5 ∨ w0 = 6 ∨ w0 = 7 ∨ w0 = 8 ∨ w0 = 9 ∨ w0 = 10 ∨ w0 = 11 from (by omega)) with rfl | rfl | rfl | rfl | rfl | rfl | rfl | rfl | rfl | rfl | rfl | rfl
  · refine lv_tableIn (off := 59) (tgt := 60) hx hb dX4_property_1 (by decide) (by decide) (by decide) (by decide) ?_
    refine lv_aload_n hx hb dX4_property_60 rfl (lv_at hl 0 rfl) ?_
    refine va_get (D := (dC, dI)) (ci := 4) (v := .ref (a 0)) (C := RX4) (T := TX4) (N := 5) hx hb hts hin4 hown hK hP 0 rfl rfl 0 (by decide) (hts (.fieldLink RX4 10 "TurnDigits" "state" "LTurnDigits$State;") (by decide +kernel)) (fun _ h9 => h9) rfl dX4_property_61 ?_
    refine va_get (D := (dC, dI)) (ci := 2) (v := .ref (a 1)) (C := RX2) (T := TX2) (N := 10) hx hb hts hin2 hown hK hP 1 rfl rfl 0 (by decide) (hts (.fieldLink RX4 52 "TurnDigits$State" "signs" "[I") (by decide +kernel)) (fun _ h9 => h9) rfl dX4_property_64 ?_
    refine lv_iload_n hx hb dX4_property_67 rfl (lv_at hl 1 rfl) ?_
    refine xm_iald (D := (dC, dI)) hx hb hK hP 2 0 d (v := (fun j => v (8 + j)) d) rfl rfl (by decide) rfl (by omega) rfl dX4_property_68 ?_
    exact W.iret (v := (fun j => v (8 + j)) d) hx hb hr (fun t ht hW => ⟨congrArg (fun z => Outcome.returned (some (Value.int z))) (rfl), ht⟩) hS.2.2 dX4_property_69
  · refine lv_tableIn (off := 69) (tgt := 70) hx hb dX4_property_1 (by decide) (by decide) (by decide) (by decide) ?_
    refine lv_aload_n hx hb dX4_property_70 rfl (lv_at hl 0 rfl) ?_
    refine va_get (D := (dC, dI)) (ci := 4) (v := .ref (a 0)) (C := RX4) (T := TX4) (N := 5) hx hb hts hin4 hown hK hP 0 rfl rfl 0 (by decide) (hts (.fieldLink RX4 10 "TurnDigits" "state" "LTurnDigits$State;") (by decide +kernel)) (fun _ h9 => h9) rfl dX4_property_71 ?_
    refine va_get (D := (dC, dI)) (ci := 2) (v := .ref (a 2)) (C := RX2) (T := TX2) (N := 10) hx hb hts hin2 hown hK hP 1 rfl rfl 1 (by decide) (hts (.fieldLink RX4 56 "TurnDigits$State" "levels" "[I") (by decide +kernel)) (fun _ h9 => h9) rfl dX4_property_74 ?_
    refine lv_iload_n hx hb dX4_property_77 rfl (lv_at hl 1 rfl) ?_
    refine xm_iald (D := (dC, dI)) hx hb hK hP 3 0 d (v := (fun j => v (14 + j)) d) rfl rfl (by decide) rfl (by omega) rfl dX4_property_78 ?_
    exact W.iret (v := (fun j => v (14 + j)) d) hx hb hr (fun t ht hW => ⟨congrArg (fun z => Outcome.returned (some (Value.int z))) (rfl), ht⟩) hS.2.2 dX4_property_79
  · refine lv_tableIn (off := 79) (tgt := 80) hx hb dX4_property_1 (by decide) (by decide) (by decide) (by decide) ?_
    refine lv_aload_n hx hb dX4_property_80 rfl (lv_at hl 0 rfl) ?_
    refine va_get (D := (dC, dI)) (ci := 4) (v := .ref (a 0)) (C := RX4) (T := TX4) (N := 5) hx hb hts hin4 hown hK hP 0 rfl rfl 0 (by decide) (hts (.fieldLink RX4 10 "TurnDigits" "state" "LTurnDigits$State;") (by decide +kernel)) (fun _ h9 => h9) rfl dX4_property_81 ?_
    refine va_get (D := (dC, dI)) (ci := 2) (v := .ref (a 3)) (C := RX2) (T := TX2) (N := 10) hx hb hts hin2 hown hK hP 1 rfl rfl 2 (by decide) (hts (.fieldLink RX4 65 "TurnDigits$State" "burnt" "[I") (by decide +kernel)) (fun _ h9 => h9) rfl dX4_property_84 ?_
    refine lv_iload_n hx hb dX4_property_87 rfl (lv_at hl 1 rfl) ?_
    refine xm_iald (D := (dC, dI)) hx hb hK hP 4 0 d (v := (fun j => v (20 + j)) d) rfl rfl (by decide) rfl (by omega) rfl dX4_property_88 ?_
    exact W.iret (v := (fun j => v (20 + j)) d) hx hb hr (fun t ht hW => ⟨congrArg (fun z => Outcome.returned (some (Value.int z))) (rfl), ht⟩) hS.2.2 dX4_property_89
  · refine lv_tableIn (off := 89) (tgt := 90) hx hb dX4_property_1 (by decide) (by decide) (by decide) (by decide) ?_
    refine lv_aload_n hx hb dX4_property_90 rfl (lv_at hl 0 rfl) ?_
    refine va_get (D := (dC, dI)) (ci := 4) (v := .ref (a 0)) (C := RX4) (T := TX4) (N := 5) hx hb hts hin4 hown hK hP 0 rfl rfl 0 (by decide) (hts (.fieldLink RX4 10 "TurnDigits" "state" "LTurnDigits$State;") (by decide +kernel)) (fun _ h9 => h9) rfl dX4_property_91 ?_
    refine lv_iload_n hx hb dX4_property_94 rfl (lv_at hl 1 rfl) ?_
    have hPc := hP.sub (ws' := [((a 0), .inr (2, [.ref (a 1), .ref (a 2), .ref (a 3), .ref (a 4), .ref (a 5), .ref (a 6), .ref (a 7), .int (v 1), .int (v 0), .int (v 7)])), ((a 1), .inl (cI, 6, .inl (fun j => v (8 + j)))), ((a 3), .inl (cI, 6, .inl (fun j => v (20 + j))))]) [1, 2, 4] rfl
    refine W.callV ((va_runV (As := [.int (nI d)]) (rest := []) ⟨hx, hb, hml, hown, hts⟩ (c_X2_shownSegments l dC dI cI cS cJ tt a (v 1) (v 0) (v 7) (fun j => v (8 + j)) (fun j => v (20 + j)) d) (cwV 1 hts gX4_property_X2_shownSegments rfl rfl rfl (by decide +kernel) ⟨Nat.le_of_ble_eq_true rfl, Nat.le_of_ble_eq_true rfl⟩) ⟨xm_Rblind, va_recv hK hPc (ci := 2) (q0 := 0) rfl rfl, fun U hU hW => ⟨rfl, by rw [hU]; exact hPc, hE.go hS (fun _ q => q.elim) hU hW, ⟨hd6, hsg⟩⟩⟩ rfl rfl hl.1 rfl (lv_room (Nat.le_of_ble_eq_true rfl)) dX4_property_95 ⟨Nat.zero_le _, Nat.zero_le _⟩).run) ?_
    refine W.eq (g2 := F0 m 98 lz (.int (fm_shw ((fun j => v (8 + j)) d) ((fun j => v (20 + j)) d)) :: [])) rfl ?_
    exact W.iret (v := fm_shw ((fun j => v (8 + j)) d) ((fun j => v (20 + j)) d)) hx hb hr (fun t ht hW => ⟨congrArg (fun z => Outcome.returned (some (Value.int z))) (rfl), ht⟩) hS.2.2 dX4_property_98
  · refine lv_tableIn (off := 98) (tgt := 99) hx hb dX4_property_1 (by decide) (by decide) (by decide) (by decide) ?_
    refine lv_aload_n hx hb dX4_property_99 rfl (lv_at hl 0 rfl) ?_
    refine va_get (D := (dC, dI)) (ci := 4) (v := .ref (a 0)) (C := RX4) (T := TX4) (N := 5) hx hb hts hin4 hown hK hP 0 rfl rfl 0 (by decide) (hts (.fieldLink RX4 10 "TurnDigits" "state" "LTurnDigits$State;") (by decide +kernel)) (fun _ h9 => h9) rfl dX4_property_100 ?_
    refine va_get (D := (dC, dI)) (ci := 2) (v := .ref (a 4)) (C := RX2) (T := TX2) (N := 10) hx hb hts hin2 hown hK hP 1 rfl rfl 3 (by decide) (hts (.fieldLink RX4 211 "TurnDigits$State" "credits" "[I") (by decide +kernel)) (fun _ h9 => h9) rfl dX4_property_103 ?_
    refine lv_iload_n hx hb dX4_property_106 rfl (lv_at hl 1 rfl) ?_
    refine xm_iald (D := (dC, dI)) hx hb hK hP 5 0 d (v := (fun j => v (26 + j)) d) rfl rfl (by decide) rfl (by omega) rfl dX4_property_107 ?_
    exact W.iret (v := (fun j => v (26 + j)) d) hx hb hr (fun t ht hW => ⟨congrArg (fun z => Outcome.returned (some (Value.int z))) (rfl), ht⟩) hS.2.2 dX4_property_108
  · refine lv_tableIn (off := 108) (tgt := 109) hx hb dX4_property_1 (by decide) (by decide) (by decide) (by decide) ?_
    refine lv_aload_n hx hb dX4_property_109 rfl (lv_at hl 0 rfl) ?_
    refine va_get (D := (dC, dI)) (ci := 4) (v := .ref (g 0)) (C := RX4) (T := TX4) (N := 5) hx hb hts hin4 hown hK hP 0 rfl rfl 3 (by decide) (hts (.fieldLink RX4 33 "TurnDigits" "frame" "LTurnDigits$Frame;") (by decide +kernel)) (fun _ h9 => h9) rfl dX4_property_110 ?_
    refine lv_iload_n hx hb dX4_property_113 rfl (lv_at hl 1 rfl) ?_
    have hPc := hP.sub (ws' := [((g 0), .inr (0, [.ref (g 1), .ref (g 2), .ref (g 3), .ref (g 4), .ref (g 5), .ref (g 6), .ref (g 7), .int ln, .int pe, .int ne])), ((g 4), .inl (cI, 6, .inl ls))]) [9, 11] rfl
    refine W.callV ((va_runV (As := [.int (nI d)]) (rest := []) ⟨hx, hb, hml, hown, hts⟩ (c_X0_lightOf l dC dI cI cS cJ tt g ls ln pe ne d) (cwV 1 hts gX4_property_X0_lightOf rfl rfl rfl (by decide +kernel) ⟨Nat.le_of_ble_eq_true rfl, Nat.le_of_ble_eq_true rfl⟩) ⟨xm_Rblind, va_recv hK hPc (ci := 0) (q0 := 0) rfl rfl, fun U hU hW => ⟨rfl, by rw [hU]; exact hPc, hE.go hS (fun _ q => q.elim) hU hW, hd6⟩⟩ rfl rfl hl.1 rfl (lv_room (Nat.le_of_ble_eq_true rfl)) dX4_property_114 ⟨Nat.zero_le _, Nat.zero_le _⟩).run) ?_
    refine W.eq (g2 := F0 m 117 lz (.int (fm_light ln (ls d)) :: [])) rfl ?_
    exact W.iret (v := fm_light ln (ls d)) hx hb hr (fun t ht hW => ⟨congrArg (fun z => Outcome.returned (some (Value.int z))) (rfl), ht⟩) hS.2.2 dX4_property_117
  · refine lv_tableIn (off := 117) (tgt := 118) hx hb dX4_property_1 (by decide) (by decide) (by decide) (by decide) ?_
    refine lv_aload_n hx hb dX4_property_118 rfl (lv_at hl 0 rfl) ?_
    refine va_get (D := (dC, dI)) (ci := 4) (v := .ref (g 0)) (C := RX4) (T := TX4) (N := 5) hx hb hts hin4 hown hK hP 0 rfl rfl 3 (by decide) (hts (.fieldLink RX4 33 "TurnDigits" "frame" "LTurnDigits$Frame;") (by decide +kernel)) (fun _ h9 => h9) rfl dX4_property_119 ?_
    refine va_get (D := (dC, dI)) (ci := 0) (v := .ref (g 3)) (C := RX0) (T := TX0) (N := 10) hx hb hts hin0 hown hK hP 9 rfl rfl 2 (by decide) (hts (.fieldLink RX4 217 "TurnDigits$Frame" "gaps" "[I") (by decide +kernel)) (fun _ h9 => h9) rfl dX4_property_122 ?_
    refine lv_iload_n hx hb dX4_property_125 rfl (lv_at hl 1 rfl) ?_
    refine xm_iald (D := (dC, dI)) hx hb hK hP 10 0 d (v := gp d) rfl rfl (by decide) rfl (by omega) rfl dX4_property_126 ?_
    exact W.iret (v := gp d) hx hb hr (fun t ht hW => ⟨congrArg (fun z => Outcome.returned (some (Value.int z))) (rfl), ht⟩) hS.2.2 dX4_property_127
  · refine lv_tableIn (off := 127) (tgt := 128) hx hb dX4_property_1 (by decide) (by decide) (by decide) (by decide) ?_
    refine lv_aload_n hx hb dX4_property_128 rfl (lv_at hl 0 rfl) ?_
    refine va_get (D := (dC, dI)) (ci := 4) (v := .ref (g 0)) (C := RX4) (T := TX4) (N := 5) hx hb hts hin4 hown hK hP 0 rfl rfl 3 (by decide) (hts (.fieldLink RX4 33 "TurnDigits" "frame" "LTurnDigits$Frame;") (by decide +kernel)) (fun _ h9 => h9) rfl dX4_property_129 ?_
    refine lv_iload_n hx hb dX4_property_132 rfl (lv_at hl 1 rfl) ?_
    have hPc := hP.sub (ws' := [((g 0), .inr (0, [.ref (g 1), .ref (g 2), .ref (g 3), .ref (g 4), .ref (g 5), .ref (g 6), .ref (g 7), .int ln, .int pe, .int ne])), ((g 3), .inl (cI, 6, .inl gp)), ((g 4), .inl (cI, 6, .inl ls))]) [9, 10, 11] rfl
    refine W.callV ((va_runV (As := [.int (nI d)]) (rest := []) ⟨hx, hb, hml, hown, hts⟩ (c_X0_flickers l dC dI cI cS cJ tt g gp ls ln pe ne d) (cwV 1 hts gX4_property_X0_flickers rfl rfl rfl (by decide +kernel) ⟨Nat.le_of_ble_eq_true rfl, Nat.le_of_ble_eq_true rfl⟩) ⟨xm_Rblind, va_recv hK hPc (ci := 0) (q0 := 0) rfl rfl, fun U hU hW => ⟨rfl, by rw [hU]; exact hPc, hE.go hS (fun _ q => q.elim) hU hW, hd6⟩⟩ rfl rfl hl.1 rfl (lv_room (Nat.le_of_ble_eq_true rfl)) dX4_property_133 ⟨Nat.zero_le _, Nat.zero_le _⟩).run) ?_
    refine W.eq (g2 := F0 m 136 lz (.int (fm_flk (ls d) (gp d) pe) :: [])) rfl ?_
    refine lv_if_eq (tgt := 143) hx hb dX4_property_136 (by decide) (fun q136 => ?_) (fun q136 => ?_)
    · refine lv_iconst (v := 0) hx hb dX4_property_143 (by decide) ?_
      exact W.iret (v := 0) hx hb hr (fun t ht hW => ⟨congrArg (fun z => Outcome.returned (some (Value.int z))) (by simp only [lk_pr, if_pos q136]), ht⟩) hS.2.2 dX4_property_144
    · refine lv_iconst (v := 1) hx hb dX4_property_139 (by decide) ?_
      refine lv_goto (tgt := 144) hx hb dX4_property_140 (by decide) ?_
      exact W.iret (v := 1) hx hb hr (fun t ht hW => ⟨congrArg (fun z => Outcome.returned (some (Value.int z))) (by simp only [lk_pr, if_neg q136]), ht⟩) hS.2.2 dX4_property_144
  · refine lv_tableIn (off := 144) (tgt := 145) hx hb dX4_property_1 (by decide) (by decide) (by decide) (by decide) ?_
    refine lv_aload_n hx hb dX4_property_145 rfl (lv_at hl 0 rfl) ?_
    refine va_get (D := (dC, dI)) (ci := 4) (v := .ref (g 0)) (C := RX4) (T := TX4) (N := 5) hx hb hts hin4 hown hK hP 0 rfl rfl 3 (by decide) (hts (.fieldLink RX4 33 "TurnDigits" "frame" "LTurnDigits$Frame;") (by decide +kernel)) (fun _ h9 => h9) rfl dX4_property_146 ?_
    refine lv_iload_n hx hb dX4_property_149 rfl (lv_at hl 1 rfl) ?_
    have hPc := hP.sub (ws' := [((g 0), .inr (0, [.ref (g 1), .ref (g 2), .ref (g 3), .ref (g 4), .ref (g 5), .ref (g 6), .ref (g 7), .int ln, .int pe, .int ne])), ((g 3), .inl (cI, 6, .inl gp)), ((g 4), .inl (cI, 6, .inl ls))]) [9, 10, 11] rfl
    refine W.callV ((va_runV (As := [.int (nI d)]) (rest := []) ⟨hx, hb, hml, hown, hts⟩ (c_X0_isSeen l dC dI cI cS cJ tt g gp ls ln pe ne d) (cwV 1 hts gX4_property_X0_isSeen rfl rfl rfl (by decide +kernel) ⟨Nat.le_of_ble_eq_true rfl, Nat.le_of_ble_eq_true rfl⟩) ⟨xm_Rblind, va_recv hK hPc (ci := 0) (q0 := 0) rfl rfl, fun U hU hW => ⟨rfl, by rw [hU]; exact hPc, hE.go hS (fun _ q => q.elim) hU hW, hd6⟩⟩ rfl rfl hl.1 rfl (lv_room (Nat.le_of_ble_eq_true rfl)) dX4_property_150 ⟨Nat.zero_le _, Nat.zero_le _⟩).run) ?_
    refine W.eq (g2 := F0 m 153 lz (.int (fm_see (fm_light ln (ls d)) ne (fm_flk (ls d) (gp d) pe)) :: [])) rfl ?_
    refine xm_topi (y := (lk_see gp ls ln pe ne d)) rfl ?_
    refine lv_if_eq (tgt := 160) hx hb dX4_property_153 (by decide) (fun q153 => ?_) (fun q153 => ?_)
    · refine lv_iconst (v := 0) hx hb dX4_property_160 (by decide) ?_
      exact W.iret (v := 0) hx hb hr (fun t ht hW => ⟨congrArg (fun z => Outcome.returned (some (Value.int z))) (by simp only [lk_pr, if_pos q153]), ht⟩) hS.2.2 dX4_property_161
    · refine lv_iconst (v := 1) hx hb dX4_property_156 (by decide) ?_
      refine lv_goto (tgt := 161) hx hb dX4_property_157 (by decide) ?_
      exact W.iret (v := 1) hx hb hr (fun t ht hW => ⟨congrArg (fun z => Outcome.returned (some (Value.int z))) (by simp only [lk_pr, if_neg q153]), ht⟩) hS.2.2 dX4_property_161
  · refine lv_tableIn (off := 161) (tgt := 162) hx hb dX4_property_1 (by decide) (by decide) (by decide) (by decide) ?_
    refine lv_aload_n hx hb dX4_property_162 rfl (lv_at hl 0 rfl) ?_
    refine lv_iload_n hx hb dX4_property_163 rfl (lv_at hl 1 rfl) ?_
    have hPc := hP.sub (ws' := [(x, .inr (4, [.ref (a 0), .ref (h 0), .ref (tx 0), .ref (g 0), .ref (k 0)])), ((g 0), .inr (0, [.ref (g 1), .ref (g 2), .ref (g 3), .ref (g 4), .ref (g 5), .ref (g 6), .ref (g 7), .int ln, .int pe, .int ne])), ((g 3), .inl (cI, 6, .inl gp)), ((g 4), .inl (cI, 6, .inl ls)), ((a 0), .inr (2, [.ref (a 1), .ref (a 2), .ref (a 3), .ref (a 4), .ref (a 5), .ref (a 6), .ref (a 7), .int (v 1), .int (v 0), .int (v 7)])), ((a 1), .inl (cI, 6, .inl (fun j => v (8 + j)))), ((a 3), .inl (cI, 6, .inl (fun j => v (20 + j))))]) [0, 9, 10, 11, 1, 2, 4] rfl
    refine W.callV ((va_runV (As := [.int (nI d)]) (rest := []) ⟨hx, hb, hml, hown, hts⟩ (c_X4_isClear l dC dI cI cS cJ tt x a h tx g k gp ls ln pe ne v d) (cwV 1 hts gX4_property_X4_isClear rfl rfl rfl (by decide +kernel) ⟨Nat.le_of_ble_eq_true rfl, Nat.le_of_ble_eq_true rfl⟩) ⟨xm_Rblind, va_recv hK hPc (ci := 4) (q0 := 0) rfl rfl, fun U hU hW => ⟨rfl, by rw [hU]; exact hPc, hE.go hS (fun _ q => q.elim) hU hW, ⟨hd6, hsg⟩⟩⟩ rfl rfl hl.1 rfl (lv_room (Nat.le_of_ble_eq_true rfl)) dX4_property_164 ⟨Nat.zero_le _, Nat.zero_le _⟩).run) ?_
    refine W.eq (g2 := F0 m 167 lz (.int (lk_clr gp ls ln pe ne v d) :: [])) rfl ?_
    refine lv_if_eq (tgt := 174) hx hb dX4_property_167 (by decide) (fun q167 => ?_) (fun q167 => ?_)
    · refine lv_iconst (v := 0) hx hb dX4_property_174 (by decide) ?_
      exact W.iret (v := 0) hx hb hr (fun t ht hW => ⟨congrArg (fun z => Outcome.returned (some (Value.int z))) (by simp only [lk_pr, if_pos q167]), ht⟩) hS.2.2 dX4_property_175
    · refine lv_iconst (v := 1) hx hb dX4_property_170 (by decide) ?_
      refine lv_goto (tgt := 175) hx hb dX4_property_171 (by decide) ?_
      exact W.iret (v := 1) hx hb hr (fun t ht hW => ⟨congrArg (fun z => Outcome.returned (some (Value.int z))) (by simp only [lk_pr, if_neg q167]), ht⟩) hS.2.2 dX4_property_175
  · refine lv_tableIn (off := 175) (tgt := 176) hx hb dX4_property_1 (by decide) (by decide) (by decide) (by decide) ?_
    refine lv_aload_n hx hb dX4_property_176 rfl (lv_at hl 0 rfl) ?_
    refine va_get (D := (dC, dI)) (ci := 4) (v := .ref (a 0)) (C := RX4) (T := TX4) (N := 5) hx hb hts hin4 hown hK hP 0 rfl rfl 0 (by decide) (hts (.fieldLink RX4 10 "TurnDigits" "state" "LTurnDigits$State;") (by decide +kernel)) (fun _ h9 => h9) rfl dX4_property_177 ?_
    refine lv_iload_n hx hb dX4_property_180 rfl (lv_at hl 1 rfl) ?_
    have hPc := hP.sub (ws' := [((a 0), .inr (2, [.ref (a 1), .ref (a 2), .ref (a 3), .ref (a 4), .ref (a 5), .ref (a 6), .ref (a 7), .int (v 1), .int (v 0), .int (v 7)])), ((a 1), .inl (cI, 6, .inl (fun j => v (8 + j)))), ((a 3), .inl (cI, 6, .inl (fun j => v (20 + j))))]) [1, 2, 4] rfl
    refine W.callV ((va_runV (As := [.int (nI d)]) (rest := []) ⟨hx, hb, hml, hown, hts⟩ (c_X2_readableSigns l dC dI cI cS cJ tt a (v 1) (v 0) (v 7) (fun j => v (8 + j)) (fun j => v (20 + j)) d) (cwV 1 hts gX4_property_X2_readableSigns rfl rfl rfl (by decide +kernel) ⟨Nat.le_of_ble_eq_true rfl, Nat.le_of_ble_eq_true rfl⟩) ⟨xm_Rblind, va_recv hK hPc (ci := 2) (q0 := 0) rfl rfl, fun U hU hW => ⟨rfl, by rw [hU]; exact hPc, hE.go hS (fun _ q => q.elim) hU hW, ⟨hd6, hsg⟩⟩⟩ rfl rfl hl.1 rfl (lv_room (Nat.le_of_ble_eq_true rfl)) dX4_property_181 ⟨Nat.zero_le _, Nat.zero_le _⟩).run) ?_
    refine W.eq (g2 := F0 m 184 lz (.int (fm_rdb ((fun j => v (20 + j)) d) (fm_shw ((fun j => v (8 + j)) d) ((fun j => v (20 + j)) d)) 12) :: [])) rfl ?_
    exact W.iret (v := fm_rdb ((fun j => v (20 + j)) d) (fm_shw ((fun j => v (8 + j)) d) ((fun j => v (20 + j)) d)) 12) hx hb hr (fun t ht hW => ⟨congrArg (fun z => Outcome.returned (some (Value.int z))) (rfl), ht⟩) hS.2.2 dX4_property_184
  · refine lv_tableOut (tgt := 185) hx hb dX4_property_1 (by decide) (by decide) ?_
    refine lv_aload_n hx hb dX4_property_185 rfl (lv_at hl 0 rfl) ?_
    refine va_get (D := (dC, dI)) (ci := 4) (v := .ref (a 0)) (C := RX4) (T := TX4) (N := 5) hx hb hts hin4 hown hK hP 0 rfl rfl 0 (by decide) (hts (.fieldLink RX4 10 "TurnDigits" "state" "LTurnDigits$State;") (by decide +kernel)) (fun _ h9 => h9) rfl dX4_property_186 ?_
    refine va_get (D := (dC, dI)) (ci := 2) (v := .ref (a 5)) (C := RX2) (T := TX2) (N := 10) hx hb hts hin2 hown hK hP 1 rfl rfl 4 (by decide) (hts (.fieldLink RX4 232 "TurnDigits$State" "litSlots" "[I") (by decide +kernel)) (fun _ h9 => h9) rfl dX4_property_189 ?_
    refine lv_iload_n hx hb dX4_property_192 rfl (lv_at hl 1 rfl) ?_
    refine xm_iald (D := (dC, dI)) hx hb hK hP 6 0 d (v := (fun j => v (32 + j)) d) rfl rfl (by decide) rfl (by omega) rfl dX4_property_193 ?_
    exact W.iret (v := (fun j => v (32 + j)) d) hx hb hr (fun t ht hW => ⟨congrArg (fun z => Outcome.returned (some (Value.int z))) (rfl), ht⟩) hS.2.2 dX4_property_194

set_option maxHeartbeats 4000000 in
set_option maxRecDepth 100000 in
theorem c_X4_total (l : Launch) (dC : Nat → ClassId) (dI : Nat → Nat → Nat) (cI cS cJ : ClassId) (tt : Nat → Nat) (x : Nat) (a : Nat → Nat) (h : Nat → Nat) (tx : Nat → Nat) (g : Nat → Nat) (k : Nat → Nat) (gp : Nat → Int32) (ls : Nat → Int32) (ln : Int32) (pe : Int32) (ne : Int32) (v : Nat → Int32) (ow : Nat → Int32) (li : Nat → Int32) (n : Nat) (o : Int32) (z : Int32) (w0 : Nat) : Met l yX4_total wsX4_total ({ frames := 4, cells := 0, slots := 0, locals := 88 } : Room) (va_Pc [.ref x, .int (nI w0)] (xm_R (dC, dI) cI cS cJ tt [(x, .inr (4, [.ref (a 0), .ref (h 0), .ref (tx 0), .ref (g 0), .ref (k 0)])), ((a 0), .inr (2, [.ref (a 1), .ref (a 2), .ref (a 3), .ref (a 4), .ref (a 5), .ref (a 6), .ref (a 7), .int (v 1), .int (v 0), .int (v 7)])), ((a 1), .inl (cI, 6, .inl (fun j => v (8 + j)))), ((a 2), .inl (cI, 6, .inl (fun j => v (14 + j)))), ((a 3), .inl (cI, 6, .inl (fun j => v (20 + j)))), ((a 4), .inl (cI, 6, .inl (fun j => v (26 + j)))), ((a 5), .inl (cI, 6, .inl (fun j => v (32 + j)))), ((a 6), .inl (cI, 42, .inl (fun j => v (38 + j)))), ((a 7), .inl (cI, 5, .inl (fun j => v (2 + j)))), ((g 0), .inr (0, [.ref (g 1), .ref (g 2), .ref (g 3), .ref (g 4), .ref (g 5), .ref (g 6), .ref (g 7), .int ln, .int pe, .int ne])), ((g 1), .inl (cI, 96, .inl ow)), ((g 2), .inl (cI, 96, .inl li)), ((g 3), .inl (cI, 6, .inl gp)), ((g 4), .inl (cI, 6, .inl ls)), ((h 0), .inr (1, [.ref (h 1), .int o, .int z]))] (((∀ j, j < 6 → fm_ix (v (8 + j)) 12) ∧ ln = nI n ∧ 1 ≤ n ∧ n ≤ 96) ∧ w0 ≤ 10))) (k2_QcV (.int (lk_to ow li gp ls ln pe ne n v z w0))) 0 0 (fun _ => False) := by
  refine Met.ofW (cc := cX4_total) (maxL := 2) (ret := (some .int)) (by decide) rfl ?_
  intro p e s m args below meth c s₁ B hml hv
  obtain ⟨rfl, hP, hE, hpre⟩ := hv
  have hx := B.exec
  have hb := B.bytes
  have hr := B.returns
  have hts := atoms_spec (ws := wsX4_total) B.pre
  have hown : s.vm.findClass RX4 = some m.cls := findClass_of_methodNamed B.named
  have hlocks := B.notSynchronized
  have hK := hE.1
  have hS : va_S (fun _ => False) s.heap s.heap [] := va_S.rf
  have hP : va_P (dC, dI) vwCl [(x, .inr (4, [.ref (a 0), .ref (h 0), .ref (tx 0), .ref (g 0), .ref (k 0)])), ((a 0), .inr (2, [.ref (a 1), .ref (a 2), .ref (a 3), .ref (a 4), .ref (a 5), .ref (a 6), .ref (a 7), .int (v 1), .int (v 0), .int (v 7)])), ((a 1), .inl (cI, 6, .inl (fun j => v (8 + j)))), ((a 2), .inl (cI, 6, .inl (fun j => v (14 + j)))), ((a 3), .inl (cI, 6, .inl (fun j => v (20 + j)))), ((a 4), .inl (cI, 6, .inl (fun j => v (26 + j)))), ((a 5), .inl (cI, 6, .inl (fun j => v (32 + j)))), ((a 6), .inl (cI, 42, .inl (fun j => v (38 + j)))), ((a 7), .inl (cI, 5, .inl (fun j => v (2 + j)))), ((g 0), .inr (0, [.ref (g 1), .ref (g 2), .ref (g 3), .ref (g 4), .ref (g 5), .ref (g 6), .ref (g 7), .int ln, .int pe, .int ne])), ((g 1), .inl (cI, 96, .inl ow)), ((g 2), .inl (cI, 96, .inl li)), ((g 3), .inl (cI, 6, .inl gp)), ((g 4), .inl (cI, 6, .inl ls)), ((h 0), .inr (1, [.ref (h 1), .int o, .int z]))] s.heap := hP
  have hin1 : ∀ w ∈ u_ws RX1 TX1 3, w ∈ wsX4_total := by decide +kernel
  have hin2 : ∀ w ∈ u_ws RX2 TX2 10, w ∈ wsX4_total := by decide +kernel
  have hin4 : ∀ w ∈ u_ws RX4 TX4 5, w ∈ wsX4_total := by decide +kernel
  have hl := lv_entry [.ref x, .int (nI w0)] (n := 2) (Nat.le_of_ble_eq_true rfl)
  rw [lg_entry_eq]
  generalize (lg_sl [.ref x, .int (nI w0)] ++ List.replicate (2 - (lg_sl [.ref x, .int (nI w0)]).length) Slot.unset).toArray = lz at hl ⊢
  have hl : lv_has lz 2 [(0, .ref x), (1, .int (nI w0))] := hl
  obtain ⟨⟨hok, hln, hn1, hn96⟩, hw⟩ := hpre
  refine lv_iload_n hx hb dX4_total_0 rfl (lv_at hl 1 rfl) ?_
  rcases (show w0 = 0 ∨ w0 = 1 ∨ w0 = 2 ∨ w0 = 3 ∨ w0 = 4 ∨ w0 = 5 ∨ w0 = 6 ∨ w0 = 7 ∨ w0 = 8 ∨ w0 = 9 ∨ w0 = 10 from (by omega)) with rfl | rfl | rfl | rfl | rfl | rfl | rfl | rfl | rfl | rfl | rfl
  · refine lv_tableIn (off := 55) (tgt := 56) hx hb dX4_total_1 (by decide) (by decide) (by decide) (by decide) ?_
    refine lv_aload_n hx hb dX4_total_56 rfl (lv_at hl 0 rfl) ?_
    refine va_get (D := (dC, dI)) (ci := 4) (v := .ref (a 0)) (C := RX4) (T := TX4) (N := 5) hx hb hts hin4 hown hK hP 0 rfl rfl 0 (by decide) (hts (.fieldLink RX4 10 "TurnDigits" "state" "LTurnDigits$State;") (by decide +kernel)) (fun _ h9 => h9) rfl dX4_total_57 ?_
    refine va_get (D := (dC, dI)) (ci := 2) (v := .int (v 0)) (C := RX2) (T := TX2) (N := 10) hx hb hts hin2 hown hK hP 1 rfl rfl 8 (by decide) (hts (.fieldLink RX4 99 "TurnDigits$State" "time" "I") (by decide +kernel)) (fun _ h9 => h9) rfl dX4_total_60 ?_
    exact W.iret (v := v 0) hx hb hr (fun t ht hW => ⟨congrArg (fun z => Outcome.returned (some (Value.int z))) (rfl), ht⟩) hS.2.2 dX4_total_63
  · refine lv_tableIn (off := 63) (tgt := 64) hx hb dX4_total_1 (by decide) (by decide) (by decide) (by decide) ?_
    refine lv_aload_n hx hb dX4_total_64 rfl (lv_at hl 0 rfl) ?_
    refine va_get (D := (dC, dI)) (ci := 4) (v := .ref (a 0)) (C := RX4) (T := TX4) (N := 5) hx hb hts hin4 hown hK hP 0 rfl rfl 0 (by decide) (hts (.fieldLink RX4 10 "TurnDigits" "state" "LTurnDigits$State;") (by decide +kernel)) (fun _ h9 => h9) rfl dX4_total_65 ?_
    have hPc := hP.sub (ws' := [((a 0), .inr (2, [.ref (a 1), .ref (a 2), .ref (a 3), .ref (a 4), .ref (a 5), .ref (a 6), .ref (a 7), .int (v 1), .int (v 0), .int (v 7)])), ((a 2), .inl (cI, 6, .inl (fun j => v (14 + j))))]) [1, 3] rfl
    refine W.callV ((va_runV (As := []) (rest := []) ⟨hx, hb, hml, hown, hts⟩ (c_X2_levelSum l dC dI cI cS cJ tt a (v 1) (v 0) (v 7) (fun j => v (14 + j))) (cwV 0 hts gX4_total_X2_levelSum rfl rfl rfl (by decide +kernel) ⟨Nat.le_of_ble_eq_true rfl, Nat.le_of_ble_eq_true rfl⟩) ⟨xm_Rblind, va_recv hK hPc (ci := 2) (q0 := 0) rfl rfl, fun U hU hW => ⟨rfl, by rw [hU]; exact hPc, hE.go hS (fun _ q => q.elim) hU hW, trivial⟩⟩ rfl rfl hl.1 rfl (lv_room (Nat.le_of_ble_eq_true rfl)) dX4_total_68 ⟨Nat.zero_le _, Nat.zero_le _⟩).run) ?_
    refine W.eq (g2 := F0 m 71 lz (.int (fm_sum (fun j => v (14 + j)) 6) :: [])) rfl ?_
    exact W.iret (v := fm_sum (fun j => v (14 + j)) 6) hx hb hr (fun t ht hW => ⟨congrArg (fun z => Outcome.returned (some (Value.int z))) (rfl), ht⟩) hS.2.2 dX4_total_71
  · refine lv_tableIn (off := 71) (tgt := 72) hx hb dX4_total_1 (by decide) (by decide) (by decide) (by decide) ?_
    refine lv_aload_n hx hb dX4_total_72 rfl (lv_at hl 0 rfl) ?_
    refine va_get (D := (dC, dI)) (ci := 4) (v := .ref (g 0)) (C := RX4) (T := TX4) (N := 5) hx hb hts hin4 hown hK hP 0 rfl rfl 3 (by decide) (hts (.fieldLink RX4 33 "TurnDigits" "frame" "LTurnDigits$Frame;") (by decide +kernel)) (fun _ h9 => h9) rfl dX4_total_73 ?_
    have hPc := hP.sub (ws' := [((g 0), .inr (0, [.ref (g 1), .ref (g 2), .ref (g 3), .ref (g 4), .ref (g 5), .ref (g 6), .ref (g 7), .int ln, .int pe, .int ne])), ((g 2), .inl (cI, 96, .inl li))]) [9, 11] rfl
    refine W.callV ((va_runV (As := []) (rest := []) ⟨hx, hb, hml, hown, hts⟩ (c_X0_darkSlots l dC dI cI cS cJ tt g li ln pe ne n) (cwV 0 hts gX4_total_X0_darkSlots rfl rfl rfl (by decide +kernel) ⟨Nat.le_of_ble_eq_true rfl, Nat.le_of_ble_eq_true rfl⟩) ⟨xm_Rblind, va_recv hK hPc (ci := 0) (q0 := 0) rfl rfl, fun U hU hW => ⟨rfl, by rw [hU]; exact hPc, hE.go hS (fun _ q => q.elim) hU hW, ⟨hln, hn96⟩⟩⟩ rfl rfl hl.1 rfl (lv_room (Nat.le_of_ble_eq_true rfl)) dX4_total_76 ⟨Nat.zero_le _, Nat.zero_le _⟩).run) ?_
    refine W.eq (g2 := F0 m 79 lz (.int (fm_cntT li (fun _ => -1) n) :: [])) rfl ?_
    exact W.iret (v := fm_cntT li (fun _ => -1) n) hx hb hr (fun t ht hW => ⟨congrArg (fun z => Outcome.returned (some (Value.int z))) (rfl), ht⟩) hS.2.2 dX4_total_79
  · refine lv_tableIn (off := 79) (tgt := 80) hx hb dX4_total_1 (by decide) (by decide) (by decide) (by decide) ?_
    refine lv_aload_n hx hb dX4_total_80 rfl (lv_at hl 0 rfl) ?_
    refine va_get (D := (dC, dI)) (ci := 4) (v := .ref (g 0)) (C := RX4) (T := TX4) (N := 5) hx hb hts hin4 hown hK hP 0 rfl rfl 3 (by decide) (hts (.fieldLink RX4 33 "TurnDigits" "frame" "LTurnDigits$Frame;") (by decide +kernel)) (fun _ h9 => h9) rfl dX4_total_81 ?_
    have hPc := hP.sub (ws' := [((g 0), .inr (0, [.ref (g 1), .ref (g 2), .ref (g 3), .ref (g 4), .ref (g 5), .ref (g 6), .ref (g 7), .int ln, .int pe, .int ne])), ((g 1), .inl (cI, 96, .inl ow))]) [9, 10] rfl
    refine W.callV ((va_runV (As := []) (rest := []) ⟨hx, hb, hml, hown, hts⟩ (c_X0_changes l dC dI cI cS cJ tt g ow ln pe ne (n - 1)) (cwV 0 hts gX4_total_X0_changes rfl rfl rfl (by decide +kernel) ⟨Nat.le_of_ble_eq_true rfl, Nat.le_of_ble_eq_true rfl⟩) ⟨xm_Rblind, va_recv hK hPc (ci := 0) (q0 := 0) rfl rfl, fun U hU hW => ⟨rfl, by rw [hU]; exact hPc, hE.go hS (fun _ q => q.elim) hU hW, (by rw [show n - 1 + 1 = n by omega]; exact ⟨hln, hn96⟩)⟩⟩ rfl rfl hl.1 rfl (lv_room (Nat.le_of_ble_eq_true rfl)) dX4_total_84 ⟨Nat.zero_le _, Nat.zero_le _⟩).run) ?_
    refine W.eq (g2 := F0 m 87 lz (.int (fm_chg ow (n - 1)) :: [])) rfl ?_
    exact W.iret (v := fm_chg ow (n - 1)) hx hb hr (fun t ht hW => ⟨congrArg (fun z => Outcome.returned (some (Value.int z))) (rfl), ht⟩) hS.2.2 dX4_total_87
  · refine lv_tableIn (off := 87) (tgt := 88) hx hb dX4_total_1 (by decide) (by decide) (by decide) (by decide) ?_
    refine lv_aload_n hx hb dX4_total_88 rfl (lv_at hl 0 rfl) ?_
    refine va_get (D := (dC, dI)) (ci := 4) (v := .ref (g 0)) (C := RX4) (T := TX4) (N := 5) hx hb hts hin4 hown hK hP 0 rfl rfl 3 (by decide) (hts (.fieldLink RX4 33 "TurnDigits" "frame" "LTurnDigits$Frame;") (by decide +kernel)) (fun _ h9 => h9) rfl dX4_total_89 ?_
    have hPc := hP.sub (ws' := [((g 0), .inr (0, [.ref (g 1), .ref (g 2), .ref (g 3), .ref (g 4), .ref (g 5), .ref (g 6), .ref (g 7), .int ln, .int pe, .int ne])), ((g 3), .inl (cI, 6, .inl gp)), ((g 4), .inl (cI, 6, .inl ls))]) [9, 12, 13] rfl
    refine W.callV ((va_runV (As := []) (rest := []) ⟨hx, hb, hml, hown, hts⟩ (c_X0_flickering l dC dI cI cS cJ tt g gp ls ln pe ne) (cwV 0 hts gX4_total_X0_flickering rfl rfl rfl (by decide +kernel) ⟨Nat.le_of_ble_eq_true rfl, Nat.le_of_ble_eq_true rfl⟩) ⟨xm_Rblind, va_recv hK hPc (ci := 0) (q0 := 0) rfl rfl, fun U hU hW => ⟨rfl, by rw [hU]; exact hPc, hE.go hS (fun _ q => q.elim) hU hW, trivial⟩⟩ rfl rfl hl.1 rfl (lv_room (Nat.le_of_ble_eq_true rfl)) dX4_total_92 ⟨Nat.zero_le _, Nat.zero_le _⟩).run) ?_
    refine W.eq (g2 := F0 m 95 lz (.int (fm_cntF (fun j => fm_flk (ls j) (gp j) pe) (fun _ => 0) 6) :: [])) rfl ?_
    exact W.iret (v := fm_cntF (fun j => fm_flk (ls j) (gp j) pe) (fun _ => 0) 6) hx hb hr (fun t ht hW => ⟨congrArg (fun z => Outcome.returned (some (Value.int z))) (rfl), ht⟩) hS.2.2 dX4_total_95
  · refine lv_tableIn (off := 95) (tgt := 96) hx hb dX4_total_1 (by decide) (by decide) (by decide) (by decide) ?_
    refine lv_aload_n hx hb dX4_total_96 rfl (lv_at hl 0 rfl) ?_
    refine va_get (D := (dC, dI)) (ci := 4) (v := .ref (g 0)) (C := RX4) (T := TX4) (N := 5) hx hb hts hin4 hown hK hP 0 rfl rfl 3 (by decide) (hts (.fieldLink RX4 33 "TurnDigits" "frame" "LTurnDigits$Frame;") (by decide +kernel)) (fun _ h9 => h9) rfl dX4_total_97 ?_
    have hPc := hP.sub (ws' := [((g 0), .inr (0, [.ref (g 1), .ref (g 2), .ref (g 3), .ref (g 4), .ref (g 5), .ref (g 6), .ref (g 7), .int ln, .int pe, .int ne])), ((g 3), .inl (cI, 6, .inl gp)), ((g 4), .inl (cI, 6, .inl ls))]) [9, 12, 13] rfl
    refine W.callV ((va_runV (As := []) (rest := []) ⟨hx, hb, hml, hown, hts⟩ (c_X0_seen l dC dI cI cS cJ tt g gp ls ln pe ne) (cwV 0 hts gX4_total_X0_seen rfl rfl rfl (by decide +kernel) ⟨Nat.le_of_ble_eq_true rfl, Nat.le_of_ble_eq_true rfl⟩) ⟨xm_Rblind, va_recv hK hPc (ci := 0) (q0 := 0) rfl rfl, fun U hU hW => ⟨rfl, by rw [hU]; exact hPc, hE.go hS (fun _ q => q.elim) hU hW, trivial⟩⟩ rfl rfl hl.1 rfl (lv_room (Nat.le_of_ble_eq_true rfl)) dX4_total_100 ⟨Nat.zero_le _, Nat.zero_le _⟩).run) ?_
    refine W.eq (g2 := F0 m 103 lz (.int (fm_cntF (fun j => fm_see (fm_light ln (ls j)) ne (fm_flk (ls j) (gp j) pe)) (fun _ => 0) 6) :: [])) rfl ?_
    exact W.iret (v := fm_cntF (fun j => fm_see (fm_light ln (ls j)) ne (fm_flk (ls j) (gp j) pe)) (fun _ => 0) 6) hx hb hr (fun t ht hW => ⟨congrArg (fun z => Outcome.returned (some (Value.int z))) (rfl), ht⟩) hS.2.2 dX4_total_103
  · refine lv_tableIn (off := 103) (tgt := 104) hx hb dX4_total_1 (by decide) (by decide) (by decide) (by decide) ?_
    refine lv_aload_n hx hb dX4_total_104 rfl (lv_at hl 0 rfl) ?_
    have hPc := hP.sub (ws' := [(x, .inr (4, [.ref (a 0), .ref (h 0), .ref (tx 0), .ref (g 0), .ref (k 0)])), ((g 0), .inr (0, [.ref (g 1), .ref (g 2), .ref (g 3), .ref (g 4), .ref (g 5), .ref (g 6), .ref (g 7), .int ln, .int pe, .int ne])), ((g 3), .inl (cI, 6, .inl gp)), ((g 4), .inl (cI, 6, .inl ls)), ((a 0), .inr (2, [.ref (a 1), .ref (a 2), .ref (a 3), .ref (a 4), .ref (a 5), .ref (a 6), .ref (a 7), .int (v 1), .int (v 0), .int (v 7)])), ((a 1), .inl (cI, 6, .inl (fun j => v (8 + j)))), ((a 3), .inl (cI, 6, .inl (fun j => v (20 + j))))]) [0, 9, 12, 13, 1, 2, 4] rfl
    refine W.callV ((va_runV (As := []) (rest := []) ⟨hx, hb, hml, hown, hts⟩ (c_X4_clearDigits l dC dI cI cS cJ tt x a h tx g k gp ls ln pe ne v) (cwV 0 hts gX4_total_X4_clearDigits rfl rfl rfl (by decide +kernel) ⟨Nat.le_of_ble_eq_true rfl, Nat.le_of_ble_eq_true rfl⟩) ⟨xm_Rblind, va_recv hK hPc (ci := 4) (q0 := 0) rfl rfl, fun U hU hW => ⟨rfl, by rw [hU]; exact hPc, hE.go hS (fun _ q => q.elim) hU hW, hok⟩⟩ rfl rfl hl.1 rfl (lv_room (Nat.le_of_ble_eq_true rfl)) dX4_total_105 ⟨Nat.zero_le _, Nat.zero_le _⟩).run) ?_
    refine W.eq (g2 := F0 m 108 lz (.int (fm_cntF (fun j => lk_clr gp ls ln pe ne v j) (fun _ => 0) 6) :: [])) rfl ?_
    exact W.iret (v := fm_cntF (fun j => lk_clr gp ls ln pe ne v j) (fun _ => 0) 6) hx hb hr (fun t ht hW => ⟨congrArg (fun z => Outcome.returned (some (Value.int z))) (rfl), ht⟩) hS.2.2 dX4_total_108
  · refine lv_tableIn (off := 108) (tgt := 109) hx hb dX4_total_1 (by decide) (by decide) (by decide) (by decide) ?_
    refine lv_aload_n hx hb dX4_total_109 rfl (lv_at hl 0 rfl) ?_
    refine va_get (D := (dC, dI)) (ci := 4) (v := .ref (a 0)) (C := RX4) (T := TX4) (N := 5) hx hb hts hin4 hown hK hP 0 rfl rfl 0 (by decide) (hts (.fieldLink RX4 10 "TurnDigits" "state" "LTurnDigits$State;") (by decide +kernel)) (fun _ h9 => h9) rfl dX4_total_110 ?_
    have hPc := hP.sub (ws' := [((a 0), .inr (2, [.ref (a 1), .ref (a 2), .ref (a 3), .ref (a 4), .ref (a 5), .ref (a 6), .ref (a 7), .int (v 1), .int (v 0), .int (v 7)])), ((a 3), .inl (cI, 6, .inl (fun j => v (20 + j))))]) [1, 4] rfl
    refine W.callV ((va_runV (As := []) (rest := []) ⟨hx, hb, hml, hown, hts⟩ (c_X2_burntSegments l dC dI cI cS cJ tt a (v 1) (v 0) (v 7) (fun j => v (20 + j))) (cwV 0 hts gX4_total_X2_burntSegments rfl rfl rfl (by decide +kernel) ⟨Nat.le_of_ble_eq_true rfl, Nat.le_of_ble_eq_true rfl⟩) ⟨xm_Rblind, va_recv hK hPc (ci := 2) (q0 := 0) rfl rfl, fun U hU hW => ⟨rfl, by rw [hU]; exact hPc, hE.go hS (fun _ q => q.elim) hU hW, trivial⟩⟩ rfl rfl hl.1 rfl (lv_room (Nat.le_of_ble_eq_true rfl)) dX4_total_113 ⟨Nat.zero_le _, Nat.zero_le _⟩).run) ?_
    refine W.eq (g2 := F0 m 116 lz (.int (fm_sum (fun j => fm_bc ((fun j => v (20 + j)) j)) 6) :: [])) rfl ?_
    exact W.iret (v := fm_sum (fun j => fm_bc ((fun j => v (20 + j)) j)) 6) hx hb hr (fun t ht hW => ⟨congrArg (fun z => Outcome.returned (some (Value.int z))) (rfl), ht⟩) hS.2.2 dX4_total_116
  · refine lv_tableIn (off := 116) (tgt := 117) hx hb dX4_total_1 (by decide) (by decide) (by decide) (by decide) ?_
    refine lv_aload_n hx hb dX4_total_117 rfl (lv_at hl 0 rfl) ?_
    refine va_get (D := (dC, dI)) (ci := 4) (v := .ref (a 0)) (C := RX4) (T := TX4) (N := 5) hx hb hts hin4 hown hK hP 0 rfl rfl 0 (by decide) (hts (.fieldLink RX4 10 "TurnDigits" "state" "LTurnDigits$State;") (by decide +kernel)) (fun _ h9 => h9) rfl dX4_total_118 ?_
    refine va_get (D := (dC, dI)) (ci := 2) (v := .int (v 1)) (C := RX2) (T := TX2) (N := 10) hx hb hts hin2 hown hK hP 1 rfl rfl 7 (by decide) (hts (.fieldLink RX4 75 "TurnDigits$State" "ambientLight" "I") (by decide +kernel)) (fun _ h9 => h9) rfl dX4_total_121 ?_
    exact W.iret (v := v 1) hx hb hr (fun t ht hW => ⟨congrArg (fun z => Outcome.returned (some (Value.int z))) (rfl), ht⟩) hS.2.2 dX4_total_124
  · refine lv_tableIn (off := 124) (tgt := 125) hx hb dX4_total_1 (by decide) (by decide) (by decide) (by decide) ?_
    refine lv_aload_n hx hb dX4_total_125 rfl (lv_at hl 0 rfl) ?_
    refine va_get (D := (dC, dI)) (ci := 4) (v := .ref (a 0)) (C := RX4) (T := TX4) (N := 5) hx hb hts hin4 hown hK hP 0 rfl rfl 0 (by decide) (hts (.fieldLink RX4 10 "TurnDigits" "state" "LTurnDigits$State;") (by decide +kernel)) (fun _ h9 => h9) rfl dX4_total_126 ?_
    refine va_get (D := (dC, dI)) (ci := 2) (v := .int (v 7)) (C := RX2) (T := TX2) (N := 10) hx hb hts hin2 hown hK hP 1 rfl rfl 9 (by decide) (hts (.fieldLink RX4 256 "TurnDigits$State" "ahead" "I") (by decide +kernel)) (fun _ h9 => h9) rfl dX4_total_129 ?_
    exact W.iret (v := v 7) hx hb hr (fun t ht hW => ⟨congrArg (fun z => Outcome.returned (some (Value.int z))) (rfl), ht⟩) hS.2.2 dX4_total_132
  · refine lv_tableOut (tgt := 133) hx hb dX4_total_1 (by decide) (by decide) ?_
    refine lv_aload_n hx hb dX4_total_133 rfl (lv_at hl 0 rfl) ?_
    refine va_get (D := (dC, dI)) (ci := 4) (v := .ref (h 0)) (C := RX4) (T := TX4) (N := 5) hx hb hts hin4 hown hK hP 0 rfl rfl 1 (by decide) (hts (.fieldLink RX4 19 "TurnDigits" "history" "LTurnDigits$History;") (by decide +kernel)) (fun _ h9 => h9) rfl dX4_total_134 ?_
    refine va_get (D := (dC, dI)) (ci := 1) (v := .int z) (C := RX1) (T := TX1) (N := 3) hx hb hts hin1 hown hK hP 14 rfl rfl 2 (by decide) (hts (.fieldLink RX4 140 "TurnDigits$History" "size" "I") (by decide +kernel)) (fun _ h9 => h9) rfl dX4_total_137 ?_
    exact W.iret (v := z) hx hb hr (fun t ht hW => ⟨congrArg (fun z => Outcome.returned (some (Value.int z))) (rfl), ht⟩) hS.2.2 dX4_total_140

set_option maxHeartbeats 4000000 in
set_option maxRecDepth 100000 in
theorem c_X4_numberLength (l : Launch) (dC : Nat → ClassId) (dI : Nat → Nat → Nat) (cI cS cJ : ClassId) (tt : Nat → Nat) (x0 : Int32) : Met l yX4_numberLength wsX4_numberLength ({ frames := 1, cells := 0, slots := 0, locals := 20 } : Room) (va_Pc [.int x0] (xm_R (dC, dI) cI cS cJ tt [] (True))) (k2_QcV (.int (nI (nl_n x0)))) 0 0 (fun _ => False) := by
  refine Met.ofW (cc := cX4_numberLength) (maxL := 4) (ret := (some .int)) (by decide) rfl ?_
  intro p e s m args below meth c s₁ B hml hv
  obtain ⟨rfl, hP, hE, hpre⟩ := hv
  have hx := B.exec
  have hb := B.bytes
  have hr := B.returns
  have hts := atoms_spec (ws := wsX4_numberLength) B.pre
  have hown : s.vm.findClass RX4 = some m.cls := findClass_of_methodNamed B.named
  have hlocks := B.notSynchronized
  have hK := hE.1
  have hS : va_S (fun _ => False) s.heap s.heap [] := va_S.rf
  have hP : va_P (dC, dI) vwCl [] s.heap := hP
  have hl := lv_entry [.int x0] (n := 4) (Nat.le_of_ble_eq_true rfl)
  rw [lg_entry_eq]
  generalize (lg_sl [.int x0] ++ List.replicate (4 - (lg_sl [.int x0]).length) Slot.unset).toArray = lz at hl ⊢
  have hl : lv_has lz 4 [(0, .int x0)] := hl
  have J9 : ∀ (l0 : Nat), (l0 = nl_0 x0) → ∀ (lz : Array Slot), lv_has lz 4 [(0, .int x0)] → W p l e (headSpec wsX4_numberLength ({ frames := 1, cells := 0, slots := 0, locals := 20 } : Room)).room s m ([.int x0] : List Value).toArray below meth c s.heap [] 0 0 (MQ below (k2_QcV (.int (nI (nl_n x0)))) ([.int x0] : List Value).toArray s 0 0 (fun _ => False)) (F0 m 9 lz [.int (nI l0)]) := by
    intro l0 el0 lz hl
    subst el0
    refine lv_istore_n (lv' := [(1, .int (nI (nl_0 x0))), (0, .int x0)]) hx hb dX4_numberLength_9 rfl hl (by decide) rfl (fun lz hl => ?_)
    refine lv_iload_n hx hb dX4_numberLength_10 rfl (lv_at hl 1 rfl) ?_
    have hPc := hP.sub (ws' := []) [] rfl
    refine W.callV ((va_runS (As := [.int x0]) (rest := []) ⟨hx, hb, hml, hown, hts⟩ (c_X4_magnitude l dC dI cI cS cJ tt x0) (va_cwS 1 hts gX4_numberLength_X4_magnitude rfl rfl rfl (by decide +kernel) ⟨Nat.le_of_ble_eq_true rfl, Nat.le_of_ble_eq_true rfl⟩) ⟨xm_Rblind, fun U hU hW => ⟨rfl, by rw [hU]; exact hPc, hE.go hS (fun _ q => q.elim) hU hW, trivial⟩⟩ rfl rfl hl.1 rfl (lv_room (Nat.le_of_ble_eq_true rfl)) dX4_numberLength_11 ⟨Nat.zero_le _, Nat.zero_le _⟩).run) ?_
    refine W.eq (g2 := F0 m 14 lz (.long (fm_mag x0) :: [])) rfl ?_
    refine lv_ldc2 (v := 10) hx hb hown (hts (.constantLong RX4 290 10) (by decide +kernel)) dX4_numberLength_14 ?_
    refine lv_ldiv hx hb dX4_numberLength_17 (by decide) ?_
    refine lv_lstore_n (lv' := [(2, .long ((fm_mag x0) / 10)), (1, .int (nI (nl_0 x0))), (0, .int x0)]) hx hb dX4_numberLength_18 rfl hl (by decide) rfl (fun lz hl => ?_)
    have L19 : ∀ (zz i : Nat), i ≤ 7 → 7 + 1 ≤ i + zz → ∀ (x2 : Int64), x2 = nl_d (fm_mag x0) i → (nl_0 x0 + i ≤ 7) → (nl_to (fm_mag x0) (nl_0 x0) (7 - nl_0 x0 - i) i = nl_n x0) → ∀ (lz : Array Slot), lv_has lz 4 [(0, .int x0), (1, .int (nI (nl_0 x0 + i))), (2, .long x2)] → W p l e (headSpec wsX4_numberLength ({ frames := 1, cells := 0, slots := 0, locals := 20 } : Room)).room s m ([.int x0] : List Value).toArray below meth c s.heap [] 0 0 (MQ below (k2_QcV (.int (nI (nl_n x0)))) ([.int x0] : List Value).toArray s 0 0 (fun _ => False)) (F0 m 19 lz []) := by
      intro zz
      induction zz with
      | zero => intro i hii hni; exact absurd hni (by omega)
      | succ zz ih19 =>
        intro i hii hni x2 e_x2 hfu hst lz hl
        subst e_x2
        refine lv_lload_n hx hb dX4_numberLength_19 rfl (lv_at hl 2 rfl) ?_
        refine lv_lconst (v := 0) hx hb dX4_numberLength_20 (by decide) ?_
        refine W.lcmp hx hb dX4_numberLength_21 ?_
        refine lv_if_le (tgt := 43) hx hb dX4_numberLength_22 (by decide) (fun q22 => ?_) (fun q22 => ?_)
        · refine lv_iload_n hx hb dX4_numberLength_43 rfl (lv_at hl 1 rfl) ?_
          exact W.iret (v := nI (nl_0 x0 + i)) hx hb hr (fun t ht hW => ⟨congrArg (fun z => Outcome.returned (some (Value.int z))) (by rcases Nat.lt_or_ge (nl_0 x0 + i) 7 with h7 | h7; (rw [← hst, nl_to_s (m := fm_mag x0) (l0 := nl_0 x0) (i := i) h7, if_pos q22]); (rw [← hst, show 7 - nl_0 x0 - i = 0 by omega]; rfl)), ht⟩) hS.2.2 dX4_numberLength_44
        · refine lv_iload_n hx hb dX4_numberLength_25 rfl (lv_at hl 1 rfl) ?_
          refine lv_bipush (v := 6) hx hb dX4_numberLength_26 (by decide) ?_
          refine lv_icmp_gt (tgt := 43) hx hb dX4_numberLength_28 (by decide) (fun q28 => ?_) (fun q28 => ?_)
          · have h7 : nl_0 x0 + i = 7 := by have h := (nI_ltI (a := 6) (b := nl_0 x0 + i) (by decide) (by omega)).mp q28; omega
            refine lv_iload_n hx hb dX4_numberLength_43 rfl (lv_at hl 1 rfl) ?_
            exact W.iret (v := nI (nl_0 x0 + i)) hx hb hr (fun t ht hW => ⟨congrArg (fun z => Outcome.returned (some (Value.int z))) (by rw [← hst, show 7 - nl_0 x0 - i = 0 by omega]; rfl), ht⟩) hS.2.2 dX4_numberLength_44
          · have h7 : nl_0 x0 + i < 7 := by have h := (not_congr (nI_ltI (a := 6) (b := nl_0 x0 + i) (by decide) (by omega))).mp q28; omega
            refine lv_lload_n hx hb dX4_numberLength_31 rfl (lv_at hl 2 rfl) ?_
            refine lv_ldc2 (v := 10) hx hb hown (hts (.constantLong RX4 290 10) (by decide +kernel)) dX4_numberLength_32 ?_
            refine lv_ldiv hx hb dX4_numberLength_35 (by decide) ?_
            refine lv_lstore_n (lv' := [(2, .long ((nl_d (fm_mag x0) i) / 10)), (0, .int x0), (1, .int (nI (nl_0 x0 + i)))]) hx hb dX4_numberLength_36 rfl hl (by decide) rfl (fun lz hl => ?_)
            refine lv_iinc (v := nI ((nl_0 x0 + i) + 1)) (lv' := [(1, .int (nI ((nl_0 x0 + i) + 1))), (2, .long ((nl_d (fm_mag x0) i) / 10)), (0, .int x0)]) hx hb dX4_numberLength_37 hl (k := 2) rfl (nI_1 (nl_0 x0 + i)) (by decide) rfl (fun lz hl => ?_)
            refine lv_goto (tgt := 19) hx hb dX4_numberLength_40 (by decide) ?_
            exact ih19 (i + 1) (by omega) (by omega) ((nl_d (fm_mag x0) i) / 10) rfl (by omega) (by rw [← hst, nl_to_s (m := fm_mag x0) (l0 := nl_0 x0) (i := i) (by omega), if_neg q22]) lz (lv_sub hl [2, 0, 1] rfl)
    exact L19 (7 + 1) 0 (by omega) (by omega) ((fm_mag x0) / 10) rfl (by have := nl_0_in x0; omega) rfl lz (lv_sub hl [2, 1, 0] rfl)
  refine lv_iload_n hx hb dX4_numberLength_0 rfl (lv_at hl 0 rfl) ?_
  refine lv_if_ge (tgt := 8) hx hb dX4_numberLength_1 (by decide) (fun q1 => ?_) (fun q1 => ?_)
  · refine lv_iconst (v := 1) hx hb dX4_numberLength_8 (by decide) ?_
    exact J9 1 (by simp only [nl_0, if_pos q1]) lz (lv_sub hl [0] rfl)
  · refine lv_iconst (v := 2) hx hb dX4_numberLength_4 (by decide) ?_
    refine lv_goto (tgt := 9) hx hb dX4_numberLength_5 (by decide) ?_
    exact J9 2 (by simp only [nl_0, if_neg q1]) lz (lv_sub hl [0] rfl)


set_option maxHeartbeats 4000000 in
set_option maxRecDepth 100000 in
theorem c_X4_lightShare (l : Launch) (dC : Nat → ClassId) (dI : Nat → Nat → Nat) (cI cS cJ : ClassId) (tt : Nat → Nat) (x : Nat) (a : Nat → Nat) (h : Nat → Nat) (tx : Nat → Nat) (g : Nat → Nat) (k : Nat → Nat) (gp : Nat → Int32) (ls : Nat → Int32) (ln : Int32) (pe : Int32) (ne : Int32) (v : Nat → Int32) : Met l yX4_lightShare wsX4_lightShare ({ frames := 1, cells := 0, slots := 0, locals := 21 } : Room) (va_Pc [.ref x] (xm_R (dC, dI) cI cS cJ tt [(x, .inr (4, [.ref (a 0), .ref (h 0), .ref (tx 0), .ref (g 0), .ref (k 0)])), ((g 0), .inr (0, [.ref (g 1), .ref (g 2), .ref (g 3), .ref (g 4), .ref (g 5), .ref (g 6), .ref (g 7), .int ln, .int pe, .int ne])), ((g 4), .inl (cI, 6, .inl ls)), ((a 0), .inr (2, [.ref (a 1), .ref (a 2), .ref (a 3), .ref (a 4), .ref (a 5), .ref (a 6), .ref (a 7), .int (v 1), .int (v 0), .int (v 7)])), ((a 2), .inl (cI, 6, .inl (fun j => v (14 + j))))] (∀ j, j < 6 → 0 ≤ (fm_light ln (ls j)).toInt ∧ (fm_light ln (ls j)).toInt ≤ 1000))) (k2_QcV (.double (le_sh (fun j => v (14 + j)) (fun j => fm_light ln (ls j))))) 0 0 (fun _ => False) := by
  refine Met.ofW (cc := cX4_lightShare) (maxL := 5) (ret := (some .double)) (by decide) rfl ?_
  intro p e s m args below meth c s₁ B hml hv
  obtain ⟨rfl, hP, hE, hpre⟩ := hv
  have hx := B.exec
  have hb := B.bytes
  have hr := B.returns
  have hts := atoms_spec (ws := wsX4_lightShare) B.pre
  have hown : s.vm.findClass RX4 = some m.cls := findClass_of_methodNamed B.named
  have hlocks := B.notSynchronized
  have hK := hE.1
  have hS : va_S (fun _ => False) s.heap s.heap [] := va_S.rf
  have hP : va_P (dC, dI) vwCl [(x, .inr (4, [.ref (a 0), .ref (h 0), .ref (tx 0), .ref (g 0), .ref (k 0)])), ((g 0), .inr (0, [.ref (g 1), .ref (g 2), .ref (g 3), .ref (g 4), .ref (g 5), .ref (g 6), .ref (g 7), .int ln, .int pe, .int ne])), ((g 4), .inl (cI, 6, .inl ls)), ((a 0), .inr (2, [.ref (a 1), .ref (a 2), .ref (a 3), .ref (a 4), .ref (a 5), .ref (a 6), .ref (a 7), .int (v 1), .int (v 0), .int (v 7)])), ((a 2), .inl (cI, 6, .inl (fun j => v (14 + j))))] s.heap := hP
  have hin2 : ∀ w ∈ u_ws RX2 TX2 10, w ∈ wsX4_lightShare := by decide +kernel
  have hin4 : ∀ w ∈ u_ws RX4 TX4 5, w ∈ wsX4_lightShare := by decide +kernel
  have hl := lv_entry [.ref x] (n := 5) (Nat.le_of_ble_eq_true rfl)
  rw [lg_entry_eq]
  generalize (lg_sl [.ref x] ++ List.replicate (5 - (lg_sl [.ref x]).length) Slot.unset).toArray = lz at hl ⊢
  have hl : lv_has lz 5 [(0, .ref x)] := hl
  refine lv_sipush (v := 1000) hx hb dX4_lightShare_0 (by decide) ?_
  refine lv_istore_n (lv' := [(1, .int 1000), (0, .ref x)]) hx hb dX4_lightShare_3 rfl hl (by decide) rfl (fun lz hl => ?_)
  refine lv_iconst (v := 0) hx hb dX4_lightShare_4 (by decide) ?_
  refine lv_istore_n (lv' := [(2, .int 0), (1, .int 1000), (0, .ref x)]) hx hb dX4_lightShare_5 rfl hl (by decide) rfl (fun lz hl => ?_)
  refine lv_iconst (v := 0) hx hb dX4_lightShare_6 (by decide) ?_
  refine lv_istore_n (lv' := [(3, .int 0), (2, .int 0), (1, .int 1000), (0, .ref x)]) hx hb dX4_lightShare_7 rfl hl (by decide) rfl (fun lz hl => ?_)
  have L8 : ∀ (zz i : Nat), i ≤ 6 → 6 + 1 ≤ i + zz → ∀ (x1 : Int32) (x2 : Int32), x1 = le_l (fun j => v (14 + j)) (fun j => fm_light ln (ls j)) i → x2 = le_g (fun j => v (14 + j)) (fun j => fm_light ln (ls j)) i → ∀ (lz : Array Slot), lv_has lz 5 [(0, .ref x), (1, .int x1), (2, .int x2), (3, .int (nI i))] → W p l e (headSpec wsX4_lightShare ({ frames := 1, cells := 0, slots := 0, locals := 21 } : Room)).room s m ([.ref x] : List Value).toArray below meth c s.heap [] 0 0 (MQ below (k2_QcV (.double (le_sh (fun j => v (14 + j)) (fun j => fm_light ln (ls j))))) ([.ref x] : List Value).toArray s 0 0 (fun _ => False)) (F0 m 8 lz []) := by
    intro zz
    induction zz with
    | zero => intro i hii hni; exact absurd hni (by omega)
    | succ zz ih8 =>
      intro i hii hni x1 x2 e_x1 e_x2  lz hl
      subst e_x1 e_x2
      refine lv_iload_n hx hb dX4_lightShare_8 rfl (lv_at hl 3 rfl) ?_
      refine lv_bipush (v := 6) hx hb dX4_lightShare_9 (by decide) ?_
      refine lv_icmp_ge (tgt := 56) hx hb dX4_lightShare_11 (by decide) (fun q11 => ?_) (fun q11 => ?_)
      · have hNi : 6 = i := (xm_end (N := 6) hii (by decide) q11).symm
        subst hNi
        refine lv_iload_n hx hb dX4_lightShare_56 rfl (lv_at hl 2 rfl) ?_
        refine lv_if_le (tgt := 68) hx hb dX4_lightShare_57 (by decide) (fun q57 => ?_) (fun q57 => ?_)
        · refine lv_dconst1 hx hb dX4_lightShare_68 ?_
          exact W.dret (v := FP.dconst1) hx hb hr (fun t ht hW => ⟨congrArg (fun z => Outcome.returned (some (Value.double z))) (by simp only [le_sh, if_pos q11, if_pos q57]), ht⟩) hS.2.2 dX4_lightShare_69
        · have hb9 := le_in (lv := (fun j => v (14 + j))) (lt := (fun j => fm_light ln (ls j))) hpre 6 (Nat.le_refl 6)
          have hg9 := fm_pos q57
          refine lv_iload_n hx hb dX4_lightShare_60 rfl (lv_at hl 1 rfl) ?_
          refine lv_i2d hx hb dX4_lightShare_61 ?_
          refine lv_iload_n hx hb dX4_lightShare_62 rfl (lv_at hl 2 rfl) ?_
          refine lv_i2d hx hb dX4_lightShare_63 ?_
          refine lv_ddiv hx hb dX4_lightShare_64 (fp_div_ok hb9.1 ⟨hg9, hb9.2.2⟩) ?_
          refine lv_goto (tgt := 69) hx hb dX4_lightShare_65 (by decide) ?_
          exact W.dret (v := FP.ddiv (FP.i2d (le_l (fun j => v (14 + j)) (fun j => fm_light ln (ls j)) 6)) (FP.i2d (le_g (fun j => v (14 + j)) (fun j => fm_light ln (ls j)) 6))) hx hb hr (fun t ht hW => ⟨congrArg (fun z => Outcome.returned (some (Value.double z))) (by simp only [le_sh, if_pos q11, if_neg q57]), ht⟩) hS.2.2 dX4_lightShare_69
      · have hlti : i < 6 := xm_lt (N := 6) hii (by decide) q11
        refine lv_aload_n hx hb dX4_lightShare_14 rfl (lv_at hl 0 rfl) ?_
        refine va_get (D := (dC, dI)) (ci := 4) (v := .ref (a 0)) (C := RX4) (T := TX4) (N := 5) hx hb hts hin4 hown hK hP 0 rfl rfl 0 (by decide) (hts (.fieldLink RX4 10 "TurnDigits" "state" "LTurnDigits$State;") (by decide +kernel)) (fun _ h9 => h9) rfl dX4_lightShare_15 ?_
        refine va_get (D := (dC, dI)) (ci := 2) (v := .ref (a 2)) (C := RX2) (T := TX2) (N := 10) hx hb hts hin2 hown hK hP 3 rfl rfl 1 (by decide) (hts (.fieldLink RX4 56 "TurnDigits$State" "levels" "[I") (by decide +kernel)) (fun _ h9 => h9) rfl dX4_lightShare_18 ?_
        refine lv_iload_n hx hb dX4_lightShare_21 rfl (lv_at hl 3 rfl) ?_
        refine xm_iald (D := (dC, dI)) hx hb hK hP 4 0 i (v := (fun j => v (14 + j)) i) rfl rfl (by decide) rfl (by omega) rfl dX4_lightShare_22 ?_
        refine lv_if_le (tgt := 50) hx hb dX4_lightShare_23 (by decide) (fun q23 => ?_) (fun q23 => ?_)
        · refine lv_iinc (v := nI (i + 1)) (lv' := [(3, .int (nI (i + 1))), (0, .ref x), (1, .int (le_l (fun j => v (14 + j)) (fun j => fm_light ln (ls j)) i)), (2, .int (le_g (fun j => v (14 + j)) (fun j => fm_light ln (ls j)) i))]) hx hb dX4_lightShare_50 hl (k := 3) rfl (nI_1 i) (by decide) rfl (fun lz hl => ?_)
          refine lv_goto (tgt := 8) hx hb dX4_lightShare_53 (by decide) ?_
          exact ih8 (i + 1) hlti (by omega) (le_l (fun j => v (14 + j)) (fun j => fm_light ln (ls j)) i) (le_g (fun j => v (14 + j)) (fun j => fm_light ln (ls j)) i) (by simp only [le_l, le_g, if_neg q11, if_pos q23]) (by simp only [le_l, le_g, if_neg q11, if_pos q23])  lz (lv_sub hl [1, 2, 3, 0] rfl)
        · refine lv_aload_n hx hb dX4_lightShare_26 rfl (lv_at hl 0 rfl) ?_
          refine va_get (D := (dC, dI)) (ci := 4) (v := .ref (g 0)) (C := RX4) (T := TX4) (N := 5) hx hb hts hin4 hown hK hP 0 rfl rfl 3 (by decide) (hts (.fieldLink RX4 33 "TurnDigits" "frame" "LTurnDigits$Frame;") (by decide +kernel)) (fun _ h9 => h9) rfl dX4_lightShare_27 ?_
          refine lv_iload_n hx hb dX4_lightShare_30 rfl (lv_at hl 3 rfl) ?_
          have hPc := hP.sub (ws' := [((g 0), .inr (0, [.ref (g 1), .ref (g 2), .ref (g 3), .ref (g 4), .ref (g 5), .ref (g 6), .ref (g 7), .int ln, .int pe, .int ne])), ((g 4), .inl (cI, 6, .inl ls))]) [1, 2] rfl
          refine W.callV ((va_runV (As := [.int (nI i)]) (rest := []) ⟨hx, hb, hml, hown, hts⟩ (c_X0_lightOf l dC dI cI cS cJ tt g ls ln pe ne i) (cwV 1 hts gX4_lightShare_X0_lightOf rfl rfl rfl (by decide +kernel) ⟨Nat.le_of_ble_eq_true rfl, Nat.le_of_ble_eq_true rfl⟩) ⟨xm_Rblind, va_recv hK hPc (ci := 0) (q0 := 0) rfl rfl, fun U hU hW => ⟨rfl, by rw [hU]; exact hPc, hE.go hS (fun _ q => q.elim) hU hW, hlti⟩⟩ rfl rfl hl.1 rfl (lv_room (Nat.le_of_ble_eq_true rfl)) dX4_lightShare_31 ⟨Nat.zero_le _, Nat.zero_le _⟩).run) ?_
          refine W.eq (g2 := F0 m 34 lz (.int (fm_light ln (ls i)) :: [])) rfl ?_
          refine lv_istore (lv' := [(4, .int (fm_light ln (ls i))), (0, .ref x), (1, .int (le_l (fun j => v (14 + j)) (fun j => fm_light ln (ls j)) i)), (2, .int (le_g (fun j => v (14 + j)) (fun j => fm_light ln (ls j)) i)), (3, .int (nI i))]) hx hb dX4_lightShare_34 hl (by decide) rfl (fun lz hl => ?_)
          refine lv_iload_n hx hb dX4_lightShare_36 rfl (lv_at hl 2 rfl) ?_
          refine lv_iload hx hb dX4_lightShare_37 (lv_at hl 0 rfl) ?_
          refine va_mmin hx hb (hml.trans hl.1.symm) hown (hts (.methodLink RX4 264 Lib.Math.min.name) (by decide +kernel)) (hts (.static Lib.Math.min.name) (by decide +kernel)) (hts (.initialized "java/lang/Math") (by decide +kernel)) (hts (.code Lib.Math.min.name Lib.Math.min.code 2 (some .int)) (by decide +kernel)) (Nat.le_of_ble_eq_true rfl) (Nat.le_of_ble_eq_true rfl) (Nat.zero_le _) (Nat.zero_le _) dX4_lightShare_39 ?_
          refine lv_istore_n (lv' := [(1, .int (if (fm_light ln (ls i)) < (le_l (fun j => v (14 + j)) (fun j => fm_light ln (ls j)) i) then (fm_light ln (ls i)) else (le_l (fun j => v (14 + j)) (fun j => fm_light ln (ls j)) i))), (4, .int (fm_light ln (ls i))), (0, .ref x), (2, .int (le_g (fun j => v (14 + j)) (fun j => fm_light ln (ls j)) i)), (3, .int (nI i))]) hx hb dX4_lightShare_42 rfl hl (by decide) rfl (fun lz hl => ?_)
          refine lv_iload_n hx hb dX4_lightShare_43 rfl (lv_at hl 3 rfl) ?_
          refine lv_iload hx hb dX4_lightShare_44 (lv_at hl 1 rfl) ?_
          refine va_mmax hx hb (hml.trans hl.1.symm) hown (hts (.methodLink RX4 269 Lib.Math.max.name) (by decide +kernel)) (hts (.static Lib.Math.max.name) (by decide +kernel)) (hts (.initialized "java/lang/Math") (by decide +kernel)) (hts (.code Lib.Math.max.name Lib.Math.max.code 2 (some .int)) (by decide +kernel)) (Nat.le_of_ble_eq_true rfl) (Nat.le_of_ble_eq_true rfl) (Nat.zero_le _) (Nat.zero_le _) dX4_lightShare_46 ?_
          refine lv_istore_n (lv' := [(2, .int (if (le_g (fun j => v (14 + j)) (fun j => fm_light ln (ls j)) i) < (fm_light ln (ls i)) then (fm_light ln (ls i)) else (le_g (fun j => v (14 + j)) (fun j => fm_light ln (ls j)) i))), (1, .int (if (fm_light ln (ls i)) < (le_l (fun j => v (14 + j)) (fun j => fm_light ln (ls j)) i) then (fm_light ln (ls i)) else (le_l (fun j => v (14 + j)) (fun j => fm_light ln (ls j)) i))), (4, .int (fm_light ln (ls i))), (0, .ref x), (3, .int (nI i))]) hx hb dX4_lightShare_49 rfl hl (by decide) rfl (fun lz hl => ?_)
          refine lv_iinc (v := nI (i + 1)) (lv' := [(3, .int (nI (i + 1))), (2, .int (if (le_g (fun j => v (14 + j)) (fun j => fm_light ln (ls j)) i) < (fm_light ln (ls i)) then (fm_light ln (ls i)) else (le_g (fun j => v (14 + j)) (fun j => fm_light ln (ls j)) i))), (1, .int (if (fm_light ln (ls i)) < (le_l (fun j => v (14 + j)) (fun j => fm_light ln (ls j)) i) then (fm_light ln (ls i)) else (le_l (fun j => v (14 + j)) (fun j => fm_light ln (ls j)) i))), (4, .int (fm_light ln (ls i))), (0, .ref x)]) hx hb dX4_lightShare_50 hl (k := 4) rfl (nI_1 i) (by decide) rfl (fun lz hl => ?_)
          refine lv_goto (tgt := 8) hx hb dX4_lightShare_53 (by decide) ?_
          exact ih8 (i + 1) hlti (by omega) (if (fm_light ln (ls i)) < (le_l (fun j => v (14 + j)) (fun j => fm_light ln (ls j)) i) then (fm_light ln (ls i)) else (le_l (fun j => v (14 + j)) (fun j => fm_light ln (ls j)) i)) (if (le_g (fun j => v (14 + j)) (fun j => fm_light ln (ls j)) i) < (fm_light ln (ls i)) then (fm_light ln (ls i)) else (le_g (fun j => v (14 + j)) (fun j => fm_light ln (ls j)) i)) (by simp only [le_l, le_g, if_neg q11, if_neg q23]) (by simp only [le_l, le_g, if_neg q11, if_neg q23])  lz (lv_sub hl [4, 2, 1, 0] rfl)
  exact L8 (6 + 1) 0 (by omega) (by omega) 1000 0 rfl rfl  lz (lv_sub hl [3, 2, 1, 0] rfl)




