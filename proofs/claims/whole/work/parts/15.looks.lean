/-! Looks. -/
def cl_clr (see rd : Int32) : Int32 := if see = 0 then 0 else if fm_bc rd = 1 then 1 else 0
def lk_see (gp ls : Nat → Int32) (ln pe ne : Int32) (d : Nat) : Int32 := fm_see (fm_light ln (ls d)) ne (fm_flk (ls d) (gp d) pe)
def lk_rd (v : Nat → Int32) (d : Nat) : Int32 := fm_rdb (v (20 + d)) (fm_shw (v (8 + d)) (v (20 + d))) 12
def lk_clr (gp ls : Nat → Int32) (ln pe ne : Int32) (v : Nat → Int32) (d : Nat) : Int32 := cl_clr (lk_see gp ls ln pe ne d) (lk_rd v d)
def lk_pr (gp ls : Nat → Int32) (ln pe ne : Int32) (v : Nat → Int32) (d : Nat) : Nat → Int32
  | 0 => v (8 + d)
  | 1 => v (14 + d)
  | 2 => v (20 + d)
  | 3 => fm_shw (v (8 + d)) (v (20 + d))
  | 4 => v (26 + d)
  | 5 => fm_light ln (ls d)
  | 6 => gp d
  | 7 => if fm_flk (ls d) (gp d) pe = 0 then 0 else 1
  | 8 => if lk_see gp ls ln pe ne d = 0 then 0 else 1
  | 9 => if lk_clr gp ls ln pe ne v d = 0 then 0 else 1
  | 10 => lk_rd v d
  | _ => v (32 + d)
def lk_to (ow li gp ls : Nat → Int32) (ln pe ne : Int32) (n : Nat) (v : Nat → Int32) (z : Int32) : Nat → Int32
  | 0 => v 0
  | 1 => fm_sum (fun j => v (14 + j)) 6
  | 2 => fm_cntT li (fun _ => -1) n
  | 3 => fm_chg ow (n - 1)
  | 4 => fm_cntF (fun j => fm_flk (ls j) (gp j) pe) (fun _ => 0) 6
  | 5 => fm_cntF (fun j => lk_see gp ls ln pe ne j) (fun _ => 0) 6
  | 6 => fm_cntF (fun j => lk_clr gp ls ln pe ne v j) (fun _ => 0) 6
  | 7 => fm_sum (fun j => fm_bc (v (20 + j))) 6
  | 8 => v 1
  | 9 => v 7
  | _ => z
def lk_tr (gp ls : Nat → Int32) (ln pe ne : Int32) (d : Nat) : Nat → Int32
  | 0 => fm_light ln (ls d)
  | 1 => fm_cntF (fun j => lk_see gp ls ln pe ne j) (fun _ => 0) 6
  | _ => fm_cntF (fun j => fm_flk (ls j) (gp j) pe) (fun _ => 0) 6
/-! the number shown -/
def cn_st (v : Nat → Int32) : Nat → Nat → Nat
  | 0, i => i
  | f + 1, i => if v (8 + i) = 11 then cn_st v f (i + 1) else i
def cn_ng (v : Nat → Int32) (i : Nat) : Int32 := if 6 ≤ nI i then 0 else if v (8 + i) = 10 then 1 else 0
def cn_go (clr v : Nat → Int32) (ng : Int32) : Nat → Nat → Int32 → Int32
  | 0, _, x => if ng = 0 then x else -x
  | f + 1, d, x => if 9 < v (8 + d) then -1 else if clr d = 0 then -1 else cn_go clr v ng f (d + 1) (10 * x + v (8 + d))
def cn_ff (v : Nat → Int32) (i : Nat) : Nat := if cn_ng v i = 0 then i else i + 1
def cn_end (clr v : Nat → Int32) (i : Nat) : Int32 := if 6 ≤ nI (cn_ff v i) then -1 else if cn_ng v i = 0 then cn_go clr v (cn_ng v i) (6 - cn_ff v i) (cn_ff v i) 0 else if clr i = 0 then -1 else cn_go clr v (cn_ng v i) (6 - cn_ff v i) (cn_ff v i) 0
def cn_all (clr v : Nat → Int32) : Int32 := cn_end clr v (cn_st v 6 0)
theorem cn_st_s {v : Nat → Int32} {i : Nat} (h : i < 6) : cn_st v (6 - i) i = if v (8 + i) = 11 then cn_st v (6 - (i + 1)) (i + 1) else i := by
  rw [show 6 - i = (6 - (i + 1)) + 1 by omega]
  rfl
theorem cn_go_s {clr v : Nat → Int32} {ng : Int32} {i : Nat} {x : Int32} (h : i < 6) : cn_go clr v ng (6 - i) i x = if 9 < v (8 + i) then -1 else if clr i = 0 then -1 else cn_go clr v ng (6 - (i + 1)) (i + 1) (10 * x + v (8 + i)) := by
  rw [show 6 - i = (6 - (i + 1)) + 1 by omega]
  rfl
theorem fm_pos {x : Int32} (h : ¬ x ≤ 0) : 0 < x.toInt := by
  have h2 := Int32.lt_iff_toInt_lt.mp (Int32.not_le.mp h)
  simpa using h2
/-! the light shared -/
def le_l (lv lt : Nat → Int32) : Nat → Int32
  | 0 => 1000
  | k + 1 => if lv k ≤ 0 then le_l lv lt k else if lt k < le_l lv lt k then lt k else le_l lv lt k
def le_g (lv lt : Nat → Int32) : Nat → Int32
  | 0 => 0
  | k + 1 => if lv k ≤ 0 then le_g lv lt k else if le_g lv lt k < lt k then lt k else le_g lv lt k
def le_sh (lv lt : Nat → Int32) : UInt64 := if le_g lv lt 6 ≤ 0 then FP.dconst1 else FP.ddiv (FP.i2d (le_l lv lt 6)) (FP.i2d (le_g lv lt 6))
/-! signs that are alike -/
def ap_in (wk : Int32) (a : Nat) (c0 : Int32) : Nat → Int32
  | 0 => c0
  | k + 1 => if xm_mk a &&& wk = xm_mk (a + 1 + k) &&& wk then ap_in wk a c0 k + 1 else ap_in wk a c0 k
def ap_to (wk : Int32) : Nat → Int32
  | 0 => 0
  | a + 1 => ap_in wk a (ap_to wk a) (11 - a)
/-! a number's length -/
def nl_d (m : Int64) : Nat → Int64
  | 0 => m / 10
  | k + 1 => nl_d m k / 10
def nl_0 (x : Int32) : Nat := if 0 ≤ x then 1 else 2
def nl_to (m : Int64) (l0 : Nat) : Nat → Nat → Nat
  | 0, i => l0 + i
  | f + 1, i => if lg_cmp (nl_d m i) 0 ≤ 0 then l0 + i else nl_to m l0 f (i + 1)
def nl_n (x : Int32) : Nat := nl_to (fm_mag x) (nl_0 x) (7 - nl_0 x) 0
theorem nl_to_s {m : Int64} {l0 i : Nat} (h : l0 + i < 7) : nl_to m l0 (7 - l0 - i) i = if lg_cmp (nl_d m i) 0 ≤ 0 then l0 + i else nl_to m l0 (7 - l0 - (i + 1)) (i + 1) := by
  rw [show 7 - l0 - i = (7 - l0 - (i + 1)) + 1 by omega]
  rfl
theorem nl_0_in (x : Int32) : 1 ≤ nl_0 x ∧ nl_0 x ≤ 2 := by
  unfold nl_0
  split <;> omega
theorem le_in {lv lt : Nat → Int32} (h : ∀ j, j < 6 → 0 ≤ (lt j).toInt ∧ (lt j).toInt ≤ 1000) : ∀ k, k ≤ 6 → (0 ≤ (le_l lv lt k).toInt ∧ (le_l lv lt k).toInt ≤ 1000) ∧ 0 ≤ (le_g lv lt k).toInt ∧ (le_g lv lt k).toInt ≤ 1000
  | 0, _ => by
    show (0 ≤ (1000 : Int32).toInt ∧ (1000 : Int32).toInt ≤ 1000) ∧ 0 ≤ (0 : Int32).toInt ∧ (0 : Int32).toInt ≤ 1000
    decide
  | k + 1, hk => by
    obtain ⟨h1, h2⟩ := le_in h k (by omega)
    have h3 := h k (by omega)
    unfold le_l le_g
    split
    · exact ⟨h1, h2⟩
    · constructor
      · split
        · exact h3
        · exact h1
      · split
        · exact h3
        · exact h2
/-! what would be -/
def if_li (v : Nat → Int32) (d : Nat) (lev : Int32) : Nat → Int32 := fr_li (upd (fun j => v (14 + j)) d lev) (fun _ => 0) (v 7) (fm_dk (v 3))
def if_see (v : Nat → Int32) (n d : Nat) (lev : Int32) (j : Nat) : Int32 := lk_see (fr_gp (if_li v d lev) n) (fr_ls (if_li v d lev) n) (v 2) (v 4) (v 5 * v 1) j
def if_tr (v : Nat → Int32) (n d : Nat) (lev : Int32) : Nat → Int32 := lk_tr (fr_gp (if_li v d lev) n) (fr_ls (if_li v d lev) n) (v 2) (v 4) (v 5 * v 1) d
def ls_to (v : Nat → Int32) (n d : Nat) : Nat → Nat → Int32
  | 0, _ => -1
  | f + 1, i => if if_see v n d (nI i) d = 0 then ls_to v n d f (i + 1) else nI i
theorem ls_to_s {v : Nat → Int32} {n d i : Nat} (h : i < 16) : ls_to v n d (16 - i) i = if if_see v n d (nI i) d = 0 then ls_to v n d (16 - (i + 1)) (i + 1) else nI i := by
  rw [show 16 - i = (16 - (i + 1)) + 1 by omega]
  rfl
/-! the digest -/
def hm (f : Nat → Int32) (h : Int64) : Nat → Int64
  | 0 => h
  | k + 1 => 31 * hm f h k + (f k).toInt64
def md_1 (gp ls : Nat → Int32) (ln pe ne : Int32) (v : Nat → Int32) (d : Nat) (h : Int64) : Int64 := hm (fun j => v (38 + (d * 7 + j))) (hm (lk_pr gp ls ln pe ne v d) h 12) 7
def md_2 (v : Nat → Int32) (n d : Nat) (h : Int64) : Int64 := 31 * (31 * hm (if_tr v n d 9) h 3 + (ls_to v n d 16 0).toInt64) + (ap_to (v (20 + d) ^^^ (-1)) 12).toInt64
def md (gp ls : Nat → Int32) (ln pe ne : Int32) (v : Nat → Int32) (n d : Nat) (h : Int64) : Int64 := md_2 v n d (md_1 gp ls ln pe ne v d h)
theorem fp_div_ok {x y : Int32} (hx : 0 ≤ x.toInt ∧ x.toInt ≤ 1000) (hy : 0 < y.toInt ∧ y.toInt ≤ 1000) : vf_n64 (FP.ddiv (FP.i2d x) (FP.i2d y)) := by
  have h : FP.Core.dIsNaN (FP.Core.ddiv (FP.Core.i2d x) (FP.Core.i2d y)) = false := FP.Core.ddiv_out (FP.Core.i2d_fin x).notNaN (FP.Core.i2d_fin y) (fun q => FP.Core.i2d_ne_zero (v := y) (fun e => by subst e; exact absurd hy.1 (by decide)) ((FP.Core.zero_bits2 _).mp q))
  generalize hr : FP.Core.ddiv (FP.Core.i2d x) (FP.Core.i2d y) = r at h
  show FP.Core.ddiv (FP.Core.i2d x) (FP.Core.i2d y) &&& 0x7fffffffffffffff ≤ 0x7ff0000000000000
  rw [hr]
  have h1 : ¬ 9218868437227405312 < r.toNat % 2 ^ 63 := fun q => by
    have := (FP.Core.isNaN_bits r).mpr q
    rw [h] at this
    exact absurd this (by decide)
  rw [UInt64.le_iff_toNat_le, UInt64.toNat_and]
  have e : (0x7fffffffffffffff : UInt64).toNat = 2 ^ 63 - 1 := by decide
  have e2 : (0x7ff0000000000000 : UInt64).toNat = 9218868437227405312 := by decide
  rw [e, e2, Nat.and_two_pow_sub_one_eq_mod]
  omega

set_option maxHeartbeats 4000000 in
set_option maxRecDepth 100000 in
theorem c_X4_mix (l : Launch) (dC : Nat → ClassId) (dI : Nat → Nat → Nat) (cI cS cJ : ClassId) (tt : Nat → Nat) (x0 : Int64) (y0 : Int64) : Met l yX4_mix wsX4_mix ({ frames := 0, cells := 0, slots := 0, locals := 0 } : Room) (va_Pc [.long x0, .long y0] (xm_R (dC, dI) cI cS cJ tt [] (True))) (k2_QcV (.long (31 * x0 + y0))) 0 0 (fun _ => False) := by
  refine Met.ofW (cc := cX4_mix) (maxL := 4) (ret := (some .long)) (by decide) rfl ?_
  intro p e s m args below meth c s₁ B hml hv
  obtain ⟨rfl, hP, hE, hpre⟩ := hv
  have hx := B.exec
  have hb := B.bytes
  have hr := B.returns
  have hts := atoms_spec (ws := wsX4_mix) B.pre
  have hown : s.vm.findClass RX4 = some m.cls := findClass_of_methodNamed B.named
  have hlocks := B.notSynchronized
  have hK := hE.1
  have hS : va_S (fun _ => False) s.heap s.heap [] := va_S.rf
  have hP : va_P (dC, dI) vwCl [] s.heap := hP
  have hl := lv_entry [.long x0, .long y0] (n := 4) (Nat.le_of_ble_eq_true rfl)
  rw [lg_entry_eq]
  generalize (lg_sl [.long x0, .long y0] ++ List.replicate (4 - (lg_sl [.long x0, .long y0]).length) Slot.unset).toArray = lz at hl ⊢
  have hl : lv_has lz 4 [(0, .long x0), (2, .long y0)] := hl
  refine lv_ldc2 (v := 31) hx hb hown (hts (.constantLong RX4 200 31) (by decide +kernel)) dX4_mix_0 ?_
  refine lv_lload_n hx hb dX4_mix_3 rfl (lv_at hl 0 rfl) ?_
  refine lv_lmul hx hb dX4_mix_4 ?_
  refine lv_lload_n hx hb dX4_mix_5 rfl (lv_at hl 1 rfl) ?_
  refine lv_ladd hx hb dX4_mix_6 ?_
  exact W.lret (v := (31 * x0) + y0) hx hb hr (fun t ht hW => ⟨congrArg (fun z => Outcome.returned (some (Value.long z))) (rfl), ht⟩) hS.2.2 dX4_mix_7

set_option maxHeartbeats 4000000 in
set_option maxRecDepth 100000 in
theorem c_X4_isClear (l : Launch) (dC : Nat → ClassId) (dI : Nat → Nat → Nat) (cI cS cJ : ClassId) (tt : Nat → Nat) (x : Nat) (a : Nat → Nat) (h : Nat → Nat) (tx : Nat → Nat) (g : Nat → Nat) (k : Nat → Nat) (gp : Nat → Int32) (ls : Nat → Int32) (ln : Int32) (pe : Int32) (ne : Int32) (v : Nat → Int32) (d : Nat) : Met l yX4_isClear wsX4_isClear ({ frames := 2, cells := 0, slots := 0, locals := 45 } : Room) (va_Pc [.ref x, .int (nI d)] (xm_R (dC, dI) cI cS cJ tt [(x, .inr (4, [.ref (a 0), .ref (h 0), .ref (tx 0), .ref (g 0), .ref (k 0)])), ((g 0), .inr (0, [.ref (g 1), .ref (g 2), .ref (g 3), .ref (g 4), .ref (g 5), .ref (g 6), .ref (g 7), .int ln, .int pe, .int ne])), ((g 3), .inl (cI, 6, .inl gp)), ((g 4), .inl (cI, 6, .inl ls)), ((a 0), .inr (2, [.ref (a 1), .ref (a 2), .ref (a 3), .ref (a 4), .ref (a 5), .ref (a 6), .ref (a 7), .int (v 1), .int (v 0), .int (v 7)])), ((a 1), .inl (cI, 6, .inl (fun j => v (8 + j)))), ((a 3), .inl (cI, 6, .inl (fun j => v (20 + j))))] (d < 6 ∧ fm_ix (v (8 + d)) 12))) (k2_QcV (.int (lk_clr gp ls ln pe ne v d))) 0 0 (fun _ => False) := by
  refine Met.ofW (cc := cX4_isClear) (maxL := 2) (ret := (some .boolean)) (by decide) rfl ?_
  intro p e s m args below meth c s₁ B hml hv
  obtain ⟨rfl, hP, hE, hpre⟩ := hv
  have hx := B.exec
  have hb := B.bytes
  have hr := B.returns
  have hts := atoms_spec (ws := wsX4_isClear) B.pre
  have hown : s.vm.findClass RX4 = some m.cls := findClass_of_methodNamed B.named
  have hlocks := B.notSynchronized
  have hK := hE.1
  have hS : va_S (fun _ => False) s.heap s.heap [] := va_S.rf
  have hP : va_P (dC, dI) vwCl [(x, .inr (4, [.ref (a 0), .ref (h 0), .ref (tx 0), .ref (g 0), .ref (k 0)])), ((g 0), .inr (0, [.ref (g 1), .ref (g 2), .ref (g 3), .ref (g 4), .ref (g 5), .ref (g 6), .ref (g 7), .int ln, .int pe, .int ne])), ((g 3), .inl (cI, 6, .inl gp)), ((g 4), .inl (cI, 6, .inl ls)), ((a 0), .inr (2, [.ref (a 1), .ref (a 2), .ref (a 3), .ref (a 4), .ref (a 5), .ref (a 6), .ref (a 7), .int (v 1), .int (v 0), .int (v 7)])), ((a 1), .inl (cI, 6, .inl (fun j => v (8 + j)))), ((a 3), .inl (cI, 6, .inl (fun j => v (20 + j))))] s.heap := hP
  have hin4 : ∀ w ∈ u_ws RX4 TX4 5, w ∈ wsX4_isClear := by decide +kernel
  have hl := lv_entry [.ref x, .int (nI d)] (n := 2) (Nat.le_of_ble_eq_true rfl)
  rw [lg_entry_eq]
  generalize (lg_sl [.ref x, .int (nI d)] ++ List.replicate (2 - (lg_sl [.ref x, .int (nI d)]).length) Slot.unset).toArray = lz at hl ⊢
  have hl : lv_has lz 2 [(0, .ref x), (1, .int (nI d))] := hl
  obtain ⟨hd6, hsg⟩ := id hpre
  refine lv_aload_n hx hb dX4_isClear_0 rfl (lv_at hl 0 rfl) ?_
  refine va_get (D := (dC, dI)) (ci := 4) (v := .ref (g 0)) (C := RX4) (T := TX4) (N := 5) hx hb hts hin4 hown hK hP 0 rfl rfl 3 (by decide) (hts (.fieldLink RX4 33 "TurnDigits" "frame" "LTurnDigits$Frame;") (by decide +kernel)) (fun _ h9 => h9) rfl dX4_isClear_1 ?_
  refine lv_iload_n hx hb dX4_isClear_4 rfl (lv_at hl 1 rfl) ?_
  have hPc := hP.sub (ws' := [((g 0), .inr (0, [.ref (g 1), .ref (g 2), .ref (g 3), .ref (g 4), .ref (g 5), .ref (g 6), .ref (g 7), .int ln, .int pe, .int ne])), ((g 3), .inl (cI, 6, .inl gp)), ((g 4), .inl (cI, 6, .inl ls))]) [1, 2, 3] rfl
  refine W.callV ((va_runV (As := [.int (nI d)]) (rest := []) ⟨hx, hb, hml, hown, hts⟩ (c_X0_isSeen l dC dI cI cS cJ tt g gp ls ln pe ne d) (cwV 1 hts gX4_isClear_X0_isSeen rfl rfl rfl (by decide +kernel) ⟨Nat.le_of_ble_eq_true rfl, Nat.le_of_ble_eq_true rfl⟩) ⟨xm_Rblind, va_recv hK hPc (ci := 0) (q0 := 0) rfl rfl, fun U hU hW => ⟨rfl, by rw [hU]; exact hPc, hE.go hS (fun _ q => q.elim) hU hW, hd6⟩⟩ rfl rfl hl.1 rfl (lv_room (Nat.le_of_ble_eq_true rfl)) dX4_isClear_5 ⟨Nat.zero_le _, Nat.zero_le _⟩).run) ?_
  refine W.eq (g2 := F0 m 8 lz (.int (fm_see (fm_light ln (ls d)) ne (fm_flk (ls d) (gp d) pe)) :: [])) rfl ?_
  refine xm_topi (y := (lk_see gp ls ln pe ne d)) rfl ?_
  refine lv_if_eq (tgt := 30) hx hb dX4_isClear_8 (by decide) (fun q8 => ?_) (fun q8 => ?_)
  · refine lv_iconst (v := 0) hx hb dX4_isClear_30 (by decide) ?_
    exact W.zret (v := 0) hx hb hr rfl (fun t ht hW => ⟨congrArg (fun z => Outcome.returned (some (Value.int z))) (by simp only [lk_clr, cl_clr, if_pos q8]), ht⟩) hS.2.2 dX4_isClear_31
  · refine lv_aload_n hx hb dX4_isClear_11 rfl (lv_at hl 0 rfl) ?_
    refine va_get (D := (dC, dI)) (ci := 4) (v := .ref (a 0)) (C := RX4) (T := TX4) (N := 5) hx hb hts hin4 hown hK hP 0 rfl rfl 0 (by decide) (hts (.fieldLink RX4 10 "TurnDigits" "state" "LTurnDigits$State;") (by decide +kernel)) (fun _ h9 => h9) rfl dX4_isClear_12 ?_
    refine lv_iload_n hx hb dX4_isClear_15 rfl (lv_at hl 1 rfl) ?_
    have hPc := hP.sub (ws' := [((a 0), .inr (2, [.ref (a 1), .ref (a 2), .ref (a 3), .ref (a 4), .ref (a 5), .ref (a 6), .ref (a 7), .int (v 1), .int (v 0), .int (v 7)])), ((a 1), .inl (cI, 6, .inl (fun j => v (8 + j)))), ((a 3), .inl (cI, 6, .inl (fun j => v (20 + j))))]) [4, 5, 6] rfl
    refine W.callV ((va_runV (As := [.int (nI d)]) (rest := []) ⟨hx, hb, hml, hown, hts⟩ (c_X2_readableSigns l dC dI cI cS cJ tt a (v 1) (v 0) (v 7) (fun j => v (8 + j)) (fun j => v (20 + j)) d) (cwV 1 hts gX4_isClear_X2_readableSigns rfl rfl rfl (by decide +kernel) ⟨Nat.le_of_ble_eq_true rfl, Nat.le_of_ble_eq_true rfl⟩) ⟨xm_Rblind, va_recv hK hPc (ci := 2) (q0 := 0) rfl rfl, fun U hU hW => ⟨rfl, by rw [hU]; exact hPc, hE.go hS (fun _ q => q.elim) hU hW, hpre⟩⟩ rfl rfl hl.1 rfl (lv_room (Nat.le_of_ble_eq_true rfl)) dX4_isClear_16 ⟨Nat.zero_le _, Nat.zero_le _⟩).run) ?_
    refine W.eq (g2 := F0 m 19 lz (.int (fm_rdb ((fun j => v (20 + j)) d) (fm_shw ((fun j => v (8 + j)) d) ((fun j => v (20 + j)) d)) 12) :: [])) rfl ?_
    refine xm_topi (y := (lk_rd v d)) rfl ?_
    have hPc := hP.sub (ws' := []) [] rfl
    refine W.callV ((va_runS (As := [.int (lk_rd v d)]) (rest := []) ⟨hx, hb, hml, hown, hts⟩ (c_J6_bitCount_0f7a4 l dC dI cI cS cJ tt (lk_rd v d)) (va_cwS 1 hts gX4_isClear_J6_bitCount_0f7a4 rfl rfl rfl (by decide +kernel) ⟨Nat.le_of_ble_eq_true rfl, Nat.le_of_ble_eq_true rfl⟩) ⟨xm_Rblind, fun U hU hW => ⟨rfl, by rw [hU]; exact hPc, hE.go hS (fun _ q => q.elim) hU hW, trivial⟩⟩ rfl rfl hl.1 rfl (lv_room (Nat.le_of_ble_eq_true rfl)) dX4_isClear_19 ⟨Nat.zero_le _, Nat.zero_le _⟩).run) ?_
    refine W.eq (g2 := F0 m 22 lz (.int (fm_bc (lk_rd v d)) :: [])) rfl ?_
    refine lv_iconst (v := 1) hx hb dX4_isClear_22 (by decide) ?_
    refine lv_icmp_ne (tgt := 30) hx hb dX4_isClear_23 (by decide) (fun q23 => ?_) (fun q23 => ?_)
    · refine lv_iconst (v := 0) hx hb dX4_isClear_30 (by decide) ?_
      exact W.zret (v := 0) hx hb hr rfl (fun t ht hW => ⟨congrArg (fun z => Outcome.returned (some (Value.int z))) (by simp only [lk_clr, cl_clr, if_neg q8, if_neg q23]), ht⟩) hS.2.2 dX4_isClear_31
    · refine lv_iconst (v := 1) hx hb dX4_isClear_26 (by decide) ?_
      refine lv_goto (tgt := 31) hx hb dX4_isClear_27 (by decide) ?_
      exact W.zret (v := 1) hx hb hr rfl (fun t ht hW => ⟨congrArg (fun z => Outcome.returned (some (Value.int z))) (by simp only [lk_clr, cl_clr, if_neg q8, if_pos q23]), ht⟩) hS.2.2 dX4_isClear_31

set_option maxHeartbeats 4000000 in
set_option maxRecDepth 100000 in
theorem c_X4_clearDigits (l : Launch) (dC : Nat → ClassId) (dI : Nat → Nat → Nat) (cI cS cJ : ClassId) (tt : Nat → Nat) (x : Nat) (a : Nat → Nat) (h : Nat → Nat) (tx : Nat → Nat) (g : Nat → Nat) (k : Nat → Nat) (gp : Nat → Int32) (ls : Nat → Int32) (ln : Int32) (pe : Int32) (ne : Int32) (v : Nat → Int32) : Met l yX4_clearDigits wsX4_clearDigits ({ frames := 3, cells := 0, slots := 0, locals := 66 } : Room) (va_Pc [.ref x] (xm_R (dC, dI) cI cS cJ tt [(x, .inr (4, [.ref (a 0), .ref (h 0), .ref (tx 0), .ref (g 0), .ref (k 0)])), ((g 0), .inr (0, [.ref (g 1), .ref (g 2), .ref (g 3), .ref (g 4), .ref (g 5), .ref (g 6), .ref (g 7), .int ln, .int pe, .int ne])), ((g 3), .inl (cI, 6, .inl gp)), ((g 4), .inl (cI, 6, .inl ls)), ((a 0), .inr (2, [.ref (a 1), .ref (a 2), .ref (a 3), .ref (a 4), .ref (a 5), .ref (a 6), .ref (a 7), .int (v 1), .int (v 0), .int (v 7)])), ((a 1), .inl (cI, 6, .inl (fun j => v (8 + j)))), ((a 3), .inl (cI, 6, .inl (fun j => v (20 + j))))] (∀ j, j < 6 → fm_ix (v (8 + j)) 12))) (k2_QcV (.int (fm_cntF (fun j => lk_clr gp ls ln pe ne v j) (fun _ => 0) 6))) 0 0 (fun _ => False) := by
  refine Met.ofW (cc := cX4_clearDigits) (maxL := 3) (ret := (some .int)) (by decide) rfl ?_
  intro p e s m args below meth c s₁ B hml hv
  obtain ⟨rfl, hP, hE, hpre⟩ := hv
  have hx := B.exec
  have hb := B.bytes
  have hr := B.returns
  have hts := atoms_spec (ws := wsX4_clearDigits) B.pre
  have hown : s.vm.findClass RX4 = some m.cls := findClass_of_methodNamed B.named
  have hlocks := B.notSynchronized
  have hK := hE.1
  have hS : va_S (fun _ => False) s.heap s.heap [] := va_S.rf
  have hP : va_P (dC, dI) vwCl [(x, .inr (4, [.ref (a 0), .ref (h 0), .ref (tx 0), .ref (g 0), .ref (k 0)])), ((g 0), .inr (0, [.ref (g 1), .ref (g 2), .ref (g 3), .ref (g 4), .ref (g 5), .ref (g 6), .ref (g 7), .int ln, .int pe, .int ne])), ((g 3), .inl (cI, 6, .inl gp)), ((g 4), .inl (cI, 6, .inl ls)), ((a 0), .inr (2, [.ref (a 1), .ref (a 2), .ref (a 3), .ref (a 4), .ref (a 5), .ref (a 6), .ref (a 7), .int (v 1), .int (v 0), .int (v 7)])), ((a 1), .inl (cI, 6, .inl (fun j => v (8 + j)))), ((a 3), .inl (cI, 6, .inl (fun j => v (20 + j))))] s.heap := hP
  have hl := lv_entry [.ref x] (n := 3) (Nat.le_of_ble_eq_true rfl)
  rw [lg_entry_eq]
  generalize (lg_sl [.ref x] ++ List.replicate (3 - (lg_sl [.ref x]).length) Slot.unset).toArray = lz at hl ⊢
  have hl : lv_has lz 3 [(0, .ref x)] := hl
  refine lv_iconst (v := 0) hx hb dX4_clearDigits_0 (by decide) ?_
  refine lv_istore_n (lv' := [(1, .int 0), (0, .ref x)]) hx hb dX4_clearDigits_1 rfl hl (by decide) rfl (fun lz hl => ?_)
  refine lv_iconst (v := 0) hx hb dX4_clearDigits_2 (by decide) ?_
  refine lv_istore_n (lv' := [(2, .int 0), (1, .int 0), (0, .ref x)]) hx hb dX4_clearDigits_3 rfl hl (by decide) rfl (fun lz hl => ?_)
  have L4 : ∀ (zz i : Nat), i ≤ 6 → 6 + 1 ≤ i + zz → ∀ (x1 : Int32), x1 = fm_cntF (fun j => lk_clr gp ls ln pe ne v j) (fun _ => 0) i → ∀ (lz : Array Slot), lv_has lz 3 [(0, .ref x), (1, .int x1), (2, .int (nI i))] → W p l e (headSpec wsX4_clearDigits ({ frames := 3, cells := 0, slots := 0, locals := 66 } : Room)).room s m ([.ref x] : List Value).toArray below meth c s.heap [] 0 0 (MQ below (k2_QcV (.int (fm_cntF (fun j => lk_clr gp ls ln pe ne v j) (fun _ => 0) 6))) ([.ref x] : List Value).toArray s 0 0 (fun _ => False)) (F0 m 4 lz []) := by
    intro zz
    induction zz with
    | zero => intro i hii hni; exact absurd hni (by omega)
    | succ zz ih4 =>
      intro i hii hni x1 e_x1  lz hl
      subst e_x1
      refine lv_iload_n hx hb dX4_clearDigits_4 rfl (lv_at hl 2 rfl) ?_
      refine lv_bipush (v := 6) hx hb dX4_clearDigits_5 (by decide) ?_
      refine lv_icmp_ge (tgt := 27) hx hb dX4_clearDigits_7 (by decide) (fun q7 => ?_) (fun q7 => ?_)
      · have hNi : 6 = i := (xm_end (N := 6) hii (by decide) q7).symm
        subst hNi
        refine lv_iload_n hx hb dX4_clearDigits_27 rfl (lv_at hl 1 rfl) ?_
        exact W.iret (v := (fm_cntF (fun j => lk_clr gp ls ln pe ne v j) (fun _ => 0) 6)) hx hb hr (fun t ht hW => ⟨congrArg (fun z => Outcome.returned (some (Value.int z))) (by simp), ht⟩) hS.2.2 dX4_clearDigits_28
      · have hlti : i < 6 := xm_lt (N := 6) hii (by decide) q7
        refine lv_aload_n hx hb dX4_clearDigits_10 rfl (lv_at hl 0 rfl) ?_
        refine lv_iload_n hx hb dX4_clearDigits_11 rfl (lv_at hl 2 rfl) ?_
        have hPc := hP.sub (ws' := [(x, .inr (4, [.ref (a 0), .ref (h 0), .ref (tx 0), .ref (g 0), .ref (k 0)])), ((g 0), .inr (0, [.ref (g 1), .ref (g 2), .ref (g 3), .ref (g 4), .ref (g 5), .ref (g 6), .ref (g 7), .int ln, .int pe, .int ne])), ((g 3), .inl (cI, 6, .inl gp)), ((g 4), .inl (cI, 6, .inl ls)), ((a 0), .inr (2, [.ref (a 1), .ref (a 2), .ref (a 3), .ref (a 4), .ref (a 5), .ref (a 6), .ref (a 7), .int (v 1), .int (v 0), .int (v 7)])), ((a 1), .inl (cI, 6, .inl (fun j => v (8 + j)))), ((a 3), .inl (cI, 6, .inl (fun j => v (20 + j))))]) [0, 1, 2, 3, 4, 5, 6] rfl
        refine W.callV ((va_runV (As := [.int (nI i)]) (rest := []) ⟨hx, hb, hml, hown, hts⟩ (c_X4_isClear l dC dI cI cS cJ tt x a h tx g k gp ls ln pe ne v i) (cwV 1 hts gX4_clearDigits_X4_isClear rfl rfl rfl (by decide +kernel) ⟨Nat.le_of_ble_eq_true rfl, Nat.le_of_ble_eq_true rfl⟩) ⟨xm_Rblind, va_recv hK hPc (ci := 4) (q0 := 0) rfl rfl, fun U hU hW => ⟨rfl, by rw [hU]; exact hPc, hE.go hS (fun _ q => q.elim) hU hW, ⟨hlti, hpre i hlti⟩⟩⟩ rfl rfl hl.1 rfl (lv_room (Nat.le_of_ble_eq_true rfl)) dX4_clearDigits_12 ⟨Nat.zero_le _, Nat.zero_le _⟩).run) ?_
        refine W.eq (g2 := F0 m 15 lz (.int (lk_clr gp ls ln pe ne v i) :: [])) rfl ?_
        refine lv_if_eq (tgt := 21) hx hb dX4_clearDigits_15 (by decide) (fun q15 => ?_) (fun q15 => ?_)
        · refine lv_iinc (v := nI (i + 1)) (lv' := [(2, .int (nI (i + 1))), (0, .ref x), (1, .int (fm_cntF (fun j => lk_clr gp ls ln pe ne v j) (fun _ => 0) i))]) hx hb dX4_clearDigits_21 hl (k := 2) rfl (nI_1 i) (by decide) rfl (fun lz hl => ?_)
          refine lv_goto (tgt := 4) hx hb dX4_clearDigits_24 (by decide) ?_
          exact ih4 (i + 1) hlti (by omega) (fm_cntF (fun j => lk_clr gp ls ln pe ne v j) (fun _ => 0) i) (by simp only [fm_cntF, if_neg q7, if_pos q15])  lz (lv_sub hl [1, 2, 0] rfl)
        · refine lv_iinc (v := ((fm_cntF (fun j => lk_clr gp ls ln pe ne v j) (fun _ => 0) i) + 1)) (lv' := [(1, .int ((fm_cntF (fun j => lk_clr gp ls ln pe ne v j) (fun _ => 0) i) + 1)), (0, .ref x), (2, .int (nI i))]) hx hb dX4_clearDigits_18 hl (k := 1) rfl rfl (by decide) rfl (fun lz hl => ?_)
          refine lv_iinc (v := nI (i + 1)) (lv' := [(2, .int (nI (i + 1))), (1, .int ((fm_cntF (fun j => lk_clr gp ls ln pe ne v j) (fun _ => 0) i) + 1)), (0, .ref x)]) hx hb dX4_clearDigits_21 hl (k := 2) rfl (nI_1 i) (by decide) rfl (fun lz hl => ?_)
          refine lv_goto (tgt := 4) hx hb dX4_clearDigits_24 (by decide) ?_
          exact ih4 (i + 1) hlti (by omega) ((fm_cntF (fun j => lk_clr gp ls ln pe ne v j) (fun _ => 0) i) + 1) (by simp only [fm_cntF, if_neg q7, if_neg q15])  lz (lv_sub hl [2, 1, 0] rfl)
  exact L4 (6 + 1) 0 (by omega) (by omega) 0 rfl  lz (lv_sub hl [2, 1, 0] rfl)

set_option maxHeartbeats 4000000 in
set_option maxRecDepth 100000 in
theorem c_X4_alikePairs (l : Launch) (dC : Nat → ClassId) (dI : Nat → Nat → Nat) (cI cS cJ : ClassId) (tt : Nat → Nat) (x : Nat) (a : Nat → Nat) (h : Nat → Nat) (tx : Nat → Nat) (g : Nat → Nat) (k : Nat → Nat) (v : Nat → Int32) (d : Nat) : Met l yX4_alikePairs wsX4_alikePairs ({ frames := 0, cells := 0, slots := 0, locals := 0 } : Room) (va_Pc [.ref x, .int (nI d)] (xm_R (dC, dI) cI cS cJ tt [(x, .inr (4, [.ref (a 0), .ref (h 0), .ref (tx 0), .ref (g 0), .ref (k 0)])), ((a 0), .inr (2, [.ref (a 1), .ref (a 2), .ref (a 3), .ref (a 4), .ref (a 5), .ref (a 6), .ref (a 7), .int (v 1), .int (v 0), .int (v 7)])), ((a 3), .inl (cI, 6, .inl (fun j => v (20 + j))))] (d < 6))) (k2_QcV (.int (ap_to (v (20 + d) ^^^ (-1)) 12))) 0 0 (fun _ => False) := by
  refine Met.ofW (cc := cX4_alikePairs) (maxL := 6) (ret := (some .int)) (by decide) rfl ?_
  intro p e s m args below meth c s₁ B hml hv
  obtain ⟨rfl, hP, hE, hpre⟩ := hv
  have hx := B.exec
  have hb := B.bytes
  have hr := B.returns
  have hts := atoms_spec (ws := wsX4_alikePairs) B.pre
  have hown : s.vm.findClass RX4 = some m.cls := findClass_of_methodNamed B.named
  have hlocks := B.notSynchronized
  have hK := hE.1
  have hS : va_S (fun _ => False) s.heap s.heap [] := va_S.rf
  have hP : va_P (dC, dI) vwCl [(x, .inr (4, [.ref (a 0), .ref (h 0), .ref (tx 0), .ref (g 0), .ref (k 0)])), ((a 0), .inr (2, [.ref (a 1), .ref (a 2), .ref (a 3), .ref (a 4), .ref (a 5), .ref (a 6), .ref (a 7), .int (v 1), .int (v 0), .int (v 7)])), ((a 3), .inl (cI, 6, .inl (fun j => v (20 + j))))] s.heap := hP
  have hin2 : ∀ w ∈ u_ws RX2 TX2 10, w ∈ wsX4_alikePairs := by decide +kernel
  have hin4 : ∀ w ∈ u_ws RX4 TX4 5, w ∈ wsX4_alikePairs := by decide +kernel
  have hl := lv_entry [.ref x, .int (nI d)] (n := 6) (Nat.le_of_ble_eq_true rfl)
  rw [lg_entry_eq]
  generalize (lg_sl [.ref x, .int (nI d)] ++ List.replicate (6 - (lg_sl [.ref x, .int (nI d)]).length) Slot.unset).toArray = lz at hl ⊢
  have hl : lv_has lz 6 [(0, .ref x), (1, .int (nI d))] := hl
  refine lv_aload_n hx hb dX4_alikePairs_0 rfl (lv_at hl 0 rfl) ?_
  refine va_get (D := (dC, dI)) (ci := 4) (v := .ref (a 0)) (C := RX4) (T := TX4) (N := 5) hx hb hts hin4 hown hK hP 0 rfl rfl 0 (by decide) (hts (.fieldLink RX4 10 "TurnDigits" "state" "LTurnDigits$State;") (by decide +kernel)) (fun _ h9 => h9) rfl dX4_alikePairs_1 ?_
  refine va_get (D := (dC, dI)) (ci := 2) (v := .ref (a 3)) (C := RX2) (T := TX2) (N := 10) hx hb hts hin2 hown hK hP 1 rfl rfl 2 (by decide) (hts (.fieldLink RX4 65 "TurnDigits$State" "burnt" "[I") (by decide +kernel)) (fun _ h9 => h9) rfl dX4_alikePairs_4 ?_
  refine lv_iload_n hx hb dX4_alikePairs_7 rfl (lv_at hl 1 rfl) ?_
  refine xm_iald (D := (dC, dI)) hx hb hK hP 2 0 d (v := (fun j => v (20 + j)) d) rfl rfl (by decide) rfl (by omega) rfl dX4_alikePairs_8 ?_
  refine lv_iconst (v := (-1)) hx hb dX4_alikePairs_9 (by decide) ?_
  refine lv_ixor hx hb dX4_alikePairs_10 ?_
  refine xm_topi (y := (v (20 + d) ^^^ (-1))) rfl ?_
  refine lv_istore_n (lv' := [(2, .int (v (20 + d) ^^^ (-1))), (0, .ref x), (1, .int (nI d))]) hx hb dX4_alikePairs_11 rfl hl (by decide) rfl (fun lz hl => ?_)
  refine lv_iconst (v := 0) hx hb dX4_alikePairs_12 (by decide) ?_
  refine lv_istore_n (lv' := [(3, .int 0), (2, .int (v (20 + d) ^^^ (-1))), (0, .ref x), (1, .int (nI d))]) hx hb dX4_alikePairs_13 rfl hl (by decide) rfl (fun lz hl => ?_)
  refine lv_iconst (v := 0) hx hb dX4_alikePairs_14 (by decide) ?_
  refine lv_istore (lv' := [(4, .int 0), (3, .int 0), (2, .int (v (20 + d) ^^^ (-1))), (0, .ref x), (1, .int (nI d))]) hx hb dX4_alikePairs_15 hl (by decide) rfl (fun lz hl => ?_)
  have L17 : ∀ (zz i : Nat), i ≤ 12 → 12 + 1 ≤ i + zz → ∀ (x3 : Int32), x3 = ap_to (v (20 + d) ^^^ (-1)) i → ∀ (lz : Array Slot), lv_has lz 6 [(0, .ref x), (1, .int (nI d)), (2, .int (v (20 + d) ^^^ (-1))), (3, .int x3), (4, .int (nI i))] → W p l e (headSpec wsX4_alikePairs ({ frames := 0, cells := 0, slots := 0, locals := 0 } : Room)).room s m ([.ref x, .int (nI d)] : List Value).toArray below meth c s.heap [] 0 0 (MQ below (k2_QcV (.int (ap_to (v (20 + d) ^^^ (-1)) 12))) ([.ref x, .int (nI d)] : List Value).toArray s 0 0 (fun _ => False)) (F0 m 17 lz []) := by
    intro zz
    induction zz with
    | zero => intro i hii hni; exact absurd hni (by omega)
    | succ zz ih17 =>
      intro i hii hni x3 e_x3  lz hl
      subst e_x3
      refine lv_iload hx hb dX4_alikePairs_17 (lv_at hl 4 rfl) ?_
      refine lv_bipush (v := 12) hx hb dX4_alikePairs_19 (by decide) ?_
      refine lv_icmp_ge (tgt := 71) hx hb dX4_alikePairs_21 (by decide) (fun q21 => ?_) (fun q21 => ?_)
      · have hNi : 12 = i := (xm_end (N := 12) hii (by decide) q21).symm
        subst hNi
        refine lv_iload_n hx hb dX4_alikePairs_71 rfl (lv_at hl 3 rfl) ?_
        exact W.iret (v := (ap_to (v (20 + d) ^^^ (-1)) 12)) hx hb hr (fun t ht hW => ⟨congrArg (fun z => Outcome.returned (some (Value.int z))) (by simp), ht⟩) hS.2.2 dX4_alikePairs_72
      · have hlti : i < 12 := xm_lt (N := 12) hii (by decide) q21
        refine lv_iload hx hb dX4_alikePairs_24 (lv_at hl 4 rfl) ?_
        refine lv_iconst (v := 1) hx hb dX4_alikePairs_26 (by decide) ?_
        refine lv_iadd hx hb dX4_alikePairs_27 ?_
        refine xm_topi (y := (nI (i + 1 + 0))) (nI_1 i) ?_
        refine lv_istore (lv' := [(5, .int (nI (i + 1 + 0))), (0, .ref x), (1, .int (nI d)), (2, .int (v (20 + d) ^^^ (-1))), (3, .int (ap_to (v (20 + d) ^^^ (-1)) i)), (4, .int (nI i))]) hx hb dX4_alikePairs_28 hl (by decide) rfl (fun lz hl => ?_)
        have L30 : ∀ (zz j : Nat), j ≤ (11 - i) → (11 - i) + 1 ≤ j + zz → ∀ (x3 : Int32), x3 = ap_in (v (20 + d) ^^^ (-1)) i (ap_to (v (20 + d) ^^^ (-1)) i) j → ∀ (lz : Array Slot), lv_has lz 6 [(0, .ref x), (1, .int (nI d)), (2, .int (v (20 + d) ^^^ (-1))), (3, .int x3), (4, .int (nI i)), (5, .int (nI (i + 1 + j)))] → W p l e (headSpec wsX4_alikePairs ({ frames := 0, cells := 0, slots := 0, locals := 0 } : Room)).room s m ([.ref x, .int (nI d)] : List Value).toArray below meth c s.heap [] 0 0 (MQ below (k2_QcV (.int (ap_to (v (20 + d) ^^^ (-1)) 12))) ([.ref x, .int (nI d)] : List Value).toArray s 0 0 (fun _ => False)) (F0 m 30 lz []) := by
          intro zz
          induction zz with
          | zero => intro j hij hnj; exact absurd hnj (by omega)
          | succ zz ih30 =>
            intro j hij hnj x3 e_x3  lz hl
            subst e_x3
            refine lv_iload hx hb dX4_alikePairs_30 (lv_at hl 5 rfl) ?_
            refine lv_bipush (v := 12) hx hb dX4_alikePairs_32 (by decide) ?_
            refine lv_icmp_ge (tgt := 65) hx hb dX4_alikePairs_34 (by decide) (fun q34 => ?_) (fun q34 => ?_)
            · have hNj : 11 - i = j := by have h := xm_end (N := 12) (i := i + 1 + j) (by omega) (by decide) q34; omega
              subst hNj
              refine lv_iinc (v := nI (i + 1)) (lv' := [(4, .int (nI (i + 1))), (0, .ref x), (1, .int (nI d)), (2, .int (v (20 + d) ^^^ (-1))), (3, .int (ap_in (v (20 + d) ^^^ (-1)) i (ap_to (v (20 + d) ^^^ (-1)) i) (11 - i))), (5, .int (nI (i + 1 + (11 - i))))]) hx hb dX4_alikePairs_65 hl (k := 4) rfl (nI_1 i) (by decide) rfl (fun lz hl => ?_)
              refine lv_goto (tgt := 17) hx hb dX4_alikePairs_68 (by decide) ?_
              exact ih17 (i + 1) hlti (by omega) (ap_in (v (20 + d) ^^^ (-1)) i (ap_to (v (20 + d) ^^^ (-1)) i) (11 - i)) rfl  lz (lv_sub hl [1, 2, 3, 4, 0] rfl)
            · have hltj : j < 11 - i := by have h := xm_lt (N := 12) (i := i + 1 + j) (by omega) (by decide) q34; omega
              refine va_gets (C := "TurnDigits") (n := "MASKS") (d := "[I") (v := .ref (tt 0)) hx hb hE.2.2.1.1 hS hown (hts (.fieldLink RX4 272 "TurnDigits" "MASKS" "[I") (by decide +kernel)) (fun _ h9 => h9) dX4_alikePairs_37 ?_
              refine lv_iload hx hb dX4_alikePairs_40 (lv_at hl 4 rfl) ?_
              refine xm_ti hx hb hE.2.2.1 hS i (v := xm_mk i) (by decide) rfl (by omega) rfl dX4_alikePairs_42 ?_
              refine lv_iload_n hx hb dX4_alikePairs_43 rfl (lv_at hl 2 rfl) ?_
              refine lv_iand hx hb dX4_alikePairs_44 ?_
              refine va_gets (C := "TurnDigits") (n := "MASKS") (d := "[I") (v := .ref (tt 0)) hx hb hE.2.2.1.1 hS hown (hts (.fieldLink RX4 272 "TurnDigits" "MASKS" "[I") (by decide +kernel)) (fun _ h9 => h9) dX4_alikePairs_45 ?_
              refine lv_iload hx hb dX4_alikePairs_48 (lv_at hl 5 rfl) ?_
              refine xm_ti hx hb hE.2.2.1 hS (i + 1 + j) (v := xm_mk (i + 1 + j)) (by decide) rfl (by omega) rfl dX4_alikePairs_50 ?_
              refine lv_iload_n hx hb dX4_alikePairs_51 rfl (lv_at hl 2 rfl) ?_
              refine lv_iand hx hb dX4_alikePairs_52 ?_
              refine lv_icmp_ne (tgt := 59) hx hb dX4_alikePairs_53 (by decide) (fun q53 => ?_) (fun q53 => ?_)
              · refine lv_iinc (v := nI ((i + 1 + j) + 1)) (lv' := [(5, .int (nI ((i + 1 + j) + 1))), (0, .ref x), (1, .int (nI d)), (2, .int (v (20 + d) ^^^ (-1))), (3, .int (ap_in (v (20 + d) ^^^ (-1)) i (ap_to (v (20 + d) ^^^ (-1)) i) j)), (4, .int (nI i))]) hx hb dX4_alikePairs_59 hl (k := 5) rfl (nI_1 (i + 1 + j)) (by decide) rfl (fun lz hl => ?_)
                refine lv_goto (tgt := 30) hx hb dX4_alikePairs_62 (by decide) ?_
                exact ih30 (j + 1) hltj (by omega) (ap_in (v (20 + d) ^^^ (-1)) i (ap_to (v (20 + d) ^^^ (-1)) i) j) (by simp only [ap_in, if_neg q21, if_neg q34, if_neg q53])  lz (lv_sub hl [1, 2, 3, 4, 5, 0] rfl)
              · refine lv_iinc (v := ((ap_in (v (20 + d) ^^^ (-1)) i (ap_to (v (20 + d) ^^^ (-1)) i) j) + 1)) (lv' := [(3, .int ((ap_in (v (20 + d) ^^^ (-1)) i (ap_to (v (20 + d) ^^^ (-1)) i) j) + 1)), (0, .ref x), (1, .int (nI d)), (2, .int (v (20 + d) ^^^ (-1))), (4, .int (nI i)), (5, .int (nI (i + 1 + j)))]) hx hb dX4_alikePairs_56 hl (k := 3) rfl rfl (by decide) rfl (fun lz hl => ?_)
                refine lv_iinc (v := nI ((i + 1 + j) + 1)) (lv' := [(5, .int (nI ((i + 1 + j) + 1))), (3, .int ((ap_in (v (20 + d) ^^^ (-1)) i (ap_to (v (20 + d) ^^^ (-1)) i) j) + 1)), (0, .ref x), (1, .int (nI d)), (2, .int (v (20 + d) ^^^ (-1))), (4, .int (nI i))]) hx hb dX4_alikePairs_59 hl (k := 5) rfl (nI_1 (i + 1 + j)) (by decide) rfl (fun lz hl => ?_)
                refine lv_goto (tgt := 30) hx hb dX4_alikePairs_62 (by decide) ?_
                exact ih30 (j + 1) hltj (by omega) ((ap_in (v (20 + d) ^^^ (-1)) i (ap_to (v (20 + d) ^^^ (-1)) i) j) + 1) (by simp only [ap_in, if_neg q21, if_neg q34, if_pos q53])  lz (lv_sub hl [2, 3, 4, 1, 5, 0] rfl)
        exact L30 ((11 - i) + 1) 0 (by omega) (by omega) (ap_to (v (20 + d) ^^^ (-1)) i) rfl  lz (lv_sub hl [1, 2, 3, 4, 5, 0] rfl)
  exact L17 (12 + 1) 0 (by omega) (by omega) 0 rfl  lz (lv_sub hl [3, 4, 2, 1, 0] rfl)

set_option maxHeartbeats 4000000 in
set_option maxRecDepth 100000 in
theorem c_X4_trialNumber (l : Launch) (dC : Nat → ClassId) (dI : Nat → Nat → Nat) (cI cS cJ : ClassId) (tt : Nat → Nat) (x : Nat) (a : Nat → Nat) (h : Nat → Nat) (tx : Nat → Nat) (g : Nat → Nat) (k : Nat → Nat) (gp : Nat → Int32) (ls : Nat → Int32) (ln : Int32) (pe : Int32) (ne : Int32) (d : Nat) (w0 : Nat) : Met l yX4_trialNumber wsX4_trialNumber ({ frames := 3, cells := 0, slots := 0, locals := 65 } : Room) (va_Pc [.ref x, .int (nI d), .int (nI w0)] (xm_R (dC, dI) cI cS cJ tt [(x, .inr (4, [.ref (a 0), .ref (h 0), .ref (tx 0), .ref (g 0), .ref (k 0)])), ((k 0), .inr (0, [.ref (k 1), .ref (k 2), .ref (k 3), .ref (k 4), .ref (k 5), .ref (k 6), .ref (k 7), .int ln, .int pe, .int ne])), ((k 3), .inl (cI, 6, .inl gp)), ((k 4), .inl (cI, 6, .inl ls))] (d < 6 ∧ w0 ≤ 2))) (k2_QcV (.int (lk_tr gp ls ln pe ne d w0))) 0 0 (fun _ => False) := by
  refine Met.ofW (cc := cX4_trialNumber) (maxL := 3) (ret := (some .int)) (by decide) rfl ?_
  intro p e s m args below meth c s₁ B hml hv
  obtain ⟨rfl, hP, hE, hpre⟩ := hv
  have hx := B.exec
  have hb := B.bytes
  have hr := B.returns
  have hts := atoms_spec (ws := wsX4_trialNumber) B.pre
  have hown : s.vm.findClass RX4 = some m.cls := findClass_of_methodNamed B.named
  have hlocks := B.notSynchronized
  have hK := hE.1
  have hS : va_S (fun _ => False) s.heap s.heap [] := va_S.rf
  have hP : va_P (dC, dI) vwCl [(x, .inr (4, [.ref (a 0), .ref (h 0), .ref (tx 0), .ref (g 0), .ref (k 0)])), ((k 0), .inr (0, [.ref (k 1), .ref (k 2), .ref (k 3), .ref (k 4), .ref (k 5), .ref (k 6), .ref (k 7), .int ln, .int pe, .int ne])), ((k 3), .inl (cI, 6, .inl gp)), ((k 4), .inl (cI, 6, .inl ls))] s.heap := hP
  have hin4 : ∀ w ∈ u_ws RX4 TX4 5, w ∈ wsX4_trialNumber := by decide +kernel
  have hl := lv_entry [.ref x, .int (nI d), .int (nI w0)] (n := 3) (Nat.le_of_ble_eq_true rfl)
  rw [lg_entry_eq]
  generalize (lg_sl [.ref x, .int (nI d), .int (nI w0)] ++ List.replicate (3 - (lg_sl [.ref x, .int (nI d), .int (nI w0)]).length) Slot.unset).toArray = lz at hl ⊢
  have hl : lv_has lz 3 [(0, .ref x), (1, .int (nI d)), (2, .int (nI w0))] := hl
  obtain ⟨hd6, hw⟩ := hpre
  refine lv_iload_n hx hb dX4_trialNumber_0 rfl (lv_at hl 2 rfl) ?_
  rcases (show w0 = 0 ∨ w0 = 1 ∨ w0 = 2 from (by omega)) with rfl | rfl | rfl
  · refine lv_lookup (off := 27) (tgt := 28) hx hb dX4_trialNumber_1 (by decide) (by decide) (by decide) ?_
    refine lv_aload_n hx hb dX4_trialNumber_28 rfl (lv_at hl 0 rfl) ?_
    refine va_get (D := (dC, dI)) (ci := 4) (v := .ref (k 0)) (C := RX4) (T := TX4) (N := 5) hx hb hts hin4 hown hK hP 0 rfl rfl 4 (by decide) (hts (.fieldLink RX4 37 "TurnDigits" "trial" "LTurnDigits$Frame;") (by decide +kernel)) (fun _ h9 => h9) rfl dX4_trialNumber_29 ?_
    refine lv_iload_n hx hb dX4_trialNumber_32 rfl (lv_at hl 1 rfl) ?_
    have hPc := hP.sub (ws' := [((k 0), .inr (0, [.ref (k 1), .ref (k 2), .ref (k 3), .ref (k 4), .ref (k 5), .ref (k 6), .ref (k 7), .int ln, .int pe, .int ne])), ((k 4), .inl (cI, 6, .inl ls))]) [1, 3] rfl
    refine W.callV ((va_runV (As := [.int (nI d)]) (rest := []) ⟨hx, hb, hml, hown, hts⟩ (c_X0_lightOf l dC dI cI cS cJ tt k ls ln pe ne d) (cwV 1 hts gX4_trialNumber_X0_lightOf rfl rfl rfl (by decide +kernel) ⟨Nat.le_of_ble_eq_true rfl, Nat.le_of_ble_eq_true rfl⟩) ⟨xm_Rblind, va_recv hK hPc (ci := 0) (q0 := 0) rfl rfl, fun U hU hW => ⟨rfl, by rw [hU]; exact hPc, hE.go hS (fun _ q => q.elim) hU hW, hd6⟩⟩ rfl rfl hl.1 rfl (lv_room (Nat.le_of_ble_eq_true rfl)) dX4_trialNumber_33 ⟨Nat.zero_le _, Nat.zero_le _⟩).run) ?_
    refine W.eq (g2 := F0 m 36 lz (.int (fm_light ln (ls d)) :: [])) rfl ?_
    exact W.iret (v := fm_light ln (ls d)) hx hb hr (fun t ht hW => ⟨congrArg (fun z => Outcome.returned (some (Value.int z))) (rfl), ht⟩) hS.2.2 dX4_trialNumber_36
  · refine lv_lookup (off := 36) (tgt := 37) hx hb dX4_trialNumber_1 (by decide) (by decide) (by decide) ?_
    refine lv_aload_n hx hb dX4_trialNumber_37 rfl (lv_at hl 0 rfl) ?_
    refine va_get (D := (dC, dI)) (ci := 4) (v := .ref (k 0)) (C := RX4) (T := TX4) (N := 5) hx hb hts hin4 hown hK hP 0 rfl rfl 4 (by decide) (hts (.fieldLink RX4 37 "TurnDigits" "trial" "LTurnDigits$Frame;") (by decide +kernel)) (fun _ h9 => h9) rfl dX4_trialNumber_38 ?_
    have hPc := hP.sub (ws' := [((k 0), .inr (0, [.ref (k 1), .ref (k 2), .ref (k 3), .ref (k 4), .ref (k 5), .ref (k 6), .ref (k 7), .int ln, .int pe, .int ne])), ((k 3), .inl (cI, 6, .inl gp)), ((k 4), .inl (cI, 6, .inl ls))]) [1, 2, 3] rfl
    refine W.callV ((va_runV (As := []) (rest := []) ⟨hx, hb, hml, hown, hts⟩ (c_X0_seen l dC dI cI cS cJ tt k gp ls ln pe ne) (cwV 0 hts gX4_trialNumber_X0_seen rfl rfl rfl (by decide +kernel) ⟨Nat.le_of_ble_eq_true rfl, Nat.le_of_ble_eq_true rfl⟩) ⟨xm_Rblind, va_recv hK hPc (ci := 0) (q0 := 0) rfl rfl, fun U hU hW => ⟨rfl, by rw [hU]; exact hPc, hE.go hS (fun _ q => q.elim) hU hW, trivial⟩⟩ rfl rfl hl.1 rfl (lv_room (Nat.le_of_ble_eq_true rfl)) dX4_trialNumber_41 ⟨Nat.zero_le _, Nat.zero_le _⟩).run) ?_
    refine W.eq (g2 := F0 m 44 lz (.int (fm_cntF (fun j => fm_see (fm_light ln (ls j)) ne (fm_flk (ls j) (gp j) pe)) (fun _ => 0) 6) :: [])) rfl ?_
    exact W.iret (v := fm_cntF (fun j => fm_see (fm_light ln (ls j)) ne (fm_flk (ls j) (gp j) pe)) (fun _ => 0) 6) hx hb hr (fun t ht hW => ⟨congrArg (fun z => Outcome.returned (some (Value.int z))) (rfl), ht⟩) hS.2.2 dX4_trialNumber_44
  · refine lv_lookup (off := 44) (tgt := 45) hx hb dX4_trialNumber_1 (by decide) (by decide) (by decide) ?_
    refine lv_aload_n hx hb dX4_trialNumber_45 rfl (lv_at hl 0 rfl) ?_
    refine va_get (D := (dC, dI)) (ci := 4) (v := .ref (k 0)) (C := RX4) (T := TX4) (N := 5) hx hb hts hin4 hown hK hP 0 rfl rfl 4 (by decide) (hts (.fieldLink RX4 37 "TurnDigits" "trial" "LTurnDigits$Frame;") (by decide +kernel)) (fun _ h9 => h9) rfl dX4_trialNumber_46 ?_
    have hPc := hP.sub (ws' := [((k 0), .inr (0, [.ref (k 1), .ref (k 2), .ref (k 3), .ref (k 4), .ref (k 5), .ref (k 6), .ref (k 7), .int ln, .int pe, .int ne])), ((k 3), .inl (cI, 6, .inl gp)), ((k 4), .inl (cI, 6, .inl ls))]) [1, 2, 3] rfl
    refine W.callV ((va_runV (As := []) (rest := []) ⟨hx, hb, hml, hown, hts⟩ (c_X0_flickering l dC dI cI cS cJ tt k gp ls ln pe ne) (cwV 0 hts gX4_trialNumber_X0_flickering rfl rfl rfl (by decide +kernel) ⟨Nat.le_of_ble_eq_true rfl, Nat.le_of_ble_eq_true rfl⟩) ⟨xm_Rblind, va_recv hK hPc (ci := 0) (q0 := 0) rfl rfl, fun U hU hW => ⟨rfl, by rw [hU]; exact hPc, hE.go hS (fun _ q => q.elim) hU hW, trivial⟩⟩ rfl rfl hl.1 rfl (lv_room (Nat.le_of_ble_eq_true rfl)) dX4_trialNumber_49 ⟨Nat.zero_le _, Nat.zero_le _⟩).run) ?_
    refine W.eq (g2 := F0 m 52 lz (.int (fm_cntF (fun j => fm_flk (ls j) (gp j) pe) (fun _ => 0) 6) :: [])) rfl ?_
    exact W.iret (v := fm_cntF (fun j => fm_flk (ls j) (gp j) pe) (fun _ => 0) 6) hx hb hr (fun t ht hW => ⟨congrArg (fun z => Outcome.returned (some (Value.int z))) (rfl), ht⟩) hS.2.2 dX4_trialNumber_52

set_option maxHeartbeats 4000000 in
set_option maxRecDepth 100000 in
theorem c_X4_property (l : Launch) (dC : Nat → ClassId) (dI : Nat → Nat → Nat) (cI cS cJ : ClassId) (tt : Nat → Nat) (x : Nat) (a : Nat → Nat) (h : Nat → Nat) (tx : Nat → Nat) (g : Nat → Nat) (k : Nat → Nat) (gp : Nat → Int32) (ls : Nat → Int32) (ln : Int32) (pe : Int32) (ne : Int32) (v : Nat → Int32) (d : Nat) (w0 : Nat) : Met l yX4_property wsX4_property ({ frames := 3, cells := 0, slots := 0, locals := 66 } : Room) (va_Pc [.ref x, .int (nI d), .int (nI w0)] (xm_R (dC, dI) cI cS cJ tt [(x, .inr (4, [.ref (a 0), .ref (h 0), .ref (tx 0), .ref (g 0), .ref (k 0)])), ((a 0), .inr (2, [.ref (a 1), .ref (a 2), .ref (a 3), .ref (a 4), .ref (a 5), .ref (a 6), .ref (a 7), .int (v 1), .int (v 0), .int (v 7)])), ((a 1), .inl (cI, 6, .inl (fun j => v (8 + j)))), ((a 2), .inl (cI, 6, .inl (fun j => v (14 + j)))), ((a 3), .inl (cI, 6, .inl (fun j => v (20 + j)))), ((a 4), .inl (cI, 6, .inl (fun j => v (26 + j)))), ((a 5), .inl (cI, 6, .inl (fun j => v (32 + j)))), ((a 6), .inl (cI, 42, .inl (fun j => v (38 + j)))), ((a 7), .inl (cI, 5, .inl (fun j => v (2 + j)))), ((g 0), .inr (0, [.ref (g 1), .ref (g 2), .ref (g 3), .ref (g 4), .ref (g 5), .ref (g 6), .ref (g 7), .int ln, .int pe, .int ne])), ((g 3), .inl (cI, 6, .inl gp)), ((g 4), .inl (cI, 6, .inl ls))] ((d < 6 ∧ fm_ix (v (8 + d)) 12) ∧ w0 ≤ 11))) (k2_QcV (.int (lk_pr gp ls ln pe ne v d w0))) 0 0 (fun _ => False) := by
  refine Met.ofW (cc := cX4_property) (maxL := 3) (ret := (some .int)) (by decide) rfl ?_
  intro p e s m args below meth c s₁ B hml hv
  obtain ⟨rfl, hP, hE, hpre⟩ := hv
  have hx := B.exec
  have hb := B.bytes
  have hr := B.returns
  have hts := atoms_spec (ws := wsX4_property) B.pre
  have hown : s.vm.findClass RX4 = some m.cls := findClass_of_methodNamed B.named
  have hlocks := B.notSynchronized
  have hK := hE.1
  have hS : va_S (fun _ => False) s.heap s.heap [] := va_S.rf
  have hP : va_P (dC, dI) vwCl [(x, .inr (4, [.ref (a 0), .ref (h 0), .ref (tx 0), .ref (g 0), .ref (k 0)])), ((a 0), .inr (2, [.ref (a 1), .ref (a 2), .ref (a 3), .ref (a 4), .ref (a 5), .ref (a 6), .ref (a 7), .int (v 1), .int (v 0), .int (v 7)])), ((a 1), .inl (cI, 6, .inl (fun j => v (8 + j)))), ((a 2), .inl (cI, 6, .inl (fun j => v (14 + j)))), ((a 3), .inl (cI, 6, .inl (fun j => v (20 + j)))), ((a 4), .inl (cI, 6, .inl (fun j => v (26 + j)))), ((a 5), .inl (cI, 6, .inl (fun j => v (32 + j)))), ((a 6), .inl (cI, 42, .inl (fun j => v (38 + j)))), ((a 7), .inl (cI, 5, .inl (fun j => v (2 + j)))), ((g 0), .inr (0, [.ref (g 1), .ref (g 2), .ref (g 3), .ref (g 4), .ref (g 5), .ref (g 6), .ref (g 7), .int ln, .int pe, .int ne])), ((g 3), .inl (cI, 6, .inl gp)), ((g 4), .inl (cI, 6, .inl ls))] s.heap := hP
  have hin0 : ∀ w ∈ u_ws RX0 TX0 10, w ∈ wsX4_property := by decide +kernel
  have hin2 : ∀ w ∈ u_ws RX2 TX2 10, w ∈ wsX4_property := by decide +kernel
  have hin4 : ∀ w ∈ u_ws RX4 TX4 5, w ∈ wsX4_property := by decide +kernel
  have hl := lv_entry [.ref x, .int (nI d), .int (nI w0)] (n := 3) (Nat.le_of_ble_eq_true rfl)
  rw [lg_entry_eq]
  generalize (lg_sl [.ref x, .int (nI d), .int (nI w0)] ++ List.replicate (3 - (lg_sl [.ref x, .int (nI d), .int (nI w0)]).length) Slot.unset).toArray = lz at hl ⊢
  have hl : lv_has lz 3 [(0, .ref x), (1, .int (nI d)), (2, .int (nI w0))] := hl
  obtain ⟨⟨hd6, hsg⟩, hw⟩ := hpre
  refine lv_iload_n hx hb dX4_property_0 rfl (lv_at hl 2 rfl) ?_
  rcases (show w0 = 0 ∨ w0 = 1 ∨ w0 = 2 ∨ w0 = 3 ∨ w0 = 4 ∨ w0 = 5 ∨ w0 = 6 ∨ w0 = 7 ∨ w0 = 8 ∨ w0 = 9 ∨ w0 = 10 ∨ w0 = 11 from (by omega)) with rfl | rfl | rfl | rfl | rfl | rfl | rfl | rfl | rfl | rfl | rfl | rfl
  · refine lv_tableIn (off := 59) (tgt := 60) hx hb dX4_property_1 (by decide) (by decide) (by decide) (by decide) ?_
    refine lv_aload_n hx hb dX4_property_60 rfl (lv_at hl 0 rfl) ?_
    refine va_get (D := (dC, dI)) (ci := 4) (v := .ref (a 0)) (C := RX4) (T := TX4) (N := 5) hx hb hts hin4 hown hK hP 0 rfl rfl 0 (by decide) (hts (.fieldLink RX4 10 "TurnDigits" "state" "LTurnDigits$State;") (by decide +kernel)) (fun _ h9 => h9) rfl dX4_property_61 ?_
    refine va_get (D := (dC, dI)) (ci := 2) (v := .ref (a 1)) (C := RX2) (T := TX2) (N := 10) hx hb hts hin2 hown hK hP 1 rfl rfl 0 (by decide) (hts (.fieldLink RX4 52 "TurnDigits$State" "signs" "[I") (by decide +kernel)) (fun _ h9 => h9) rfl dX4_property_64 ?_
    refine lv_iload_n hx hb dX4_property_67 rfl (lv_at hl 1 rfl) ?_
    refine xm_iald (D := (dC, dI)) hx hb hK hP 2 0 d (v := (fun j => v (8 + j)) d) rfl rfl (by decide) rfl (by omega) rfl dX4_property_68 ?_
    exact W.iret (v := (fun j => v (8 + j)) d) hx hb hr (fun t ht hW => ⟨congrArg (fun z => Outcome.returned (some (Value.int z))) (rfl), ht⟩) hS.2.2 dX4_property_69
  · refine lv_tableIn (off := 69) (tgt := 70) hx hb dX4_property_1 (by decide) (by decide) (by decide) (by decide) ?_
    refine lv_aload_n hx hb dX4_property_70 rfl (lv_at hl 0 rfl) ?_
    refine va_get (D := (dC, dI)) (ci := 4) (v := .ref (a 0)) (C := RX4) (T := TX4) (N := 5) hx hb hts hin4 hown hK hP 0 rfl rfl 0 (by decide) (hts (.fieldLink RX4 10 "TurnDigits" "state" "LTurnDigits$State;") (by decide +kernel)) (fun _ h9 => h9) rfl dX4_property_71 ?_
    refine va_get (D := (dC, dI)) (ci := 2) (v := .ref (a 2)) (C := RX2) (T := TX2) (N := 10) hx hb hts hin2 hown hK hP 1 rfl rfl 1 (by decide) (hts (.fieldLink RX4 56 "TurnDigits$State" "levels" "[I") (by decide +kernel)) (fun _ h9 => h9) rfl dX4_property_74 ?_
    refine lv_iload_n hx hb dX4_property_77 rfl (lv_at hl 1 rfl) ?_
    refine xm_iald (D := (dC, dI)) hx hb hK hP 3 0 d (v := (fun j => v (14 + j)) d) rfl rfl (by decide) rfl (by omega) rfl dX4_property_78 ?_
    exact W.iret (v := (fun j => v (14 + j)) d) hx hb hr (fun t ht hW => ⟨congrArg (fun z => Outcome.returned (some (Value.int z))) (rfl), ht⟩) hS.2.2 dX4_property_79
  · refine lv_tableIn (off := 79) (tgt := 80) hx hb dX4_property_1 (by decide) (by decide) (by decide) (by decide) ?_
    refine lv_aload_n hx hb dX4_property_80 rfl (lv_at hl 0 rfl) ?_
    refine va_get (D := (dC, dI)) (ci := 4) (v := .ref (a 0)) (C := RX4) (T := TX4) (N := 5) hx hb hts hin4 hown hK hP 0 rfl rfl 0 (by decide) (hts (.fieldLink RX4 10 "TurnDigits" "state" "LTurnDigits$State;") (by decide +kernel)) (fun _ h9 => h9) rfl dX4_property_81 ?_
    refine va_get (D := (dC, dI)) (ci := 2) (v := .ref (a 3)) (C := RX2) (T := TX2) (N := 10) hx hb hts hin2 hown hK hP 1 rfl rfl 2 (by decide) (hts (.fieldLink RX4 65 "TurnDigits$State" "burnt" "[I") (by decide +kernel)) (fun _ h9 => h9) rfl dX4_property_84 ?_
    refine lv_iload_n hx hb dX4_property_87 rfl (lv_at hl 1 rfl) ?_
    refine xm_iald (D := (dC, dI)) hx hb hK hP 4 0 d (v := (fun j => v (20 + j)) d) rfl rfl (by decide) rfl (by omega) rfl dX4_property_88 ?_
    exact W.iret (v := (fun j => v (20 + j)) d) hx hb hr (fun t ht hW => ⟨congrArg (fun z => Outcome.returned (some (Value.int z))) (rfl), ht⟩) hS.2.2 dX4_property_89
  · refine lv_tableIn (off := 89) (tgt := 90) hx hb dX4_property_1 (by decide) (by decide) (by decide) (by decide) ?_
    refine lv_aload_n hx hb dX4_property_90 rfl (lv_at hl 0 rfl) ?_
    refine va_get (D := (dC, dI)) (ci := 4) (v := .ref (a 0)) (C := RX4) (T := TX4) (N := 5) hx hb hts hin4 hown hK hP 0 rfl rfl 0 (by decide) (hts (.fieldLink RX4 10 "TurnDigits" "state" "LTurnDigits$State;") (by decide +kernel)) (fun _ h9 => h9) rfl dX4_property_91 ?_
    refine lv_iload_n hx hb dX4_property_94 rfl (lv_at hl 1 rfl) ?_
    have hPc := hP.sub (ws' := [((a 0), .inr (2, [.ref (a 1), .ref (a 2), .ref (a 3), .ref (a 4), .ref (a 5), .ref (a 6), .ref (a 7), .int (v 1), .int (v 0), .int (v 7)])), ((a 1), .inl (cI, 6, .inl (fun j => v (8 + j)))), ((a 3), .inl (cI, 6, .inl (fun j => v (20 + j))))]) [1, 2, 4] rfl
    refine W.callV ((va_runV (As := [.int (nI d)]) (rest := []) ⟨hx, hb, hml, hown, hts⟩ (c_X2_shownSegments l dC dI cI cS cJ tt a (v 1) (v 0) (v 7) (fun j => v (8 + j)) (fun j => v (20 + j)) d) (cwV 1 hts gX4_property_X2_shownSegments rfl rfl rfl (by decide +kernel) ⟨Nat.le_of_ble_eq_true rfl, Nat.le_of_ble_eq_true rfl⟩) ⟨xm_Rblind, va_recv hK hPc (ci := 2) (q0 := 0) rfl rfl, fun U hU hW => ⟨rfl, by rw [hU]; exact hPc, hE.go hS (fun _ q => q.elim) hU hW, ⟨hd6, hsg⟩⟩⟩ rfl rfl hl.1 rfl (lv_room (Nat.le_of_ble_eq_true rfl)) dX4_property_95 ⟨Nat.zero_le _, Nat.zero_le _⟩).run) ?_
    refine W.eq (g2 := F0 m 98 lz (.int (fm_shw ((fun j => v (8 + j)) d) ((fun j => v (20 + j)) d)) :: [])) rfl ?_
    exact W.iret (v := fm_shw ((fun j => v (8 + j)) d) ((fun j => v (20 + j)) d)) hx hb hr (fun t ht hW => ⟨congrArg (fun z => Outcome.returned (some (Value.int z))) (rfl), ht⟩) hS.2.2 dX4_property_98
  · refine lv_tableIn (off := 98) (tgt := 99) hx hb dX4_property_1 (by decide) (by decide) (by decide) (by decide) ?_
    refine lv_aload_n hx hb dX4_property_99 rfl (lv_at hl 0 rfl) ?_
    refine va_get (D := (dC, dI)) (ci := 4) (v := .ref (a 0)) (C := RX4) (T := TX4) (N := 5) hx hb hts hin4 hown hK hP 0 rfl rfl 0 (by decide) (hts (.fieldLink RX4 10 "TurnDigits" "state" "LTurnDigits$State;") (by decide +kernel)) (fun _ h9 => h9) rfl dX4_property_100 ?_
    refine va_get (D := (dC, dI)) (ci := 2) (v := .ref (a 4)) (C := RX2) (T := TX2) (N := 10) hx hb hts hin2 hown hK hP 1 rfl rfl 3 (by decide) (hts (.fieldLink RX4 211 "TurnDigits$State" "credits" "[I") (by decide +kernel)) (fun _ h9 => h9) rfl dX4_property_103 ?_
    refine lv_iload_n hx hb dX4_property_106 rfl (lv_at hl 1 rfl) ?_
    refine xm_iald (D := (dC, dI)) hx hb hK hP 5 0 d (v := (fun j => v (26 + j)) d) rfl rfl (by decide) rfl (by omega) rfl dX4_property_107 ?_
    exact W.iret (v := (fun j => v (26 + j)) d) hx hb hr (fun t ht hW => ⟨congrArg (fun z => Outcome.returned (some (Value.int z))) (rfl), ht⟩) hS.2.2 dX4_property_108
  · refine lv_tableIn (off := 108) (tgt := 109) hx hb dX4_property_1 (by decide) (by decide) (by decide) (by decide) ?_
    refine lv_aload_n hx hb dX4_property_109 rfl (lv_at hl 0 rfl) ?_
    refine va_get (D := (dC, dI)) (ci := 4) (v := .ref (g 0)) (C := RX4) (T := TX4) (N := 5) hx hb hts hin4 hown hK hP 0 rfl rfl 3 (by decide) (hts (.fieldLink RX4 33 "TurnDigits" "frame" "LTurnDigits$Frame;") (by decide +kernel)) (fun _ h9 => h9) rfl dX4_property_110 ?_
    refine lv_iload_n hx hb dX4_property_113 rfl (lv_at hl 1 rfl) ?_
    have hPc := hP.sub (ws' := [((g 0), .inr (0, [.ref (g 1), .ref (g 2), .ref (g 3), .ref (g 4), .ref (g 5), .ref (g 6), .ref (g 7), .int ln, .int pe, .int ne])), ((g 4), .inl (cI, 6, .inl ls))]) [9, 11] rfl
    refine W.callV ((va_runV (As := [.int (nI d)]) (rest := []) ⟨hx, hb, hml, hown, hts⟩ (c_X0_lightOf l dC dI cI cS cJ tt g ls ln pe ne d) (cwV 1 hts gX4_property_X0_lightOf rfl rfl rfl (by decide +kernel) ⟨Nat.le_of_ble_eq_true rfl, Nat.le_of_ble_eq_true rfl⟩) ⟨xm_Rblind, va_recv hK hPc (ci := 0) (q0 := 0) rfl rfl, fun U hU hW => ⟨rfl, by rw [hU]; exact hPc, hE.go hS (fun _ q => q.elim) hU hW, hd6⟩⟩ rfl rfl hl.1 rfl (lv_room (Nat.le_of_ble_eq_true rfl)) dX4_property_114 ⟨Nat.zero_le _, Nat.zero_le _⟩).run) ?_
    refine W.eq (g2 := F0 m 117 lz (.int (fm_light ln (ls d)) :: [])) rfl ?_
    exact W.iret (v := fm_light ln (ls d)) hx hb hr (fun t ht hW => ⟨congrArg (fun z => Outcome.returned (some (Value.int z))) (rfl), ht⟩) hS.2.2 dX4_property_117
  · refine lv_tableIn (off := 117) (tgt := 118) hx hb dX4_property_1 (by decide) (by decide) (by decide) (by decide) ?_
    refine lv_aload_n hx hb dX4_property_118 rfl (lv_at hl 0 rfl) ?_
    refine va_get (D := (dC, dI)) (ci := 4) (v := .ref (g 0)) (C := RX4) (T := TX4) (N := 5) hx hb hts hin4 hown hK hP 0 rfl rfl 3 (by decide) (hts (.fieldLink RX4 33 "TurnDigits" "frame" "LTurnDigits$Frame;") (by decide +kernel)) (fun _ h9 => h9) rfl dX4_property_119 ?_
    refine va_get (D := (dC, dI)) (ci := 0) (v := .ref (g 3)) (C := RX0) (T := TX0) (N := 10) hx hb hts hin0 hown hK hP 9 rfl rfl 2 (by decide) (hts (.fieldLink RX4 217 "TurnDigits$Frame" "gaps" "[I") (by decide +kernel)) (fun _ h9 => h9) rfl dX4_property_122 ?_
    refine lv_iload_n hx hb dX4_property_125 rfl (lv_at hl 1 rfl) ?_
    refine xm_iald (D := (dC, dI)) hx hb hK hP 10 0 d (v := gp d) rfl rfl (by decide) rfl (by omega) rfl dX4_property_126 ?_
    exact W.iret (v := gp d) hx hb hr (fun t ht hW => ⟨congrArg (fun z => Outcome.returned (some (Value.int z))) (rfl), ht⟩) hS.2.2 dX4_property_127
  · refine lv_tableIn (off := 127) (tgt := 128) hx hb dX4_property_1 (by decide) (by decide) (by decide) (by decide) ?_
    refine lv_aload_n hx hb dX4_property_128 rfl (lv_at hl 0 rfl) ?_
    refine va_get (D := (dC, dI)) (ci := 4) (v := .ref (g 0)) (C := RX4) (T := TX4) (N := 5) hx hb hts hin4 hown hK hP 0 rfl rfl 3 (by decide) (hts (.fieldLink RX4 33 "TurnDigits" "frame" "LTurnDigits$Frame;") (by decide +kernel)) (fun _ h9 => h9) rfl dX4_property_129 ?_
    refine lv_iload_n hx hb dX4_property_132 rfl (lv_at hl 1 rfl) ?_
    have hPc := hP.sub (ws' := [((g 0), .inr (0, [.ref (g 1), .ref (g 2), .ref (g 3), .ref (g 4), .ref (g 5), .ref (g 6), .ref (g 7), .int ln, .int pe, .int ne])), ((g 3), .inl (cI, 6, .inl gp)), ((g 4), .inl (cI, 6, .inl ls))]) [9, 10, 11] rfl
    refine W.callV ((va_runV (As := [.int (nI d)]) (rest := []) ⟨hx, hb, hml, hown, hts⟩ (c_X0_flickers l dC dI cI cS cJ tt g gp ls ln pe ne d) (cwV 1 hts gX4_property_X0_flickers rfl rfl rfl (by decide +kernel) ⟨Nat.le_of_ble_eq_true rfl, Nat.le_of_ble_eq_true rfl⟩) ⟨xm_Rblind, va_recv hK hPc (ci := 0) (q0 := 0) rfl rfl, fun U hU hW => ⟨rfl, by rw [hU]; exact hPc, hE.go hS (fun _ q => q.elim) hU hW, hd6⟩⟩ rfl rfl hl.1 rfl (lv_room (Nat.le_of_ble_eq_true rfl)) dX4_property_133 ⟨Nat.zero_le _, Nat.zero_le _⟩).run) ?_
    refine W.eq (g2 := F0 m 136 lz (.int (fm_flk (ls d) (gp d) pe) :: [])) rfl ?_
    refine lv_if_eq (tgt := 143) hx hb dX4_property_136 (by decide) (fun q136 => ?_) (fun q136 => ?_)
    · refine lv_iconst (v := 0) hx hb dX4_property_143 (by decide) ?_
      exact W.iret (v := 0) hx hb hr (fun t ht hW => ⟨congrArg (fun z => Outcome.returned (some (Value.int z))) (by simp only [lk_pr, if_pos q136]), ht⟩) hS.2.2 dX4_property_144
    · refine lv_iconst (v := 1) hx hb dX4_property_139 (by decide) ?_
      refine lv_goto (tgt := 144) hx hb dX4_property_140 (by decide) ?_
      exact W.iret (v := 1) hx hb hr (fun t ht hW => ⟨congrArg (fun z => Outcome.returned (some (Value.int z))) (by simp only [lk_pr, if_neg q136]), ht⟩) hS.2.2 dX4_property_144
  · refine lv_tableIn (off := 144) (tgt := 145) hx hb dX4_property_1 (by decide) (by decide) (by decide) (by decide) ?_
    refine lv_aload_n hx hb dX4_property_145 rfl (lv_at hl 0 rfl) ?_
    refine va_get (D := (dC, dI)) (ci := 4) (v := .ref (g 0)) (C := RX4) (T := TX4) (N := 5) hx hb hts hin4 hown hK hP 0 rfl rfl 3 (by decide) (hts (.fieldLink RX4 33 "TurnDigits" "frame" "LTurnDigits$Frame;") (by decide +kernel)) (fun _ h9 => h9) rfl dX4_property_146 ?_
    refine lv_iload_n hx hb dX4_property_149 rfl (lv_at hl 1 rfl) ?_
    have hPc := hP.sub (ws' := [((g 0), .inr (0, [.ref (g 1), .ref (g 2), .ref (g 3), .ref (g 4), .ref (g 5), .ref (g 6), .ref (g 7), .int ln, .int pe, .int ne])), ((g 3), .inl (cI, 6, .inl gp)), ((g 4), .inl (cI, 6, .inl ls))]) [9, 10, 11] rfl
    refine W.callV ((va_runV (As := [.int (nI d)]) (rest := []) ⟨hx, hb, hml, hown, hts⟩ (c_X0_isSeen l dC dI cI cS cJ tt g gp ls ln pe ne d) (cwV 1 hts gX4_property_X0_isSeen rfl rfl rfl (by decide +kernel) ⟨Nat.le_of_ble_eq_true rfl, Nat.le_of_ble_eq_true rfl⟩) ⟨xm_Rblind, va_recv hK hPc (ci := 0) (q0 := 0) rfl rfl, fun U hU hW => ⟨rfl, by rw [hU]; exact hPc, hE.go hS (fun _ q => q.elim) hU hW, hd6⟩⟩ rfl rfl hl.1 rfl (lv_room (Nat.le_of_ble_eq_true rfl)) dX4_property_150 ⟨Nat.zero_le _, Nat.zero_le _⟩).run) ?_
    refine W.eq (g2 := F0 m 153 lz (.int (fm_see (fm_light ln (ls d)) ne (fm_flk (ls d) (gp d) pe)) :: [])) rfl ?_
    refine xm_topi (y := (lk_see gp ls ln pe ne d)) rfl ?_
    refine lv_if_eq (tgt := 160) hx hb dX4_property_153 (by decide) (fun q153 => ?_) (fun q153 => ?_)
    · refine lv_iconst (v := 0) hx hb dX4_property_160 (by decide) ?_
      exact W.iret (v := 0) hx hb hr (fun t ht hW => ⟨congrArg (fun z => Outcome.returned (some (Value.int z))) (by simp only [lk_pr, if_pos q153]), ht⟩) hS.2.2 dX4_property_161
    · refine lv_iconst (v := 1) hx hb dX4_property_156 (by decide) ?_
      refine lv_goto (tgt := 161) hx hb dX4_property_157 (by decide) ?_
      exact W.iret (v := 1) hx hb hr (fun t ht hW => ⟨congrArg (fun z => Outcome.returned (some (Value.int z))) (by simp only [lk_pr, if_neg q153]), ht⟩) hS.2.2 dX4_property_161
  · refine lv_tableIn (off := 161) (tgt := 162) hx hb dX4_property_1 (by decide) (by decide) (by decide) (by decide) ?_
    refine lv_aload_n hx hb dX4_property_162 rfl (lv_at hl 0 rfl) ?_
    refine lv_iload_n hx hb dX4_property_163 rfl (lv_at hl 1 rfl) ?_
    have hPc := hP.sub (ws' := [(x, .inr (4, [.ref (a 0), .ref (h 0), .ref (tx 0), .ref (g 0), .ref (k 0)])), ((g 0), .inr (0, [.ref (g 1), .ref (g 2), .ref (g 3), .ref (g 4), .ref (g 5), .ref (g 6), .ref (g 7), .int ln, .int pe, .int ne])), ((g 3), .inl (cI, 6, .inl gp)), ((g 4), .inl (cI, 6, .inl ls)), ((a 0), .inr (2, [.ref (a 1), .ref (a 2), .ref (a 3), .ref (a 4), .ref (a 5), .ref (a 6), .ref (a 7), .int (v 1), .int (v 0), .int (v 7)])), ((a 1), .inl (cI, 6, .inl (fun j => v (8 + j)))), ((a 3), .inl (cI, 6, .inl (fun j => v (20 + j))))]) [0, 9, 10, 11, 1, 2, 4] rfl
    refine W.callV ((va_runV (As := [.int (nI d)]) (rest := []) ⟨hx, hb, hml, hown, hts⟩ (c_X4_isClear l dC dI cI cS cJ tt x a h tx g k gp ls ln pe ne v d) (cwV 1 hts gX4_property_X4_isClear rfl rfl rfl (by decide +kernel) ⟨Nat.le_of_ble_eq_true rfl, Nat.le_of_ble_eq_true rfl⟩) ⟨xm_Rblind, va_recv hK hPc (ci := 4) (q0 := 0) rfl rfl, fun U hU hW => ⟨rfl, by rw [hU]; exact hPc, hE.go hS (fun _ q => q.elim) hU hW, ⟨hd6, hsg⟩⟩⟩ rfl rfl hl.1 rfl (lv_room (Nat.le_of_ble_eq_true rfl)) dX4_property_164 ⟨Nat.zero_le _, Nat.zero_le _⟩).run) ?_
    refine W.eq (g2 := F0 m 167 lz (.int (lk_clr gp ls ln pe ne v d) :: [])) rfl ?_
    refine lv_if_eq (tgt := 174) hx hb dX4_property_167 (by decide) (fun q167 => ?_) (fun q167 => ?_)
    · refine lv_iconst (v := 0) hx hb dX4_property_174 (by decide) ?_
      exact W.iret (v := 0) hx hb hr (fun t ht hW => ⟨congrArg (fun z => Outcome.returned (some (Value.int z))) (by simp only [lk_pr, if_pos q167]), ht⟩) hS.2.2 dX4_property_175
    · refine lv_iconst (v := 1) hx hb dX4_property_170 (by decide) ?_
      refine lv_goto (tgt := 175) hx hb dX4_property_171 (by decide) ?_
      exact W.iret (v := 1) hx hb hr (fun t ht hW => ⟨congrArg (fun z => Outcome.returned (some (Value.int z))) (by simp only [lk_pr, if_neg q167]), ht⟩) hS.2.2 dX4_property_175
  · refine lv_tableIn (off := 175) (tgt := 176) hx hb dX4_property_1 (by decide) (by decide) (by decide) (by decide) ?_
    refine lv_aload_n hx hb dX4_property_176 rfl (lv_at hl 0 rfl) ?_
    refine va_get (D := (dC, dI)) (ci := 4) (v := .ref (a 0)) (C := RX4) (T := TX4) (N := 5) hx hb hts hin4 hown hK hP 0 rfl rfl 0 (by decide) (hts (.fieldLink RX4 10 "TurnDigits" "state" "LTurnDigits$State;") (by decide +kernel)) (fun _ h9 => h9) rfl dX4_property_177 ?_
    refine lv_iload_n hx hb dX4_property_180 rfl (lv_at hl 1 rfl) ?_
    have hPc := hP.sub (ws' := [((a 0), .inr (2, [.ref (a 1), .ref (a 2), .ref (a 3), .ref (a 4), .ref (a 5), .ref (a 6), .ref (a 7), .int (v 1), .int (v 0), .int (v 7)])), ((a 1), .inl (cI, 6, .inl (fun j => v (8 + j)))), ((a 3), .inl (cI, 6, .inl (fun j => v (20 + j))))]) [1, 2, 4] rfl
    refine W.callV ((va_runV (As := [.int (nI d)]) (rest := []) ⟨hx, hb, hml, hown, hts⟩ (c_X2_readableSigns l dC dI cI cS cJ tt a (v 1) (v 0) (v 7) (fun j => v (8 + j)) (fun j => v (20 + j)) d) (cwV 1 hts gX4_property_X2_readableSigns rfl rfl rfl (by decide +kernel) ⟨Nat.le_of_ble_eq_true rfl, Nat.le_of_ble_eq_true rfl⟩) ⟨xm_Rblind, va_recv hK hPc (ci := 2) (q0 := 0) rfl rfl, fun U hU hW => ⟨rfl, by rw [hU]; exact hPc, hE.go hS (fun _ q => q.elim) hU hW, ⟨hd6, hsg⟩⟩⟩ rfl rfl hl.1 rfl (lv_room (Nat.le_of_ble_eq_true rfl)) dX4_property_181 ⟨Nat.zero_le _, Nat.zero_le _⟩).run) ?_
    refine W.eq (g2 := F0 m 184 lz (.int (fm_rdb ((fun j => v (20 + j)) d) (fm_shw ((fun j => v (8 + j)) d) ((fun j => v (20 + j)) d)) 12) :: [])) rfl ?_
    exact W.iret (v := fm_rdb ((fun j => v (20 + j)) d) (fm_shw ((fun j => v (8 + j)) d) ((fun j => v (20 + j)) d)) 12) hx hb hr (fun t ht hW => ⟨congrArg (fun z => Outcome.returned (some (Value.int z))) (rfl), ht⟩) hS.2.2 dX4_property_184
  · refine lv_tableOut (tgt := 185) hx hb dX4_property_1 (by decide) (by decide) ?_
    refine lv_aload_n hx hb dX4_property_185 rfl (lv_at hl 0 rfl) ?_
    refine va_get (D := (dC, dI)) (ci := 4) (v := .ref (a 0)) (C := RX4) (T := TX4) (N := 5) hx hb hts hin4 hown hK hP 0 rfl rfl 0 (by decide) (hts (.fieldLink RX4 10 "TurnDigits" "state" "LTurnDigits$State;") (by decide +kernel)) (fun _ h9 => h9) rfl dX4_property_186 ?_
    refine va_get (D := (dC, dI)) (ci := 2) (v := .ref (a 5)) (C := RX2) (T := TX2) (N := 10) hx hb hts hin2 hown hK hP 1 rfl rfl 4 (by decide) (hts (.fieldLink RX4 232 "TurnDigits$State" "litSlots" "[I") (by decide +kernel)) (fun _ h9 => h9) rfl dX4_property_189 ?_
    refine lv_iload_n hx hb dX4_property_192 rfl (lv_at hl 1 rfl) ?_
    refine xm_iald (D := (dC, dI)) hx hb hK hP 6 0 d (v := (fun j => v (32 + j)) d) rfl rfl (by decide) rfl (by omega) rfl dX4_property_193 ?_
    exact W.iret (v := (fun j => v (32 + j)) d) hx hb hr (fun t ht hW => ⟨congrArg (fun z => Outcome.returned (some (Value.int z))) (rfl), ht⟩) hS.2.2 dX4_property_194

set_option maxHeartbeats 4000000 in
set_option maxRecDepth 100000 in
theorem c_X4_total (l : Launch) (dC : Nat → ClassId) (dI : Nat → Nat → Nat) (cI cS cJ : ClassId) (tt : Nat → Nat) (x : Nat) (a : Nat → Nat) (h : Nat → Nat) (tx : Nat → Nat) (g : Nat → Nat) (k : Nat → Nat) (gp : Nat → Int32) (ls : Nat → Int32) (ln : Int32) (pe : Int32) (ne : Int32) (v : Nat → Int32) (ow : Nat → Int32) (li : Nat → Int32) (n : Nat) (o : Int32) (z : Int32) (w0 : Nat) : Met l yX4_total wsX4_total ({ frames := 4, cells := 0, slots := 0, locals := 88 } : Room) (va_Pc [.ref x, .int (nI w0)] (xm_R (dC, dI) cI cS cJ tt [(x, .inr (4, [.ref (a 0), .ref (h 0), .ref (tx 0), .ref (g 0), .ref (k 0)])), ((a 0), .inr (2, [.ref (a 1), .ref (a 2), .ref (a 3), .ref (a 4), .ref (a 5), .ref (a 6), .ref (a 7), .int (v 1), .int (v 0), .int (v 7)])), ((a 1), .inl (cI, 6, .inl (fun j => v (8 + j)))), ((a 2), .inl (cI, 6, .inl (fun j => v (14 + j)))), ((a 3), .inl (cI, 6, .inl (fun j => v (20 + j)))), ((a 4), .inl (cI, 6, .inl (fun j => v (26 + j)))), ((a 5), .inl (cI, 6, .inl (fun j => v (32 + j)))), ((a 6), .inl (cI, 42, .inl (fun j => v (38 + j)))), ((a 7), .inl (cI, 5, .inl (fun j => v (2 + j)))), ((g 0), .inr (0, [.ref (g 1), .ref (g 2), .ref (g 3), .ref (g 4), .ref (g 5), .ref (g 6), .ref (g 7), .int ln, .int pe, .int ne])), ((g 1), .inl (cI, 96, .inl ow)), ((g 2), .inl (cI, 96, .inl li)), ((g 3), .inl (cI, 6, .inl gp)), ((g 4), .inl (cI, 6, .inl ls)), ((h 0), .inr (1, [.ref (h 1), .int o, .int z]))] (((∀ j, j < 6 → fm_ix (v (8 + j)) 12) ∧ ln = nI n ∧ 1 ≤ n ∧ n ≤ 96) ∧ w0 ≤ 10))) (k2_QcV (.int (lk_to ow li gp ls ln pe ne n v z w0))) 0 0 (fun _ => False) := by
  refine Met.ofW (cc := cX4_total) (maxL := 2) (ret := (some .int)) (by decide) rfl ?_
  intro p e s m args below meth c s₁ B hml hv
  obtain ⟨rfl, hP, hE, hpre⟩ := hv
  have hx := B.exec
  have hb := B.bytes
  have hr := B.returns
  have hts := atoms_spec (ws := wsX4_total) B.pre
  have hown : s.vm.findClass RX4 = some m.cls := findClass_of_methodNamed B.named
  have hlocks := B.notSynchronized
  have hK := hE.1
  have hS : va_S (fun _ => False) s.heap s.heap [] := va_S.rf
  have hP : va_P (dC, dI) vwCl [(x, .inr (4, [.ref (a 0), .ref (h 0), .ref (tx 0), .ref (g 0), .ref (k 0)])), ((a 0), .inr (2, [.ref (a 1), .ref (a 2), .ref (a 3), .ref (a 4), .ref (a 5), .ref (a 6), .ref (a 7), .int (v 1), .int (v 0), .int (v 7)])), ((a 1), .inl (cI, 6, .inl (fun j => v (8 + j)))), ((a 2), .inl (cI, 6, .inl (fun j => v (14 + j)))), ((a 3), .inl (cI, 6, .inl (fun j => v (20 + j)))), ((a 4), .inl (cI, 6, .inl (fun j => v (26 + j)))), ((a 5), .inl (cI, 6, .inl (fun j => v (32 + j)))), ((a 6), .inl (cI, 42, .inl (fun j => v (38 + j)))), ((a 7), .inl (cI, 5, .inl (fun j => v (2 + j)))), ((g 0), .inr (0, [.ref (g 1), .ref (g 2), .ref (g 3), .ref (g 4), .ref (g 5), .ref (g 6), .ref (g 7), .int ln, .int pe, .int ne])), ((g 1), .inl (cI, 96, .inl ow)), ((g 2), .inl (cI, 96, .inl li)), ((g 3), .inl (cI, 6, .inl gp)), ((g 4), .inl (cI, 6, .inl ls)), ((h 0), .inr (1, [.ref (h 1), .int o, .int z]))] s.heap := hP
  have hin1 : ∀ w ∈ u_ws RX1 TX1 3, w ∈ wsX4_total := by decide +kernel
  have hin2 : ∀ w ∈ u_ws RX2 TX2 10, w ∈ wsX4_total := by decide +kernel
  have hin4 : ∀ w ∈ u_ws RX4 TX4 5, w ∈ wsX4_total := by decide +kernel
  have hl := lv_entry [.ref x, .int (nI w0)] (n := 2) (Nat.le_of_ble_eq_true rfl)
  rw [lg_entry_eq]
  generalize (lg_sl [.ref x, .int (nI w0)] ++ List.replicate (2 - (lg_sl [.ref x, .int (nI w0)]).length) Slot.unset).toArray = lz at hl ⊢
  have hl : lv_has lz 2 [(0, .ref x), (1, .int (nI w0))] := hl
  obtain ⟨⟨hok, hln, hn1, hn96⟩, hw⟩ := hpre
  refine lv_iload_n hx hb dX4_total_0 rfl (lv_at hl 1 rfl) ?_
  rcases (show w0 = 0 ∨ w0 = 1 ∨ w0 = 2 ∨ w0 = 3 ∨ w0 = 4 ∨ w0 = 5 ∨ w0 = 6 ∨ w0 = 7 ∨ w0 = 8 ∨ w0 = 9 ∨ w0 = 10 from (by omega)) with rfl | rfl | rfl | rfl | rfl | rfl | rfl | rfl | rfl | rfl | rfl
  · refine lv_tableIn (off := 55) (tgt := 56) hx hb dX4_total_1 (by decide) (by decide) (by decide) (by decide) ?_
    refine lv_aload_n hx hb dX4_total_56 rfl (lv_at hl 0 rfl) ?_
    refine va_get (D := (dC, dI)) (ci := 4) (v := .ref (a 0)) (C := RX4) (T := TX4) (N := 5) hx hb hts hin4 hown hK hP 0 rfl rfl 0 (by decide) (hts (.fieldLink RX4 10 "TurnDigits" "state" "LTurnDigits$State;") (by decide +kernel)) (fun _ h9 => h9) rfl dX4_total_57 ?_
    refine va_get (D := (dC, dI)) (ci := 2) (v := .int (v 0)) (C := RX2) (T := TX2) (N := 10) hx hb hts hin2 hown hK hP 1 rfl rfl 8 (by decide) (hts (.fieldLink RX4 99 "TurnDigits$State" "time" "I") (by decide +kernel)) (fun _ h9 => h9) rfl dX4_total_60 ?_
    exact W.iret (v := v 0) hx hb hr (fun t ht hW => ⟨congrArg (fun z => Outcome.returned (some (Value.int z))) (rfl), ht⟩) hS.2.2 dX4_total_63
  · refine lv_tableIn (off := 63) (tgt := 64) hx hb dX4_total_1 (by decide) (by decide) (by decide) (by decide) ?_
    refine lv_aload_n hx hb dX4_total_64 rfl (lv_at hl 0 rfl) ?_
    refine va_get (D := (dC, dI)) (ci := 4) (v := .ref (a 0)) (C := RX4) (T := TX4) (N := 5) hx hb hts hin4 hown hK hP 0 rfl rfl 0 (by decide) (hts (.fieldLink RX4 10 "TurnDigits" "state" "LTurnDigits$State;") (by decide +kernel)) (fun _ h9 => h9) rfl dX4_total_65 ?_
    have hPc := hP.sub (ws' := [((a 0), .inr (2, [.ref (a 1), .ref (a 2), .ref (a 3), .ref (a 4), .ref (a 5), .ref (a 6), .ref (a 7), .int (v 1), .int (v 0), .int (v 7)])), ((a 2), .inl (cI, 6, .inl (fun j => v (14 + j))))]) [1, 3] rfl
    refine W.callV ((va_runV (As := []) (rest := []) ⟨hx, hb, hml, hown, hts⟩ (c_X2_levelSum l dC dI cI cS cJ tt a (v 1) (v 0) (v 7) (fun j => v (14 + j))) (cwV 0 hts gX4_total_X2_levelSum rfl rfl rfl (by decide +kernel) ⟨Nat.le_of_ble_eq_true rfl, Nat.le_of_ble_eq_true rfl⟩) ⟨xm_Rblind, va_recv hK hPc (ci := 2) (q0 := 0) rfl rfl, fun U hU hW => ⟨rfl, by rw [hU]; exact hPc, hE.go hS (fun _ q => q.elim) hU hW, trivial⟩⟩ rfl rfl hl.1 rfl (lv_room (Nat.le_of_ble_eq_true rfl)) dX4_total_68 ⟨Nat.zero_le _, Nat.zero_le _⟩).run) ?_
    refine W.eq (g2 := F0 m 71 lz (.int (fm_sum (fun j => v (14 + j)) 6) :: [])) rfl ?_
    exact W.iret (v := fm_sum (fun j => v (14 + j)) 6) hx hb hr (fun t ht hW => ⟨congrArg (fun z => Outcome.returned (some (Value.int z))) (rfl), ht⟩) hS.2.2 dX4_total_71
  · refine lv_tableIn (off := 71) (tgt := 72) hx hb dX4_total_1 (by decide) (by decide) (by decide) (by decide) ?_
    refine lv_aload_n hx hb dX4_total_72 rfl (lv_at hl 0 rfl) ?_
    refine va_get (D := (dC, dI)) (ci := 4) (v := .ref (g 0)) (C := RX4) (T := TX4) (N := 5) hx hb hts hin4 hown hK hP 0 rfl rfl 3 (by decide) (hts (.fieldLink RX4 33 "TurnDigits" "frame" "LTurnDigits$Frame;") (by decide +kernel)) (fun _ h9 => h9) rfl dX4_total_73 ?_
    have hPc := hP.sub (ws' := [((g 0), .inr (0, [.ref (g 1), .ref (g 2), .ref (g 3), .ref (g 4), .ref (g 5), .ref (g 6), .ref (g 7), .int ln, .int pe, .int ne])), ((g 2), .inl (cI, 96, .inl li))]) [9, 11] rfl
    refine W.callV ((va_runV (As := []) (rest := []) ⟨hx, hb, hml, hown, hts⟩ (c_X0_darkSlots l dC dI cI cS cJ tt g li ln pe ne n) (cwV 0 hts gX4_total_X0_darkSlots rfl rfl rfl (by decide +kernel) ⟨Nat.le_of_ble_eq_true rfl, Nat.le_of_ble_eq_true rfl⟩) ⟨xm_Rblind, va_recv hK hPc (ci := 0) (q0 := 0) rfl rfl, fun U hU hW => ⟨rfl, by rw [hU]; exact hPc, hE.go hS (fun _ q => q.elim) hU hW, ⟨hln, hn96⟩⟩⟩ rfl rfl hl.1 rfl (lv_room (Nat.le_of_ble_eq_true rfl)) dX4_total_76 ⟨Nat.zero_le _, Nat.zero_le _⟩).run) ?_
    refine W.eq (g2 := F0 m 79 lz (.int (fm_cntT li (fun _ => -1) n) :: [])) rfl ?_
    exact W.iret (v := fm_cntT li (fun _ => -1) n) hx hb hr (fun t ht hW => ⟨congrArg (fun z => Outcome.returned (some (Value.int z))) (rfl), ht⟩) hS.2.2 dX4_total_79
  · refine lv_tableIn (off := 79) (tgt := 80) hx hb dX4_total_1 (by decide) (by decide) (by decide) (by decide) ?_
    refine lv_aload_n hx hb dX4_total_80 rfl (lv_at hl 0 rfl) ?_
    refine va_get (D := (dC, dI)) (ci := 4) (v := .ref (g 0)) (C := RX4) (T := TX4) (N := 5) hx hb hts hin4 hown hK hP 0 rfl rfl 3 (by decide) (hts (.fieldLink RX4 33 "TurnDigits" "frame" "LTurnDigits$Frame;") (by decide +kernel)) (fun _ h9 => h9) rfl dX4_total_81 ?_
    have hPc := hP.sub (ws' := [((g 0), .inr (0, [.ref (g 1), .ref (g 2), .ref (g 3), .ref (g 4), .ref (g 5), .ref (g 6), .ref (g 7), .int ln, .int pe, .int ne])), ((g 1), .inl (cI, 96, .inl ow))]) [9, 10] rfl
    refine W.callV ((va_runV (As := []) (rest := []) ⟨hx, hb, hml, hown, hts⟩ (c_X0_changes l dC dI cI cS cJ tt g ow ln pe ne (n - 1)) (cwV 0 hts gX4_total_X0_changes rfl rfl rfl (by decide +kernel) ⟨Nat.le_of_ble_eq_true rfl, Nat.le_of_ble_eq_true rfl⟩) ⟨xm_Rblind, va_recv hK hPc (ci := 0) (q0 := 0) rfl rfl, fun U hU hW => ⟨rfl, by rw [hU]; exact hPc, hE.go hS (fun _ q => q.elim) hU hW, (by rw [show n - 1 + 1 = n by omega]; exact ⟨hln, hn96⟩)⟩⟩ rfl rfl hl.1 rfl (lv_room (Nat.le_of_ble_eq_true rfl)) dX4_total_84 ⟨Nat.zero_le _, Nat.zero_le _⟩).run) ?_
    refine W.eq (g2 := F0 m 87 lz (.int (fm_chg ow (n - 1)) :: [])) rfl ?_
    exact W.iret (v := fm_chg ow (n - 1)) hx hb hr (fun t ht hW => ⟨congrArg (fun z => Outcome.returned (some (Value.int z))) (rfl), ht⟩) hS.2.2 dX4_total_87
  · refine lv_tableIn (off := 87) (tgt := 88) hx hb dX4_total_1 (by decide) (by decide) (by decide) (by decide) ?_
    refine lv_aload_n hx hb dX4_total_88 rfl (lv_at hl 0 rfl) ?_
    refine va_get (D := (dC, dI)) (ci := 4) (v := .ref (g 0)) (C := RX4) (T := TX4) (N := 5) hx hb hts hin4 hown hK hP 0 rfl rfl 3 (by decide) (hts (.fieldLink RX4 33 "TurnDigits" "frame" "LTurnDigits$Frame;") (by decide +kernel)) (fun _ h9 => h9) rfl dX4_total_89 ?_
    have hPc := hP.sub (ws' := [((g 0), .inr (0, [.ref (g 1), .ref (g 2), .ref (g 3), .ref (g 4), .ref (g 5), .ref (g 6), .ref (g 7), .int ln, .int pe, .int ne])), ((g 3), .inl (cI, 6, .inl gp)), ((g 4), .inl (cI, 6, .inl ls))]) [9, 12, 13] rfl
    refine W.callV ((va_runV (As := []) (rest := []) ⟨hx, hb, hml, hown, hts⟩ (c_X0_flickering l dC dI cI cS cJ tt g gp ls ln pe ne) (cwV 0 hts gX4_total_X0_flickering rfl rfl rfl (by decide +kernel) ⟨Nat.le_of_ble_eq_true rfl, Nat.le_of_ble_eq_true rfl⟩) ⟨xm_Rblind, va_recv hK hPc (ci := 0) (q0 := 0) rfl rfl, fun U hU hW => ⟨rfl, by rw [hU]; exact hPc, hE.go hS (fun _ q => q.elim) hU hW, trivial⟩⟩ rfl rfl hl.1 rfl (lv_room (Nat.le_of_ble_eq_true rfl)) dX4_total_92 ⟨Nat.zero_le _, Nat.zero_le _⟩).run) ?_
    refine W.eq (g2 := F0 m 95 lz (.int (fm_cntF (fun j => fm_flk (ls j) (gp j) pe) (fun _ => 0) 6) :: [])) rfl ?_
    exact W.iret (v := fm_cntF (fun j => fm_flk (ls j) (gp j) pe) (fun _ => 0) 6) hx hb hr (fun t ht hW => ⟨congrArg (fun z => Outcome.returned (some (Value.int z))) (rfl), ht⟩) hS.2.2 dX4_total_95
  · refine lv_tableIn (off := 95) (tgt := 96) hx hb dX4_total_1 (by decide) (by decide) (by decide) (by decide) ?_
    refine lv_aload_n hx hb dX4_total_96 rfl (lv_at hl 0 rfl) ?_
    refine va_get (D := (dC, dI)) (ci := 4) (v := .ref (g 0)) (C := RX4) (T := TX4) (N := 5) hx hb hts hin4 hown hK hP 0 rfl rfl 3 (by decide) (hts (.fieldLink RX4 33 "TurnDigits" "frame" "LTurnDigits$Frame;") (by decide +kernel)) (fun _ h9 => h9) rfl dX4_total_97 ?_
    have hPc := hP.sub (ws' := [((g 0), .inr (0, [.ref (g 1), .ref (g 2), .ref (g 3), .ref (g 4), .ref (g 5), .ref (g 6), .ref (g 7), .int ln, .int pe, .int ne])), ((g 3), .inl (cI, 6, .inl gp)), ((g 4), .inl (cI, 6, .inl ls))]) [9, 12, 13] rfl
    refine W.callV ((va_runV (As := []) (rest := []) ⟨hx, hb, hml, hown, hts⟩ (c_X0_seen l dC dI cI cS cJ tt g gp ls ln pe ne) (cwV 0 hts gX4_total_X0_seen rfl rfl rfl (by decide +kernel) ⟨Nat.le_of_ble_eq_true rfl, Nat.le_of_ble_eq_true rfl⟩) ⟨xm_Rblind, va_recv hK hPc (ci := 0) (q0 := 0) rfl rfl, fun U hU hW => ⟨rfl, by rw [hU]; exact hPc, hE.go hS (fun _ q => q.elim) hU hW, trivial⟩⟩ rfl rfl hl.1 rfl (lv_room (Nat.le_of_ble_eq_true rfl)) dX4_total_100 ⟨Nat.zero_le _, Nat.zero_le _⟩).run) ?_
    refine W.eq (g2 := F0 m 103 lz (.int (fm_cntF (fun j => fm_see (fm_light ln (ls j)) ne (fm_flk (ls j) (gp j) pe)) (fun _ => 0) 6) :: [])) rfl ?_
    exact W.iret (v := fm_cntF (fun j => fm_see (fm_light ln (ls j)) ne (fm_flk (ls j) (gp j) pe)) (fun _ => 0) 6) hx hb hr (fun t ht hW => ⟨congrArg (fun z => Outcome.returned (some (Value.int z))) (rfl), ht⟩) hS.2.2 dX4_total_103
  · refine lv_tableIn (off := 103) (tgt := 104) hx hb dX4_total_1 (by decide) (by decide) (by decide) (by decide) ?_
    refine lv_aload_n hx hb dX4_total_104 rfl (lv_at hl 0 rfl) ?_
    have hPc := hP.sub (ws' := [(x, .inr (4, [.ref (a 0), .ref (h 0), .ref (tx 0), .ref (g 0), .ref (k 0)])), ((g 0), .inr (0, [.ref (g 1), .ref (g 2), .ref (g 3), .ref (g 4), .ref (g 5), .ref (g 6), .ref (g 7), .int ln, .int pe, .int ne])), ((g 3), .inl (cI, 6, .inl gp)), ((g 4), .inl (cI, 6, .inl ls)), ((a 0), .inr (2, [.ref (a 1), .ref (a 2), .ref (a 3), .ref (a 4), .ref (a 5), .ref (a 6), .ref (a 7), .int (v 1), .int (v 0), .int (v 7)])), ((a 1), .inl (cI, 6, .inl (fun j => v (8 + j)))), ((a 3), .inl (cI, 6, .inl (fun j => v (20 + j))))]) [0, 9, 12, 13, 1, 2, 4] rfl
    refine W.callV ((va_runV (As := []) (rest := []) ⟨hx, hb, hml, hown, hts⟩ (c_X4_clearDigits l dC dI cI cS cJ tt x a h tx g k gp ls ln pe ne v) (cwV 0 hts gX4_total_X4_clearDigits rfl rfl rfl (by decide +kernel) ⟨Nat.le_of_ble_eq_true rfl, Nat.le_of_ble_eq_true rfl⟩) ⟨xm_Rblind, va_recv hK hPc (ci := 4) (q0 := 0) rfl rfl, fun U hU hW => ⟨rfl, by rw [hU]; exact hPc, hE.go hS (fun _ q => q.elim) hU hW, hok⟩⟩ rfl rfl hl.1 rfl (lv_room (Nat.le_of_ble_eq_true rfl)) dX4_total_105 ⟨Nat.zero_le _, Nat.zero_le _⟩).run) ?_
    refine W.eq (g2 := F0 m 108 lz (.int (fm_cntF (fun j => lk_clr gp ls ln pe ne v j) (fun _ => 0) 6) :: [])) rfl ?_
    exact W.iret (v := fm_cntF (fun j => lk_clr gp ls ln pe ne v j) (fun _ => 0) 6) hx hb hr (fun t ht hW => ⟨congrArg (fun z => Outcome.returned (some (Value.int z))) (rfl), ht⟩) hS.2.2 dX4_total_108
  · refine lv_tableIn (off := 108) (tgt := 109) hx hb dX4_total_1 (by decide) (by decide) (by decide) (by decide) ?_
    refine lv_aload_n hx hb dX4_total_109 rfl (lv_at hl 0 rfl) ?_
    refine va_get (D := (dC, dI)) (ci := 4) (v := .ref (a 0)) (C := RX4) (T := TX4) (N := 5) hx hb hts hin4 hown hK hP 0 rfl rfl 0 (by decide) (hts (.fieldLink RX4 10 "TurnDigits" "state" "LTurnDigits$State;") (by decide +kernel)) (fun _ h9 => h9) rfl dX4_total_110 ?_
    have hPc := hP.sub (ws' := [((a 0), .inr (2, [.ref (a 1), .ref (a 2), .ref (a 3), .ref (a 4), .ref (a 5), .ref (a 6), .ref (a 7), .int (v 1), .int (v 0), .int (v 7)])), ((a 3), .inl (cI, 6, .inl (fun j => v (20 + j))))]) [1, 4] rfl
    refine W.callV ((va_runV (As := []) (rest := []) ⟨hx, hb, hml, hown, hts⟩ (c_X2_burntSegments l dC dI cI cS cJ tt a (v 1) (v 0) (v 7) (fun j => v (20 + j))) (cwV 0 hts gX4_total_X2_burntSegments rfl rfl rfl (by decide +kernel) ⟨Nat.le_of_ble_eq_true rfl, Nat.le_of_ble_eq_true rfl⟩) ⟨xm_Rblind, va_recv hK hPc (ci := 2) (q0 := 0) rfl rfl, fun U hU hW => ⟨rfl, by rw [hU]; exact hPc, hE.go hS (fun _ q => q.elim) hU hW, trivial⟩⟩ rfl rfl hl.1 rfl (lv_room (Nat.le_of_ble_eq_true rfl)) dX4_total_113 ⟨Nat.zero_le _, Nat.zero_le _⟩).run) ?_
    refine W.eq (g2 := F0 m 116 lz (.int (fm_sum (fun j => fm_bc ((fun j => v (20 + j)) j)) 6) :: [])) rfl ?_
    exact W.iret (v := fm_sum (fun j => fm_bc ((fun j => v (20 + j)) j)) 6) hx hb hr (fun t ht hW => ⟨congrArg (fun z => Outcome.returned (some (Value.int z))) (rfl), ht⟩) hS.2.2 dX4_total_116
  · refine lv_tableIn (off := 116) (tgt := 117) hx hb dX4_total_1 (by decide) (by decide) (by decide) (by decide) ?_
    refine lv_aload_n hx hb dX4_total_117 rfl (lv_at hl 0 rfl) ?_
    refine va_get (D := (dC, dI)) (ci := 4) (v := .ref (a 0)) (C := RX4) (T := TX4) (N := 5) hx hb hts hin4 hown hK hP 0 rfl rfl 0 (by decide) (hts (.fieldLink RX4 10 "TurnDigits" "state" "LTurnDigits$State;") (by decide +kernel)) (fun _ h9 => h9) rfl dX4_total_118 ?_
    refine va_get (D := (dC, dI)) (ci := 2) (v := .int (v 1)) (C := RX2) (T := TX2) (N := 10) hx hb hts hin2 hown hK hP 1 rfl rfl 7 (by decide) (hts (.fieldLink RX4 75 "TurnDigits$State" "ambientLight" "I") (by decide +kernel)) (fun _ h9 => h9) rfl dX4_total_121 ?_
    exact W.iret (v := v 1) hx hb hr (fun t ht hW => ⟨congrArg (fun z => Outcome.returned (some (Value.int z))) (rfl), ht⟩) hS.2.2 dX4_total_124
  · refine lv_tableIn (off := 124) (tgt := 125) hx hb dX4_total_1 (by decide) (by decide) (by decide) (by decide) ?_
    refine lv_aload_n hx hb dX4_total_125 rfl (lv_at hl 0 rfl) ?_
    refine va_get (D := (dC, dI)) (ci := 4) (v := .ref (a 0)) (C := RX4) (T := TX4) (N := 5) hx hb hts hin4 hown hK hP 0 rfl rfl 0 (by decide) (hts (.fieldLink RX4 10 "TurnDigits" "state" "LTurnDigits$State;") (by decide +kernel)) (fun _ h9 => h9) rfl dX4_total_126 ?_
    refine va_get (D := (dC, dI)) (ci := 2) (v := .int (v 7)) (C := RX2) (T := TX2) (N := 10) hx hb hts hin2 hown hK hP 1 rfl rfl 9 (by decide) (hts (.fieldLink RX4 256 "TurnDigits$State" "ahead" "I") (by decide +kernel)) (fun _ h9 => h9) rfl dX4_total_129 ?_
    exact W.iret (v := v 7) hx hb hr (fun t ht hW => ⟨congrArg (fun z => Outcome.returned (some (Value.int z))) (rfl), ht⟩) hS.2.2 dX4_total_132
  · refine lv_tableOut (tgt := 133) hx hb dX4_total_1 (by decide) (by decide) ?_
    refine lv_aload_n hx hb dX4_total_133 rfl (lv_at hl 0 rfl) ?_
    refine va_get (D := (dC, dI)) (ci := 4) (v := .ref (h 0)) (C := RX4) (T := TX4) (N := 5) hx hb hts hin4 hown hK hP 0 rfl rfl 1 (by decide) (hts (.fieldLink RX4 19 "TurnDigits" "history" "LTurnDigits$History;") (by decide +kernel)) (fun _ h9 => h9) rfl dX4_total_134 ?_
    refine va_get (D := (dC, dI)) (ci := 1) (v := .int z) (C := RX1) (T := TX1) (N := 3) hx hb hts hin1 hown hK hP 14 rfl rfl 2 (by decide) (hts (.fieldLink RX4 140 "TurnDigits$History" "size" "I") (by decide +kernel)) (fun _ h9 => h9) rfl dX4_total_137 ?_
    exact W.iret (v := z) hx hb hr (fun t ht hW => ⟨congrArg (fun z => Outcome.returned (some (Value.int z))) (rfl), ht⟩) hS.2.2 dX4_total_140

set_option maxHeartbeats 4000000 in
set_option maxRecDepth 100000 in
theorem c_X4_numberLength (l : Launch) (dC : Nat → ClassId) (dI : Nat → Nat → Nat) (cI cS cJ : ClassId) (tt : Nat → Nat) (x0 : Int32) : Met l yX4_numberLength wsX4_numberLength ({ frames := 1, cells := 0, slots := 0, locals := 20 } : Room) (va_Pc [.int x0] (xm_R (dC, dI) cI cS cJ tt [] (True))) (k2_QcV (.int (nI (nl_n x0)))) 0 0 (fun _ => False) := by
  refine Met.ofW (cc := cX4_numberLength) (maxL := 4) (ret := (some .int)) (by decide) rfl ?_
  intro p e s m args below meth c s₁ B hml hv
  obtain ⟨rfl, hP, hE, hpre⟩ := hv
  have hx := B.exec
  have hb := B.bytes
  have hr := B.returns
  have hts := atoms_spec (ws := wsX4_numberLength) B.pre
  have hown : s.vm.findClass RX4 = some m.cls := findClass_of_methodNamed B.named
  have hlocks := B.notSynchronized
  have hK := hE.1
  have hS : va_S (fun _ => False) s.heap s.heap [] := va_S.rf
  have hP : va_P (dC, dI) vwCl [] s.heap := hP
  have hl := lv_entry [.int x0] (n := 4) (Nat.le_of_ble_eq_true rfl)
  rw [lg_entry_eq]
  generalize (lg_sl [.int x0] ++ List.replicate (4 - (lg_sl [.int x0]).length) Slot.unset).toArray = lz at hl ⊢
  have hl : lv_has lz 4 [(0, .int x0)] := hl
  have J9 : ∀ (l0 : Nat), (l0 = nl_0 x0) → ∀ (lz : Array Slot), lv_has lz 4 [(0, .int x0)] → W p l e (headSpec wsX4_numberLength ({ frames := 1, cells := 0, slots := 0, locals := 20 } : Room)).room s m ([.int x0] : List Value).toArray below meth c s.heap [] 0 0 (MQ below (k2_QcV (.int (nI (nl_n x0)))) ([.int x0] : List Value).toArray s 0 0 (fun _ => False)) (F0 m 9 lz [.int (nI l0)]) := by
    intro l0 el0 lz hl
    subst el0
    refine lv_istore_n (lv' := [(1, .int (nI (nl_0 x0))), (0, .int x0)]) hx hb dX4_numberLength_9 rfl hl (by decide) rfl (fun lz hl => ?_)
    refine lv_iload_n hx hb dX4_numberLength_10 rfl (lv_at hl 1 rfl) ?_
    have hPc := hP.sub (ws' := []) [] rfl
    refine W.callV ((va_runS (As := [.int x0]) (rest := []) ⟨hx, hb, hml, hown, hts⟩ (c_X4_magnitude l dC dI cI cS cJ tt x0) (va_cwS 1 hts gX4_numberLength_X4_magnitude rfl rfl rfl (by decide +kernel) ⟨Nat.le_of_ble_eq_true rfl, Nat.le_of_ble_eq_true rfl⟩) ⟨xm_Rblind, fun U hU hW => ⟨rfl, by rw [hU]; exact hPc, hE.go hS (fun _ q => q.elim) hU hW, trivial⟩⟩ rfl rfl hl.1 rfl (lv_room (Nat.le_of_ble_eq_true rfl)) dX4_numberLength_11 ⟨Nat.zero_le _, Nat.zero_le _⟩).run) ?_
    refine W.eq (g2 := F0 m 14 lz (.long (fm_mag x0) :: [])) rfl ?_
    refine lv_ldc2 (v := 10) hx hb hown (hts (.constantLong RX4 290 10) (by decide +kernel)) dX4_numberLength_14 ?_
    refine lv_ldiv hx hb dX4_numberLength_17 (by decide) ?_
    refine lv_lstore_n (lv' := [(2, .long ((fm_mag x0) / 10)), (1, .int (nI (nl_0 x0))), (0, .int x0)]) hx hb dX4_numberLength_18 rfl hl (by decide) rfl (fun lz hl => ?_)
    have L19 : ∀ (zz i : Nat), i ≤ 7 → 7 + 1 ≤ i + zz → ∀ (x2 : Int64), x2 = nl_d (fm_mag x0) i → (nl_0 x0 + i ≤ 7) → (nl_to (fm_mag x0) (nl_0 x0) (7 - nl_0 x0 - i) i = nl_n x0) → ∀ (lz : Array Slot), lv_has lz 4 [(0, .int x0), (1, .int (nI (nl_0 x0 + i))), (2, .long x2)] → W p l e (headSpec wsX4_numberLength ({ frames := 1, cells := 0, slots := 0, locals := 20 } : Room)).room s m ([.int x0] : List Value).toArray below meth c s.heap [] 0 0 (MQ below (k2_QcV (.int (nI (nl_n x0)))) ([.int x0] : List Value).toArray s 0 0 (fun _ => False)) (F0 m 19 lz []) := by
      intro zz
      induction zz with
      | zero => intro i hii hni; exact absurd hni (by omega)
      | succ zz ih19 =>
        intro i hii hni x2 e_x2 hfu hst lz hl
        subst e_x2
        refine lv_lload_n hx hb dX4_numberLength_19 rfl (lv_at hl 2 rfl) ?_
        refine lv_lconst (v := 0) hx hb dX4_numberLength_20 (by decide) ?_
        refine W.lcmp hx hb dX4_numberLength_21 ?_
        refine lv_if_le (tgt := 43) hx hb dX4_numberLength_22 (by decide) (fun q22 => ?_) (fun q22 => ?_)
        · refine lv_iload_n hx hb dX4_numberLength_43 rfl (lv_at hl 1 rfl) ?_
          exact W.iret (v := nI (nl_0 x0 + i)) hx hb hr (fun t ht hW => ⟨congrArg (fun z => Outcome.returned (some (Value.int z))) (by rcases Nat.lt_or_ge (nl_0 x0 + i) 7 with h7 | h7; (rw [← hst, nl_to_s (m := fm_mag x0) (l0 := nl_0 x0) (i := i) h7, if_pos q22]); (rw [← hst, show 7 - nl_0 x0 - i = 0 by omega]; rfl)), ht⟩) hS.2.2 dX4_numberLength_44
        · refine lv_iload_n hx hb dX4_numberLength_25 rfl (lv_at hl 1 rfl) ?_
          refine lv_bipush (v := 6) hx hb dX4_numberLength_26 (by decide) ?_
          refine lv_icmp_gt (tgt := 43) hx hb dX4_numberLength_28 (by decide) (fun q28 => ?_) (fun q28 => ?_)
          · have h7 : nl_0 x0 + i = 7 := by have h := (nI_ltI (a := 6) (b := nl_0 x0 + i) (by decide) (by omega)).mp q28; omega
            refine lv_iload_n hx hb dX4_numberLength_43 rfl (lv_at hl 1 rfl) ?_
            exact W.iret (v := nI (nl_0 x0 + i)) hx hb hr (fun t ht hW => ⟨congrArg (fun z => Outcome.returned (some (Value.int z))) (by rw [← hst, show 7 - nl_0 x0 - i = 0 by omega]; rfl), ht⟩) hS.2.2 dX4_numberLength_44
          · have h7 : nl_0 x0 + i < 7 := by have h := (not_congr (nI_ltI (a := 6) (b := nl_0 x0 + i) (by decide) (by omega))).mp q28; omega
            refine lv_lload_n hx hb dX4_numberLength_31 rfl (lv_at hl 2 rfl) ?_
            refine lv_ldc2 (v := 10) hx hb hown (hts (.constantLong RX4 290 10) (by decide +kernel)) dX4_numberLength_32 ?_
            refine lv_ldiv hx hb dX4_numberLength_35 (by decide) ?_
            refine lv_lstore_n (lv' := [(2, .long ((nl_d (fm_mag x0) i) / 10)), (0, .int x0), (1, .int (nI (nl_0 x0 + i)))]) hx hb dX4_numberLength_36 rfl hl (by decide) rfl (fun lz hl => ?_)
            refine lv_iinc (v := nI ((nl_0 x0 + i) + 1)) (lv' := [(1, .int (nI ((nl_0 x0 + i) + 1))), (2, .long ((nl_d (fm_mag x0) i) / 10)), (0, .int x0)]) hx hb dX4_numberLength_37 hl (k := 2) rfl (nI_1 (nl_0 x0 + i)) (by decide) rfl (fun lz hl => ?_)
            refine lv_goto (tgt := 19) hx hb dX4_numberLength_40 (by decide) ?_
            exact ih19 (i + 1) (by omega) (by omega) ((nl_d (fm_mag x0) i) / 10) rfl (by omega) (by rw [← hst, nl_to_s (m := fm_mag x0) (l0 := nl_0 x0) (i := i) (by omega), if_neg q22]) lz (lv_sub hl [2, 0, 1] rfl)
    exact L19 (7 + 1) 0 (by omega) (by omega) ((fm_mag x0) / 10) rfl (by have := nl_0_in x0; omega) rfl lz (lv_sub hl [2, 1, 0] rfl)
  refine lv_iload_n hx hb dX4_numberLength_0 rfl (lv_at hl 0 rfl) ?_
  refine lv_if_ge (tgt := 8) hx hb dX4_numberLength_1 (by decide) (fun q1 => ?_) (fun q1 => ?_)
  · refine lv_iconst (v := 1) hx hb dX4_numberLength_8 (by decide) ?_
    exact J9 1 (by simp only [nl_0, if_pos q1]) lz (lv_sub hl [0] rfl)
  · refine lv_iconst (v := 2) hx hb dX4_numberLength_4 (by decide) ?_
    refine lv_goto (tgt := 9) hx hb dX4_numberLength_5 (by decide) ?_
    exact J9 2 (by simp only [nl_0, if_neg q1]) lz (lv_sub hl [0] rfl)

set_option maxHeartbeats 4000000 in
set_option maxRecDepth 100000 in
theorem c_X4_clearNumber (l : Launch) (dC : Nat → ClassId) (dI : Nat → Nat → Nat) (cI cS cJ : ClassId) (tt : Nat → Nat) (x : Nat) (a : Nat → Nat) (h : Nat → Nat) (tx : Nat → Nat) (g : Nat → Nat) (k : Nat → Nat) (gp : Nat → Int32) (ls : Nat → Int32) (ln : Int32) (pe : Int32) (ne : Int32) (v : Nat → Int32) : Met l yX4_clearNumber wsX4_clearNumber ({ frames := 3, cells := 0, slots := 0, locals := 66 } : Room) (va_Pc [.ref x] (xm_R (dC, dI) cI cS cJ tt [(x, .inr (4, [.ref (a 0), .ref (h 0), .ref (tx 0), .ref (g 0), .ref (k 0)])), ((g 0), .inr (0, [.ref (g 1), .ref (g 2), .ref (g 3), .ref (g 4), .ref (g 5), .ref (g 6), .ref (g 7), .int ln, .int pe, .int ne])), ((g 3), .inl (cI, 6, .inl gp)), ((g 4), .inl (cI, 6, .inl ls)), ((a 0), .inr (2, [.ref (a 1), .ref (a 2), .ref (a 3), .ref (a 4), .ref (a 5), .ref (a 6), .ref (a 7), .int (v 1), .int (v 0), .int (v 7)])), ((a 1), .inl (cI, 6, .inl (fun j => v (8 + j)))), ((a 3), .inl (cI, 6, .inl (fun j => v (20 + j))))] (∀ j, j < 6 → fm_ix (v (8 + j)) 12))) (k2_QcV (.int (cn_all (lk_clr gp ls ln pe ne v) v))) 0 0 (fun _ => False) := by
  refine Met.ofW (cc := cX4_clearNumber) (maxL := 6) (ret := (some .int)) (by decide) rfl ?_
  intro p e s m args below meth c s₁ B hml hv
  obtain ⟨rfl, hP, hE, hpre⟩ := hv
  have hx := B.exec
  have hb := B.bytes
  have hr := B.returns
  have hts := atoms_spec (ws := wsX4_clearNumber) B.pre
  have hown : s.vm.findClass RX4 = some m.cls := findClass_of_methodNamed B.named
  have hlocks := B.notSynchronized
  have hK := hE.1
  have hS : va_S (fun _ => False) s.heap s.heap [] := va_S.rf
  have hP : va_P (dC, dI) vwCl [(x, .inr (4, [.ref (a 0), .ref (h 0), .ref (tx 0), .ref (g 0), .ref (k 0)])), ((g 0), .inr (0, [.ref (g 1), .ref (g 2), .ref (g 3), .ref (g 4), .ref (g 5), .ref (g 6), .ref (g 7), .int ln, .int pe, .int ne])), ((g 3), .inl (cI, 6, .inl gp)), ((g 4), .inl (cI, 6, .inl ls)), ((a 0), .inr (2, [.ref (a 1), .ref (a 2), .ref (a 3), .ref (a 4), .ref (a 5), .ref (a 6), .ref (a 7), .int (v 1), .int (v 0), .int (v 7)])), ((a 1), .inl (cI, 6, .inl (fun j => v (8 + j)))), ((a 3), .inl (cI, 6, .inl (fun j => v (20 + j))))] s.heap := hP
  have hin2 : ∀ w ∈ u_ws RX2 TX2 10, w ∈ wsX4_clearNumber := by decide +kernel
  have hin4 : ∀ w ∈ u_ws RX4 TX4 5, w ∈ wsX4_clearNumber := by decide +kernel
  have hl := lv_entry [.ref x] (n := 6) (Nat.le_of_ble_eq_true rfl)
  rw [lg_entry_eq]
  generalize (lg_sl [.ref x] ++ List.replicate (6 - (lg_sl [.ref x]).length) Slot.unset).toArray = lz at hl ⊢
  have hl : lv_has lz 6 [(0, .ref x)] := hl
  have J28 : ∀ (i1 : Nat), (i1 ≤ 6) → (i1 = cn_st v 6 0) → ∀ (lz : Array Slot), lv_has lz 6 [(0, .ref x), (1, .int (nI i1))] → W p l e (headSpec wsX4_clearNumber ({ frames := 3, cells := 0, slots := 0, locals := 66 } : Room)).room s m ([.ref x] : List Value).toArray below meth c s.heap [] 0 0 (MQ below (k2_QcV (.int (cn_all (lk_clr gp ls ln pe ne v) v))) ([.ref x] : List Value).toArray s 0 0 (fun _ => False)) (F0 m 28 lz []) := by
    intro i1 hi1 hst lz hl
    have J53 : ∀ (ng : Int32), (ng = cn_ng v i1) → ∀ (lz : Array Slot), lv_has lz 6 [(0, .ref x), (1, .int (nI i1))] → W p l e (headSpec wsX4_clearNumber ({ frames := 3, cells := 0, slots := 0, locals := 66 } : Room)).room s m ([.ref x] : List Value).toArray below meth c s.heap [] 0 0 (MQ below (k2_QcV (.int (cn_all (lk_clr gp ls ln pe ne v) v))) ([.ref x] : List Value).toArray s 0 0 (fun _ => False)) (F0 m 53 lz [.int ng]) := by
      intro ng eng lz hl
      subst eng
      refine lv_istore_n (lv' := [(2, .int (cn_ng v i1)), (0, .ref x), (1, .int (nI i1))]) hx hb dX4_clearNumber_53 rfl hl (by decide) rfl (fun lz hl => ?_)
      have J65 : ∀ (ff : Nat), (ff = cn_ff v i1) → ∀ (lz : Array Slot), lv_has lz 6 [(0, .ref x), (1, .int (nI i1)), (2, .int (cn_ng v i1))] → W p l e (headSpec wsX4_clearNumber ({ frames := 3, cells := 0, slots := 0, locals := 66 } : Room)).room s m ([.ref x] : List Value).toArray below meth c s.heap [] 0 0 (MQ below (k2_QcV (.int (cn_all (lk_clr gp ls ln pe ne v) v))) ([.ref x] : List Value).toArray s 0 0 (fun _ => False)) (F0 m 65 lz [.int (nI ff)]) := by
        intro ff eff lz hl
        refine lv_istore_n (lv' := [(3, .int (nI ff)), (0, .ref x), (1, .int (nI i1)), (2, .int (cn_ng v i1))]) hx hb dX4_clearNumber_65 rfl hl (by decide) rfl (fun lz hl => ?_)
        have J86 : (ff ≤ 6) → (cn_go (lk_clr gp ls ln pe ne v) v (cn_ng v i1) (6 - ff) ff 0 = cn_all (lk_clr gp ls ln pe ne v) v) → ∀ (lz : Array Slot), lv_has lz 6 [(0, .ref x), (2, .int (cn_ng v i1)), (3, .int (nI ff))] → W p l e (headSpec wsX4_clearNumber ({ frames := 3, cells := 0, slots := 0, locals := 66 } : Room)).room s m ([.ref x] : List Value).toArray below meth c s.heap [] 0 0 (MQ below (k2_QcV (.int (cn_all (lk_clr gp ls ln pe ne v) v))) ([.ref x] : List Value).toArray s 0 0 (fun _ => False)) (F0 m 86 lz []) := by
          intro  hff hgo lz hl
          refine lv_iconst (v := 0) hx hb dX4_clearNumber_86 (by decide) ?_
          refine lv_istore (lv' := [(4, .int 0), (0, .ref x), (2, .int (cn_ng v i1)), (3, .int (nI ff))]) hx hb dX4_clearNumber_87 hl (by decide) rfl (fun lz hl => ?_)
          refine lv_iload_n hx hb dX4_clearNumber_89 rfl (lv_at hl 3 rfl) ?_
          refine lv_istore (lv' := [(5, .int (nI ff)), (4, .int 0), (0, .ref x), (2, .int (cn_ng v i1)), (3, .int (nI ff))]) hx hb dX4_clearNumber_90 hl (by decide) rfl (fun lz hl => ?_)
          have L92 : ∀ (zz i : Nat), i ≤ 6 → 6 + 1 ≤ i + zz → ∀ (x4 : Int32), (cn_go (lk_clr gp ls ln pe ne v) v (cn_ng v i1) (6 - i) i x4 = cn_all (lk_clr gp ls ln pe ne v) v) → ∀ (lz : Array Slot), lv_has lz 6 [(0, .ref x), (2, .int (cn_ng v i1)), (4, .int x4), (5, .int (nI i))] → W p l e (headSpec wsX4_clearNumber ({ frames := 3, cells := 0, slots := 0, locals := 66 } : Room)).room s m ([.ref x] : List Value).toArray below meth c s.heap [] 0 0 (MQ below (k2_QcV (.int (cn_all (lk_clr gp ls ln pe ne v) v))) ([.ref x] : List Value).toArray s 0 0 (fun _ => False)) (F0 m 92 lz []) := by
            intro zz
            induction zz with
            | zero => intro i hii hni; exact absurd hni (by omega)
            | succ zz ih92 =>
              intro i hii hni x4  hgl lz hl
              refine lv_iload hx hb dX4_clearNumber_92 (lv_at hl 3 rfl) ?_
              refine lv_bipush (v := 6) hx hb dX4_clearNumber_94 (by decide) ?_
              refine lv_icmp_ge (tgt := 149) hx hb dX4_clearNumber_96 (by decide) (fun q96 => ?_) (fun q96 => ?_)
              · have hNi : 6 = i := (xm_end (N := 6) hii (by decide) q96).symm
                subst hNi
                refine lv_iload_n hx hb dX4_clearNumber_149 rfl (lv_at hl 1 rfl) ?_
                refine lv_if_eq (tgt := 159) hx hb dX4_clearNumber_150 (by decide) (fun q150 => ?_) (fun q150 => ?_)
                · refine lv_iload hx hb dX4_clearNumber_159 (lv_at hl 2 rfl) ?_
                  exact W.iret (v := x4) hx hb hr (fun t ht hW => ⟨congrArg (fun z => Outcome.returned (some (Value.int z))) (by rw [← hgl, Nat.sub_self]; exact (if_pos q150).symm), ht⟩) hS.2.2 dX4_clearNumber_161
                · refine lv_iload hx hb dX4_clearNumber_153 (lv_at hl 2 rfl) ?_
                  refine lv_ineg hx hb dX4_clearNumber_155 ?_
                  refine lv_goto (tgt := 161) hx hb dX4_clearNumber_156 (by decide) ?_
                  exact W.iret (v := -x4) hx hb hr (fun t ht hW => ⟨congrArg (fun z => Outcome.returned (some (Value.int z))) (by rw [← hgl, Nat.sub_self]; exact (if_neg q150).symm), ht⟩) hS.2.2 dX4_clearNumber_161
              · have hlti : i < 6 := xm_lt (N := 6) hii (by decide) q96
                refine lv_aload_n hx hb dX4_clearNumber_99 rfl (lv_at hl 0 rfl) ?_
                refine va_get (D := (dC, dI)) (ci := 4) (v := .ref (a 0)) (C := RX4) (T := TX4) (N := 5) hx hb hts hin4 hown hK hP 0 rfl rfl 0 (by decide) (hts (.fieldLink RX4 10 "TurnDigits" "state" "LTurnDigits$State;") (by decide +kernel)) (fun _ h9 => h9) rfl dX4_clearNumber_100 ?_
                refine va_get (D := (dC, dI)) (ci := 2) (v := .ref (a 1)) (C := RX2) (T := TX2) (N := 10) hx hb hts hin2 hown hK hP 4 rfl rfl 0 (by decide) (hts (.fieldLink RX4 52 "TurnDigits$State" "signs" "[I") (by decide +kernel)) (fun _ h9 => h9) rfl dX4_clearNumber_103 ?_
                refine lv_iload hx hb dX4_clearNumber_106 (lv_at hl 3 rfl) ?_
                refine xm_iald (D := (dC, dI)) hx hb hK hP 5 0 i (v := (fun j => v (8 + j)) i) rfl rfl (by decide) rfl (by omega) rfl dX4_clearNumber_108 ?_
                refine lv_bipush (v := 9) hx hb dX4_clearNumber_109 (by decide) ?_
                refine lv_icmp_gt (tgt := 123) hx hb dX4_clearNumber_111 (by decide) (fun q111 => ?_) (fun q111 => ?_)
                · refine lv_iconst (v := (-1)) hx hb dX4_clearNumber_123 (by decide) ?_
                  exact W.iret (v := (-1)) hx hb hr (fun t ht hW => ⟨congrArg (fun z => Outcome.returned (some (Value.int z))) (by rw [← hgl, cn_go_s hlti, if_pos q111]), ht⟩) hS.2.2 dX4_clearNumber_124
                · refine lv_aload_n hx hb dX4_clearNumber_114 rfl (lv_at hl 0 rfl) ?_
                  refine lv_iload hx hb dX4_clearNumber_115 (lv_at hl 3 rfl) ?_
                  have hPc := hP.sub (ws' := [(x, .inr (4, [.ref (a 0), .ref (h 0), .ref (tx 0), .ref (g 0), .ref (k 0)])), ((g 0), .inr (0, [.ref (g 1), .ref (g 2), .ref (g 3), .ref (g 4), .ref (g 5), .ref (g 6), .ref (g 7), .int ln, .int pe, .int ne])), ((g 3), .inl (cI, 6, .inl gp)), ((g 4), .inl (cI, 6, .inl ls)), ((a 0), .inr (2, [.ref (a 1), .ref (a 2), .ref (a 3), .ref (a 4), .ref (a 5), .ref (a 6), .ref (a 7), .int (v 1), .int (v 0), .int (v 7)])), ((a 1), .inl (cI, 6, .inl (fun j => v (8 + j)))), ((a 3), .inl (cI, 6, .inl (fun j => v (20 + j))))]) [0, 1, 2, 3, 4, 5, 6] rfl
                  refine W.callV ((va_runV (As := [.int (nI i)]) (rest := []) ⟨hx, hb, hml, hown, hts⟩ (c_X4_isClear l dC dI cI cS cJ tt x a h tx g k gp ls ln pe ne v i) (cwV 1 hts gX4_clearNumber_X4_isClear rfl rfl rfl (by decide +kernel) ⟨Nat.le_of_ble_eq_true rfl, Nat.le_of_ble_eq_true rfl⟩) ⟨xm_Rblind, va_recv hK hPc (ci := 4) (q0 := 0) rfl rfl, fun U hU hW => ⟨rfl, by rw [hU]; exact hPc, hE.go hS (fun _ q => q.elim) hU hW, ⟨hlti, hpre i hlti⟩⟩⟩ rfl rfl hl.1 rfl (lv_room (Nat.le_of_ble_eq_true rfl)) dX4_clearNumber_117 ⟨Nat.zero_le _, Nat.zero_le _⟩).run) ?_
                  refine W.eq (g2 := F0 m 120 lz (.int (lk_clr gp ls ln pe ne v i) :: [])) rfl ?_
                  refine lv_if_ne (tgt := 125) hx hb dX4_clearNumber_120 (by decide) (fun q120 => ?_) (fun q120 => ?_)
                  · refine lv_bipush (v := 10) hx hb dX4_clearNumber_125 (by decide) ?_
                    refine lv_iload hx hb dX4_clearNumber_127 (lv_at hl 2 rfl) ?_
                    refine lv_imul hx hb dX4_clearNumber_129 ?_
                    refine lv_aload_n hx hb dX4_clearNumber_130 rfl (lv_at hl 0 rfl) ?_
                    refine va_get (D := (dC, dI)) (ci := 4) (v := .ref (a 0)) (C := RX4) (T := TX4) (N := 5) hx hb hts hin4 hown hK hP 0 rfl rfl 0 (by decide) (hts (.fieldLink RX4 10 "TurnDigits" "state" "LTurnDigits$State;") (by decide +kernel)) (fun _ h9 => h9) rfl dX4_clearNumber_131 ?_
                    refine va_get (D := (dC, dI)) (ci := 2) (v := .ref (a 1)) (C := RX2) (T := TX2) (N := 10) hx hb hts hin2 hown hK hP 4 rfl rfl 0 (by decide) (hts (.fieldLink RX4 52 "TurnDigits$State" "signs" "[I") (by decide +kernel)) (fun _ h9 => h9) rfl dX4_clearNumber_134 ?_
                    refine lv_iload hx hb dX4_clearNumber_137 (lv_at hl 3 rfl) ?_
                    refine xm_iald (D := (dC, dI)) hx hb hK hP 5 0 i (v := (fun j => v (8 + j)) i) rfl rfl (by decide) rfl (by omega) rfl dX4_clearNumber_139 ?_
                    refine lv_iadd hx hb dX4_clearNumber_140 ?_
                    refine lv_istore (lv' := [(4, .int ((10 * x4) + ((fun j => v (8 + j)) i))), (0, .ref x), (2, .int (cn_ng v i1)), (5, .int (nI i))]) hx hb dX4_clearNumber_141 hl (by decide) rfl (fun lz hl => ?_)
                    refine lv_iinc (v := nI (i + 1)) (lv' := [(5, .int (nI (i + 1))), (4, .int ((10 * x4) + ((fun j => v (8 + j)) i))), (0, .ref x), (2, .int (cn_ng v i1))]) hx hb dX4_clearNumber_143 hl (k := 3) rfl (nI_1 i) (by decide) rfl (fun lz hl => ?_)
                    refine lv_goto (tgt := 92) hx hb dX4_clearNumber_146 (by decide) ?_
                    exact ih92 (i + 1) hlti (by omega) ((10 * x4) + ((fun j => v (8 + j)) i))  (by rw [← hgl, cn_go_s hlti, if_neg q111, if_neg q120]) lz (lv_sub hl [2, 3, 1, 0] rfl)
                  · refine lv_iconst (v := (-1)) hx hb dX4_clearNumber_123 (by decide) ?_
                    exact W.iret (v := (-1)) hx hb hr (fun t ht hW => ⟨congrArg (fun z => Outcome.returned (some (Value.int z))) (by rw [← hgl, cn_go_s hlti, if_neg q111, if_pos q120]), ht⟩) hS.2.2 dX4_clearNumber_124
          exact L92 (6 + 1) ff hff (by omega) 0  hgo lz (lv_sub hl [2, 3, 1, 0] rfl)
        refine lv_iload_n hx hb dX4_clearNumber_66 rfl (lv_at hl 0 rfl) ?_
        refine lv_bipush (v := 6) hx hb dX4_clearNumber_67 (by decide) ?_
        refine lv_icmp_ge (tgt := 84) hx hb dX4_clearNumber_69 (by decide) (fun q69 => ?_) (fun q69 => ?_)
        · refine lv_iconst (v := (-1)) hx hb dX4_clearNumber_84 (by decide) ?_
          exact W.iret (v := (-1)) hx hb hr (fun t ht hW => ⟨congrArg (fun z => Outcome.returned (some (Value.int z))) (by rw [cn_all, ← hst, cn_end, ← eff, if_pos q69]), ht⟩) hS.2.2 dX4_clearNumber_85
        · have hffl : ff ≤ 7 := by rw [eff]; unfold cn_ff; split <;> omega
          have hff6 : ff < 6 := by rcases Nat.lt_or_ge ff 6 with h | h; exact h; exact absurd (nI_le (a := 6) (b := ff) h (by omega)) q69
          refine lv_iload_n hx hb dX4_clearNumber_72 rfl (lv_at hl 3 rfl) ?_
          refine lv_if_eq (tgt := 86) hx hb dX4_clearNumber_73 (by decide) (fun q73 => ?_) (fun q73 => ?_)
          · exact J86  (Nat.le_of_lt hff6) (by rw [cn_all, ← hst, cn_end, ← eff, if_neg q69, if_pos q73]) lz (lv_sub hl [1, 3, 0] rfl)
          · have hi16 : i1 < 6 := by rcases Nat.lt_or_ge i1 6 with h | h; exact h; exact absurd (by unfold cn_ng; exact if_pos (nI_le (a := 6) (b := i1) h (by omega))) q73
            refine lv_aload_n hx hb dX4_clearNumber_76 rfl (lv_at hl 1 rfl) ?_
            refine lv_iload_n hx hb dX4_clearNumber_77 rfl (lv_at hl 2 rfl) ?_
            have hPc := hP.sub (ws' := [(x, .inr (4, [.ref (a 0), .ref (h 0), .ref (tx 0), .ref (g 0), .ref (k 0)])), ((g 0), .inr (0, [.ref (g 1), .ref (g 2), .ref (g 3), .ref (g 4), .ref (g 5), .ref (g 6), .ref (g 7), .int ln, .int pe, .int ne])), ((g 3), .inl (cI, 6, .inl gp)), ((g 4), .inl (cI, 6, .inl ls)), ((a 0), .inr (2, [.ref (a 1), .ref (a 2), .ref (a 3), .ref (a 4), .ref (a 5), .ref (a 6), .ref (a 7), .int (v 1), .int (v 0), .int (v 7)])), ((a 1), .inl (cI, 6, .inl (fun j => v (8 + j)))), ((a 3), .inl (cI, 6, .inl (fun j => v (20 + j))))]) [0, 1, 2, 3, 4, 5, 6] rfl
            refine W.callV ((va_runV (As := [.int (nI i1)]) (rest := []) ⟨hx, hb, hml, hown, hts⟩ (c_X4_isClear l dC dI cI cS cJ tt x a h tx g k gp ls ln pe ne v i1) (cwV 1 hts gX4_clearNumber_X4_isClear rfl rfl rfl (by decide +kernel) ⟨Nat.le_of_ble_eq_true rfl, Nat.le_of_ble_eq_true rfl⟩) ⟨xm_Rblind, va_recv hK hPc (ci := 4) (q0 := 0) rfl rfl, fun U hU hW => ⟨rfl, by rw [hU]; exact hPc, hE.go hS (fun _ q => q.elim) hU hW, ⟨hi16, hpre i1 hi16⟩⟩⟩ rfl rfl hl.1 rfl (lv_room (Nat.le_of_ble_eq_true rfl)) dX4_clearNumber_78 ⟨Nat.zero_le _, Nat.zero_le _⟩).run) ?_
            refine W.eq (g2 := F0 m 81 lz (.int (lk_clr gp ls ln pe ne v i1) :: [])) rfl ?_
            refine lv_if_ne (tgt := 86) hx hb dX4_clearNumber_81 (by decide) (fun q81 => ?_) (fun q81 => ?_)
            · exact J86  (Nat.le_of_lt hff6) (by rw [cn_all, ← hst, cn_end, ← eff, if_neg q69, if_neg q73, if_neg q81]) lz (lv_sub hl [1, 3, 0] rfl)
            · refine lv_iconst (v := (-1)) hx hb dX4_clearNumber_84 (by decide) ?_
              exact W.iret (v := (-1)) hx hb hr (fun t ht hW => ⟨congrArg (fun z => Outcome.returned (some (Value.int z))) (by rw [cn_all, ← hst, cn_end, ← eff, if_neg q69, if_neg q73, if_pos q81]), ht⟩) hS.2.2 dX4_clearNumber_85
      refine lv_iload_n hx hb dX4_clearNumber_54 rfl (lv_at hl 0 rfl) ?_
      refine lv_if_eq (tgt := 64) hx hb dX4_clearNumber_55 (by decide) (fun q55 => ?_) (fun q55 => ?_)
      · refine lv_iload_n hx hb dX4_clearNumber_64 rfl (lv_at hl 2 rfl) ?_
        exact J65 i1 (by simp only [cn_ff, if_pos q55]) lz (lv_sub hl [1, 2, 0] rfl)
      · refine lv_iload_n hx hb dX4_clearNumber_58 rfl (lv_at hl 2 rfl) ?_
        refine lv_iconst (v := 1) hx hb dX4_clearNumber_59 (by decide) ?_
        refine lv_iadd hx hb dX4_clearNumber_60 ?_
        refine xm_topi (y := (nI (i1 + 1))) (nI_1 i1) ?_
        refine lv_goto (tgt := 65) hx hb dX4_clearNumber_61 (by decide) ?_
        exact J65 (i1 + 1) (by simp only [cn_ff, if_neg q55]) lz (lv_sub hl [1, 2, 0] rfl)
    refine lv_iload_n hx hb dX4_clearNumber_28 rfl (lv_at hl 1 rfl) ?_
    refine lv_bipush (v := 6) hx hb dX4_clearNumber_29 (by decide) ?_
    refine lv_icmp_ge (tgt := 52) hx hb dX4_clearNumber_31 (by decide) (fun q31 => ?_) (fun q31 => ?_)
    · refine lv_iconst (v := 0) hx hb dX4_clearNumber_52 (by decide) ?_
      exact J53 0 (by simp only [cn_ng, if_pos q31]) lz (lv_sub hl [0, 1] rfl)
    · have hi16 : i1 < 6 := xm_lt (N := 6) hi1 (by decide) q31
      refine lv_aload_n hx hb dX4_clearNumber_34 rfl (lv_at hl 0 rfl) ?_
      refine va_get (D := (dC, dI)) (ci := 4) (v := .ref (a 0)) (C := RX4) (T := TX4) (N := 5) hx hb hts hin4 hown hK hP 0 rfl rfl 0 (by decide) (hts (.fieldLink RX4 10 "TurnDigits" "state" "LTurnDigits$State;") (by decide +kernel)) (fun _ h9 => h9) rfl dX4_clearNumber_35 ?_
      refine va_get (D := (dC, dI)) (ci := 2) (v := .ref (a 1)) (C := RX2) (T := TX2) (N := 10) hx hb hts hin2 hown hK hP 4 rfl rfl 0 (by decide) (hts (.fieldLink RX4 52 "TurnDigits$State" "signs" "[I") (by decide +kernel)) (fun _ h9 => h9) rfl dX4_clearNumber_38 ?_
      refine lv_iload_n hx hb dX4_clearNumber_41 rfl (lv_at hl 1 rfl) ?_
      refine xm_iald (D := (dC, dI)) hx hb hK hP 5 0 i1 (v := (fun j => v (8 + j)) i1) rfl rfl (by decide) rfl (by omega) rfl dX4_clearNumber_42 ?_
      refine lv_bipush (v := 10) hx hb dX4_clearNumber_43 (by decide) ?_
      refine lv_icmp_ne (tgt := 52) hx hb dX4_clearNumber_45 (by decide) (fun q45 => ?_) (fun q45 => ?_)
      · refine lv_iconst (v := 0) hx hb dX4_clearNumber_52 (by decide) ?_
        exact J53 0 (by simp only [cn_ng, if_neg q31, if_neg q45]) lz (lv_sub hl [0, 1] rfl)
      · refine lv_iconst (v := 1) hx hb dX4_clearNumber_48 (by decide) ?_
        refine lv_goto (tgt := 53) hx hb dX4_clearNumber_49 (by decide) ?_
        exact J53 1 (by simp only [cn_ng, if_neg q31, if_pos q45]) lz (lv_sub hl [0, 1] rfl)
  refine lv_iconst (v := 0) hx hb dX4_clearNumber_0 (by decide) ?_
  refine lv_istore_n (lv' := [(1, .int 0), (0, .ref x)]) hx hb dX4_clearNumber_1 rfl hl (by decide) rfl (fun lz hl => ?_)
  have L2 : ∀ (zz i : Nat), i ≤ 6 → 6 + 1 ≤ i + zz → (cn_st v (6 - i) i = cn_st v 6 0) → ∀ (lz : Array Slot), lv_has lz 6 [(0, .ref x), (1, .int (nI i))] → W p l e (headSpec wsX4_clearNumber ({ frames := 3, cells := 0, slots := 0, locals := 66 } : Room)).room s m ([.ref x] : List Value).toArray below meth c s.heap [] 0 0 (MQ below (k2_QcV (.int (cn_all (lk_clr gp ls ln pe ne v) v))) ([.ref x] : List Value).toArray s 0 0 (fun _ => False)) (F0 m 2 lz []) := by
    intro zz
    induction zz with
    | zero => intro i hii hni; exact absurd hni (by omega)
    | succ zz ih2 =>
      intro i hii hni   hstl lz hl
      refine lv_iload_n hx hb dX4_clearNumber_2 rfl (lv_at hl 1 rfl) ?_
      refine lv_bipush (v := 6) hx hb dX4_clearNumber_3 (by decide) ?_
      refine lv_icmp_ge (tgt := 28) hx hb dX4_clearNumber_5 (by decide) (fun q5 => ?_) (fun q5 => ?_)
      · have hNi : 6 = i := (xm_end (N := 6) hii (by decide) q5).symm
        subst hNi
        exact J28 6 (Nat.le_refl 6) (by rw [← hstl, Nat.sub_self]; rfl) lz (lv_sub hl [0, 1] rfl)
      · have hlti : i < 6 := xm_lt (N := 6) hii (by decide) q5
        refine lv_aload_n hx hb dX4_clearNumber_8 rfl (lv_at hl 0 rfl) ?_
        refine va_get (D := (dC, dI)) (ci := 4) (v := .ref (a 0)) (C := RX4) (T := TX4) (N := 5) hx hb hts hin4 hown hK hP 0 rfl rfl 0 (by decide) (hts (.fieldLink RX4 10 "TurnDigits" "state" "LTurnDigits$State;") (by decide +kernel)) (fun _ h9 => h9) rfl dX4_clearNumber_9 ?_
        refine va_get (D := (dC, dI)) (ci := 2) (v := .ref (a 1)) (C := RX2) (T := TX2) (N := 10) hx hb hts hin2 hown hK hP 4 rfl rfl 0 (by decide) (hts (.fieldLink RX4 52 "TurnDigits$State" "signs" "[I") (by decide +kernel)) (fun _ h9 => h9) rfl dX4_clearNumber_12 ?_
        refine lv_iload_n hx hb dX4_clearNumber_15 rfl (lv_at hl 1 rfl) ?_
        refine xm_iald (D := (dC, dI)) hx hb hK hP 5 0 i (v := (fun j => v (8 + j)) i) rfl rfl (by decide) rfl (by omega) rfl dX4_clearNumber_16 ?_
        refine lv_bipush (v := 11) hx hb dX4_clearNumber_17 (by decide) ?_
        refine lv_icmp_ne (tgt := 28) hx hb dX4_clearNumber_19 (by decide) (fun q19 => ?_) (fun q19 => ?_)
        · exact J28 i (by omega) (by rw [← hstl, cn_st_s hlti, if_neg q19]) lz (lv_sub hl [0, 1] rfl)
        · refine lv_iinc (v := nI (i + 1)) (lv' := [(1, .int (nI (i + 1))), (0, .ref x)]) hx hb dX4_clearNumber_22 hl (k := 1) rfl (nI_1 i) (by decide) rfl (fun lz hl => ?_)
          refine lv_goto (tgt := 2) hx hb dX4_clearNumber_25 (by decide) ?_
          exact ih2 (i + 1) hlti (by omega)   (by rw [← hstl, cn_st_s hlti, if_pos q19]) lz (lv_sub hl [1, 0] rfl)
  exact L2 (6 + 1) 0 (by omega) (by omega)   rfl lz (lv_sub hl [1, 0] rfl)

set_option maxHeartbeats 4000000 in
set_option maxRecDepth 100000 in
theorem c_X4_lightShare (l : Launch) (dC : Nat → ClassId) (dI : Nat → Nat → Nat) (cI cS cJ : ClassId) (tt : Nat → Nat) (x : Nat) (a : Nat → Nat) (h : Nat → Nat) (tx : Nat → Nat) (g : Nat → Nat) (k : Nat → Nat) (gp : Nat → Int32) (ls : Nat → Int32) (ln : Int32) (pe : Int32) (ne : Int32) (v : Nat → Int32) : Met l yX4_lightShare wsX4_lightShare ({ frames := 1, cells := 0, slots := 0, locals := 21 } : Room) (va_Pc [.ref x] (xm_R (dC, dI) cI cS cJ tt [(x, .inr (4, [.ref (a 0), .ref (h 0), .ref (tx 0), .ref (g 0), .ref (k 0)])), ((g 0), .inr (0, [.ref (g 1), .ref (g 2), .ref (g 3), .ref (g 4), .ref (g 5), .ref (g 6), .ref (g 7), .int ln, .int pe, .int ne])), ((g 4), .inl (cI, 6, .inl ls)), ((a 0), .inr (2, [.ref (a 1), .ref (a 2), .ref (a 3), .ref (a 4), .ref (a 5), .ref (a 6), .ref (a 7), .int (v 1), .int (v 0), .int (v 7)])), ((a 2), .inl (cI, 6, .inl (fun j => v (14 + j))))] (∀ j, j < 6 → 0 ≤ (fm_light ln (ls j)).toInt ∧ (fm_light ln (ls j)).toInt ≤ 1000))) (k2_QcV (.double (le_sh (fun j => v (14 + j)) (fun j => fm_light ln (ls j))))) 0 0 (fun _ => False) := by
  refine Met.ofW (cc := cX4_lightShare) (maxL := 5) (ret := (some .double)) (by decide) rfl ?_
  intro p e s m args below meth c s₁ B hml hv
  obtain ⟨rfl, hP, hE, hpre⟩ := hv
  have hx := B.exec
  have hb := B.bytes
  have hr := B.returns
  have hts := atoms_spec (ws := wsX4_lightShare) B.pre
  have hown : s.vm.findClass RX4 = some m.cls := findClass_of_methodNamed B.named
  have hlocks := B.notSynchronized
  have hK := hE.1
  have hS : va_S (fun _ => False) s.heap s.heap [] := va_S.rf
  have hP : va_P (dC, dI) vwCl [(x, .inr (4, [.ref (a 0), .ref (h 0), .ref (tx 0), .ref (g 0), .ref (k 0)])), ((g 0), .inr (0, [.ref (g 1), .ref (g 2), .ref (g 3), .ref (g 4), .ref (g 5), .ref (g 6), .ref (g 7), .int ln, .int pe, .int ne])), ((g 4), .inl (cI, 6, .inl ls)), ((a 0), .inr (2, [.ref (a 1), .ref (a 2), .ref (a 3), .ref (a 4), .ref (a 5), .ref (a 6), .ref (a 7), .int (v 1), .int (v 0), .int (v 7)])), ((a 2), .inl (cI, 6, .inl (fun j => v (14 + j))))] s.heap := hP
  have hin2 : ∀ w ∈ u_ws RX2 TX2 10, w ∈ wsX4_lightShare := by decide +kernel
  have hin4 : ∀ w ∈ u_ws RX4 TX4 5, w ∈ wsX4_lightShare := by decide +kernel
  have hl := lv_entry [.ref x] (n := 5) (Nat.le_of_ble_eq_true rfl)
  rw [lg_entry_eq]
  generalize (lg_sl [.ref x] ++ List.replicate (5 - (lg_sl [.ref x]).length) Slot.unset).toArray = lz at hl ⊢
  have hl : lv_has lz 5 [(0, .ref x)] := hl
  refine lv_sipush (v := 1000) hx hb dX4_lightShare_0 (by decide) ?_
  refine lv_istore_n (lv' := [(1, .int 1000), (0, .ref x)]) hx hb dX4_lightShare_3 rfl hl (by decide) rfl (fun lz hl => ?_)
  refine lv_iconst (v := 0) hx hb dX4_lightShare_4 (by decide) ?_
  refine lv_istore_n (lv' := [(2, .int 0), (1, .int 1000), (0, .ref x)]) hx hb dX4_lightShare_5 rfl hl (by decide) rfl (fun lz hl => ?_)
  refine lv_iconst (v := 0) hx hb dX4_lightShare_6 (by decide) ?_
  refine lv_istore_n (lv' := [(3, .int 0), (2, .int 0), (1, .int 1000), (0, .ref x)]) hx hb dX4_lightShare_7 rfl hl (by decide) rfl (fun lz hl => ?_)
  have L8 : ∀ (zz i : Nat), i ≤ 6 → 6 + 1 ≤ i + zz → ∀ (x1 : Int32) (x2 : Int32), x1 = le_l (fun j => v (14 + j)) (fun j => fm_light ln (ls j)) i → x2 = le_g (fun j => v (14 + j)) (fun j => fm_light ln (ls j)) i → ∀ (lz : Array Slot), lv_has lz 5 [(0, .ref x), (1, .int x1), (2, .int x2), (3, .int (nI i))] → W p l e (headSpec wsX4_lightShare ({ frames := 1, cells := 0, slots := 0, locals := 21 } : Room)).room s m ([.ref x] : List Value).toArray below meth c s.heap [] 0 0 (MQ below (k2_QcV (.double (le_sh (fun j => v (14 + j)) (fun j => fm_light ln (ls j))))) ([.ref x] : List Value).toArray s 0 0 (fun _ => False)) (F0 m 8 lz []) := by
    intro zz
    induction zz with
    | zero => intro i hii hni; exact absurd hni (by omega)
    | succ zz ih8 =>
      intro i hii hni x1 x2 e_x1 e_x2  lz hl
      subst e_x1 e_x2
      refine lv_iload_n hx hb dX4_lightShare_8 rfl (lv_at hl 3 rfl) ?_
      refine lv_bipush (v := 6) hx hb dX4_lightShare_9 (by decide) ?_
      refine lv_icmp_ge (tgt := 56) hx hb dX4_lightShare_11 (by decide) (fun q11 => ?_) (fun q11 => ?_)
      · have hNi : 6 = i := (xm_end (N := 6) hii (by decide) q11).symm
        subst hNi
        refine lv_iload_n hx hb dX4_lightShare_56 rfl (lv_at hl 2 rfl) ?_
        refine lv_if_le (tgt := 68) hx hb dX4_lightShare_57 (by decide) (fun q57 => ?_) (fun q57 => ?_)
        · refine lv_dconst1 hx hb dX4_lightShare_68 ?_
          exact W.dret (v := FP.dconst1) hx hb hr (fun t ht hW => ⟨congrArg (fun z => Outcome.returned (some (Value.double z))) (by simp only [le_sh, if_pos q11, if_pos q57]), ht⟩) hS.2.2 dX4_lightShare_69
        · have hb9 := le_in (lv := (fun j => v (14 + j))) (lt := (fun j => fm_light ln (ls j))) hpre 6 (Nat.le_refl 6)
          have hg9 := fm_pos q57
          refine lv_iload_n hx hb dX4_lightShare_60 rfl (lv_at hl 1 rfl) ?_
          refine lv_i2d hx hb dX4_lightShare_61 ?_
          refine lv_iload_n hx hb dX4_lightShare_62 rfl (lv_at hl 2 rfl) ?_
          refine lv_i2d hx hb dX4_lightShare_63 ?_
          refine lv_ddiv hx hb dX4_lightShare_64 (fp_div_ok hb9.1 ⟨hg9, hb9.2.2⟩) ?_
          refine lv_goto (tgt := 69) hx hb dX4_lightShare_65 (by decide) ?_
          exact W.dret (v := FP.ddiv (FP.i2d (le_l (fun j => v (14 + j)) (fun j => fm_light ln (ls j)) 6)) (FP.i2d (le_g (fun j => v (14 + j)) (fun j => fm_light ln (ls j)) 6))) hx hb hr (fun t ht hW => ⟨congrArg (fun z => Outcome.returned (some (Value.double z))) (by simp only [le_sh, if_pos q11, if_neg q57]), ht⟩) hS.2.2 dX4_lightShare_69
      · have hlti : i < 6 := xm_lt (N := 6) hii (by decide) q11
        refine lv_aload_n hx hb dX4_lightShare_14 rfl (lv_at hl 0 rfl) ?_
        refine va_get (D := (dC, dI)) (ci := 4) (v := .ref (a 0)) (C := RX4) (T := TX4) (N := 5) hx hb hts hin4 hown hK hP 0 rfl rfl 0 (by decide) (hts (.fieldLink RX4 10 "TurnDigits" "state" "LTurnDigits$State;") (by decide +kernel)) (fun _ h9 => h9) rfl dX4_lightShare_15 ?_
        refine va_get (D := (dC, dI)) (ci := 2) (v := .ref (a 2)) (C := RX2) (T := TX2) (N := 10) hx hb hts hin2 hown hK hP 3 rfl rfl 1 (by decide) (hts (.fieldLink RX4 56 "TurnDigits$State" "levels" "[I") (by decide +kernel)) (fun _ h9 => h9) rfl dX4_lightShare_18 ?_
        refine lv_iload_n hx hb dX4_lightShare_21 rfl (lv_at hl 3 rfl) ?_
        refine xm_iald (D := (dC, dI)) hx hb hK hP 4 0 i (v := (fun j => v (14 + j)) i) rfl rfl (by decide) rfl (by omega) rfl dX4_lightShare_22 ?_
        refine lv_if_le (tgt := 50) hx hb dX4_lightShare_23 (by decide) (fun q23 => ?_) (fun q23 => ?_)
        · refine lv_iinc (v := nI (i + 1)) (lv' := [(3, .int (nI (i + 1))), (0, .ref x), (1, .int (le_l (fun j => v (14 + j)) (fun j => fm_light ln (ls j)) i)), (2, .int (le_g (fun j => v (14 + j)) (fun j => fm_light ln (ls j)) i))]) hx hb dX4_lightShare_50 hl (k := 3) rfl (nI_1 i) (by decide) rfl (fun lz hl => ?_)
          refine lv_goto (tgt := 8) hx hb dX4_lightShare_53 (by decide) ?_
          exact ih8 (i + 1) hlti (by omega) (le_l (fun j => v (14 + j)) (fun j => fm_light ln (ls j)) i) (le_g (fun j => v (14 + j)) (fun j => fm_light ln (ls j)) i) (by simp only [le_l, le_g, if_neg q11, if_pos q23]) (by simp only [le_l, le_g, if_neg q11, if_pos q23])  lz (lv_sub hl [1, 2, 3, 0] rfl)
        · refine lv_aload_n hx hb dX4_lightShare_26 rfl (lv_at hl 0 rfl) ?_
          refine va_get (D := (dC, dI)) (ci := 4) (v := .ref (g 0)) (C := RX4) (T := TX4) (N := 5) hx hb hts hin4 hown hK hP 0 rfl rfl 3 (by decide) (hts (.fieldLink RX4 33 "TurnDigits" "frame" "LTurnDigits$Frame;") (by decide +kernel)) (fun _ h9 => h9) rfl dX4_lightShare_27 ?_
          refine lv_iload_n hx hb dX4_lightShare_30 rfl (lv_at hl 3 rfl) ?_
          have hPc := hP.sub (ws' := [((g 0), .inr (0, [.ref (g 1), .ref (g 2), .ref (g 3), .ref (g 4), .ref (g 5), .ref (g 6), .ref (g 7), .int ln, .int pe, .int ne])), ((g 4), .inl (cI, 6, .inl ls))]) [1, 2] rfl
          refine W.callV ((va_runV (As := [.int (nI i)]) (rest := []) ⟨hx, hb, hml, hown, hts⟩ (c_X0_lightOf l dC dI cI cS cJ tt g ls ln pe ne i) (cwV 1 hts gX4_lightShare_X0_lightOf rfl rfl rfl (by decide +kernel) ⟨Nat.le_of_ble_eq_true rfl, Nat.le_of_ble_eq_true rfl⟩) ⟨xm_Rblind, va_recv hK hPc (ci := 0) (q0 := 0) rfl rfl, fun U hU hW => ⟨rfl, by rw [hU]; exact hPc, hE.go hS (fun _ q => q.elim) hU hW, hlti⟩⟩ rfl rfl hl.1 rfl (lv_room (Nat.le_of_ble_eq_true rfl)) dX4_lightShare_31 ⟨Nat.zero_le _, Nat.zero_le _⟩).run) ?_
          refine W.eq (g2 := F0 m 34 lz (.int (fm_light ln (ls i)) :: [])) rfl ?_
          refine lv_istore (lv' := [(4, .int (fm_light ln (ls i))), (0, .ref x), (1, .int (le_l (fun j => v (14 + j)) (fun j => fm_light ln (ls j)) i)), (2, .int (le_g (fun j => v (14 + j)) (fun j => fm_light ln (ls j)) i)), (3, .int (nI i))]) hx hb dX4_lightShare_34 hl (by decide) rfl (fun lz hl => ?_)
          refine lv_iload_n hx hb dX4_lightShare_36 rfl (lv_at hl 2 rfl) ?_
          refine lv_iload hx hb dX4_lightShare_37 (lv_at hl 0 rfl) ?_
          refine va_mmin hx hb (hml.trans hl.1.symm) hown (hts (.methodLink RX4 264 Lib.Math.min.name) (by decide +kernel)) (hts (.static Lib.Math.min.name) (by decide +kernel)) (hts (.initialized "java/lang/Math") (by decide +kernel)) (hts (.code Lib.Math.min.name Lib.Math.min.code 2 (some .int)) (by decide +kernel)) (Nat.le_of_ble_eq_true rfl) (Nat.le_of_ble_eq_true rfl) (Nat.zero_le _) (Nat.zero_le _) dX4_lightShare_39 ?_
          refine lv_istore_n (lv' := [(1, .int (if (fm_light ln (ls i)) < (le_l (fun j => v (14 + j)) (fun j => fm_light ln (ls j)) i) then (fm_light ln (ls i)) else (le_l (fun j => v (14 + j)) (fun j => fm_light ln (ls j)) i))), (4, .int (fm_light ln (ls i))), (0, .ref x), (2, .int (le_g (fun j => v (14 + j)) (fun j => fm_light ln (ls j)) i)), (3, .int (nI i))]) hx hb dX4_lightShare_42 rfl hl (by decide) rfl (fun lz hl => ?_)
          refine lv_iload_n hx hb dX4_lightShare_43 rfl (lv_at hl 3 rfl) ?_
          refine lv_iload hx hb dX4_lightShare_44 (lv_at hl 1 rfl) ?_
          refine va_mmax hx hb (hml.trans hl.1.symm) hown (hts (.methodLink RX4 269 Lib.Math.max.name) (by decide +kernel)) (hts (.static Lib.Math.max.name) (by decide +kernel)) (hts (.initialized "java/lang/Math") (by decide +kernel)) (hts (.code Lib.Math.max.name Lib.Math.max.code 2 (some .int)) (by decide +kernel)) (Nat.le_of_ble_eq_true rfl) (Nat.le_of_ble_eq_true rfl) (Nat.zero_le _) (Nat.zero_le _) dX4_lightShare_46 ?_
          refine lv_istore_n (lv' := [(2, .int (if (le_g (fun j => v (14 + j)) (fun j => fm_light ln (ls j)) i) < (fm_light ln (ls i)) then (fm_light ln (ls i)) else (le_g (fun j => v (14 + j)) (fun j => fm_light ln (ls j)) i))), (1, .int (if (fm_light ln (ls i)) < (le_l (fun j => v (14 + j)) (fun j => fm_light ln (ls j)) i) then (fm_light ln (ls i)) else (le_l (fun j => v (14 + j)) (fun j => fm_light ln (ls j)) i))), (4, .int (fm_light ln (ls i))), (0, .ref x), (3, .int (nI i))]) hx hb dX4_lightShare_49 rfl hl (by decide) rfl (fun lz hl => ?_)
          refine lv_iinc (v := nI (i + 1)) (lv' := [(3, .int (nI (i + 1))), (2, .int (if (le_g (fun j => v (14 + j)) (fun j => fm_light ln (ls j)) i) < (fm_light ln (ls i)) then (fm_light ln (ls i)) else (le_g (fun j => v (14 + j)) (fun j => fm_light ln (ls j)) i))), (1, .int (if (fm_light ln (ls i)) < (le_l (fun j => v (14 + j)) (fun j => fm_light ln (ls j)) i) then (fm_light ln (ls i)) else (le_l (fun j => v (14 + j)) (fun j => fm_light ln (ls j)) i))), (4, .int (fm_light ln (ls i))), (0, .ref x)]) hx hb dX4_lightShare_50 hl (k := 4) rfl (nI_1 i) (by decide) rfl (fun lz hl => ?_)
          refine lv_goto (tgt := 8) hx hb dX4_lightShare_53 (by decide) ?_
          exact ih8 (i + 1) hlti (by omega) (if (fm_light ln (ls i)) < (le_l (fun j => v (14 + j)) (fun j => fm_light ln (ls j)) i) then (fm_light ln (ls i)) else (le_l (fun j => v (14 + j)) (fun j => fm_light ln (ls j)) i)) (if (le_g (fun j => v (14 + j)) (fun j => fm_light ln (ls j)) i) < (fm_light ln (ls i)) then (fm_light ln (ls i)) else (le_g (fun j => v (14 + j)) (fun j => fm_light ln (ls j)) i)) (by simp only [le_l, le_g, if_neg q11, if_neg q23]) (by simp only [le_l, le_g, if_neg q11, if_neg q23])  lz (lv_sub hl [4, 2, 1, 0] rfl)
  exact L8 (6 + 1) 0 (by omega) (by omega) 1000 0 rfl rfl  lz (lv_sub hl [3, 2, 1, 0] rfl)

set_option maxHeartbeats 4000000 in
set_option maxRecDepth 100000 in
theorem c_X4_leastSeenLevel (l : Launch) (dC : Nat → ClassId) (dI : Nat → Nat → Nat) (cI cS cJ : ClassId) (tt : Nat → Nat) (sz : Nat) (x : Nat) (a : Nat → Nat) (h : Nat → Nat) (tx : Nat → Nat) (g : Nat → Nat) (k : Nat → Nat) (kow : Nat → Int32) (kli : Nat → Int32) (kgp : Nat → Int32) (kls : Nat → Int32) (klv : Nat → Int32) (kcr : Nat → Int32) (kdr : Nat → Int32) (kln : Int32) (kpe : Int32) (kne : Int32) (v : Nat → Int32) (n : Nat) (d : Nat) : Met l yX4_leastSeenLevel wsX4_leastSeenLevel ({ frames := 4, cells := 0, slots := 0, locals := 90 } : Room) (va_Pc [.ref x, .int (nI d)] (xm_M (dC, dI) cI cS cJ tt [(x, .inr (4, [.ref (a 0), .ref (h 0), .ref (tx 0), .ref (g 0), .ref (k 0)])), ((a 0), .inr (2, [.ref (a 1), .ref (a 2), .ref (a 3), .ref (a 4), .ref (a 5), .ref (a 6), .ref (a 7), .int (v 1), .int (v 0), .int (v 7)])), ((a 2), .inl (cI, 6, .inl (fun j => v (14 + j)))), ((a 7), .inl (cI, 5, .inl (fun j => v (2 + j)))), ((k 0), .inr (0, [.ref (k 1), .ref (k 2), .ref (k 3), .ref (k 4), .ref (k 5), .ref (k 6), .ref (k 7), .int kln, .int kpe, .int kne])), ((k 1), .inl (cI, 96, .inl kow)), ((k 2), .inl (cI, 96, .inl kli)), ((k 3), .inl (cI, 6, .inl kgp)), ((k 4), .inl (cI, 6, .inl kls)), ((k 5), .inl (cI, 6, .inl klv)), ((k 6), .inl (cI, 6, .inl kcr)), ((k 7), .inl (cI, 6, .inl kdr))] sz ((v 2 = nI n ∧ n ≤ 96) ∧ d < 6))) (va_Qi (fun (r : Int32) (u : (Nat → Int32) × (Nat → Int32) × (Nat → Int32) × (Nat → Int32) × (Nat → Int32) × (Nat → Int32) × (Nat → Int32) × Int32 × Int32 × Int32) => r = ls_to v n d 16 0) (xm_B (dC, dI) (fun (u : (Nat → Int32) × (Nat → Int32) × (Nat → Int32) × (Nat → Int32) × (Nat → Int32) × (Nat → Int32) × (Nat → Int32) × Int32 × Int32 × Int32) => [(x, .inr (4, [.ref (a 0), .ref (h 0), .ref (tx 0), .ref (g 0), .ref (k 0)])), ((a 0), .inr (2, [.ref (a 1), .ref (a 2), .ref (a 3), .ref (a 4), .ref (a 5), .ref (a 6), .ref (a 7), .int (v 1), .int (v 0), .int (v 7)])), ((a 2), .inl (cI, 6, .inl (fun j => v (14 + j)))), ((a 7), .inl (cI, 5, .inl (fun j => v (2 + j)))), ((k 0), .inr (0, [.ref (k 1), .ref (k 2), .ref (k 3), .ref (k 4), .ref (k 5), .ref (k 6), .ref (k 7), .int u.2.2.2.2.2.2.2.1, .int u.2.2.2.2.2.2.2.2.1, .int u.2.2.2.2.2.2.2.2.2])), ((k 1), .inl (cI, 96, .inl u.1)), ((k 2), .inl (cI, 96, .inl u.2.1)), ((k 3), .inl (cI, 6, .inl u.2.2.1)), ((k 4), .inl (cI, 6, .inl u.2.2.2.1)), ((k 5), .inl (cI, 6, .inl u.2.2.2.2.1)), ((k 6), .inl (cI, 6, .inl u.2.2.2.2.2.1)), ((k 7), .inl (cI, 6, .inl u.2.2.2.2.2.2.1))]) (va_A [(x, .inr (4, [.ref (a 0), .ref (h 0), .ref (tx 0), .ref (g 0), .ref (k 0)])), ((a 0), .inr (2, [.ref (a 1), .ref (a 2), .ref (a 3), .ref (a 4), .ref (a 5), .ref (a 6), .ref (a 7), .int (v 1), .int (v 0), .int (v 7)])), ((a 2), .inl (cI, 6, .inl (fun j => v (14 + j)))), ((a 7), .inl (cI, 5, .inl (fun j => v (2 + j)))), ((k 0), .inr (0, [.ref (k 1), .ref (k 2), .ref (k 3), .ref (k 4), .ref (k 5), .ref (k 6), .ref (k 7), .int kln, .int kpe, .int kne])), ((k 1), .inl (cI, 96, .inl kow)), ((k 2), .inl (cI, 96, .inl kli)), ((k 3), .inl (cI, 6, .inl kgp)), ((k 4), .inl (cI, 6, .inl kls)), ((k 5), .inl (cI, 6, .inl klv)), ((k 6), .inl (cI, 6, .inl kcr)), ((k 7), .inl (cI, 6, .inl kdr))] sz)) (va_A [(x, .inr (4, [.ref (a 0), .ref (h 0), .ref (tx 0), .ref (g 0), .ref (k 0)])), ((a 0), .inr (2, [.ref (a 1), .ref (a 2), .ref (a 3), .ref (a 4), .ref (a 5), .ref (a 6), .ref (a 7), .int (v 1), .int (v 0), .int (v 7)])), ((a 2), .inl (cI, 6, .inl (fun j => v (14 + j)))), ((a 7), .inl (cI, 5, .inl (fun j => v (2 + j)))), ((k 0), .inr (0, [.ref (k 1), .ref (k 2), .ref (k 3), .ref (k 4), .ref (k 5), .ref (k 6), .ref (k 7), .int kln, .int kpe, .int kne])), ((k 1), .inl (cI, 96, .inl kow)), ((k 2), .inl (cI, 96, .inl kli)), ((k 3), .inl (cI, 6, .inl kgp)), ((k 4), .inl (cI, 6, .inl kls)), ((k 5), .inl (cI, 6, .inl klv)), ((k 6), .inl (cI, 6, .inl kcr)), ((k 7), .inl (cI, 6, .inl kdr))] sz)) 0 0 (va_A [(x, .inr (4, [.ref (a 0), .ref (h 0), .ref (tx 0), .ref (g 0), .ref (k 0)])), ((a 0), .inr (2, [.ref (a 1), .ref (a 2), .ref (a 3), .ref (a 4), .ref (a 5), .ref (a 6), .ref (a 7), .int (v 1), .int (v 0), .int (v 7)])), ((a 2), .inl (cI, 6, .inl (fun j => v (14 + j)))), ((a 7), .inl (cI, 5, .inl (fun j => v (2 + j)))), ((k 0), .inr (0, [.ref (k 1), .ref (k 2), .ref (k 3), .ref (k 4), .ref (k 5), .ref (k 6), .ref (k 7), .int kln, .int kpe, .int kne])), ((k 1), .inl (cI, 96, .inl kow)), ((k 2), .inl (cI, 96, .inl kli)), ((k 3), .inl (cI, 6, .inl kgp)), ((k 4), .inl (cI, 6, .inl kls)), ((k 5), .inl (cI, 6, .inl klv)), ((k 6), .inl (cI, 6, .inl kcr)), ((k 7), .inl (cI, 6, .inl kdr))] sz) := by
  refine Met.ofW (cc := cX4_leastSeenLevel) (maxL := 3) (ret := (some .int)) (by decide) rfl ?_
  intro p e s m args below meth c s₁ B hml hv
  obtain ⟨rfl, hsz, hP, hE, hD0, hpre⟩ := hv
  have hx := B.exec
  have hb := B.bytes
  have hr := B.returns
  have hts := atoms_spec (ws := wsX4_leastSeenLevel) B.pre
  have hown : s.vm.findClass RX4 = some m.cls := findClass_of_methodNamed B.named
  have hlocks := B.notSynchronized
  have hK := hE.1
  subst hsz
  have hD := hD0.self (sz := s.heap.size)
  generalize hAe : va_A [(x, .inr (4, [.ref (a 0), .ref (h 0), .ref (tx 0), .ref (g 0), .ref (k 0)])), ((a 0), .inr (2, [.ref (a 1), .ref (a 2), .ref (a 3), .ref (a 4), .ref (a 5), .ref (a 6), .ref (a 7), .int (v 1), .int (v 0), .int (v 7)])), ((a 2), .inl (cI, 6, .inl (fun j => v (14 + j)))), ((a 7), .inl (cI, 5, .inl (fun j => v (2 + j)))), ((k 0), .inr (0, [.ref (k 1), .ref (k 2), .ref (k 3), .ref (k 4), .ref (k 5), .ref (k 6), .ref (k 7), .int kln, .int kpe, .int kne])), ((k 1), .inl (cI, 96, .inl kow)), ((k 2), .inl (cI, 96, .inl kli)), ((k 3), .inl (cI, 6, .inl kgp)), ((k 4), .inl (cI, 6, .inl kls)), ((k 5), .inl (cI, 6, .inl klv)), ((k 6), .inl (cI, 6, .inl kcr)), ((k 7), .inl (cI, 6, .inl kdr))] s.heap.size = A at hD hE ⊢
  have hA : ∀ q : Nat, s.heap.size ≤ q → A q := fun q h => by rw [← hAe]; exact Or.inr h
  have hS : va_S A s.heap s.heap [] := va_S.rf
  have hP : va_P (dC, dI) vwCl [(x, .inr (4, [.ref (a 0), .ref (h 0), .ref (tx 0), .ref (g 0), .ref (k 0)])), ((a 0), .inr (2, [.ref (a 1), .ref (a 2), .ref (a 3), .ref (a 4), .ref (a 5), .ref (a 6), .ref (a 7), .int (v 1), .int (v 0), .int (v 7)])), ((a 2), .inl (cI, 6, .inl (fun j => v (14 + j)))), ((a 7), .inl (cI, 5, .inl (fun j => v (2 + j)))), ((k 0), .inr (0, [.ref (k 1), .ref (k 2), .ref (k 3), .ref (k 4), .ref (k 5), .ref (k 6), .ref (k 7), .int kln, .int kpe, .int kne])), ((k 1), .inl (cI, 96, .inl kow)), ((k 2), .inl (cI, 96, .inl kli)), ((k 3), .inl (cI, 6, .inl kgp)), ((k 4), .inl (cI, 6, .inl kls)), ((k 5), .inl (cI, 6, .inl klv)), ((k 6), .inl (cI, 6, .inl kcr)), ((k 7), .inl (cI, 6, .inl kdr))] s.heap := hP
  have hin4 : ∀ w ∈ u_ws RX4 TX4 5, w ∈ wsX4_leastSeenLevel := by decide +kernel
  have hl := lv_entry [.ref x, .int (nI d)] (n := 3) (Nat.le_of_ble_eq_true rfl)
  rw [lg_entry_eq]
  generalize (lg_sl [.ref x, .int (nI d)] ++ List.replicate (3 - (lg_sl [.ref x, .int (nI d)]).length) Slot.unset).toArray = lz at hl ⊢
  have hl : lv_has lz 3 [(0, .ref x), (1, .int (nI d))] := hl
  obtain ⟨hno, hd6⟩ := hpre
  refine lv_iconst (v := 0) hx hb dX4_leastSeenLevel_0 (by decide) ?_
  refine lv_istore_n (lv' := [(2, .int 0), (0, .ref x), (1, .int (nI d))]) hx hb dX4_leastSeenLevel_1 rfl hl (by decide) rfl (fun lz hl => ?_)
  have L2 : ∀ (zz i : Nat), i ≤ 16 → 16 + 1 ≤ i + zz → ∀ (kow3 : Nat → Int32) (kli3 : Nat → Int32) (kgp3 : Nat → Int32) (kls3 : Nat → Int32) (klv3 : Nat → Int32) (kcr3 : Nat → Int32) (kdr3 : Nat → Int32) (kln3 : Int32) (kpe3 : Int32) (kne3 : Int32), (ls_to v n d (16 - i) i = ls_to v n d 16 0) → ∀ (H : Heap) (locs : List Loc), va_P (dC, dI) vwCl [(x, .inr (4, [.ref (a 0), .ref (h 0), .ref (tx 0), .ref (g 0), .ref (k 0)])), ((a 0), .inr (2, [.ref (a 1), .ref (a 2), .ref (a 3), .ref (a 4), .ref (a 5), .ref (a 6), .ref (a 7), .int (v 1), .int (v 0), .int (v 7)])), ((a 2), .inl (cI, 6, .inl (fun j => v (14 + j)))), ((a 7), .inl (cI, 5, .inl (fun j => v (2 + j)))), ((k 0), .inr (0, [.ref (k 1), .ref (k 2), .ref (k 3), .ref (k 4), .ref (k 5), .ref (k 6), .ref (k 7), .int kln3, .int kpe3, .int kne3])), ((k 1), .inl (cI, 96, .inl kow3)), ((k 2), .inl (cI, 96, .inl kli3)), ((k 3), .inl (cI, 6, .inl kgp3)), ((k 4), .inl (cI, 6, .inl kls3)), ((k 5), .inl (cI, 6, .inl klv3)), ((k 6), .inl (cI, 6, .inl kcr3)), ((k 7), .inl (cI, 6, .inl kdr3))] H → va_D A [(x, .inr (4, [.ref (a 0), .ref (h 0), .ref (tx 0), .ref (g 0), .ref (k 0)])), ((a 0), .inr (2, [.ref (a 1), .ref (a 2), .ref (a 3), .ref (a 4), .ref (a 5), .ref (a 6), .ref (a 7), .int (v 1), .int (v 0), .int (v 7)])), ((a 2), .inl (cI, 6, .inl (fun j => v (14 + j)))), ((a 7), .inl (cI, 5, .inl (fun j => v (2 + j)))), ((k 0), .inr (0, [.ref (k 1), .ref (k 2), .ref (k 3), .ref (k 4), .ref (k 5), .ref (k 6), .ref (k 7), .int kln3, .int kpe3, .int kne3])), ((k 1), .inl (cI, 96, .inl kow3)), ((k 2), .inl (cI, 96, .inl kli3)), ((k 3), .inl (cI, 6, .inl kgp3)), ((k 4), .inl (cI, 6, .inl kls3)), ((k 5), .inl (cI, 6, .inl klv3)), ((k 6), .inl (cI, 6, .inl kcr3)), ((k 7), .inl (cI, 6, .inl kdr3))] → va_S A s.heap H locs → ∀ (lz : Array Slot), lv_has lz 3 [(0, .ref x), (1, .int (nI d)), (2, .int (nI i))] → W p l e (headSpec wsX4_leastSeenLevel ({ frames := 4, cells := 0, slots := 0, locals := 90 } : Room)).room s m ([.ref x, .int (nI d)] : List Value).toArray below meth c H locs 0 0 (MQ below (va_Qi (fun (r : Int32) (u : (Nat → Int32) × (Nat → Int32) × (Nat → Int32) × (Nat → Int32) × (Nat → Int32) × (Nat → Int32) × (Nat → Int32) × Int32 × Int32 × Int32) => r = ls_to v n d 16 0) (xm_B (dC, dI) (fun (u : (Nat → Int32) × (Nat → Int32) × (Nat → Int32) × (Nat → Int32) × (Nat → Int32) × (Nat → Int32) × (Nat → Int32) × Int32 × Int32 × Int32) => [(x, .inr (4, [.ref (a 0), .ref (h 0), .ref (tx 0), .ref (g 0), .ref (k 0)])), ((a 0), .inr (2, [.ref (a 1), .ref (a 2), .ref (a 3), .ref (a 4), .ref (a 5), .ref (a 6), .ref (a 7), .int (v 1), .int (v 0), .int (v 7)])), ((a 2), .inl (cI, 6, .inl (fun j => v (14 + j)))), ((a 7), .inl (cI, 5, .inl (fun j => v (2 + j)))), ((k 0), .inr (0, [.ref (k 1), .ref (k 2), .ref (k 3), .ref (k 4), .ref (k 5), .ref (k 6), .ref (k 7), .int u.2.2.2.2.2.2.2.1, .int u.2.2.2.2.2.2.2.2.1, .int u.2.2.2.2.2.2.2.2.2])), ((k 1), .inl (cI, 96, .inl u.1)), ((k 2), .inl (cI, 96, .inl u.2.1)), ((k 3), .inl (cI, 6, .inl u.2.2.1)), ((k 4), .inl (cI, 6, .inl u.2.2.2.1)), ((k 5), .inl (cI, 6, .inl u.2.2.2.2.1)), ((k 6), .inl (cI, 6, .inl u.2.2.2.2.2.1)), ((k 7), .inl (cI, 6, .inl u.2.2.2.2.2.2.1))]) A) A) ([.ref x, .int (nI d)] : List Value).toArray s 0 0 A) (F0 m 2 lz []) := by
    intro zz
    induction zz with
    | zero => intro i hii hni; exact absurd hni (by omega)
    | succ zz ih2 =>
      intro i hii hni kow3 kli3 kgp3 kls3 klv3 kcr3 kdr3 kln3 kpe3 kne3  hst H locs hP hD hS lz hl
      refine lv_iload_n hx hb dX4_leastSeenLevel_2 rfl (lv_at hl 2 rfl) ?_
      refine lv_bipush (v := 15) hx hb dX4_leastSeenLevel_3 (by decide) ?_
      refine lv_icmp_gt (tgt := 40) hx hb dX4_leastSeenLevel_5 (by decide) (fun q5 => ?_) (fun q5 => ?_)
      · have hNi : 16 = i := by have h := (nI_ltI (a := 15) (b := i) (by decide) (by omega)).mp q5; omega
        subst hNi
        refine lv_iconst (v := (-1)) hx hb dX4_leastSeenLevel_40 (by decide) ?_
        have hP9 : va_P (dC, dI) vwCl [(x, .inr (4, [.ref (a 0), .ref (h 0), .ref (tx 0), .ref (g 0), .ref (k 0)])), ((a 0), .inr (2, [.ref (a 1), .ref (a 2), .ref (a 3), .ref (a 4), .ref (a 5), .ref (a 6), .ref (a 7), .int (v 1), .int (v 0), .int (v 7)])), ((a 2), .inl (cI, 6, .inl (fun j => v (14 + j)))), ((a 7), .inl (cI, 5, .inl (fun j => v (2 + j)))), ((k 0), .inr (0, [.ref (k 1), .ref (k 2), .ref (k 3), .ref (k 4), .ref (k 5), .ref (k 6), .ref (k 7), .int kln3, .int kpe3, .int kne3])), ((k 1), .inl (cI, 96, .inl kow3)), ((k 2), .inl (cI, 96, .inl kli3)), ((k 3), .inl (cI, 6, .inl kgp3)), ((k 4), .inl (cI, 6, .inl kls3)), ((k 5), .inl (cI, 6, .inl klv3)), ((k 6), .inl (cI, 6, .inl kcr3)), ((k 7), .inl (cI, 6, .inl kdr3))] H := hP
        have hD9 : va_D A [(x, .inr (4, [.ref (a 0), .ref (h 0), .ref (tx 0), .ref (g 0), .ref (k 0)])), ((a 0), .inr (2, [.ref (a 1), .ref (a 2), .ref (a 3), .ref (a 4), .ref (a 5), .ref (a 6), .ref (a 7), .int (v 1), .int (v 0), .int (v 7)])), ((a 2), .inl (cI, 6, .inl (fun j => v (14 + j)))), ((a 7), .inl (cI, 5, .inl (fun j => v (2 + j)))), ((k 0), .inr (0, [.ref (k 1), .ref (k 2), .ref (k 3), .ref (k 4), .ref (k 5), .ref (k 6), .ref (k 7), .int kln3, .int kpe3, .int kne3])), ((k 1), .inl (cI, 96, .inl kow3)), ((k 2), .inl (cI, 96, .inl kli3)), ((k 3), .inl (cI, 6, .inl kgp3)), ((k 4), .inl (cI, 6, .inl kls3)), ((k 5), .inl (cI, 6, .inl klv3)), ((k 6), .inl (cI, 6, .inl kcr3)), ((k 7), .inl (cI, 6, .inl kdr3))] := hD
        exact W.iret (v := (-1)) hx hb hr (fun t ht hW => ⟨⟨(-1), (kow3, kli3, kgp3, kls3, klv3, kcr3, kdr3, kln3, kpe3, kne3), rfl, (by rw [← hst, Nat.sub_self]; rfl), by rw [ht]; exact hP9, hD9⟩, hS.F ht⟩) hS.2.2 dX4_leastSeenLevel_41
      · have hlti : i < 16 := by have h := (not_congr (nI_ltI (a := 15) (b := i) (by decide) (by omega))).mp q5; omega
        refine lv_aload_n hx hb dX4_leastSeenLevel_8 rfl (lv_at hl 0 rfl) ?_
        refine va_get (D := (dC, dI)) (ci := 4) (v := .ref (k 0)) (C := RX4) (T := TX4) (N := 5) hx hb hts hin4 hown hK hP 0 rfl rfl 4 (by decide) (hts (.fieldLink RX4 37 "TurnDigits" "trial" "LTurnDigits$Frame;") (by decide +kernel)) (fun _ h9 => h9) rfl dX4_leastSeenLevel_9 ?_
        refine lv_aload_n hx hb dX4_leastSeenLevel_12 rfl (lv_at hl 0 rfl) ?_
        refine va_get (D := (dC, dI)) (ci := 4) (v := .ref (a 0)) (C := RX4) (T := TX4) (N := 5) hx hb hts hin4 hown hK hP 0 rfl rfl 0 (by decide) (hts (.fieldLink RX4 10 "TurnDigits" "state" "LTurnDigits$State;") (by decide +kernel)) (fun _ h9 => h9) rfl dX4_leastSeenLevel_13 ?_
        refine lv_iload_n hx hb dX4_leastSeenLevel_16 rfl (lv_at hl 1 rfl) ?_
        refine lv_iload_n hx hb dX4_leastSeenLevel_17 rfl (lv_at hl 2 rfl) ?_
        have hPc := hP.sub (ws' := [((k 0), .inr (0, [.ref (k 1), .ref (k 2), .ref (k 3), .ref (k 4), .ref (k 5), .ref (k 6), .ref (k 7), .int kln3, .int kpe3, .int kne3])), ((k 1), .inl (cI, 96, .inl kow3)), ((k 2), .inl (cI, 96, .inl kli3)), ((k 3), .inl (cI, 6, .inl kgp3)), ((k 4), .inl (cI, 6, .inl kls3)), ((k 5), .inl (cI, 6, .inl klv3)), ((k 6), .inl (cI, 6, .inl kcr3)), ((k 7), .inl (cI, 6, .inl kdr3)), ((a 0), .inr (2, [.ref (a 1), .ref (a 2), .ref (a 3), .ref (a 4), .ref (a 5), .ref (a 6), .ref (a 7), .int (v 1), .int (v 0), .int (v 7)])), ((a 2), .inl (cI, 6, .inl (fun j => v (14 + j)))), ((a 7), .inl (cI, 5, .inl (fun j => v (2 + j))))]) [4, 5, 6, 7, 8, 9, 10, 11, 1, 2, 3] rfl
        have hDc := hD.sub (ws' := [((k 0), .inr (0, [.ref (k 1), .ref (k 2), .ref (k 3), .ref (k 4), .ref (k 5), .ref (k 6), .ref (k 7), .int kln3, .int kpe3, .int kne3])), ((k 1), .inl (cI, 96, .inl kow3)), ((k 2), .inl (cI, 96, .inl kli3)), ((k 3), .inl (cI, 6, .inl kgp3)), ((k 4), .inl (cI, 6, .inl kls3)), ((k 5), .inl (cI, 6, .inl klv3)), ((k 6), .inl (cI, 6, .inl kcr3)), ((k 7), .inl (cI, 6, .inl kdr3)), ((a 0), .inr (2, [.ref (a 1), .ref (a 2), .ref (a 3), .ref (a 4), .ref (a 5), .ref (a 6), .ref (a 7), .int (v 1), .int (v 0), .int (v 7)])), ((a 2), .inl (cI, 6, .inl (fun j => v (14 + j)))), ((a 7), .inl (cI, 5, .inl (fun j => v (2 + j))))]) [4, 5, 6, 7, 8, 9, 10, 11, 1, 2, 3] (by decide) rfl
        have hFc := va_free (wc := [((k 0), .inr (0, [.ref (k 1), .ref (k 2), .ref (k 3), .ref (k 4), .ref (k 5), .ref (k 6), .ref (k 7), .int kln3, .int kpe3, .int kne3])), ((k 1), .inl (cI, 96, .inl kow3)), ((k 2), .inl (cI, 96, .inl kli3)), ((k 3), .inl (cI, 6, .inl kgp3)), ((k 4), .inl (cI, 6, .inl kls3)), ((k 5), .inl (cI, 6, .inl klv3)), ((k 6), .inl (cI, 6, .inl kcr3)), ((k 7), .inl (cI, 6, .inl kdr3)), ((a 0), .inr (2, [.ref (a 1), .ref (a 2), .ref (a 3), .ref (a 4), .ref (a 5), .ref (a 6), .ref (a 7), .int (v 1), .int (v 0), .int (v 7)])), ((a 2), .inl (cI, 6, .inl (fun j => v (14 + j)))), ((a 7), .inl (cI, 5, .inl (fun j => v (2 + j))))]) hD hS hA [4, 5, 6, 7, 8, 9, 10, 11, 1, 2, 3] rfl
        refine va_callv (va_runV (As := [.ref (a 0), .int (nI d), .int (nI i)]) (rest := []) ⟨hx, hb, hml, hown, hts⟩ (c_X0_foreseeLevel l dC dI cI cS cJ tt H.size k kow3 kli3 kgp3 kls3 klv3 kcr3 kdr3 kln3 kpe3 kne3 a (v 1) (v 0) (v 7) (fun j => v (14 + j)) (fun j => v (2 + j)) n d (nI i)) (cwV 3 hts gX4_leastSeenLevel_X0_foreseeLevel rfl rfl rfl (by decide +kernel) ⟨Nat.le_of_ble_eq_true rfl, Nat.le_of_ble_eq_true rfl⟩) ⟨xm_Mblind, va_recv hK hPc (ci := 0) (q0 := 0) rfl rfl, fun U hU hW => ⟨rfl, by rw [hU], by rw [hU]; exact hPc, hE.go hS hFc hU hW, hDc.weaken (fun _ _ _ _ => trivial), ⟨hno, hd6⟩⟩⟩ rfl rfl hl.1 rfl (lv_room (Nat.le_of_ble_eq_true rfl)) dX4_leastSeenLevel_18 ⟨Nat.zero_le _, Nat.zero_le _⟩) hS (fun q _ h => hFc q h) hFc (fun u t H1 locs ht hvm hw hB hz1 hk1 hS => ?_)
        obtain ⟨u_1, u_2, u_3, u_4, u_5, u_6, u_7, u_8, u_9, u_10⟩ := u
        obtain ⟨hP1, hD1⟩ := hB
        rw [ht] at hP1
        obtain ⟨hw_11, hw_12, hw_13, hw_14, hw_15, hw_16, hw_17, hw_18, hw_19, hw_20⟩ := hw
        have hw_11 : u_1 = fm_fl (fr_ow (upd (fun j => v (14 + j)) d (nI i)) (fun _ => 0)) kow3 n := hw_11
        subst hw_11
        have hw_12 : u_2 = fm_fl (fr_li (upd (fun j => v (14 + j)) d (nI i)) (fun _ => 0) (v 7) (fm_dk ((fun j => v (2 + j)) 1))) kli3 n := hw_12
        subst hw_12
        have hw_13 : u_3 = fr_gp (fr_li (upd (fun j => v (14 + j)) d (nI i)) (fun _ => 0) (v 7) (fm_dk ((fun j => v (2 + j)) 1))) n := hw_13
        subst hw_13
        have hw_14 : u_4 = fr_ls (fr_li (upd (fun j => v (14 + j)) d (nI i)) (fun _ => 0) (v 7) (fm_dk ((fun j => v (2 + j)) 1))) n := hw_14
        subst hw_14
        have hw_15 : u_5 = (upd (fun j => v (14 + j)) d (nI i)) := hw_15
        subst hw_15
        have hw_16 : u_6 = fr_cr (upd (fun j => v (14 + j)) d (nI i)) (fun _ => 0) n := hw_16
        subst hw_16
        have hw_17 : u_7 = fr_dr (fr_li (upd (fun j => v (14 + j)) d (nI i)) (fun _ => 0) (v 7) (fm_dk ((fun j => v (2 + j)) 1))) n := hw_17
        subst hw_17
        have hw_18 : u_8 = (fun j => v (2 + j)) 0 := hw_18
        subst hw_18
        have hw_19 : u_9 = (fun j => v (2 + j)) 2 := hw_19
        subst hw_19
        have hw_20 : u_10 = (fun j => v (2 + j)) 3 * (v 1) := hw_20
        subst hw_20
        obtain ⟨hP, hD⟩ := va_join (wr := [(x, .inr (4, [.ref (a 0), .ref (h 0), .ref (tx 0), .ref (g 0), .ref (k 0)]))]) (w1 := [((k 0), .inr (0, [.ref (k 1), .ref (k 2), .ref (k 3), .ref (k 4), .ref (k 5), .ref (k 6), .ref (k 7), .int ((fun j => v (2 + j)) 0), .int ((fun j => v (2 + j)) 2), .int ((fun j => v (2 + j)) 3 * (v 1))])), ((k 1), .inl (cI, 96, .inl (fm_fl (fr_ow (upd (fun j => v (14 + j)) d (nI i)) (fun _ => 0)) kow3 n))), ((k 2), .inl (cI, 96, .inl (fm_fl (fr_li (upd (fun j => v (14 + j)) d (nI i)) (fun _ => 0) (v 7) (fm_dk ((fun j => v (2 + j)) 1))) kli3 n))), ((k 3), .inl (cI, 6, .inl (fr_gp (fr_li (upd (fun j => v (14 + j)) d (nI i)) (fun _ => 0) (v 7) (fm_dk ((fun j => v (2 + j)) 1))) n))), ((k 4), .inl (cI, 6, .inl (fr_ls (fr_li (upd (fun j => v (14 + j)) d (nI i)) (fun _ => 0) (v 7) (fm_dk ((fun j => v (2 + j)) 1))) n))), ((k 5), .inl (cI, 6, .inl (upd (fun j => v (14 + j)) d (nI i)))), ((k 6), .inl (cI, 6, .inl (fr_cr (upd (fun j => v (14 + j)) d (nI i)) (fun _ => 0) n))), ((k 7), .inl (cI, 6, .inl (fr_dr (fr_li (upd (fun j => v (14 + j)) d (nI i)) (fun _ => 0) (v 7) (fm_dk ((fun j => v (2 + j)) 1))) n))), ((a 0), .inr (2, [.ref (a 1), .ref (a 2), .ref (a 3), .ref (a 4), .ref (a 5), .ref (a 6), .ref (a 7), .int (v 1), .int (v 0), .int (v 7)])), ((a 2), .inl (cI, 6, .inl (fun j => v (14 + j)))), ((a 7), .inl (cI, 5, .inl (fun j => v (2 + j))))]) hP hD [4, 5, 6, 7, 8, 9, 10, 11, 1, 2, 3] [0] rfl rfl (by decide) (by decide) hk1 hFc hP1 hD1
        generalize H1 = H at hP hS ⊢
        have hP : va_P (dC, dI) vwCl [(x, .inr (4, [.ref (a 0), .ref (h 0), .ref (tx 0), .ref (g 0), .ref (k 0)])), ((k 0), .inr (0, [.ref (k 1), .ref (k 2), .ref (k 3), .ref (k 4), .ref (k 5), .ref (k 6), .ref (k 7), .int ((fun j => v (2 + j)) 0), .int ((fun j => v (2 + j)) 2), .int ((fun j => v (2 + j)) 3 * (v 1))])), ((k 1), .inl (cI, 96, .inl (fm_fl (fr_ow (upd (fun j => v (14 + j)) d (nI i)) (fun _ => 0)) kow3 n))), ((k 2), .inl (cI, 96, .inl (fm_fl (fr_li (upd (fun j => v (14 + j)) d (nI i)) (fun _ => 0) (v 7) (fm_dk ((fun j => v (2 + j)) 1))) kli3 n))), ((k 3), .inl (cI, 6, .inl (fr_gp (fr_li (upd (fun j => v (14 + j)) d (nI i)) (fun _ => 0) (v 7) (fm_dk ((fun j => v (2 + j)) 1))) n))), ((k 4), .inl (cI, 6, .inl (fr_ls (fr_li (upd (fun j => v (14 + j)) d (nI i)) (fun _ => 0) (v 7) (fm_dk ((fun j => v (2 + j)) 1))) n))), ((k 5), .inl (cI, 6, .inl (upd (fun j => v (14 + j)) d (nI i)))), ((k 6), .inl (cI, 6, .inl (fr_cr (upd (fun j => v (14 + j)) d (nI i)) (fun _ => 0) n))), ((k 7), .inl (cI, 6, .inl (fr_dr (fr_li (upd (fun j => v (14 + j)) d (nI i)) (fun _ => 0) (v 7) (fm_dk ((fun j => v (2 + j)) 1))) n))), ((a 0), .inr (2, [.ref (a 1), .ref (a 2), .ref (a 3), .ref (a 4), .ref (a 5), .ref (a 6), .ref (a 7), .int (v 1), .int (v 0), .int (v 7)])), ((a 2), .inl (cI, 6, .inl (fun j => v (14 + j)))), ((a 7), .inl (cI, 5, .inl (fun j => v (2 + j))))] H := hP
        have hD : va_D A [(x, .inr (4, [.ref (a 0), .ref (h 0), .ref (tx 0), .ref (g 0), .ref (k 0)])), ((k 0), .inr (0, [.ref (k 1), .ref (k 2), .ref (k 3), .ref (k 4), .ref (k 5), .ref (k 6), .ref (k 7), .int ((fun j => v (2 + j)) 0), .int ((fun j => v (2 + j)) 2), .int ((fun j => v (2 + j)) 3 * (v 1))])), ((k 1), .inl (cI, 96, .inl (fm_fl (fr_ow (upd (fun j => v (14 + j)) d (nI i)) (fun _ => 0)) kow3 n))), ((k 2), .inl (cI, 96, .inl (fm_fl (fr_li (upd (fun j => v (14 + j)) d (nI i)) (fun _ => 0) (v 7) (fm_dk ((fun j => v (2 + j)) 1))) kli3 n))), ((k 3), .inl (cI, 6, .inl (fr_gp (fr_li (upd (fun j => v (14 + j)) d (nI i)) (fun _ => 0) (v 7) (fm_dk ((fun j => v (2 + j)) 1))) n))), ((k 4), .inl (cI, 6, .inl (fr_ls (fr_li (upd (fun j => v (14 + j)) d (nI i)) (fun _ => 0) (v 7) (fm_dk ((fun j => v (2 + j)) 1))) n))), ((k 5), .inl (cI, 6, .inl (upd (fun j => v (14 + j)) d (nI i)))), ((k 6), .inl (cI, 6, .inl (fr_cr (upd (fun j => v (14 + j)) d (nI i)) (fun _ => 0) n))), ((k 7), .inl (cI, 6, .inl (fr_dr (fr_li (upd (fun j => v (14 + j)) d (nI i)) (fun _ => 0) (v 7) (fm_dk ((fun j => v (2 + j)) 1))) n))), ((a 0), .inr (2, [.ref (a 1), .ref (a 2), .ref (a 3), .ref (a 4), .ref (a 5), .ref (a 6), .ref (a 7), .int (v 1), .int (v 0), .int (v 7)])), ((a 2), .inl (cI, 6, .inl (fun j => v (14 + j)))), ((a 7), .inl (cI, 5, .inl (fun j => v (2 + j))))] := hD
        refine lv_aload_n hx hb dX4_leastSeenLevel_21 rfl (lv_at hl 0 rfl) ?_
        refine va_get (D := (dC, dI)) (ci := 4) (v := .ref (k 0)) (C := RX4) (T := TX4) (N := 5) hx hb hts hin4 hown hK hP 0 rfl rfl 4 (by decide) (hts (.fieldLink RX4 37 "TurnDigits" "trial" "LTurnDigits$Frame;") (by decide +kernel)) (fun _ h9 => h9) rfl dX4_leastSeenLevel_22 ?_
        refine lv_iload_n hx hb dX4_leastSeenLevel_25 rfl (lv_at hl 1 rfl) ?_
        have hPc := hP.sub (ws' := [((k 0), .inr (0, [.ref (k 1), .ref (k 2), .ref (k 3), .ref (k 4), .ref (k 5), .ref (k 6), .ref (k 7), .int ((fun j => v (2 + j)) 0), .int ((fun j => v (2 + j)) 2), .int ((fun j => v (2 + j)) 3 * (v 1))])), ((k 3), .inl (cI, 6, .inl (fr_gp (fr_li (upd (fun j => v (14 + j)) d (nI i)) (fun _ => 0) (v 7) (fm_dk ((fun j => v (2 + j)) 1))) n))), ((k 4), .inl (cI, 6, .inl (fr_ls (fr_li (upd (fun j => v (14 + j)) d (nI i)) (fun _ => 0) (v 7) (fm_dk ((fun j => v (2 + j)) 1))) n)))]) [1, 4, 5] rfl
        refine W.callV ((va_runV (As := [.int (nI d)]) (rest := []) ⟨hx, hb, hml, hown, hts⟩ (c_X0_isSeen l dC dI cI cS cJ tt k (fr_gp (fr_li (upd (fun j => v (14 + j)) d (nI i)) (fun _ => 0) (v 7) (fm_dk ((fun j => v (2 + j)) 1))) n) (fr_ls (fr_li (upd (fun j => v (14 + j)) d (nI i)) (fun _ => 0) (v 7) (fm_dk ((fun j => v (2 + j)) 1))) n) ((fun j => v (2 + j)) 0) ((fun j => v (2 + j)) 2) ((fun j => v (2 + j)) 3 * (v 1)) d) (cwV 1 hts gX4_leastSeenLevel_X0_isSeen rfl rfl rfl (by decide +kernel) ⟨Nat.le_of_ble_eq_true rfl, Nat.le_of_ble_eq_true rfl⟩) ⟨xm_Rblind, va_recv hK hPc (ci := 0) (q0 := 0) rfl rfl, fun U hU hW => ⟨rfl, by rw [hU]; exact hPc, hE.go hS (fun _ q => q.elim) hU hW, hd6⟩⟩ rfl rfl hl.1 rfl (lv_room (Nat.le_of_ble_eq_true rfl)) dX4_leastSeenLevel_26 ⟨Nat.zero_le _, Nat.zero_le _⟩).run) ?_
        refine W.eq (g2 := F0 m 29 lz (.int (fm_see (fm_light ((fun j => v (2 + j)) 0) ((fr_ls (fr_li (upd (fun j => v (14 + j)) d (nI i)) (fun _ => 0) (v 7) (fm_dk ((fun j => v (2 + j)) 1))) n) d)) ((fun j => v (2 + j)) 3 * (v 1)) (fm_flk ((fr_ls (fr_li (upd (fun j => v (14 + j)) d (nI i)) (fun _ => 0) (v 7) (fm_dk ((fun j => v (2 + j)) 1))) n) d) ((fr_gp (fr_li (upd (fun j => v (14 + j)) d (nI i)) (fun _ => 0) (v 7) (fm_dk ((fun j => v (2 + j)) 1))) n) d) ((fun j => v (2 + j)) 2))) :: [])) rfl ?_
        refine xm_topi (y := (if_see v n d (nI i) d)) rfl ?_
        refine lv_if_eq (tgt := 34) hx hb dX4_leastSeenLevel_29 (by decide) (fun q29 => ?_) (fun q29 => ?_)
        · refine lv_iinc (v := nI (i + 1)) (lv' := [(2, .int (nI (i + 1))), (0, .ref x), (1, .int (nI d))]) hx hb dX4_leastSeenLevel_34 hl (k := 2) rfl (nI_1 i) (by decide) rfl (fun lz hl => ?_)
          refine lv_goto (tgt := 2) hx hb dX4_leastSeenLevel_37 (by decide) ?_
          have hP := hP.sub (ws' := [(x, .inr (4, [.ref (a 0), .ref (h 0), .ref (tx 0), .ref (g 0), .ref (k 0)])), ((a 0), .inr (2, [.ref (a 1), .ref (a 2), .ref (a 3), .ref (a 4), .ref (a 5), .ref (a 6), .ref (a 7), .int (v 1), .int (v 0), .int (v 7)])), ((a 2), .inl (cI, 6, .inl (fun j => v (14 + j)))), ((a 7), .inl (cI, 5, .inl (fun j => v (2 + j)))), ((k 0), .inr (0, [.ref (k 1), .ref (k 2), .ref (k 3), .ref (k 4), .ref (k 5), .ref (k 6), .ref (k 7), .int ((fun j => v (2 + j)) 0), .int ((fun j => v (2 + j)) 2), .int ((fun j => v (2 + j)) 3 * (v 1))])), ((k 1), .inl (cI, 96, .inl (fm_fl (fr_ow (upd (fun j => v (14 + j)) d (nI i)) (fun _ => 0)) kow3 n))), ((k 2), .inl (cI, 96, .inl (fm_fl (fr_li (upd (fun j => v (14 + j)) d (nI i)) (fun _ => 0) (v 7) (fm_dk ((fun j => v (2 + j)) 1))) kli3 n))), ((k 3), .inl (cI, 6, .inl (fr_gp (fr_li (upd (fun j => v (14 + j)) d (nI i)) (fun _ => 0) (v 7) (fm_dk ((fun j => v (2 + j)) 1))) n))), ((k 4), .inl (cI, 6, .inl (fr_ls (fr_li (upd (fun j => v (14 + j)) d (nI i)) (fun _ => 0) (v 7) (fm_dk ((fun j => v (2 + j)) 1))) n))), ((k 5), .inl (cI, 6, .inl (upd (fun j => v (14 + j)) d (nI i)))), ((k 6), .inl (cI, 6, .inl (fr_cr (upd (fun j => v (14 + j)) d (nI i)) (fun _ => 0) n))), ((k 7), .inl (cI, 6, .inl (fr_dr (fr_li (upd (fun j => v (14 + j)) d (nI i)) (fun _ => 0) (v 7) (fm_dk ((fun j => v (2 + j)) 1))) n)))]) [0, 9, 10, 11, 1, 2, 3, 4, 5, 6, 7, 8] rfl
          have hD := hD.sub (ws' := [(x, .inr (4, [.ref (a 0), .ref (h 0), .ref (tx 0), .ref (g 0), .ref (k 0)])), ((a 0), .inr (2, [.ref (a 1), .ref (a 2), .ref (a 3), .ref (a 4), .ref (a 5), .ref (a 6), .ref (a 7), .int (v 1), .int (v 0), .int (v 7)])), ((a 2), .inl (cI, 6, .inl (fun j => v (14 + j)))), ((a 7), .inl (cI, 5, .inl (fun j => v (2 + j)))), ((k 0), .inr (0, [.ref (k 1), .ref (k 2), .ref (k 3), .ref (k 4), .ref (k 5), .ref (k 6), .ref (k 7), .int ((fun j => v (2 + j)) 0), .int ((fun j => v (2 + j)) 2), .int ((fun j => v (2 + j)) 3 * (v 1))])), ((k 1), .inl (cI, 96, .inl (fm_fl (fr_ow (upd (fun j => v (14 + j)) d (nI i)) (fun _ => 0)) kow3 n))), ((k 2), .inl (cI, 96, .inl (fm_fl (fr_li (upd (fun j => v (14 + j)) d (nI i)) (fun _ => 0) (v 7) (fm_dk ((fun j => v (2 + j)) 1))) kli3 n))), ((k 3), .inl (cI, 6, .inl (fr_gp (fr_li (upd (fun j => v (14 + j)) d (nI i)) (fun _ => 0) (v 7) (fm_dk ((fun j => v (2 + j)) 1))) n))), ((k 4), .inl (cI, 6, .inl (fr_ls (fr_li (upd (fun j => v (14 + j)) d (nI i)) (fun _ => 0) (v 7) (fm_dk ((fun j => v (2 + j)) 1))) n))), ((k 5), .inl (cI, 6, .inl (upd (fun j => v (14 + j)) d (nI i)))), ((k 6), .inl (cI, 6, .inl (fr_cr (upd (fun j => v (14 + j)) d (nI i)) (fun _ => 0) n))), ((k 7), .inl (cI, 6, .inl (fr_dr (fr_li (upd (fun j => v (14 + j)) d (nI i)) (fun _ => 0) (v 7) (fm_dk ((fun j => v (2 + j)) 1))) n)))]) [0, 9, 10, 11, 1, 2, 3, 4, 5, 6, 7, 8] (by decide) rfl
          exact ih2 (i + 1) hlti (by omega) (fm_fl (fr_ow (upd (fun j => v (14 + j)) d (nI i)) (fun _ => 0)) kow3 n) (fm_fl (fr_li (upd (fun j => v (14 + j)) d (nI i)) (fun _ => 0) (v 7) (fm_dk ((fun j => v (2 + j)) 1))) kli3 n) (fr_gp (fr_li (upd (fun j => v (14 + j)) d (nI i)) (fun _ => 0) (v 7) (fm_dk ((fun j => v (2 + j)) 1))) n) (fr_ls (fr_li (upd (fun j => v (14 + j)) d (nI i)) (fun _ => 0) (v 7) (fm_dk ((fun j => v (2 + j)) 1))) n) (upd (fun j => v (14 + j)) d (nI i)) (fr_cr (upd (fun j => v (14 + j)) d (nI i)) (fun _ => 0) n) (fr_dr (fr_li (upd (fun j => v (14 + j)) d (nI i)) (fun _ => 0) (v 7) (fm_dk ((fun j => v (2 + j)) 1))) n) ((fun j => v (2 + j)) 0) ((fun j => v (2 + j)) 2) ((fun j => v (2 + j)) 3 * (v 1))           (by rw [← hst, ls_to_s hlti, if_pos q29]) H locs hP hD hS lz (lv_sub hl [1, 2, 0] rfl)
        · refine lv_iload_n hx hb dX4_leastSeenLevel_32 rfl (lv_at hl 2 rfl) ?_
          have hP9 := hP.sub (ws' := [(x, .inr (4, [.ref (a 0), .ref (h 0), .ref (tx 0), .ref (g 0), .ref (k 0)])), ((a 0), .inr (2, [.ref (a 1), .ref (a 2), .ref (a 3), .ref (a 4), .ref (a 5), .ref (a 6), .ref (a 7), .int (v 1), .int (v 0), .int (v 7)])), ((a 2), .inl (cI, 6, .inl (fun j => v (14 + j)))), ((a 7), .inl (cI, 5, .inl (fun j => v (2 + j)))), ((k 0), .inr (0, [.ref (k 1), .ref (k 2), .ref (k 3), .ref (k 4), .ref (k 5), .ref (k 6), .ref (k 7), .int ((fun j => v (2 + j)) 0), .int ((fun j => v (2 + j)) 2), .int ((fun j => v (2 + j)) 3 * (v 1))])), ((k 1), .inl (cI, 96, .inl (fm_fl (fr_ow (upd (fun j => v (14 + j)) d (nI i)) (fun _ => 0)) kow3 n))), ((k 2), .inl (cI, 96, .inl (fm_fl (fr_li (upd (fun j => v (14 + j)) d (nI i)) (fun _ => 0) (v 7) (fm_dk ((fun j => v (2 + j)) 1))) kli3 n))), ((k 3), .inl (cI, 6, .inl (fr_gp (fr_li (upd (fun j => v (14 + j)) d (nI i)) (fun _ => 0) (v 7) (fm_dk ((fun j => v (2 + j)) 1))) n))), ((k 4), .inl (cI, 6, .inl (fr_ls (fr_li (upd (fun j => v (14 + j)) d (nI i)) (fun _ => 0) (v 7) (fm_dk ((fun j => v (2 + j)) 1))) n))), ((k 5), .inl (cI, 6, .inl (upd (fun j => v (14 + j)) d (nI i)))), ((k 6), .inl (cI, 6, .inl (fr_cr (upd (fun j => v (14 + j)) d (nI i)) (fun _ => 0) n))), ((k 7), .inl (cI, 6, .inl (fr_dr (fr_li (upd (fun j => v (14 + j)) d (nI i)) (fun _ => 0) (v 7) (fm_dk ((fun j => v (2 + j)) 1))) n)))]) [0, 9, 10, 11, 1, 2, 3, 4, 5, 6, 7, 8] rfl
          have hD9 := hD.sub (ws' := [(x, .inr (4, [.ref (a 0), .ref (h 0), .ref (tx 0), .ref (g 0), .ref (k 0)])), ((a 0), .inr (2, [.ref (a 1), .ref (a 2), .ref (a 3), .ref (a 4), .ref (a 5), .ref (a 6), .ref (a 7), .int (v 1), .int (v 0), .int (v 7)])), ((a 2), .inl (cI, 6, .inl (fun j => v (14 + j)))), ((a 7), .inl (cI, 5, .inl (fun j => v (2 + j)))), ((k 0), .inr (0, [.ref (k 1), .ref (k 2), .ref (k 3), .ref (k 4), .ref (k 5), .ref (k 6), .ref (k 7), .int ((fun j => v (2 + j)) 0), .int ((fun j => v (2 + j)) 2), .int ((fun j => v (2 + j)) 3 * (v 1))])), ((k 1), .inl (cI, 96, .inl (fm_fl (fr_ow (upd (fun j => v (14 + j)) d (nI i)) (fun _ => 0)) kow3 n))), ((k 2), .inl (cI, 96, .inl (fm_fl (fr_li (upd (fun j => v (14 + j)) d (nI i)) (fun _ => 0) (v 7) (fm_dk ((fun j => v (2 + j)) 1))) kli3 n))), ((k 3), .inl (cI, 6, .inl (fr_gp (fr_li (upd (fun j => v (14 + j)) d (nI i)) (fun _ => 0) (v 7) (fm_dk ((fun j => v (2 + j)) 1))) n))), ((k 4), .inl (cI, 6, .inl (fr_ls (fr_li (upd (fun j => v (14 + j)) d (nI i)) (fun _ => 0) (v 7) (fm_dk ((fun j => v (2 + j)) 1))) n))), ((k 5), .inl (cI, 6, .inl (upd (fun j => v (14 + j)) d (nI i)))), ((k 6), .inl (cI, 6, .inl (fr_cr (upd (fun j => v (14 + j)) d (nI i)) (fun _ => 0) n))), ((k 7), .inl (cI, 6, .inl (fr_dr (fr_li (upd (fun j => v (14 + j)) d (nI i)) (fun _ => 0) (v 7) (fm_dk ((fun j => v (2 + j)) 1))) n)))]) [0, 9, 10, 11, 1, 2, 3, 4, 5, 6, 7, 8] (by decide) rfl
          exact W.iret (v := nI i) hx hb hr (fun t ht hW => ⟨⟨nI i, ((fm_fl (fr_ow (upd (fun j => v (14 + j)) d (nI i)) (fun _ => 0)) kow3 n), (fm_fl (fr_li (upd (fun j => v (14 + j)) d (nI i)) (fun _ => 0) (v 7) (fm_dk ((fun j => v (2 + j)) 1))) kli3 n), (fr_gp (fr_li (upd (fun j => v (14 + j)) d (nI i)) (fun _ => 0) (v 7) (fm_dk ((fun j => v (2 + j)) 1))) n), (fr_ls (fr_li (upd (fun j => v (14 + j)) d (nI i)) (fun _ => 0) (v 7) (fm_dk ((fun j => v (2 + j)) 1))) n), (upd (fun j => v (14 + j)) d (nI i)), (fr_cr (upd (fun j => v (14 + j)) d (nI i)) (fun _ => 0) n), (fr_dr (fr_li (upd (fun j => v (14 + j)) d (nI i)) (fun _ => 0) (v 7) (fm_dk ((fun j => v (2 + j)) 1))) n), ((fun j => v (2 + j)) 0), ((fun j => v (2 + j)) 2), ((fun j => v (2 + j)) 3 * (v 1))), rfl, (by rw [← hst, ls_to_s hlti, if_neg q29]), by rw [ht]; exact hP9, hD9⟩, hS.F ht⟩) hS.2.2 dX4_leastSeenLevel_33
  exact L2 (16 + 1) 0 (by omega) (by omega) kow kli kgp kls klv kcr kdr kln kpe kne           rfl s.heap [] hP hD hS lz (lv_sub hl [1, 2, 0] rfl)

set_option maxHeartbeats 4000000 in
set_option maxRecDepth 100000 in
theorem c_X4_mixDigit (l : Launch) (dC : Nat → ClassId) (dI : Nat → Nat → Nat) (cI cS cJ : ClassId) (tt : Nat → Nat) (sz : Nat) (x : Nat) (a : Nat → Nat) (h : Nat → Nat) (tx : Nat → Nat) (g : Nat → Nat) (k : Nat → Nat) (gp : Nat → Int32) (ls : Nat → Int32) (ln : Int32) (pe : Int32) (ne : Int32) (kow : Nat → Int32) (kli : Nat → Int32) (kgp : Nat → Int32) (kls : Nat → Int32) (klv : Nat → Int32) (kcr : Nat → Int32) (kdr : Nat → Int32) (kln : Int32) (kpe : Int32) (kne : Int32) (v : Nat → Int32) (n : Nat) (d : Nat) (h0 : Int64) : Met l yX4_mixDigit wsX4_mixDigit ({ frames := 5, cells := 0, slots := 0, locals := 112 } : Room) (va_Pc [.ref x, .long h0, .int (nI d)] (xm_M (dC, dI) cI cS cJ tt [(x, .inr (4, [.ref (a 0), .ref (h 0), .ref (tx 0), .ref (g 0), .ref (k 0)])), ((a 0), .inr (2, [.ref (a 1), .ref (a 2), .ref (a 3), .ref (a 4), .ref (a 5), .ref (a 6), .ref (a 7), .int (v 1), .int (v 0), .int (v 7)])), ((a 1), .inl (cI, 6, .inl (fun j => v (8 + j)))), ((a 2), .inl (cI, 6, .inl (fun j => v (14 + j)))), ((a 3), .inl (cI, 6, .inl (fun j => v (20 + j)))), ((a 4), .inl (cI, 6, .inl (fun j => v (26 + j)))), ((a 5), .inl (cI, 6, .inl (fun j => v (32 + j)))), ((a 6), .inl (cI, 42, .inl (fun j => v (38 + j)))), ((a 7), .inl (cI, 5, .inl (fun j => v (2 + j)))), ((g 0), .inr (0, [.ref (g 1), .ref (g 2), .ref (g 3), .ref (g 4), .ref (g 5), .ref (g 6), .ref (g 7), .int ln, .int pe, .int ne])), ((g 3), .inl (cI, 6, .inl gp)), ((g 4), .inl (cI, 6, .inl ls)), ((k 0), .inr (0, [.ref (k 1), .ref (k 2), .ref (k 3), .ref (k 4), .ref (k 5), .ref (k 6), .ref (k 7), .int kln, .int kpe, .int kne])), ((k 1), .inl (cI, 96, .inl kow)), ((k 2), .inl (cI, 96, .inl kli)), ((k 3), .inl (cI, 6, .inl kgp)), ((k 4), .inl (cI, 6, .inl kls)), ((k 5), .inl (cI, 6, .inl klv)), ((k 6), .inl (cI, 6, .inl kcr)), ((k 7), .inl (cI, 6, .inl kdr))] sz (((v 2 = nI n ∧ n ≤ 96) ∧ d < 6) ∧ fm_ix (v (8 + d)) 12))) (va_Ql (fun (r : Int64) (u : (Nat → Int32) × (Nat → Int32) × (Nat → Int32) × (Nat → Int32) × (Nat → Int32) × (Nat → Int32) × (Nat → Int32) × Int32 × Int32 × Int32) => r = md gp ls ln pe ne v n d h0) (xm_B (dC, dI) (fun (u : (Nat → Int32) × (Nat → Int32) × (Nat → Int32) × (Nat → Int32) × (Nat → Int32) × (Nat → Int32) × (Nat → Int32) × Int32 × Int32 × Int32) => [(x, .inr (4, [.ref (a 0), .ref (h 0), .ref (tx 0), .ref (g 0), .ref (k 0)])), ((a 0), .inr (2, [.ref (a 1), .ref (a 2), .ref (a 3), .ref (a 4), .ref (a 5), .ref (a 6), .ref (a 7), .int (v 1), .int (v 0), .int (v 7)])), ((a 1), .inl (cI, 6, .inl (fun j => v (8 + j)))), ((a 2), .inl (cI, 6, .inl (fun j => v (14 + j)))), ((a 3), .inl (cI, 6, .inl (fun j => v (20 + j)))), ((a 4), .inl (cI, 6, .inl (fun j => v (26 + j)))), ((a 5), .inl (cI, 6, .inl (fun j => v (32 + j)))), ((a 6), .inl (cI, 42, .inl (fun j => v (38 + j)))), ((a 7), .inl (cI, 5, .inl (fun j => v (2 + j)))), ((g 0), .inr (0, [.ref (g 1), .ref (g 2), .ref (g 3), .ref (g 4), .ref (g 5), .ref (g 6), .ref (g 7), .int ln, .int pe, .int ne])), ((g 3), .inl (cI, 6, .inl gp)), ((g 4), .inl (cI, 6, .inl ls)), ((k 0), .inr (0, [.ref (k 1), .ref (k 2), .ref (k 3), .ref (k 4), .ref (k 5), .ref (k 6), .ref (k 7), .int u.2.2.2.2.2.2.2.1, .int u.2.2.2.2.2.2.2.2.1, .int u.2.2.2.2.2.2.2.2.2])), ((k 1), .inl (cI, 96, .inl u.1)), ((k 2), .inl (cI, 96, .inl u.2.1)), ((k 3), .inl (cI, 6, .inl u.2.2.1)), ((k 4), .inl (cI, 6, .inl u.2.2.2.1)), ((k 5), .inl (cI, 6, .inl u.2.2.2.2.1)), ((k 6), .inl (cI, 6, .inl u.2.2.2.2.2.1)), ((k 7), .inl (cI, 6, .inl u.2.2.2.2.2.2.1))]) (va_A [(x, .inr (4, [.ref (a 0), .ref (h 0), .ref (tx 0), .ref (g 0), .ref (k 0)])), ((a 0), .inr (2, [.ref (a 1), .ref (a 2), .ref (a 3), .ref (a 4), .ref (a 5), .ref (a 6), .ref (a 7), .int (v 1), .int (v 0), .int (v 7)])), ((a 1), .inl (cI, 6, .inl (fun j => v (8 + j)))), ((a 2), .inl (cI, 6, .inl (fun j => v (14 + j)))), ((a 3), .inl (cI, 6, .inl (fun j => v (20 + j)))), ((a 4), .inl (cI, 6, .inl (fun j => v (26 + j)))), ((a 5), .inl (cI, 6, .inl (fun j => v (32 + j)))), ((a 6), .inl (cI, 42, .inl (fun j => v (38 + j)))), ((a 7), .inl (cI, 5, .inl (fun j => v (2 + j)))), ((g 0), .inr (0, [.ref (g 1), .ref (g 2), .ref (g 3), .ref (g 4), .ref (g 5), .ref (g 6), .ref (g 7), .int ln, .int pe, .int ne])), ((g 3), .inl (cI, 6, .inl gp)), ((g 4), .inl (cI, 6, .inl ls)), ((k 0), .inr (0, [.ref (k 1), .ref (k 2), .ref (k 3), .ref (k 4), .ref (k 5), .ref (k 6), .ref (k 7), .int kln, .int kpe, .int kne])), ((k 1), .inl (cI, 96, .inl kow)), ((k 2), .inl (cI, 96, .inl kli)), ((k 3), .inl (cI, 6, .inl kgp)), ((k 4), .inl (cI, 6, .inl kls)), ((k 5), .inl (cI, 6, .inl klv)), ((k 6), .inl (cI, 6, .inl kcr)), ((k 7), .inl (cI, 6, .inl kdr))] sz)) (va_A [(x, .inr (4, [.ref (a 0), .ref (h 0), .ref (tx 0), .ref (g 0), .ref (k 0)])), ((a 0), .inr (2, [.ref (a 1), .ref (a 2), .ref (a 3), .ref (a 4), .ref (a 5), .ref (a 6), .ref (a 7), .int (v 1), .int (v 0), .int (v 7)])), ((a 1), .inl (cI, 6, .inl (fun j => v (8 + j)))), ((a 2), .inl (cI, 6, .inl (fun j => v (14 + j)))), ((a 3), .inl (cI, 6, .inl (fun j => v (20 + j)))), ((a 4), .inl (cI, 6, .inl (fun j => v (26 + j)))), ((a 5), .inl (cI, 6, .inl (fun j => v (32 + j)))), ((a 6), .inl (cI, 42, .inl (fun j => v (38 + j)))), ((a 7), .inl (cI, 5, .inl (fun j => v (2 + j)))), ((g 0), .inr (0, [.ref (g 1), .ref (g 2), .ref (g 3), .ref (g 4), .ref (g 5), .ref (g 6), .ref (g 7), .int ln, .int pe, .int ne])), ((g 3), .inl (cI, 6, .inl gp)), ((g 4), .inl (cI, 6, .inl ls)), ((k 0), .inr (0, [.ref (k 1), .ref (k 2), .ref (k 3), .ref (k 4), .ref (k 5), .ref (k 6), .ref (k 7), .int kln, .int kpe, .int kne])), ((k 1), .inl (cI, 96, .inl kow)), ((k 2), .inl (cI, 96, .inl kli)), ((k 3), .inl (cI, 6, .inl kgp)), ((k 4), .inl (cI, 6, .inl kls)), ((k 5), .inl (cI, 6, .inl klv)), ((k 6), .inl (cI, 6, .inl kcr)), ((k 7), .inl (cI, 6, .inl kdr))] sz)) 0 0 (va_A [(x, .inr (4, [.ref (a 0), .ref (h 0), .ref (tx 0), .ref (g 0), .ref (k 0)])), ((a 0), .inr (2, [.ref (a 1), .ref (a 2), .ref (a 3), .ref (a 4), .ref (a 5), .ref (a 6), .ref (a 7), .int (v 1), .int (v 0), .int (v 7)])), ((a 1), .inl (cI, 6, .inl (fun j => v (8 + j)))), ((a 2), .inl (cI, 6, .inl (fun j => v (14 + j)))), ((a 3), .inl (cI, 6, .inl (fun j => v (20 + j)))), ((a 4), .inl (cI, 6, .inl (fun j => v (26 + j)))), ((a 5), .inl (cI, 6, .inl (fun j => v (32 + j)))), ((a 6), .inl (cI, 42, .inl (fun j => v (38 + j)))), ((a 7), .inl (cI, 5, .inl (fun j => v (2 + j)))), ((g 0), .inr (0, [.ref (g 1), .ref (g 2), .ref (g 3), .ref (g 4), .ref (g 5), .ref (g 6), .ref (g 7), .int ln, .int pe, .int ne])), ((g 3), .inl (cI, 6, .inl gp)), ((g 4), .inl (cI, 6, .inl ls)), ((k 0), .inr (0, [.ref (k 1), .ref (k 2), .ref (k 3), .ref (k 4), .ref (k 5), .ref (k 6), .ref (k 7), .int kln, .int kpe, .int kne])), ((k 1), .inl (cI, 96, .inl kow)), ((k 2), .inl (cI, 96, .inl kli)), ((k 3), .inl (cI, 6, .inl kgp)), ((k 4), .inl (cI, 6, .inl kls)), ((k 5), .inl (cI, 6, .inl klv)), ((k 6), .inl (cI, 6, .inl kcr)), ((k 7), .inl (cI, 6, .inl kdr))] sz) := by
  refine Met.ofW (cc := cX4_mixDigit) (maxL := 7) (ret := (some .long)) (by decide) rfl ?_
  intro p e s m args below meth c s₁ B hml hv
  obtain ⟨rfl, hsz, hP, hE, hD0, hpre⟩ := hv
  have hx := B.exec
  have hb := B.bytes
  have hr := B.returns
  have hts := atoms_spec (ws := wsX4_mixDigit) B.pre
  have hown : s.vm.findClass RX4 = some m.cls := findClass_of_methodNamed B.named
  have hlocks := B.notSynchronized
  have hK := hE.1
  subst hsz
  have hD := hD0.self (sz := s.heap.size)
  generalize hAe : va_A [(x, .inr (4, [.ref (a 0), .ref (h 0), .ref (tx 0), .ref (g 0), .ref (k 0)])), ((a 0), .inr (2, [.ref (a 1), .ref (a 2), .ref (a 3), .ref (a 4), .ref (a 5), .ref (a 6), .ref (a 7), .int (v 1), .int (v 0), .int (v 7)])), ((a 1), .inl (cI, 6, .inl (fun j => v (8 + j)))), ((a 2), .inl (cI, 6, .inl (fun j => v (14 + j)))), ((a 3), .inl (cI, 6, .inl (fun j => v (20 + j)))), ((a 4), .inl (cI, 6, .inl (fun j => v (26 + j)))), ((a 5), .inl (cI, 6, .inl (fun j => v (32 + j)))), ((a 6), .inl (cI, 42, .inl (fun j => v (38 + j)))), ((a 7), .inl (cI, 5, .inl (fun j => v (2 + j)))), ((g 0), .inr (0, [.ref (g 1), .ref (g 2), .ref (g 3), .ref (g 4), .ref (g 5), .ref (g 6), .ref (g 7), .int ln, .int pe, .int ne])), ((g 3), .inl (cI, 6, .inl gp)), ((g 4), .inl (cI, 6, .inl ls)), ((k 0), .inr (0, [.ref (k 1), .ref (k 2), .ref (k 3), .ref (k 4), .ref (k 5), .ref (k 6), .ref (k 7), .int kln, .int kpe, .int kne])), ((k 1), .inl (cI, 96, .inl kow)), ((k 2), .inl (cI, 96, .inl kli)), ((k 3), .inl (cI, 6, .inl kgp)), ((k 4), .inl (cI, 6, .inl kls)), ((k 5), .inl (cI, 6, .inl klv)), ((k 6), .inl (cI, 6, .inl kcr)), ((k 7), .inl (cI, 6, .inl kdr))] s.heap.size = A at hD hE ⊢
  have hA : ∀ q : Nat, s.heap.size ≤ q → A q := fun q h => by rw [← hAe]; exact Or.inr h
  have hS : va_S A s.heap s.heap [] := va_S.rf
  have hP : va_P (dC, dI) vwCl [(x, .inr (4, [.ref (a 0), .ref (h 0), .ref (tx 0), .ref (g 0), .ref (k 0)])), ((a 0), .inr (2, [.ref (a 1), .ref (a 2), .ref (a 3), .ref (a 4), .ref (a 5), .ref (a 6), .ref (a 7), .int (v 1), .int (v 0), .int (v 7)])), ((a 1), .inl (cI, 6, .inl (fun j => v (8 + j)))), ((a 2), .inl (cI, 6, .inl (fun j => v (14 + j)))), ((a 3), .inl (cI, 6, .inl (fun j => v (20 + j)))), ((a 4), .inl (cI, 6, .inl (fun j => v (26 + j)))), ((a 5), .inl (cI, 6, .inl (fun j => v (32 + j)))), ((a 6), .inl (cI, 42, .inl (fun j => v (38 + j)))), ((a 7), .inl (cI, 5, .inl (fun j => v (2 + j)))), ((g 0), .inr (0, [.ref (g 1), .ref (g 2), .ref (g 3), .ref (g 4), .ref (g 5), .ref (g 6), .ref (g 7), .int ln, .int pe, .int ne])), ((g 3), .inl (cI, 6, .inl gp)), ((g 4), .inl (cI, 6, .inl ls)), ((k 0), .inr (0, [.ref (k 1), .ref (k 2), .ref (k 3), .ref (k 4), .ref (k 5), .ref (k 6), .ref (k 7), .int kln, .int kpe, .int kne])), ((k 1), .inl (cI, 96, .inl kow)), ((k 2), .inl (cI, 96, .inl kli)), ((k 3), .inl (cI, 6, .inl kgp)), ((k 4), .inl (cI, 6, .inl kls)), ((k 5), .inl (cI, 6, .inl klv)), ((k 6), .inl (cI, 6, .inl kcr)), ((k 7), .inl (cI, 6, .inl kdr))] s.heap := hP
  have hin2 : ∀ w ∈ u_ws RX2 TX2 10, w ∈ wsX4_mixDigit := by decide +kernel
  have hin4 : ∀ w ∈ u_ws RX4 TX4 5, w ∈ wsX4_mixDigit := by decide +kernel
  have hl := lv_entry [.ref x, .long h0, .int (nI d)] (n := 7) (Nat.le_of_ble_eq_true rfl)
  rw [lg_entry_eq]
  generalize (lg_sl [.ref x, .long h0, .int (nI d)] ++ List.replicate (7 - (lg_sl [.ref x, .long h0, .int (nI d)]).length) Slot.unset).toArray = lz at hl ⊢
  have hl : lv_has lz 7 [(0, .ref x), (1, .long h0), (3, .int (nI d))] := hl
  obtain ⟨⟨hno, hd6⟩, hsg⟩ := hpre
  refine lv_lload_n hx hb dX4_mixDigit_0 rfl (lv_at hl 1 rfl) ?_
  refine lv_lstore (lv' := [(4, .long h0), (0, .ref x), (1, .long h0), (3, .int (nI d))]) hx hb dX4_mixDigit_1 hl (by decide) rfl (fun lz hl => ?_)
  refine lv_iconst (v := 0) hx hb dX4_mixDigit_3 (by decide) ?_
  refine lv_istore (lv' := [(6, .int 0), (4, .long h0), (0, .ref x), (1, .long h0), (3, .int (nI d))]) hx hb dX4_mixDigit_4 hl (by decide) rfl (fun lz hl => ?_)
  have L6 : ∀ (zz i : Nat), i ≤ 12 → 12 + 1 ≤ i + zz → ∀ (x4 : Int64), x4 = hm (lk_pr gp ls ln pe ne v d) h0 i → ∀ (H : Heap) (locs : List Loc), va_P (dC, dI) vwCl [(x, .inr (4, [.ref (a 0), .ref (h 0), .ref (tx 0), .ref (g 0), .ref (k 0)])), ((a 0), .inr (2, [.ref (a 1), .ref (a 2), .ref (a 3), .ref (a 4), .ref (a 5), .ref (a 6), .ref (a 7), .int (v 1), .int (v 0), .int (v 7)])), ((a 1), .inl (cI, 6, .inl (fun j => v (8 + j)))), ((a 2), .inl (cI, 6, .inl (fun j => v (14 + j)))), ((a 3), .inl (cI, 6, .inl (fun j => v (20 + j)))), ((a 4), .inl (cI, 6, .inl (fun j => v (26 + j)))), ((a 5), .inl (cI, 6, .inl (fun j => v (32 + j)))), ((a 6), .inl (cI, 42, .inl (fun j => v (38 + j)))), ((a 7), .inl (cI, 5, .inl (fun j => v (2 + j)))), ((g 0), .inr (0, [.ref (g 1), .ref (g 2), .ref (g 3), .ref (g 4), .ref (g 5), .ref (g 6), .ref (g 7), .int ln, .int pe, .int ne])), ((g 3), .inl (cI, 6, .inl gp)), ((g 4), .inl (cI, 6, .inl ls)), ((k 0), .inr (0, [.ref (k 1), .ref (k 2), .ref (k 3), .ref (k 4), .ref (k 5), .ref (k 6), .ref (k 7), .int kln, .int kpe, .int kne])), ((k 1), .inl (cI, 96, .inl kow)), ((k 2), .inl (cI, 96, .inl kli)), ((k 3), .inl (cI, 6, .inl kgp)), ((k 4), .inl (cI, 6, .inl kls)), ((k 5), .inl (cI, 6, .inl klv)), ((k 6), .inl (cI, 6, .inl kcr)), ((k 7), .inl (cI, 6, .inl kdr))] H → va_D A [(x, .inr (4, [.ref (a 0), .ref (h 0), .ref (tx 0), .ref (g 0), .ref (k 0)])), ((a 0), .inr (2, [.ref (a 1), .ref (a 2), .ref (a 3), .ref (a 4), .ref (a 5), .ref (a 6), .ref (a 7), .int (v 1), .int (v 0), .int (v 7)])), ((a 1), .inl (cI, 6, .inl (fun j => v (8 + j)))), ((a 2), .inl (cI, 6, .inl (fun j => v (14 + j)))), ((a 3), .inl (cI, 6, .inl (fun j => v (20 + j)))), ((a 4), .inl (cI, 6, .inl (fun j => v (26 + j)))), ((a 5), .inl (cI, 6, .inl (fun j => v (32 + j)))), ((a 6), .inl (cI, 42, .inl (fun j => v (38 + j)))), ((a 7), .inl (cI, 5, .inl (fun j => v (2 + j)))), ((g 0), .inr (0, [.ref (g 1), .ref (g 2), .ref (g 3), .ref (g 4), .ref (g 5), .ref (g 6), .ref (g 7), .int ln, .int pe, .int ne])), ((g 3), .inl (cI, 6, .inl gp)), ((g 4), .inl (cI, 6, .inl ls)), ((k 0), .inr (0, [.ref (k 1), .ref (k 2), .ref (k 3), .ref (k 4), .ref (k 5), .ref (k 6), .ref (k 7), .int kln, .int kpe, .int kne])), ((k 1), .inl (cI, 96, .inl kow)), ((k 2), .inl (cI, 96, .inl kli)), ((k 3), .inl (cI, 6, .inl kgp)), ((k 4), .inl (cI, 6, .inl kls)), ((k 5), .inl (cI, 6, .inl klv)), ((k 6), .inl (cI, 6, .inl kcr)), ((k 7), .inl (cI, 6, .inl kdr))] → va_S A s.heap H locs → ∀ (lz : Array Slot), lv_has lz 7 [(0, .ref x), (3, .int (nI d)), (4, .long x4), (6, .int (nI i))] → W p l e (headSpec wsX4_mixDigit ({ frames := 5, cells := 0, slots := 0, locals := 112 } : Room)).room s m ([.ref x, .long h0, .int (nI d)] : List Value).toArray below meth c H locs 0 0 (MQ below (va_Ql (fun (r : Int64) (u : (Nat → Int32) × (Nat → Int32) × (Nat → Int32) × (Nat → Int32) × (Nat → Int32) × (Nat → Int32) × (Nat → Int32) × Int32 × Int32 × Int32) => r = md gp ls ln pe ne v n d h0) (xm_B (dC, dI) (fun (u : (Nat → Int32) × (Nat → Int32) × (Nat → Int32) × (Nat → Int32) × (Nat → Int32) × (Nat → Int32) × (Nat → Int32) × Int32 × Int32 × Int32) => [(x, .inr (4, [.ref (a 0), .ref (h 0), .ref (tx 0), .ref (g 0), .ref (k 0)])), ((a 0), .inr (2, [.ref (a 1), .ref (a 2), .ref (a 3), .ref (a 4), .ref (a 5), .ref (a 6), .ref (a 7), .int (v 1), .int (v 0), .int (v 7)])), ((a 1), .inl (cI, 6, .inl (fun j => v (8 + j)))), ((a 2), .inl (cI, 6, .inl (fun j => v (14 + j)))), ((a 3), .inl (cI, 6, .inl (fun j => v (20 + j)))), ((a 4), .inl (cI, 6, .inl (fun j => v (26 + j)))), ((a 5), .inl (cI, 6, .inl (fun j => v (32 + j)))), ((a 6), .inl (cI, 42, .inl (fun j => v (38 + j)))), ((a 7), .inl (cI, 5, .inl (fun j => v (2 + j)))), ((g 0), .inr (0, [.ref (g 1), .ref (g 2), .ref (g 3), .ref (g 4), .ref (g 5), .ref (g 6), .ref (g 7), .int ln, .int pe, .int ne])), ((g 3), .inl (cI, 6, .inl gp)), ((g 4), .inl (cI, 6, .inl ls)), ((k 0), .inr (0, [.ref (k 1), .ref (k 2), .ref (k 3), .ref (k 4), .ref (k 5), .ref (k 6), .ref (k 7), .int u.2.2.2.2.2.2.2.1, .int u.2.2.2.2.2.2.2.2.1, .int u.2.2.2.2.2.2.2.2.2])), ((k 1), .inl (cI, 96, .inl u.1)), ((k 2), .inl (cI, 96, .inl u.2.1)), ((k 3), .inl (cI, 6, .inl u.2.2.1)), ((k 4), .inl (cI, 6, .inl u.2.2.2.1)), ((k 5), .inl (cI, 6, .inl u.2.2.2.2.1)), ((k 6), .inl (cI, 6, .inl u.2.2.2.2.2.1)), ((k 7), .inl (cI, 6, .inl u.2.2.2.2.2.2.1))]) A) A) ([.ref x, .long h0, .int (nI d)] : List Value).toArray s 0 0 A) (F0 m 6 lz []) := by
    intro zz
    induction zz with
    | zero => intro i hii hni; exact absurd hni (by omega)
    | succ zz ih6 =>
      intro i hii hni x4 e_x4  H locs hP hD hS lz hl
      subst e_x4
      refine lv_iload hx hb dX4_mixDigit_6 (lv_at hl 3 rfl) ?_
      refine lv_bipush (v := 12) hx hb dX4_mixDigit_8 (by decide) ?_
      refine lv_icmp_ge (tgt := 34) hx hb dX4_mixDigit_10 (by decide) (fun q10 => ?_) (fun q10 => ?_)
      · have hNi : 12 = i := (xm_end (N := 12) hii (by decide) q10).symm
        subst hNi
        refine lv_iconst (v := 0) hx hb dX4_mixDigit_34 (by decide) ?_
        refine lv_istore (lv' := [(6, .int 0), (0, .ref x), (3, .int (nI d)), (4, .long (hm (lk_pr gp ls ln pe ne v d) h0 12))]) hx hb dX4_mixDigit_35 hl (by decide) rfl (fun lz hl => ?_)
        have L37 : ∀ (zz i : Nat), i ≤ 7 → 7 + 1 ≤ i + zz → ∀ (x4 : Int64), x4 = hm (fun j => v (38 + (d * 7 + j))) (hm (lk_pr gp ls ln pe ne v d) h0 12) i → ∀ (H : Heap) (locs : List Loc), va_P (dC, dI) vwCl [(x, .inr (4, [.ref (a 0), .ref (h 0), .ref (tx 0), .ref (g 0), .ref (k 0)])), ((a 0), .inr (2, [.ref (a 1), .ref (a 2), .ref (a 3), .ref (a 4), .ref (a 5), .ref (a 6), .ref (a 7), .int (v 1), .int (v 0), .int (v 7)])), ((a 1), .inl (cI, 6, .inl (fun j => v (8 + j)))), ((a 2), .inl (cI, 6, .inl (fun j => v (14 + j)))), ((a 3), .inl (cI, 6, .inl (fun j => v (20 + j)))), ((a 4), .inl (cI, 6, .inl (fun j => v (26 + j)))), ((a 5), .inl (cI, 6, .inl (fun j => v (32 + j)))), ((a 6), .inl (cI, 42, .inl (fun j => v (38 + j)))), ((a 7), .inl (cI, 5, .inl (fun j => v (2 + j)))), ((g 0), .inr (0, [.ref (g 1), .ref (g 2), .ref (g 3), .ref (g 4), .ref (g 5), .ref (g 6), .ref (g 7), .int ln, .int pe, .int ne])), ((g 3), .inl (cI, 6, .inl gp)), ((g 4), .inl (cI, 6, .inl ls)), ((k 0), .inr (0, [.ref (k 1), .ref (k 2), .ref (k 3), .ref (k 4), .ref (k 5), .ref (k 6), .ref (k 7), .int kln, .int kpe, .int kne])), ((k 1), .inl (cI, 96, .inl kow)), ((k 2), .inl (cI, 96, .inl kli)), ((k 3), .inl (cI, 6, .inl kgp)), ((k 4), .inl (cI, 6, .inl kls)), ((k 5), .inl (cI, 6, .inl klv)), ((k 6), .inl (cI, 6, .inl kcr)), ((k 7), .inl (cI, 6, .inl kdr))] H → va_D A [(x, .inr (4, [.ref (a 0), .ref (h 0), .ref (tx 0), .ref (g 0), .ref (k 0)])), ((a 0), .inr (2, [.ref (a 1), .ref (a 2), .ref (a 3), .ref (a 4), .ref (a 5), .ref (a 6), .ref (a 7), .int (v 1), .int (v 0), .int (v 7)])), ((a 1), .inl (cI, 6, .inl (fun j => v (8 + j)))), ((a 2), .inl (cI, 6, .inl (fun j => v (14 + j)))), ((a 3), .inl (cI, 6, .inl (fun j => v (20 + j)))), ((a 4), .inl (cI, 6, .inl (fun j => v (26 + j)))), ((a 5), .inl (cI, 6, .inl (fun j => v (32 + j)))), ((a 6), .inl (cI, 42, .inl (fun j => v (38 + j)))), ((a 7), .inl (cI, 5, .inl (fun j => v (2 + j)))), ((g 0), .inr (0, [.ref (g 1), .ref (g 2), .ref (g 3), .ref (g 4), .ref (g 5), .ref (g 6), .ref (g 7), .int ln, .int pe, .int ne])), ((g 3), .inl (cI, 6, .inl gp)), ((g 4), .inl (cI, 6, .inl ls)), ((k 0), .inr (0, [.ref (k 1), .ref (k 2), .ref (k 3), .ref (k 4), .ref (k 5), .ref (k 6), .ref (k 7), .int kln, .int kpe, .int kne])), ((k 1), .inl (cI, 96, .inl kow)), ((k 2), .inl (cI, 96, .inl kli)), ((k 3), .inl (cI, 6, .inl kgp)), ((k 4), .inl (cI, 6, .inl kls)), ((k 5), .inl (cI, 6, .inl klv)), ((k 6), .inl (cI, 6, .inl kcr)), ((k 7), .inl (cI, 6, .inl kdr))] → va_S A s.heap H locs → ∀ (lz : Array Slot), lv_has lz 7 [(0, .ref x), (3, .int (nI d)), (4, .long x4), (6, .int (nI i))] → W p l e (headSpec wsX4_mixDigit ({ frames := 5, cells := 0, slots := 0, locals := 112 } : Room)).room s m ([.ref x, .long h0, .int (nI d)] : List Value).toArray below meth c H locs 0 0 (MQ below (va_Ql (fun (r : Int64) (u : (Nat → Int32) × (Nat → Int32) × (Nat → Int32) × (Nat → Int32) × (Nat → Int32) × (Nat → Int32) × (Nat → Int32) × Int32 × Int32 × Int32) => r = md gp ls ln pe ne v n d h0) (xm_B (dC, dI) (fun (u : (Nat → Int32) × (Nat → Int32) × (Nat → Int32) × (Nat → Int32) × (Nat → Int32) × (Nat → Int32) × (Nat → Int32) × Int32 × Int32 × Int32) => [(x, .inr (4, [.ref (a 0), .ref (h 0), .ref (tx 0), .ref (g 0), .ref (k 0)])), ((a 0), .inr (2, [.ref (a 1), .ref (a 2), .ref (a 3), .ref (a 4), .ref (a 5), .ref (a 6), .ref (a 7), .int (v 1), .int (v 0), .int (v 7)])), ((a 1), .inl (cI, 6, .inl (fun j => v (8 + j)))), ((a 2), .inl (cI, 6, .inl (fun j => v (14 + j)))), ((a 3), .inl (cI, 6, .inl (fun j => v (20 + j)))), ((a 4), .inl (cI, 6, .inl (fun j => v (26 + j)))), ((a 5), .inl (cI, 6, .inl (fun j => v (32 + j)))), ((a 6), .inl (cI, 42, .inl (fun j => v (38 + j)))), ((a 7), .inl (cI, 5, .inl (fun j => v (2 + j)))), ((g 0), .inr (0, [.ref (g 1), .ref (g 2), .ref (g 3), .ref (g 4), .ref (g 5), .ref (g 6), .ref (g 7), .int ln, .int pe, .int ne])), ((g 3), .inl (cI, 6, .inl gp)), ((g 4), .inl (cI, 6, .inl ls)), ((k 0), .inr (0, [.ref (k 1), .ref (k 2), .ref (k 3), .ref (k 4), .ref (k 5), .ref (k 6), .ref (k 7), .int u.2.2.2.2.2.2.2.1, .int u.2.2.2.2.2.2.2.2.1, .int u.2.2.2.2.2.2.2.2.2])), ((k 1), .inl (cI, 96, .inl u.1)), ((k 2), .inl (cI, 96, .inl u.2.1)), ((k 3), .inl (cI, 6, .inl u.2.2.1)), ((k 4), .inl (cI, 6, .inl u.2.2.2.1)), ((k 5), .inl (cI, 6, .inl u.2.2.2.2.1)), ((k 6), .inl (cI, 6, .inl u.2.2.2.2.2.1)), ((k 7), .inl (cI, 6, .inl u.2.2.2.2.2.2.1))]) A) A) ([.ref x, .long h0, .int (nI d)] : List Value).toArray s 0 0 A) (F0 m 37 lz []) := by
          intro zz
          induction zz with
          | zero => intro i hii hni; exact absurd hni (by omega)
          | succ zz ih37 =>
            intro i hii hni x4 e_x4  H locs hP hD hS lz hl
            subst e_x4
            refine lv_iload hx hb dX4_mixDigit_37 (lv_at hl 3 rfl) ?_
            refine lv_bipush (v := 7) hx hb dX4_mixDigit_39 (by decide) ?_
            refine lv_icmp_ge (tgt := 72) hx hb dX4_mixDigit_41 (by decide) (fun q41 => ?_) (fun q41 => ?_)
            · have hNi : 7 = i := (xm_end (N := 7) hii (by decide) q41).symm
              subst hNi
              refine lv_aload_n hx hb dX4_mixDigit_72 rfl (lv_at hl 0 rfl) ?_
              refine va_get (D := (dC, dI)) (ci := 4) (v := .ref (k 0)) (C := RX4) (T := TX4) (N := 5) hx hb hts hin4 hown hK hP 0 rfl rfl 4 (by decide) (hts (.fieldLink RX4 37 "TurnDigits" "trial" "LTurnDigits$Frame;") (by decide +kernel)) (fun _ h9 => h9) rfl dX4_mixDigit_73 ?_
              refine lv_aload_n hx hb dX4_mixDigit_76 rfl (lv_at hl 0 rfl) ?_
              refine va_get (D := (dC, dI)) (ci := 4) (v := .ref (a 0)) (C := RX4) (T := TX4) (N := 5) hx hb hts hin4 hown hK hP 0 rfl rfl 0 (by decide) (hts (.fieldLink RX4 10 "TurnDigits" "state" "LTurnDigits$State;") (by decide +kernel)) (fun _ h9 => h9) rfl dX4_mixDigit_77 ?_
              refine lv_iload_n hx hb dX4_mixDigit_80 rfl (lv_at hl 1 rfl) ?_
              refine lv_bipush (v := 9) hx hb dX4_mixDigit_81 (by decide) ?_
              have hPc := hP.sub (ws' := [((k 0), .inr (0, [.ref (k 1), .ref (k 2), .ref (k 3), .ref (k 4), .ref (k 5), .ref (k 6), .ref (k 7), .int kln, .int kpe, .int kne])), ((k 1), .inl (cI, 96, .inl kow)), ((k 2), .inl (cI, 96, .inl kli)), ((k 3), .inl (cI, 6, .inl kgp)), ((k 4), .inl (cI, 6, .inl kls)), ((k 5), .inl (cI, 6, .inl klv)), ((k 6), .inl (cI, 6, .inl kcr)), ((k 7), .inl (cI, 6, .inl kdr)), ((a 0), .inr (2, [.ref (a 1), .ref (a 2), .ref (a 3), .ref (a 4), .ref (a 5), .ref (a 6), .ref (a 7), .int (v 1), .int (v 0), .int (v 7)])), ((a 2), .inl (cI, 6, .inl (fun j => v (14 + j)))), ((a 7), .inl (cI, 5, .inl (fun j => v (2 + j))))]) [12, 13, 14, 15, 16, 17, 18, 19, 1, 3, 8] rfl
              have hDc := hD.sub (ws' := [((k 0), .inr (0, [.ref (k 1), .ref (k 2), .ref (k 3), .ref (k 4), .ref (k 5), .ref (k 6), .ref (k 7), .int kln, .int kpe, .int kne])), ((k 1), .inl (cI, 96, .inl kow)), ((k 2), .inl (cI, 96, .inl kli)), ((k 3), .inl (cI, 6, .inl kgp)), ((k 4), .inl (cI, 6, .inl kls)), ((k 5), .inl (cI, 6, .inl klv)), ((k 6), .inl (cI, 6, .inl kcr)), ((k 7), .inl (cI, 6, .inl kdr)), ((a 0), .inr (2, [.ref (a 1), .ref (a 2), .ref (a 3), .ref (a 4), .ref (a 5), .ref (a 6), .ref (a 7), .int (v 1), .int (v 0), .int (v 7)])), ((a 2), .inl (cI, 6, .inl (fun j => v (14 + j)))), ((a 7), .inl (cI, 5, .inl (fun j => v (2 + j))))]) [12, 13, 14, 15, 16, 17, 18, 19, 1, 3, 8] (by decide) rfl
              have hFc := va_free (wc := [((k 0), .inr (0, [.ref (k 1), .ref (k 2), .ref (k 3), .ref (k 4), .ref (k 5), .ref (k 6), .ref (k 7), .int kln, .int kpe, .int kne])), ((k 1), .inl (cI, 96, .inl kow)), ((k 2), .inl (cI, 96, .inl kli)), ((k 3), .inl (cI, 6, .inl kgp)), ((k 4), .inl (cI, 6, .inl kls)), ((k 5), .inl (cI, 6, .inl klv)), ((k 6), .inl (cI, 6, .inl kcr)), ((k 7), .inl (cI, 6, .inl kdr)), ((a 0), .inr (2, [.ref (a 1), .ref (a 2), .ref (a 3), .ref (a 4), .ref (a 5), .ref (a 6), .ref (a 7), .int (v 1), .int (v 0), .int (v 7)])), ((a 2), .inl (cI, 6, .inl (fun j => v (14 + j)))), ((a 7), .inl (cI, 5, .inl (fun j => v (2 + j))))]) hD hS hA [12, 13, 14, 15, 16, 17, 18, 19, 1, 3, 8] rfl
              refine va_callv (va_runV (As := [.ref (a 0), .int (nI d), .int 9]) (rest := []) ⟨hx, hb, hml, hown, hts⟩ (c_X0_foreseeLevel l dC dI cI cS cJ tt H.size k kow kli kgp kls klv kcr kdr kln kpe kne a (v 1) (v 0) (v 7) (fun j => v (14 + j)) (fun j => v (2 + j)) n d 9) (cwV 3 hts gX4_mixDigit_X0_foreseeLevel rfl rfl rfl (by decide +kernel) ⟨Nat.le_of_ble_eq_true rfl, Nat.le_of_ble_eq_true rfl⟩) ⟨xm_Mblind, va_recv hK hPc (ci := 0) (q0 := 0) rfl rfl, fun U hU hW => ⟨rfl, by rw [hU], by rw [hU]; exact hPc, hE.go hS hFc hU hW, hDc.weaken (fun _ _ _ _ => trivial), ⟨hno, hd6⟩⟩⟩ rfl rfl hl.1 rfl (lv_room (Nat.le_of_ble_eq_true rfl)) dX4_mixDigit_83 ⟨Nat.zero_le _, Nat.zero_le _⟩) hS (fun q _ h => hFc q h) hFc (fun u t H1 locs ht hvm hw hB hz1 hk1 hS => ?_)
              obtain ⟨u_1, u_2, u_3, u_4, u_5, u_6, u_7, u_8, u_9, u_10⟩ := u
              obtain ⟨hP1, hD1⟩ := hB
              rw [ht] at hP1
              obtain ⟨hw_11, hw_12, hw_13, hw_14, hw_15, hw_16, hw_17, hw_18, hw_19, hw_20⟩ := hw
              have hw_11 : u_1 = fm_fl (fr_ow (upd (fun j => v (14 + j)) d 9) (fun _ => 0)) kow n := hw_11
              subst hw_11
              have hw_12 : u_2 = fm_fl (fr_li (upd (fun j => v (14 + j)) d 9) (fun _ => 0) (v 7) (fm_dk ((fun j => v (2 + j)) 1))) kli n := hw_12
              subst hw_12
              have hw_13 : u_3 = fr_gp (fr_li (upd (fun j => v (14 + j)) d 9) (fun _ => 0) (v 7) (fm_dk ((fun j => v (2 + j)) 1))) n := hw_13
              subst hw_13
              have hw_14 : u_4 = fr_ls (fr_li (upd (fun j => v (14 + j)) d 9) (fun _ => 0) (v 7) (fm_dk ((fun j => v (2 + j)) 1))) n := hw_14
              subst hw_14
              have hw_15 : u_5 = (upd (fun j => v (14 + j)) d 9) := hw_15
              subst hw_15
              have hw_16 : u_6 = fr_cr (upd (fun j => v (14 + j)) d 9) (fun _ => 0) n := hw_16
              subst hw_16
              have hw_17 : u_7 = fr_dr (fr_li (upd (fun j => v (14 + j)) d 9) (fun _ => 0) (v 7) (fm_dk ((fun j => v (2 + j)) 1))) n := hw_17
              subst hw_17
              have hw_18 : u_8 = (fun j => v (2 + j)) 0 := hw_18
              subst hw_18
              have hw_19 : u_9 = (fun j => v (2 + j)) 2 := hw_19
              subst hw_19
              have hw_20 : u_10 = (fun j => v (2 + j)) 3 * (v 1) := hw_20
              subst hw_20
              obtain ⟨hP, hD⟩ := va_join (wr := [(x, .inr (4, [.ref (a 0), .ref (h 0), .ref (tx 0), .ref (g 0), .ref (k 0)])), ((a 1), .inl (cI, 6, .inl (fun j => v (8 + j)))), ((a 3), .inl (cI, 6, .inl (fun j => v (20 + j)))), ((a 4), .inl (cI, 6, .inl (fun j => v (26 + j)))), ((a 5), .inl (cI, 6, .inl (fun j => v (32 + j)))), ((a 6), .inl (cI, 42, .inl (fun j => v (38 + j)))), ((g 0), .inr (0, [.ref (g 1), .ref (g 2), .ref (g 3), .ref (g 4), .ref (g 5), .ref (g 6), .ref (g 7), .int ln, .int pe, .int ne])), ((g 3), .inl (cI, 6, .inl gp)), ((g 4), .inl (cI, 6, .inl ls))]) (w1 := [((k 0), .inr (0, [.ref (k 1), .ref (k 2), .ref (k 3), .ref (k 4), .ref (k 5), .ref (k 6), .ref (k 7), .int ((fun j => v (2 + j)) 0), .int ((fun j => v (2 + j)) 2), .int ((fun j => v (2 + j)) 3 * (v 1))])), ((k 1), .inl (cI, 96, .inl (fm_fl (fr_ow (upd (fun j => v (14 + j)) d 9) (fun _ => 0)) kow n))), ((k 2), .inl (cI, 96, .inl (fm_fl (fr_li (upd (fun j => v (14 + j)) d 9) (fun _ => 0) (v 7) (fm_dk ((fun j => v (2 + j)) 1))) kli n))), ((k 3), .inl (cI, 6, .inl (fr_gp (fr_li (upd (fun j => v (14 + j)) d 9) (fun _ => 0) (v 7) (fm_dk ((fun j => v (2 + j)) 1))) n))), ((k 4), .inl (cI, 6, .inl (fr_ls (fr_li (upd (fun j => v (14 + j)) d 9) (fun _ => 0) (v 7) (fm_dk ((fun j => v (2 + j)) 1))) n))), ((k 5), .inl (cI, 6, .inl (upd (fun j => v (14 + j)) d 9))), ((k 6), .inl (cI, 6, .inl (fr_cr (upd (fun j => v (14 + j)) d 9) (fun _ => 0) n))), ((k 7), .inl (cI, 6, .inl (fr_dr (fr_li (upd (fun j => v (14 + j)) d 9) (fun _ => 0) (v 7) (fm_dk ((fun j => v (2 + j)) 1))) n))), ((a 0), .inr (2, [.ref (a 1), .ref (a 2), .ref (a 3), .ref (a 4), .ref (a 5), .ref (a 6), .ref (a 7), .int (v 1), .int (v 0), .int (v 7)])), ((a 2), .inl (cI, 6, .inl (fun j => v (14 + j)))), ((a 7), .inl (cI, 5, .inl (fun j => v (2 + j))))]) hP hD [12, 13, 14, 15, 16, 17, 18, 19, 1, 3, 8] [0, 2, 4, 5, 6, 7, 9, 10, 11] rfl rfl (by decide) (by decide) hk1 hFc hP1 hD1
              generalize H1 = H at hP hS ⊢
              have hP : va_P (dC, dI) vwCl [(x, .inr (4, [.ref (a 0), .ref (h 0), .ref (tx 0), .ref (g 0), .ref (k 0)])), ((a 1), .inl (cI, 6, .inl (fun j => v (8 + j)))), ((a 3), .inl (cI, 6, .inl (fun j => v (20 + j)))), ((a 4), .inl (cI, 6, .inl (fun j => v (26 + j)))), ((a 5), .inl (cI, 6, .inl (fun j => v (32 + j)))), ((a 6), .inl (cI, 42, .inl (fun j => v (38 + j)))), ((g 0), .inr (0, [.ref (g 1), .ref (g 2), .ref (g 3), .ref (g 4), .ref (g 5), .ref (g 6), .ref (g 7), .int ln, .int pe, .int ne])), ((g 3), .inl (cI, 6, .inl gp)), ((g 4), .inl (cI, 6, .inl ls)), ((k 0), .inr (0, [.ref (k 1), .ref (k 2), .ref (k 3), .ref (k 4), .ref (k 5), .ref (k 6), .ref (k 7), .int ((fun j => v (2 + j)) 0), .int ((fun j => v (2 + j)) 2), .int ((fun j => v (2 + j)) 3 * (v 1))])), ((k 1), .inl (cI, 96, .inl (fm_fl (fr_ow (upd (fun j => v (14 + j)) d 9) (fun _ => 0)) kow n))), ((k 2), .inl (cI, 96, .inl (fm_fl (fr_li (upd (fun j => v (14 + j)) d 9) (fun _ => 0) (v 7) (fm_dk ((fun j => v (2 + j)) 1))) kli n))), ((k 3), .inl (cI, 6, .inl (fr_gp (fr_li (upd (fun j => v (14 + j)) d 9) (fun _ => 0) (v 7) (fm_dk ((fun j => v (2 + j)) 1))) n))), ((k 4), .inl (cI, 6, .inl (fr_ls (fr_li (upd (fun j => v (14 + j)) d 9) (fun _ => 0) (v 7) (fm_dk ((fun j => v (2 + j)) 1))) n))), ((k 5), .inl (cI, 6, .inl (upd (fun j => v (14 + j)) d 9))), ((k 6), .inl (cI, 6, .inl (fr_cr (upd (fun j => v (14 + j)) d 9) (fun _ => 0) n))), ((k 7), .inl (cI, 6, .inl (fr_dr (fr_li (upd (fun j => v (14 + j)) d 9) (fun _ => 0) (v 7) (fm_dk ((fun j => v (2 + j)) 1))) n))), ((a 0), .inr (2, [.ref (a 1), .ref (a 2), .ref (a 3), .ref (a 4), .ref (a 5), .ref (a 6), .ref (a 7), .int (v 1), .int (v 0), .int (v 7)])), ((a 2), .inl (cI, 6, .inl (fun j => v (14 + j)))), ((a 7), .inl (cI, 5, .inl (fun j => v (2 + j))))] H := hP
              have hD : va_D A [(x, .inr (4, [.ref (a 0), .ref (h 0), .ref (tx 0), .ref (g 0), .ref (k 0)])), ((a 1), .inl (cI, 6, .inl (fun j => v (8 + j)))), ((a 3), .inl (cI, 6, .inl (fun j => v (20 + j)))), ((a 4), .inl (cI, 6, .inl (fun j => v (26 + j)))), ((a 5), .inl (cI, 6, .inl (fun j => v (32 + j)))), ((a 6), .inl (cI, 42, .inl (fun j => v (38 + j)))), ((g 0), .inr (0, [.ref (g 1), .ref (g 2), .ref (g 3), .ref (g 4), .ref (g 5), .ref (g 6), .ref (g 7), .int ln, .int pe, .int ne])), ((g 3), .inl (cI, 6, .inl gp)), ((g 4), .inl (cI, 6, .inl ls)), ((k 0), .inr (0, [.ref (k 1), .ref (k 2), .ref (k 3), .ref (k 4), .ref (k 5), .ref (k 6), .ref (k 7), .int ((fun j => v (2 + j)) 0), .int ((fun j => v (2 + j)) 2), .int ((fun j => v (2 + j)) 3 * (v 1))])), ((k 1), .inl (cI, 96, .inl (fm_fl (fr_ow (upd (fun j => v (14 + j)) d 9) (fun _ => 0)) kow n))), ((k 2), .inl (cI, 96, .inl (fm_fl (fr_li (upd (fun j => v (14 + j)) d 9) (fun _ => 0) (v 7) (fm_dk ((fun j => v (2 + j)) 1))) kli n))), ((k 3), .inl (cI, 6, .inl (fr_gp (fr_li (upd (fun j => v (14 + j)) d 9) (fun _ => 0) (v 7) (fm_dk ((fun j => v (2 + j)) 1))) n))), ((k 4), .inl (cI, 6, .inl (fr_ls (fr_li (upd (fun j => v (14 + j)) d 9) (fun _ => 0) (v 7) (fm_dk ((fun j => v (2 + j)) 1))) n))), ((k 5), .inl (cI, 6, .inl (upd (fun j => v (14 + j)) d 9))), ((k 6), .inl (cI, 6, .inl (fr_cr (upd (fun j => v (14 + j)) d 9) (fun _ => 0) n))), ((k 7), .inl (cI, 6, .inl (fr_dr (fr_li (upd (fun j => v (14 + j)) d 9) (fun _ => 0) (v 7) (fm_dk ((fun j => v (2 + j)) 1))) n))), ((a 0), .inr (2, [.ref (a 1), .ref (a 2), .ref (a 3), .ref (a 4), .ref (a 5), .ref (a 6), .ref (a 7), .int (v 1), .int (v 0), .int (v 7)])), ((a 2), .inl (cI, 6, .inl (fun j => v (14 + j)))), ((a 7), .inl (cI, 5, .inl (fun j => v (2 + j))))] := hD
              refine lv_iconst (v := 0) hx hb dX4_mixDigit_86 (by decide) ?_
              refine lv_istore (lv' := [(6, .int 0), (0, .ref x), (3, .int (nI d)), (4, .long (hm (fun j => v (38 + (d * 7 + j))) (hm (lk_pr gp ls ln pe ne v d) h0 12) 7))]) hx hb dX4_mixDigit_87 hl (by decide) rfl (fun lz hl => ?_)
              have L89 : ∀ (zz i : Nat), i ≤ 3 → 3 + 1 ≤ i + zz → ∀ (x4 : Int64), x4 = hm (if_tr v n d 9) (md_1 gp ls ln pe ne v d h0) i → ∀ (H : Heap) (locs : List Loc), va_P (dC, dI) vwCl [(x, .inr (4, [.ref (a 0), .ref (h 0), .ref (tx 0), .ref (g 0), .ref (k 0)])), ((a 1), .inl (cI, 6, .inl (fun j => v (8 + j)))), ((a 3), .inl (cI, 6, .inl (fun j => v (20 + j)))), ((a 4), .inl (cI, 6, .inl (fun j => v (26 + j)))), ((a 5), .inl (cI, 6, .inl (fun j => v (32 + j)))), ((a 6), .inl (cI, 42, .inl (fun j => v (38 + j)))), ((g 0), .inr (0, [.ref (g 1), .ref (g 2), .ref (g 3), .ref (g 4), .ref (g 5), .ref (g 6), .ref (g 7), .int ln, .int pe, .int ne])), ((g 3), .inl (cI, 6, .inl gp)), ((g 4), .inl (cI, 6, .inl ls)), ((k 0), .inr (0, [.ref (k 1), .ref (k 2), .ref (k 3), .ref (k 4), .ref (k 5), .ref (k 6), .ref (k 7), .int ((fun j => v (2 + j)) 0), .int ((fun j => v (2 + j)) 2), .int ((fun j => v (2 + j)) 3 * (v 1))])), ((k 1), .inl (cI, 96, .inl (fm_fl (fr_ow (upd (fun j => v (14 + j)) d 9) (fun _ => 0)) kow n))), ((k 2), .inl (cI, 96, .inl (fm_fl (fr_li (upd (fun j => v (14 + j)) d 9) (fun _ => 0) (v 7) (fm_dk ((fun j => v (2 + j)) 1))) kli n))), ((k 3), .inl (cI, 6, .inl (fr_gp (fr_li (upd (fun j => v (14 + j)) d 9) (fun _ => 0) (v 7) (fm_dk ((fun j => v (2 + j)) 1))) n))), ((k 4), .inl (cI, 6, .inl (fr_ls (fr_li (upd (fun j => v (14 + j)) d 9) (fun _ => 0) (v 7) (fm_dk ((fun j => v (2 + j)) 1))) n))), ((k 5), .inl (cI, 6, .inl (upd (fun j => v (14 + j)) d 9))), ((k 6), .inl (cI, 6, .inl (fr_cr (upd (fun j => v (14 + j)) d 9) (fun _ => 0) n))), ((k 7), .inl (cI, 6, .inl (fr_dr (fr_li (upd (fun j => v (14 + j)) d 9) (fun _ => 0) (v 7) (fm_dk ((fun j => v (2 + j)) 1))) n))), ((a 0), .inr (2, [.ref (a 1), .ref (a 2), .ref (a 3), .ref (a 4), .ref (a 5), .ref (a 6), .ref (a 7), .int (v 1), .int (v 0), .int (v 7)])), ((a 2), .inl (cI, 6, .inl (fun j => v (14 + j)))), ((a 7), .inl (cI, 5, .inl (fun j => v (2 + j))))] H → va_D A [(x, .inr (4, [.ref (a 0), .ref (h 0), .ref (tx 0), .ref (g 0), .ref (k 0)])), ((a 1), .inl (cI, 6, .inl (fun j => v (8 + j)))), ((a 3), .inl (cI, 6, .inl (fun j => v (20 + j)))), ((a 4), .inl (cI, 6, .inl (fun j => v (26 + j)))), ((a 5), .inl (cI, 6, .inl (fun j => v (32 + j)))), ((a 6), .inl (cI, 42, .inl (fun j => v (38 + j)))), ((g 0), .inr (0, [.ref (g 1), .ref (g 2), .ref (g 3), .ref (g 4), .ref (g 5), .ref (g 6), .ref (g 7), .int ln, .int pe, .int ne])), ((g 3), .inl (cI, 6, .inl gp)), ((g 4), .inl (cI, 6, .inl ls)), ((k 0), .inr (0, [.ref (k 1), .ref (k 2), .ref (k 3), .ref (k 4), .ref (k 5), .ref (k 6), .ref (k 7), .int ((fun j => v (2 + j)) 0), .int ((fun j => v (2 + j)) 2), .int ((fun j => v (2 + j)) 3 * (v 1))])), ((k 1), .inl (cI, 96, .inl (fm_fl (fr_ow (upd (fun j => v (14 + j)) d 9) (fun _ => 0)) kow n))), ((k 2), .inl (cI, 96, .inl (fm_fl (fr_li (upd (fun j => v (14 + j)) d 9) (fun _ => 0) (v 7) (fm_dk ((fun j => v (2 + j)) 1))) kli n))), ((k 3), .inl (cI, 6, .inl (fr_gp (fr_li (upd (fun j => v (14 + j)) d 9) (fun _ => 0) (v 7) (fm_dk ((fun j => v (2 + j)) 1))) n))), ((k 4), .inl (cI, 6, .inl (fr_ls (fr_li (upd (fun j => v (14 + j)) d 9) (fun _ => 0) (v 7) (fm_dk ((fun j => v (2 + j)) 1))) n))), ((k 5), .inl (cI, 6, .inl (upd (fun j => v (14 + j)) d 9))), ((k 6), .inl (cI, 6, .inl (fr_cr (upd (fun j => v (14 + j)) d 9) (fun _ => 0) n))), ((k 7), .inl (cI, 6, .inl (fr_dr (fr_li (upd (fun j => v (14 + j)) d 9) (fun _ => 0) (v 7) (fm_dk ((fun j => v (2 + j)) 1))) n))), ((a 0), .inr (2, [.ref (a 1), .ref (a 2), .ref (a 3), .ref (a 4), .ref (a 5), .ref (a 6), .ref (a 7), .int (v 1), .int (v 0), .int (v 7)])), ((a 2), .inl (cI, 6, .inl (fun j => v (14 + j)))), ((a 7), .inl (cI, 5, .inl (fun j => v (2 + j))))] → va_S A s.heap H locs → ∀ (lz : Array Slot), lv_has lz 7 [(0, .ref x), (3, .int (nI d)), (4, .long x4), (6, .int (nI i))] → W p l e (headSpec wsX4_mixDigit ({ frames := 5, cells := 0, slots := 0, locals := 112 } : Room)).room s m ([.ref x, .long h0, .int (nI d)] : List Value).toArray below meth c H locs 0 0 (MQ below (va_Ql (fun (r : Int64) (u : (Nat → Int32) × (Nat → Int32) × (Nat → Int32) × (Nat → Int32) × (Nat → Int32) × (Nat → Int32) × (Nat → Int32) × Int32 × Int32 × Int32) => r = md gp ls ln pe ne v n d h0) (xm_B (dC, dI) (fun (u : (Nat → Int32) × (Nat → Int32) × (Nat → Int32) × (Nat → Int32) × (Nat → Int32) × (Nat → Int32) × (Nat → Int32) × Int32 × Int32 × Int32) => [(x, .inr (4, [.ref (a 0), .ref (h 0), .ref (tx 0), .ref (g 0), .ref (k 0)])), ((a 0), .inr (2, [.ref (a 1), .ref (a 2), .ref (a 3), .ref (a 4), .ref (a 5), .ref (a 6), .ref (a 7), .int (v 1), .int (v 0), .int (v 7)])), ((a 1), .inl (cI, 6, .inl (fun j => v (8 + j)))), ((a 2), .inl (cI, 6, .inl (fun j => v (14 + j)))), ((a 3), .inl (cI, 6, .inl (fun j => v (20 + j)))), ((a 4), .inl (cI, 6, .inl (fun j => v (26 + j)))), ((a 5), .inl (cI, 6, .inl (fun j => v (32 + j)))), ((a 6), .inl (cI, 42, .inl (fun j => v (38 + j)))), ((a 7), .inl (cI, 5, .inl (fun j => v (2 + j)))), ((g 0), .inr (0, [.ref (g 1), .ref (g 2), .ref (g 3), .ref (g 4), .ref (g 5), .ref (g 6), .ref (g 7), .int ln, .int pe, .int ne])), ((g 3), .inl (cI, 6, .inl gp)), ((g 4), .inl (cI, 6, .inl ls)), ((k 0), .inr (0, [.ref (k 1), .ref (k 2), .ref (k 3), .ref (k 4), .ref (k 5), .ref (k 6), .ref (k 7), .int u.2.2.2.2.2.2.2.1, .int u.2.2.2.2.2.2.2.2.1, .int u.2.2.2.2.2.2.2.2.2])), ((k 1), .inl (cI, 96, .inl u.1)), ((k 2), .inl (cI, 96, .inl u.2.1)), ((k 3), .inl (cI, 6, .inl u.2.2.1)), ((k 4), .inl (cI, 6, .inl u.2.2.2.1)), ((k 5), .inl (cI, 6, .inl u.2.2.2.2.1)), ((k 6), .inl (cI, 6, .inl u.2.2.2.2.2.1)), ((k 7), .inl (cI, 6, .inl u.2.2.2.2.2.2.1))]) A) A) ([.ref x, .long h0, .int (nI d)] : List Value).toArray s 0 0 A) (F0 m 89 lz []) := by
                intro zz
                induction zz with
                | zero => intro i hii hni; exact absurd hni (by omega)
                | succ zz ih89 =>
                  intro i hii hni x4 e_x4  H locs hP hD hS lz hl
                  subst e_x4
                  refine lv_iload hx hb dX4_mixDigit_89 (lv_at hl 3 rfl) ?_
                  refine lv_iconst (v := 3) hx hb dX4_mixDigit_91 (by decide) ?_
                  refine lv_icmp_ge (tgt := 116) hx hb dX4_mixDigit_92 (by decide) (fun q92 => ?_) (fun q92 => ?_)
                  · have hNi : 3 = i := (xm_end (N := 3) hii (by decide) q92).symm
                    subst hNi
                    refine lv_lload hx hb dX4_mixDigit_116 (lv_at hl 2 rfl) ?_
                    refine lv_aload_n hx hb dX4_mixDigit_118 rfl (lv_at hl 0 rfl) ?_
                    refine lv_iload_n hx hb dX4_mixDigit_119 rfl (lv_at hl 1 rfl) ?_
                    have hPc := hP.sub (ws' := [(x, .inr (4, [.ref (a 0), .ref (h 0), .ref (tx 0), .ref (g 0), .ref (k 0)])), ((a 0), .inr (2, [.ref (a 1), .ref (a 2), .ref (a 3), .ref (a 4), .ref (a 5), .ref (a 6), .ref (a 7), .int (v 1), .int (v 0), .int (v 7)])), ((a 2), .inl (cI, 6, .inl (fun j => v (14 + j)))), ((a 7), .inl (cI, 5, .inl (fun j => v (2 + j)))), ((k 0), .inr (0, [.ref (k 1), .ref (k 2), .ref (k 3), .ref (k 4), .ref (k 5), .ref (k 6), .ref (k 7), .int ((fun j => v (2 + j)) 0), .int ((fun j => v (2 + j)) 2), .int ((fun j => v (2 + j)) 3 * (v 1))])), ((k 1), .inl (cI, 96, .inl (fm_fl (fr_ow (upd (fun j => v (14 + j)) d 9) (fun _ => 0)) kow n))), ((k 2), .inl (cI, 96, .inl (fm_fl (fr_li (upd (fun j => v (14 + j)) d 9) (fun _ => 0) (v 7) (fm_dk ((fun j => v (2 + j)) 1))) kli n))), ((k 3), .inl (cI, 6, .inl (fr_gp (fr_li (upd (fun j => v (14 + j)) d 9) (fun _ => 0) (v 7) (fm_dk ((fun j => v (2 + j)) 1))) n))), ((k 4), .inl (cI, 6, .inl (fr_ls (fr_li (upd (fun j => v (14 + j)) d 9) (fun _ => 0) (v 7) (fm_dk ((fun j => v (2 + j)) 1))) n))), ((k 5), .inl (cI, 6, .inl (upd (fun j => v (14 + j)) d 9))), ((k 6), .inl (cI, 6, .inl (fr_cr (upd (fun j => v (14 + j)) d 9) (fun _ => 0) n))), ((k 7), .inl (cI, 6, .inl (fr_dr (fr_li (upd (fun j => v (14 + j)) d 9) (fun _ => 0) (v 7) (fm_dk ((fun j => v (2 + j)) 1))) n)))]) [0, 17, 18, 19, 9, 10, 11, 12, 13, 14, 15, 16] rfl
                    have hDc := hD.sub (ws' := [(x, .inr (4, [.ref (a 0), .ref (h 0), .ref (tx 0), .ref (g 0), .ref (k 0)])), ((a 0), .inr (2, [.ref (a 1), .ref (a 2), .ref (a 3), .ref (a 4), .ref (a 5), .ref (a 6), .ref (a 7), .int (v 1), .int (v 0), .int (v 7)])), ((a 2), .inl (cI, 6, .inl (fun j => v (14 + j)))), ((a 7), .inl (cI, 5, .inl (fun j => v (2 + j)))), ((k 0), .inr (0, [.ref (k 1), .ref (k 2), .ref (k 3), .ref (k 4), .ref (k 5), .ref (k 6), .ref (k 7), .int ((fun j => v (2 + j)) 0), .int ((fun j => v (2 + j)) 2), .int ((fun j => v (2 + j)) 3 * (v 1))])), ((k 1), .inl (cI, 96, .inl (fm_fl (fr_ow (upd (fun j => v (14 + j)) d 9) (fun _ => 0)) kow n))), ((k 2), .inl (cI, 96, .inl (fm_fl (fr_li (upd (fun j => v (14 + j)) d 9) (fun _ => 0) (v 7) (fm_dk ((fun j => v (2 + j)) 1))) kli n))), ((k 3), .inl (cI, 6, .inl (fr_gp (fr_li (upd (fun j => v (14 + j)) d 9) (fun _ => 0) (v 7) (fm_dk ((fun j => v (2 + j)) 1))) n))), ((k 4), .inl (cI, 6, .inl (fr_ls (fr_li (upd (fun j => v (14 + j)) d 9) (fun _ => 0) (v 7) (fm_dk ((fun j => v (2 + j)) 1))) n))), ((k 5), .inl (cI, 6, .inl (upd (fun j => v (14 + j)) d 9))), ((k 6), .inl (cI, 6, .inl (fr_cr (upd (fun j => v (14 + j)) d 9) (fun _ => 0) n))), ((k 7), .inl (cI, 6, .inl (fr_dr (fr_li (upd (fun j => v (14 + j)) d 9) (fun _ => 0) (v 7) (fm_dk ((fun j => v (2 + j)) 1))) n)))]) [0, 17, 18, 19, 9, 10, 11, 12, 13, 14, 15, 16] (by decide) rfl
                    have hFc := va_free (wc := [(x, .inr (4, [.ref (a 0), .ref (h 0), .ref (tx 0), .ref (g 0), .ref (k 0)])), ((a 0), .inr (2, [.ref (a 1), .ref (a 2), .ref (a 3), .ref (a 4), .ref (a 5), .ref (a 6), .ref (a 7), .int (v 1), .int (v 0), .int (v 7)])), ((a 2), .inl (cI, 6, .inl (fun j => v (14 + j)))), ((a 7), .inl (cI, 5, .inl (fun j => v (2 + j)))), ((k 0), .inr (0, [.ref (k 1), .ref (k 2), .ref (k 3), .ref (k 4), .ref (k 5), .ref (k 6), .ref (k 7), .int ((fun j => v (2 + j)) 0), .int ((fun j => v (2 + j)) 2), .int ((fun j => v (2 + j)) 3 * (v 1))])), ((k 1), .inl (cI, 96, .inl (fm_fl (fr_ow (upd (fun j => v (14 + j)) d 9) (fun _ => 0)) kow n))), ((k 2), .inl (cI, 96, .inl (fm_fl (fr_li (upd (fun j => v (14 + j)) d 9) (fun _ => 0) (v 7) (fm_dk ((fun j => v (2 + j)) 1))) kli n))), ((k 3), .inl (cI, 6, .inl (fr_gp (fr_li (upd (fun j => v (14 + j)) d 9) (fun _ => 0) (v 7) (fm_dk ((fun j => v (2 + j)) 1))) n))), ((k 4), .inl (cI, 6, .inl (fr_ls (fr_li (upd (fun j => v (14 + j)) d 9) (fun _ => 0) (v 7) (fm_dk ((fun j => v (2 + j)) 1))) n))), ((k 5), .inl (cI, 6, .inl (upd (fun j => v (14 + j)) d 9))), ((k 6), .inl (cI, 6, .inl (fr_cr (upd (fun j => v (14 + j)) d 9) (fun _ => 0) n))), ((k 7), .inl (cI, 6, .inl (fr_dr (fr_li (upd (fun j => v (14 + j)) d 9) (fun _ => 0) (v 7) (fm_dk ((fun j => v (2 + j)) 1))) n)))]) hD hS hA [0, 17, 18, 19, 9, 10, 11, 12, 13, 14, 15, 16] rfl
                    refine va_calli (va_runV (As := [.int (nI d)]) (rest := [.long (hm (if_tr v n d 9) (md_1 gp ls ln pe ne v d h0) 3)]) ⟨hx, hb, hml, hown, hts⟩ (c_X4_leastSeenLevel l dC dI cI cS cJ tt H.size x a h tx g k (fm_fl (fr_ow (upd (fun j => v (14 + j)) d 9) (fun _ => 0)) kow n) (fm_fl (fr_li (upd (fun j => v (14 + j)) d 9) (fun _ => 0) (v 7) (fm_dk ((fun j => v (2 + j)) 1))) kli n) (fr_gp (fr_li (upd (fun j => v (14 + j)) d 9) (fun _ => 0) (v 7) (fm_dk ((fun j => v (2 + j)) 1))) n) (fr_ls (fr_li (upd (fun j => v (14 + j)) d 9) (fun _ => 0) (v 7) (fm_dk ((fun j => v (2 + j)) 1))) n) (upd (fun j => v (14 + j)) d 9) (fr_cr (upd (fun j => v (14 + j)) d 9) (fun _ => 0) n) (fr_dr (fr_li (upd (fun j => v (14 + j)) d 9) (fun _ => 0) (v 7) (fm_dk ((fun j => v (2 + j)) 1))) n) ((fun j => v (2 + j)) 0) ((fun j => v (2 + j)) 2) ((fun j => v (2 + j)) 3 * (v 1)) v n d) (cwV 1 hts gX4_mixDigit_X4_leastSeenLevel rfl rfl rfl (by decide +kernel) ⟨Nat.le_of_ble_eq_true rfl, Nat.le_of_ble_eq_true rfl⟩) ⟨xm_Mblind, va_recv hK hPc (ci := 4) (q0 := 0) rfl rfl, fun U hU hW => ⟨rfl, by rw [hU], by rw [hU]; exact hPc, hE.go hS hFc hU hW, hDc.weaken (fun _ _ _ _ => trivial), ⟨hno, hd6⟩⟩⟩ rfl rfl hl.1 rfl (lv_room (Nat.le_of_ble_eq_true rfl)) dX4_mixDigit_120 ⟨Nat.zero_le _, Nat.zero_le _⟩) hS (fun q _ h => hFc q h) hFc (fun r u t H1 locs ht hvm hw hB hz1 hk1 hS => ?_)
                    obtain ⟨u_21, u_22, u_23, u_24, u_25, u_26, u_27, u_28, u_29, u_30⟩ := u
                    obtain ⟨hP1, hD1⟩ := hB
                    rw [ht] at hP1
                    have hw_31 := hw
                    have hw_31 : r = ls_to v n d 16 0 := hw_31
                    subst hw_31
                    obtain ⟨hP, hD⟩ := va_join (wr := [((a 1), .inl (cI, 6, .inl (fun j => v (8 + j)))), ((a 3), .inl (cI, 6, .inl (fun j => v (20 + j)))), ((a 4), .inl (cI, 6, .inl (fun j => v (26 + j)))), ((a 5), .inl (cI, 6, .inl (fun j => v (32 + j)))), ((a 6), .inl (cI, 42, .inl (fun j => v (38 + j)))), ((g 0), .inr (0, [.ref (g 1), .ref (g 2), .ref (g 3), .ref (g 4), .ref (g 5), .ref (g 6), .ref (g 7), .int ln, .int pe, .int ne])), ((g 3), .inl (cI, 6, .inl gp)), ((g 4), .inl (cI, 6, .inl ls))]) (w1 := [(x, .inr (4, [.ref (a 0), .ref (h 0), .ref (tx 0), .ref (g 0), .ref (k 0)])), ((a 0), .inr (2, [.ref (a 1), .ref (a 2), .ref (a 3), .ref (a 4), .ref (a 5), .ref (a 6), .ref (a 7), .int (v 1), .int (v 0), .int (v 7)])), ((a 2), .inl (cI, 6, .inl (fun j => v (14 + j)))), ((a 7), .inl (cI, 5, .inl (fun j => v (2 + j)))), ((k 0), .inr (0, [.ref (k 1), .ref (k 2), .ref (k 3), .ref (k 4), .ref (k 5), .ref (k 6), .ref (k 7), .int u_28, .int u_29, .int u_30])), ((k 1), .inl (cI, 96, .inl u_21)), ((k 2), .inl (cI, 96, .inl u_22)), ((k 3), .inl (cI, 6, .inl u_23)), ((k 4), .inl (cI, 6, .inl u_24)), ((k 5), .inl (cI, 6, .inl u_25)), ((k 6), .inl (cI, 6, .inl u_26)), ((k 7), .inl (cI, 6, .inl u_27))]) hP hD [0, 17, 18, 19, 9, 10, 11, 12, 13, 14, 15, 16] [1, 2, 3, 4, 5, 6, 7, 8] rfl rfl (by decide) (by decide) hk1 hFc hP1 hD1
                    generalize H1 = H at hP hS ⊢
                    have hP : va_P (dC, dI) vwCl [((a 1), .inl (cI, 6, .inl (fun j => v (8 + j)))), ((a 3), .inl (cI, 6, .inl (fun j => v (20 + j)))), ((a 4), .inl (cI, 6, .inl (fun j => v (26 + j)))), ((a 5), .inl (cI, 6, .inl (fun j => v (32 + j)))), ((a 6), .inl (cI, 42, .inl (fun j => v (38 + j)))), ((g 0), .inr (0, [.ref (g 1), .ref (g 2), .ref (g 3), .ref (g 4), .ref (g 5), .ref (g 6), .ref (g 7), .int ln, .int pe, .int ne])), ((g 3), .inl (cI, 6, .inl gp)), ((g 4), .inl (cI, 6, .inl ls)), (x, .inr (4, [.ref (a 0), .ref (h 0), .ref (tx 0), .ref (g 0), .ref (k 0)])), ((a 0), .inr (2, [.ref (a 1), .ref (a 2), .ref (a 3), .ref (a 4), .ref (a 5), .ref (a 6), .ref (a 7), .int (v 1), .int (v 0), .int (v 7)])), ((a 2), .inl (cI, 6, .inl (fun j => v (14 + j)))), ((a 7), .inl (cI, 5, .inl (fun j => v (2 + j)))), ((k 0), .inr (0, [.ref (k 1), .ref (k 2), .ref (k 3), .ref (k 4), .ref (k 5), .ref (k 6), .ref (k 7), .int u_28, .int u_29, .int u_30])), ((k 1), .inl (cI, 96, .inl u_21)), ((k 2), .inl (cI, 96, .inl u_22)), ((k 3), .inl (cI, 6, .inl u_23)), ((k 4), .inl (cI, 6, .inl u_24)), ((k 5), .inl (cI, 6, .inl u_25)), ((k 6), .inl (cI, 6, .inl u_26)), ((k 7), .inl (cI, 6, .inl u_27))] H := hP
                    have hD : va_D A [((a 1), .inl (cI, 6, .inl (fun j => v (8 + j)))), ((a 3), .inl (cI, 6, .inl (fun j => v (20 + j)))), ((a 4), .inl (cI, 6, .inl (fun j => v (26 + j)))), ((a 5), .inl (cI, 6, .inl (fun j => v (32 + j)))), ((a 6), .inl (cI, 42, .inl (fun j => v (38 + j)))), ((g 0), .inr (0, [.ref (g 1), .ref (g 2), .ref (g 3), .ref (g 4), .ref (g 5), .ref (g 6), .ref (g 7), .int ln, .int pe, .int ne])), ((g 3), .inl (cI, 6, .inl gp)), ((g 4), .inl (cI, 6, .inl ls)), (x, .inr (4, [.ref (a 0), .ref (h 0), .ref (tx 0), .ref (g 0), .ref (k 0)])), ((a 0), .inr (2, [.ref (a 1), .ref (a 2), .ref (a 3), .ref (a 4), .ref (a 5), .ref (a 6), .ref (a 7), .int (v 1), .int (v 0), .int (v 7)])), ((a 2), .inl (cI, 6, .inl (fun j => v (14 + j)))), ((a 7), .inl (cI, 5, .inl (fun j => v (2 + j)))), ((k 0), .inr (0, [.ref (k 1), .ref (k 2), .ref (k 3), .ref (k 4), .ref (k 5), .ref (k 6), .ref (k 7), .int u_28, .int u_29, .int u_30])), ((k 1), .inl (cI, 96, .inl u_21)), ((k 2), .inl (cI, 96, .inl u_22)), ((k 3), .inl (cI, 6, .inl u_23)), ((k 4), .inl (cI, 6, .inl u_24)), ((k 5), .inl (cI, 6, .inl u_25)), ((k 6), .inl (cI, 6, .inl u_26)), ((k 7), .inl (cI, 6, .inl u_27))] := hD
                    refine lv_i2l hx hb dX4_mixDigit_123 rfl ?_
                    have hPc := hP.sub (ws' := []) [] rfl
                    refine W.callV ((va_runS (As := [.long (hm (if_tr v n d 9) (md_1 gp ls ln pe ne v d h0) 3), .long ((ls_to v n d 16 0).toInt64)]) (rest := []) ⟨hx, hb, hml, hown, hts⟩ (c_X4_mix l dC dI cI cS cJ tt (hm (if_tr v n d 9) (md_1 gp ls ln pe ne v d h0) 3) ((ls_to v n d 16 0).toInt64)) (va_cwS 2 hts gX4_mixDigit_X4_mix rfl rfl rfl (by decide +kernel) ⟨Nat.le_of_ble_eq_true rfl, Nat.le_of_ble_eq_true rfl⟩) ⟨xm_Rblind, fun U hU hW => ⟨rfl, by rw [hU]; exact hPc, hE.go hS (fun _ q => q.elim) hU hW, trivial⟩⟩ rfl rfl hl.1 rfl (lv_room (Nat.le_of_ble_eq_true rfl)) dX4_mixDigit_124 ⟨Nat.zero_le _, Nat.zero_le _⟩).run) ?_
                    refine W.eq (g2 := F0 m 127 lz (.long (31 * (hm (if_tr v n d 9) (md_1 gp ls ln pe ne v d h0) 3) + ((ls_to v n d 16 0).toInt64)) :: [])) rfl ?_
                    refine lv_lstore (lv' := [(4, .long (31 * (hm (if_tr v n d 9) (md_1 gp ls ln pe ne v d h0) 3) + ((ls_to v n d 16 0).toInt64))), (0, .ref x), (3, .int (nI d)), (6, .int (nI 3))]) hx hb dX4_mixDigit_127 hl (by decide) rfl (fun lz hl => ?_)
                    refine lv_lload hx hb dX4_mixDigit_129 (lv_at hl 0 rfl) ?_
                    refine lv_aload_n hx hb dX4_mixDigit_131 rfl (lv_at hl 1 rfl) ?_
                    refine lv_iload_n hx hb dX4_mixDigit_132 rfl (lv_at hl 2 rfl) ?_
                    have hPc := hP.sub (ws' := [(x, .inr (4, [.ref (a 0), .ref (h 0), .ref (tx 0), .ref (g 0), .ref (k 0)])), ((a 0), .inr (2, [.ref (a 1), .ref (a 2), .ref (a 3), .ref (a 4), .ref (a 5), .ref (a 6), .ref (a 7), .int (v 1), .int (v 0), .int (v 7)])), ((a 3), .inl (cI, 6, .inl (fun j => v (20 + j))))]) [8, 9, 1] rfl
                    refine W.callV ((va_runV (As := [.int (nI d)]) (rest := [.long (31 * (hm (if_tr v n d 9) (md_1 gp ls ln pe ne v d h0) 3) + ((ls_to v n d 16 0).toInt64))]) ⟨hx, hb, hml, hown, hts⟩ (c_X4_alikePairs l dC dI cI cS cJ tt x a h tx g k v d) (cwV 1 hts gX4_mixDigit_X4_alikePairs rfl rfl rfl (by decide +kernel) ⟨Nat.le_of_ble_eq_true rfl, Nat.le_of_ble_eq_true rfl⟩) ⟨xm_Rblind, va_recv hK hPc (ci := 4) (q0 := 0) rfl rfl, fun U hU hW => ⟨rfl, by rw [hU]; exact hPc, hE.go hS (fun _ q => q.elim) hU hW, hd6⟩⟩ rfl rfl hl.1 rfl (lv_room (Nat.le_of_ble_eq_true rfl)) dX4_mixDigit_133 ⟨Nat.zero_le _, Nat.zero_le _⟩).run) ?_
                    refine W.eq (g2 := F0 m 136 lz (.int (ap_to (v (20 + d) ^^^ (-1)) 12) :: [.long (31 * (hm (if_tr v n d 9) (md_1 gp ls ln pe ne v d h0) 3) + ((ls_to v n d 16 0).toInt64))])) rfl ?_
                    refine lv_i2l hx hb dX4_mixDigit_136 rfl ?_
                    have hPc := hP.sub (ws' := []) [] rfl
                    refine W.callV ((va_runS (As := [.long (31 * (hm (if_tr v n d 9) (md_1 gp ls ln pe ne v d h0) 3) + ((ls_to v n d 16 0).toInt64)), .long ((ap_to (v (20 + d) ^^^ (-1)) 12).toInt64)]) (rest := []) ⟨hx, hb, hml, hown, hts⟩ (c_X4_mix l dC dI cI cS cJ tt (31 * (hm (if_tr v n d 9) (md_1 gp ls ln pe ne v d h0) 3) + ((ls_to v n d 16 0).toInt64)) ((ap_to (v (20 + d) ^^^ (-1)) 12).toInt64)) (va_cwS 2 hts gX4_mixDigit_X4_mix rfl rfl rfl (by decide +kernel) ⟨Nat.le_of_ble_eq_true rfl, Nat.le_of_ble_eq_true rfl⟩) ⟨xm_Rblind, fun U hU hW => ⟨rfl, by rw [hU]; exact hPc, hE.go hS (fun _ q => q.elim) hU hW, trivial⟩⟩ rfl rfl hl.1 rfl (lv_room (Nat.le_of_ble_eq_true rfl)) dX4_mixDigit_137 ⟨Nat.zero_le _, Nat.zero_le _⟩).run) ?_
                    refine W.eq (g2 := F0 m 140 lz (.long (31 * (31 * (hm (if_tr v n d 9) (md_1 gp ls ln pe ne v d h0) 3) + ((ls_to v n d 16 0).toInt64)) + ((ap_to (v (20 + d) ^^^ (-1)) 12).toInt64)) :: [])) rfl ?_
                    have hP9 := hP.sub (ws' := [(x, .inr (4, [.ref (a 0), .ref (h 0), .ref (tx 0), .ref (g 0), .ref (k 0)])), ((a 0), .inr (2, [.ref (a 1), .ref (a 2), .ref (a 3), .ref (a 4), .ref (a 5), .ref (a 6), .ref (a 7), .int (v 1), .int (v 0), .int (v 7)])), ((a 1), .inl (cI, 6, .inl (fun j => v (8 + j)))), ((a 2), .inl (cI, 6, .inl (fun j => v (14 + j)))), ((a 3), .inl (cI, 6, .inl (fun j => v (20 + j)))), ((a 4), .inl (cI, 6, .inl (fun j => v (26 + j)))), ((a 5), .inl (cI, 6, .inl (fun j => v (32 + j)))), ((a 6), .inl (cI, 42, .inl (fun j => v (38 + j)))), ((a 7), .inl (cI, 5, .inl (fun j => v (2 + j)))), ((g 0), .inr (0, [.ref (g 1), .ref (g 2), .ref (g 3), .ref (g 4), .ref (g 5), .ref (g 6), .ref (g 7), .int ln, .int pe, .int ne])), ((g 3), .inl (cI, 6, .inl gp)), ((g 4), .inl (cI, 6, .inl ls)), ((k 0), .inr (0, [.ref (k 1), .ref (k 2), .ref (k 3), .ref (k 4), .ref (k 5), .ref (k 6), .ref (k 7), .int u_28, .int u_29, .int u_30])), ((k 1), .inl (cI, 96, .inl u_21)), ((k 2), .inl (cI, 96, .inl u_22)), ((k 3), .inl (cI, 6, .inl u_23)), ((k 4), .inl (cI, 6, .inl u_24)), ((k 5), .inl (cI, 6, .inl u_25)), ((k 6), .inl (cI, 6, .inl u_26)), ((k 7), .inl (cI, 6, .inl u_27))]) [8, 9, 0, 10, 1, 2, 3, 4, 11, 5, 6, 7, 12, 13, 14, 15, 16, 17, 18, 19] rfl
                    have hD9 := hD.sub (ws' := [(x, .inr (4, [.ref (a 0), .ref (h 0), .ref (tx 0), .ref (g 0), .ref (k 0)])), ((a 0), .inr (2, [.ref (a 1), .ref (a 2), .ref (a 3), .ref (a 4), .ref (a 5), .ref (a 6), .ref (a 7), .int (v 1), .int (v 0), .int (v 7)])), ((a 1), .inl (cI, 6, .inl (fun j => v (8 + j)))), ((a 2), .inl (cI, 6, .inl (fun j => v (14 + j)))), ((a 3), .inl (cI, 6, .inl (fun j => v (20 + j)))), ((a 4), .inl (cI, 6, .inl (fun j => v (26 + j)))), ((a 5), .inl (cI, 6, .inl (fun j => v (32 + j)))), ((a 6), .inl (cI, 42, .inl (fun j => v (38 + j)))), ((a 7), .inl (cI, 5, .inl (fun j => v (2 + j)))), ((g 0), .inr (0, [.ref (g 1), .ref (g 2), .ref (g 3), .ref (g 4), .ref (g 5), .ref (g 6), .ref (g 7), .int ln, .int pe, .int ne])), ((g 3), .inl (cI, 6, .inl gp)), ((g 4), .inl (cI, 6, .inl ls)), ((k 0), .inr (0, [.ref (k 1), .ref (k 2), .ref (k 3), .ref (k 4), .ref (k 5), .ref (k 6), .ref (k 7), .int u_28, .int u_29, .int u_30])), ((k 1), .inl (cI, 96, .inl u_21)), ((k 2), .inl (cI, 96, .inl u_22)), ((k 3), .inl (cI, 6, .inl u_23)), ((k 4), .inl (cI, 6, .inl u_24)), ((k 5), .inl (cI, 6, .inl u_25)), ((k 6), .inl (cI, 6, .inl u_26)), ((k 7), .inl (cI, 6, .inl u_27))]) [8, 9, 0, 10, 1, 2, 3, 4, 11, 5, 6, 7, 12, 13, 14, 15, 16, 17, 18, 19] (by decide) rfl
                    exact W.lret (v := 31 * (31 * (hm (if_tr v n d 9) (md_1 gp ls ln pe ne v d h0) 3) + ((ls_to v n d 16 0).toInt64)) + ((ap_to (v (20 + d) ^^^ (-1)) 12).toInt64)) hx hb hr (fun t ht hW => ⟨⟨31 * (31 * (hm (if_tr v n d 9) (md_1 gp ls ln pe ne v d h0) 3) + ((ls_to v n d 16 0).toInt64)) + ((ap_to (v (20 + d) ^^^ (-1)) 12).toInt64), (u_21, u_22, u_23, u_24, u_25, u_26, u_27, u_28, u_29, u_30), rfl, (rfl), by rw [ht]; exact hP9, hD9⟩, hS.F ht⟩) hS.2.2 dX4_mixDigit_140
                  · have hlti : i < 3 := xm_lt (N := 3) hii (by decide) q92
                    refine lv_lload hx hb dX4_mixDigit_95 (lv_at hl 2 rfl) ?_
                    refine lv_aload_n hx hb dX4_mixDigit_97 rfl (lv_at hl 0 rfl) ?_
                    refine lv_iload_n hx hb dX4_mixDigit_98 rfl (lv_at hl 1 rfl) ?_
                    refine lv_iload hx hb dX4_mixDigit_99 (lv_at hl 3 rfl) ?_
                    have hPc := hP.sub (ws' := [(x, .inr (4, [.ref (a 0), .ref (h 0), .ref (tx 0), .ref (g 0), .ref (k 0)])), ((k 0), .inr (0, [.ref (k 1), .ref (k 2), .ref (k 3), .ref (k 4), .ref (k 5), .ref (k 6), .ref (k 7), .int ((fun j => v (2 + j)) 0), .int ((fun j => v (2 + j)) 2), .int ((fun j => v (2 + j)) 3 * (v 1))])), ((k 3), .inl (cI, 6, .inl (fr_gp (fr_li (upd (fun j => v (14 + j)) d 9) (fun _ => 0) (v 7) (fm_dk ((fun j => v (2 + j)) 1))) n))), ((k 4), .inl (cI, 6, .inl (fr_ls (fr_li (upd (fun j => v (14 + j)) d 9) (fun _ => 0) (v 7) (fm_dk ((fun j => v (2 + j)) 1))) n)))]) [0, 9, 12, 13] rfl
                    refine W.callV ((va_runV (As := [.int (nI d), .int (nI i)]) (rest := [.long (hm (if_tr v n d 9) (md_1 gp ls ln pe ne v d h0) i)]) ⟨hx, hb, hml, hown, hts⟩ (c_X4_trialNumber l dC dI cI cS cJ tt x a h tx g k (fr_gp (fr_li (upd (fun j => v (14 + j)) d 9) (fun _ => 0) (v 7) (fm_dk ((fun j => v (2 + j)) 1))) n) (fr_ls (fr_li (upd (fun j => v (14 + j)) d 9) (fun _ => 0) (v 7) (fm_dk ((fun j => v (2 + j)) 1))) n) ((fun j => v (2 + j)) 0) ((fun j => v (2 + j)) 2) ((fun j => v (2 + j)) 3 * (v 1)) d i) (cwV 2 hts gX4_mixDigit_X4_trialNumber rfl rfl rfl (by decide +kernel) ⟨Nat.le_of_ble_eq_true rfl, Nat.le_of_ble_eq_true rfl⟩) ⟨xm_Rblind, va_recv hK hPc (ci := 4) (q0 := 0) rfl rfl, fun U hU hW => ⟨rfl, by rw [hU]; exact hPc, hE.go hS (fun _ q => q.elim) hU hW, ⟨hd6, by omega⟩⟩⟩ rfl rfl hl.1 rfl (lv_room (Nat.le_of_ble_eq_true rfl)) dX4_mixDigit_101 ⟨Nat.zero_le _, Nat.zero_le _⟩).run) ?_
                    refine W.eq (g2 := F0 m 104 lz (.int (lk_tr (fr_gp (fr_li (upd (fun j => v (14 + j)) d 9) (fun _ => 0) (v 7) (fm_dk ((fun j => v (2 + j)) 1))) n) (fr_ls (fr_li (upd (fun j => v (14 + j)) d 9) (fun _ => 0) (v 7) (fm_dk ((fun j => v (2 + j)) 1))) n) ((fun j => v (2 + j)) 0) ((fun j => v (2 + j)) 2) ((fun j => v (2 + j)) 3 * (v 1)) d i) :: [.long (hm (if_tr v n d 9) (md_1 gp ls ln pe ne v d h0) i)])) rfl ?_
                    refine xm_topi (y := ((if_tr v n d 9) i)) rfl ?_
                    refine lv_i2l hx hb dX4_mixDigit_104 rfl ?_
                    have hPc := hP.sub (ws' := []) [] rfl
                    refine W.callV ((va_runS (As := [.long (hm (if_tr v n d 9) (md_1 gp ls ln pe ne v d h0) i), .long (((if_tr v n d 9) i).toInt64)]) (rest := []) ⟨hx, hb, hml, hown, hts⟩ (c_X4_mix l dC dI cI cS cJ tt (hm (if_tr v n d 9) (md_1 gp ls ln pe ne v d h0) i) (((if_tr v n d 9) i).toInt64)) (va_cwS 2 hts gX4_mixDigit_X4_mix rfl rfl rfl (by decide +kernel) ⟨Nat.le_of_ble_eq_true rfl, Nat.le_of_ble_eq_true rfl⟩) ⟨xm_Rblind, fun U hU hW => ⟨rfl, by rw [hU]; exact hPc, hE.go hS (fun _ q => q.elim) hU hW, trivial⟩⟩ rfl rfl hl.1 rfl (lv_room (Nat.le_of_ble_eq_true rfl)) dX4_mixDigit_105 ⟨Nat.zero_le _, Nat.zero_le _⟩).run) ?_
                    refine W.eq (g2 := F0 m 108 lz (.long (31 * (hm (if_tr v n d 9) (md_1 gp ls ln pe ne v d h0) i) + (((if_tr v n d 9) i).toInt64)) :: [])) rfl ?_
                    refine lv_lstore (lv' := [(4, .long (31 * (hm (if_tr v n d 9) (md_1 gp ls ln pe ne v d h0) i) + (((if_tr v n d 9) i).toInt64))), (0, .ref x), (3, .int (nI d)), (6, .int (nI i))]) hx hb dX4_mixDigit_108 hl (by decide) rfl (fun lz hl => ?_)
                    refine lv_iinc (v := nI (i + 1)) (lv' := [(6, .int (nI (i + 1))), (4, .long (31 * (hm (if_tr v n d 9) (md_1 gp ls ln pe ne v d h0) i) + (((if_tr v n d 9) i).toInt64))), (0, .ref x), (3, .int (nI d))]) hx hb dX4_mixDigit_110 hl (k := 3) rfl (nI_1 i) (by decide) rfl (fun lz hl => ?_)
                    refine lv_goto (tgt := 89) hx hb dX4_mixDigit_113 (by decide) ?_
                    exact ih89 (i + 1) hlti (by omega) (31 * (hm (if_tr v n d 9) (md_1 gp ls ln pe ne v d h0) i) + (((if_tr v n d 9) i).toInt64)) rfl  H locs hP hD hS lz (lv_sub hl [2, 3, 1, 0] rfl)
              exact L89 (3 + 1) 0 (by omega) (by omega) (hm (fun j => v (38 + (d * 7 + j))) (hm (lk_pr gp ls ln pe ne v d) h0 12) 7) rfl  H locs hP hD hS lz (lv_sub hl [1, 2, 3, 0] rfl)
            · have hlti : i < 7 := xm_lt (N := 7) hii (by decide) q41
              refine lv_lload hx hb dX4_mixDigit_44 (lv_at hl 2 rfl) ?_
              refine lv_aload_n hx hb dX4_mixDigit_46 rfl (lv_at hl 0 rfl) ?_
              refine va_get (D := (dC, dI)) (ci := 4) (v := .ref (a 0)) (C := RX4) (T := TX4) (N := 5) hx hb hts hin4 hown hK hP 0 rfl rfl 0 (by decide) (hts (.fieldLink RX4 10 "TurnDigits" "state" "LTurnDigits$State;") (by decide +kernel)) (fun _ h9 => h9) rfl dX4_mixDigit_47 ?_
              refine va_get (D := (dC, dI)) (ci := 2) (v := .ref (a 6)) (C := RX2) (T := TX2) (N := 10) hx hb hts hin2 hown hK hP 1 rfl rfl 5 (by decide) (hts (.fieldLink RX4 68 "TurnDigits$State" "wears" "[I") (by decide +kernel)) (fun _ h9 => h9) rfl dX4_mixDigit_50 ?_
              refine lv_iload_n hx hb dX4_mixDigit_53 rfl (lv_at hl 1 rfl) ?_
              refine lv_iload hx hb dX4_mixDigit_54 (lv_at hl 3 rfl) ?_
              have hPc := hP.sub (ws' := []) [] rfl
              refine W.callV ((va_runS (As := [.int (nI d), .int (nI i)]) (rest := [.ref (a 6), .long (hm (fun j => v (38 + (d * 7 + j))) (hm (lk_pr gp ls ln pe ne v d) h0 12) i)]) ⟨hx, hb, hml, hown, hts⟩ (c_X4_wearPlace l dC dI cI cS cJ tt d i) (va_cwS 2 hts gX4_mixDigit_X4_wearPlace rfl rfl rfl (by decide +kernel) ⟨Nat.le_of_ble_eq_true rfl, Nat.le_of_ble_eq_true rfl⟩) ⟨xm_Rblind, fun U hU hW => ⟨rfl, by rw [hU]; exact hPc, hE.go hS (fun _ q => q.elim) hU hW, trivial⟩⟩ rfl rfl hl.1 rfl (lv_room (Nat.le_of_ble_eq_true rfl)) dX4_mixDigit_56 ⟨Nat.zero_le _, Nat.zero_le _⟩).run) ?_
              refine W.eq (g2 := F0 m 59 lz (.int (nI (d * 7 + i)) :: [.ref (a 6), .long (hm (fun j => v (38 + (d * 7 + j))) (hm (lk_pr gp ls ln pe ne v d) h0 12) i)])) rfl ?_
              refine xm_iald (D := (dC, dI)) hx hb hK hP 7 0 (d * 7 + i) (v := (fun j => v (38 + j)) (d * 7 + i)) rfl rfl (by decide) rfl (by omega) rfl dX4_mixDigit_59 ?_
              refine lv_i2l hx hb dX4_mixDigit_60 rfl ?_
              have hPc := hP.sub (ws' := []) [] rfl
              refine W.callV ((va_runS (As := [.long (hm (fun j => v (38 + (d * 7 + j))) (hm (lk_pr gp ls ln pe ne v d) h0 12) i), .long (((fun j => v (38 + j)) (d * 7 + i)).toInt64)]) (rest := []) ⟨hx, hb, hml, hown, hts⟩ (c_X4_mix l dC dI cI cS cJ tt (hm (fun j => v (38 + (d * 7 + j))) (hm (lk_pr gp ls ln pe ne v d) h0 12) i) (((fun j => v (38 + j)) (d * 7 + i)).toInt64)) (va_cwS 2 hts gX4_mixDigit_X4_mix rfl rfl rfl (by decide +kernel) ⟨Nat.le_of_ble_eq_true rfl, Nat.le_of_ble_eq_true rfl⟩) ⟨xm_Rblind, fun U hU hW => ⟨rfl, by rw [hU]; exact hPc, hE.go hS (fun _ q => q.elim) hU hW, trivial⟩⟩ rfl rfl hl.1 rfl (lv_room (Nat.le_of_ble_eq_true rfl)) dX4_mixDigit_61 ⟨Nat.zero_le _, Nat.zero_le _⟩).run) ?_
              refine W.eq (g2 := F0 m 64 lz (.long (31 * (hm (fun j => v (38 + (d * 7 + j))) (hm (lk_pr gp ls ln pe ne v d) h0 12) i) + (((fun j => v (38 + j)) (d * 7 + i)).toInt64)) :: [])) rfl ?_
              refine lv_lstore (lv' := [(4, .long (31 * (hm (fun j => v (38 + (d * 7 + j))) (hm (lk_pr gp ls ln pe ne v d) h0 12) i) + (((fun j => v (38 + j)) (d * 7 + i)).toInt64))), (0, .ref x), (3, .int (nI d)), (6, .int (nI i))]) hx hb dX4_mixDigit_64 hl (by decide) rfl (fun lz hl => ?_)
              refine lv_iinc (v := nI (i + 1)) (lv' := [(6, .int (nI (i + 1))), (4, .long (31 * (hm (fun j => v (38 + (d * 7 + j))) (hm (lk_pr gp ls ln pe ne v d) h0 12) i) + (((fun j => v (38 + j)) (d * 7 + i)).toInt64))), (0, .ref x), (3, .int (nI d))]) hx hb dX4_mixDigit_66 hl (k := 3) rfl (nI_1 i) (by decide) rfl (fun lz hl => ?_)
              refine lv_goto (tgt := 37) hx hb dX4_mixDigit_69 (by decide) ?_
              exact ih37 (i + 1) hlti (by omega) (31 * (hm (fun j => v (38 + (d * 7 + j))) (hm (lk_pr gp ls ln pe ne v d) h0 12) i) + (((fun j => v (38 + j)) (d * 7 + i)).toInt64)) rfl  H locs hP hD hS lz (lv_sub hl [2, 3, 1, 0] rfl)
        exact L37 (7 + 1) 0 (by omega) (by omega) (hm (lk_pr gp ls ln pe ne v d) h0 12) rfl  H locs hP hD hS lz (lv_sub hl [1, 2, 3, 0] rfl)
      · have hlti : i < 12 := xm_lt (N := 12) hii (by decide) q10
        refine lv_lload hx hb dX4_mixDigit_13 (lv_at hl 2 rfl) ?_
        refine lv_aload_n hx hb dX4_mixDigit_15 rfl (lv_at hl 0 rfl) ?_
        refine lv_iload_n hx hb dX4_mixDigit_16 rfl (lv_at hl 1 rfl) ?_
        refine lv_iload hx hb dX4_mixDigit_17 (lv_at hl 3 rfl) ?_
        have hPc := hP.sub (ws' := [(x, .inr (4, [.ref (a 0), .ref (h 0), .ref (tx 0), .ref (g 0), .ref (k 0)])), ((a 0), .inr (2, [.ref (a 1), .ref (a 2), .ref (a 3), .ref (a 4), .ref (a 5), .ref (a 6), .ref (a 7), .int (v 1), .int (v 0), .int (v 7)])), ((a 1), .inl (cI, 6, .inl (fun j => v (8 + j)))), ((a 2), .inl (cI, 6, .inl (fun j => v (14 + j)))), ((a 3), .inl (cI, 6, .inl (fun j => v (20 + j)))), ((a 4), .inl (cI, 6, .inl (fun j => v (26 + j)))), ((a 5), .inl (cI, 6, .inl (fun j => v (32 + j)))), ((a 6), .inl (cI, 42, .inl (fun j => v (38 + j)))), ((a 7), .inl (cI, 5, .inl (fun j => v (2 + j)))), ((g 0), .inr (0, [.ref (g 1), .ref (g 2), .ref (g 3), .ref (g 4), .ref (g 5), .ref (g 6), .ref (g 7), .int ln, .int pe, .int ne])), ((g 3), .inl (cI, 6, .inl gp)), ((g 4), .inl (cI, 6, .inl ls))]) [0, 1, 2, 3, 4, 5, 6, 7, 8, 9, 10, 11] rfl
        refine W.callV ((va_runV (As := [.int (nI d), .int (nI i)]) (rest := [.long (hm (lk_pr gp ls ln pe ne v d) h0 i)]) ⟨hx, hb, hml, hown, hts⟩ (c_X4_property l dC dI cI cS cJ tt x a h tx g k gp ls ln pe ne v d i) (cwV 2 hts gX4_mixDigit_X4_property rfl rfl rfl (by decide +kernel) ⟨Nat.le_of_ble_eq_true rfl, Nat.le_of_ble_eq_true rfl⟩) ⟨xm_Rblind, va_recv hK hPc (ci := 4) (q0 := 0) rfl rfl, fun U hU hW => ⟨rfl, by rw [hU]; exact hPc, hE.go hS (fun _ q => q.elim) hU hW, ⟨⟨hd6, hsg⟩, by omega⟩⟩⟩ rfl rfl hl.1 rfl (lv_room (Nat.le_of_ble_eq_true rfl)) dX4_mixDigit_19 ⟨Nat.zero_le _, Nat.zero_le _⟩).run) ?_
        refine W.eq (g2 := F0 m 22 lz (.int (lk_pr gp ls ln pe ne v d i) :: [.long (hm (lk_pr gp ls ln pe ne v d) h0 i)])) rfl ?_
        refine lv_i2l hx hb dX4_mixDigit_22 rfl ?_
        have hPc := hP.sub (ws' := []) [] rfl
        refine W.callV ((va_runS (As := [.long (hm (lk_pr gp ls ln pe ne v d) h0 i), .long ((lk_pr gp ls ln pe ne v d i).toInt64)]) (rest := []) ⟨hx, hb, hml, hown, hts⟩ (c_X4_mix l dC dI cI cS cJ tt (hm (lk_pr gp ls ln pe ne v d) h0 i) ((lk_pr gp ls ln pe ne v d i).toInt64)) (va_cwS 2 hts gX4_mixDigit_X4_mix rfl rfl rfl (by decide +kernel) ⟨Nat.le_of_ble_eq_true rfl, Nat.le_of_ble_eq_true rfl⟩) ⟨xm_Rblind, fun U hU hW => ⟨rfl, by rw [hU]; exact hPc, hE.go hS (fun _ q => q.elim) hU hW, trivial⟩⟩ rfl rfl hl.1 rfl (lv_room (Nat.le_of_ble_eq_true rfl)) dX4_mixDigit_23 ⟨Nat.zero_le _, Nat.zero_le _⟩).run) ?_
        refine W.eq (g2 := F0 m 26 lz (.long (31 * (hm (lk_pr gp ls ln pe ne v d) h0 i) + ((lk_pr gp ls ln pe ne v d i).toInt64)) :: [])) rfl ?_
        refine lv_lstore (lv' := [(4, .long (31 * (hm (lk_pr gp ls ln pe ne v d) h0 i) + ((lk_pr gp ls ln pe ne v d i).toInt64))), (0, .ref x), (3, .int (nI d)), (6, .int (nI i))]) hx hb dX4_mixDigit_26 hl (by decide) rfl (fun lz hl => ?_)
        refine lv_iinc (v := nI (i + 1)) (lv' := [(6, .int (nI (i + 1))), (4, .long (31 * (hm (lk_pr gp ls ln pe ne v d) h0 i) + ((lk_pr gp ls ln pe ne v d i).toInt64))), (0, .ref x), (3, .int (nI d))]) hx hb dX4_mixDigit_28 hl (k := 3) rfl (nI_1 i) (by decide) rfl (fun lz hl => ?_)
        refine lv_goto (tgt := 6) hx hb dX4_mixDigit_31 (by decide) ?_
        exact ih6 (i + 1) hlti (by omega) (31 * (hm (lk_pr gp ls ln pe ne v d) h0 i) + ((lk_pr gp ls ln pe ne v d i).toInt64)) rfl  H locs hP hD hS lz (lv_sub hl [2, 3, 1, 0] rfl)
  exact L6 (12 + 1) 0 (by omega) (by omega) h0 rfl  s.heap [] hP hD hS lz (lv_sub hl [2, 4, 1, 0] rfl)

