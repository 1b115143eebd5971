/-! What a frame shows, p26's. -/
theorem litIn_or (o a c : Int32) : fm_litIn o a c = o ∨ fm_litIn o a c = -1 := by
  unfold fm_litIn
  by_cases q1 : c = 0
  · exact Or.inl (if_pos q1)
  · by_cases q2 : o = a
    · left; rw [if_neg q1, if_pos q2]
    · right; rw [if_neg q1, if_neg q2]
theorem li_or (v : Nat → Int32) (k : Nat) : fs_li v k = fs_ow v k ∨ fs_li v k = -1 := litIn_or (fs_ow v k) (fr_ah (fun j => v (14 + j)) (fun j => v (26 + j)) (v 7) k) (fm_dk (v 3))
theorem nI_m1 {d : Nat} (h : d < 2 ^ 31) : ¬ nI d = -1 := fun q => nI_pos h (by rw [q]; decide)
theorem li_lv {v : Nat → Int32} {d : Nat} (hd : d < 6) (h : v (14 + d) = 0) (k : Nat) : ¬ nI d = fs_li v k := by
  intro e
  rcases li_or v k with q | q
  · rw [q] at e
    have e2 : fm_own (fun j => v (14 + j)) (fr_cr (fun j => v (14 + j)) (fun j => v (26 + j)) k) 6 = nI d := e.symm
    have hp := own_pos (lv := fun j => v (14 + j)) (cr := fr_cr (fun j => v (14 + j)) (fun j => v (26 + j)) k) 6 (by decide) (by rw [e2]; exact nI_m1 (by omega))
    rw [e2, nI_clamp (by omega)] at hp
    exact hp (by show v (14 + d) ≤ 0; rw [h]; decide)
  · exact nI_m1 (by omega) (e.trans q)
theorem ls_zero {li : Nat → Int32} {d : Nat} (h : ∀ k, ¬ nI d = li k) : ∀ n, fr_ls li n d = 0
  | 0 => rfl
  | n + 1 => by
    show (if nI d = li n then fr_ls li n d + 1 else fr_ls li n d) = 0
    rw [if_neg (h n)]
    exact ls_zero h n
theorem ls_no {li : Nat → Int32} {d : Nat} : ∀ n, n < 2 ^ 31 → fr_ls li n d = 0 → ∀ k, k < n → ¬ nI d = li k
  | 0, _, _, k, hk => absurd hk (Nat.not_lt_zero k)
  | n + 1, hn, h, k, hk => by
    have h' : (if nI d = li n then fr_ls li n d + 1 else fr_ls li n d) = 0 := h
    by_cases q : nI d = li n
    · rw [if_pos q] at h'
      obtain ⟨c, h1, h2⟩ := fr_ls_n li d n
      rw [h2, nI_1] at h'
      exact absurd h' (nI_ne0 (by omega) (by omega))
    · rw [if_neg q] at h'
      by_cases e : k = n
      · rw [e]; exact q
      · exact ls_no n (by omega) h' k (by omega)
theorem gp_all {li : Nat → Int32} {d : Nat} : ∀ n, n < 2 ^ 30 → (∀ k, k < n → ¬ nI d = li k) → fr_dr li n d = nI n ∧ fr_gp li n d = nI n
  | 0, _, _ => ⟨rfl, rfl⟩
  | n + 1, hn, h => by
    obtain ⟨h1, h2⟩ := gp_all n (by omega) (fun k hk => h k (by omega))
    have q := h n (by omega)
    constructor
    · show (if nI d = li n then 0 else fr_dr li n d + 1) = _
      rw [if_neg q, h1, nI_1]
    · show (if nI d = li n then fr_gp li n d else if fr_gp li n d < fr_dr li n d + 1 then fr_dr li n d + 1 else fr_gp li n d) = _
      rw [if_neg q, h1, h2, nI_1, if_pos (nI_lt (by omega) (by omega))]
theorem light_0 {v : Nat → Int32} {n d : Nat} (hn : v 2 = nI n) (h6 : 6 ≤ n) (h96 : n ≤ 96) (q : ¬ 0 < fm_light (v 2) (fs_ls v n d)) : fs_ls v n d = 0 := by
  obtain ⟨c, h1, h2⟩ := fr_ls_n (fs_li v) d n
  have e : fs_ls v n d = nI c := h2
  rw [e] at q ⊢
  rw [hn, fm_light_n (by omega) h96 h1] at q
  rcases Nat.eq_zero_or_pos c with z | z
  · rw [z]; rfl
  · exfalso
    have h3 : 0 < c * 1000 / n := Nat.div_pos (by omega) (by omega)
    have h4 : c * 1000 / n ≤ 1000 := Nat.div_le_of_le_mul (by omega)
    exact q (nI_lt (a := 0) h3 (by omega))
theorem see_flk {lt ne fl : Int32} (h : ¬ fm_see lt ne fl = 0) : fl = 0 ∧ ¬ lt < ne ∧ ¬ lt ≤ 0 ∧ fm_see lt ne fl = 1 := by
  unfold fm_see at h ⊢
  by_cases q1 : lt ≤ 0
  · rw [if_pos q1] at h; exact absurd rfl h
  · rw [if_neg q1] at h ⊢
    by_cases q2 : lt < ne
    · rw [if_pos q2] at h; exact absurd rfl h
    · rw [if_neg q2] at h ⊢
      by_cases q3 : fl = 0
      · exact ⟨q3, q2, q1, if_pos q3⟩
      · rw [if_neg q3] at h; exact absurd rfl h
theorem clr_see {see rd : Int32} (h : ¬ cl_clr see rd = 0) : ¬ see = 0 := by
  intro q
  unfold cl_clr at h
  rw [if_pos q] at h
  exact h rfl
theorem bit01 {P : Prop} [Decidable P] (h : ¬ (if P then (0 : Int32) else 1) = 0) : ¬ P := fun q => h (if_pos q)
theorem dgf {T n d : Nat} {v : Nat → Int32} (h : gd T v) (hn : v 2 = nI n) (h6 : 6 ≤ n) (h96 : n ≤ 96) (hd : d < 6) :
    (∀ k, k < 7 → ¬ v (38 + (d * 7 + k)) < 0) ∧ (∀ k, k < 7 → ¬ v (32 + d) < v (38 + (d * 7 + k))) ∧ (¬ 7 * v (32 + d) < fm_sum (fun k => v (38 + (d * 7 + k))) 7) ∧ (¬ v 0 < v (32 + d)) ∧
    (¬ 0 < v (14 + d) → lk_dg v n d 5 = 0) ∧ (¬ 0 < v (14 + d) → ¬ 0 < v (26 + d)) := by
  obtain ⟨g1, g2, g3, g4, g5, ⟨t, t1, t2, t3, t4⟩, -⟩ := h
  obtain ⟨c, c1, c2, c3⟩ := t4 d hd
  refine ⟨fun k hk => ix_nn (c3 k hk) (by omega), fun k hk => ?_, wr_sum c2 (by omega) c3, ?_, fun q => ?_, fun q => ?_⟩
  · obtain ⟨w, hw, ew⟩ := ix_n (c3 k hk)
    rw [c2, ew]
    exact nI_nlt (by omega) (by omega)
  · rw [t3, c2]
    exact nI_nlt c1 (by omega)
  · have z := ix_le0 (g2 d hd) (by decide) q
    show fm_light (v 2) (fs_ls v n d) = 0
    rw [show fs_ls v n d = 0 from ls_zero (li_lv hd z) n, hn, show (0 : Int32) = nI 0 from rfl, fm_light_n (by omega) h96 (Nat.zero_le n), Nat.zero_mul, Nat.zero_div]
  · rw [g4 d hd (ix_le0 (g2 d hd) (by decide) q)]
    decide
theorem dgg {T n d : Nat} {v : Nat → Int32} (h : gd T v) (hn : v 2 = nI n) (h6 : 6 ≤ n) (h96 : n ≤ 96) (hd : d < 6) :
    fm_ix (lk_dg v n d 10) 4096 ∧ (lk_dg v n d 10 >>> (v (8 + d) &&& 31)) &&& 1 = 1 ∧ lk_dg v n d 3 &&& v (20 + d) = 0 ∧
    (¬ 0 < v (20 + d) → nI (lw_on (lk_dg v n d 10).toNatClampNeg) = 1) ∧ (¬ 0 < v (20 + d) → ap_to (v (20 + d) ^^^ (-1)) 12 = 0) ∧ (¬ 66 < ap_to (v (20 + d) ^^^ (-1)) 12) ∧ (¬ v (20 + d) < 127 → ap_to (v (20 + d) ^^^ (-1)) 12 = 66) := by
  obtain ⟨g1, g2, g3, -⟩ := h
  obtain ⟨s, hs, es⟩ := ix_n (g1 d hd)
  obtain ⟨b, hb, eb⟩ := ix_n (g3 d hd)
  obtain ⟨r1, r2, r3, r4⟩ := tb_1 s hs b hb
  obtain ⟨a1, a2, a3⟩ := tb_2 b hb
  have e10 : lk_dg v n d 10 = lw_rd s b := by
    show fm_rdb (v (20 + d)) (fm_shw (v (8 + d)) (v (20 + d))) 12 = _
    rw [es, eb]
    rfl
  have b0 : ¬ 0 < v (20 + d) → b = 0 := fun q => by
    rcases Nat.eq_zero_or_pos b with z | z
    · exact z
    · exact absurd (by rw [eb]; exact nI_lt (a := 0) z (by omega)) q
  have e3 : lk_dg v n d 3 = fm_shw (nI s) (nI b) := by
    show fm_shw (v (8 + d)) (v (20 + d)) = _
    rw [es, eb]
  rw [e10, e3, es, eb]
  rw [eb] at b0
  refine ⟨r1, r2, r3, fun q => ?_, fun q => a2 (b0 q), Int32.not_lt.mpr a1, fun q => a3 ?_⟩
  · have e := r4 (b0 q)
    rw [r1.1, on_bc r1.2] at e
    exact e
  · rcases Nat.lt_or_ge b 127 with z | z
    · exact absurd (nI_lt (b := 127) z (by decide)) q
    · exact z
theorem dgh {T n d : Nat} {v : Nat → Int32} (h : gd T v) (hn : v 2 = nI n) (h6 : 6 ≤ n) (h96 : n ≤ 96) (hd : d < 6) :
    (¬ lk_dg v n d 8 = 1 → lk_dg v n d 9 = 0) ∧ (¬ nI (lw_on (lk_dg v n d 10).toNatClampNeg) = 1 → lk_dg v n d 9 = 0) ∧ (lk_dg v n d 8 = 1 → nI (lw_on (lk_dg v n d 10).toNatClampNeg) = 1 → lk_dg v n d 9 = 1) ∧
    (¬ 1 < lk_dg v n d 7 + lk_dg v n d 8) ∧ (¬ 0 < lk_dg v n d 5 → lk_dg v n d 6 = v 2) ∧ (¬ lk_dg v n d 8 = 0 → ¬ lk_dg v n d 5 < v 5 * v 1) := by
  obtain ⟨r1, -⟩ := dgg h hn h6 h96 hd
  have ebc : fm_bc (lk_dg v n d 10) = nI (lw_on (lk_dg v n d 10).toNatClampNeg) := (congrArg fm_bc r1.1).trans (on_bc r1.2)
  rw [← ebc]
  have e8 : lk_dg v n d 8 = if lk_see (fs_gp v n) (fs_ls v n) (v 2) (v 4) (v 5 * v 1) d = 0 then 0 else 1 := rfl
  have e9 : lk_dg v n d 9 = if cl_clr (lk_see (fs_gp v n) (fs_ls v n) (v 2) (v 4) (v 5 * v 1) d) (lk_dg v n d 10) = 0 then 0 else 1 := rfl
  have e7 : lk_dg v n d 7 = if fm_flk (fs_ls v n d) (fs_gp v n d) (v 4) = 0 then 0 else 1 := rfl
  have es : lk_see (fs_gp v n) (fs_ls v n) (v 2) (v 4) (v 5 * v 1) d = fm_see (fm_light (v 2) (fs_ls v n d)) (v 5 * v 1) (fm_flk (fs_ls v n d) (fs_gp v n d) (v 4)) := rfl
  refine ⟨fun q => ?_, fun q => ?_, fun q q2 => ?_, ?_, fun q => ?_, fun q => ?_⟩
  · have z : lk_see (fs_gp v n) (fs_ls v n) (v 2) (v 4) (v 5 * v 1) d = 0 := by
      by_cases z : lk_see (fs_gp v n) (fs_ls v n) (v 2) (v 4) (v 5 * v 1) d = 0
      · exact z
      · exact absurd (by rw [e8, if_neg z]) q
    rw [e9]
    unfold cl_clr
    rw [if_pos z, if_pos rfl]
  · rw [e9]
    unfold cl_clr
    by_cases z : lk_see (fs_gp v n) (fs_ls v n) (v 2) (v 4) (v 5 * v 1) d = 0
    · rw [if_pos z, if_pos rfl]
    · rw [if_neg z, if_neg q, if_pos rfl]
  · have z : ¬ lk_see (fs_gp v n) (fs_ls v n) (v 2) (v 4) (v 5 * v 1) d = 0 := fun z => by
      rw [e8, if_pos z] at q
      exact absurd q (by decide)
    have ec : cl_clr (lk_see (fs_gp v n) (fs_ls v n) (v 2) (v 4) (v 5 * v 1) d) (lk_dg v n d 10) = 1 := by
      unfold cl_clr
      rw [if_neg z, if_pos q2]
    rw [e9, ec]
    exact if_neg (by decide)
  · rw [e7, e8, es]
    by_cases z : fm_see (fm_light (v 2) (fs_ls v n d)) (v 5 * v 1) (fm_flk (fs_ls v n d) (fs_gp v n d) (v 4)) = 0
    · rw [if_pos z]
      split <;> decide
    · rw [if_neg z, if_pos (see_flk z).1]
      decide
  · have z := light_0 hn h6 h96 q
    have z2 := (gp_all n (by omega) (ls_no n (by omega) (show fr_ls (fs_li v) n d = 0 from z))).2
    rw [hn]
    exact z2
  · rw [e8] at q
    have z := bit01 q
    rw [es] at z
    exact (see_flk z).2.1
theorem lvs_0 {T : Nat} {v : Nat → Int32} (h : gd T v) (q : ¬ 0 < fm_sum (fun j => v (14 + j)) 6) : ∀ j, j < 6 → v (14 + j) = 0 := by
  obtain ⟨S, h1, h2, h3⟩ := sum_n (f := fun j => v (14 + j)) (b := 15) 6 h.2.1
  rcases h3 with z | z
  · exact z
  · exact absurd (by rw [h2]; exact nI_lt (a := 0) z (by omega)) q
theorem lvs_1 {T : Nat} {v : Nat → Int32} (h : gd T v) (q : ¬ fm_sum (fun j => v (14 + j)) 6 = 0) : ¬ ∀ j, j < 6 → v (14 + j) ≤ 0 := fun z => q (by
  rw [sum_c (f := fun j => v (14 + j)) (g := fun _ => 0) 6 (fun j hj => ix_le0' (h.2.1 j hj) (by decide) (z j hj))]
  decide)
theorem ow_0 {v : Nat → Int32} (h : ∀ j, j < 6 → v (14 + j) = 0) (k : Nat) : fs_ow v k = -1 :=
  show fm_own (fun j => v (14 + j)) (fr_cr (fun j => v (14 + j)) (fun j => v (26 + j)) k) 6 = -1 from own_none 6 (fun j hj => by show v (14 + j) ≤ 0; rw [h j hj]; decide)
theorem li_0 {v : Nat → Int32} (h : ∀ j, j < 6 → v (14 + j) = 0) (k : Nat) : fs_li v k = -1 := by
  rcases li_or v k with q | q
  · exact q.trans (ow_0 h k)
  · exact q
theorem sgf {T n : Nat} {v : Nat → Int32} (z : Int32) (h : gd T v) (hn : v 2 = nI n) (h6 : 6 ≤ n) (h96 : n ≤ 96) :
    fm_sum (fun j => nI (lw_on (v (20 + j)).toNatClampNeg)) 6 = lk_ct v n z 7 ∧ fm_sum (fun j => lk_dg v n j 9) 6 = lk_ct v n z 6 ∧ (¬ lk_ct v n z 5 < lk_ct v n z 6) ∧ (¬ 6 < lk_ct v n z 4 + lk_ct v n z 5) ∧
    (¬ 0 < fm_sum (fun j => v (14 + j)) 6 → lk_ct v n z 2 = v 2) ∧ (¬ 0 < fm_sum (fun j => v (14 + j)) 6 → lk_ct v n z 3 = 0) ∧ (¬ fm_sum (fun j => v (14 + j)) 6 = 0 → ¬ v 3 = 1 → lk_ct v n z 2 = 0) ∧ (¬ v 2 ≤ lk_ct v n z 3) := by
  refine ⟨?_, ?_, ?_, ?_, fun q => ?_, fun q => ?_, fun q q2 => ?_, ?_⟩
  · show _ = fm_sum (fun j => fm_bc (v (20 + j))) 6
    refine sum_c (f := fun j => nI (lw_on (v (20 + j)).toNatClampNeg)) (g := fun j => fm_bc (v (20 + j))) 6 (fun j hj => ?_)
    have e := h.2.2.1 j hj
    exact ((congrArg fm_bc e.1).trans (on_bc (by have := e.2; omega))).symm
  · exact cF_sum (f := fun j => lk_clr (fs_gp v n) (fs_ls v n) (v 2) (v 4) (v 5 * v 1) v j) 6
  · obtain ⟨c, e, h1, h2, h3, h4⟩ := cF_le (f := fun j => lk_clr (fs_gp v n) (fs_ls v n) (v 2) (v 4) (v 5 * v 1) v j) (g := fun j => lk_see (fs_gp v n) (fs_ls v n) (v 2) (v 4) (v 5 * v 1) j) 6 (fun j hj => clr_see)
    show ¬ fm_cntF (fun j => lk_see (fs_gp v n) (fs_ls v n) (v 2) (v 4) (v 5 * v 1) j) (fun _ => 0) 6 < fm_cntF (fun j => lk_clr (fs_gp v n) (fs_ls v n) (v 2) (v 4) (v 5 * v 1) v j) (fun _ => 0) 6
    rw [h3, h4]
    exact nI_nlt h1 (by omega)
  · obtain ⟨c, e, h1, h3, h4⟩ := cF_two (f := fun j => lk_see (fs_gp v n) (fs_ls v n) (v 2) (v 4) (v 5 * v 1) j) (g := fun j => fm_flk (fs_ls v n j) (fs_gp v n j) (v 4)) 6 (fun j hj q => (see_flk q).1)
    show ¬ 6 < fm_cntF (fun j => fm_flk (fs_ls v n j) (fs_gp v n j) (v 4)) (fun _ => 0) 6 + fm_cntF (fun j => lk_see (fs_gp v n) (fs_ls v n) (v 2) (v 4) (v 5 * v 1) j) (fun _ => 0) 6
    rw [h3, h4, nI_add]
    exact nI_nlt (a := 6) (by omega) (by decide)
  · show fm_cntT (fs_li v) (fun _ => -1) n = v 2
    rw [hn]
    exact cT_all n (fun j _ => li_0 (lvs_0 h q) j)
  · exact chg_0 (ow_0 (lvs_0 h q)) (n - 1)
  · show fm_cntT (fs_li v) (fun _ => -1) n = 0
    refine cT_no n (fun j _ e => ?_)
    have e2 : fm_litIn (fs_ow v j) (fr_ah (fun j => v (14 + j)) (fun j => v (26 + j)) (v 7) j) (fm_dk (v 3)) = -1 := e
    unfold fm_litIn fm_dk at e2
    rw [if_neg q2, if_pos rfl] at e2
    exact lvs_1 h q (fun i hi => own_all (lv := fun j => v (14 + j)) 6 (by decide) e2 i hi)
  · obtain ⟨c, h1, h2⟩ := chg_n (fs_ow v) (n - 1)
    show ¬ v 2 ≤ fm_chg (fs_ow v) (n - 1)
    rw [hn, h2]
    exact nI_ge (by omega) (by omega)
/-! the share of light -/
def fp_ok1 (x : UInt64) : Prop := x.toNat = 0 ∨ (24 * 2 ^ 52 ≤ x.toNat ∧ x.toNat ≤ 1023 * 2 ^ 52)
theorem fp_share1 {L G : Nat} (hG : 0 < G) (hG2 : G ≤ 1000) (hL : L ≤ G) : fp_ok1 (FP.ddiv (FP.i2d (nI L)) (FP.i2d (nI G))) := by
  rcases Nat.eq_zero_or_pos L with h0 | h0
  · subst h0
    left
    have e : FP.Core.val64 (FP.ddiv (FP.i2d (nI 0)) (FP.i2d (nI G))) = .fin false 0 FP.Core.b64.qmin := by
      rw [show FP.ddiv (FP.i2d (nI 0)) (FP.i2d (nI G)) = FP.Core.ddiv (FP.Core.i2d (nI 0)) (FP.Core.i2d (Int32.ofNat G)) from rfl, FP.Core.val64_ddiv, fp_i2d G (by omega) hG, show FP.Core.val64 (FP.Core.i2d (nI 0)) = .fin false 0 FP.Core.b64.qmin by decide +kernel]
      have p : G * 2 ^ (52 - G.log2) ≠ 0 := Nat.mul_ne_zero (by omega) (Nat.pos_iff_ne_zero.mp (Nat.two_pow_pos _))
      show (if G * 2 ^ (52 - G.log2) = 0 then _ else FP.Core.roundRatio FP.Core.b64 (false != false) 0 (G * 2 ^ (52 - G.log2)) _) = _
      rw [if_neg p]
      rfl
    have z : FP.ddiv (FP.i2d (nI 0)) (FP.i2d (nI G)) = 0 := FP.Core.val64_inj (by rw [e]; exact fun q => by cases q) (by rw [e]; decide +kernel)
    rw [z]
    rfl
  · right
    have lL : L.log2 ≤ 9 := by
      have h1 := Nat.log2_self_le (n := L) (by omega)
      rcases Nat.lt_or_ge 9 L.log2 with h | h
      · have := Nat.pow_le_pow_right (n := 2) (by decide) (show 10 ≤ L.log2 by omega); omega
      · exact h
    have lG : G.log2 ≤ 9 := by
      have h1 := Nat.log2_self_le (n := G) (by omega)
      rcases Nat.lt_or_ge 9 G.log2 with h | h
      · have := Nat.pow_le_pow_right (n := 2) (by decide) (show 10 ≤ G.log2 by omega); omega
      · exact h
    have e : FP.Core.val64 (FP.ddiv (FP.i2d (nI L)) (FP.i2d (nI G))) = FP.Core.roundRatio FP.Core.b64 false L G 0 := by
      rw [show FP.ddiv (FP.i2d (nI L)) (FP.i2d (nI G)) = FP.Core.ddiv (FP.Core.i2d (Int32.ofNat L)) (FP.Core.i2d (Int32.ofNat G)) from rfl, FP.Core.val64_ddiv, fp_i2d G (by omega) hG, fp_i2d L (by omega) h0]
      have p : G * 2 ^ (52 - G.log2) ≠ 0 := Nat.mul_ne_zero (by omega) (Nat.pos_iff_ne_zero.mp (Nat.two_pow_pos _))
      show (if G * 2 ^ (52 - G.log2) = 0 then _ else FP.Core.roundRatio FP.Core.b64 (false != false) (L * 2 ^ (52 - L.log2)) (G * 2 ^ (52 - G.log2)) ((L.log2 : Int) - 52 - ((G.log2 : Int) - 52))) = _
      rw [if_neg p]
      refine FP.Core.roundRatio_congr (by omega) hG ?_
      rw [Nat.mul_right_comm, Nat.mul_assoc L, Nat.mul_right_comm L, Nat.mul_assoc, Nat.mul_assoc, Nat.mul_assoc, ← Nat.pow_add, ← Nat.pow_add]
      congr 3
      omega
    generalize hx : FP.ddiv (FP.i2d (nI L)) (FP.i2d (nI G)) = x at e
    have s0 : x.toNat < 2 ^ 63 := by
      have hn : FP.Core.val64 x ≠ .nan := by rw [e]; exact FP.Core.roundRatio_ne_nan _ _ _ _ _
      have h1 := FP.Core.sgn_bits hn
      rw [e, FP.Core.sgn_roundRatio] at h1
      have := of_decide_eq_false h1.symm
      omega
    have ma : FP.Core.mag FP.Core.b64 x.toNat = x.toNat := by rw [FP.Core.mag_toNat64]; exact Nat.mod_eq_of_lt s0
    have u1 : FP.Core.mag FP.Core.b64 x.toNat ≤ 1023 * FP.Core.b64.tails := by
      refine FP.Core.mag_le FP.Core.good_b64 e hG (e0 := FP.Core.b64.qmin) (by omega) (by rw [FP.Core.qmin_b64]; decide) ?_
      rw [FP.Core.unitsOf_start (by decide), Int.sub_self, Int.toNat_zero, Nat.pow_zero, Nat.mul_one, FP.Core.tails_b64, FP.Core.qmin_b64]
      unfold FP.Core.inUnits
      rw [show ((0 : Int) - -1074).toNat = 1074 from rfl, ← Nat.pow_add, Nat.mul_comm, show 52 + (1023 - 1) = 1074 from rfl]
      exact Nat.mul_le_mul_left _ hL
    have u2 : 24 * FP.Core.b64.tails ≤ FP.Core.mag FP.Core.b64 x.toNat := by
      refine FP.Core.mag_ge FP.Core.good_b64 e hG (e0 := FP.Core.b64.qmin) (by omega) (by rw [FP.Core.qmin_b64]; decide) (by rw [FP.Core.infBits_b64, FP.Core.tails_b64]; decide) ?_
      rw [FP.Core.unitsOf_start (by decide), Int.sub_self, Int.toNat_zero, Nat.pow_zero, Nat.mul_one, FP.Core.tails_b64, FP.Core.qmin_b64]
      unfold FP.Core.inUnits
      rw [show ((0 : Int) - -1074).toNat = 1074 from rfl, ← Nat.pow_add, show 52 + (24 - 1) = 75 from rfl]
      have h1 : 2 ^ 75 * G ≤ 2 ^ 75 * 2 ^ 10 := Nat.mul_le_mul_left _ (by omega)
      have h2 : 2 ^ 75 * 2 ^ 10 ≤ 2 ^ 1074 := by rw [← Nat.pow_add]; exact Nat.pow_le_pow_right (by decide) (by decide)
      exact Nat.le_trans h1 (Nat.le_trans h2 (Nat.le_mul_of_pos_left _ h0))
    rw [ma, FP.Core.tails_b64] at u1 u2
    omega
theorem fp_one1 : fp_ok1 FP.dconst1 := by
  right
  decide
theorem le_ok1 {lv lt : Nat → Int32} (h : ∀ j, j < 6 → 0 ≤ (lt j).toInt ∧ (lt j).toInt ≤ 1000) : fp_ok1 (le_sh lv lt) := by
  unfold le_sh
  split
  · exact fp_one1
  · rename_i q
    obtain ⟨h1, h2⟩ := le_in h 6 (Nat.le_refl 6)
    have h3 := fm_pos q
    have h4 := Int32.le_iff_toInt_le.mp (le_min 6 (Int32.not_le.mp q))
    rw [fp_toI h1, fp_toI h2]
    exact fp_share1 (by omega) (by omega) (by omega)
theorem lk_ev_ok1 {v : Nat → Int32} {n : Nat} (h : v 2 = nI n) (hn : 1 ≤ n) (h96 : n ≤ 96) : fp_ok1 (lk_ev v n) := le_ok1 (fun j _ => lt_in h hn h96 j)
theorem fp_ge0 {x : UInt64} (h : fp_ok1 x) : ¬ Op.cmpValue (FP.dcmp x FP.dconst0) .l < 0 := by
  rcases h with h | h
  · rw [fp_zero h]
    decide +kernel
  · have hE := fp_E_in ⟨h.1, by omega⟩
    have hv := fp_val (fp_eq x) (by omega) (by omega) (fp_T_lt x)
    have n1 : FP.Core.val64 x ≠ .nan := by rw [hv]; exact fun q => by cases q
    have n2 : FP.Core.val64 FP.dconst0 ≠ .nan := by decide +kernel
    have k1 : FP.Core.dkey x = ((x.toNat : Nat) : Int) := by
      unfold FP.Core.dkey
      rw [if_neg (by omega)]
    have k2 : FP.Core.dkey FP.dconst0 = 0 := by decide +kernel
    have hk := FP.Core.dcmp_key n1 n2
    show ¬ Op.cmpValue (FP.Core.dcmp x FP.dconst0) .l < 0
    rw [hk, k1, k2, FP.Core.compare_ite, if_neg (by omega), if_neg (by omega)]
    decide
theorem fp_le1 {x : UInt64} (h : fp_ok1 x) : ¬ 0 < Op.cmpValue (FP.dcmp x FP.dconst1) .g := by
  rcases h with h | h
  · rw [fp_zero h]
    decide +kernel
  · have hE := fp_E_in ⟨h.1, by omega⟩
    have hv := fp_val (fp_eq x) (by omega) (by omega) (fp_T_lt x)
    have n1 : FP.Core.val64 x ≠ .nan := by rw [hv]; exact fun q => by cases q
    have n2 : FP.Core.val64 FP.dconst1 ≠ .nan := by rw [fp_v1]; exact fun q => by cases q
    have k1 : FP.Core.dkey x = ((x.toNat : Nat) : Int) := by
      unfold FP.Core.dkey
      rw [if_neg (by omega)]
    have k2 : FP.Core.dkey FP.dconst1 = ((1023 * 2 ^ 52 : Nat) : Int) := by decide +kernel
    have hk := FP.Core.dcmp_key n1 n2
    show ¬ 0 < Op.cmpValue (FP.Core.dcmp x FP.dconst1) .g
    rw [hk, k1, k2, FP.Core.compare_ite]
    split
    · decide
    · rw [if_pos (by omega)]
      decide
theorem le_g0 {lv lt : Nat → Int32} : ∀ k, (∀ j, j < k → lv j ≤ 0) → le_g lv lt k = 0
  | 0, _ => rfl
  | k + 1, h => by
    unfold le_g
    rw [if_pos (h k (by omega))]
    exact le_g0 k (fun j hj => h j (by omega))
theorem ev_1 {T n : Nat} {v : Nat → Int32} (h : gd T v) (q : ¬ 0 < fm_sum (fun j => v (14 + j)) 6) : Op.cmpValue (FP.dcmp (lk_ev v n) FP.dconst1) .l = 0 := by
  have z : le_g (fun j => v (14 + j)) (fun j => fm_light (v 2) (fs_ls v n j)) 6 ≤ 0 := by
    rw [le_g0 6 (fun j hj => by show v (14 + j) ≤ 0; rw [lvs_0 h q j hj]; decide)]
    decide
  have e : lk_ev v n = FP.dconst1 := by
    show le_sh (fun j => v (14 + j)) (fun j => fm_light (v 2) (fs_ls v n j)) = _
    unfold le_sh
    exact if_pos z
  rw [e]
  decide +kernel
