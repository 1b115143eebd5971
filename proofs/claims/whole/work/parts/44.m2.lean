set_option maxHeartbeats 4000000 in
set_option maxRecDepth 100000 in
theorem c_X5_frames (l : Launch) (dC : Nat → ClassId) (dI : Nat → Nat → Nat) (cI cS cJ : ClassId) (tt : Nat → Nat) (sz : Nat) (mm : Nat → Nat) (kp : Int32) (ty : Int32) (th : Int32) (at0 : Int32) (fa : Int32) (ts : Int32) (fr : Int32) (b : Nat) (s0 : Nat → Int32) (ow : Nat → Int32) (li : Nat → Int32) (cr : Nat → Int32) (n : Nat) : Met l yX5_frames wsX5_frames ({ frames := 2, cells := 0, slots := 0, locals := 46 } : Room) (va_Pc [.ref (mm 0), .ref b] (xm_M (dC, dI) cI cS cJ tt [((mm 0), .inr (5, [.ref (mm 1), .ref (mm 2), .ref (mm 3), .ref (mm 4), .int kp, .ref (mm 5), .int ty, .int th, .int at0, .int fa, .ref (mm 6), .int ts, .ref (mm 7), .ref (mm 8), .ref (mm 9), .int fr])), ((mm 7), .inl (cI, 96, .inl ow)), ((mm 8), .inl (cI, 96, .inl li)), ((mm 9), .inl (cI, 6, .inl cr)), (b, .inl (cI, 80, .inl s0))] sz (vo_f s0 n))) (va_Qv (fun (u : Int32 × (Nat → Int32) × (Nat → Int32) × (Nat → Int32)) => u.1 = nI n ∧ u.2.1 = fm_fl (fs_ow s0) ow n ∧ u.2.2.1 = fm_fl (fs_li s0) li n) (xm_B (dC, dI) (fun (u : Int32 × (Nat → Int32) × (Nat → Int32) × (Nat → Int32)) => [((mm 0), .inr (5, [.ref (mm 1), .ref (mm 2), .ref (mm 3), .ref (mm 4), .int kp, .ref (mm 5), .int ty, .int th, .int at0, .int fa, .ref (mm 6), .int ts, .ref (mm 7), .ref (mm 8), .ref (mm 9), .int u.1])), ((mm 7), .inl (cI, 96, .inl u.2.1)), ((mm 8), .inl (cI, 96, .inl u.2.2.1)), ((mm 9), .inl (cI, 6, .inl u.2.2.2)), (b, .inl (cI, 80, .inl s0))]) (va_A [((mm 0), .inr (5, [.ref (mm 1), .ref (mm 2), .ref (mm 3), .ref (mm 4), .int kp, .ref (mm 5), .int ty, .int th, .int at0, .int fa, .ref (mm 6), .int ts, .ref (mm 7), .ref (mm 8), .ref (mm 9), .int fr])), ((mm 7), .inl (cI, 96, .inl ow)), ((mm 8), .inl (cI, 96, .inl li)), ((mm 9), .inl (cI, 6, .inl cr)), (b, .inl (cI, 80, .inl s0))] sz)) (va_A [((mm 0), .inr (5, [.ref (mm 1), .ref (mm 2), .ref (mm 3), .ref (mm 4), .int kp, .ref (mm 5), .int ty, .int th, .int at0, .int fa, .ref (mm 6), .int ts, .ref (mm 7), .ref (mm 8), .ref (mm 9), .int fr])), ((mm 7), .inl (cI, 96, .inl ow)), ((mm 8), .inl (cI, 96, .inl li)), ((mm 9), .inl (cI, 6, .inl cr)), (b, .inl (cI, 80, .inl s0))] sz)) 0 0 (va_A [((mm 0), .inr (5, [.ref (mm 1), .ref (mm 2), .ref (mm 3), .ref (mm 4), .int kp, .ref (mm 5), .int ty, .int th, .int at0, .int fa, .ref (mm 6), .int ts, .ref (mm 7), .ref (mm 8), .ref (mm 9), .int fr])), ((mm 7), .inl (cI, 96, .inl ow)), ((mm 8), .inl (cI, 96, .inl li)), ((mm 9), .inl (cI, 6, .inl cr)), (b, .inl (cI, 80, .inl s0))] sz) := by
  refine Met.ofW (cc := cX5_frames) (maxL := 3) (ret := none) (by decide) rfl ?_
  intro p e s m args below meth c s₁ B hml hv
  obtain ⟨rfl, hsz, hP, hE, hD0, hpre⟩ := hv
  have hx := B.exec
  have hb := B.bytes
  have hr := B.returns
  have hts := atoms_spec (ws := wsX5_frames) B.pre
  have hown : s.vm.findClass RX5 = some m.cls := findClass_of_methodNamed B.named
  have hlocks := B.notSynchronized
  have hK := hE.1
  subst hsz
  have hD := hD0.self (sz := s.heap.size)
  generalize hAe : va_A [((mm 0), .inr (5, [.ref (mm 1), .ref (mm 2), .ref (mm 3), .ref (mm 4), .int kp, .ref (mm 5), .int ty, .int th, .int at0, .int fa, .ref (mm 6), .int ts, .ref (mm 7), .ref (mm 8), .ref (mm 9), .int fr])), ((mm 7), .inl (cI, 96, .inl ow)), ((mm 8), .inl (cI, 96, .inl li)), ((mm 9), .inl (cI, 6, .inl cr)), (b, .inl (cI, 80, .inl s0))] s.heap.size = A at hD hE ⊢
  have hA : ∀ q : Nat, s.heap.size ≤ q → A q := fun q h => by rw [← hAe]; exact Or.inr h
  have hS : va_S A s.heap s.heap [] := va_S.rf
  have hP : va_P (dC, dI) vwCl [((mm 0), .inr (5, [.ref (mm 1), .ref (mm 2), .ref (mm 3), .ref (mm 4), .int kp, .ref (mm 5), .int ty, .int th, .int at0, .int fa, .ref (mm 6), .int ts, .ref (mm 7), .ref (mm 8), .ref (mm 9), .int fr])), ((mm 7), .inl (cI, 96, .inl ow)), ((mm 8), .inl (cI, 96, .inl li)), ((mm 9), .inl (cI, 6, .inl cr)), (b, .inl (cI, 80, .inl s0))] s.heap := hP
  have hin5 : ∀ w ∈ u_ws RX5 TX5 16, w ∈ wsX5_frames := by decide +kernel
  have hl := lv_entry [.ref (mm 0), .ref b] (n := 3) (Nat.le_of_ble_eq_true rfl)
  rw [lg_entry_eq]
  generalize (lg_sl [.ref (mm 0), .ref b] ++ List.replicate (3 - (lg_sl [.ref (mm 0), .ref b]).length) Slot.unset).toArray = lz at hl ⊢
  have hl : lv_has lz 3 [(0, .ref (mm 0)), (1, .ref b)] := hl
  obtain ⟨hs2, hn6, hn96, hah, t9, ht9, ht0⟩ := hpre
  refine lv_aload_n hx hb dX5_frames_0 rfl (lv_at hl 0 rfl) ?_
  refine lv_aload_n hx hb dX5_frames_1 rfl (lv_at hl 1 rfl) ?_
  refine lv_iconst (v := 2) hx hb dX5_frames_2 (by decide) ?_
  refine xm_iald (D := (dC, dI)) hx hb hK hP 4 0 2 (v := s0 2) rfl rfl (by decide) rfl (by decide) rfl dX5_frames_3 ?_
  refine xm_topi (y := (nI n)) hs2 ?_
  refine va_put (D := (dC, dI)) (ci := 5) (v := .int (nI n)) (ty := .int) (C := RX5) (T := TX5) (N := 16) hx hb hts hin5 tyX5 tyX5_ok nmX5 hown hK hP hD hS 0 rfl rfl 15 (by decide) (hts (.fieldLink RX5 56 "TurnDigitsModel" "frame" "I") (by decide +kernel)) (fun _ h9 => h9) rfl (by decide +kernel) rfl rfl (Nat.le_of_ble_eq_true rfl) dX5_frames_4 (fun H locs hP hD hS => ?_)
  have hP : va_P (dC, dI) vwCl [((mm 0), .inr (5, [.ref (mm 1), .ref (mm 2), .ref (mm 3), .ref (mm 4), .int kp, .ref (mm 5), .int ty, .int th, .int at0, .int fa, .ref (mm 6), .int ts, .ref (mm 7), .ref (mm 8), .ref (mm 9), .int (nI n)])), ((mm 7), .inl (cI, 96, .inl ow)), ((mm 8), .inl (cI, 96, .inl li)), ((mm 9), .inl (cI, 6, .inl cr)), (b, .inl (cI, 80, .inl s0))] H := hP
  have hD : va_D A [((mm 0), .inr (5, [.ref (mm 1), .ref (mm 2), .ref (mm 3), .ref (mm 4), .int kp, .ref (mm 5), .int ty, .int th, .int at0, .int fa, .ref (mm 6), .int ts, .ref (mm 7), .ref (mm 8), .ref (mm 9), .int (nI n)])), ((mm 7), .inl (cI, 96, .inl ow)), ((mm 8), .inl (cI, 96, .inl li)), ((mm 9), .inl (cI, 6, .inl cr)), (b, .inl (cI, 80, .inl s0))] := hD
  refine lv_iconst (v := 0) hx hb dX5_frames_7 (by decide) ?_
  refine lv_istore_n (lv' := [(2, .int 0), (0, .ref (mm 0)), (1, .ref b)]) hx hb dX5_frames_8 rfl hl (by decide) rfl (fun lz hl => ?_)
  have L9 : ∀ (zz i : Nat), i ≤ 6 → 6 + 1 ≤ i + zz → ∀ (f : Nat → Int32), f = fm_fl (fun j => s0 (26 + j)) cr i → ∀ (H : Heap) (locs : List Loc), va_P (dC, dI) vwCl [((mm 0), .inr (5, [.ref (mm 1), .ref (mm 2), .ref (mm 3), .ref (mm 4), .int kp, .ref (mm 5), .int ty, .int th, .int at0, .int fa, .ref (mm 6), .int ts, .ref (mm 7), .ref (mm 8), .ref (mm 9), .int (nI n)])), ((mm 7), .inl (cI, 96, .inl ow)), ((mm 8), .inl (cI, 96, .inl li)), ((mm 9), .inl (cI, 6, .inl f)), (b, .inl (cI, 80, .inl s0))] H → va_D A [((mm 0), .inr (5, [.ref (mm 1), .ref (mm 2), .ref (mm 3), .ref (mm 4), .int kp, .ref (mm 5), .int ty, .int th, .int at0, .int fa, .ref (mm 6), .int ts, .ref (mm 7), .ref (mm 8), .ref (mm 9), .int (nI n)])), ((mm 7), .inl (cI, 96, .inl ow)), ((mm 8), .inl (cI, 96, .inl li)), ((mm 9), .inl (cI, 6, .inl f)), (b, .inl (cI, 80, .inl s0))] → va_S A s.heap H locs → ∀ (lz : Array Slot), lv_has lz 3 [(0, .ref (mm 0)), (1, .ref b), (2, .int (nI i))] → W p l e (headSpec wsX5_frames ({ frames := 2, cells := 0, slots := 0, locals := 46 } : Room)).room s m ([.ref (mm 0), .ref b] : List Value).toArray below meth c H locs 0 0 (MQ below (va_Qv (fun (u : Int32 × (Nat → Int32) × (Nat → Int32) × (Nat → Int32)) => u.1 = nI n ∧ u.2.1 = fm_fl (fs_ow s0) ow n ∧ u.2.2.1 = fm_fl (fs_li s0) li n) (xm_B (dC, dI) (fun (u : Int32 × (Nat → Int32) × (Nat → Int32) × (Nat → Int32)) => [((mm 0), .inr (5, [.ref (mm 1), .ref (mm 2), .ref (mm 3), .ref (mm 4), .int kp, .ref (mm 5), .int ty, .int th, .int at0, .int fa, .ref (mm 6), .int ts, .ref (mm 7), .ref (mm 8), .ref (mm 9), .int u.1])), ((mm 7), .inl (cI, 96, .inl u.2.1)), ((mm 8), .inl (cI, 96, .inl u.2.2.1)), ((mm 9), .inl (cI, 6, .inl u.2.2.2)), (b, .inl (cI, 80, .inl s0))]) A) A) ([.ref (mm 0), .ref b] : List Value).toArray s 0 0 A) (F0 m 9 lz []) := by
    intro zz
    induction zz with
    | zero => intro i hii hni; exact absurd hni (by omega)
    | succ zz ih9 =>
      intro i hii hni f e_f  H locs hP hD hS lz hl
      subst e_f
      refine lv_iload_n hx hb dX5_frames_9 rfl (lv_at hl 2 rfl) ?_
      refine lv_bipush (v := 6) hx hb dX5_frames_10 (by decide) ?_
      refine lv_icmp_ge (tgt := 33) hx hb dX5_frames_12 (by decide) (fun q12 => ?_) (fun q12 => ?_)
      · have hNi : 6 = i := (xm_end (N := 6) hii (by decide) q12).symm
        subst hNi
        obtain ⟨hP, hD⟩ := xm_cong hP hD 3 rfl ((fun j => s0 (26 + j))) (fun j hj => by rw [fm_fl_in hj])
        have hP : va_P (dC, dI) vwCl [((mm 0), .inr (5, [.ref (mm 1), .ref (mm 2), .ref (mm 3), .ref (mm 4), .int kp, .ref (mm 5), .int ty, .int th, .int at0, .int fa, .ref (mm 6), .int ts, .ref (mm 7), .ref (mm 8), .ref (mm 9), .int (nI n)])), ((mm 7), .inl (cI, 96, .inl ow)), ((mm 8), .inl (cI, 96, .inl li)), ((mm 9), .inl (cI, 6, .inl (fun j => s0 (26 + j)))), (b, .inl (cI, 80, .inl s0))] H := hP
        have hD : va_D A [((mm 0), .inr (5, [.ref (mm 1), .ref (mm 2), .ref (mm 3), .ref (mm 4), .int kp, .ref (mm 5), .int ty, .int th, .int at0, .int fa, .ref (mm 6), .int ts, .ref (mm 7), .ref (mm 8), .ref (mm 9), .int (nI n)])), ((mm 7), .inl (cI, 96, .inl ow)), ((mm 8), .inl (cI, 96, .inl li)), ((mm 9), .inl (cI, 6, .inl (fun j => s0 (26 + j)))), (b, .inl (cI, 80, .inl s0))] := hD
        refine lv_iconst (v := 0) hx hb dX5_frames_33 (by decide) ?_
        refine lv_istore_n (lv' := [(2, .int 0), (0, .ref (mm 0)), (1, .ref b)]) hx hb dX5_frames_34 rfl hl (by decide) rfl (fun lz hl => ?_)
        have L35 : ∀ (zz i : Nat), i ≤ n → n + 1 ≤ i + zz → ∀ (f1 : Nat → Int32) (f2 : Nat → Int32) (f3 : Nat → Int32), f1 = fm_fl (fs_ow s0) ow i → f2 = fm_fl (fs_li s0) li i → f3 = fr_cr (fun j => s0 (14 + j)) (fun j => s0 (26 + j)) i → ∀ (H : Heap) (locs : List Loc), va_P (dC, dI) vwCl [((mm 0), .inr (5, [.ref (mm 1), .ref (mm 2), .ref (mm 3), .ref (mm 4), .int kp, .ref (mm 5), .int ty, .int th, .int at0, .int fa, .ref (mm 6), .int ts, .ref (mm 7), .ref (mm 8), .ref (mm 9), .int (nI n)])), ((mm 7), .inl (cI, 96, .inl f1)), ((mm 8), .inl (cI, 96, .inl f2)), ((mm 9), .inl (cI, 6, .inl f3)), (b, .inl (cI, 80, .inl s0))] H → va_D A [((mm 0), .inr (5, [.ref (mm 1), .ref (mm 2), .ref (mm 3), .ref (mm 4), .int kp, .ref (mm 5), .int ty, .int th, .int at0, .int fa, .ref (mm 6), .int ts, .ref (mm 7), .ref (mm 8), .ref (mm 9), .int (nI n)])), ((mm 7), .inl (cI, 96, .inl f1)), ((mm 8), .inl (cI, 96, .inl f2)), ((mm 9), .inl (cI, 6, .inl f3)), (b, .inl (cI, 80, .inl s0))] → va_S A s.heap H locs → ∀ (lz : Array Slot), lv_has lz 3 [(0, .ref (mm 0)), (1, .ref b), (2, .int (nI i))] → W p l e (headSpec wsX5_frames ({ frames := 2, cells := 0, slots := 0, locals := 46 } : Room)).room s m ([.ref (mm 0), .ref b] : List Value).toArray below meth c H locs 0 0 (MQ below (va_Qv (fun (u : Int32 × (Nat → Int32) × (Nat → Int32) × (Nat → Int32)) => u.1 = nI n ∧ u.2.1 = fm_fl (fs_ow s0) ow n ∧ u.2.2.1 = fm_fl (fs_li s0) li n) (xm_B (dC, dI) (fun (u : Int32 × (Nat → Int32) × (Nat → Int32) × (Nat → Int32)) => [((mm 0), .inr (5, [.ref (mm 1), .ref (mm 2), .ref (mm 3), .ref (mm 4), .int kp, .ref (mm 5), .int ty, .int th, .int at0, .int fa, .ref (mm 6), .int ts, .ref (mm 7), .ref (mm 8), .ref (mm 9), .int u.1])), ((mm 7), .inl (cI, 96, .inl u.2.1)), ((mm 8), .inl (cI, 96, .inl u.2.2.1)), ((mm 9), .inl (cI, 6, .inl u.2.2.2)), (b, .inl (cI, 80, .inl s0))]) A) A) ([.ref (mm 0), .ref b] : List Value).toArray s 0 0 A) (F0 m 35 lz []) := by
          intro zz
          induction zz with
          | zero => intro i hii hni; exact absurd hni (by omega)
          | succ zz ih35 =>
            intro i hii hni f1 f2 f3 e_f1 e_f2 e_f3  H locs hP hD hS lz hl
            subst e_f1 e_f2 e_f3
            refine lv_iload_n hx hb dX5_frames_35 rfl (lv_at hl 2 rfl) ?_
            refine lv_aload_n hx hb dX5_frames_36 rfl (lv_at hl 0 rfl) ?_
            refine va_get (D := (dC, dI)) (ci := 5) (v := .int (nI n)) (C := RX5) (T := TX5) (N := 16) hx hb hts hin5 hown hK hP 0 rfl rfl 15 (by decide) (hts (.fieldLink RX5 56 "TurnDigitsModel" "frame" "I") (by decide +kernel)) (fun _ h9 => h9) rfl dX5_frames_37 ?_
            refine lv_icmp_ge (tgt := 104) hx hb dX5_frames_40 (by decide) (fun q40 => ?_) (fun q40 => ?_)
            · have hNi : n = i := (xm_end (N := n) hii (by omega) q40).symm
              subst hNi
              have hP9 : va_P (dC, dI) vwCl [((mm 0), .inr (5, [.ref (mm 1), .ref (mm 2), .ref (mm 3), .ref (mm 4), .int kp, .ref (mm 5), .int ty, .int th, .int at0, .int fa, .ref (mm 6), .int ts, .ref (mm 7), .ref (mm 8), .ref (mm 9), .int (nI n)])), ((mm 7), .inl (cI, 96, .inl (fm_fl (fs_ow s0) ow n))), ((mm 8), .inl (cI, 96, .inl (fm_fl (fs_li s0) li n))), ((mm 9), .inl (cI, 6, .inl (fr_cr (fun j => s0 (14 + j)) (fun j => s0 (26 + j)) n))), (b, .inl (cI, 80, .inl s0))] H := hP
              have hD9 : va_D A [((mm 0), .inr (5, [.ref (mm 1), .ref (mm 2), .ref (mm 3), .ref (mm 4), .int kp, .ref (mm 5), .int ty, .int th, .int at0, .int fa, .ref (mm 6), .int ts, .ref (mm 7), .ref (mm 8), .ref (mm 9), .int (nI n)])), ((mm 7), .inl (cI, 96, .inl (fm_fl (fs_ow s0) ow n))), ((mm 8), .inl (cI, 96, .inl (fm_fl (fs_li s0) li n))), ((mm 9), .inl (cI, 6, .inl (fr_cr (fun j => s0 (14 + j)) (fun j => s0 (26 + j)) n))), (b, .inl (cI, 80, .inl s0))] := hD
              exact W.vret hx hb hr (fun t ht hW => ⟨⟨((nI n), (fm_fl (fs_ow s0) ow n), (fm_fl (fs_li s0) li n), (fr_cr (fun j => s0 (14 + j)) (fun j => s0 (26 + j)) n)), rfl, ⟨(rfl), (rfl), (rfl)⟩, by rw [ht]; exact hP9, hD9⟩, hS.F ht⟩) hS.2.2 dX5_frames_104
            · have hlti : i < n := xm_lt (N := n) hii (by omega) q40
              refine lv_aload_n hx hb dX5_frames_43 rfl (lv_at hl 0 rfl) ?_
              refine va_get (D := (dC, dI)) (ci := 5) (v := .ref (mm 7)) (C := RX5) (T := TX5) (N := 16) hx hb hts hin5 hown hK hP 0 rfl rfl 12 (by decide) (hts (.fieldLink RX5 28 "TurnDigitsModel" "owners" "[I") (by decide +kernel)) (fun _ h9 => h9) rfl dX5_frames_44 ?_
              refine lv_iload_n hx hb dX5_frames_47 rfl (lv_at hl 2 rfl) ?_
              refine lv_aload_n hx hb dX5_frames_48 rfl (lv_at hl 1 rfl) ?_
              refine lv_aload_n hx hb dX5_frames_49 rfl (lv_at hl 0 rfl) ?_
              refine va_get (D := (dC, dI)) (ci := 5) (v := .ref (mm 9)) (C := RX5) (T := TX5) (N := 16) hx hb hts hin5 hown hK hP 0 rfl rfl 14 (by decide) (hts (.fieldLink RX5 34 "TurnDigitsModel" "credits" "[I") (by decide +kernel)) (fun _ h9 => h9) rfl dX5_frames_50 ?_
              refine lv_iconst (v := 0) hx hb dX5_frames_53 (by decide) ?_
              have hPc := hP.sub (ws' := [(b, .inl (cI, 80, .inl s0)), ((mm 9), .inl (cI, 6, .inl (fr_cr (fun j => s0 (14 + j)) (fun j => s0 (26 + j)) i)))]) [4, 3] rfl
              have hDc := hD.sub (ws' := [(b, .inl (cI, 80, .inl s0)), ((mm 9), .inl (cI, 6, .inl (fr_cr (fun j => s0 (14 + j)) (fun j => s0 (26 + j)) i)))]) [4, 3] (by decide) rfl
              have hFc := va_free (wc := [(b, .inl (cI, 80, .inl s0)), ((mm 9), .inl (cI, 6, .inl (fr_cr (fun j => s0 (14 + j)) (fun j => s0 (26 + j)) i)))]) hD hS hA [4, 3] rfl
              refine va_calli (va_runS (As := [.ref b, .ref (mm 9), .int 0]) (rest := [.int (nI i), .ref (mm 7)]) ⟨hx, hb, hml, hown, hts⟩ (c_X5_turns_d l dC dI cI cS cJ tt H.size b s0 (mm 9) (fr_cr (fun j => s0 (14 + j)) (fun j => s0 (26 + j)) i)) (va_cwS 3 hts gX5_frames_X5_turns rfl rfl rfl (by decide +kernel) ⟨Nat.le_of_ble_eq_true rfl, Nat.le_of_ble_eq_true rfl⟩) ⟨xm_Mblind, fun U hU hW => ⟨rfl, by rw [hU], by rw [hU]; exact hPc, hE.go hS hFc hU hW, hDc.weaken (fun _ _ _ _ => trivial), trivial⟩⟩ rfl rfl hl.1 rfl (lv_room (Nat.le_of_ble_eq_true rfl)) dX5_frames_54 ⟨Nat.zero_le _, Nat.zero_le _⟩) hS (fun q _ h => hFc q h) hFc (fun r u t H1 locs ht hvm hw hB hz1 hk1 hS => ?_)
              obtain ⟨u_1, rfl⟩ : ∃ z, z = u := ⟨_, rfl⟩
              obtain ⟨hP1, hD1⟩ := hB
              rw [ht] at hP1
              obtain ⟨hw_2, hw_3⟩ := hw
              have hw_2 : r = fm_own (fun j => s0 (14 + j)) (fr_cr (fun j => s0 (14 + j)) (fun j => s0 (26 + j)) i) 6 := hw_2
              subst hw_2
              have hw_3 : u_1 = fm_crd (fun j => s0 (14 + j)) (fr_cr (fun j => s0 (14 + j)) (fun j => s0 (26 + j)) i) := hw_3
              subst hw_3
              obtain ⟨hP, hD⟩ := va_join (wr := [((mm 0), .inr (5, [.ref (mm 1), .ref (mm 2), .ref (mm 3), .ref (mm 4), .int kp, .ref (mm 5), .int ty, .int th, .int at0, .int fa, .ref (mm 6), .int ts, .ref (mm 7), .ref (mm 8), .ref (mm 9), .int (nI n)])), ((mm 7), .inl (cI, 96, .inl (fm_fl (fs_ow s0) ow i))), ((mm 8), .inl (cI, 96, .inl (fm_fl (fs_li s0) li i)))]) (w1 := [(b, .inl (cI, 80, .inl s0)), ((mm 9), .inl (cI, 6, .inl (fm_crd (fun j => s0 (14 + j)) (fr_cr (fun j => s0 (14 + j)) (fun j => s0 (26 + j)) i))))]) hP hD [4, 3] [0, 1, 2] rfl rfl (by decide) (by decide) hk1 hFc hP1 hD1
              generalize H1 = H at hP hS ⊢
              have hP : va_P (dC, dI) vwCl [((mm 0), .inr (5, [.ref (mm 1), .ref (mm 2), .ref (mm 3), .ref (mm 4), .int kp, .ref (mm 5), .int ty, .int th, .int at0, .int fa, .ref (mm 6), .int ts, .ref (mm 7), .ref (mm 8), .ref (mm 9), .int (nI n)])), ((mm 7), .inl (cI, 96, .inl (fm_fl (fs_ow s0) ow i))), ((mm 8), .inl (cI, 96, .inl (fm_fl (fs_li s0) li i))), (b, .inl (cI, 80, .inl s0)), ((mm 9), .inl (cI, 6, .inl (fm_crd (fun j => s0 (14 + j)) (fr_cr (fun j => s0 (14 + j)) (fun j => s0 (26 + j)) i))))] H := hP
              have hD : va_D A [((mm 0), .inr (5, [.ref (mm 1), .ref (mm 2), .ref (mm 3), .ref (mm 4), .int kp, .ref (mm 5), .int ty, .int th, .int at0, .int fa, .ref (mm 6), .int ts, .ref (mm 7), .ref (mm 8), .ref (mm 9), .int (nI n)])), ((mm 7), .inl (cI, 96, .inl (fm_fl (fs_ow s0) ow i))), ((mm 8), .inl (cI, 96, .inl (fm_fl (fs_li s0) li i))), (b, .inl (cI, 80, .inl s0)), ((mm 9), .inl (cI, 6, .inl (fm_crd (fun j => s0 (14 + j)) (fr_cr (fun j => s0 (14 + j)) (fun j => s0 (26 + j)) i))))] := hD
              refine xm_topi (y := (fs_ow s0 i)) rfl ?_
              refine xm_iast (D := (dC, dI)) hx hb hK hP hD hS 1 0 i rfl rfl (by decide) rfl (by omega) dX5_frames_57 (fun H locs hP hD hS => ?_)
              have hP : va_P (dC, dI) vwCl [((mm 0), .inr (5, [.ref (mm 1), .ref (mm 2), .ref (mm 3), .ref (mm 4), .int kp, .ref (mm 5), .int ty, .int th, .int at0, .int fa, .ref (mm 6), .int ts, .ref (mm 7), .ref (mm 8), .ref (mm 9), .int (nI n)])), ((mm 7), .inl (cI, 96, .inl (upd (fm_fl (fs_ow s0) ow i) i (fs_ow s0 i)))), ((mm 8), .inl (cI, 96, .inl (fm_fl (fs_li s0) li i))), (b, .inl (cI, 80, .inl s0)), ((mm 9), .inl (cI, 6, .inl (fm_crd (fun j => s0 (14 + j)) (fr_cr (fun j => s0 (14 + j)) (fun j => s0 (26 + j)) i))))] H := hP
              have hD : va_D A [((mm 0), .inr (5, [.ref (mm 1), .ref (mm 2), .ref (mm 3), .ref (mm 4), .int kp, .ref (mm 5), .int ty, .int th, .int at0, .int fa, .ref (mm 6), .int ts, .ref (mm 7), .ref (mm 8), .ref (mm 9), .int (nI n)])), ((mm 7), .inl (cI, 96, .inl (upd (fm_fl (fs_ow s0) ow i) i (fs_ow s0 i)))), ((mm 8), .inl (cI, 96, .inl (fm_fl (fs_li s0) li i))), (b, .inl (cI, 80, .inl s0)), ((mm 9), .inl (cI, 6, .inl (fm_crd (fun j => s0 (14 + j)) (fr_cr (fun j => s0 (14 + j)) (fun j => s0 (26 + j)) i))))] := hD
              refine lv_aload_n hx hb dX5_frames_58 rfl (lv_at hl 0 rfl) ?_
              refine va_get (D := (dC, dI)) (ci := 5) (v := .ref (mm 8)) (C := RX5) (T := TX5) (N := 16) hx hb hts hin5 hown hK hP 0 rfl rfl 13 (by decide) (hts (.fieldLink RX5 31 "TurnDigitsModel" "lits" "[I") (by decide +kernel)) (fun _ h9 => h9) rfl dX5_frames_59 ?_
              refine lv_iload_n hx hb dX5_frames_62 rfl (lv_at hl 2 rfl) ?_
              refine lv_aload_n hx hb dX5_frames_63 rfl (lv_at hl 1 rfl) ?_
              refine lv_aload_n hx hb dX5_frames_64 rfl (lv_at hl 0 rfl) ?_
              refine va_get (D := (dC, dI)) (ci := 5) (v := .ref (mm 7)) (C := RX5) (T := TX5) (N := 16) hx hb hts hin5 hown hK hP 0 rfl rfl 12 (by decide) (hts (.fieldLink RX5 28 "TurnDigitsModel" "owners" "[I") (by decide +kernel)) (fun _ h9 => h9) rfl dX5_frames_65 ?_
              refine lv_iload_n hx hb dX5_frames_68 rfl (lv_at hl 2 rfl) ?_
              refine xm_iald (D := (dC, dI)) hx hb hK hP 1 0 i (v := (upd (fm_fl (fs_ow s0) ow i) i (fs_ow s0 i)) i) rfl rfl (by decide) rfl (by omega) rfl dX5_frames_69 ?_
              refine xm_topi (y := (fs_ow s0 i)) pk_us ?_
              refine lv_iload_n hx hb dX5_frames_70 rfl (lv_at hl 2 rfl) ?_
              refine lv_if_ne (tgt := 81) hx hb dX5_frames_71 (by decide) (fun q71 => ?_) (fun q71 => ?_)
              · refine lv_aload_n hx hb dX5_frames_81 rfl (lv_at hl 0 rfl) ?_
                refine va_get (D := (dC, dI)) (ci := 5) (v := .ref (mm 7)) (C := RX5) (T := TX5) (N := 16) hx hb hts hin5 hown hK hP 0 rfl rfl 12 (by decide) (hts (.fieldLink RX5 28 "TurnDigitsModel" "owners" "[I") (by decide +kernel)) (fun _ h9 => h9) rfl dX5_frames_82 ?_
                refine lv_iload_n hx hb dX5_frames_85 rfl (lv_at hl 2 rfl) ?_
                refine lv_iconst (v := 1) hx hb dX5_frames_86 (by decide) ?_
                refine lv_isub hx hb dX5_frames_87 ?_
                refine xm_iald (D := (dC, dI)) hx hb hK hP 1 0 (i - 1) (v := (upd (fm_fl (fs_ow s0) ow i) i (fs_ow s0 i)) (i - 1)) rfl rfl (by decide) (pk_sub (a := i) (b := 1) (nI_pos0 (by omega) q71)) (by omega) rfl dX5_frames_88 ?_
                refine xm_topi (y := (fs_ow s0 (i - 1))) ((pk_un (by have := nI_pos0 (by omega) q71; omega)).trans (fm_fl_in (by have := nI_pos0 (by omega) q71; omega))) ?_
                refine lv_aload_n hx hb dX5_frames_89 rfl (lv_at hl 1 rfl) ?_
                refine lv_iconst (v := 0) hx hb dX5_frames_90 (by decide) ?_
                refine xm_iald (D := (dC, dI)) hx hb hK hP 3 0 0 (v := s0 0) rfl rfl (by decide) rfl (by decide) rfl dX5_frames_91 ?_
                refine lv_iload_n hx hb dX5_frames_92 rfl (lv_at hl 2 rfl) ?_
                refine lv_iadd hx hb dX5_frames_93 ?_
                have hPc := hP.sub (ws' := [(b, .inl (cI, 80, .inl s0))]) [3] rfl
                refine W.callV ((va_runS (As := [.ref b, .int (fs_ow s0 i), .int (fs_ow s0 (i - 1)), .int ((s0 0) + (nI i))]) (rest := [.int (nI i), .ref (mm 8)]) ⟨hx, hb, hml, hown, hts⟩ (c_X5_litBy l dC dI cI cS cJ tt b s0 (fs_ow s0 i) (fs_ow s0 (i - 1)) ((s0 0) + (nI i))) (va_cwS 4 hts gX5_frames_X5_litBy rfl rfl rfl (by decide +kernel) ⟨Nat.le_of_ble_eq_true rfl, Nat.le_of_ble_eq_true rfl⟩) ⟨xm_Rblind, fun U hU hW => ⟨rfl, by rw [hU]; exact hPc, hE.go hS (fun _ q => q.elim) hU hW, trivial⟩⟩ rfl rfl hl.1 rfl (lv_room (Nat.le_of_ble_eq_true rfl)) dX5_frames_94 ⟨Nat.zero_le _, Nat.zero_le _⟩).run) ?_
                refine W.eq (g2 := F0 m 97 lz (.int (ml_by (s0 3) (fs_ow s0 i) (fs_ow s0 (i - 1)) ((s0 0) + (nI i))) :: [.int (nI i), .ref (mm 8)])) rfl ?_
                refine xm_topi (y := (fs_li s0 i)) (fs_li_s ht0 ht9 (by omega) (nI_pos0 (by omega) q71)) ?_
                refine xm_iast (D := (dC, dI)) hx hb hK hP hD hS 2 0 i rfl rfl (by decide) rfl (by omega) dX5_frames_97 (fun H locs hP hD hS => ?_)
                have hP : va_P (dC, dI) vwCl [((mm 0), .inr (5, [.ref (mm 1), .ref (mm 2), .ref (mm 3), .ref (mm 4), .int kp, .ref (mm 5), .int ty, .int th, .int at0, .int fa, .ref (mm 6), .int ts, .ref (mm 7), .ref (mm 8), .ref (mm 9), .int (nI n)])), ((mm 7), .inl (cI, 96, .inl (upd (fm_fl (fs_ow s0) ow i) i (fs_ow s0 i)))), ((mm 8), .inl (cI, 96, .inl (upd (fm_fl (fs_li s0) li i) i (fs_li s0 i)))), (b, .inl (cI, 80, .inl s0)), ((mm 9), .inl (cI, 6, .inl (fm_crd (fun j => s0 (14 + j)) (fr_cr (fun j => s0 (14 + j)) (fun j => s0 (26 + j)) i))))] H := hP
                have hD : va_D A [((mm 0), .inr (5, [.ref (mm 1), .ref (mm 2), .ref (mm 3), .ref (mm 4), .int kp, .ref (mm 5), .int ty, .int th, .int at0, .int fa, .ref (mm 6), .int ts, .ref (mm 7), .ref (mm 8), .ref (mm 9), .int (nI n)])), ((mm 7), .inl (cI, 96, .inl (upd (fm_fl (fs_ow s0) ow i) i (fs_ow s0 i)))), ((mm 8), .inl (cI, 96, .inl (upd (fm_fl (fs_li s0) li i) i (fs_li s0 i)))), (b, .inl (cI, 80, .inl s0)), ((mm 9), .inl (cI, 6, .inl (fm_crd (fun j => s0 (14 + j)) (fr_cr (fun j => s0 (14 + j)) (fun j => s0 (26 + j)) i))))] := hD
                refine lv_iinc (v := nI (i + 1)) (lv' := [(2, .int (nI (i + 1))), (0, .ref (mm 0)), (1, .ref b)]) hx hb dX5_frames_98 hl (k := 2) rfl (nI_1 i) (by decide) rfl (fun lz hl => ?_)
                refine lv_goto (tgt := 35) hx hb dX5_frames_101 (by decide) ?_
                have hP := hP.sub (ws' := [((mm 0), .inr (5, [.ref (mm 1), .ref (mm 2), .ref (mm 3), .ref (mm 4), .int kp, .ref (mm 5), .int ty, .int th, .int at0, .int fa, .ref (mm 6), .int ts, .ref (mm 7), .ref (mm 8), .ref (mm 9), .int (nI n)])), ((mm 7), .inl (cI, 96, .inl (upd (fm_fl (fs_ow s0) ow i) i (fs_ow s0 i)))), ((mm 8), .inl (cI, 96, .inl (upd (fm_fl (fs_li s0) li i) i (fs_li s0 i)))), ((mm 9), .inl (cI, 6, .inl (fm_crd (fun j => s0 (14 + j)) (fr_cr (fun j => s0 (14 + j)) (fun j => s0 (26 + j)) i)))), (b, .inl (cI, 80, .inl s0))]) [0, 1, 2, 4, 3] rfl
                have hD := hD.sub (ws' := [((mm 0), .inr (5, [.ref (mm 1), .ref (mm 2), .ref (mm 3), .ref (mm 4), .int kp, .ref (mm 5), .int ty, .int th, .int at0, .int fa, .ref (mm 6), .int ts, .ref (mm 7), .ref (mm 8), .ref (mm 9), .int (nI n)])), ((mm 7), .inl (cI, 96, .inl (upd (fm_fl (fs_ow s0) ow i) i (fs_ow s0 i)))), ((mm 8), .inl (cI, 96, .inl (upd (fm_fl (fs_li s0) li i) i (fs_li s0 i)))), ((mm 9), .inl (cI, 6, .inl (fm_crd (fun j => s0 (14 + j)) (fr_cr (fun j => s0 (14 + j)) (fun j => s0 (26 + j)) i)))), (b, .inl (cI, 80, .inl s0))]) [0, 1, 2, 4, 3] (by decide) rfl
                exact ih35 (i + 1) hlti (by omega) (upd (fm_fl (fs_ow s0) ow i) i (fs_ow s0 i)) (upd (fm_fl (fs_li s0) li i) i (fs_li s0 i)) (fm_crd (fun j => s0 (14 + j)) (fr_cr (fun j => s0 (14 + j)) (fun j => s0 (26 + j)) i)) (fm_fl_t rfl) (fm_fl_t rfl) rfl  H locs hP hD hS lz (lv_sub hl [1, 2, 0] rfl)
              · refine lv_aload_n hx hb dX5_frames_74 rfl (lv_at hl 1 rfl) ?_
                refine lv_bipush (v := 7) hx hb dX5_frames_75 (by decide) ?_
                refine xm_iald (D := (dC, dI)) hx hb hK hP 3 0 7 (v := s0 7) rfl rfl (by decide) rfl (by decide) rfl dX5_frames_77 ?_
                refine lv_goto (tgt := 89) hx hb dX5_frames_78 (by decide) ?_
                refine lv_aload_n hx hb dX5_frames_89 rfl (lv_at hl 1 rfl) ?_
                refine lv_iconst (v := 0) hx hb dX5_frames_90 (by decide) ?_
                refine xm_iald (D := (dC, dI)) hx hb hK hP 3 0 0 (v := s0 0) rfl rfl (by decide) rfl (by decide) rfl dX5_frames_91 ?_
                refine lv_iload_n hx hb dX5_frames_92 rfl (lv_at hl 2 rfl) ?_
                refine lv_iadd hx hb dX5_frames_93 ?_
                have hPc := hP.sub (ws' := [(b, .inl (cI, 80, .inl s0))]) [3] rfl
                refine W.callV ((va_runS (As := [.ref b, .int (fs_ow s0 i), .int (s0 7), .int ((s0 0) + (nI i))]) (rest := [.int (nI i), .ref (mm 8)]) ⟨hx, hb, hml, hown, hts⟩ (c_X5_litBy l dC dI cI cS cJ tt b s0 (fs_ow s0 i) (s0 7) ((s0 0) + (nI i))) (va_cwS 4 hts gX5_frames_X5_litBy rfl rfl rfl (by decide +kernel) ⟨Nat.le_of_ble_eq_true rfl, Nat.le_of_ble_eq_true rfl⟩) ⟨xm_Rblind, fun U hU hW => ⟨rfl, by rw [hU]; exact hPc, hE.go hS (fun _ q => q.elim) hU hW, trivial⟩⟩ rfl rfl hl.1 rfl (lv_room (Nat.le_of_ble_eq_true rfl)) dX5_frames_94 ⟨Nat.zero_le _, Nat.zero_le _⟩).run) ?_
                refine W.eq (g2 := F0 m 97 lz (.int (ml_by (s0 3) (fs_ow s0 i) (s0 7) ((s0 0) + (nI i))) :: [.int (nI i), .ref (mm 8)])) rfl ?_
                refine xm_topi (y := (fs_li s0 i)) (by have hi0 := nI_z (by omega) q71; subst hi0; exact fs_li_0 hah) ?_
                refine xm_iast (D := (dC, dI)) hx hb hK hP hD hS 2 0 i rfl rfl (by decide) rfl (by omega) dX5_frames_97 (fun H locs hP hD hS => ?_)
                have hP : va_P (dC, dI) vwCl [((mm 0), .inr (5, [.ref (mm 1), .ref (mm 2), .ref (mm 3), .ref (mm 4), .int kp, .ref (mm 5), .int ty, .int th, .int at0, .int fa, .ref (mm 6), .int ts, .ref (mm 7), .ref (mm 8), .ref (mm 9), .int (nI n)])), ((mm 7), .inl (cI, 96, .inl (upd (fm_fl (fs_ow s0) ow i) i (fs_ow s0 i)))), ((mm 8), .inl (cI, 96, .inl (upd (fm_fl (fs_li s0) li i) i (fs_li s0 i)))), (b, .inl (cI, 80, .inl s0)), ((mm 9), .inl (cI, 6, .inl (fm_crd (fun j => s0 (14 + j)) (fr_cr (fun j => s0 (14 + j)) (fun j => s0 (26 + j)) i))))] H := hP
                have hD : va_D A [((mm 0), .inr (5, [.ref (mm 1), .ref (mm 2), .ref (mm 3), .ref (mm 4), .int kp, .ref (mm 5), .int ty, .int th, .int at0, .int fa, .ref (mm 6), .int ts, .ref (mm 7), .ref (mm 8), .ref (mm 9), .int (nI n)])), ((mm 7), .inl (cI, 96, .inl (upd (fm_fl (fs_ow s0) ow i) i (fs_ow s0 i)))), ((mm 8), .inl (cI, 96, .inl (upd (fm_fl (fs_li s0) li i) i (fs_li s0 i)))), (b, .inl (cI, 80, .inl s0)), ((mm 9), .inl (cI, 6, .inl (fm_crd (fun j => s0 (14 + j)) (fr_cr (fun j => s0 (14 + j)) (fun j => s0 (26 + j)) i))))] := hD
                refine lv_iinc (v := nI (i + 1)) (lv' := [(2, .int (nI (i + 1))), (0, .ref (mm 0)), (1, .ref b)]) hx hb dX5_frames_98 hl (k := 2) rfl (nI_1 i) (by decide) rfl (fun lz hl => ?_)
                refine lv_goto (tgt := 35) hx hb dX5_frames_101 (by decide) ?_
                have hP := hP.sub (ws' := [((mm 0), .inr (5, [.ref (mm 1), .ref (mm 2), .ref (mm 3), .ref (mm 4), .int kp, .ref (mm 5), .int ty, .int th, .int at0, .int fa, .ref (mm 6), .int ts, .ref (mm 7), .ref (mm 8), .ref (mm 9), .int (nI n)])), ((mm 7), .inl (cI, 96, .inl (upd (fm_fl (fs_ow s0) ow i) i (fs_ow s0 i)))), ((mm 8), .inl (cI, 96, .inl (upd (fm_fl (fs_li s0) li i) i (fs_li s0 i)))), ((mm 9), .inl (cI, 6, .inl (fm_crd (fun j => s0 (14 + j)) (fr_cr (fun j => s0 (14 + j)) (fun j => s0 (26 + j)) i)))), (b, .inl (cI, 80, .inl s0))]) [0, 1, 2, 4, 3] rfl
                have hD := hD.sub (ws' := [((mm 0), .inr (5, [.ref (mm 1), .ref (mm 2), .ref (mm 3), .ref (mm 4), .int kp, .ref (mm 5), .int ty, .int th, .int at0, .int fa, .ref (mm 6), .int ts, .ref (mm 7), .ref (mm 8), .ref (mm 9), .int (nI n)])), ((mm 7), .inl (cI, 96, .inl (upd (fm_fl (fs_ow s0) ow i) i (fs_ow s0 i)))), ((mm 8), .inl (cI, 96, .inl (upd (fm_fl (fs_li s0) li i) i (fs_li s0 i)))), ((mm 9), .inl (cI, 6, .inl (fm_crd (fun j => s0 (14 + j)) (fr_cr (fun j => s0 (14 + j)) (fun j => s0 (26 + j)) i)))), (b, .inl (cI, 80, .inl s0))]) [0, 1, 2, 4, 3] (by decide) rfl
                exact ih35 (i + 1) hlti (by omega) (upd (fm_fl (fs_ow s0) ow i) i (fs_ow s0 i)) (upd (fm_fl (fs_li s0) li i) i (fs_li s0 i)) (fm_crd (fun j => s0 (14 + j)) (fr_cr (fun j => s0 (14 + j)) (fun j => s0 (26 + j)) i)) (fm_fl_t rfl) (fm_fl_t rfl) rfl  H locs hP hD hS lz (lv_sub hl [1, 2, 0] rfl)
        exact L35 (n + 1) 0 (by omega) (by omega) ow li (fun j => s0 (26 + j)) (fm_fl_0 _ _).symm (fm_fl_0 _ _).symm rfl  H locs hP hD hS lz (lv_sub hl [1, 2, 0] rfl)
      · have hlti : i < 6 := xm_lt (N := 6) hii (by decide) q12
        refine lv_aload_n hx hb dX5_frames_15 rfl (lv_at hl 0 rfl) ?_
        refine va_get (D := (dC, dI)) (ci := 5) (v := .ref (mm 9)) (C := RX5) (T := TX5) (N := 16) hx hb hts hin5 hown hK hP 0 rfl rfl 14 (by decide) (hts (.fieldLink RX5 34 "TurnDigitsModel" "credits" "[I") (by decide +kernel)) (fun _ h9 => h9) rfl dX5_frames_16 ?_
        refine lv_iload_n hx hb dX5_frames_19 rfl (lv_at hl 2 rfl) ?_
        refine lv_aload_n hx hb dX5_frames_20 rfl (lv_at hl 1 rfl) ?_
        refine lv_bipush (v := 26) hx hb dX5_frames_21 (by decide) ?_
        refine lv_iload_n hx hb dX5_frames_23 rfl (lv_at hl 2 rfl) ?_
        refine lv_iadd hx hb dX5_frames_24 ?_
        refine xm_topi (y := nI (26 + i)) (nI_add 26 i) ?_
        refine xm_iald (D := (dC, dI)) hx hb hK hP 4 0 (26 + i) (v := s0 (26 + i)) rfl rfl (by decide) rfl (by omega) rfl dX5_frames_25 ?_
        refine xm_iast (D := (dC, dI)) hx hb hK hP hD hS 3 0 i rfl rfl (by decide) rfl (by omega) dX5_frames_26 (fun H locs hP hD hS => ?_)
        have hP : va_P (dC, dI) vwCl [((mm 0), .inr (5, [.ref (mm 1), .ref (mm 2), .ref (mm 3), .ref (mm 4), .int kp, .ref (mm 5), .int ty, .int th, .int at0, .int fa, .ref (mm 6), .int ts, .ref (mm 7), .ref (mm 8), .ref (mm 9), .int (nI n)])), ((mm 7), .inl (cI, 96, .inl ow)), ((mm 8), .inl (cI, 96, .inl li)), ((mm 9), .inl (cI, 6, .inl (upd (fm_fl (fun j => s0 (26 + j)) cr i) i (s0 (26 + i))))), (b, .inl (cI, 80, .inl s0))] H := hP
        have hD : va_D A [((mm 0), .inr (5, [.ref (mm 1), .ref (mm 2), .ref (mm 3), .ref (mm 4), .int kp, .ref (mm 5), .int ty, .int th, .int at0, .int fa, .ref (mm 6), .int ts, .ref (mm 7), .ref (mm 8), .ref (mm 9), .int (nI n)])), ((mm 7), .inl (cI, 96, .inl ow)), ((mm 8), .inl (cI, 96, .inl li)), ((mm 9), .inl (cI, 6, .inl (upd (fm_fl (fun j => s0 (26 + j)) cr i) i (s0 (26 + i))))), (b, .inl (cI, 80, .inl s0))] := hD
        refine lv_iinc (v := nI (i + 1)) (lv' := [(2, .int (nI (i + 1))), (0, .ref (mm 0)), (1, .ref b)]) hx hb dX5_frames_27 hl (k := 2) rfl (nI_1 i) (by decide) rfl (fun lz hl => ?_)
        refine lv_goto (tgt := 9) hx hb dX5_frames_30 (by decide) ?_
        exact ih9 (i + 1) hlti (by omega) (upd (fm_fl (fun j => s0 (26 + j)) cr i) i (s0 (26 + i))) (fm_fl_t rfl)  H locs hP hD hS lz (lv_sub hl [1, 2, 0] rfl)
  exact L9 (6 + 1) 0 (by omega) (by omega) cr (fm_fl_0 _ _).symm  H locs hP hD hS lz (lv_sub hl [1, 2, 0] rfl)

set_option maxHeartbeats 4000000 in
set_option maxRecDepth 100000 in
theorem c_X5_inFrame (l : Launch) (dC : Nat → ClassId) (dI : Nat → Nat → Nat) (cI cS cJ : ClassId) (tt : Nat → Nat) (mm : Nat → Nat) (kp : Int32) (ty : Int32) (th : Int32) (at0 : Int32) (fa : Int32) (ts : Int32) (G : Nat → Int32) (y2 : Nat → Int32) (F : Nat → Int32) (y : Nat → Int32) (n : Nat) (d0 : Int32) : Met l yX5_inFrame wsX5_inFrame ({ frames := 0, cells := 0, slots := 0, locals := 0 } : Room) (va_Pc [.ref (mm 0), .int d0] (xm_R (dC, dI) cI cS cJ tt [((mm 0), .inr (5, [.ref (mm 1), .ref (mm 2), .ref (mm 3), .ref (mm 4), .int kp, .ref (mm 5), .int ty, .int th, .int at0, .int fa, .ref (mm 6), .int ts, .ref (mm 7), .ref (mm 8), .ref (mm 9), .int (nI n)])), ((mm 7), .inl (cI, 96, .inl (fm_fl G y2 n))), ((mm 8), .inl (cI, 96, .inl (fm_fl F y n)))] (1 ≤ n ∧ n ≤ 96))) (k2_QcV (.int (mi_fr d0 G F n))) 0 0 (fun _ => False) := by
  refine Met.ofW (cc := cX5_inFrame) (maxL := 4) (ret := (some .int)) (by decide) rfl ?_
  intro p e s m args below meth c s₁ B hml hv
  obtain ⟨rfl, hP, hE, hpre⟩ := hv
  have hx := B.exec
  have hb := B.bytes
  have hr := B.returns
  have hts := atoms_spec (ws := wsX5_inFrame) B.pre
  have hown : s.vm.findClass RX5 = some m.cls := findClass_of_methodNamed B.named
  have hlocks := B.notSynchronized
  have hK := hE.1
  have hS : va_S (fun _ => False) s.heap s.heap [] := va_S.rf
  have hP : va_P (dC, dI) vwCl [((mm 0), .inr (5, [.ref (mm 1), .ref (mm 2), .ref (mm 3), .ref (mm 4), .int kp, .ref (mm 5), .int ty, .int th, .int at0, .int fa, .ref (mm 6), .int ts, .ref (mm 7), .ref (mm 8), .ref (mm 9), .int (nI n)])), ((mm 7), .inl (cI, 96, .inl (fm_fl G y2 n))), ((mm 8), .inl (cI, 96, .inl (fm_fl F y n)))] s.heap := hP
  have hin5 : ∀ w ∈ u_ws RX5 TX5 16, w ∈ wsX5_inFrame := by decide +kernel
  have hl := lv_entry [.ref (mm 0), .int d0] (n := 4) (Nat.le_of_ble_eq_true rfl)
  rw [lg_entry_eq]
  generalize (lg_sl [.ref (mm 0), .int d0] ++ List.replicate (4 - (lg_sl [.ref (mm 0), .int d0]).length) Slot.unset).toArray = lz at hl ⊢
  have hl : lv_has lz 4 [(0, .ref (mm 0)), (1, .int d0)] := hl
  refine lv_iconst (v := 0) hx hb dX5_inFrame_0 (by decide) ?_
  refine lv_istore_n (lv' := [(2, .int 0), (0, .ref (mm 0)), (1, .int d0)]) hx hb dX5_inFrame_1 rfl hl (by decide) rfl (fun lz hl => ?_)
  refine lv_iconst (v := 0) hx hb dX5_inFrame_2 (by decide) ?_
  refine lv_istore_n (lv' := [(3, .int 0), (2, .int 0), (0, .ref (mm 0)), (1, .int d0)]) hx hb dX5_inFrame_3 rfl hl (by decide) rfl (fun lz hl => ?_)
  have L4 : ∀ (zz i : Nat), i ≤ n → n + 1 ≤ i + zz → ∀ (x2 : Int32), x2 = mi_fr d0 G F i → ∀ (lz : Array Slot), lv_has lz 4 [(0, .ref (mm 0)), (1, .int d0), (2, .int x2), (3, .int (nI i))] → W p l e (headSpec wsX5_inFrame ({ frames := 0, cells := 0, slots := 0, locals := 0 } : Room)).room s m ([.ref (mm 0), .int d0] : List Value).toArray below meth c s.heap [] 0 0 (MQ below (k2_QcV (.int (mi_fr d0 G F n))) ([.ref (mm 0), .int d0] : List Value).toArray s 0 0 (fun _ => False)) (F0 m 4 lz []) := by
    intro zz
    induction zz with
    | zero => intro i hii hni; exact absurd hni (by omega)
    | succ zz ih4 =>
      intro i hii hni x2 e_x2  lz hl
      subst e_x2
      refine lv_iload_n hx hb dX5_inFrame_4 rfl (lv_at hl 3 rfl) ?_
      refine lv_aload_n hx hb dX5_inFrame_5 rfl (lv_at hl 0 rfl) ?_
      refine va_get (D := (dC, dI)) (ci := 5) (v := .int (nI n)) (C := RX5) (T := TX5) (N := 16) hx hb hts hin5 hown hK hP 0 rfl rfl 15 (by decide) (hts (.fieldLink RX5 56 "TurnDigitsModel" "frame" "I") (by decide +kernel)) (fun _ h9 => h9) rfl dX5_inFrame_6 ?_
      refine lv_icmp_ge (tgt := 64) hx hb dX5_inFrame_9 (by decide) (fun q9 => ?_) (fun q9 => ?_)
      · have hNi : n = i := (xm_end (N := n) hii (by omega) q9).symm
        subst hNi
        refine lv_iload_n hx hb dX5_inFrame_64 rfl (lv_at hl 2 rfl) ?_
        exact W.iret (v := (mi_fr d0 G F n)) hx hb hr (fun t ht hW => ⟨congrArg (fun z => Outcome.returned (some (Value.int z))) (rfl), ht⟩) hS.2.2 dX5_inFrame_65
      · have hlti : i < n := xm_lt (N := n) hii (by omega) q9
        refine lv_iload_n hx hb dX5_inFrame_12 rfl (lv_at hl 2 rfl) ?_
        refine lv_iload_n hx hb dX5_inFrame_13 rfl (lv_at hl 1 rfl) ?_
        refine lv_if_eq (tgt := 30) hx hb dX5_inFrame_14 (by decide) (fun q14 => ?_) (fun q14 => ?_)
        · refine lv_iload_n hx hb dX5_inFrame_30 rfl (lv_at hl 3 rfl) ?_
          refine lv_if_le (tgt := 55) hx hb dX5_inFrame_31 (by decide) (fun q31 => ?_) (fun q31 => ?_)
          · refine lv_iconst (v := 0) hx hb dX5_inFrame_55 (by decide) ?_
            refine lv_iadd hx hb dX5_inFrame_56 ?_
            refine lv_istore_n (lv' := [(2, .int ((mi_fr d0 G F i) + 0)), (0, .ref (mm 0)), (1, .int d0), (3, .int (nI i))]) hx hb dX5_inFrame_57 rfl hl (by decide) rfl (fun lz hl => ?_)
            refine lv_iinc (v := nI (i + 1)) (lv' := [(3, .int (nI (i + 1))), (2, .int ((mi_fr d0 G F i) + 0)), (0, .ref (mm 0)), (1, .int d0)]) hx hb dX5_inFrame_58 hl (k := 3) rfl (nI_1 i) (by decide) rfl (fun lz hl => ?_)
            refine lv_goto (tgt := 4) hx hb dX5_inFrame_61 (by decide) ?_
            exact ih4 (i + 1) hlti (by omega) ((mi_fr d0 G F i) + 0) (mi_c0 q14 q31 (by omega))  lz (lv_sub hl [2, 3, 1, 0] rfl)
          · have hp0 : 0 < i := Nat.pos_of_ne_zero (fun h => q31 (by rw [h]; decide))
            refine lv_aload_n hx hb dX5_inFrame_34 rfl (lv_at hl 0 rfl) ?_
            refine va_get (D := (dC, dI)) (ci := 5) (v := .ref (mm 7)) (C := RX5) (T := TX5) (N := 16) hx hb hts hin5 hown hK hP 0 rfl rfl 12 (by decide) (hts (.fieldLink RX5 28 "TurnDigitsModel" "owners" "[I") (by decide +kernel)) (fun _ h9 => h9) rfl dX5_inFrame_35 ?_
            refine lv_iload_n hx hb dX5_inFrame_38 rfl (lv_at hl 3 rfl) ?_
            refine xm_iald (D := (dC, dI)) hx hb hK hP 1 0 i (v := (fm_fl G y2 n) i) rfl rfl (by decide) rfl (by omega) rfl dX5_inFrame_39 ?_
            refine xm_topi (y := (G i)) (fm_fl_in hlti) ?_
            refine lv_aload_n hx hb dX5_inFrame_40 rfl (lv_at hl 0 rfl) ?_
            refine va_get (D := (dC, dI)) (ci := 5) (v := .ref (mm 7)) (C := RX5) (T := TX5) (N := 16) hx hb hts hin5 hown hK hP 0 rfl rfl 12 (by decide) (hts (.fieldLink RX5 28 "TurnDigitsModel" "owners" "[I") (by decide +kernel)) (fun _ h9 => h9) rfl dX5_inFrame_41 ?_
            refine lv_iload_n hx hb dX5_inFrame_44 rfl (lv_at hl 3 rfl) ?_
            refine lv_iconst (v := 1) hx hb dX5_inFrame_45 (by decide) ?_
            refine lv_isub hx hb dX5_inFrame_46 ?_
            refine xm_iald (D := (dC, dI)) hx hb hK hP 1 0 (i - 1) (v := (fm_fl G y2 n) (i - 1)) rfl rfl (by decide) (pk_sub (a := i) (b := 1) hp0) (by omega) rfl dX5_inFrame_47 ?_
            refine xm_topi (y := (G (i - 1))) (fm_fl_in (by omega)) ?_
            refine lv_icmp_eq (tgt := 55) hx hb dX5_inFrame_48 (by decide) (fun q48 => ?_) (fun q48 => ?_)
            · refine lv_iconst (v := 0) hx hb dX5_inFrame_55 (by decide) ?_
              refine lv_iadd hx hb dX5_inFrame_56 ?_
              refine lv_istore_n (lv' := [(2, .int ((mi_fr d0 G F i) + 0)), (0, .ref (mm 0)), (1, .int d0), (3, .int (nI i))]) hx hb dX5_inFrame_57 rfl hl (by decide) rfl (fun lz hl => ?_)
              refine lv_iinc (v := nI (i + 1)) (lv' := [(3, .int (nI (i + 1))), (2, .int ((mi_fr d0 G F i) + 0)), (0, .ref (mm 0)), (1, .int d0)]) hx hb dX5_inFrame_58 hl (k := 3) rfl (nI_1 i) (by decide) rfl (fun lz hl => ?_)
              refine lv_goto (tgt := 4) hx hb dX5_inFrame_61 (by decide) ?_
              exact ih4 (i + 1) hlti (by omega) ((mi_fr d0 G F i) + 0) (mi_c1 q14 hp0 q48)  lz (lv_sub hl [2, 3, 1, 0] rfl)
            · refine lv_iconst (v := 1) hx hb dX5_inFrame_51 (by decide) ?_
              refine lv_goto (tgt := 56) hx hb dX5_inFrame_52 (by decide) ?_
              refine lv_iadd hx hb dX5_inFrame_56 ?_
              refine lv_istore_n (lv' := [(2, .int ((mi_fr d0 G F i) + 1)), (0, .ref (mm 0)), (1, .int d0), (3, .int (nI i))]) hx hb dX5_inFrame_57 rfl hl (by decide) rfl (fun lz hl => ?_)
              refine lv_iinc (v := nI (i + 1)) (lv' := [(3, .int (nI (i + 1))), (2, .int ((mi_fr d0 G F i) + 1)), (0, .ref (mm 0)), (1, .int d0)]) hx hb dX5_inFrame_58 hl (k := 3) rfl (nI_1 i) (by decide) rfl (fun lz hl => ?_)
              refine lv_goto (tgt := 4) hx hb dX5_inFrame_61 (by decide) ?_
              exact ih4 (i + 1) hlti (by omega) ((mi_fr d0 G F i) + 1) (mi_c2 q14 hp0 q48)  lz (lv_sub hl [2, 3, 1, 0] rfl)
        · refine lv_aload_n hx hb dX5_inFrame_17 rfl (lv_at hl 0 rfl) ?_
          refine va_get (D := (dC, dI)) (ci := 5) (v := .ref (mm 8)) (C := RX5) (T := TX5) (N := 16) hx hb hts hin5 hown hK hP 0 rfl rfl 13 (by decide) (hts (.fieldLink RX5 31 "TurnDigitsModel" "lits" "[I") (by decide +kernel)) (fun _ h9 => h9) rfl dX5_inFrame_18 ?_
          refine lv_iload_n hx hb dX5_inFrame_21 rfl (lv_at hl 3 rfl) ?_
          refine xm_iald (D := (dC, dI)) hx hb hK hP 2 0 i (v := (fm_fl F y n) i) rfl rfl (by decide) rfl (by omega) rfl dX5_inFrame_22 ?_
          refine xm_topi (y := (F i)) (fm_fl_in hlti) ?_
          refine lv_iconst (v := (-1)) hx hb dX5_inFrame_23 (by decide) ?_
          refine lv_icmp_ne (tgt := 55) hx hb dX5_inFrame_24 (by decide) (fun q24 => ?_) (fun q24 => ?_)
          · refine lv_iconst (v := 0) hx hb dX5_inFrame_55 (by decide) ?_
            refine lv_iadd hx hb dX5_inFrame_56 ?_
            refine lv_istore_n (lv' := [(2, .int ((mi_fr d0 G F i) + 0)), (0, .ref (mm 0)), (1, .int d0), (3, .int (nI i))]) hx hb dX5_inFrame_57 rfl hl (by decide) rfl (fun lz hl => ?_)
            refine lv_iinc (v := nI (i + 1)) (lv' := [(3, .int (nI (i + 1))), (2, .int ((mi_fr d0 G F i) + 0)), (0, .ref (mm 0)), (1, .int d0)]) hx hb dX5_inFrame_58 hl (k := 3) rfl (nI_1 i) (by decide) rfl (fun lz hl => ?_)
            refine lv_goto (tgt := 4) hx hb dX5_inFrame_61 (by decide) ?_
            exact ih4 (i + 1) hlti (by omega) ((mi_fr d0 G F i) + 0) (mi_d0 q14 q24)  lz (lv_sub hl [2, 3, 1, 0] rfl)
          · refine lv_goto (tgt := 51) hx hb dX5_inFrame_27 (by decide) ?_
            refine lv_iconst (v := 1) hx hb dX5_inFrame_51 (by decide) ?_
            refine lv_goto (tgt := 56) hx hb dX5_inFrame_52 (by decide) ?_
            refine lv_iadd hx hb dX5_inFrame_56 ?_
            refine lv_istore_n (lv' := [(2, .int ((mi_fr d0 G F i) + 1)), (0, .ref (mm 0)), (1, .int d0), (3, .int (nI i))]) hx hb dX5_inFrame_57 rfl hl (by decide) rfl (fun lz hl => ?_)
            refine lv_iinc (v := nI (i + 1)) (lv' := [(3, .int (nI (i + 1))), (2, .int ((mi_fr d0 G F i) + 1)), (0, .ref (mm 0)), (1, .int d0)]) hx hb dX5_inFrame_58 hl (k := 3) rfl (nI_1 i) (by decide) rfl (fun lz hl => ?_)
            refine lv_goto (tgt := 4) hx hb dX5_inFrame_61 (by decide) ?_
            exact ih4 (i + 1) hlti (by omega) ((mi_fr d0 G F i) + 1) (mi_d1 q14 q24)  lz (lv_sub hl [2, 3, 1, 0] rfl)
  exact L4 (n + 1) 0 (by omega) (by omega) 0 (mi_0 _ _ _)  lz (lv_sub hl [2, 3, 1, 0] rfl)

set_option maxHeartbeats 4000000 in
set_option maxRecDepth 100000 in
theorem c_X5_those_f (l : Launch) (dC : Nat → ClassId) (dI : Nat → Nat → Nat) (cI cS cJ : ClassId) (tt : Nat → Nat) (mm : Nat → Nat) (kp : Int32) (ty : Int32) (th : Int32) (at0 : Int32) (fa : Int32) (ts : Int32) (F : Nat → Int32) (y : Nat → Int32) (n : Nat) (b : Nat) (s0 : Nat → Int32) : Met l yX5_those wsX5_those ({ frames := 2, cells := 0, slots := 0, locals := 47 } : Room) (va_Pc [.ref (mm 0), .ref b, .int 4] (xm_R (dC, dI) cI cS cJ tt [((mm 0), .inr (5, [.ref (mm 1), .ref (mm 2), .ref (mm 3), .ref (mm 4), .int kp, .ref (mm 5), .int ty, .int th, .int at0, .int fa, .ref (mm 6), .int ts, .ref (mm 7), .ref (mm 8), .ref (mm 9), .int (nI n)])), ((mm 8), .inl (cI, 96, .inl (fm_fl F y n))), (b, .inl (cI, 80, .inl s0))] (1 ≤ n ∧ n ≤ 96))) (k2_QcV (.int (fm_cntF (fun j => fm_flk ((fr_ls F n) j) ((fr_gp F n) j) (s0 4)) (fun _ => 0) 6))) 0 0 (fun _ => False) := by
  refine Met.ofW (cc := cX5_those) (maxL := 5) (ret := (some .int)) (by decide) rfl ?_
  intro p e s m args below meth c s₁ B hml hv
  obtain ⟨rfl, hP, hE, hpre⟩ := hv
  have hx := B.exec
  have hb := B.bytes
  have hr := B.returns
  have hts := atoms_spec (ws := wsX5_those) B.pre
  have hown : s.vm.findClass RX5 = some m.cls := findClass_of_methodNamed B.named
  have hlocks := B.notSynchronized
  have hK := hE.1
  have hS : va_S (fun _ => False) s.heap s.heap [] := va_S.rf
  have hP : va_P (dC, dI) vwCl [((mm 0), .inr (5, [.ref (mm 1), .ref (mm 2), .ref (mm 3), .ref (mm 4), .int kp, .ref (mm 5), .int ty, .int th, .int at0, .int fa, .ref (mm 6), .int ts, .ref (mm 7), .ref (mm 8), .ref (mm 9), .int (nI n)])), ((mm 8), .inl (cI, 96, .inl (fm_fl F y n))), (b, .inl (cI, 80, .inl s0))] s.heap := hP
  have hl := lv_entry [.ref (mm 0), .ref b, .int 4] (n := 5) (Nat.le_of_ble_eq_true rfl)
  rw [lg_entry_eq]
  generalize (lg_sl [.ref (mm 0), .ref b, .int 4] ++ List.replicate (5 - (lg_sl [.ref (mm 0), .ref b, .int 4]).length) Slot.unset).toArray = lz at hl ⊢
  have hl : lv_has lz 5 [(0, .ref (mm 0)), (1, .ref b), (2, .int 4)] := hl
  refine lv_iconst (v := 0) hx hb dX5_those_0 (by decide) ?_
  refine lv_istore_n (lv' := [(3, .int 0), (0, .ref (mm 0)), (1, .ref b), (2, .int 4)]) hx hb dX5_those_1 rfl hl (by decide) rfl (fun lz hl => ?_)
  refine lv_iconst (v := 0) hx hb dX5_those_2 (by decide) ?_
  refine lv_istore (lv' := [(4, .int 0), (3, .int 0), (0, .ref (mm 0)), (1, .ref b), (2, .int 4)]) hx hb dX5_those_3 hl (by decide) rfl (fun lz hl => ?_)
  have L5 : ∀ (zz i : Nat), i ≤ 6 → 6 + 1 ≤ i + zz → ∀ (x3 : Int32), x3 = fm_cntF (fun j => fm_flk ((fr_ls F n) j) ((fr_gp F n) j) (s0 4)) (fun _ => 0) i → ∀ (lz : Array Slot), lv_has lz 5 [(0, .ref (mm 0)), (1, .ref b), (2, .int 4), (3, .int x3), (4, .int (nI i))] → W p l e (headSpec wsX5_those ({ frames := 2, cells := 0, slots := 0, locals := 47 } : Room)).room s m ([.ref (mm 0), .ref b, .int 4] : List Value).toArray below meth c s.heap [] 0 0 (MQ below (k2_QcV (.int (fm_cntF (fun j => fm_flk ((fr_ls F n) j) ((fr_gp F n) j) (s0 4)) (fun _ => 0) 6))) ([.ref (mm 0), .ref b, .int 4] : List Value).toArray s 0 0 (fun _ => False)) (F0 m 5 lz []) := by
    intro zz
    induction zz with
    | zero => intro i hii hni; exact absurd hni (by omega)
    | succ zz ih5 =>
      intro i hii hni x3 e_x3  lz hl
      subst e_x3
      refine lv_iload hx hb dX5_those_5 (lv_at hl 4 rfl) ?_
      refine lv_bipush (v := 6) hx hb dX5_those_7 (by decide) ?_
      refine lv_icmp_ge (tgt := 71) hx hb dX5_those_9 (by decide) (fun q9 => ?_) (fun q9 => ?_)
      · have hNi : 6 = i := (xm_end (N := 6) hii (by decide) q9).symm
        subst hNi
        refine lv_iload_n hx hb dX5_those_71 rfl (lv_at hl 3 rfl) ?_
        exact W.iret (v := (fm_cntF (fun j => fm_flk ((fr_ls F n) j) ((fr_gp F n) j) (s0 4)) (fun _ => 0) 6)) hx hb hr (fun t ht hW => ⟨congrArg (fun z => Outcome.returned (some (Value.int z))) (rfl), ht⟩) hS.2.2 dX5_those_72
      · have hlti : i < 6 := xm_lt (N := 6) hii (by decide) q9
        refine lv_iload_n hx hb dX5_those_12 rfl (lv_at hl 3 rfl) ?_
        refine lv_iload_n hx hb dX5_those_13 rfl (lv_at hl 2 rfl) ?_
        refine lv_iconst (v := 4) hx hb dX5_those_14 (by decide) ?_
        refine lv_icmp_ne (tgt := 31) hx hb dX5_those_15 (by decide) (fun q9 => absurd (by decide) q9) (fun q9 => ?_)
        refine lv_aload_n hx hb dX5_those_18 rfl (lv_at hl 0 rfl) ?_
        refine lv_aload_n hx hb dX5_those_19 rfl (lv_at hl 1 rfl) ?_
        refine lv_iload hx hb dX5_those_20 (lv_at hl 4 rfl) ?_
        have hPc := hP.sub (ws' := [((mm 0), .inr (5, [.ref (mm 1), .ref (mm 2), .ref (mm 3), .ref (mm 4), .int kp, .ref (mm 5), .int ty, .int th, .int at0, .int fa, .ref (mm 6), .int ts, .ref (mm 7), .ref (mm 8), .ref (mm 9), .int (nI n)])), ((mm 8), .inl (cI, 96, .inl (fm_fl F y n))), (b, .inl (cI, 80, .inl s0))]) [0, 1, 2] rfl
        refine W.callV ((va_runV (As := [.ref b, .int (nI i)]) (rest := [.int (fm_cntF (fun j => fm_flk ((fr_ls F n) j) ((fr_gp F n) j) (s0 4)) (fun _ => 0) i)]) ⟨hx, hb, hml, hown, hts⟩ (c_X5_flickers l dC dI cI cS cJ tt mm kp ty th at0 fa ts F y n b s0 i) (cwV 2 hts gX5_those_X5_flickers rfl rfl rfl (by decide +kernel) ⟨Nat.le_of_ble_eq_true rfl, Nat.le_of_ble_eq_true rfl⟩) ⟨xm_Rblind, va_recv hK hPc (ci := 5) (q0 := 0) rfl rfl, fun U hU hW => ⟨rfl, by rw [hU]; exact hPc, hE.go hS (fun _ q => q.elim) hU hW, hpre⟩⟩ rfl rfl hl.1 rfl (lv_room (Nat.le_of_ble_eq_true rfl)) dX5_those_22 ⟨Nat.zero_le _, Nat.zero_le _⟩).run) ?_
        refine W.eq (g2 := F0 m 25 lz (.int (fm_flk (fr_ls F n i) (fr_gp F n i) (s0 4)) :: [.int (fm_cntF (fun j => fm_flk ((fr_ls F n) j) ((fr_gp F n) j) (s0 4)) (fun _ => 0) i)])) rfl ?_
        refine lv_if_eq (tgt := 62) hx hb dX5_those_25 (by decide) (fun q25 => ?_) (fun q25 => ?_)
        · refine lv_iconst (v := 0) hx hb dX5_those_62 (by decide) ?_
          refine lv_iadd hx hb dX5_those_63 ?_
          refine lv_istore_n (lv' := [(3, .int ((fm_cntF (fun j => fm_flk ((fr_ls F n) j) ((fr_gp F n) j) (s0 4)) (fun _ => 0) i) + 0)), (0, .ref (mm 0)), (1, .ref b), (2, .int 4), (4, .int (nI i))]) hx hb dX5_those_64 rfl hl (by decide) rfl (fun lz hl => ?_)
          refine lv_iinc (v := nI (i + 1)) (lv' := [(4, .int (nI (i + 1))), (3, .int ((fm_cntF (fun j => fm_flk ((fr_ls F n) j) ((fr_gp F n) j) (s0 4)) (fun _ => 0) i) + 0)), (0, .ref (mm 0)), (1, .ref b), (2, .int 4)]) hx hb dX5_those_65 hl (k := 4) rfl (nI_1 i) (by decide) rfl (fun lz hl => ?_)
          refine lv_goto (tgt := 5) hx hb dX5_those_68 (by decide) ?_
          exact ih5 (i + 1) hlti (by omega) ((fm_cntF (fun j => fm_flk ((fr_ls F n) j) ((fr_gp F n) j) (s0 4)) (fun _ => 0) i) + 0) (cntF_z (x := (fun j => fm_flk ((fr_ls F n) j) ((fr_gp F n) j) (s0 4))) q25)  lz (lv_sub hl [2, 3, 4, 1, 0] rfl)
        · refine lv_goto (tgt := 58) hx hb dX5_those_28 (by decide) ?_
          refine lv_iconst (v := 1) hx hb dX5_those_58 (by decide) ?_
          refine lv_goto (tgt := 63) hx hb dX5_those_59 (by decide) ?_
          refine lv_iadd hx hb dX5_those_63 ?_
          refine lv_istore_n (lv' := [(3, .int ((fm_cntF (fun j => fm_flk ((fr_ls F n) j) ((fr_gp F n) j) (s0 4)) (fun _ => 0) i) + 1)), (0, .ref (mm 0)), (1, .ref b), (2, .int 4), (4, .int (nI i))]) hx hb dX5_those_64 rfl hl (by decide) rfl (fun lz hl => ?_)
          refine lv_iinc (v := nI (i + 1)) (lv' := [(4, .int (nI (i + 1))), (3, .int ((fm_cntF (fun j => fm_flk ((fr_ls F n) j) ((fr_gp F n) j) (s0 4)) (fun _ => 0) i) + 1)), (0, .ref (mm 0)), (1, .ref b), (2, .int 4)]) hx hb dX5_those_65 hl (k := 4) rfl (nI_1 i) (by decide) rfl (fun lz hl => ?_)
          refine lv_goto (tgt := 5) hx hb dX5_those_68 (by decide) ?_
          exact ih5 (i + 1) hlti (by omega) ((fm_cntF (fun j => fm_flk ((fr_ls F n) j) ((fr_gp F n) j) (s0 4)) (fun _ => 0) i) + 1) (cntF_o (x := (fun j => fm_flk ((fr_ls F n) j) ((fr_gp F n) j) (s0 4))) q25)  lz (lv_sub hl [2, 3, 4, 1, 0] rfl)
  exact L5 (6 + 1) 0 (by omega) (by omega) 0 rfl  lz (lv_sub hl [2, 3, 4, 1, 0] rfl)

set_option maxHeartbeats 4000000 in
set_option maxRecDepth 100000 in
theorem c_X5_those_s (l : Launch) (dC : Nat → ClassId) (dI : Nat → Nat → Nat) (cI cS cJ : ClassId) (tt : Nat → Nat) (mm : Nat → Nat) (kp : Int32) (ty : Int32) (th : Int32) (at0 : Int32) (fa : Int32) (ts : Int32) (F : Nat → Int32) (y : Nat → Int32) (n : Nat) (b : Nat) (s0 : Nat → Int32) : Met l yX5_those wsX5_those ({ frames := 3, cells := 0, slots := 0, locals := 70 } : Room) (va_Pc [.ref (mm 0), .ref b, .int 5] (xm_R (dC, dI) cI cS cJ tt [((mm 0), .inr (5, [.ref (mm 1), .ref (mm 2), .ref (mm 3), .ref (mm 4), .int kp, .ref (mm 5), .int ty, .int th, .int at0, .int fa, .ref (mm 6), .int ts, .ref (mm 7), .ref (mm 8), .ref (mm 9), .int (nI n)])), ((mm 8), .inl (cI, 96, .inl (fm_fl F y n))), (b, .inl (cI, 80, .inl s0))] ((1 ≤ n ∧ n ≤ 96) ∧ s0 2 = nI n))) (k2_QcV (.int (fm_cntF (fun j => lk_see (fr_gp F n) (fr_ls F n) (s0 2) (s0 4) (s0 5 * s0 1) j) (fun _ => 0) 6))) 0 0 (fun _ => False) := by
  refine Met.ofW (cc := cX5_those) (maxL := 5) (ret := (some .int)) (by decide) rfl ?_
  intro p e s m args below meth c s₁ B hml hv
  obtain ⟨rfl, hP, hE, hpre⟩ := hv
  have hx := B.exec
  have hb := B.bytes
  have hr := B.returns
  have hts := atoms_spec (ws := wsX5_those) B.pre
  have hown : s.vm.findClass RX5 = some m.cls := findClass_of_methodNamed B.named
  have hlocks := B.notSynchronized
  have hK := hE.1
  have hS : va_S (fun _ => False) s.heap s.heap [] := va_S.rf
  have hP : va_P (dC, dI) vwCl [((mm 0), .inr (5, [.ref (mm 1), .ref (mm 2), .ref (mm 3), .ref (mm 4), .int kp, .ref (mm 5), .int ty, .int th, .int at0, .int fa, .ref (mm 6), .int ts, .ref (mm 7), .ref (mm 8), .ref (mm 9), .int (nI n)])), ((mm 8), .inl (cI, 96, .inl (fm_fl F y n))), (b, .inl (cI, 80, .inl s0))] s.heap := hP
  have hl := lv_entry [.ref (mm 0), .ref b, .int 5] (n := 5) (Nat.le_of_ble_eq_true rfl)
  rw [lg_entry_eq]
  generalize (lg_sl [.ref (mm 0), .ref b, .int 5] ++ List.replicate (5 - (lg_sl [.ref (mm 0), .ref b, .int 5]).length) Slot.unset).toArray = lz at hl ⊢
  have hl : lv_has lz 5 [(0, .ref (mm 0)), (1, .ref b), (2, .int 5)] := hl
  refine lv_iconst (v := 0) hx hb dX5_those_0 (by decide) ?_
  refine lv_istore_n (lv' := [(3, .int 0), (0, .ref (mm 0)), (1, .ref b), (2, .int 5)]) hx hb dX5_those_1 rfl hl (by decide) rfl (fun lz hl => ?_)
  refine lv_iconst (v := 0) hx hb dX5_those_2 (by decide) ?_
  refine lv_istore (lv' := [(4, .int 0), (3, .int 0), (0, .ref (mm 0)), (1, .ref b), (2, .int 5)]) hx hb dX5_those_3 hl (by decide) rfl (fun lz hl => ?_)
  have L5 : ∀ (zz i : Nat), i ≤ 6 → 6 + 1 ≤ i + zz → ∀ (x3 : Int32), x3 = fm_cntF (fun j => lk_see (fr_gp F n) (fr_ls F n) (s0 2) (s0 4) (s0 5 * s0 1) j) (fun _ => 0) i → ∀ (lz : Array Slot), lv_has lz 5 [(0, .ref (mm 0)), (1, .ref b), (2, .int 5), (3, .int x3), (4, .int (nI i))] → W p l e (headSpec wsX5_those ({ frames := 3, cells := 0, slots := 0, locals := 70 } : Room)).room s m ([.ref (mm 0), .ref b, .int 5] : List Value).toArray below meth c s.heap [] 0 0 (MQ below (k2_QcV (.int (fm_cntF (fun j => lk_see (fr_gp F n) (fr_ls F n) (s0 2) (s0 4) (s0 5 * s0 1) j) (fun _ => 0) 6))) ([.ref (mm 0), .ref b, .int 5] : List Value).toArray s 0 0 (fun _ => False)) (F0 m 5 lz []) := by
    intro zz
    induction zz with
    | zero => intro i hii hni; exact absurd hni (by omega)
    | succ zz ih5 =>
      intro i hii hni x3 e_x3  lz hl
      subst e_x3
      refine lv_iload hx hb dX5_those_5 (lv_at hl 4 rfl) ?_
      refine lv_bipush (v := 6) hx hb dX5_those_7 (by decide) ?_
      refine lv_icmp_ge (tgt := 71) hx hb dX5_those_9 (by decide) (fun q9 => ?_) (fun q9 => ?_)
      · have hNi : 6 = i := (xm_end (N := 6) hii (by decide) q9).symm
        subst hNi
        refine lv_iload_n hx hb dX5_those_71 rfl (lv_at hl 3 rfl) ?_
        exact W.iret (v := (fm_cntF (fun j => lk_see (fr_gp F n) (fr_ls F n) (s0 2) (s0 4) (s0 5 * s0 1) j) (fun _ => 0) 6)) hx hb hr (fun t ht hW => ⟨congrArg (fun z => Outcome.returned (some (Value.int z))) (rfl), ht⟩) hS.2.2 dX5_those_72
      · have hlti : i < 6 := xm_lt (N := 6) hii (by decide) q9
        refine lv_iload_n hx hb dX5_those_12 rfl (lv_at hl 3 rfl) ?_
        refine lv_iload_n hx hb dX5_those_13 rfl (lv_at hl 2 rfl) ?_
        refine lv_iconst (v := 4) hx hb dX5_those_14 (by decide) ?_
        refine lv_icmp_ne (tgt := 31) hx hb dX5_those_15 (by decide) (fun q9 => ?_) (fun q9 => absurd q9 (by decide))
        refine lv_iload_n hx hb dX5_those_31 rfl (lv_at hl 2 rfl) ?_
        refine lv_iconst (v := 5) hx hb dX5_those_32 (by decide) ?_
        refine lv_icmp_ne (tgt := 49) hx hb dX5_those_33 (by decide) (fun q9 => absurd (by decide) q9) (fun q9 => ?_)
        refine lv_aload_n hx hb dX5_those_36 rfl (lv_at hl 0 rfl) ?_
        refine lv_aload_n hx hb dX5_those_37 rfl (lv_at hl 1 rfl) ?_
        refine lv_iload hx hb dX5_those_38 (lv_at hl 4 rfl) ?_
        have hPc := hP.sub (ws' := [((mm 0), .inr (5, [.ref (mm 1), .ref (mm 2), .ref (mm 3), .ref (mm 4), .int kp, .ref (mm 5), .int ty, .int th, .int at0, .int fa, .ref (mm 6), .int ts, .ref (mm 7), .ref (mm 8), .ref (mm 9), .int (nI n)])), ((mm 8), .inl (cI, 96, .inl (fm_fl F y n))), (b, .inl (cI, 80, .inl s0))]) [0, 1, 2] rfl
        refine W.callV ((va_runV (As := [.ref b, .int (nI i)]) (rest := [.int (fm_cntF (fun j => lk_see (fr_gp F n) (fr_ls F n) (s0 2) (s0 4) (s0 5 * s0 1) j) (fun _ => 0) i)]) ⟨hx, hb, hml, hown, hts⟩ (c_X5_isSeen l dC dI cI cS cJ tt mm kp ty th at0 fa ts F y n b s0 i) (cwV 2 hts gX5_those_X5_isSeen rfl rfl rfl (by decide +kernel) ⟨Nat.le_of_ble_eq_true rfl, Nat.le_of_ble_eq_true rfl⟩) ⟨xm_Rblind, va_recv hK hPc (ci := 5) (q0 := 0) rfl rfl, fun U hU hW => ⟨rfl, by rw [hU]; exact hPc, hE.go hS (fun _ q => q.elim) hU hW, hpre⟩⟩ rfl rfl hl.1 rfl (lv_room (Nat.le_of_ble_eq_true rfl)) dX5_those_40 ⟨Nat.zero_le _, Nat.zero_le _⟩).run) ?_
        refine W.eq (g2 := F0 m 43 lz (.int (lk_see (fr_gp F n) (fr_ls F n) (s0 2) (s0 4) (s0 5 * s0 1) i) :: [.int (fm_cntF (fun j => lk_see (fr_gp F n) (fr_ls F n) (s0 2) (s0 4) (s0 5 * s0 1) j) (fun _ => 0) i)])) rfl ?_
        refine lv_if_eq (tgt := 62) hx hb dX5_those_43 (by decide) (fun q43 => ?_) (fun q43 => ?_)
        · refine lv_iconst (v := 0) hx hb dX5_those_62 (by decide) ?_
          refine lv_iadd hx hb dX5_those_63 ?_
          refine lv_istore_n (lv' := [(3, .int ((fm_cntF (fun j => lk_see (fr_gp F n) (fr_ls F n) (s0 2) (s0 4) (s0 5 * s0 1) j) (fun _ => 0) i) + 0)), (0, .ref (mm 0)), (1, .ref b), (2, .int 5), (4, .int (nI i))]) hx hb dX5_those_64 rfl hl (by decide) rfl (fun lz hl => ?_)
          refine lv_iinc (v := nI (i + 1)) (lv' := [(4, .int (nI (i + 1))), (3, .int ((fm_cntF (fun j => lk_see (fr_gp F n) (fr_ls F n) (s0 2) (s0 4) (s0 5 * s0 1) j) (fun _ => 0) i) + 0)), (0, .ref (mm 0)), (1, .ref b), (2, .int 5)]) hx hb dX5_those_65 hl (k := 4) rfl (nI_1 i) (by decide) rfl (fun lz hl => ?_)
          refine lv_goto (tgt := 5) hx hb dX5_those_68 (by decide) ?_
          exact ih5 (i + 1) hlti (by omega) ((fm_cntF (fun j => lk_see (fr_gp F n) (fr_ls F n) (s0 2) (s0 4) (s0 5 * s0 1) j) (fun _ => 0) i) + 0) (cntF_z (x := (fun j => lk_see (fr_gp F n) (fr_ls F n) (s0 2) (s0 4) (s0 5 * s0 1) j)) q43)  lz (lv_sub hl [2, 3, 4, 1, 0] rfl)
        · refine lv_goto (tgt := 58) hx hb dX5_those_46 (by decide) ?_
          refine lv_iconst (v := 1) hx hb dX5_those_58 (by decide) ?_
          refine lv_goto (tgt := 63) hx hb dX5_those_59 (by decide) ?_
          refine lv_iadd hx hb dX5_those_63 ?_
          refine lv_istore_n (lv' := [(3, .int ((fm_cntF (fun j => lk_see (fr_gp F n) (fr_ls F n) (s0 2) (s0 4) (s0 5 * s0 1) j) (fun _ => 0) i) + 1)), (0, .ref (mm 0)), (1, .ref b), (2, .int 5), (4, .int (nI i))]) hx hb dX5_those_64 rfl hl (by decide) rfl (fun lz hl => ?_)
          refine lv_iinc (v := nI (i + 1)) (lv' := [(4, .int (nI (i + 1))), (3, .int ((fm_cntF (fun j => lk_see (fr_gp F n) (fr_ls F n) (s0 2) (s0 4) (s0 5 * s0 1) j) (fun _ => 0) i) + 1)), (0, .ref (mm 0)), (1, .ref b), (2, .int 5)]) hx hb dX5_those_65 hl (k := 4) rfl (nI_1 i) (by decide) rfl (fun lz hl => ?_)
          refine lv_goto (tgt := 5) hx hb dX5_those_68 (by decide) ?_
          exact ih5 (i + 1) hlti (by omega) ((fm_cntF (fun j => lk_see (fr_gp F n) (fr_ls F n) (s0 2) (s0 4) (s0 5 * s0 1) j) (fun _ => 0) i) + 1) (cntF_o (x := (fun j => lk_see (fr_gp F n) (fr_ls F n) (s0 2) (s0 4) (s0 5 * s0 1) j)) q43)  lz (lv_sub hl [2, 3, 4, 1, 0] rfl)
  exact L5 (6 + 1) 0 (by omega) (by omega) 0 rfl  lz (lv_sub hl [2, 3, 4, 1, 0] rfl)

set_option maxHeartbeats 4000000 in
set_option maxRecDepth 100000 in
theorem c_X5_those_c (l : Launch) (dC : Nat → ClassId) (dI : Nat → Nat → Nat) (cI cS cJ : ClassId) (tt : Nat → Nat) (mm : Nat → Nat) (kp : Int32) (ty : Int32) (th : Int32) (at0 : Int32) (fa : Int32) (ts : Int32) (F : Nat → Int32) (y : Nat → Int32) (n : Nat) (v : Nat → Int32) : Met l yX5_those wsX5_those ({ frames := 4, cells := 0, slots := 0, locals := 92 } : Room) (va_Pc [.ref (mm 0), .ref (mm 2), .int 6] (xm_R (dC, dI) cI cS cJ tt [((mm 0), .inr (5, [.ref (mm 1), .ref (mm 2), .ref (mm 3), .ref (mm 4), .int kp, .ref (mm 5), .int ty, .int th, .int at0, .int fa, .ref (mm 6), .int ts, .ref (mm 7), .ref (mm 8), .ref (mm 9), .int (nI n)])), ((mm 1), .inl (cI, 12, .inl xm_mk)), ((mm 2), .inl (cI, 80, .inl v)), ((mm 8), .inl (cI, 96, .inl (fm_fl F y n)))] ((∀ j, j < 6 → fm_ix (v (8 + j)) 12) ∧ (1 ≤ n ∧ n ≤ 96) ∧ v 2 = nI n))) (k2_QcV (.int (fm_cntF (fun j => lk_clr (fr_gp F n) (fr_ls F n) (v 2) (v 4) (v 5 * v 1) v j) (fun _ => 0) 6))) 0 0 (fun _ => False) := by
  refine Met.ofW (cc := cX5_those) (maxL := 5) (ret := (some .int)) (by decide) rfl ?_
  intro p e s m args below meth c s₁ B hml hv
  obtain ⟨rfl, hP, hE, hpre⟩ := hv
  have hx := B.exec
  have hb := B.bytes
  have hr := B.returns
  have hts := atoms_spec (ws := wsX5_those) B.pre
  have hown : s.vm.findClass RX5 = some m.cls := findClass_of_methodNamed B.named
  have hlocks := B.notSynchronized
  have hK := hE.1
  have hS : va_S (fun _ => False) s.heap s.heap [] := va_S.rf
  have hP : va_P (dC, dI) vwCl [((mm 0), .inr (5, [.ref (mm 1), .ref (mm 2), .ref (mm 3), .ref (mm 4), .int kp, .ref (mm 5), .int ty, .int th, .int at0, .int fa, .ref (mm 6), .int ts, .ref (mm 7), .ref (mm 8), .ref (mm 9), .int (nI n)])), ((mm 1), .inl (cI, 12, .inl xm_mk)), ((mm 2), .inl (cI, 80, .inl v)), ((mm 8), .inl (cI, 96, .inl (fm_fl F y n)))] s.heap := hP
  have hl := lv_entry [.ref (mm 0), .ref (mm 2), .int 6] (n := 5) (Nat.le_of_ble_eq_true rfl)
  rw [lg_entry_eq]
  generalize (lg_sl [.ref (mm 0), .ref (mm 2), .int 6] ++ List.replicate (5 - (lg_sl [.ref (mm 0), .ref (mm 2), .int 6]).length) Slot.unset).toArray = lz at hl ⊢
  have hl : lv_has lz 5 [(0, .ref (mm 0)), (1, .ref (mm 2)), (2, .int 6)] := hl
  refine lv_iconst (v := 0) hx hb dX5_those_0 (by decide) ?_
  refine lv_istore_n (lv' := [(3, .int 0), (0, .ref (mm 0)), (1, .ref (mm 2)), (2, .int 6)]) hx hb dX5_those_1 rfl hl (by decide) rfl (fun lz hl => ?_)
  refine lv_iconst (v := 0) hx hb dX5_those_2 (by decide) ?_
  refine lv_istore (lv' := [(4, .int 0), (3, .int 0), (0, .ref (mm 0)), (1, .ref (mm 2)), (2, .int 6)]) hx hb dX5_those_3 hl (by decide) rfl (fun lz hl => ?_)
  have L5 : ∀ (zz i : Nat), i ≤ 6 → 6 + 1 ≤ i + zz → ∀ (x3 : Int32), x3 = fm_cntF (fun j => lk_clr (fr_gp F n) (fr_ls F n) (v 2) (v 4) (v 5 * v 1) v j) (fun _ => 0) i → ∀ (lz : Array Slot), lv_has lz 5 [(0, .ref (mm 0)), (1, .ref (mm 2)), (2, .int 6), (3, .int x3), (4, .int (nI i))] → W p l e (headSpec wsX5_those ({ frames := 4, cells := 0, slots := 0, locals := 92 } : Room)).room s m ([.ref (mm 0), .ref (mm 2), .int 6] : List Value).toArray below meth c s.heap [] 0 0 (MQ below (k2_QcV (.int (fm_cntF (fun j => lk_clr (fr_gp F n) (fr_ls F n) (v 2) (v 4) (v 5 * v 1) v j) (fun _ => 0) 6))) ([.ref (mm 0), .ref (mm 2), .int 6] : List Value).toArray s 0 0 (fun _ => False)) (F0 m 5 lz []) := by
    intro zz
    induction zz with
    | zero => intro i hii hni; exact absurd hni (by omega)
    | succ zz ih5 =>
      intro i hii hni x3 e_x3  lz hl
      subst e_x3
      refine lv_iload hx hb dX5_those_5 (lv_at hl 4 rfl) ?_
      refine lv_bipush (v := 6) hx hb dX5_those_7 (by decide) ?_
      refine lv_icmp_ge (tgt := 71) hx hb dX5_those_9 (by decide) (fun q9 => ?_) (fun q9 => ?_)
      · have hNi : 6 = i := (xm_end (N := 6) hii (by decide) q9).symm
        subst hNi
        refine lv_iload_n hx hb dX5_those_71 rfl (lv_at hl 3 rfl) ?_
        exact W.iret (v := (fm_cntF (fun j => lk_clr (fr_gp F n) (fr_ls F n) (v 2) (v 4) (v 5 * v 1) v j) (fun _ => 0) 6)) hx hb hr (fun t ht hW => ⟨congrArg (fun z => Outcome.returned (some (Value.int z))) (rfl), ht⟩) hS.2.2 dX5_those_72
      · have hlti : i < 6 := xm_lt (N := 6) hii (by decide) q9
        refine lv_iload_n hx hb dX5_those_12 rfl (lv_at hl 3 rfl) ?_
        refine lv_iload_n hx hb dX5_those_13 rfl (lv_at hl 2 rfl) ?_
        refine lv_iconst (v := 4) hx hb dX5_those_14 (by decide) ?_
        refine lv_icmp_ne (tgt := 31) hx hb dX5_those_15 (by decide) (fun q9 => ?_) (fun q9 => absurd q9 (by decide))
        refine lv_iload_n hx hb dX5_those_31 rfl (lv_at hl 2 rfl) ?_
        refine lv_iconst (v := 5) hx hb dX5_those_32 (by decide) ?_
        refine lv_icmp_ne (tgt := 49) hx hb dX5_those_33 (by decide) (fun q9 => ?_) (fun q9 => absurd q9 (by decide))
        refine lv_aload_n hx hb dX5_those_49 rfl (lv_at hl 0 rfl) ?_
        refine lv_iload hx hb dX5_those_50 (lv_at hl 4 rfl) ?_
        have hPc := hP.sub (ws' := [((mm 0), .inr (5, [.ref (mm 1), .ref (mm 2), .ref (mm 3), .ref (mm 4), .int kp, .ref (mm 5), .int ty, .int th, .int at0, .int fa, .ref (mm 6), .int ts, .ref (mm 7), .ref (mm 8), .ref (mm 9), .int (nI n)])), ((mm 1), .inl (cI, 12, .inl xm_mk)), ((mm 2), .inl (cI, 80, .inl v)), ((mm 8), .inl (cI, 96, .inl (fm_fl F y n)))]) [0, 1, 2, 3] rfl
        refine W.callV ((va_runV (As := [.int (nI i)]) (rest := [.int (fm_cntF (fun j => lk_clr (fr_gp F n) (fr_ls F n) (v 2) (v 4) (v 5 * v 1) v j) (fun _ => 0) i)]) ⟨hx, hb, hml, hown, hts⟩ (c_X5_isClear l dC dI cI cS cJ tt mm kp ty th at0 fa ts F y n v i) (cwV 1 hts gX5_those_X5_isClear rfl rfl rfl (by decide +kernel) ⟨Nat.le_of_ble_eq_true rfl, Nat.le_of_ble_eq_true rfl⟩) ⟨xm_Rblind, va_recv hK hPc (ci := 5) (q0 := 0) rfl rfl, fun U hU hW => ⟨rfl, by rw [hU]; exact hPc, hE.go hS (fun _ q => q.elim) hU hW, ⟨⟨hlti, hpre.1 i hlti⟩, hpre.2⟩⟩⟩ rfl rfl hl.1 rfl (lv_room (Nat.le_of_ble_eq_true rfl)) dX5_those_52 ⟨Nat.zero_le _, Nat.zero_le _⟩).run) ?_
        refine W.eq (g2 := F0 m 55 lz (.int (lk_clr (fr_gp F n) (fr_ls F n) (v 2) (v 4) (v 5 * v 1) v i) :: [.int (fm_cntF (fun j => lk_clr (fr_gp F n) (fr_ls F n) (v 2) (v 4) (v 5 * v 1) v j) (fun _ => 0) i)])) rfl ?_
        refine lv_if_eq (tgt := 62) hx hb dX5_those_55 (by decide) (fun q55 => ?_) (fun q55 => ?_)
        · refine lv_iconst (v := 0) hx hb dX5_those_62 (by decide) ?_
          refine lv_iadd hx hb dX5_those_63 ?_
          refine lv_istore_n (lv' := [(3, .int ((fm_cntF (fun j => lk_clr (fr_gp F n) (fr_ls F n) (v 2) (v 4) (v 5 * v 1) v j) (fun _ => 0) i) + 0)), (0, .ref (mm 0)), (1, .ref (mm 2)), (2, .int 6), (4, .int (nI i))]) hx hb dX5_those_64 rfl hl (by decide) rfl (fun lz hl => ?_)
          refine lv_iinc (v := nI (i + 1)) (lv' := [(4, .int (nI (i + 1))), (3, .int ((fm_cntF (fun j => lk_clr (fr_gp F n) (fr_ls F n) (v 2) (v 4) (v 5 * v 1) v j) (fun _ => 0) i) + 0)), (0, .ref (mm 0)), (1, .ref (mm 2)), (2, .int 6)]) hx hb dX5_those_65 hl (k := 4) rfl (nI_1 i) (by decide) rfl (fun lz hl => ?_)
          refine lv_goto (tgt := 5) hx hb dX5_those_68 (by decide) ?_
          exact ih5 (i + 1) hlti (by omega) ((fm_cntF (fun j => lk_clr (fr_gp F n) (fr_ls F n) (v 2) (v 4) (v 5 * v 1) v j) (fun _ => 0) i) + 0) (cntF_z (x := (fun j => lk_clr (fr_gp F n) (fr_ls F n) (v 2) (v 4) (v 5 * v 1) v j)) q55)  lz (lv_sub hl [2, 3, 4, 1, 0] rfl)
        · refine lv_iconst (v := 1) hx hb dX5_those_58 (by decide) ?_
          refine lv_goto (tgt := 63) hx hb dX5_those_59 (by decide) ?_
          refine lv_iadd hx hb dX5_those_63 ?_
          refine lv_istore_n (lv' := [(3, .int ((fm_cntF (fun j => lk_clr (fr_gp F n) (fr_ls F n) (v 2) (v 4) (v 5 * v 1) v j) (fun _ => 0) i) + 1)), (0, .ref (mm 0)), (1, .ref (mm 2)), (2, .int 6), (4, .int (nI i))]) hx hb dX5_those_64 rfl hl (by decide) rfl (fun lz hl => ?_)
          refine lv_iinc (v := nI (i + 1)) (lv' := [(4, .int (nI (i + 1))), (3, .int ((fm_cntF (fun j => lk_clr (fr_gp F n) (fr_ls F n) (v 2) (v 4) (v 5 * v 1) v j) (fun _ => 0) i) + 1)), (0, .ref (mm 0)), (1, .ref (mm 2)), (2, .int 6)]) hx hb dX5_those_65 hl (k := 4) rfl (nI_1 i) (by decide) rfl (fun lz hl => ?_)
          refine lv_goto (tgt := 5) hx hb dX5_those_68 (by decide) ?_
          exact ih5 (i + 1) hlti (by omega) ((fm_cntF (fun j => lk_clr (fr_gp F n) (fr_ls F n) (v 2) (v 4) (v 5 * v 1) v j) (fun _ => 0) i) + 1) (cntF_o (x := (fun j => lk_clr (fr_gp F n) (fr_ls F n) (v 2) (v 4) (v 5 * v 1) v j)) q55)  lz (lv_sub hl [2, 3, 4, 1, 0] rfl)
  exact L5 (6 + 1) 0 (by omega) (by omega) 0 rfl  lz (lv_sub hl [2, 3, 4, 1, 0] rfl)

set_option maxHeartbeats 4000000 in
set_option maxRecDepth 100000 in
theorem c_X5_burnt (l : Launch) (dC : Nat → ClassId) (dI : Nat → Nat → Nat) (cI cS cJ : ClassId) (tt : Nat → Nat) (mm : Nat → Nat) (kp : Int32) (ty : Int32) (th : Int32) (at0 : Int32) (fa : Int32) (ts : Int32) (fr : Int32) (v : Nat → Int32) : Met l yX5_burnt wsX5_burnt ({ frames := 1, cells := 0, slots := 0, locals := 22 } : Room) (va_Pc [.ref (mm 0)] (xm_R (dC, dI) cI cS cJ tt [((mm 0), .inr (5, [.ref (mm 1), .ref (mm 2), .ref (mm 3), .ref (mm 4), .int kp, .ref (mm 5), .int ty, .int th, .int at0, .int fa, .ref (mm 6), .int ts, .ref (mm 7), .ref (mm 8), .ref (mm 9), .int fr])), ((mm 2), .inl (cI, 80, .inl v))] (∀ j, j < 6 → ∃ y, y < 128 ∧ v (20 + j) = nI y))) (k2_QcV (.int (fm_sum (fun j => fm_bc (v (20 + j))) 6))) 0 0 (fun _ => False) := by
  refine Met.ofW (cc := cX5_burnt) (maxL := 3) (ret := (some .int)) (by decide) rfl ?_
  intro p e s m args below meth c s₁ B hml hv
  obtain ⟨rfl, hP, hE, hpre⟩ := hv
  have hx := B.exec
  have hb := B.bytes
  have hr := B.returns
  have hts := atoms_spec (ws := wsX5_burnt) B.pre
  have hown : s.vm.findClass RX5 = some m.cls := findClass_of_methodNamed B.named
  have hlocks := B.notSynchronized
  have hK := hE.1
  have hS : va_S (fun _ => False) s.heap s.heap [] := va_S.rf
  have hP : va_P (dC, dI) vwCl [((mm 0), .inr (5, [.ref (mm 1), .ref (mm 2), .ref (mm 3), .ref (mm 4), .int kp, .ref (mm 5), .int ty, .int th, .int at0, .int fa, .ref (mm 6), .int ts, .ref (mm 7), .ref (mm 8), .ref (mm 9), .int fr])), ((mm 2), .inl (cI, 80, .inl v))] s.heap := hP
  have hin5 : ∀ w ∈ u_ws RX5 TX5 16, w ∈ wsX5_burnt := by decide +kernel
  have hl := lv_entry [.ref (mm 0)] (n := 3) (Nat.le_of_ble_eq_true rfl)
  rw [lg_entry_eq]
  generalize (lg_sl [.ref (mm 0)] ++ List.replicate (3 - (lg_sl [.ref (mm 0)]).length) Slot.unset).toArray = lz at hl ⊢
  have hl : lv_has lz 3 [(0, .ref (mm 0))] := hl
  refine lv_iconst (v := 0) hx hb dX5_burnt_0 (by decide) ?_
  refine lv_istore_n (lv' := [(1, .int 0), (0, .ref (mm 0))]) hx hb dX5_burnt_1 rfl hl (by decide) rfl (fun lz hl => ?_)
  refine lv_iconst (v := 0) hx hb dX5_burnt_2 (by decide) ?_
  refine lv_istore_n (lv' := [(2, .int 0), (1, .int 0), (0, .ref (mm 0))]) hx hb dX5_burnt_3 rfl hl (by decide) rfl (fun lz hl => ?_)
  have L4 : ∀ (zz i : Nat), i ≤ 6 → 6 + 1 ≤ i + zz → ∀ (x1 : Int32), x1 = fm_sum (fun j => fm_bc (v (20 + j))) i → ∀ (lz : Array Slot), lv_has lz 3 [(0, .ref (mm 0)), (1, .int x1), (2, .int (nI i))] → W p l e (headSpec wsX5_burnt ({ frames := 1, cells := 0, slots := 0, locals := 22 } : Room)).room s m ([.ref (mm 0)] : List Value).toArray below meth c s.heap [] 0 0 (MQ below (k2_QcV (.int (fm_sum (fun j => fm_bc (v (20 + j))) 6))) ([.ref (mm 0)] : List Value).toArray s 0 0 (fun _ => False)) (F0 m 4 lz []) := by
    intro zz
    induction zz with
    | zero => intro i hii hni; exact absurd hni (by omega)
    | succ zz ih4 =>
      intro i hii hni x1 e_x1  lz hl
      subst e_x1
      refine lv_iload_n hx hb dX5_burnt_4 rfl (lv_at hl 2 rfl) ?_
      refine lv_bipush (v := 6) hx hb dX5_burnt_5 (by decide) ?_
      refine lv_icmp_ge (tgt := 31) hx hb dX5_burnt_7 (by decide) (fun q7 => ?_) (fun q7 => ?_)
      · have hNi : 6 = i := (xm_end (N := 6) hii (by decide) q7).symm
        subst hNi
        refine lv_iload_n hx hb dX5_burnt_31 rfl (lv_at hl 1 rfl) ?_
        exact W.iret (v := (fm_sum (fun j => fm_bc (v (20 + j))) 6)) hx hb hr (fun t ht hW => ⟨congrArg (fun z => Outcome.returned (some (Value.int z))) (rfl), ht⟩) hS.2.2 dX5_burnt_32
      · have hlti : i < 6 := xm_lt (N := 6) hii (by decide) q7
        refine lv_iload_n hx hb dX5_burnt_10 rfl (lv_at hl 1 rfl) ?_
        refine lv_aload_n hx hb dX5_burnt_11 rfl (lv_at hl 0 rfl) ?_
        refine va_get (D := (dC, dI)) (ci := 5) (v := .ref (mm 2)) (C := RX5) (T := TX5) (N := 16) hx hb hts hin5 hown hK hP 0 rfl rfl 1 (by decide) (hts (.fieldLink RX5 13 "TurnDigitsModel" "now" "[I") (by decide +kernel)) (fun _ h9 => h9) rfl dX5_burnt_12 ?_
        refine lv_bipush (v := 20) hx hb dX5_burnt_15 (by decide) ?_
        refine lv_iload_n hx hb dX5_burnt_17 rfl (lv_at hl 2 rfl) ?_
        refine lv_iadd hx hb dX5_burnt_18 ?_
        refine xm_topi (y := nI (20 + i)) (nI_add 20 i) ?_
        refine xm_iald (D := (dC, dI)) hx hb hK hP 1 0 (20 + i) (v := v (20 + i)) rfl rfl (by decide) rfl (by omega) rfl dX5_burnt_19 ?_
        have hPc := hP.sub (ws' := []) [] rfl
        refine W.callV ((va_runS (As := [.int (v (20 + i))]) (rest := [.int (fm_sum (fun j => fm_bc (v (20 + j))) i)]) ⟨hx, hb, hml, hown, hts⟩ (c_X5_ones l dC dI cI cS cJ tt (v (20 + i))) (va_cwS 1 hts gX5_burnt_X5_ones rfl rfl rfl (by decide +kernel) ⟨Nat.le_of_ble_eq_true rfl, Nat.le_of_ble_eq_true rfl⟩) ⟨xm_Rblind, fun U hU hW => ⟨rfl, by rw [hU]; exact hPc, hE.go hS (fun _ q => q.elim) hU hW, (hpre i hlti)⟩⟩ rfl rfl hl.1 rfl (lv_room (Nat.le_of_ble_eq_true rfl)) dX5_burnt_20 ⟨Nat.zero_le _, Nat.zero_le _⟩).run) ?_
        refine W.eq (g2 := F0 m 23 lz (.int (fm_bc (v (20 + i))) :: [.int (fm_sum (fun j => fm_bc (v (20 + j))) i)])) rfl ?_
        refine lv_iadd hx hb dX5_burnt_23 ?_
        refine lv_istore_n (lv' := [(1, .int ((fm_sum (fun j => fm_bc (v (20 + j))) i) + (fm_bc (v (20 + i))))), (0, .ref (mm 0)), (2, .int (nI i))]) hx hb dX5_burnt_24 rfl hl (by decide) rfl (fun lz hl => ?_)
        refine lv_iinc (v := nI (i + 1)) (lv' := [(2, .int (nI (i + 1))), (1, .int ((fm_sum (fun j => fm_bc (v (20 + j))) i) + (fm_bc (v (20 + i))))), (0, .ref (mm 0))]) hx hb dX5_burnt_25 hl (k := 2) rfl (nI_1 i) (by decide) rfl (fun lz hl => ?_)
        refine lv_goto (tgt := 4) hx hb dX5_burnt_28 (by decide) ?_
        exact ih4 (i + 1) hlti (by omega) ((fm_sum (fun j => fm_bc (v (20 + j))) i) + (fm_bc (v (20 + i)))) rfl  lz (lv_sub hl [2, 1, 0] rfl)
  exact L4 (6 + 1) 0 (by omega) (by omega) 0 rfl  lz (lv_sub hl [2, 1, 0] rfl)

set_option maxHeartbeats 4000000 in
set_option maxRecDepth 100000 in
theorem c_X5_counted (l : Launch) (dC : Nat → ClassId) (dI : Nat → Nat → Nat) (cI cS cJ : ClassId) (tt : Nat → Nat) (sz : Nat) (mm : Nat → Nat) (kp : Int32) (ty : Int32) (th : Int32) (at0 : Int32) (fa : Int32) (ts : Int32) (fr : Int32) (v : Nat → Int32) (ow : Nat → Int32) (li : Nat → Int32) (cr : Nat → Int32) (n : Nat) (w0 : Nat) : Met l yX5_counted wsX5_counted ({ frames := 5, cells := 0, slots := 0, locals := 116 } : Room) (va_Pc [.ref (mm 0), .int (nI w0)] (xm_M (dC, dI) cI cS cJ tt [((mm 0), .inr (5, [.ref (mm 1), .ref (mm 2), .ref (mm 3), .ref (mm 4), .int kp, .ref (mm 5), .int ty, .int th, .int at0, .int fa, .ref (mm 6), .int ts, .ref (mm 7), .ref (mm 8), .ref (mm 9), .int fr])), ((mm 1), .inl (cI, 12, .inl xm_mk)), ((mm 2), .inl (cI, 80, .inl v)), ((mm 7), .inl (cI, 96, .inl ow)), ((mm 8), .inl (cI, 96, .inl li)), ((mm 9), .inl (cI, 6, .inl cr))] sz ((vo_f v n ∧ (∀ j, j < 6 → fm_ix (v (8 + j)) 12) ∧ (∀ j, j < 6 → ∃ y, y < 128 ∧ v (20 + j) = nI y)) ∧ w0 ≤ 10))) (va_Qi (fun (r : Int32) (u : Int32 × (Nat → Int32) × (Nat → Int32) × (Nat → Int32)) => r = lk_ct v n kp w0) (xm_B (dC, dI) (fun (u : Int32 × (Nat → Int32) × (Nat → Int32) × (Nat → Int32)) => [((mm 0), .inr (5, [.ref (mm 1), .ref (mm 2), .ref (mm 3), .ref (mm 4), .int kp, .ref (mm 5), .int ty, .int th, .int at0, .int fa, .ref (mm 6), .int ts, .ref (mm 7), .ref (mm 8), .ref (mm 9), .int u.1])), ((mm 1), .inl (cI, 12, .inl xm_mk)), ((mm 2), .inl (cI, 80, .inl v)), ((mm 7), .inl (cI, 96, .inl u.2.1)), ((mm 8), .inl (cI, 96, .inl u.2.2.1)), ((mm 9), .inl (cI, 6, .inl u.2.2.2))]) (va_A [((mm 0), .inr (5, [.ref (mm 1), .ref (mm 2), .ref (mm 3), .ref (mm 4), .int kp, .ref (mm 5), .int ty, .int th, .int at0, .int fa, .ref (mm 6), .int ts, .ref (mm 7), .ref (mm 8), .ref (mm 9), .int fr])), ((mm 1), .inl (cI, 12, .inl xm_mk)), ((mm 2), .inl (cI, 80, .inl v)), ((mm 7), .inl (cI, 96, .inl ow)), ((mm 8), .inl (cI, 96, .inl li)), ((mm 9), .inl (cI, 6, .inl cr))] sz)) (va_A [((mm 0), .inr (5, [.ref (mm 1), .ref (mm 2), .ref (mm 3), .ref (mm 4), .int kp, .ref (mm 5), .int ty, .int th, .int at0, .int fa, .ref (mm 6), .int ts, .ref (mm 7), .ref (mm 8), .ref (mm 9), .int fr])), ((mm 1), .inl (cI, 12, .inl xm_mk)), ((mm 2), .inl (cI, 80, .inl v)), ((mm 7), .inl (cI, 96, .inl ow)), ((mm 8), .inl (cI, 96, .inl li)), ((mm 9), .inl (cI, 6, .inl cr))] sz)) 0 0 (va_A [((mm 0), .inr (5, [.ref (mm 1), .ref (mm 2), .ref (mm 3), .ref (mm 4), .int kp, .ref (mm 5), .int ty, .int th, .int at0, .int fa, .ref (mm 6), .int ts, .ref (mm 7), .ref (mm 8), .ref (mm 9), .int fr])), ((mm 1), .inl (cI, 12, .inl xm_mk)), ((mm 2), .inl (cI, 80, .inl v)), ((mm 7), .inl (cI, 96, .inl ow)), ((mm 8), .inl (cI, 96, .inl li)), ((mm 9), .inl (cI, 6, .inl cr))] sz) := by
  refine Met.ofW (cc := cX5_counted) (maxL := 2) (ret := (some .int)) (by decide) rfl ?_
  intro p e s m args below meth c s₁ B hml hv
  obtain ⟨rfl, hsz, hP, hE, hD0, hpre⟩ := hv
  have hx := B.exec
  have hb := B.bytes
  have hr := B.returns
  have hts := atoms_spec (ws := wsX5_counted) B.pre
  have hown : s.vm.findClass RX5 = some m.cls := findClass_of_methodNamed B.named
  have hlocks := B.notSynchronized
  have hK := hE.1
  subst hsz
  have hD := hD0.self (sz := s.heap.size)
  generalize hAe : va_A [((mm 0), .inr (5, [.ref (mm 1), .ref (mm 2), .ref (mm 3), .ref (mm 4), .int kp, .ref (mm 5), .int ty, .int th, .int at0, .int fa, .ref (mm 6), .int ts, .ref (mm 7), .ref (mm 8), .ref (mm 9), .int fr])), ((mm 1), .inl (cI, 12, .inl xm_mk)), ((mm 2), .inl (cI, 80, .inl v)), ((mm 7), .inl (cI, 96, .inl ow)), ((mm 8), .inl (cI, 96, .inl li)), ((mm 9), .inl (cI, 6, .inl cr))] s.heap.size = A at hD hE ⊢
  have hA : ∀ q : Nat, s.heap.size ≤ q → A q := fun q h => by rw [← hAe]; exact Or.inr h
  have hS : va_S A s.heap s.heap [] := va_S.rf
  have hP : va_P (dC, dI) vwCl [((mm 0), .inr (5, [.ref (mm 1), .ref (mm 2), .ref (mm 3), .ref (mm 4), .int kp, .ref (mm 5), .int ty, .int th, .int at0, .int fa, .ref (mm 6), .int ts, .ref (mm 7), .ref (mm 8), .ref (mm 9), .int fr])), ((mm 1), .inl (cI, 12, .inl xm_mk)), ((mm 2), .inl (cI, 80, .inl v)), ((mm 7), .inl (cI, 96, .inl ow)), ((mm 8), .inl (cI, 96, .inl li)), ((mm 9), .inl (cI, 6, .inl cr))] s.heap := hP
  have hin5 : ∀ w ∈ u_ws RX5 TX5 16, w ∈ wsX5_counted := by decide +kernel
  have hl := lv_entry [.ref (mm 0), .int (nI w0)] (n := 2) (Nat.le_of_ble_eq_true rfl)
  rw [lg_entry_eq]
  generalize (lg_sl [.ref (mm 0), .int (nI w0)] ++ List.replicate (2 - (lg_sl [.ref (mm 0), .int (nI w0)]).length) Slot.unset).toArray = lz at hl ⊢
  have hl : lv_has lz 2 [(0, .ref (mm 0)), (1, .int (nI w0))] := hl
  obtain ⟨⟨hvo, hok, hbu⟩, hw10⟩ := hpre
  refine lv_aload_n hx hb dX5_counted_0 rfl (lv_at hl 0 rfl) ?_
  refine lv_aload_n hx hb dX5_counted_1 rfl (lv_at hl 0 rfl) ?_
  refine va_get (D := (dC, dI)) (ci := 5) (v := .ref (mm 2)) (C := RX5) (T := TX5) (N := 16) hx hb hts hin5 hown hK hP 0 rfl rfl 1 (by decide) (hts (.fieldLink RX5 13 "TurnDigitsModel" "now" "[I") (by decide +kernel)) (fun _ h9 => h9) rfl dX5_counted_2 ?_
  have hPc := hP.sub (ws' := [((mm 0), .inr (5, [.ref (mm 1), .ref (mm 2), .ref (mm 3), .ref (mm 4), .int kp, .ref (mm 5), .int ty, .int th, .int at0, .int fa, .ref (mm 6), .int ts, .ref (mm 7), .ref (mm 8), .ref (mm 9), .int fr])), ((mm 7), .inl (cI, 96, .inl ow)), ((mm 8), .inl (cI, 96, .inl li)), ((mm 9), .inl (cI, 6, .inl cr)), ((mm 2), .inl (cI, 80, .inl v))]) [0, 3, 4, 5, 2] rfl
  have hDc := hD.sub (ws' := [((mm 0), .inr (5, [.ref (mm 1), .ref (mm 2), .ref (mm 3), .ref (mm 4), .int kp, .ref (mm 5), .int ty, .int th, .int at0, .int fa, .ref (mm 6), .int ts, .ref (mm 7), .ref (mm 8), .ref (mm 9), .int fr])), ((mm 7), .inl (cI, 96, .inl ow)), ((mm 8), .inl (cI, 96, .inl li)), ((mm 9), .inl (cI, 6, .inl cr)), ((mm 2), .inl (cI, 80, .inl v))]) [0, 3, 4, 5, 2] (by decide) rfl
  have hFc := va_free (wc := [((mm 0), .inr (5, [.ref (mm 1), .ref (mm 2), .ref (mm 3), .ref (mm 4), .int kp, .ref (mm 5), .int ty, .int th, .int at0, .int fa, .ref (mm 6), .int ts, .ref (mm 7), .ref (mm 8), .ref (mm 9), .int fr])), ((mm 7), .inl (cI, 96, .inl ow)), ((mm 8), .inl (cI, 96, .inl li)), ((mm 9), .inl (cI, 6, .inl cr)), ((mm 2), .inl (cI, 80, .inl v))]) hD hS hA [0, 3, 4, 5, 2] rfl
  refine va_callv (va_runV (As := [.ref (mm 2)]) (rest := []) ⟨hx, hb, hml, hown, hts⟩ (c_X5_frames l dC dI cI cS cJ tt s.heap.size mm kp ty th at0 fa ts fr (mm 2) v ow li cr n) (cwV 1 hts gX5_counted_X5_frames rfl rfl rfl (by decide +kernel) ⟨Nat.le_of_ble_eq_true rfl, Nat.le_of_ble_eq_true rfl⟩) ⟨xm_Mblind, va_recv hK hPc (ci := 5) (q0 := 0) rfl rfl, fun U hU hW => ⟨rfl, by rw [hU], by rw [hU]; exact hPc, hE.go hS hFc hU hW, hDc.weaken (fun _ _ _ _ => trivial), hvo⟩⟩ rfl rfl hl.1 rfl (lv_room (Nat.le_of_ble_eq_true rfl)) dX5_counted_5 ⟨Nat.zero_le _, Nat.zero_le _⟩) hS (fun q _ h => hFc q h) hFc (fun u t H1 locs ht hvm hw hB hz1 hk1 hS => ?_)
  obtain ⟨u_1, u_2, u_3, u_4⟩ := u
  obtain ⟨hP1, hD1⟩ := hB
  rw [ht] at hP1
  obtain ⟨hw_5, hw_6, hw_7⟩ := hw
  have hw_5 : u_1 = nI n := hw_5
  subst hw_5
  have hw_6 : u_2 = fm_fl (fs_ow v) ow n := hw_6
  subst hw_6
  have hw_7 : u_3 = fm_fl (fs_li v) li n := hw_7
  subst hw_7
  obtain ⟨hP, hD⟩ := va_join (wr := [((mm 1), .inl (cI, 12, .inl xm_mk))]) (w1 := [((mm 0), .inr (5, [.ref (mm 1), .ref (mm 2), .ref (mm 3), .ref (mm 4), .int kp, .ref (mm 5), .int ty, .int th, .int at0, .int fa, .ref (mm 6), .int ts, .ref (mm 7), .ref (mm 8), .ref (mm 9), .int (nI n)])), ((mm 7), .inl (cI, 96, .inl (fm_fl (fs_ow v) ow n))), ((mm 8), .inl (cI, 96, .inl (fm_fl (fs_li v) li n))), ((mm 9), .inl (cI, 6, .inl u_4)), ((mm 2), .inl (cI, 80, .inl v))]) hP hD [0, 3, 4, 5, 2] [1] rfl rfl (by decide) (by decide) hk1 hFc hP1 hD1
  generalize H1 = H at hP hS ⊢
  have hP : va_P (dC, dI) vwCl [((mm 1), .inl (cI, 12, .inl xm_mk)), ((mm 0), .inr (5, [.ref (mm 1), .ref (mm 2), .ref (mm 3), .ref (mm 4), .int kp, .ref (mm 5), .int ty, .int th, .int at0, .int fa, .ref (mm 6), .int ts, .ref (mm 7), .ref (mm 8), .ref (mm 9), .int (nI n)])), ((mm 7), .inl (cI, 96, .inl (fm_fl (fs_ow v) ow n))), ((mm 8), .inl (cI, 96, .inl (fm_fl (fs_li v) li n))), ((mm 9), .inl (cI, 6, .inl u_4)), ((mm 2), .inl (cI, 80, .inl v))] H := hP
  have hD : va_D A [((mm 1), .inl (cI, 12, .inl xm_mk)), ((mm 0), .inr (5, [.ref (mm 1), .ref (mm 2), .ref (mm 3), .ref (mm 4), .int kp, .ref (mm 5), .int ty, .int th, .int at0, .int fa, .ref (mm 6), .int ts, .ref (mm 7), .ref (mm 8), .ref (mm 9), .int (nI n)])), ((mm 7), .inl (cI, 96, .inl (fm_fl (fs_ow v) ow n))), ((mm 8), .inl (cI, 96, .inl (fm_fl (fs_li v) li n))), ((mm 9), .inl (cI, 6, .inl u_4)), ((mm 2), .inl (cI, 80, .inl v))] := hD
  rcases (show w0 = 0 ∨ w0 = 1 ∨ w0 = 2 ∨ w0 = 3 ∨ w0 = 4 ∨ w0 = 5 ∨ w0 = 6 ∨ w0 = 7 ∨ w0 = 8 ∨ w0 = 9 ∨ w0 = 10 from (by omega)) with rfl | rfl | rfl | rfl | rfl | rfl | rfl | rfl | rfl | rfl | rfl
  · refine lv_iload_n hx hb dX5_counted_8 rfl (lv_at hl 1 rfl) ?_
    refine lv_iconst (v := 4) hx hb dX5_counted_9 (by decide) ?_
    refine lv_icmp_ge (tgt := 56) hx hb dX5_counted_10 (by decide) (fun q9 => absurd q9 (by decide)) (fun q9 => ?_)
    refine lv_iload_n hx hb dX5_counted_13 rfl (lv_at hl 1 rfl) ?_
    refine lv_if_ne (tgt := 26) hx hb dX5_counted_14 (by decide) (fun q9 => absurd (by decide) q9) (fun q9 => ?_)
    refine lv_aload_n hx hb dX5_counted_17 rfl (lv_at hl 0 rfl) ?_
    refine va_get (D := (dC, dI)) (ci := 5) (v := .ref (mm 2)) (C := RX5) (T := TX5) (N := 16) hx hb hts hin5 hown hK hP 1 rfl rfl 1 (by decide) (hts (.fieldLink RX5 13 "TurnDigitsModel" "now" "[I") (by decide +kernel)) (fun _ h9 => h9) rfl dX5_counted_18 ?_
    refine lv_iconst (v := 0) hx hb dX5_counted_21 (by decide) ?_
    refine xm_iald (D := (dC, dI)) hx hb hK hP 5 0 0 (v := v 0) rfl rfl (by decide) rfl (by decide) rfl dX5_counted_22 ?_
    refine lv_goto (tgt := 55) hx hb dX5_counted_23 (by decide) ?_
    have hP9 := hP.sub (ws' := [((mm 0), .inr (5, [.ref (mm 1), .ref (mm 2), .ref (mm 3), .ref (mm 4), .int kp, .ref (mm 5), .int ty, .int th, .int at0, .int fa, .ref (mm 6), .int ts, .ref (mm 7), .ref (mm 8), .ref (mm 9), .int (nI n)])), ((mm 1), .inl (cI, 12, .inl xm_mk)), ((mm 2), .inl (cI, 80, .inl v)), ((mm 7), .inl (cI, 96, .inl (fm_fl (fs_ow v) ow n))), ((mm 8), .inl (cI, 96, .inl (fm_fl (fs_li v) li n))), ((mm 9), .inl (cI, 6, .inl u_4))]) [1, 0, 5, 2, 3, 4] rfl
    have hD9 := hD.sub (ws' := [((mm 0), .inr (5, [.ref (mm 1), .ref (mm 2), .ref (mm 3), .ref (mm 4), .int kp, .ref (mm 5), .int ty, .int th, .int at0, .int fa, .ref (mm 6), .int ts, .ref (mm 7), .ref (mm 8), .ref (mm 9), .int (nI n)])), ((mm 1), .inl (cI, 12, .inl xm_mk)), ((mm 2), .inl (cI, 80, .inl v)), ((mm 7), .inl (cI, 96, .inl (fm_fl (fs_ow v) ow n))), ((mm 8), .inl (cI, 96, .inl (fm_fl (fs_li v) li n))), ((mm 9), .inl (cI, 6, .inl u_4))]) [1, 0, 5, 2, 3, 4] (by decide) rfl
    exact W.iret (v := v 0) hx hb hr (fun t ht hW => ⟨⟨v 0, ((nI n), (fm_fl (fs_ow v) ow n), (fm_fl (fs_li v) li n), u_4), rfl, (rfl), by rw [ht]; exact hP9, hD9⟩, hS.F ht⟩) hS.2.2 dX5_counted_55
  · refine lv_iload_n hx hb dX5_counted_8 rfl (lv_at hl 1 rfl) ?_
    refine lv_iconst (v := 4) hx hb dX5_counted_9 (by decide) ?_
    refine lv_icmp_ge (tgt := 56) hx hb dX5_counted_10 (by decide) (fun q9 => absurd q9 (by decide)) (fun q9 => ?_)
    refine lv_iload_n hx hb dX5_counted_13 rfl (lv_at hl 1 rfl) ?_
    refine lv_if_ne (tgt := 26) hx hb dX5_counted_14 (by decide) (fun q9 => ?_) (fun q9 => absurd q9 (by decide))
    refine lv_iload_n hx hb dX5_counted_26 rfl (lv_at hl 1 rfl) ?_
    refine lv_iconst (v := 1) hx hb dX5_counted_27 (by decide) ?_
    refine lv_icmp_ne (tgt := 41) hx hb dX5_counted_28 (by decide) (fun q9 => absurd (by decide) q9) (fun q9 => ?_)
    refine lv_aload_n hx hb dX5_counted_31 rfl (lv_at hl 0 rfl) ?_
    refine va_get (D := (dC, dI)) (ci := 5) (v := .ref (mm 2)) (C := RX5) (T := TX5) (N := 16) hx hb hts hin5 hown hK hP 1 rfl rfl 1 (by decide) (hts (.fieldLink RX5 13 "TurnDigitsModel" "now" "[I") (by decide +kernel)) (fun _ h9 => h9) rfl dX5_counted_32 ?_
    have hPc := hP.sub (ws' := [((mm 2), .inl (cI, 80, .inl v))]) [5] rfl
    refine W.callV ((va_runS (As := [.ref (mm 2)]) (rest := []) ⟨hx, hb, hml, hown, hts⟩ (c_X5_levels l dC dI cI cS cJ tt (mm 2) v) (va_cwS 1 hts gX5_counted_X5_levels rfl rfl rfl (by decide +kernel) ⟨Nat.le_of_ble_eq_true rfl, Nat.le_of_ble_eq_true rfl⟩) ⟨xm_Rblind, fun U hU hW => ⟨rfl, by rw [hU]; exact hPc, hE.go hS (fun _ q => q.elim) hU hW, trivial⟩⟩ rfl rfl hl.1 rfl (lv_room (Nat.le_of_ble_eq_true rfl)) dX5_counted_35 ⟨Nat.zero_le _, Nat.zero_le _⟩).run) ?_
    refine W.eq (g2 := F0 m 38 lz (.int (fm_sum (fun j => v (14 + j)) 6) :: [])) rfl ?_
    refine lv_goto (tgt := 55) hx hb dX5_counted_38 (by decide) ?_
    have hP9 := hP.sub (ws' := [((mm 0), .inr (5, [.ref (mm 1), .ref (mm 2), .ref (mm 3), .ref (mm 4), .int kp, .ref (mm 5), .int ty, .int th, .int at0, .int fa, .ref (mm 6), .int ts, .ref (mm 7), .ref (mm 8), .ref (mm 9), .int (nI n)])), ((mm 1), .inl (cI, 12, .inl xm_mk)), ((mm 2), .inl (cI, 80, .inl v)), ((mm 7), .inl (cI, 96, .inl (fm_fl (fs_ow v) ow n))), ((mm 8), .inl (cI, 96, .inl (fm_fl (fs_li v) li n))), ((mm 9), .inl (cI, 6, .inl u_4))]) [1, 0, 5, 2, 3, 4] rfl
    have hD9 := hD.sub (ws' := [((mm 0), .inr (5, [.ref (mm 1), .ref (mm 2), .ref (mm 3), .ref (mm 4), .int kp, .ref (mm 5), .int ty, .int th, .int at0, .int fa, .ref (mm 6), .int ts, .ref (mm 7), .ref (mm 8), .ref (mm 9), .int (nI n)])), ((mm 1), .inl (cI, 12, .inl xm_mk)), ((mm 2), .inl (cI, 80, .inl v)), ((mm 7), .inl (cI, 96, .inl (fm_fl (fs_ow v) ow n))), ((mm 8), .inl (cI, 96, .inl (fm_fl (fs_li v) li n))), ((mm 9), .inl (cI, 6, .inl u_4))]) [1, 0, 5, 2, 3, 4] (by decide) rfl
    exact W.iret (v := fm_sum (fun j => v (14 + j)) 6) hx hb hr (fun t ht hW => ⟨⟨fm_sum (fun j => v (14 + j)) 6, ((nI n), (fm_fl (fs_ow v) ow n), (fm_fl (fs_li v) li n), u_4), rfl, (rfl), by rw [ht]; exact hP9, hD9⟩, hS.F ht⟩) hS.2.2 dX5_counted_55
  · refine lv_iload_n hx hb dX5_counted_8 rfl (lv_at hl 1 rfl) ?_
    refine lv_iconst (v := 4) hx hb dX5_counted_9 (by decide) ?_
    refine lv_icmp_ge (tgt := 56) hx hb dX5_counted_10 (by decide) (fun q9 => absurd q9 (by decide)) (fun q9 => ?_)
    refine lv_iload_n hx hb dX5_counted_13 rfl (lv_at hl 1 rfl) ?_
    refine lv_if_ne (tgt := 26) hx hb dX5_counted_14 (by decide) (fun q9 => ?_) (fun q9 => absurd q9 (by decide))
    refine lv_iload_n hx hb dX5_counted_26 rfl (lv_at hl 1 rfl) ?_
    refine lv_iconst (v := 1) hx hb dX5_counted_27 (by decide) ?_
    refine lv_icmp_ne (tgt := 41) hx hb dX5_counted_28 (by decide) (fun q9 => ?_) (fun q9 => absurd q9 (by decide))
    refine lv_aload_n hx hb dX5_counted_41 rfl (lv_at hl 0 rfl) ?_
    refine lv_iload_n hx hb dX5_counted_42 rfl (lv_at hl 1 rfl) ?_
    refine lv_iconst (v := 2) hx hb dX5_counted_43 (by decide) ?_
    refine lv_icmp_ne (tgt := 51) hx hb dX5_counted_44 (by decide) (fun q9 => absurd (by decide) q9) (fun q9 => ?_)
    refine lv_iconst (v := 1) hx hb dX5_counted_47 (by decide) ?_
    refine lv_goto (tgt := 52) hx hb dX5_counted_48 (by decide) ?_
    have hPc := hP.sub (ws' := [((mm 0), .inr (5, [.ref (mm 1), .ref (mm 2), .ref (mm 3), .ref (mm 4), .int kp, .ref (mm 5), .int ty, .int th, .int at0, .int fa, .ref (mm 6), .int ts, .ref (mm 7), .ref (mm 8), .ref (mm 9), .int (nI n)])), ((mm 7), .inl (cI, 96, .inl (fm_fl (fs_ow v) ow n))), ((mm 8), .inl (cI, 96, .inl (fm_fl (fs_li v) li n)))]) [1, 2, 3] rfl
    refine W.callV ((va_runV (As := [.int 1]) (rest := []) ⟨hx, hb, hml, hown, hts⟩ (c_X5_inFrame l dC dI cI cS cJ tt mm kp ty th at0 fa ts (fs_ow v) ow (fs_li v) li n 1) (cwV 1 hts gX5_counted_X5_inFrame rfl rfl rfl (by decide +kernel) ⟨Nat.le_of_ble_eq_true rfl, Nat.le_of_ble_eq_true rfl⟩) ⟨xm_Rblind, va_recv hK hPc (ci := 5) (q0 := 0) rfl rfl, fun U hU hW => ⟨rfl, by rw [hU]; exact hPc, hE.go hS (fun _ q => q.elim) hU hW, ⟨by have := hvo.2.1; omega, hvo.2.2.1⟩⟩⟩ rfl rfl hl.1 rfl (lv_room (Nat.le_of_ble_eq_true rfl)) dX5_counted_52 ⟨Nat.zero_le _, Nat.zero_le _⟩).run) ?_
    refine W.eq (g2 := F0 m 55 lz (.int (mi_fr 1 (fs_ow v) (fs_li v) n) :: [])) rfl ?_
    have hP9 := hP.sub (ws' := [((mm 0), .inr (5, [.ref (mm 1), .ref (mm 2), .ref (mm 3), .ref (mm 4), .int kp, .ref (mm 5), .int ty, .int th, .int at0, .int fa, .ref (mm 6), .int ts, .ref (mm 7), .ref (mm 8), .ref (mm 9), .int (nI n)])), ((mm 1), .inl (cI, 12, .inl xm_mk)), ((mm 2), .inl (cI, 80, .inl v)), ((mm 7), .inl (cI, 96, .inl (fm_fl (fs_ow v) ow n))), ((mm 8), .inl (cI, 96, .inl (fm_fl (fs_li v) li n))), ((mm 9), .inl (cI, 6, .inl u_4))]) [1, 0, 5, 2, 3, 4] rfl
    have hD9 := hD.sub (ws' := [((mm 0), .inr (5, [.ref (mm 1), .ref (mm 2), .ref (mm 3), .ref (mm 4), .int kp, .ref (mm 5), .int ty, .int th, .int at0, .int fa, .ref (mm 6), .int ts, .ref (mm 7), .ref (mm 8), .ref (mm 9), .int (nI n)])), ((mm 1), .inl (cI, 12, .inl xm_mk)), ((mm 2), .inl (cI, 80, .inl v)), ((mm 7), .inl (cI, 96, .inl (fm_fl (fs_ow v) ow n))), ((mm 8), .inl (cI, 96, .inl (fm_fl (fs_li v) li n))), ((mm 9), .inl (cI, 6, .inl u_4))]) [1, 0, 5, 2, 3, 4] (by decide) rfl
    exact W.iret (v := mi_fr 1 (fs_ow v) (fs_li v) n) hx hb hr (fun t ht hW => ⟨⟨mi_fr 1 (fs_ow v) (fs_li v) n, ((nI n), (fm_fl (fs_ow v) ow n), (fm_fl (fs_li v) li n), u_4), rfl, (by show (if (1 : Int32) = 0 then _ else _) = _; exact if_neg (by decide)), by rw [ht]; exact hP9, hD9⟩, hS.F ht⟩) hS.2.2 dX5_counted_55
  · refine lv_iload_n hx hb dX5_counted_8 rfl (lv_at hl 1 rfl) ?_
    refine lv_iconst (v := 4) hx hb dX5_counted_9 (by decide) ?_
    refine lv_icmp_ge (tgt := 56) hx hb dX5_counted_10 (by decide) (fun q9 => absurd q9 (by decide)) (fun q9 => ?_)
    refine lv_iload_n hx hb dX5_counted_13 rfl (lv_at hl 1 rfl) ?_
    refine lv_if_ne (tgt := 26) hx hb dX5_counted_14 (by decide) (fun q9 => ?_) (fun q9 => absurd q9 (by decide))
    refine lv_iload_n hx hb dX5_counted_26 rfl (lv_at hl 1 rfl) ?_
    refine lv_iconst (v := 1) hx hb dX5_counted_27 (by decide) ?_
    refine lv_icmp_ne (tgt := 41) hx hb dX5_counted_28 (by decide) (fun q9 => ?_) (fun q9 => absurd q9 (by decide))
    refine lv_aload_n hx hb dX5_counted_41 rfl (lv_at hl 0 rfl) ?_
    refine lv_iload_n hx hb dX5_counted_42 rfl (lv_at hl 1 rfl) ?_
    refine lv_iconst (v := 2) hx hb dX5_counted_43 (by decide) ?_
    refine lv_icmp_ne (tgt := 51) hx hb dX5_counted_44 (by decide) (fun q9 => ?_) (fun q9 => absurd q9 (by decide))
    refine lv_iconst (v := 0) hx hb dX5_counted_51 (by decide) ?_
    have hPc := hP.sub (ws' := [((mm 0), .inr (5, [.ref (mm 1), .ref (mm 2), .ref (mm 3), .ref (mm 4), .int kp, .ref (mm 5), .int ty, .int th, .int at0, .int fa, .ref (mm 6), .int ts, .ref (mm 7), .ref (mm 8), .ref (mm 9), .int (nI n)])), ((mm 7), .inl (cI, 96, .inl (fm_fl (fs_ow v) ow n))), ((mm 8), .inl (cI, 96, .inl (fm_fl (fs_li v) li n)))]) [1, 2, 3] rfl
    refine W.callV ((va_runV (As := [.int 0]) (rest := []) ⟨hx, hb, hml, hown, hts⟩ (c_X5_inFrame l dC dI cI cS cJ tt mm kp ty th at0 fa ts (fs_ow v) ow (fs_li v) li n 0) (cwV 1 hts gX5_counted_X5_inFrame rfl rfl rfl (by decide +kernel) ⟨Nat.le_of_ble_eq_true rfl, Nat.le_of_ble_eq_true rfl⟩) ⟨xm_Rblind, va_recv hK hPc (ci := 5) (q0 := 0) rfl rfl, fun U hU hW => ⟨rfl, by rw [hU]; exact hPc, hE.go hS (fun _ q => q.elim) hU hW, ⟨by have := hvo.2.1; omega, hvo.2.2.1⟩⟩⟩ rfl rfl hl.1 rfl (lv_room (Nat.le_of_ble_eq_true rfl)) dX5_counted_52 ⟨Nat.zero_le _, Nat.zero_le _⟩).run) ?_
    refine W.eq (g2 := F0 m 55 lz (.int (mi_fr 0 (fs_ow v) (fs_li v) n) :: [])) rfl ?_
    have hP9 := hP.sub (ws' := [((mm 0), .inr (5, [.ref (mm 1), .ref (mm 2), .ref (mm 3), .ref (mm 4), .int kp, .ref (mm 5), .int ty, .int th, .int at0, .int fa, .ref (mm 6), .int ts, .ref (mm 7), .ref (mm 8), .ref (mm 9), .int (nI n)])), ((mm 1), .inl (cI, 12, .inl xm_mk)), ((mm 2), .inl (cI, 80, .inl v)), ((mm 7), .inl (cI, 96, .inl (fm_fl (fs_ow v) ow n))), ((mm 8), .inl (cI, 96, .inl (fm_fl (fs_li v) li n))), ((mm 9), .inl (cI, 6, .inl u_4))]) [1, 0, 5, 2, 3, 4] rfl
    have hD9 := hD.sub (ws' := [((mm 0), .inr (5, [.ref (mm 1), .ref (mm 2), .ref (mm 3), .ref (mm 4), .int kp, .ref (mm 5), .int ty, .int th, .int at0, .int fa, .ref (mm 6), .int ts, .ref (mm 7), .ref (mm 8), .ref (mm 9), .int (nI n)])), ((mm 1), .inl (cI, 12, .inl xm_mk)), ((mm 2), .inl (cI, 80, .inl v)), ((mm 7), .inl (cI, 96, .inl (fm_fl (fs_ow v) ow n))), ((mm 8), .inl (cI, 96, .inl (fm_fl (fs_li v) li n))), ((mm 9), .inl (cI, 6, .inl u_4))]) [1, 0, 5, 2, 3, 4] (by decide) rfl
    exact W.iret (v := mi_fr 0 (fs_ow v) (fs_li v) n) hx hb hr (fun t ht hW => ⟨⟨mi_fr 0 (fs_ow v) (fs_li v) n, ((nI n), (fm_fl (fs_ow v) ow n), (fm_fl (fs_li v) li n), u_4), rfl, (by show (if (0 : Int32) = 0 then mc_ch (fs_ow v) n else _) = _; rw [if_pos rfl]; obtain ⟨n9, e9⟩ : ∃ n9, n = n9 + 1 := ⟨n - 1, by have := hvo.2.1; omega⟩; rw [e9]; rfl), by rw [ht]; exact hP9, hD9⟩, hS.F ht⟩) hS.2.2 dX5_counted_55
  · refine lv_iload_n hx hb dX5_counted_8 rfl (lv_at hl 1 rfl) ?_
    refine lv_iconst (v := 4) hx hb dX5_counted_9 (by decide) ?_
    refine lv_icmp_ge (tgt := 56) hx hb dX5_counted_10 (by decide) (fun q9 => ?_) (fun q9 => absurd (by decide) q9)
    refine lv_iload_n hx hb dX5_counted_56 rfl (lv_at hl 1 rfl) ?_
    refine lv_bipush (v := 7) hx hb dX5_counted_57 (by decide) ?_
    refine lv_icmp_ge (tgt := 72) hx hb dX5_counted_59 (by decide) (fun q9 => absurd q9 (by decide)) (fun q9 => ?_)
    refine lv_aload_n hx hb dX5_counted_62 rfl (lv_at hl 0 rfl) ?_
    refine lv_aload_n hx hb dX5_counted_63 rfl (lv_at hl 0 rfl) ?_
    refine va_get (D := (dC, dI)) (ci := 5) (v := .ref (mm 2)) (C := RX5) (T := TX5) (N := 16) hx hb hts hin5 hown hK hP 1 rfl rfl 1 (by decide) (hts (.fieldLink RX5 13 "TurnDigitsModel" "now" "[I") (by decide +kernel)) (fun _ h9 => h9) rfl dX5_counted_64 ?_
    refine lv_iload_n hx hb dX5_counted_67 rfl (lv_at hl 1 rfl) ?_
    have hPc := hP.sub (ws' := [((mm 0), .inr (5, [.ref (mm 1), .ref (mm 2), .ref (mm 3), .ref (mm 4), .int kp, .ref (mm 5), .int ty, .int th, .int at0, .int fa, .ref (mm 6), .int ts, .ref (mm 7), .ref (mm 8), .ref (mm 9), .int (nI n)])), ((mm 8), .inl (cI, 96, .inl (fm_fl (fs_li v) li n))), ((mm 2), .inl (cI, 80, .inl v))]) [1, 3, 5] rfl
    refine W.callV ((va_runV (As := [.ref (mm 2), .int (nI 4)]) (rest := []) ⟨hx, hb, hml, hown, hts⟩ (c_X5_those_f l dC dI cI cS cJ tt mm kp ty th at0 fa ts (fs_li v) li n (mm 2) v) (cwV 2 hts gX5_counted_X5_those rfl rfl rfl (by decide +kernel) ⟨Nat.le_of_ble_eq_true rfl, Nat.le_of_ble_eq_true rfl⟩) ⟨xm_Rblind, va_recv hK hPc (ci := 5) (q0 := 0) rfl rfl, fun U hU hW => ⟨rfl, by rw [hU]; exact hPc, hE.go hS (fun _ q => q.elim) hU hW, ⟨by have := hvo.2.1; omega, hvo.2.2.1⟩⟩⟩ rfl rfl hl.1 rfl (lv_room (Nat.le_of_ble_eq_true rfl)) dX5_counted_68 ⟨Nat.zero_le _, Nat.zero_le _⟩).run) ?_
    refine W.eq (g2 := F0 m 71 lz (.int (fm_cntF (fun j => fm_flk ((fr_ls (fs_li v) n) j) ((fr_gp (fs_li v) n) j) (v 4)) (fun _ => 0) 6) :: [])) rfl ?_
    have hP9 := hP.sub (ws' := [((mm 0), .inr (5, [.ref (mm 1), .ref (mm 2), .ref (mm 3), .ref (mm 4), .int kp, .ref (mm 5), .int ty, .int th, .int at0, .int fa, .ref (mm 6), .int ts, .ref (mm 7), .ref (mm 8), .ref (mm 9), .int (nI n)])), ((mm 1), .inl (cI, 12, .inl xm_mk)), ((mm 2), .inl (cI, 80, .inl v)), ((mm 7), .inl (cI, 96, .inl (fm_fl (fs_ow v) ow n))), ((mm 8), .inl (cI, 96, .inl (fm_fl (fs_li v) li n))), ((mm 9), .inl (cI, 6, .inl u_4))]) [1, 0, 5, 2, 3, 4] rfl
    have hD9 := hD.sub (ws' := [((mm 0), .inr (5, [.ref (mm 1), .ref (mm 2), .ref (mm 3), .ref (mm 4), .int kp, .ref (mm 5), .int ty, .int th, .int at0, .int fa, .ref (mm 6), .int ts, .ref (mm 7), .ref (mm 8), .ref (mm 9), .int (nI n)])), ((mm 1), .inl (cI, 12, .inl xm_mk)), ((mm 2), .inl (cI, 80, .inl v)), ((mm 7), .inl (cI, 96, .inl (fm_fl (fs_ow v) ow n))), ((mm 8), .inl (cI, 96, .inl (fm_fl (fs_li v) li n))), ((mm 9), .inl (cI, 6, .inl u_4))]) [1, 0, 5, 2, 3, 4] (by decide) rfl
    exact W.iret (v := fm_cntF (fun j => fm_flk ((fr_ls (fs_li v) n) j) ((fr_gp (fs_li v) n) j) (v 4)) (fun _ => 0) 6) hx hb hr (fun t ht hW => ⟨⟨fm_cntF (fun j => fm_flk ((fr_ls (fs_li v) n) j) ((fr_gp (fs_li v) n) j) (v 4)) (fun _ => 0) 6, ((nI n), (fm_fl (fs_ow v) ow n), (fm_fl (fs_li v) li n), u_4), rfl, (rfl), by rw [ht]; exact hP9, hD9⟩, hS.F ht⟩) hS.2.2 dX5_counted_71
  · refine lv_iload_n hx hb dX5_counted_8 rfl (lv_at hl 1 rfl) ?_
    refine lv_iconst (v := 4) hx hb dX5_counted_9 (by decide) ?_
    refine lv_icmp_ge (tgt := 56) hx hb dX5_counted_10 (by decide) (fun q9 => ?_) (fun q9 => absurd (by decide) q9)
    refine lv_iload_n hx hb dX5_counted_56 rfl (lv_at hl 1 rfl) ?_
    refine lv_bipush (v := 7) hx hb dX5_counted_57 (by decide) ?_
    refine lv_icmp_ge (tgt := 72) hx hb dX5_counted_59 (by decide) (fun q9 => absurd q9 (by decide)) (fun q9 => ?_)
    refine lv_aload_n hx hb dX5_counted_62 rfl (lv_at hl 0 rfl) ?_
    refine lv_aload_n hx hb dX5_counted_63 rfl (lv_at hl 0 rfl) ?_
    refine va_get (D := (dC, dI)) (ci := 5) (v := .ref (mm 2)) (C := RX5) (T := TX5) (N := 16) hx hb hts hin5 hown hK hP 1 rfl rfl 1 (by decide) (hts (.fieldLink RX5 13 "TurnDigitsModel" "now" "[I") (by decide +kernel)) (fun _ h9 => h9) rfl dX5_counted_64 ?_
    refine lv_iload_n hx hb dX5_counted_67 rfl (lv_at hl 1 rfl) ?_
    have hPc := hP.sub (ws' := [((mm 0), .inr (5, [.ref (mm 1), .ref (mm 2), .ref (mm 3), .ref (mm 4), .int kp, .ref (mm 5), .int ty, .int th, .int at0, .int fa, .ref (mm 6), .int ts, .ref (mm 7), .ref (mm 8), .ref (mm 9), .int (nI n)])), ((mm 8), .inl (cI, 96, .inl (fm_fl (fs_li v) li n))), ((mm 2), .inl (cI, 80, .inl v))]) [1, 3, 5] rfl
    refine W.callV ((va_runV (As := [.ref (mm 2), .int (nI 5)]) (rest := []) ⟨hx, hb, hml, hown, hts⟩ (c_X5_those_s l dC dI cI cS cJ tt mm kp ty th at0 fa ts (fs_li v) li n (mm 2) v) (cwV 2 hts gX5_counted_X5_those rfl rfl rfl (by decide +kernel) ⟨Nat.le_of_ble_eq_true rfl, Nat.le_of_ble_eq_true rfl⟩) ⟨xm_Rblind, va_recv hK hPc (ci := 5) (q0 := 0) rfl rfl, fun U hU hW => ⟨rfl, by rw [hU]; exact hPc, hE.go hS (fun _ q => q.elim) hU hW, ⟨⟨by have := hvo.2.1; omega, hvo.2.2.1⟩, hvo.1⟩⟩⟩ rfl rfl hl.1 rfl (lv_room (Nat.le_of_ble_eq_true rfl)) dX5_counted_68 ⟨Nat.zero_le _, Nat.zero_le _⟩).run) ?_
    refine W.eq (g2 := F0 m 71 lz (.int (fm_cntF (fun j => lk_see (fr_gp (fs_li v) n) (fr_ls (fs_li v) n) (v 2) (v 4) (v 5 * v 1) j) (fun _ => 0) 6) :: [])) rfl ?_
    have hP9 := hP.sub (ws' := [((mm 0), .inr (5, [.ref (mm 1), .ref (mm 2), .ref (mm 3), .ref (mm 4), .int kp, .ref (mm 5), .int ty, .int th, .int at0, .int fa, .ref (mm 6), .int ts, .ref (mm 7), .ref (mm 8), .ref (mm 9), .int (nI n)])), ((mm 1), .inl (cI, 12, .inl xm_mk)), ((mm 2), .inl (cI, 80, .inl v)), ((mm 7), .inl (cI, 96, .inl (fm_fl (fs_ow v) ow n))), ((mm 8), .inl (cI, 96, .inl (fm_fl (fs_li v) li n))), ((mm 9), .inl (cI, 6, .inl u_4))]) [1, 0, 5, 2, 3, 4] rfl
    have hD9 := hD.sub (ws' := [((mm 0), .inr (5, [.ref (mm 1), .ref (mm 2), .ref (mm 3), .ref (mm 4), .int kp, .ref (mm 5), .int ty, .int th, .int at0, .int fa, .ref (mm 6), .int ts, .ref (mm 7), .ref (mm 8), .ref (mm 9), .int (nI n)])), ((mm 1), .inl (cI, 12, .inl xm_mk)), ((mm 2), .inl (cI, 80, .inl v)), ((mm 7), .inl (cI, 96, .inl (fm_fl (fs_ow v) ow n))), ((mm 8), .inl (cI, 96, .inl (fm_fl (fs_li v) li n))), ((mm 9), .inl (cI, 6, .inl u_4))]) [1, 0, 5, 2, 3, 4] (by decide) rfl
    exact W.iret (v := fm_cntF (fun j => lk_see (fr_gp (fs_li v) n) (fr_ls (fs_li v) n) (v 2) (v 4) (v 5 * v 1) j) (fun _ => 0) 6) hx hb hr (fun t ht hW => ⟨⟨fm_cntF (fun j => lk_see (fr_gp (fs_li v) n) (fr_ls (fs_li v) n) (v 2) (v 4) (v 5 * v 1) j) (fun _ => 0) 6, ((nI n), (fm_fl (fs_ow v) ow n), (fm_fl (fs_li v) li n), u_4), rfl, (rfl), by rw [ht]; exact hP9, hD9⟩, hS.F ht⟩) hS.2.2 dX5_counted_71
  · refine lv_iload_n hx hb dX5_counted_8 rfl (lv_at hl 1 rfl) ?_
    refine lv_iconst (v := 4) hx hb dX5_counted_9 (by decide) ?_
    refine lv_icmp_ge (tgt := 56) hx hb dX5_counted_10 (by decide) (fun q9 => ?_) (fun q9 => absurd (by decide) q9)
    refine lv_iload_n hx hb dX5_counted_56 rfl (lv_at hl 1 rfl) ?_
    refine lv_bipush (v := 7) hx hb dX5_counted_57 (by decide) ?_
    refine lv_icmp_ge (tgt := 72) hx hb dX5_counted_59 (by decide) (fun q9 => absurd q9 (by decide)) (fun q9 => ?_)
    refine lv_aload_n hx hb dX5_counted_62 rfl (lv_at hl 0 rfl) ?_
    refine lv_aload_n hx hb dX5_counted_63 rfl (lv_at hl 0 rfl) ?_
    refine va_get (D := (dC, dI)) (ci := 5) (v := .ref (mm 2)) (C := RX5) (T := TX5) (N := 16) hx hb hts hin5 hown hK hP 1 rfl rfl 1 (by decide) (hts (.fieldLink RX5 13 "TurnDigitsModel" "now" "[I") (by decide +kernel)) (fun _ h9 => h9) rfl dX5_counted_64 ?_
    refine lv_iload_n hx hb dX5_counted_67 rfl (lv_at hl 1 rfl) ?_
    have hPc := hP.sub (ws' := [((mm 0), .inr (5, [.ref (mm 1), .ref (mm 2), .ref (mm 3), .ref (mm 4), .int kp, .ref (mm 5), .int ty, .int th, .int at0, .int fa, .ref (mm 6), .int ts, .ref (mm 7), .ref (mm 8), .ref (mm 9), .int (nI n)])), ((mm 1), .inl (cI, 12, .inl xm_mk)), ((mm 2), .inl (cI, 80, .inl v)), ((mm 8), .inl (cI, 96, .inl (fm_fl (fs_li v) li n)))]) [1, 0, 5, 3] rfl
    refine W.callV ((va_runV (As := [.ref (mm 2), .int (nI 6)]) (rest := []) ⟨hx, hb, hml, hown, hts⟩ (c_X5_those_c l dC dI cI cS cJ tt mm kp ty th at0 fa ts (fs_li v) li n v) (cwV 2 hts gX5_counted_X5_those rfl rfl rfl (by decide +kernel) ⟨Nat.le_of_ble_eq_true rfl, Nat.le_of_ble_eq_true rfl⟩) ⟨xm_Rblind, va_recv hK hPc (ci := 5) (q0 := 0) rfl rfl, fun U hU hW => ⟨rfl, by rw [hU]; exact hPc, hE.go hS (fun _ q => q.elim) hU hW, ⟨hok, ⟨by have := hvo.2.1; omega, hvo.2.2.1⟩, hvo.1⟩⟩⟩ rfl rfl hl.1 rfl (lv_room (Nat.le_of_ble_eq_true rfl)) dX5_counted_68 ⟨Nat.zero_le _, Nat.zero_le _⟩).run) ?_
    refine W.eq (g2 := F0 m 71 lz (.int (fm_cntF (fun j => lk_clr (fr_gp (fs_li v) n) (fr_ls (fs_li v) n) (v 2) (v 4) (v 5 * v 1) v j) (fun _ => 0) 6) :: [])) rfl ?_
    have hP9 := hP.sub (ws' := [((mm 0), .inr (5, [.ref (mm 1), .ref (mm 2), .ref (mm 3), .ref (mm 4), .int kp, .ref (mm 5), .int ty, .int th, .int at0, .int fa, .ref (mm 6), .int ts, .ref (mm 7), .ref (mm 8), .ref (mm 9), .int (nI n)])), ((mm 1), .inl (cI, 12, .inl xm_mk)), ((mm 2), .inl (cI, 80, .inl v)), ((mm 7), .inl (cI, 96, .inl (fm_fl (fs_ow v) ow n))), ((mm 8), .inl (cI, 96, .inl (fm_fl (fs_li v) li n))), ((mm 9), .inl (cI, 6, .inl u_4))]) [1, 0, 5, 2, 3, 4] rfl
    have hD9 := hD.sub (ws' := [((mm 0), .inr (5, [.ref (mm 1), .ref (mm 2), .ref (mm 3), .ref (mm 4), .int kp, .ref (mm 5), .int ty, .int th, .int at0, .int fa, .ref (mm 6), .int ts, .ref (mm 7), .ref (mm 8), .ref (mm 9), .int (nI n)])), ((mm 1), .inl (cI, 12, .inl xm_mk)), ((mm 2), .inl (cI, 80, .inl v)), ((mm 7), .inl (cI, 96, .inl (fm_fl (fs_ow v) ow n))), ((mm 8), .inl (cI, 96, .inl (fm_fl (fs_li v) li n))), ((mm 9), .inl (cI, 6, .inl u_4))]) [1, 0, 5, 2, 3, 4] (by decide) rfl
    exact W.iret (v := fm_cntF (fun j => lk_clr (fr_gp (fs_li v) n) (fr_ls (fs_li v) n) (v 2) (v 4) (v 5 * v 1) v j) (fun _ => 0) 6) hx hb hr (fun t ht hW => ⟨⟨fm_cntF (fun j => lk_clr (fr_gp (fs_li v) n) (fr_ls (fs_li v) n) (v 2) (v 4) (v 5 * v 1) v j) (fun _ => 0) 6, ((nI n), (fm_fl (fs_ow v) ow n), (fm_fl (fs_li v) li n), u_4), rfl, (rfl), by rw [ht]; exact hP9, hD9⟩, hS.F ht⟩) hS.2.2 dX5_counted_71
  · refine lv_iload_n hx hb dX5_counted_8 rfl (lv_at hl 1 rfl) ?_
    refine lv_iconst (v := 4) hx hb dX5_counted_9 (by decide) ?_
    refine lv_icmp_ge (tgt := 56) hx hb dX5_counted_10 (by decide) (fun q9 => ?_) (fun q9 => absurd (by decide) q9)
    refine lv_iload_n hx hb dX5_counted_56 rfl (lv_at hl 1 rfl) ?_
    refine lv_bipush (v := 7) hx hb dX5_counted_57 (by decide) ?_
    refine lv_icmp_ge (tgt := 72) hx hb dX5_counted_59 (by decide) (fun q9 => ?_) (fun q9 => absurd (by decide) q9)
    refine lv_iload_n hx hb dX5_counted_72 rfl (lv_at hl 1 rfl) ?_
    refine lv_bipush (v := 7) hx hb dX5_counted_73 (by decide) ?_
    refine lv_icmp_ne (tgt := 85) hx hb dX5_counted_75 (by decide) (fun q9 => absurd (by decide) q9) (fun q9 => ?_)
    refine lv_aload_n hx hb dX5_counted_78 rfl (lv_at hl 0 rfl) ?_
    have hPc := hP.sub (ws' := [((mm 0), .inr (5, [.ref (mm 1), .ref (mm 2), .ref (mm 3), .ref (mm 4), .int kp, .ref (mm 5), .int ty, .int th, .int at0, .int fa, .ref (mm 6), .int ts, .ref (mm 7), .ref (mm 8), .ref (mm 9), .int (nI n)])), ((mm 2), .inl (cI, 80, .inl v))]) [1, 5] rfl
    refine W.callV ((va_runV (As := []) (rest := []) ⟨hx, hb, hml, hown, hts⟩ (c_X5_burnt l dC dI cI cS cJ tt mm kp ty th at0 fa ts (nI n) v) (cwV 0 hts gX5_counted_X5_burnt rfl rfl rfl (by decide +kernel) ⟨Nat.le_of_ble_eq_true rfl, Nat.le_of_ble_eq_true rfl⟩) ⟨xm_Rblind, va_recv hK hPc (ci := 5) (q0 := 0) rfl rfl, fun U hU hW => ⟨rfl, by rw [hU]; exact hPc, hE.go hS (fun _ q => q.elim) hU hW, hbu⟩⟩ rfl rfl hl.1 rfl (lv_room (Nat.le_of_ble_eq_true rfl)) dX5_counted_79 ⟨Nat.zero_le _, Nat.zero_le _⟩).run) ?_
    refine W.eq (g2 := F0 m 82 lz (.int (fm_sum (fun j => fm_bc (v (20 + j))) 6) :: [])) rfl ?_
    refine lv_goto (tgt := 120) hx hb dX5_counted_82 (by decide) ?_
    have hP9 := hP.sub (ws' := [((mm 0), .inr (5, [.ref (mm 1), .ref (mm 2), .ref (mm 3), .ref (mm 4), .int kp, .ref (mm 5), .int ty, .int th, .int at0, .int fa, .ref (mm 6), .int ts, .ref (mm 7), .ref (mm 8), .ref (mm 9), .int (nI n)])), ((mm 1), .inl (cI, 12, .inl xm_mk)), ((mm 2), .inl (cI, 80, .inl v)), ((mm 7), .inl (cI, 96, .inl (fm_fl (fs_ow v) ow n))), ((mm 8), .inl (cI, 96, .inl (fm_fl (fs_li v) li n))), ((mm 9), .inl (cI, 6, .inl u_4))]) [1, 0, 5, 2, 3, 4] rfl
    have hD9 := hD.sub (ws' := [((mm 0), .inr (5, [.ref (mm 1), .ref (mm 2), .ref (mm 3), .ref (mm 4), .int kp, .ref (mm 5), .int ty, .int th, .int at0, .int fa, .ref (mm 6), .int ts, .ref (mm 7), .ref (mm 8), .ref (mm 9), .int (nI n)])), ((mm 1), .inl (cI, 12, .inl xm_mk)), ((mm 2), .inl (cI, 80, .inl v)), ((mm 7), .inl (cI, 96, .inl (fm_fl (fs_ow v) ow n))), ((mm 8), .inl (cI, 96, .inl (fm_fl (fs_li v) li n))), ((mm 9), .inl (cI, 6, .inl u_4))]) [1, 0, 5, 2, 3, 4] (by decide) rfl
    exact W.iret (v := fm_sum (fun j => fm_bc (v (20 + j))) 6) hx hb hr (fun t ht hW => ⟨⟨fm_sum (fun j => fm_bc (v (20 + j))) 6, ((nI n), (fm_fl (fs_ow v) ow n), (fm_fl (fs_li v) li n), u_4), rfl, (rfl), by rw [ht]; exact hP9, hD9⟩, hS.F ht⟩) hS.2.2 dX5_counted_120
  · refine lv_iload_n hx hb dX5_counted_8 rfl (lv_at hl 1 rfl) ?_
    refine lv_iconst (v := 4) hx hb dX5_counted_9 (by decide) ?_
    refine lv_icmp_ge (tgt := 56) hx hb dX5_counted_10 (by decide) (fun q9 => ?_) (fun q9 => absurd (by decide) q9)
    refine lv_iload_n hx hb dX5_counted_56 rfl (lv_at hl 1 rfl) ?_
    refine lv_bipush (v := 7) hx hb dX5_counted_57 (by decide) ?_
    refine lv_icmp_ge (tgt := 72) hx hb dX5_counted_59 (by decide) (fun q9 => ?_) (fun q9 => absurd (by decide) q9)
    refine lv_iload_n hx hb dX5_counted_72 rfl (lv_at hl 1 rfl) ?_
    refine lv_bipush (v := 7) hx hb dX5_counted_73 (by decide) ?_
    refine lv_icmp_ne (tgt := 85) hx hb dX5_counted_75 (by decide) (fun q9 => ?_) (fun q9 => absurd q9 (by decide))
    refine lv_iload_n hx hb dX5_counted_85 rfl (lv_at hl 1 rfl) ?_
    refine lv_bipush (v := 8) hx hb dX5_counted_86 (by decide) ?_
    refine lv_icmp_ne (tgt := 100) hx hb dX5_counted_88 (by decide) (fun q9 => absurd (by decide) q9) (fun q9 => ?_)
    refine lv_aload_n hx hb dX5_counted_91 rfl (lv_at hl 0 rfl) ?_
    refine va_get (D := (dC, dI)) (ci := 5) (v := .ref (mm 2)) (C := RX5) (T := TX5) (N := 16) hx hb hts hin5 hown hK hP 1 rfl rfl 1 (by decide) (hts (.fieldLink RX5 13 "TurnDigitsModel" "now" "[I") (by decide +kernel)) (fun _ h9 => h9) rfl dX5_counted_92 ?_
    refine lv_iconst (v := 1) hx hb dX5_counted_95 (by decide) ?_
    refine xm_iald (D := (dC, dI)) hx hb hK hP 5 0 1 (v := v 1) rfl rfl (by decide) rfl (by decide) rfl dX5_counted_96 ?_
    refine lv_goto (tgt := 120) hx hb dX5_counted_97 (by decide) ?_
    have hP9 := hP.sub (ws' := [((mm 0), .inr (5, [.ref (mm 1), .ref (mm 2), .ref (mm 3), .ref (mm 4), .int kp, .ref (mm 5), .int ty, .int th, .int at0, .int fa, .ref (mm 6), .int ts, .ref (mm 7), .ref (mm 8), .ref (mm 9), .int (nI n)])), ((mm 1), .inl (cI, 12, .inl xm_mk)), ((mm 2), .inl (cI, 80, .inl v)), ((mm 7), .inl (cI, 96, .inl (fm_fl (fs_ow v) ow n))), ((mm 8), .inl (cI, 96, .inl (fm_fl (fs_li v) li n))), ((mm 9), .inl (cI, 6, .inl u_4))]) [1, 0, 5, 2, 3, 4] rfl
    have hD9 := hD.sub (ws' := [((mm 0), .inr (5, [.ref (mm 1), .ref (mm 2), .ref (mm 3), .ref (mm 4), .int kp, .ref (mm 5), .int ty, .int th, .int at0, .int fa, .ref (mm 6), .int ts, .ref (mm 7), .ref (mm 8), .ref (mm 9), .int (nI n)])), ((mm 1), .inl (cI, 12, .inl xm_mk)), ((mm 2), .inl (cI, 80, .inl v)), ((mm 7), .inl (cI, 96, .inl (fm_fl (fs_ow v) ow n))), ((mm 8), .inl (cI, 96, .inl (fm_fl (fs_li v) li n))), ((mm 9), .inl (cI, 6, .inl u_4))]) [1, 0, 5, 2, 3, 4] (by decide) rfl
    exact W.iret (v := v 1) hx hb hr (fun t ht hW => ⟨⟨v 1, ((nI n), (fm_fl (fs_ow v) ow n), (fm_fl (fs_li v) li n), u_4), rfl, (rfl), by rw [ht]; exact hP9, hD9⟩, hS.F ht⟩) hS.2.2 dX5_counted_120
  · refine lv_iload_n hx hb dX5_counted_8 rfl (lv_at hl 1 rfl) ?_
    refine lv_iconst (v := 4) hx hb dX5_counted_9 (by decide) ?_
    refine lv_icmp_ge (tgt := 56) hx hb dX5_counted_10 (by decide) (fun q9 => ?_) (fun q9 => absurd (by decide) q9)
    refine lv_iload_n hx hb dX5_counted_56 rfl (lv_at hl 1 rfl) ?_
    refine lv_bipush (v := 7) hx hb dX5_counted_57 (by decide) ?_
    refine lv_icmp_ge (tgt := 72) hx hb dX5_counted_59 (by decide) (fun q9 => ?_) (fun q9 => absurd (by decide) q9)
    refine lv_iload_n hx hb dX5_counted_72 rfl (lv_at hl 1 rfl) ?_
    refine lv_bipush (v := 7) hx hb dX5_counted_73 (by decide) ?_
    refine lv_icmp_ne (tgt := 85) hx hb dX5_counted_75 (by decide) (fun q9 => ?_) (fun q9 => absurd q9 (by decide))
    refine lv_iload_n hx hb dX5_counted_85 rfl (lv_at hl 1 rfl) ?_
    refine lv_bipush (v := 8) hx hb dX5_counted_86 (by decide) ?_
    refine lv_icmp_ne (tgt := 100) hx hb dX5_counted_88 (by decide) (fun q9 => ?_) (fun q9 => absurd q9 (by decide))
    refine lv_iload_n hx hb dX5_counted_100 rfl (lv_at hl 1 rfl) ?_
    refine lv_bipush (v := 9) hx hb dX5_counted_101 (by decide) ?_
    refine lv_icmp_ne (tgt := 116) hx hb dX5_counted_103 (by decide) (fun q9 => absurd (by decide) q9) (fun q9 => ?_)
    refine lv_aload_n hx hb dX5_counted_106 rfl (lv_at hl 0 rfl) ?_
    refine va_get (D := (dC, dI)) (ci := 5) (v := .ref (mm 2)) (C := RX5) (T := TX5) (N := 16) hx hb hts hin5 hown hK hP 1 rfl rfl 1 (by decide) (hts (.fieldLink RX5 13 "TurnDigitsModel" "now" "[I") (by decide +kernel)) (fun _ h9 => h9) rfl dX5_counted_107 ?_
    refine lv_bipush (v := 7) hx hb dX5_counted_110 (by decide) ?_
    refine xm_iald (D := (dC, dI)) hx hb hK hP 5 0 7 (v := v 7) rfl rfl (by decide) rfl (by decide) rfl dX5_counted_112 ?_
    refine lv_goto (tgt := 120) hx hb dX5_counted_113 (by decide) ?_
    have hP9 := hP.sub (ws' := [((mm 0), .inr (5, [.ref (mm 1), .ref (mm 2), .ref (mm 3), .ref (mm 4), .int kp, .ref (mm 5), .int ty, .int th, .int at0, .int fa, .ref (mm 6), .int ts, .ref (mm 7), .ref (mm 8), .ref (mm 9), .int (nI n)])), ((mm 1), .inl (cI, 12, .inl xm_mk)), ((mm 2), .inl (cI, 80, .inl v)), ((mm 7), .inl (cI, 96, .inl (fm_fl (fs_ow v) ow n))), ((mm 8), .inl (cI, 96, .inl (fm_fl (fs_li v) li n))), ((mm 9), .inl (cI, 6, .inl u_4))]) [1, 0, 5, 2, 3, 4] rfl
    have hD9 := hD.sub (ws' := [((mm 0), .inr (5, [.ref (mm 1), .ref (mm 2), .ref (mm 3), .ref (mm 4), .int kp, .ref (mm 5), .int ty, .int th, .int at0, .int fa, .ref (mm 6), .int ts, .ref (mm 7), .ref (mm 8), .ref (mm 9), .int (nI n)])), ((mm 1), .inl (cI, 12, .inl xm_mk)), ((mm 2), .inl (cI, 80, .inl v)), ((mm 7), .inl (cI, 96, .inl (fm_fl (fs_ow v) ow n))), ((mm 8), .inl (cI, 96, .inl (fm_fl (fs_li v) li n))), ((mm 9), .inl (cI, 6, .inl u_4))]) [1, 0, 5, 2, 3, 4] (by decide) rfl
    exact W.iret (v := v 7) hx hb hr (fun t ht hW => ⟨⟨v 7, ((nI n), (fm_fl (fs_ow v) ow n), (fm_fl (fs_li v) li n), u_4), rfl, (rfl), by rw [ht]; exact hP9, hD9⟩, hS.F ht⟩) hS.2.2 dX5_counted_120
  · refine lv_iload_n hx hb dX5_counted_8 rfl (lv_at hl 1 rfl) ?_
    refine lv_iconst (v := 4) hx hb dX5_counted_9 (by decide) ?_
    refine lv_icmp_ge (tgt := 56) hx hb dX5_counted_10 (by decide) (fun q9 => ?_) (fun q9 => absurd (by decide) q9)
    refine lv_iload_n hx hb dX5_counted_56 rfl (lv_at hl 1 rfl) ?_
    refine lv_bipush (v := 7) hx hb dX5_counted_57 (by decide) ?_
    refine lv_icmp_ge (tgt := 72) hx hb dX5_counted_59 (by decide) (fun q9 => ?_) (fun q9 => absurd (by decide) q9)
    refine lv_iload_n hx hb dX5_counted_72 rfl (lv_at hl 1 rfl) ?_
    refine lv_bipush (v := 7) hx hb dX5_counted_73 (by decide) ?_
    refine lv_icmp_ne (tgt := 85) hx hb dX5_counted_75 (by decide) (fun q9 => ?_) (fun q9 => absurd q9 (by decide))
    refine lv_iload_n hx hb dX5_counted_85 rfl (lv_at hl 1 rfl) ?_
    refine lv_bipush (v := 8) hx hb dX5_counted_86 (by decide) ?_
    refine lv_icmp_ne (tgt := 100) hx hb dX5_counted_88 (by decide) (fun q9 => ?_) (fun q9 => absurd q9 (by decide))
    refine lv_iload_n hx hb dX5_counted_100 rfl (lv_at hl 1 rfl) ?_
    refine lv_bipush (v := 9) hx hb dX5_counted_101 (by decide) ?_
    refine lv_icmp_ne (tgt := 116) hx hb dX5_counted_103 (by decide) (fun q9 => ?_) (fun q9 => absurd q9 (by decide))
    refine lv_aload_n hx hb dX5_counted_116 rfl (lv_at hl 0 rfl) ?_
    refine va_get (D := (dC, dI)) (ci := 5) (v := .int kp) (C := RX5) (T := TX5) (N := 16) hx hb hts hin5 hown hK hP 1 rfl rfl 4 (by decide) (hts (.fieldLink RX5 45 "TurnDigitsModel" "kept" "I") (by decide +kernel)) (fun _ h9 => h9) rfl dX5_counted_117 ?_
    have hP9 := hP.sub (ws' := [((mm 0), .inr (5, [.ref (mm 1), .ref (mm 2), .ref (mm 3), .ref (mm 4), .int kp, .ref (mm 5), .int ty, .int th, .int at0, .int fa, .ref (mm 6), .int ts, .ref (mm 7), .ref (mm 8), .ref (mm 9), .int (nI n)])), ((mm 1), .inl (cI, 12, .inl xm_mk)), ((mm 2), .inl (cI, 80, .inl v)), ((mm 7), .inl (cI, 96, .inl (fm_fl (fs_ow v) ow n))), ((mm 8), .inl (cI, 96, .inl (fm_fl (fs_li v) li n))), ((mm 9), .inl (cI, 6, .inl u_4))]) [1, 0, 5, 2, 3, 4] rfl
    have hD9 := hD.sub (ws' := [((mm 0), .inr (5, [.ref (mm 1), .ref (mm 2), .ref (mm 3), .ref (mm 4), .int kp, .ref (mm 5), .int ty, .int th, .int at0, .int fa, .ref (mm 6), .int ts, .ref (mm 7), .ref (mm 8), .ref (mm 9), .int (nI n)])), ((mm 1), .inl (cI, 12, .inl xm_mk)), ((mm 2), .inl (cI, 80, .inl v)), ((mm 7), .inl (cI, 96, .inl (fm_fl (fs_ow v) ow n))), ((mm 8), .inl (cI, 96, .inl (fm_fl (fs_li v) li n))), ((mm 9), .inl (cI, 6, .inl u_4))]) [1, 0, 5, 2, 3, 4] (by decide) rfl
    exact W.iret (v := kp) hx hb hr (fun t ht hW => ⟨⟨kp, ((nI n), (fm_fl (fs_ow v) ow n), (fm_fl (fs_li v) li n), u_4), rfl, (rfl), by rw [ht]; exact hP9, hD9⟩, hS.F ht⟩) hS.2.2 dX5_counted_120

set_option maxHeartbeats 4000000 in
set_option maxRecDepth 100000 in
theorem c_X5_ofDigit (l : Launch) (dC : Nat → ClassId) (dI : Nat → Nat → Nat) (cI cS cJ : ClassId) (tt : Nat → Nat) (sz : Nat) (mm : Nat → Nat) (kp : Int32) (ty : Int32) (th : Int32) (at0 : Int32) (fa : Int32) (ts : Int32) (fr : Int32) (v : Nat → Int32) (ow : Nat → Int32) (li : Nat → Int32) (cr : Nat → Int32) (n : Nat) (d : Nat) (w0 : Nat) : Met l yX5_ofDigit wsX5_ofDigit ({ frames := 4, cells := 0, slots := 0, locals := 92 } : Room) (va_Pc [.ref (mm 0), .int (nI d), .int (nI w0)] (xm_M (dC, dI) cI cS cJ tt [((mm 0), .inr (5, [.ref (mm 1), .ref (mm 2), .ref (mm 3), .ref (mm 4), .int kp, .ref (mm 5), .int ty, .int th, .int at0, .int fa, .ref (mm 6), .int ts, .ref (mm 7), .ref (mm 8), .ref (mm 9), .int fr])), ((mm 1), .inl (cI, 12, .inl xm_mk)), ((mm 2), .inl (cI, 80, .inl v)), ((mm 7), .inl (cI, 96, .inl ow)), ((mm 8), .inl (cI, 96, .inl li)), ((mm 9), .inl (cI, 6, .inl cr))] sz ((vo_f v n ∧ (∀ j, j < 6 → fm_ix (v (8 + j)) 12)) ∧ d < 6 ∧ w0 ≤ 11))) (va_Qi (fun (r : Int32) (u : Int32 × (Nat → Int32) × (Nat → Int32) × (Nat → Int32)) => r = lk_dg v n d w0) (xm_B (dC, dI) (fun (u : Int32 × (Nat → Int32) × (Nat → Int32) × (Nat → Int32)) => [((mm 0), .inr (5, [.ref (mm 1), .ref (mm 2), .ref (mm 3), .ref (mm 4), .int kp, .ref (mm 5), .int ty, .int th, .int at0, .int fa, .ref (mm 6), .int ts, .ref (mm 7), .ref (mm 8), .ref (mm 9), .int u.1])), ((mm 1), .inl (cI, 12, .inl xm_mk)), ((mm 2), .inl (cI, 80, .inl v)), ((mm 7), .inl (cI, 96, .inl u.2.1)), ((mm 8), .inl (cI, 96, .inl u.2.2.1)), ((mm 9), .inl (cI, 6, .inl u.2.2.2))]) (va_A [((mm 0), .inr (5, [.ref (mm 1), .ref (mm 2), .ref (mm 3), .ref (mm 4), .int kp, .ref (mm 5), .int ty, .int th, .int at0, .int fa, .ref (mm 6), .int ts, .ref (mm 7), .ref (mm 8), .ref (mm 9), .int fr])), ((mm 1), .inl (cI, 12, .inl xm_mk)), ((mm 2), .inl (cI, 80, .inl v)), ((mm 7), .inl (cI, 96, .inl ow)), ((mm 8), .inl (cI, 96, .inl li)), ((mm 9), .inl (cI, 6, .inl cr))] sz)) (va_A [((mm 0), .inr (5, [.ref (mm 1), .ref (mm 2), .ref (mm 3), .ref (mm 4), .int kp, .ref (mm 5), .int ty, .int th, .int at0, .int fa, .ref (mm 6), .int ts, .ref (mm 7), .ref (mm 8), .ref (mm 9), .int fr])), ((mm 1), .inl (cI, 12, .inl xm_mk)), ((mm 2), .inl (cI, 80, .inl v)), ((mm 7), .inl (cI, 96, .inl ow)), ((mm 8), .inl (cI, 96, .inl li)), ((mm 9), .inl (cI, 6, .inl cr))] sz)) 0 0 (va_A [((mm 0), .inr (5, [.ref (mm 1), .ref (mm 2), .ref (mm 3), .ref (mm 4), .int kp, .ref (mm 5), .int ty, .int th, .int at0, .int fa, .ref (mm 6), .int ts, .ref (mm 7), .ref (mm 8), .ref (mm 9), .int fr])), ((mm 1), .inl (cI, 12, .inl xm_mk)), ((mm 2), .inl (cI, 80, .inl v)), ((mm 7), .inl (cI, 96, .inl ow)), ((mm 8), .inl (cI, 96, .inl li)), ((mm 9), .inl (cI, 6, .inl cr))] sz) := by
  refine Met.ofW (cc := cX5_ofDigit) (maxL := 3) (ret := (some .int)) (by decide) rfl ?_
  intro p e s m args below meth c s₁ B hml hv
  obtain ⟨rfl, hsz, hP, hE, hD0, hpre⟩ := hv
  have hx := B.exec
  have hb := B.bytes
  have hr := B.returns
  have hts := atoms_spec (ws := wsX5_ofDigit) B.pre
  have hown : s.vm.findClass RX5 = some m.cls := findClass_of_methodNamed B.named
  have hlocks := B.notSynchronized
  have hK := hE.1
  subst hsz
  have hD := hD0.self (sz := s.heap.size)
  generalize hAe : va_A [((mm 0), .inr (5, [.ref (mm 1), .ref (mm 2), .ref (mm 3), .ref (mm 4), .int kp, .ref (mm 5), .int ty, .int th, .int at0, .int fa, .ref (mm 6), .int ts, .ref (mm 7), .ref (mm 8), .ref (mm 9), .int fr])), ((mm 1), .inl (cI, 12, .inl xm_mk)), ((mm 2), .inl (cI, 80, .inl v)), ((mm 7), .inl (cI, 96, .inl ow)), ((mm 8), .inl (cI, 96, .inl li)), ((mm 9), .inl (cI, 6, .inl cr))] s.heap.size = A at hD hE ⊢
  have hA : ∀ q : Nat, s.heap.size ≤ q → A q := fun q h => by rw [← hAe]; exact Or.inr h
  have hS : va_S A s.heap s.heap [] := va_S.rf
  have hP : va_P (dC, dI) vwCl [((mm 0), .inr (5, [.ref (mm 1), .ref (mm 2), .ref (mm 3), .ref (mm 4), .int kp, .ref (mm 5), .int ty, .int th, .int at0, .int fa, .ref (mm 6), .int ts, .ref (mm 7), .ref (mm 8), .ref (mm 9), .int fr])), ((mm 1), .inl (cI, 12, .inl xm_mk)), ((mm 2), .inl (cI, 80, .inl v)), ((mm 7), .inl (cI, 96, .inl ow)), ((mm 8), .inl (cI, 96, .inl li)), ((mm 9), .inl (cI, 6, .inl cr))] s.heap := hP
  have hin5 : ∀ w ∈ u_ws RX5 TX5 16, w ∈ wsX5_ofDigit := by decide +kernel
  have hl := lv_entry [.ref (mm 0), .int (nI d), .int (nI w0)] (n := 3) (Nat.le_of_ble_eq_true rfl)
  rw [lg_entry_eq]
  generalize (lg_sl [.ref (mm 0), .int (nI d), .int (nI w0)] ++ List.replicate (3 - (lg_sl [.ref (mm 0), .int (nI d), .int (nI w0)]).length) Slot.unset).toArray = lz at hl ⊢
  have hl : lv_has lz 3 [(0, .ref (mm 0)), (1, .int (nI d)), (2, .int (nI w0))] := hl
  obtain ⟨⟨hvo, hok⟩, hd6, hw11⟩ := hpre
  have hsg := hok d hd6
  rcases (show w0 = 0 ∨ w0 = 1 ∨ w0 = 2 ∨ w0 = 3 ∨ w0 = 4 ∨ w0 = 5 ∨ w0 = 6 ∨ w0 = 7 ∨ w0 = 8 ∨ w0 = 9 ∨ w0 = 10 ∨ w0 = 11 from (by omega)) with rfl | rfl | rfl | rfl | rfl | rfl | rfl | rfl | rfl | rfl | rfl | rfl
  · refine lv_iload_n hx hb dX5_ofDigit_0 rfl (lv_at hl 2 rfl) ?_
    refine lv_iconst (v := 5) hx hb dX5_ofDigit_1 (by decide) ?_
    refine lv_icmp_ge (tgt := 59) hx hb dX5_ofDigit_2 (by decide) (fun q9 => absurd q9 (by decide)) (fun q9 => ?_)
    refine lv_iload_n hx hb dX5_ofDigit_5 rfl (lv_at hl 2 rfl) ?_
    refine lv_iconst (v := 3) hx hb dX5_ofDigit_6 (by decide) ?_
    refine lv_icmp_ge (tgt := 27) hx hb dX5_ofDigit_7 (by decide) (fun q9 => absurd q9 (by decide)) (fun q9 => ?_)
    refine lv_aload_n hx hb dX5_ofDigit_10 rfl (lv_at hl 0 rfl) ?_
    refine va_get (D := (dC, dI)) (ci := 5) (v := .ref (mm 2)) (C := RX5) (T := TX5) (N := 16) hx hb hts hin5 hown hK hP 0 rfl rfl 1 (by decide) (hts (.fieldLink RX5 13 "TurnDigitsModel" "now" "[I") (by decide +kernel)) (fun _ h9 => h9) rfl dX5_ofDigit_11 ?_
    refine lv_bipush (v := 8) hx hb dX5_ofDigit_14 (by decide) ?_
    refine lv_bipush (v := 6) hx hb dX5_ofDigit_16 (by decide) ?_
    refine lv_iload_n hx hb dX5_ofDigit_18 rfl (lv_at hl 2 rfl) ?_
    refine lv_imul hx hb dX5_ofDigit_19 ?_
    refine xm_topi (y := nI (6 * 0)) (pk_mul 6 0) ?_
    refine lv_iadd hx hb dX5_ofDigit_20 ?_
    refine xm_topi (y := nI (8 + (6 * 0))) (nI_add 8 (6 * 0)) ?_
    refine lv_iload_n hx hb dX5_ofDigit_21 rfl (lv_at hl 1 rfl) ?_
    refine lv_iadd hx hb dX5_ofDigit_22 ?_
    refine xm_topi (y := nI (8 + (6 * 0) + d)) (nI_add (8 + (6 * 0)) d) ?_
    refine xm_iald (D := (dC, dI)) hx hb hK hP 2 0 (8 + (6 * 0) + d) (v := v (8 + (6 * 0) + d)) rfl rfl (by decide) rfl (by omega) rfl dX5_ofDigit_23 ?_
    refine lv_goto (tgt := 58) hx hb dX5_ofDigit_24 (by decide) ?_
    have hP9 : va_P (dC, dI) vwCl [((mm 0), .inr (5, [.ref (mm 1), .ref (mm 2), .ref (mm 3), .ref (mm 4), .int kp, .ref (mm 5), .int ty, .int th, .int at0, .int fa, .ref (mm 6), .int ts, .ref (mm 7), .ref (mm 8), .ref (mm 9), .int fr])), ((mm 1), .inl (cI, 12, .inl xm_mk)), ((mm 2), .inl (cI, 80, .inl v)), ((mm 7), .inl (cI, 96, .inl ow)), ((mm 8), .inl (cI, 96, .inl li)), ((mm 9), .inl (cI, 6, .inl cr))] s.heap := hP
    have hD9 : va_D A [((mm 0), .inr (5, [.ref (mm 1), .ref (mm 2), .ref (mm 3), .ref (mm 4), .int kp, .ref (mm 5), .int ty, .int th, .int at0, .int fa, .ref (mm 6), .int ts, .ref (mm 7), .ref (mm 8), .ref (mm 9), .int fr])), ((mm 1), .inl (cI, 12, .inl xm_mk)), ((mm 2), .inl (cI, 80, .inl v)), ((mm 7), .inl (cI, 96, .inl ow)), ((mm 8), .inl (cI, 96, .inl li)), ((mm 9), .inl (cI, 6, .inl cr))] := hD
    exact W.iret (v := v (8 + (6 * 0) + d)) hx hb hr (fun t ht hW => ⟨⟨v (8 + (6 * 0) + d), (fr, ow, li, cr), rfl, (rfl), by rw [ht]; exact hP9, hD9⟩, hS.F ht⟩) hS.2.2 dX5_ofDigit_58
  · refine lv_iload_n hx hb dX5_ofDigit_0 rfl (lv_at hl 2 rfl) ?_
    refine lv_iconst (v := 5) hx hb dX5_ofDigit_1 (by decide) ?_
    refine lv_icmp_ge (tgt := 59) hx hb dX5_ofDigit_2 (by decide) (fun q9 => absurd q9 (by decide)) (fun q9 => ?_)
    refine lv_iload_n hx hb dX5_ofDigit_5 rfl (lv_at hl 2 rfl) ?_
    refine lv_iconst (v := 3) hx hb dX5_ofDigit_6 (by decide) ?_
    refine lv_icmp_ge (tgt := 27) hx hb dX5_ofDigit_7 (by decide) (fun q9 => absurd q9 (by decide)) (fun q9 => ?_)
    refine lv_aload_n hx hb dX5_ofDigit_10 rfl (lv_at hl 0 rfl) ?_
    refine va_get (D := (dC, dI)) (ci := 5) (v := .ref (mm 2)) (C := RX5) (T := TX5) (N := 16) hx hb hts hin5 hown hK hP 0 rfl rfl 1 (by decide) (hts (.fieldLink RX5 13 "TurnDigitsModel" "now" "[I") (by decide +kernel)) (fun _ h9 => h9) rfl dX5_ofDigit_11 ?_
    refine lv_bipush (v := 8) hx hb dX5_ofDigit_14 (by decide) ?_
    refine lv_bipush (v := 6) hx hb dX5_ofDigit_16 (by decide) ?_
    refine lv_iload_n hx hb dX5_ofDigit_18 rfl (lv_at hl 2 rfl) ?_
    refine lv_imul hx hb dX5_ofDigit_19 ?_
    refine xm_topi (y := nI (6 * 1)) (pk_mul 6 1) ?_
    refine lv_iadd hx hb dX5_ofDigit_20 ?_
    refine xm_topi (y := nI (8 + (6 * 1))) (nI_add 8 (6 * 1)) ?_
    refine lv_iload_n hx hb dX5_ofDigit_21 rfl (lv_at hl 1 rfl) ?_
    refine lv_iadd hx hb dX5_ofDigit_22 ?_
    refine xm_topi (y := nI (8 + (6 * 1) + d)) (nI_add (8 + (6 * 1)) d) ?_
    refine xm_iald (D := (dC, dI)) hx hb hK hP 2 0 (8 + (6 * 1) + d) (v := v (8 + (6 * 1) + d)) rfl rfl (by decide) rfl (by omega) rfl dX5_ofDigit_23 ?_
    refine lv_goto (tgt := 58) hx hb dX5_ofDigit_24 (by decide) ?_
    have hP9 : va_P (dC, dI) vwCl [((mm 0), .inr (5, [.ref (mm 1), .ref (mm 2), .ref (mm 3), .ref (mm 4), .int kp, .ref (mm 5), .int ty, .int th, .int at0, .int fa, .ref (mm 6), .int ts, .ref (mm 7), .ref (mm 8), .ref (mm 9), .int fr])), ((mm 1), .inl (cI, 12, .inl xm_mk)), ((mm 2), .inl (cI, 80, .inl v)), ((mm 7), .inl (cI, 96, .inl ow)), ((mm 8), .inl (cI, 96, .inl li)), ((mm 9), .inl (cI, 6, .inl cr))] s.heap := hP
    have hD9 : va_D A [((mm 0), .inr (5, [.ref (mm 1), .ref (mm 2), .ref (mm 3), .ref (mm 4), .int kp, .ref (mm 5), .int ty, .int th, .int at0, .int fa, .ref (mm 6), .int ts, .ref (mm 7), .ref (mm 8), .ref (mm 9), .int fr])), ((mm 1), .inl (cI, 12, .inl xm_mk)), ((mm 2), .inl (cI, 80, .inl v)), ((mm 7), .inl (cI, 96, .inl ow)), ((mm 8), .inl (cI, 96, .inl li)), ((mm 9), .inl (cI, 6, .inl cr))] := hD
    exact W.iret (v := v (8 + (6 * 1) + d)) hx hb hr (fun t ht hW => ⟨⟨v (8 + (6 * 1) + d), (fr, ow, li, cr), rfl, (rfl), by rw [ht]; exact hP9, hD9⟩, hS.F ht⟩) hS.2.2 dX5_ofDigit_58
  · refine lv_iload_n hx hb dX5_ofDigit_0 rfl (lv_at hl 2 rfl) ?_
    refine lv_iconst (v := 5) hx hb dX5_ofDigit_1 (by decide) ?_
    refine lv_icmp_ge (tgt := 59) hx hb dX5_ofDigit_2 (by decide) (fun q9 => absurd q9 (by decide)) (fun q9 => ?_)
    refine lv_iload_n hx hb dX5_ofDigit_5 rfl (lv_at hl 2 rfl) ?_
    refine lv_iconst (v := 3) hx hb dX5_ofDigit_6 (by decide) ?_
    refine lv_icmp_ge (tgt := 27) hx hb dX5_ofDigit_7 (by decide) (fun q9 => absurd q9 (by decide)) (fun q9 => ?_)
    refine lv_aload_n hx hb dX5_ofDigit_10 rfl (lv_at hl 0 rfl) ?_
    refine va_get (D := (dC, dI)) (ci := 5) (v := .ref (mm 2)) (C := RX5) (T := TX5) (N := 16) hx hb hts hin5 hown hK hP 0 rfl rfl 1 (by decide) (hts (.fieldLink RX5 13 "TurnDigitsModel" "now" "[I") (by decide +kernel)) (fun _ h9 => h9) rfl dX5_ofDigit_11 ?_
    refine lv_bipush (v := 8) hx hb dX5_ofDigit_14 (by decide) ?_
    refine lv_bipush (v := 6) hx hb dX5_ofDigit_16 (by decide) ?_
    refine lv_iload_n hx hb dX5_ofDigit_18 rfl (lv_at hl 2 rfl) ?_
    refine lv_imul hx hb dX5_ofDigit_19 ?_
    refine xm_topi (y := nI (6 * 2)) (pk_mul 6 2) ?_
    refine lv_iadd hx hb dX5_ofDigit_20 ?_
    refine xm_topi (y := nI (8 + (6 * 2))) (nI_add 8 (6 * 2)) ?_
    refine lv_iload_n hx hb dX5_ofDigit_21 rfl (lv_at hl 1 rfl) ?_
    refine lv_iadd hx hb dX5_ofDigit_22 ?_
    refine xm_topi (y := nI (8 + (6 * 2) + d)) (nI_add (8 + (6 * 2)) d) ?_
    refine xm_iald (D := (dC, dI)) hx hb hK hP 2 0 (8 + (6 * 2) + d) (v := v (8 + (6 * 2) + d)) rfl rfl (by decide) rfl (by omega) rfl dX5_ofDigit_23 ?_
    refine lv_goto (tgt := 58) hx hb dX5_ofDigit_24 (by decide) ?_
    have hP9 : va_P (dC, dI) vwCl [((mm 0), .inr (5, [.ref (mm 1), .ref (mm 2), .ref (mm 3), .ref (mm 4), .int kp, .ref (mm 5), .int ty, .int th, .int at0, .int fa, .ref (mm 6), .int ts, .ref (mm 7), .ref (mm 8), .ref (mm 9), .int fr])), ((mm 1), .inl (cI, 12, .inl xm_mk)), ((mm 2), .inl (cI, 80, .inl v)), ((mm 7), .inl (cI, 96, .inl ow)), ((mm 8), .inl (cI, 96, .inl li)), ((mm 9), .inl (cI, 6, .inl cr))] s.heap := hP
    have hD9 : va_D A [((mm 0), .inr (5, [.ref (mm 1), .ref (mm 2), .ref (mm 3), .ref (mm 4), .int kp, .ref (mm 5), .int ty, .int th, .int at0, .int fa, .ref (mm 6), .int ts, .ref (mm 7), .ref (mm 8), .ref (mm 9), .int fr])), ((mm 1), .inl (cI, 12, .inl xm_mk)), ((mm 2), .inl (cI, 80, .inl v)), ((mm 7), .inl (cI, 96, .inl ow)), ((mm 8), .inl (cI, 96, .inl li)), ((mm 9), .inl (cI, 6, .inl cr))] := hD
    exact W.iret (v := v (8 + (6 * 2) + d)) hx hb hr (fun t ht hW => ⟨⟨v (8 + (6 * 2) + d), (fr, ow, li, cr), rfl, (rfl), by rw [ht]; exact hP9, hD9⟩, hS.F ht⟩) hS.2.2 dX5_ofDigit_58
  · refine lv_iload_n hx hb dX5_ofDigit_0 rfl (lv_at hl 2 rfl) ?_
    refine lv_iconst (v := 5) hx hb dX5_ofDigit_1 (by decide) ?_
    refine lv_icmp_ge (tgt := 59) hx hb dX5_ofDigit_2 (by decide) (fun q9 => absurd q9 (by decide)) (fun q9 => ?_)
    refine lv_iload_n hx hb dX5_ofDigit_5 rfl (lv_at hl 2 rfl) ?_
    refine lv_iconst (v := 3) hx hb dX5_ofDigit_6 (by decide) ?_
    refine lv_icmp_ge (tgt := 27) hx hb dX5_ofDigit_7 (by decide) (fun q9 => ?_) (fun q9 => absurd (by decide) q9)
    refine lv_iload_n hx hb dX5_ofDigit_27 rfl (lv_at hl 2 rfl) ?_
    refine lv_iconst (v := 3) hx hb dX5_ofDigit_28 (by decide) ?_
    refine lv_icmp_ne (tgt := 49) hx hb dX5_ofDigit_29 (by decide) (fun q9 => absurd (by decide) q9) (fun q9 => ?_)
    refine lv_aload_n hx hb dX5_ofDigit_32 rfl (lv_at hl 0 rfl) ?_
    refine lv_iload_n hx hb dX5_ofDigit_33 rfl (lv_at hl 1 rfl) ?_
    refine lv_aload_n hx hb dX5_ofDigit_34 rfl (lv_at hl 0 rfl) ?_
    refine va_get (D := (dC, dI)) (ci := 5) (v := .ref (mm 2)) (C := RX5) (T := TX5) (N := 16) hx hb hts hin5 hown hK hP 0 rfl rfl 1 (by decide) (hts (.fieldLink RX5 13 "TurnDigitsModel" "now" "[I") (by decide +kernel)) (fun _ h9 => h9) rfl dX5_ofDigit_35 ?_
    refine lv_bipush (v := 8) hx hb dX5_ofDigit_38 (by decide) ?_
    refine lv_iload_n hx hb dX5_ofDigit_40 rfl (lv_at hl 1 rfl) ?_
    refine lv_iadd hx hb dX5_ofDigit_41 ?_
    refine xm_topi (y := nI (8 + d)) (nI_add 8 d) ?_
    refine xm_iald (D := (dC, dI)) hx hb hK hP 2 0 (8 + d) (v := v (8 + d)) rfl rfl (by decide) rfl (by omega) rfl dX5_ofDigit_42 ?_
    refine xm_topi (y := (nI (v (8 + d)).toNatClampNeg)) hsg.1 ?_
    have hPc := hP.sub (ws' := [((mm 0), .inr (5, [.ref (mm 1), .ref (mm 2), .ref (mm 3), .ref (mm 4), .int kp, .ref (mm 5), .int ty, .int th, .int at0, .int fa, .ref (mm 6), .int ts, .ref (mm 7), .ref (mm 8), .ref (mm 9), .int fr])), ((mm 1), .inl (cI, 12, .inl xm_mk)), ((mm 2), .inl (cI, 80, .inl v))]) [0, 1, 2] rfl
    refine W.callV ((va_runV (As := [.int (nI d), .int (nI (v (8 + d)).toNatClampNeg)]) (rest := []) ⟨hx, hb, hml, hown, hts⟩ (c_X5_shownAs l dC dI cI cS cJ tt mm kp ty th at0 fa ts fr v d ((v (8 + d)).toNatClampNeg)) (cwV 2 hts gX5_ofDigit_X5_shownAs rfl rfl rfl (by decide +kernel) ⟨Nat.le_of_ble_eq_true rfl, Nat.le_of_ble_eq_true rfl⟩) ⟨xm_Rblind, va_recv hK hPc (ci := 5) (q0 := 0) rfl rfl, fun U hU hW => ⟨rfl, by rw [hU]; exact hPc, hE.go hS (fun _ q => q.elim) hU hW, ⟨hd6, hsg.2⟩⟩⟩ rfl rfl hl.1 rfl (lv_room (Nat.le_of_ble_eq_true rfl)) dX5_ofDigit_43 ⟨Nat.zero_le _, Nat.zero_le _⟩).run) ?_
    refine W.eq (g2 := F0 m 46 lz (.int (xm_mk ((v (8 + d)).toNatClampNeg) &&& (v (20 + d) ^^^ (-1))) :: [])) rfl ?_
    refine lv_goto (tgt := 58) hx hb dX5_ofDigit_46 (by decide) ?_
    have hP9 : va_P (dC, dI) vwCl [((mm 0), .inr (5, [.ref (mm 1), .ref (mm 2), .ref (mm 3), .ref (mm 4), .int kp, .ref (mm 5), .int ty, .int th, .int at0, .int fa, .ref (mm 6), .int ts, .ref (mm 7), .ref (mm 8), .ref (mm 9), .int fr])), ((mm 1), .inl (cI, 12, .inl xm_mk)), ((mm 2), .inl (cI, 80, .inl v)), ((mm 7), .inl (cI, 96, .inl ow)), ((mm 8), .inl (cI, 96, .inl li)), ((mm 9), .inl (cI, 6, .inl cr))] s.heap := hP
    have hD9 : va_D A [((mm 0), .inr (5, [.ref (mm 1), .ref (mm 2), .ref (mm 3), .ref (mm 4), .int kp, .ref (mm 5), .int ty, .int th, .int at0, .int fa, .ref (mm 6), .int ts, .ref (mm 7), .ref (mm 8), .ref (mm 9), .int fr])), ((mm 1), .inl (cI, 12, .inl xm_mk)), ((mm 2), .inl (cI, 80, .inl v)), ((mm 7), .inl (cI, 96, .inl ow)), ((mm 8), .inl (cI, 96, .inl li)), ((mm 9), .inl (cI, 6, .inl cr))] := hD
    exact W.iret (v := xm_mk ((v (8 + d)).toNatClampNeg) &&& (v (20 + d) ^^^ (-1))) hx hb hr (fun t ht hW => ⟨⟨xm_mk ((v (8 + d)).toNatClampNeg) &&& (v (20 + d) ^^^ (-1)), (fr, ow, li, cr), rfl, (rfl), by rw [ht]; exact hP9, hD9⟩, hS.F ht⟩) hS.2.2 dX5_ofDigit_58
  · refine lv_iload_n hx hb dX5_ofDigit_0 rfl (lv_at hl 2 rfl) ?_
    refine lv_iconst (v := 5) hx hb dX5_ofDigit_1 (by decide) ?_
    refine lv_icmp_ge (tgt := 59) hx hb dX5_ofDigit_2 (by decide) (fun q9 => absurd q9 (by decide)) (fun q9 => ?_)
    refine lv_iload_n hx hb dX5_ofDigit_5 rfl (lv_at hl 2 rfl) ?_
    refine lv_iconst (v := 3) hx hb dX5_ofDigit_6 (by decide) ?_
    refine lv_icmp_ge (tgt := 27) hx hb dX5_ofDigit_7 (by decide) (fun q9 => ?_) (fun q9 => absurd (by decide) q9)
    refine lv_iload_n hx hb dX5_ofDigit_27 rfl (lv_at hl 2 rfl) ?_
    refine lv_iconst (v := 3) hx hb dX5_ofDigit_28 (by decide) ?_
    refine lv_icmp_ne (tgt := 49) hx hb dX5_ofDigit_29 (by decide) (fun q9 => ?_) (fun q9 => absurd q9 (by decide))
    refine lv_aload_n hx hb dX5_ofDigit_49 rfl (lv_at hl 0 rfl) ?_
    refine va_get (D := (dC, dI)) (ci := 5) (v := .ref (mm 2)) (C := RX5) (T := TX5) (N := 16) hx hb hts hin5 hown hK hP 0 rfl rfl 1 (by decide) (hts (.fieldLink RX5 13 "TurnDigitsModel" "now" "[I") (by decide +kernel)) (fun _ h9 => h9) rfl dX5_ofDigit_50 ?_
    refine lv_bipush (v := 26) hx hb dX5_ofDigit_53 (by decide) ?_
    refine lv_iload_n hx hb dX5_ofDigit_55 rfl (lv_at hl 1 rfl) ?_
    refine lv_iadd hx hb dX5_ofDigit_56 ?_
    refine xm_topi (y := nI (26 + d)) (nI_add 26 d) ?_
    refine xm_iald (D := (dC, dI)) hx hb hK hP 2 0 (26 + d) (v := v (26 + d)) rfl rfl (by decide) rfl (by omega) rfl dX5_ofDigit_57 ?_
    have hP9 : va_P (dC, dI) vwCl [((mm 0), .inr (5, [.ref (mm 1), .ref (mm 2), .ref (mm 3), .ref (mm 4), .int kp, .ref (mm 5), .int ty, .int th, .int at0, .int fa, .ref (mm 6), .int ts, .ref (mm 7), .ref (mm 8), .ref (mm 9), .int fr])), ((mm 1), .inl (cI, 12, .inl xm_mk)), ((mm 2), .inl (cI, 80, .inl v)), ((mm 7), .inl (cI, 96, .inl ow)), ((mm 8), .inl (cI, 96, .inl li)), ((mm 9), .inl (cI, 6, .inl cr))] s.heap := hP
    have hD9 : va_D A [((mm 0), .inr (5, [.ref (mm 1), .ref (mm 2), .ref (mm 3), .ref (mm 4), .int kp, .ref (mm 5), .int ty, .int th, .int at0, .int fa, .ref (mm 6), .int ts, .ref (mm 7), .ref (mm 8), .ref (mm 9), .int fr])), ((mm 1), .inl (cI, 12, .inl xm_mk)), ((mm 2), .inl (cI, 80, .inl v)), ((mm 7), .inl (cI, 96, .inl ow)), ((mm 8), .inl (cI, 96, .inl li)), ((mm 9), .inl (cI, 6, .inl cr))] := hD
    exact W.iret (v := v (26 + d)) hx hb hr (fun t ht hW => ⟨⟨v (26 + d), (fr, ow, li, cr), rfl, (rfl), by rw [ht]; exact hP9, hD9⟩, hS.F ht⟩) hS.2.2 dX5_ofDigit_58
  · refine lv_iload_n hx hb dX5_ofDigit_0 rfl (lv_at hl 2 rfl) ?_
    refine lv_iconst (v := 5) hx hb dX5_ofDigit_1 (by decide) ?_
    refine lv_icmp_ge (tgt := 59) hx hb dX5_ofDigit_2 (by decide) (fun q9 => ?_) (fun q9 => absurd (by decide) q9)
    refine lv_iload_n hx hb dX5_ofDigit_59 rfl (lv_at hl 2 rfl) ?_
    refine lv_bipush (v := 9) hx hb dX5_ofDigit_60 (by decide) ?_
    refine lv_icmp_le (tgt := 89) hx hb dX5_ofDigit_62 (by decide) (fun q9 => ?_) (fun q9 => absurd (by decide) q9)
    refine lv_aload_n hx hb dX5_ofDigit_89 rfl (lv_at hl 0 rfl) ?_
    refine lv_aload_n hx hb dX5_ofDigit_90 rfl (lv_at hl 0 rfl) ?_
    refine va_get (D := (dC, dI)) (ci := 5) (v := .ref (mm 2)) (C := RX5) (T := TX5) (N := 16) hx hb hts hin5 hown hK hP 0 rfl rfl 1 (by decide) (hts (.fieldLink RX5 13 "TurnDigitsModel" "now" "[I") (by decide +kernel)) (fun _ h9 => h9) rfl dX5_ofDigit_91 ?_
    have hPc := hP.sub (ws' := [((mm 0), .inr (5, [.ref (mm 1), .ref (mm 2), .ref (mm 3), .ref (mm 4), .int kp, .ref (mm 5), .int ty, .int th, .int at0, .int fa, .ref (mm 6), .int ts, .ref (mm 7), .ref (mm 8), .ref (mm 9), .int fr])), ((mm 7), .inl (cI, 96, .inl ow)), ((mm 8), .inl (cI, 96, .inl li)), ((mm 9), .inl (cI, 6, .inl cr)), ((mm 2), .inl (cI, 80, .inl v))]) [0, 3, 4, 5, 2] rfl
    have hDc := hD.sub (ws' := [((mm 0), .inr (5, [.ref (mm 1), .ref (mm 2), .ref (mm 3), .ref (mm 4), .int kp, .ref (mm 5), .int ty, .int th, .int at0, .int fa, .ref (mm 6), .int ts, .ref (mm 7), .ref (mm 8), .ref (mm 9), .int fr])), ((mm 7), .inl (cI, 96, .inl ow)), ((mm 8), .inl (cI, 96, .inl li)), ((mm 9), .inl (cI, 6, .inl cr)), ((mm 2), .inl (cI, 80, .inl v))]) [0, 3, 4, 5, 2] (by decide) rfl
    have hFc := va_free (wc := [((mm 0), .inr (5, [.ref (mm 1), .ref (mm 2), .ref (mm 3), .ref (mm 4), .int kp, .ref (mm 5), .int ty, .int th, .int at0, .int fa, .ref (mm 6), .int ts, .ref (mm 7), .ref (mm 8), .ref (mm 9), .int fr])), ((mm 7), .inl (cI, 96, .inl ow)), ((mm 8), .inl (cI, 96, .inl li)), ((mm 9), .inl (cI, 6, .inl cr)), ((mm 2), .inl (cI, 80, .inl v))]) hD hS hA [0, 3, 4, 5, 2] rfl
    refine va_callv (va_runV (As := [.ref (mm 2)]) (rest := []) ⟨hx, hb, hml, hown, hts⟩ (c_X5_frames l dC dI cI cS cJ tt s.heap.size mm kp ty th at0 fa ts fr (mm 2) v ow li cr n) (cwV 1 hts gX5_ofDigit_X5_frames rfl rfl rfl (by decide +kernel) ⟨Nat.le_of_ble_eq_true rfl, Nat.le_of_ble_eq_true rfl⟩) ⟨xm_Mblind, va_recv hK hPc (ci := 5) (q0 := 0) rfl rfl, fun U hU hW => ⟨rfl, by rw [hU], by rw [hU]; exact hPc, hE.go hS hFc hU hW, hDc.weaken (fun _ _ _ _ => trivial), hvo⟩⟩ rfl rfl hl.1 rfl (lv_room (Nat.le_of_ble_eq_true rfl)) dX5_ofDigit_94 ⟨Nat.zero_le _, Nat.zero_le _⟩) hS (fun q _ h => hFc q h) hFc (fun u t H1 locs ht hvm hw hB hz1 hk1 hS => ?_)
    obtain ⟨u_1, u_2, u_3, u_4⟩ := u
    obtain ⟨hP1, hD1⟩ := hB
    rw [ht] at hP1
    obtain ⟨hw_5, hw_6, hw_7⟩ := hw
    have hw_5 : u_1 = nI n := hw_5
    subst hw_5
    have hw_6 : u_2 = fm_fl (fs_ow v) ow n := hw_6
    subst hw_6
    have hw_7 : u_3 = fm_fl (fs_li v) li n := hw_7
    subst hw_7
    obtain ⟨hP, hD⟩ := va_join (wr := [((mm 1), .inl (cI, 12, .inl xm_mk))]) (w1 := [((mm 0), .inr (5, [.ref (mm 1), .ref (mm 2), .ref (mm 3), .ref (mm 4), .int kp, .ref (mm 5), .int ty, .int th, .int at0, .int fa, .ref (mm 6), .int ts, .ref (mm 7), .ref (mm 8), .ref (mm 9), .int (nI n)])), ((mm 7), .inl (cI, 96, .inl (fm_fl (fs_ow v) ow n))), ((mm 8), .inl (cI, 96, .inl (fm_fl (fs_li v) li n))), ((mm 9), .inl (cI, 6, .inl u_4)), ((mm 2), .inl (cI, 80, .inl v))]) hP hD [0, 3, 4, 5, 2] [1] rfl rfl (by decide) (by decide) hk1 hFc hP1 hD1
    generalize H1 = H at hP hS ⊢
    have hP : va_P (dC, dI) vwCl [((mm 1), .inl (cI, 12, .inl xm_mk)), ((mm 0), .inr (5, [.ref (mm 1), .ref (mm 2), .ref (mm 3), .ref (mm 4), .int kp, .ref (mm 5), .int ty, .int th, .int at0, .int fa, .ref (mm 6), .int ts, .ref (mm 7), .ref (mm 8), .ref (mm 9), .int (nI n)])), ((mm 7), .inl (cI, 96, .inl (fm_fl (fs_ow v) ow n))), ((mm 8), .inl (cI, 96, .inl (fm_fl (fs_li v) li n))), ((mm 9), .inl (cI, 6, .inl u_4)), ((mm 2), .inl (cI, 80, .inl v))] H := hP
    have hD : va_D A [((mm 1), .inl (cI, 12, .inl xm_mk)), ((mm 0), .inr (5, [.ref (mm 1), .ref (mm 2), .ref (mm 3), .ref (mm 4), .int kp, .ref (mm 5), .int ty, .int th, .int at0, .int fa, .ref (mm 6), .int ts, .ref (mm 7), .ref (mm 8), .ref (mm 9), .int (nI n)])), ((mm 7), .inl (cI, 96, .inl (fm_fl (fs_ow v) ow n))), ((mm 8), .inl (cI, 96, .inl (fm_fl (fs_li v) li n))), ((mm 9), .inl (cI, 6, .inl u_4)), ((mm 2), .inl (cI, 80, .inl v))] := hD
    refine lv_iload_n hx hb dX5_ofDigit_97 rfl (lv_at hl 2 rfl) ?_
    refine lv_bipush (v := 7) hx hb dX5_ofDigit_98 (by decide) ?_
    refine lv_icmp_ge (tgt := 122) hx hb dX5_ofDigit_100 (by decide) (fun q9 => absurd q9 (by decide)) (fun q9 => ?_)
    refine lv_iload_n hx hb dX5_ofDigit_103 rfl (lv_at hl 2 rfl) ?_
    refine lv_iconst (v := 5) hx hb dX5_ofDigit_104 (by decide) ?_
    refine lv_icmp_ne (tgt := 116) hx hb dX5_ofDigit_105 (by decide) (fun q9 => absurd (by decide) q9) (fun q9 => ?_)
    refine lv_aload_n hx hb dX5_ofDigit_108 rfl (lv_at hl 0 rfl) ?_
    refine lv_iload_n hx hb dX5_ofDigit_109 rfl (lv_at hl 1 rfl) ?_
    have hPc := hP.sub (ws' := [((mm 0), .inr (5, [.ref (mm 1), .ref (mm 2), .ref (mm 3), .ref (mm 4), .int kp, .ref (mm 5), .int ty, .int th, .int at0, .int fa, .ref (mm 6), .int ts, .ref (mm 7), .ref (mm 8), .ref (mm 9), .int (nI n)])), ((mm 8), .inl (cI, 96, .inl (fm_fl (fs_li v) li n)))]) [1, 3] rfl
    refine W.callV ((va_runV (As := [.int (nI d)]) (rest := []) ⟨hx, hb, hml, hown, hts⟩ (c_X5_light l dC dI cI cS cJ tt mm kp ty th at0 fa ts (fs_li v) li n d) (cwV 1 hts gX5_ofDigit_X5_light rfl rfl rfl (by decide +kernel) ⟨Nat.le_of_ble_eq_true rfl, Nat.le_of_ble_eq_true rfl⟩) ⟨xm_Rblind, va_recv hK hPc (ci := 5) (q0 := 0) rfl rfl, fun U hU hW => ⟨rfl, by rw [hU]; exact hPc, hE.go hS (fun _ q => q.elim) hU hW, ⟨by have := hvo.2.1; omega, hvo.2.2.1⟩⟩⟩ rfl rfl hl.1 rfl (lv_room (Nat.le_of_ble_eq_true rfl)) dX5_ofDigit_110 ⟨Nat.zero_le _, Nat.zero_le _⟩).run) ?_
    refine W.eq (g2 := F0 m 113 lz (.int (fm_light (nI n) (fr_ls (fs_li v) n d)) :: [])) rfl ?_
    refine lv_goto (tgt := 121) hx hb dX5_ofDigit_113 (by decide) ?_
    have hP9 := hP.sub (ws' := [((mm 0), .inr (5, [.ref (mm 1), .ref (mm 2), .ref (mm 3), .ref (mm 4), .int kp, .ref (mm 5), .int ty, .int th, .int at0, .int fa, .ref (mm 6), .int ts, .ref (mm 7), .ref (mm 8), .ref (mm 9), .int (nI n)])), ((mm 1), .inl (cI, 12, .inl xm_mk)), ((mm 2), .inl (cI, 80, .inl v)), ((mm 7), .inl (cI, 96, .inl (fm_fl (fs_ow v) ow n))), ((mm 8), .inl (cI, 96, .inl (fm_fl (fs_li v) li n))), ((mm 9), .inl (cI, 6, .inl u_4))]) [1, 0, 5, 2, 3, 4] rfl
    have hD9 := hD.sub (ws' := [((mm 0), .inr (5, [.ref (mm 1), .ref (mm 2), .ref (mm 3), .ref (mm 4), .int kp, .ref (mm 5), .int ty, .int th, .int at0, .int fa, .ref (mm 6), .int ts, .ref (mm 7), .ref (mm 8), .ref (mm 9), .int (nI n)])), ((mm 1), .inl (cI, 12, .inl xm_mk)), ((mm 2), .inl (cI, 80, .inl v)), ((mm 7), .inl (cI, 96, .inl (fm_fl (fs_ow v) ow n))), ((mm 8), .inl (cI, 96, .inl (fm_fl (fs_li v) li n))), ((mm 9), .inl (cI, 6, .inl u_4))]) [1, 0, 5, 2, 3, 4] (by decide) rfl
    exact W.iret (v := fm_light (nI n) (fr_ls (fs_li v) n d)) hx hb hr (fun t ht hW => ⟨⟨fm_light (nI n) (fr_ls (fs_li v) n d), ((nI n), (fm_fl (fs_ow v) ow n), (fm_fl (fs_li v) li n), u_4), rfl, (by show _ = fm_light (v 2) _; rw [hvo.1]; rfl), by rw [ht]; exact hP9, hD9⟩, hS.F ht⟩) hS.2.2 dX5_ofDigit_121
  · refine lv_iload_n hx hb dX5_ofDigit_0 rfl (lv_at hl 2 rfl) ?_
    refine lv_iconst (v := 5) hx hb dX5_ofDigit_1 (by decide) ?_
    refine lv_icmp_ge (tgt := 59) hx hb dX5_ofDigit_2 (by decide) (fun q9 => ?_) (fun q9 => absurd (by decide) q9)
    refine lv_iload_n hx hb dX5_ofDigit_59 rfl (lv_at hl 2 rfl) ?_
    refine lv_bipush (v := 9) hx hb dX5_ofDigit_60 (by decide) ?_
    refine lv_icmp_le (tgt := 89) hx hb dX5_ofDigit_62 (by decide) (fun q9 => ?_) (fun q9 => absurd (by decide) q9)
    refine lv_aload_n hx hb dX5_ofDigit_89 rfl (lv_at hl 0 rfl) ?_
    refine lv_aload_n hx hb dX5_ofDigit_90 rfl (lv_at hl 0 rfl) ?_
    refine va_get (D := (dC, dI)) (ci := 5) (v := .ref (mm 2)) (C := RX5) (T := TX5) (N := 16) hx hb hts hin5 hown hK hP 0 rfl rfl 1 (by decide) (hts (.fieldLink RX5 13 "TurnDigitsModel" "now" "[I") (by decide +kernel)) (fun _ h9 => h9) rfl dX5_ofDigit_91 ?_
    have hPc := hP.sub (ws' := [((mm 0), .inr (5, [.ref (mm 1), .ref (mm 2), .ref (mm 3), .ref (mm 4), .int kp, .ref (mm 5), .int ty, .int th, .int at0, .int fa, .ref (mm 6), .int ts, .ref (mm 7), .ref (mm 8), .ref (mm 9), .int fr])), ((mm 7), .inl (cI, 96, .inl ow)), ((mm 8), .inl (cI, 96, .inl li)), ((mm 9), .inl (cI, 6, .inl cr)), ((mm 2), .inl (cI, 80, .inl v))]) [0, 3, 4, 5, 2] rfl
    have hDc := hD.sub (ws' := [((mm 0), .inr (5, [.ref (mm 1), .ref (mm 2), .ref (mm 3), .ref (mm 4), .int kp, .ref (mm 5), .int ty, .int th, .int at0, .int fa, .ref (mm 6), .int ts, .ref (mm 7), .ref (mm 8), .ref (mm 9), .int fr])), ((mm 7), .inl (cI, 96, .inl ow)), ((mm 8), .inl (cI, 96, .inl li)), ((mm 9), .inl (cI, 6, .inl cr)), ((mm 2), .inl (cI, 80, .inl v))]) [0, 3, 4, 5, 2] (by decide) rfl
    have hFc := va_free (wc := [((mm 0), .inr (5, [.ref (mm 1), .ref (mm 2), .ref (mm 3), .ref (mm 4), .int kp, .ref (mm 5), .int ty, .int th, .int at0, .int fa, .ref (mm 6), .int ts, .ref (mm 7), .ref (mm 8), .ref (mm 9), .int fr])), ((mm 7), .inl (cI, 96, .inl ow)), ((mm 8), .inl (cI, 96, .inl li)), ((mm 9), .inl (cI, 6, .inl cr)), ((mm 2), .inl (cI, 80, .inl v))]) hD hS hA [0, 3, 4, 5, 2] rfl
    refine va_callv (va_runV (As := [.ref (mm 2)]) (rest := []) ⟨hx, hb, hml, hown, hts⟩ (c_X5_frames l dC dI cI cS cJ tt s.heap.size mm kp ty th at0 fa ts fr (mm 2) v ow li cr n) (cwV 1 hts gX5_ofDigit_X5_frames rfl rfl rfl (by decide +kernel) ⟨Nat.le_of_ble_eq_true rfl, Nat.le_of_ble_eq_true rfl⟩) ⟨xm_Mblind, va_recv hK hPc (ci := 5) (q0 := 0) rfl rfl, fun U hU hW => ⟨rfl, by rw [hU], by rw [hU]; exact hPc, hE.go hS hFc hU hW, hDc.weaken (fun _ _ _ _ => trivial), hvo⟩⟩ rfl rfl hl.1 rfl (lv_room (Nat.le_of_ble_eq_true rfl)) dX5_ofDigit_94 ⟨Nat.zero_le _, Nat.zero_le _⟩) hS (fun q _ h => hFc q h) hFc (fun u t H1 locs ht hvm hw hB hz1 hk1 hS => ?_)
    obtain ⟨u_8, u_9, u_10, u_11⟩ := u
    obtain ⟨hP1, hD1⟩ := hB
    rw [ht] at hP1
    obtain ⟨hw_12, hw_13, hw_14⟩ := hw
    have hw_12 : u_8 = nI n := hw_12
    subst hw_12
    have hw_13 : u_9 = fm_fl (fs_ow v) ow n := hw_13
    subst hw_13
    have hw_14 : u_10 = fm_fl (fs_li v) li n := hw_14
    subst hw_14
    obtain ⟨hP, hD⟩ := va_join (wr := [((mm 1), .inl (cI, 12, .inl xm_mk))]) (w1 := [((mm 0), .inr (5, [.ref (mm 1), .ref (mm 2), .ref (mm 3), .ref (mm 4), .int kp, .ref (mm 5), .int ty, .int th, .int at0, .int fa, .ref (mm 6), .int ts, .ref (mm 7), .ref (mm 8), .ref (mm 9), .int (nI n)])), ((mm 7), .inl (cI, 96, .inl (fm_fl (fs_ow v) ow n))), ((mm 8), .inl (cI, 96, .inl (fm_fl (fs_li v) li n))), ((mm 9), .inl (cI, 6, .inl u_11)), ((mm 2), .inl (cI, 80, .inl v))]) hP hD [0, 3, 4, 5, 2] [1] rfl rfl (by decide) (by decide) hk1 hFc hP1 hD1
    generalize H1 = H at hP hS ⊢
    have hP : va_P (dC, dI) vwCl [((mm 1), .inl (cI, 12, .inl xm_mk)), ((mm 0), .inr (5, [.ref (mm 1), .ref (mm 2), .ref (mm 3), .ref (mm 4), .int kp, .ref (mm 5), .int ty, .int th, .int at0, .int fa, .ref (mm 6), .int ts, .ref (mm 7), .ref (mm 8), .ref (mm 9), .int (nI n)])), ((mm 7), .inl (cI, 96, .inl (fm_fl (fs_ow v) ow n))), ((mm 8), .inl (cI, 96, .inl (fm_fl (fs_li v) li n))), ((mm 9), .inl (cI, 6, .inl u_11)), ((mm 2), .inl (cI, 80, .inl v))] H := hP
    have hD : va_D A [((mm 1), .inl (cI, 12, .inl xm_mk)), ((mm 0), .inr (5, [.ref (mm 1), .ref (mm 2), .ref (mm 3), .ref (mm 4), .int kp, .ref (mm 5), .int ty, .int th, .int at0, .int fa, .ref (mm 6), .int ts, .ref (mm 7), .ref (mm 8), .ref (mm 9), .int (nI n)])), ((mm 7), .inl (cI, 96, .inl (fm_fl (fs_ow v) ow n))), ((mm 8), .inl (cI, 96, .inl (fm_fl (fs_li v) li n))), ((mm 9), .inl (cI, 6, .inl u_11)), ((mm 2), .inl (cI, 80, .inl v))] := hD
    refine lv_iload_n hx hb dX5_ofDigit_97 rfl (lv_at hl 2 rfl) ?_
    refine lv_bipush (v := 7) hx hb dX5_ofDigit_98 (by decide) ?_
    refine lv_icmp_ge (tgt := 122) hx hb dX5_ofDigit_100 (by decide) (fun q9 => absurd q9 (by decide)) (fun q9 => ?_)
    refine lv_iload_n hx hb dX5_ofDigit_103 rfl (lv_at hl 2 rfl) ?_
    refine lv_iconst (v := 5) hx hb dX5_ofDigit_104 (by decide) ?_
    refine lv_icmp_ne (tgt := 116) hx hb dX5_ofDigit_105 (by decide) (fun q9 => ?_) (fun q9 => absurd q9 (by decide))
    refine lv_aload_n hx hb dX5_ofDigit_116 rfl (lv_at hl 0 rfl) ?_
    refine lv_iload_n hx hb dX5_ofDigit_117 rfl (lv_at hl 1 rfl) ?_
    have hPc := hP.sub (ws' := [((mm 0), .inr (5, [.ref (mm 1), .ref (mm 2), .ref (mm 3), .ref (mm 4), .int kp, .ref (mm 5), .int ty, .int th, .int at0, .int fa, .ref (mm 6), .int ts, .ref (mm 7), .ref (mm 8), .ref (mm 9), .int (nI n)])), ((mm 8), .inl (cI, 96, .inl (fm_fl (fs_li v) li n)))]) [1, 3] rfl
    refine W.callV ((va_runV (As := [.int (nI d)]) (rest := []) ⟨hx, hb, hml, hown, hts⟩ (c_X5_gap l dC dI cI cS cJ tt mm kp ty th at0 fa ts (fs_li v) li n d) (cwV 1 hts gX5_ofDigit_X5_gap rfl rfl rfl (by decide +kernel) ⟨Nat.le_of_ble_eq_true rfl, Nat.le_of_ble_eq_true rfl⟩) ⟨xm_Rblind, va_recv hK hPc (ci := 5) (q0 := 0) rfl rfl, fun U hU hW => ⟨rfl, by rw [hU]; exact hPc, hE.go hS (fun _ q => q.elim) hU hW, ⟨by have := hvo.2.1; omega, hvo.2.2.1⟩⟩⟩ rfl rfl hl.1 rfl (lv_room (Nat.le_of_ble_eq_true rfl)) dX5_ofDigit_118 ⟨Nat.zero_le _, Nat.zero_le _⟩).run) ?_
    refine W.eq (g2 := F0 m 121 lz (.int (fr_gp (fs_li v) n d) :: [])) rfl ?_
    have hP9 := hP.sub (ws' := [((mm 0), .inr (5, [.ref (mm 1), .ref (mm 2), .ref (mm 3), .ref (mm 4), .int kp, .ref (mm 5), .int ty, .int th, .int at0, .int fa, .ref (mm 6), .int ts, .ref (mm 7), .ref (mm 8), .ref (mm 9), .int (nI n)])), ((mm 1), .inl (cI, 12, .inl xm_mk)), ((mm 2), .inl (cI, 80, .inl v)), ((mm 7), .inl (cI, 96, .inl (fm_fl (fs_ow v) ow n))), ((mm 8), .inl (cI, 96, .inl (fm_fl (fs_li v) li n))), ((mm 9), .inl (cI, 6, .inl u_11))]) [1, 0, 5, 2, 3, 4] rfl
    have hD9 := hD.sub (ws' := [((mm 0), .inr (5, [.ref (mm 1), .ref (mm 2), .ref (mm 3), .ref (mm 4), .int kp, .ref (mm 5), .int ty, .int th, .int at0, .int fa, .ref (mm 6), .int ts, .ref (mm 7), .ref (mm 8), .ref (mm 9), .int (nI n)])), ((mm 1), .inl (cI, 12, .inl xm_mk)), ((mm 2), .inl (cI, 80, .inl v)), ((mm 7), .inl (cI, 96, .inl (fm_fl (fs_ow v) ow n))), ((mm 8), .inl (cI, 96, .inl (fm_fl (fs_li v) li n))), ((mm 9), .inl (cI, 6, .inl u_11))]) [1, 0, 5, 2, 3, 4] (by decide) rfl
    exact W.iret (v := fr_gp (fs_li v) n d) hx hb hr (fun t ht hW => ⟨⟨fr_gp (fs_li v) n d, ((nI n), (fm_fl (fs_ow v) ow n), (fm_fl (fs_li v) li n), u_11), rfl, (rfl), by rw [ht]; exact hP9, hD9⟩, hS.F ht⟩) hS.2.2 dX5_ofDigit_121
  · refine lv_iload_n hx hb dX5_ofDigit_0 rfl (lv_at hl 2 rfl) ?_
    refine lv_iconst (v := 5) hx hb dX5_ofDigit_1 (by decide) ?_
    refine lv_icmp_ge (tgt := 59) hx hb dX5_ofDigit_2 (by decide) (fun q9 => ?_) (fun q9 => absurd (by decide) q9)
    refine lv_iload_n hx hb dX5_ofDigit_59 rfl (lv_at hl 2 rfl) ?_
    refine lv_bipush (v := 9) hx hb dX5_ofDigit_60 (by decide) ?_
    refine lv_icmp_le (tgt := 89) hx hb dX5_ofDigit_62 (by decide) (fun q9 => ?_) (fun q9 => absurd (by decide) q9)
    refine lv_aload_n hx hb dX5_ofDigit_89 rfl (lv_at hl 0 rfl) ?_
    refine lv_aload_n hx hb dX5_ofDigit_90 rfl (lv_at hl 0 rfl) ?_
    refine va_get (D := (dC, dI)) (ci := 5) (v := .ref (mm 2)) (C := RX5) (T := TX5) (N := 16) hx hb hts hin5 hown hK hP 0 rfl rfl 1 (by decide) (hts (.fieldLink RX5 13 "TurnDigitsModel" "now" "[I") (by decide +kernel)) (fun _ h9 => h9) rfl dX5_ofDigit_91 ?_
    have hPc := hP.sub (ws' := [((mm 0), .inr (5, [.ref (mm 1), .ref (mm 2), .ref (mm 3), .ref (mm 4), .int kp, .ref (mm 5), .int ty, .int th, .int at0, .int fa, .ref (mm 6), .int ts, .ref (mm 7), .ref (mm 8), .ref (mm 9), .int fr])), ((mm 7), .inl (cI, 96, .inl ow)), ((mm 8), .inl (cI, 96, .inl li)), ((mm 9), .inl (cI, 6, .inl cr)), ((mm 2), .inl (cI, 80, .inl v))]) [0, 3, 4, 5, 2] rfl
    have hDc := hD.sub (ws' := [((mm 0), .inr (5, [.ref (mm 1), .ref (mm 2), .ref (mm 3), .ref (mm 4), .int kp, .ref (mm 5), .int ty, .int th, .int at0, .int fa, .ref (mm 6), .int ts, .ref (mm 7), .ref (mm 8), .ref (mm 9), .int fr])), ((mm 7), .inl (cI, 96, .inl ow)), ((mm 8), .inl (cI, 96, .inl li)), ((mm 9), .inl (cI, 6, .inl cr)), ((mm 2), .inl (cI, 80, .inl v))]) [0, 3, 4, 5, 2] (by decide) rfl
    have hFc := va_free (wc := [((mm 0), .inr (5, [.ref (mm 1), .ref (mm 2), .ref (mm 3), .ref (mm 4), .int kp, .ref (mm 5), .int ty, .int th, .int at0, .int fa, .ref (mm 6), .int ts, .ref (mm 7), .ref (mm 8), .ref (mm 9), .int fr])), ((mm 7), .inl (cI, 96, .inl ow)), ((mm 8), .inl (cI, 96, .inl li)), ((mm 9), .inl (cI, 6, .inl cr)), ((mm 2), .inl (cI, 80, .inl v))]) hD hS hA [0, 3, 4, 5, 2] rfl
    refine va_callv (va_runV (As := [.ref (mm 2)]) (rest := []) ⟨hx, hb, hml, hown, hts⟩ (c_X5_frames l dC dI cI cS cJ tt s.heap.size mm kp ty th at0 fa ts fr (mm 2) v ow li cr n) (cwV 1 hts gX5_ofDigit_X5_frames rfl rfl rfl (by decide +kernel) ⟨Nat.le_of_ble_eq_true rfl, Nat.le_of_ble_eq_true rfl⟩) ⟨xm_Mblind, va_recv hK hPc (ci := 5) (q0 := 0) rfl rfl, fun U hU hW => ⟨rfl, by rw [hU], by rw [hU]; exact hPc, hE.go hS hFc hU hW, hDc.weaken (fun _ _ _ _ => trivial), hvo⟩⟩ rfl rfl hl.1 rfl (lv_room (Nat.le_of_ble_eq_true rfl)) dX5_ofDigit_94 ⟨Nat.zero_le _, Nat.zero_le _⟩) hS (fun q _ h => hFc q h) hFc (fun u t H1 locs ht hvm hw hB hz1 hk1 hS => ?_)
    obtain ⟨u_15, u_16, u_17, u_18⟩ := u
    obtain ⟨hP1, hD1⟩ := hB
    rw [ht] at hP1
    obtain ⟨hw_19, hw_20, hw_21⟩ := hw
    have hw_19 : u_15 = nI n := hw_19
    subst hw_19
    have hw_20 : u_16 = fm_fl (fs_ow v) ow n := hw_20
    subst hw_20
    have hw_21 : u_17 = fm_fl (fs_li v) li n := hw_21
    subst hw_21
    obtain ⟨hP, hD⟩ := va_join (wr := [((mm 1), .inl (cI, 12, .inl xm_mk))]) (w1 := [((mm 0), .inr (5, [.ref (mm 1), .ref (mm 2), .ref (mm 3), .ref (mm 4), .int kp, .ref (mm 5), .int ty, .int th, .int at0, .int fa, .ref (mm 6), .int ts, .ref (mm 7), .ref (mm 8), .ref (mm 9), .int (nI n)])), ((mm 7), .inl (cI, 96, .inl (fm_fl (fs_ow v) ow n))), ((mm 8), .inl (cI, 96, .inl (fm_fl (fs_li v) li n))), ((mm 9), .inl (cI, 6, .inl u_18)), ((mm 2), .inl (cI, 80, .inl v))]) hP hD [0, 3, 4, 5, 2] [1] rfl rfl (by decide) (by decide) hk1 hFc hP1 hD1
    generalize H1 = H at hP hS ⊢
    have hP : va_P (dC, dI) vwCl [((mm 1), .inl (cI, 12, .inl xm_mk)), ((mm 0), .inr (5, [.ref (mm 1), .ref (mm 2), .ref (mm 3), .ref (mm 4), .int kp, .ref (mm 5), .int ty, .int th, .int at0, .int fa, .ref (mm 6), .int ts, .ref (mm 7), .ref (mm 8), .ref (mm 9), .int (nI n)])), ((mm 7), .inl (cI, 96, .inl (fm_fl (fs_ow v) ow n))), ((mm 8), .inl (cI, 96, .inl (fm_fl (fs_li v) li n))), ((mm 9), .inl (cI, 6, .inl u_18)), ((mm 2), .inl (cI, 80, .inl v))] H := hP
    have hD : va_D A [((mm 1), .inl (cI, 12, .inl xm_mk)), ((mm 0), .inr (5, [.ref (mm 1), .ref (mm 2), .ref (mm 3), .ref (mm 4), .int kp, .ref (mm 5), .int ty, .int th, .int at0, .int fa, .ref (mm 6), .int ts, .ref (mm 7), .ref (mm 8), .ref (mm 9), .int (nI n)])), ((mm 7), .inl (cI, 96, .inl (fm_fl (fs_ow v) ow n))), ((mm 8), .inl (cI, 96, .inl (fm_fl (fs_li v) li n))), ((mm 9), .inl (cI, 6, .inl u_18)), ((mm 2), .inl (cI, 80, .inl v))] := hD
    refine lv_iload_n hx hb dX5_ofDigit_97 rfl (lv_at hl 2 rfl) ?_
    refine lv_bipush (v := 7) hx hb dX5_ofDigit_98 (by decide) ?_
    refine lv_icmp_ge (tgt := 122) hx hb dX5_ofDigit_100 (by decide) (fun q9 => ?_) (fun q9 => absurd (by decide) q9)
    refine lv_iload_n hx hb dX5_ofDigit_122 rfl (lv_at hl 2 rfl) ?_
    refine lv_bipush (v := 7) hx hb dX5_ofDigit_123 (by decide) ?_
    refine lv_icmp_ne (tgt := 143) hx hb dX5_ofDigit_125 (by decide) (fun q9 => absurd (by decide) q9) (fun q9 => ?_)
    refine lv_aload_n hx hb dX5_ofDigit_128 rfl (lv_at hl 0 rfl) ?_
    refine lv_aload_n hx hb dX5_ofDigit_129 rfl (lv_at hl 0 rfl) ?_
    refine va_get (D := (dC, dI)) (ci := 5) (v := .ref (mm 2)) (C := RX5) (T := TX5) (N := 16) hx hb hts hin5 hown hK hP 1 rfl rfl 1 (by decide) (hts (.fieldLink RX5 13 "TurnDigitsModel" "now" "[I") (by decide +kernel)) (fun _ h9 => h9) rfl dX5_ofDigit_130 ?_
    refine lv_iload_n hx hb dX5_ofDigit_133 rfl (lv_at hl 1 rfl) ?_
    have hPc := hP.sub (ws' := [((mm 0), .inr (5, [.ref (mm 1), .ref (mm 2), .ref (mm 3), .ref (mm 4), .int kp, .ref (mm 5), .int ty, .int th, .int at0, .int fa, .ref (mm 6), .int ts, .ref (mm 7), .ref (mm 8), .ref (mm 9), .int (nI n)])), ((mm 8), .inl (cI, 96, .inl (fm_fl (fs_li v) li n))), ((mm 2), .inl (cI, 80, .inl v))]) [1, 3, 5] rfl
    refine W.callV ((va_runV (As := [.ref (mm 2), .int (nI d)]) (rest := []) ⟨hx, hb, hml, hown, hts⟩ (c_X5_flickers l dC dI cI cS cJ tt mm kp ty th at0 fa ts (fs_li v) li n (mm 2) v d) (cwV 2 hts gX5_ofDigit_X5_flickers rfl rfl rfl (by decide +kernel) ⟨Nat.le_of_ble_eq_true rfl, Nat.le_of_ble_eq_true rfl⟩) ⟨xm_Rblind, va_recv hK hPc (ci := 5) (q0 := 0) rfl rfl, fun U hU hW => ⟨rfl, by rw [hU]; exact hPc, hE.go hS (fun _ q => q.elim) hU hW, ⟨by have := hvo.2.1; omega, hvo.2.2.1⟩⟩⟩ rfl rfl hl.1 rfl (lv_room (Nat.le_of_ble_eq_true rfl)) dX5_ofDigit_134 ⟨Nat.zero_le _, Nat.zero_le _⟩).run) ?_
    refine W.eq (g2 := F0 m 137 lz (.int (fm_flk (fr_ls (fs_li v) n d) (fr_gp (fs_li v) n d) (v 4)) :: [])) rfl ?_
    refine lv_if_eq (tgt := 176) hx hb dX5_ofDigit_137 (by decide) (fun q137 => ?_) (fun q137 => ?_)
    · refine lv_iconst (v := 0) hx hb dX5_ofDigit_176 (by decide) ?_
      have hP9 := hP.sub (ws' := [((mm 0), .inr (5, [.ref (mm 1), .ref (mm 2), .ref (mm 3), .ref (mm 4), .int kp, .ref (mm 5), .int ty, .int th, .int at0, .int fa, .ref (mm 6), .int ts, .ref (mm 7), .ref (mm 8), .ref (mm 9), .int (nI n)])), ((mm 1), .inl (cI, 12, .inl xm_mk)), ((mm 2), .inl (cI, 80, .inl v)), ((mm 7), .inl (cI, 96, .inl (fm_fl (fs_ow v) ow n))), ((mm 8), .inl (cI, 96, .inl (fm_fl (fs_li v) li n))), ((mm 9), .inl (cI, 6, .inl u_18))]) [1, 0, 5, 2, 3, 4] rfl
      have hD9 := hD.sub (ws' := [((mm 0), .inr (5, [.ref (mm 1), .ref (mm 2), .ref (mm 3), .ref (mm 4), .int kp, .ref (mm 5), .int ty, .int th, .int at0, .int fa, .ref (mm 6), .int ts, .ref (mm 7), .ref (mm 8), .ref (mm 9), .int (nI n)])), ((mm 1), .inl (cI, 12, .inl xm_mk)), ((mm 2), .inl (cI, 80, .inl v)), ((mm 7), .inl (cI, 96, .inl (fm_fl (fs_ow v) ow n))), ((mm 8), .inl (cI, 96, .inl (fm_fl (fs_li v) li n))), ((mm 9), .inl (cI, 6, .inl u_18))]) [1, 0, 5, 2, 3, 4] (by decide) rfl
      exact W.iret (v := 0) hx hb hr (fun t ht hW => ⟨⟨0, ((nI n), (fm_fl (fs_ow v) ow n), (fm_fl (fs_li v) li n), u_18), rfl, (by show _ = if fm_flk (fs_ls v n d) (fs_gp v n d) (v 4) = 0 then 0 else 1; exact (if_pos q137).symm), by rw [ht]; exact hP9, hD9⟩, hS.F ht⟩) hS.2.2 dX5_ofDigit_177
    · refine lv_goto (tgt := 172) hx hb dX5_ofDigit_140 (by decide) ?_
      refine lv_iconst (v := 1) hx hb dX5_ofDigit_172 (by decide) ?_
      refine lv_goto (tgt := 177) hx hb dX5_ofDigit_173 (by decide) ?_
      have hP9 := hP.sub (ws' := [((mm 0), .inr (5, [.ref (mm 1), .ref (mm 2), .ref (mm 3), .ref (mm 4), .int kp, .ref (mm 5), .int ty, .int th, .int at0, .int fa, .ref (mm 6), .int ts, .ref (mm 7), .ref (mm 8), .ref (mm 9), .int (nI n)])), ((mm 1), .inl (cI, 12, .inl xm_mk)), ((mm 2), .inl (cI, 80, .inl v)), ((mm 7), .inl (cI, 96, .inl (fm_fl (fs_ow v) ow n))), ((mm 8), .inl (cI, 96, .inl (fm_fl (fs_li v) li n))), ((mm 9), .inl (cI, 6, .inl u_18))]) [1, 0, 5, 2, 3, 4] rfl
      have hD9 := hD.sub (ws' := [((mm 0), .inr (5, [.ref (mm 1), .ref (mm 2), .ref (mm 3), .ref (mm 4), .int kp, .ref (mm 5), .int ty, .int th, .int at0, .int fa, .ref (mm 6), .int ts, .ref (mm 7), .ref (mm 8), .ref (mm 9), .int (nI n)])), ((mm 1), .inl (cI, 12, .inl xm_mk)), ((mm 2), .inl (cI, 80, .inl v)), ((mm 7), .inl (cI, 96, .inl (fm_fl (fs_ow v) ow n))), ((mm 8), .inl (cI, 96, .inl (fm_fl (fs_li v) li n))), ((mm 9), .inl (cI, 6, .inl u_18))]) [1, 0, 5, 2, 3, 4] (by decide) rfl
      exact W.iret (v := 1) hx hb hr (fun t ht hW => ⟨⟨1, ((nI n), (fm_fl (fs_ow v) ow n), (fm_fl (fs_li v) li n), u_18), rfl, (by show _ = if fm_flk (fs_ls v n d) (fs_gp v n d) (v 4) = 0 then 0 else 1; exact (if_neg q137).symm), by rw [ht]; exact hP9, hD9⟩, hS.F ht⟩) hS.2.2 dX5_ofDigit_177
  · refine lv_iload_n hx hb dX5_ofDigit_0 rfl (lv_at hl 2 rfl) ?_
    refine lv_iconst (v := 5) hx hb dX5_ofDigit_1 (by decide) ?_
    refine lv_icmp_ge (tgt := 59) hx hb dX5_ofDigit_2 (by decide) (fun q9 => ?_) (fun q9 => absurd (by decide) q9)
    refine lv_iload_n hx hb dX5_ofDigit_59 rfl (lv_at hl 2 rfl) ?_
    refine lv_bipush (v := 9) hx hb dX5_ofDigit_60 (by decide) ?_
    refine lv_icmp_le (tgt := 89) hx hb dX5_ofDigit_62 (by decide) (fun q9 => ?_) (fun q9 => absurd (by decide) q9)
    refine lv_aload_n hx hb dX5_ofDigit_89 rfl (lv_at hl 0 rfl) ?_
    refine lv_aload_n hx hb dX5_ofDigit_90 rfl (lv_at hl 0 rfl) ?_
    refine va_get (D := (dC, dI)) (ci := 5) (v := .ref (mm 2)) (C := RX5) (T := TX5) (N := 16) hx hb hts hin5 hown hK hP 0 rfl rfl 1 (by decide) (hts (.fieldLink RX5 13 "TurnDigitsModel" "now" "[I") (by decide +kernel)) (fun _ h9 => h9) rfl dX5_ofDigit_91 ?_
    have hPc := hP.sub (ws' := [((mm 0), .inr (5, [.ref (mm 1), .ref (mm 2), .ref (mm 3), .ref (mm 4), .int kp, .ref (mm 5), .int ty, .int th, .int at0, .int fa, .ref (mm 6), .int ts, .ref (mm 7), .ref (mm 8), .ref (mm 9), .int fr])), ((mm 7), .inl (cI, 96, .inl ow)), ((mm 8), .inl (cI, 96, .inl li)), ((mm 9), .inl (cI, 6, .inl cr)), ((mm 2), .inl (cI, 80, .inl v))]) [0, 3, 4, 5, 2] rfl
    have hDc := hD.sub (ws' := [((mm 0), .inr (5, [.ref (mm 1), .ref (mm 2), .ref (mm 3), .ref (mm 4), .int kp, .ref (mm 5), .int ty, .int th, .int at0, .int fa, .ref (mm 6), .int ts, .ref (mm 7), .ref (mm 8), .ref (mm 9), .int fr])), ((mm 7), .inl (cI, 96, .inl ow)), ((mm 8), .inl (cI, 96, .inl li)), ((mm 9), .inl (cI, 6, .inl cr)), ((mm 2), .inl (cI, 80, .inl v))]) [0, 3, 4, 5, 2] (by decide) rfl
    have hFc := va_free (wc := [((mm 0), .inr (5, [.ref (mm 1), .ref (mm 2), .ref (mm 3), .ref (mm 4), .int kp, .ref (mm 5), .int ty, .int th, .int at0, .int fa, .ref (mm 6), .int ts, .ref (mm 7), .ref (mm 8), .ref (mm 9), .int fr])), ((mm 7), .inl (cI, 96, .inl ow)), ((mm 8), .inl (cI, 96, .inl li)), ((mm 9), .inl (cI, 6, .inl cr)), ((mm 2), .inl (cI, 80, .inl v))]) hD hS hA [0, 3, 4, 5, 2] rfl
    refine va_callv (va_runV (As := [.ref (mm 2)]) (rest := []) ⟨hx, hb, hml, hown, hts⟩ (c_X5_frames l dC dI cI cS cJ tt s.heap.size mm kp ty th at0 fa ts fr (mm 2) v ow li cr n) (cwV 1 hts gX5_ofDigit_X5_frames rfl rfl rfl (by decide +kernel) ⟨Nat.le_of_ble_eq_true rfl, Nat.le_of_ble_eq_true rfl⟩) ⟨xm_Mblind, va_recv hK hPc (ci := 5) (q0 := 0) rfl rfl, fun U hU hW => ⟨rfl, by rw [hU], by rw [hU]; exact hPc, hE.go hS hFc hU hW, hDc.weaken (fun _ _ _ _ => trivial), hvo⟩⟩ rfl rfl hl.1 rfl (lv_room (Nat.le_of_ble_eq_true rfl)) dX5_ofDigit_94 ⟨Nat.zero_le _, Nat.zero_le _⟩) hS (fun q _ h => hFc q h) hFc (fun u t H1 locs ht hvm hw hB hz1 hk1 hS => ?_)
    obtain ⟨u_22, u_23, u_24, u_25⟩ := u
    obtain ⟨hP1, hD1⟩ := hB
    rw [ht] at hP1
    obtain ⟨hw_26, hw_27, hw_28⟩ := hw
    have hw_26 : u_22 = nI n := hw_26
    subst hw_26
    have hw_27 : u_23 = fm_fl (fs_ow v) ow n := hw_27
    subst hw_27
    have hw_28 : u_24 = fm_fl (fs_li v) li n := hw_28
    subst hw_28
    obtain ⟨hP, hD⟩ := va_join (wr := [((mm 1), .inl (cI, 12, .inl xm_mk))]) (w1 := [((mm 0), .inr (5, [.ref (mm 1), .ref (mm 2), .ref (mm 3), .ref (mm 4), .int kp, .ref (mm 5), .int ty, .int th, .int at0, .int fa, .ref (mm 6), .int ts, .ref (mm 7), .ref (mm 8), .ref (mm 9), .int (nI n)])), ((mm 7), .inl (cI, 96, .inl (fm_fl (fs_ow v) ow n))), ((mm 8), .inl (cI, 96, .inl (fm_fl (fs_li v) li n))), ((mm 9), .inl (cI, 6, .inl u_25)), ((mm 2), .inl (cI, 80, .inl v))]) hP hD [0, 3, 4, 5, 2] [1] rfl rfl (by decide) (by decide) hk1 hFc hP1 hD1
    generalize H1 = H at hP hS ⊢
    have hP : va_P (dC, dI) vwCl [((mm 1), .inl (cI, 12, .inl xm_mk)), ((mm 0), .inr (5, [.ref (mm 1), .ref (mm 2), .ref (mm 3), .ref (mm 4), .int kp, .ref (mm 5), .int ty, .int th, .int at0, .int fa, .ref (mm 6), .int ts, .ref (mm 7), .ref (mm 8), .ref (mm 9), .int (nI n)])), ((mm 7), .inl (cI, 96, .inl (fm_fl (fs_ow v) ow n))), ((mm 8), .inl (cI, 96, .inl (fm_fl (fs_li v) li n))), ((mm 9), .inl (cI, 6, .inl u_25)), ((mm 2), .inl (cI, 80, .inl v))] H := hP
    have hD : va_D A [((mm 1), .inl (cI, 12, .inl xm_mk)), ((mm 0), .inr (5, [.ref (mm 1), .ref (mm 2), .ref (mm 3), .ref (mm 4), .int kp, .ref (mm 5), .int ty, .int th, .int at0, .int fa, .ref (mm 6), .int ts, .ref (mm 7), .ref (mm 8), .ref (mm 9), .int (nI n)])), ((mm 7), .inl (cI, 96, .inl (fm_fl (fs_ow v) ow n))), ((mm 8), .inl (cI, 96, .inl (fm_fl (fs_li v) li n))), ((mm 9), .inl (cI, 6, .inl u_25)), ((mm 2), .inl (cI, 80, .inl v))] := hD
    refine lv_iload_n hx hb dX5_ofDigit_97 rfl (lv_at hl 2 rfl) ?_
    refine lv_bipush (v := 7) hx hb dX5_ofDigit_98 (by decide) ?_
    refine lv_icmp_ge (tgt := 122) hx hb dX5_ofDigit_100 (by decide) (fun q9 => ?_) (fun q9 => absurd (by decide) q9)
    refine lv_iload_n hx hb dX5_ofDigit_122 rfl (lv_at hl 2 rfl) ?_
    refine lv_bipush (v := 7) hx hb dX5_ofDigit_123 (by decide) ?_
    refine lv_icmp_ne (tgt := 143) hx hb dX5_ofDigit_125 (by decide) (fun q9 => ?_) (fun q9 => absurd q9 (by decide))
    refine lv_iload_n hx hb dX5_ofDigit_143 rfl (lv_at hl 2 rfl) ?_
    refine lv_bipush (v := 8) hx hb dX5_ofDigit_144 (by decide) ?_
    refine lv_icmp_ne (tgt := 164) hx hb dX5_ofDigit_146 (by decide) (fun q9 => absurd (by decide) q9) (fun q9 => ?_)
    refine lv_aload_n hx hb dX5_ofDigit_149 rfl (lv_at hl 0 rfl) ?_
    refine lv_aload_n hx hb dX5_ofDigit_150 rfl (lv_at hl 0 rfl) ?_
    refine va_get (D := (dC, dI)) (ci := 5) (v := .ref (mm 2)) (C := RX5) (T := TX5) (N := 16) hx hb hts hin5 hown hK hP 1 rfl rfl 1 (by decide) (hts (.fieldLink RX5 13 "TurnDigitsModel" "now" "[I") (by decide +kernel)) (fun _ h9 => h9) rfl dX5_ofDigit_151 ?_
    refine lv_iload_n hx hb dX5_ofDigit_154 rfl (lv_at hl 1 rfl) ?_
    have hPc := hP.sub (ws' := [((mm 0), .inr (5, [.ref (mm 1), .ref (mm 2), .ref (mm 3), .ref (mm 4), .int kp, .ref (mm 5), .int ty, .int th, .int at0, .int fa, .ref (mm 6), .int ts, .ref (mm 7), .ref (mm 8), .ref (mm 9), .int (nI n)])), ((mm 8), .inl (cI, 96, .inl (fm_fl (fs_li v) li n))), ((mm 2), .inl (cI, 80, .inl v))]) [1, 3, 5] rfl
    refine W.callV ((va_runV (As := [.ref (mm 2), .int (nI d)]) (rest := []) ⟨hx, hb, hml, hown, hts⟩ (c_X5_isSeen l dC dI cI cS cJ tt mm kp ty th at0 fa ts (fs_li v) li n (mm 2) v d) (cwV 2 hts gX5_ofDigit_X5_isSeen rfl rfl rfl (by decide +kernel) ⟨Nat.le_of_ble_eq_true rfl, Nat.le_of_ble_eq_true rfl⟩) ⟨xm_Rblind, va_recv hK hPc (ci := 5) (q0 := 0) rfl rfl, fun U hU hW => ⟨rfl, by rw [hU]; exact hPc, hE.go hS (fun _ q => q.elim) hU hW, ⟨⟨by have := hvo.2.1; omega, hvo.2.2.1⟩, hvo.1⟩⟩⟩ rfl rfl hl.1 rfl (lv_room (Nat.le_of_ble_eq_true rfl)) dX5_ofDigit_155 ⟨Nat.zero_le _, Nat.zero_le _⟩).run) ?_
    refine W.eq (g2 := F0 m 158 lz (.int (lk_see (fr_gp (fs_li v) n) (fr_ls (fs_li v) n) (v 2) (v 4) (v 5 * v 1) d) :: [])) rfl ?_
    refine lv_if_eq (tgt := 176) hx hb dX5_ofDigit_158 (by decide) (fun q158 => ?_) (fun q158 => ?_)
    · refine lv_iconst (v := 0) hx hb dX5_ofDigit_176 (by decide) ?_
      have hP9 := hP.sub (ws' := [((mm 0), .inr (5, [.ref (mm 1), .ref (mm 2), .ref (mm 3), .ref (mm 4), .int kp, .ref (mm 5), .int ty, .int th, .int at0, .int fa, .ref (mm 6), .int ts, .ref (mm 7), .ref (mm 8), .ref (mm 9), .int (nI n)])), ((mm 1), .inl (cI, 12, .inl xm_mk)), ((mm 2), .inl (cI, 80, .inl v)), ((mm 7), .inl (cI, 96, .inl (fm_fl (fs_ow v) ow n))), ((mm 8), .inl (cI, 96, .inl (fm_fl (fs_li v) li n))), ((mm 9), .inl (cI, 6, .inl u_25))]) [1, 0, 5, 2, 3, 4] rfl
      have hD9 := hD.sub (ws' := [((mm 0), .inr (5, [.ref (mm 1), .ref (mm 2), .ref (mm 3), .ref (mm 4), .int kp, .ref (mm 5), .int ty, .int th, .int at0, .int fa, .ref (mm 6), .int ts, .ref (mm 7), .ref (mm 8), .ref (mm 9), .int (nI n)])), ((mm 1), .inl (cI, 12, .inl xm_mk)), ((mm 2), .inl (cI, 80, .inl v)), ((mm 7), .inl (cI, 96, .inl (fm_fl (fs_ow v) ow n))), ((mm 8), .inl (cI, 96, .inl (fm_fl (fs_li v) li n))), ((mm 9), .inl (cI, 6, .inl u_25))]) [1, 0, 5, 2, 3, 4] (by decide) rfl
      exact W.iret (v := 0) hx hb hr (fun t ht hW => ⟨⟨0, ((nI n), (fm_fl (fs_ow v) ow n), (fm_fl (fs_li v) li n), u_25), rfl, (by show _ = if lk_see (fs_gp v n) (fs_ls v n) (v 2) (v 4) (v 5 * v 1) d = 0 then 0 else 1; exact (if_pos q158).symm), by rw [ht]; exact hP9, hD9⟩, hS.F ht⟩) hS.2.2 dX5_ofDigit_177
    · refine lv_goto (tgt := 172) hx hb dX5_ofDigit_161 (by decide) ?_
      refine lv_iconst (v := 1) hx hb dX5_ofDigit_172 (by decide) ?_
      refine lv_goto (tgt := 177) hx hb dX5_ofDigit_173 (by decide) ?_
      have hP9 := hP.sub (ws' := [((mm 0), .inr (5, [.ref (mm 1), .ref (mm 2), .ref (mm 3), .ref (mm 4), .int kp, .ref (mm 5), .int ty, .int th, .int at0, .int fa, .ref (mm 6), .int ts, .ref (mm 7), .ref (mm 8), .ref (mm 9), .int (nI n)])), ((mm 1), .inl (cI, 12, .inl xm_mk)), ((mm 2), .inl (cI, 80, .inl v)), ((mm 7), .inl (cI, 96, .inl (fm_fl (fs_ow v) ow n))), ((mm 8), .inl (cI, 96, .inl (fm_fl (fs_li v) li n))), ((mm 9), .inl (cI, 6, .inl u_25))]) [1, 0, 5, 2, 3, 4] rfl
      have hD9 := hD.sub (ws' := [((mm 0), .inr (5, [.ref (mm 1), .ref (mm 2), .ref (mm 3), .ref (mm 4), .int kp, .ref (mm 5), .int ty, .int th, .int at0, .int fa, .ref (mm 6), .int ts, .ref (mm 7), .ref (mm 8), .ref (mm 9), .int (nI n)])), ((mm 1), .inl (cI, 12, .inl xm_mk)), ((mm 2), .inl (cI, 80, .inl v)), ((mm 7), .inl (cI, 96, .inl (fm_fl (fs_ow v) ow n))), ((mm 8), .inl (cI, 96, .inl (fm_fl (fs_li v) li n))), ((mm 9), .inl (cI, 6, .inl u_25))]) [1, 0, 5, 2, 3, 4] (by decide) rfl
      exact W.iret (v := 1) hx hb hr (fun t ht hW => ⟨⟨1, ((nI n), (fm_fl (fs_ow v) ow n), (fm_fl (fs_li v) li n), u_25), rfl, (by show _ = if lk_see (fs_gp v n) (fs_ls v n) (v 2) (v 4) (v 5 * v 1) d = 0 then 0 else 1; exact (if_neg q158).symm), by rw [ht]; exact hP9, hD9⟩, hS.F ht⟩) hS.2.2 dX5_ofDigit_177
  · refine lv_iload_n hx hb dX5_ofDigit_0 rfl (lv_at hl 2 rfl) ?_
    refine lv_iconst (v := 5) hx hb dX5_ofDigit_1 (by decide) ?_
    refine lv_icmp_ge (tgt := 59) hx hb dX5_ofDigit_2 (by decide) (fun q9 => ?_) (fun q9 => absurd (by decide) q9)
    refine lv_iload_n hx hb dX5_ofDigit_59 rfl (lv_at hl 2 rfl) ?_
    refine lv_bipush (v := 9) hx hb dX5_ofDigit_60 (by decide) ?_
    refine lv_icmp_le (tgt := 89) hx hb dX5_ofDigit_62 (by decide) (fun q9 => ?_) (fun q9 => absurd (by decide) q9)
    refine lv_aload_n hx hb dX5_ofDigit_89 rfl (lv_at hl 0 rfl) ?_
    refine lv_aload_n hx hb dX5_ofDigit_90 rfl (lv_at hl 0 rfl) ?_
    refine va_get (D := (dC, dI)) (ci := 5) (v := .ref (mm 2)) (C := RX5) (T := TX5) (N := 16) hx hb hts hin5 hown hK hP 0 rfl rfl 1 (by decide) (hts (.fieldLink RX5 13 "TurnDigitsModel" "now" "[I") (by decide +kernel)) (fun _ h9 => h9) rfl dX5_ofDigit_91 ?_
    have hPc := hP.sub (ws' := [((mm 0), .inr (5, [.ref (mm 1), .ref (mm 2), .ref (mm 3), .ref (mm 4), .int kp, .ref (mm 5), .int ty, .int th, .int at0, .int fa, .ref (mm 6), .int ts, .ref (mm 7), .ref (mm 8), .ref (mm 9), .int fr])), ((mm 7), .inl (cI, 96, .inl ow)), ((mm 8), .inl (cI, 96, .inl li)), ((mm 9), .inl (cI, 6, .inl cr)), ((mm 2), .inl (cI, 80, .inl v))]) [0, 3, 4, 5, 2] rfl
    have hDc := hD.sub (ws' := [((mm 0), .inr (5, [.ref (mm 1), .ref (mm 2), .ref (mm 3), .ref (mm 4), .int kp, .ref (mm 5), .int ty, .int th, .int at0, .int fa, .ref (mm 6), .int ts, .ref (mm 7), .ref (mm 8), .ref (mm 9), .int fr])), ((mm 7), .inl (cI, 96, .inl ow)), ((mm 8), .inl (cI, 96, .inl li)), ((mm 9), .inl (cI, 6, .inl cr)), ((mm 2), .inl (cI, 80, .inl v))]) [0, 3, 4, 5, 2] (by decide) rfl
    have hFc := va_free (wc := [((mm 0), .inr (5, [.ref (mm 1), .ref (mm 2), .ref (mm 3), .ref (mm 4), .int kp, .ref (mm 5), .int ty, .int th, .int at0, .int fa, .ref (mm 6), .int ts, .ref (mm 7), .ref (mm 8), .ref (mm 9), .int fr])), ((mm 7), .inl (cI, 96, .inl ow)), ((mm 8), .inl (cI, 96, .inl li)), ((mm 9), .inl (cI, 6, .inl cr)), ((mm 2), .inl (cI, 80, .inl v))]) hD hS hA [0, 3, 4, 5, 2] rfl
    refine va_callv (va_runV (As := [.ref (mm 2)]) (rest := []) ⟨hx, hb, hml, hown, hts⟩ (c_X5_frames l dC dI cI cS cJ tt s.heap.size mm kp ty th at0 fa ts fr (mm 2) v ow li cr n) (cwV 1 hts gX5_ofDigit_X5_frames rfl rfl rfl (by decide +kernel) ⟨Nat.le_of_ble_eq_true rfl, Nat.le_of_ble_eq_true rfl⟩) ⟨xm_Mblind, va_recv hK hPc (ci := 5) (q0 := 0) rfl rfl, fun U hU hW => ⟨rfl, by rw [hU], by rw [hU]; exact hPc, hE.go hS hFc hU hW, hDc.weaken (fun _ _ _ _ => trivial), hvo⟩⟩ rfl rfl hl.1 rfl (lv_room (Nat.le_of_ble_eq_true rfl)) dX5_ofDigit_94 ⟨Nat.zero_le _, Nat.zero_le _⟩) hS (fun q _ h => hFc q h) hFc (fun u t H1 locs ht hvm hw hB hz1 hk1 hS => ?_)
    obtain ⟨u_29, u_30, u_31, u_32⟩ := u
    obtain ⟨hP1, hD1⟩ := hB
    rw [ht] at hP1
    obtain ⟨hw_33, hw_34, hw_35⟩ := hw
    have hw_33 : u_29 = nI n := hw_33
    subst hw_33
    have hw_34 : u_30 = fm_fl (fs_ow v) ow n := hw_34
    subst hw_34
    have hw_35 : u_31 = fm_fl (fs_li v) li n := hw_35
    subst hw_35
    obtain ⟨hP, hD⟩ := va_join (wr := [((mm 1), .inl (cI, 12, .inl xm_mk))]) (w1 := [((mm 0), .inr (5, [.ref (mm 1), .ref (mm 2), .ref (mm 3), .ref (mm 4), .int kp, .ref (mm 5), .int ty, .int th, .int at0, .int fa, .ref (mm 6), .int ts, .ref (mm 7), .ref (mm 8), .ref (mm 9), .int (nI n)])), ((mm 7), .inl (cI, 96, .inl (fm_fl (fs_ow v) ow n))), ((mm 8), .inl (cI, 96, .inl (fm_fl (fs_li v) li n))), ((mm 9), .inl (cI, 6, .inl u_32)), ((mm 2), .inl (cI, 80, .inl v))]) hP hD [0, 3, 4, 5, 2] [1] rfl rfl (by decide) (by decide) hk1 hFc hP1 hD1
    generalize H1 = H at hP hS ⊢
    have hP : va_P (dC, dI) vwCl [((mm 1), .inl (cI, 12, .inl xm_mk)), ((mm 0), .inr (5, [.ref (mm 1), .ref (mm 2), .ref (mm 3), .ref (mm 4), .int kp, .ref (mm 5), .int ty, .int th, .int at0, .int fa, .ref (mm 6), .int ts, .ref (mm 7), .ref (mm 8), .ref (mm 9), .int (nI n)])), ((mm 7), .inl (cI, 96, .inl (fm_fl (fs_ow v) ow n))), ((mm 8), .inl (cI, 96, .inl (fm_fl (fs_li v) li n))), ((mm 9), .inl (cI, 6, .inl u_32)), ((mm 2), .inl (cI, 80, .inl v))] H := hP
    have hD : va_D A [((mm 1), .inl (cI, 12, .inl xm_mk)), ((mm 0), .inr (5, [.ref (mm 1), .ref (mm 2), .ref (mm 3), .ref (mm 4), .int kp, .ref (mm 5), .int ty, .int th, .int at0, .int fa, .ref (mm 6), .int ts, .ref (mm 7), .ref (mm 8), .ref (mm 9), .int (nI n)])), ((mm 7), .inl (cI, 96, .inl (fm_fl (fs_ow v) ow n))), ((mm 8), .inl (cI, 96, .inl (fm_fl (fs_li v) li n))), ((mm 9), .inl (cI, 6, .inl u_32)), ((mm 2), .inl (cI, 80, .inl v))] := hD
    refine lv_iload_n hx hb dX5_ofDigit_97 rfl (lv_at hl 2 rfl) ?_
    refine lv_bipush (v := 7) hx hb dX5_ofDigit_98 (by decide) ?_
    refine lv_icmp_ge (tgt := 122) hx hb dX5_ofDigit_100 (by decide) (fun q9 => ?_) (fun q9 => absurd (by decide) q9)
    refine lv_iload_n hx hb dX5_ofDigit_122 rfl (lv_at hl 2 rfl) ?_
    refine lv_bipush (v := 7) hx hb dX5_ofDigit_123 (by decide) ?_
    refine lv_icmp_ne (tgt := 143) hx hb dX5_ofDigit_125 (by decide) (fun q9 => ?_) (fun q9 => absurd q9 (by decide))
    refine lv_iload_n hx hb dX5_ofDigit_143 rfl (lv_at hl 2 rfl) ?_
    refine lv_bipush (v := 8) hx hb dX5_ofDigit_144 (by decide) ?_
    refine lv_icmp_ne (tgt := 164) hx hb dX5_ofDigit_146 (by decide) (fun q9 => ?_) (fun q9 => absurd q9 (by decide))
    refine lv_aload_n hx hb dX5_ofDigit_164 rfl (lv_at hl 0 rfl) ?_
    refine lv_iload_n hx hb dX5_ofDigit_165 rfl (lv_at hl 1 rfl) ?_
    have hPc := hP.sub (ws' := [((mm 0), .inr (5, [.ref (mm 1), .ref (mm 2), .ref (mm 3), .ref (mm 4), .int kp, .ref (mm 5), .int ty, .int th, .int at0, .int fa, .ref (mm 6), .int ts, .ref (mm 7), .ref (mm 8), .ref (mm 9), .int (nI n)])), ((mm 1), .inl (cI, 12, .inl xm_mk)), ((mm 2), .inl (cI, 80, .inl v)), ((mm 8), .inl (cI, 96, .inl (fm_fl (fs_li v) li n)))]) [1, 0, 5, 3] rfl
    refine W.callV ((va_runV (As := [.int (nI d)]) (rest := []) ⟨hx, hb, hml, hown, hts⟩ (c_X5_isClear l dC dI cI cS cJ tt mm kp ty th at0 fa ts (fs_li v) li n v d) (cwV 1 hts gX5_ofDigit_X5_isClear rfl rfl rfl (by decide +kernel) ⟨Nat.le_of_ble_eq_true rfl, Nat.le_of_ble_eq_true rfl⟩) ⟨xm_Rblind, va_recv hK hPc (ci := 5) (q0 := 0) rfl rfl, fun U hU hW => ⟨rfl, by rw [hU]; exact hPc, hE.go hS (fun _ q => q.elim) hU hW, ⟨⟨hd6, hsg⟩, ⟨by have := hvo.2.1; omega, hvo.2.2.1⟩, hvo.1⟩⟩⟩ rfl rfl hl.1 rfl (lv_room (Nat.le_of_ble_eq_true rfl)) dX5_ofDigit_166 ⟨Nat.zero_le _, Nat.zero_le _⟩).run) ?_
    refine W.eq (g2 := F0 m 169 lz (.int (lk_clr (fr_gp (fs_li v) n) (fr_ls (fs_li v) n) (v 2) (v 4) (v 5 * v 1) v d) :: [])) rfl ?_
    refine lv_if_eq (tgt := 176) hx hb dX5_ofDigit_169 (by decide) (fun q169 => ?_) (fun q169 => ?_)
    · refine lv_iconst (v := 0) hx hb dX5_ofDigit_176 (by decide) ?_
      have hP9 := hP.sub (ws' := [((mm 0), .inr (5, [.ref (mm 1), .ref (mm 2), .ref (mm 3), .ref (mm 4), .int kp, .ref (mm 5), .int ty, .int th, .int at0, .int fa, .ref (mm 6), .int ts, .ref (mm 7), .ref (mm 8), .ref (mm 9), .int (nI n)])), ((mm 1), .inl (cI, 12, .inl xm_mk)), ((mm 2), .inl (cI, 80, .inl v)), ((mm 7), .inl (cI, 96, .inl (fm_fl (fs_ow v) ow n))), ((mm 8), .inl (cI, 96, .inl (fm_fl (fs_li v) li n))), ((mm 9), .inl (cI, 6, .inl u_32))]) [1, 0, 5, 2, 3, 4] rfl
      have hD9 := hD.sub (ws' := [((mm 0), .inr (5, [.ref (mm 1), .ref (mm 2), .ref (mm 3), .ref (mm 4), .int kp, .ref (mm 5), .int ty, .int th, .int at0, .int fa, .ref (mm 6), .int ts, .ref (mm 7), .ref (mm 8), .ref (mm 9), .int (nI n)])), ((mm 1), .inl (cI, 12, .inl xm_mk)), ((mm 2), .inl (cI, 80, .inl v)), ((mm 7), .inl (cI, 96, .inl (fm_fl (fs_ow v) ow n))), ((mm 8), .inl (cI, 96, .inl (fm_fl (fs_li v) li n))), ((mm 9), .inl (cI, 6, .inl u_32))]) [1, 0, 5, 2, 3, 4] (by decide) rfl
      exact W.iret (v := 0) hx hb hr (fun t ht hW => ⟨⟨0, ((nI n), (fm_fl (fs_ow v) ow n), (fm_fl (fs_li v) li n), u_32), rfl, (by show _ = if lk_clr (fs_gp v n) (fs_ls v n) (v 2) (v 4) (v 5 * v 1) v d = 0 then 0 else 1; exact (if_pos q169).symm), by rw [ht]; exact hP9, hD9⟩, hS.F ht⟩) hS.2.2 dX5_ofDigit_177
    · refine lv_iconst (v := 1) hx hb dX5_ofDigit_172 (by decide) ?_
      refine lv_goto (tgt := 177) hx hb dX5_ofDigit_173 (by decide) ?_
      have hP9 := hP.sub (ws' := [((mm 0), .inr (5, [.ref (mm 1), .ref (mm 2), .ref (mm 3), .ref (mm 4), .int kp, .ref (mm 5), .int ty, .int th, .int at0, .int fa, .ref (mm 6), .int ts, .ref (mm 7), .ref (mm 8), .ref (mm 9), .int (nI n)])), ((mm 1), .inl (cI, 12, .inl xm_mk)), ((mm 2), .inl (cI, 80, .inl v)), ((mm 7), .inl (cI, 96, .inl (fm_fl (fs_ow v) ow n))), ((mm 8), .inl (cI, 96, .inl (fm_fl (fs_li v) li n))), ((mm 9), .inl (cI, 6, .inl u_32))]) [1, 0, 5, 2, 3, 4] rfl
      have hD9 := hD.sub (ws' := [((mm 0), .inr (5, [.ref (mm 1), .ref (mm 2), .ref (mm 3), .ref (mm 4), .int kp, .ref (mm 5), .int ty, .int th, .int at0, .int fa, .ref (mm 6), .int ts, .ref (mm 7), .ref (mm 8), .ref (mm 9), .int (nI n)])), ((mm 1), .inl (cI, 12, .inl xm_mk)), ((mm 2), .inl (cI, 80, .inl v)), ((mm 7), .inl (cI, 96, .inl (fm_fl (fs_ow v) ow n))), ((mm 8), .inl (cI, 96, .inl (fm_fl (fs_li v) li n))), ((mm 9), .inl (cI, 6, .inl u_32))]) [1, 0, 5, 2, 3, 4] (by decide) rfl
      exact W.iret (v := 1) hx hb hr (fun t ht hW => ⟨⟨1, ((nI n), (fm_fl (fs_ow v) ow n), (fm_fl (fs_li v) li n), u_32), rfl, (by show _ = if lk_clr (fs_gp v n) (fs_ls v n) (v 2) (v 4) (v 5 * v 1) v d = 0 then 0 else 1; exact (if_neg q169).symm), by rw [ht]; exact hP9, hD9⟩, hS.F ht⟩) hS.2.2 dX5_ofDigit_177
  · refine lv_iload_n hx hb dX5_ofDigit_0 rfl (lv_at hl 2 rfl) ?_
    refine lv_iconst (v := 5) hx hb dX5_ofDigit_1 (by decide) ?_
    refine lv_icmp_ge (tgt := 59) hx hb dX5_ofDigit_2 (by decide) (fun q9 => ?_) (fun q9 => absurd (by decide) q9)
    refine lv_iload_n hx hb dX5_ofDigit_59 rfl (lv_at hl 2 rfl) ?_
    refine lv_bipush (v := 9) hx hb dX5_ofDigit_60 (by decide) ?_
    refine lv_icmp_le (tgt := 89) hx hb dX5_ofDigit_62 (by decide) (fun q9 => absurd q9 (by decide)) (fun q9 => ?_)
    refine lv_iload_n hx hb dX5_ofDigit_65 rfl (lv_at hl 2 rfl) ?_
    refine lv_bipush (v := 10) hx hb dX5_ofDigit_66 (by decide) ?_
    refine lv_icmp_ne (tgt := 79) hx hb dX5_ofDigit_68 (by decide) (fun q9 => absurd (by decide) q9) (fun q9 => ?_)
    refine lv_aload_n hx hb dX5_ofDigit_71 rfl (lv_at hl 0 rfl) ?_
    refine lv_iload_n hx hb dX5_ofDigit_72 rfl (lv_at hl 1 rfl) ?_
    have hPc := hP.sub (ws' := [((mm 0), .inr (5, [.ref (mm 1), .ref (mm 2), .ref (mm 3), .ref (mm 4), .int kp, .ref (mm 5), .int ty, .int th, .int at0, .int fa, .ref (mm 6), .int ts, .ref (mm 7), .ref (mm 8), .ref (mm 9), .int fr])), ((mm 1), .inl (cI, 12, .inl xm_mk)), ((mm 2), .inl (cI, 80, .inl v))]) [0, 1, 2] rfl
    refine W.callV ((va_runV (As := [.int (nI d)]) (rest := []) ⟨hx, hb, hml, hown, hts⟩ (c_X5_readable l dC dI cI cS cJ tt mm kp ty th at0 fa ts fr v d) (cwV 1 hts gX5_ofDigit_X5_readable rfl rfl rfl (by decide +kernel) ⟨Nat.le_of_ble_eq_true rfl, Nat.le_of_ble_eq_true rfl⟩) ⟨xm_Rblind, va_recv hK hPc (ci := 5) (q0 := 0) rfl rfl, fun U hU hW => ⟨rfl, by rw [hU]; exact hPc, hE.go hS (fun _ q => q.elim) hU hW, ⟨hd6, hsg⟩⟩⟩ rfl rfl hl.1 rfl (lv_room (Nat.le_of_ble_eq_true rfl)) dX5_ofDigit_73 ⟨Nat.zero_le _, Nat.zero_le _⟩).run) ?_
    refine W.eq (g2 := F0 m 76 lz (.int (lk_rd v d) :: [])) rfl ?_
    refine lv_goto (tgt := 88) hx hb dX5_ofDigit_76 (by decide) ?_
    have hP9 : va_P (dC, dI) vwCl [((mm 0), .inr (5, [.ref (mm 1), .ref (mm 2), .ref (mm 3), .ref (mm 4), .int kp, .ref (mm 5), .int ty, .int th, .int at0, .int fa, .ref (mm 6), .int ts, .ref (mm 7), .ref (mm 8), .ref (mm 9), .int fr])), ((mm 1), .inl (cI, 12, .inl xm_mk)), ((mm 2), .inl (cI, 80, .inl v)), ((mm 7), .inl (cI, 96, .inl ow)), ((mm 8), .inl (cI, 96, .inl li)), ((mm 9), .inl (cI, 6, .inl cr))] s.heap := hP
    have hD9 : va_D A [((mm 0), .inr (5, [.ref (mm 1), .ref (mm 2), .ref (mm 3), .ref (mm 4), .int kp, .ref (mm 5), .int ty, .int th, .int at0, .int fa, .ref (mm 6), .int ts, .ref (mm 7), .ref (mm 8), .ref (mm 9), .int fr])), ((mm 1), .inl (cI, 12, .inl xm_mk)), ((mm 2), .inl (cI, 80, .inl v)), ((mm 7), .inl (cI, 96, .inl ow)), ((mm 8), .inl (cI, 96, .inl li)), ((mm 9), .inl (cI, 6, .inl cr))] := hD
    exact W.iret (v := lk_rd v d) hx hb hr (fun t ht hW => ⟨⟨lk_rd v d, (fr, ow, li, cr), rfl, (rfl), by rw [ht]; exact hP9, hD9⟩, hS.F ht⟩) hS.2.2 dX5_ofDigit_88
  · refine lv_iload_n hx hb dX5_ofDigit_0 rfl (lv_at hl 2 rfl) ?_
    refine lv_iconst (v := 5) hx hb dX5_ofDigit_1 (by decide) ?_
    refine lv_icmp_ge (tgt := 59) hx hb dX5_ofDigit_2 (by decide) (fun q9 => ?_) (fun q9 => absurd (by decide) q9)
    refine lv_iload_n hx hb dX5_ofDigit_59 rfl (lv_at hl 2 rfl) ?_
    refine lv_bipush (v := 9) hx hb dX5_ofDigit_60 (by decide) ?_
    refine lv_icmp_le (tgt := 89) hx hb dX5_ofDigit_62 (by decide) (fun q9 => absurd q9 (by decide)) (fun q9 => ?_)
    refine lv_iload_n hx hb dX5_ofDigit_65 rfl (lv_at hl 2 rfl) ?_
    refine lv_bipush (v := 10) hx hb dX5_ofDigit_66 (by decide) ?_
    refine lv_icmp_ne (tgt := 79) hx hb dX5_ofDigit_68 (by decide) (fun q9 => ?_) (fun q9 => absurd q9 (by decide))
    refine lv_aload_n hx hb dX5_ofDigit_79 rfl (lv_at hl 0 rfl) ?_
    refine va_get (D := (dC, dI)) (ci := 5) (v := .ref (mm 2)) (C := RX5) (T := TX5) (N := 16) hx hb hts hin5 hown hK hP 0 rfl rfl 1 (by decide) (hts (.fieldLink RX5 13 "TurnDigitsModel" "now" "[I") (by decide +kernel)) (fun _ h9 => h9) rfl dX5_ofDigit_80 ?_
    refine lv_bipush (v := 32) hx hb dX5_ofDigit_83 (by decide) ?_
    refine lv_iload_n hx hb dX5_ofDigit_85 rfl (lv_at hl 1 rfl) ?_
    refine lv_iadd hx hb dX5_ofDigit_86 ?_
    refine xm_topi (y := nI (32 + d)) (nI_add 32 d) ?_
    refine xm_iald (D := (dC, dI)) hx hb hK hP 2 0 (32 + d) (v := v (32 + d)) rfl rfl (by decide) rfl (by omega) rfl dX5_ofDigit_87 ?_
    have hP9 : va_P (dC, dI) vwCl [((mm 0), .inr (5, [.ref (mm 1), .ref (mm 2), .ref (mm 3), .ref (mm 4), .int kp, .ref (mm 5), .int ty, .int th, .int at0, .int fa, .ref (mm 6), .int ts, .ref (mm 7), .ref (mm 8), .ref (mm 9), .int fr])), ((mm 1), .inl (cI, 12, .inl xm_mk)), ((mm 2), .inl (cI, 80, .inl v)), ((mm 7), .inl (cI, 96, .inl ow)), ((mm 8), .inl (cI, 96, .inl li)), ((mm 9), .inl (cI, 6, .inl cr))] s.heap := hP
    have hD9 : va_D A [((mm 0), .inr (5, [.ref (mm 1), .ref (mm 2), .ref (mm 3), .ref (mm 4), .int kp, .ref (mm 5), .int ty, .int th, .int at0, .int fa, .ref (mm 6), .int ts, .ref (mm 7), .ref (mm 8), .ref (mm 9), .int fr])), ((mm 1), .inl (cI, 12, .inl xm_mk)), ((mm 2), .inl (cI, 80, .inl v)), ((mm 7), .inl (cI, 96, .inl ow)), ((mm 8), .inl (cI, 96, .inl li)), ((mm 9), .inl (cI, 6, .inl cr))] := hD
    exact W.iret (v := v (32 + d)) hx hb hr (fun t ht hW => ⟨⟨v (32 + d), (fr, ow, li, cr), rfl, (rfl), by rw [ht]; exact hP9, hD9⟩, hS.F ht⟩) hS.2.2 dX5_ofDigit_88

set_option maxHeartbeats 4000000 in
set_option maxRecDepth 100000 in
theorem c_X5_tries (l : Launch) (dC : Nat → ClassId) (dI : Nat → Nat → Nat) (cI cS cJ : ClassId) (tt : Nat → Nat) (sz : Nat) (mm : Nat → Nat) (kp : Int32) (ty : Int32) (th : Int32) (at0 : Int32) (fa : Int32) (ts : Int32) (fr : Int32) (v : Nat → Int32) (w9 : Nat → Int32) (ow : Nat → Int32) (li : Nat → Int32) (cr : Nat → Int32) (n : Nat) (d : Nat) (lev : Int32) : Met l yX5_tries wsX5_tries ({ frames := 3, cells := 0, slots := 0, locals := 68 } : Room) (va_Pc [.ref (mm 0), .int (nI d), .int lev] (xm_M (dC, dI) cI cS cJ tt [((mm 0), .inr (5, [.ref (mm 1), .ref (mm 2), .ref (mm 3), .ref (mm 4), .int kp, .ref (mm 5), .int ty, .int th, .int at0, .int fa, .ref (mm 6), .int ts, .ref (mm 7), .ref (mm 8), .ref (mm 9), .int fr])), ((mm 2), .inl (cI, 80, .inl v)), ((mm 3), .inl (cI, 80, .inl w9)), ((mm 7), .inl (cI, 96, .inl ow)), ((mm 8), .inl (cI, 96, .inl li)), ((mm 9), .inl (cI, 6, .inl cr))] sz (vo_f v n ∧ d < 6))) (va_Qv (fun (u : Int32 × (Nat → Int32) × (Nat → Int32) × (Nat → Int32) × (Nat → Int32)) => u.1 = nI n ∧ u.2.1 = th_v v d lev ∧ u.2.2.2.1 = fm_fl (if_li v d lev) li n) (xm_B (dC, dI) (fun (u : Int32 × (Nat → Int32) × (Nat → Int32) × (Nat → Int32) × (Nat → Int32)) => [((mm 0), .inr (5, [.ref (mm 1), .ref (mm 2), .ref (mm 3), .ref (mm 4), .int kp, .ref (mm 5), .int ty, .int th, .int at0, .int fa, .ref (mm 6), .int ts, .ref (mm 7), .ref (mm 8), .ref (mm 9), .int u.1])), ((mm 2), .inl (cI, 80, .inl v)), ((mm 3), .inl (cI, 80, .inl u.2.1)), ((mm 7), .inl (cI, 96, .inl u.2.2.1)), ((mm 8), .inl (cI, 96, .inl u.2.2.2.1)), ((mm 9), .inl (cI, 6, .inl u.2.2.2.2))]) (va_A [((mm 0), .inr (5, [.ref (mm 1), .ref (mm 2), .ref (mm 3), .ref (mm 4), .int kp, .ref (mm 5), .int ty, .int th, .int at0, .int fa, .ref (mm 6), .int ts, .ref (mm 7), .ref (mm 8), .ref (mm 9), .int fr])), ((mm 2), .inl (cI, 80, .inl v)), ((mm 3), .inl (cI, 80, .inl w9)), ((mm 7), .inl (cI, 96, .inl ow)), ((mm 8), .inl (cI, 96, .inl li)), ((mm 9), .inl (cI, 6, .inl cr))] sz)) (va_A [((mm 0), .inr (5, [.ref (mm 1), .ref (mm 2), .ref (mm 3), .ref (mm 4), .int kp, .ref (mm 5), .int ty, .int th, .int at0, .int fa, .ref (mm 6), .int ts, .ref (mm 7), .ref (mm 8), .ref (mm 9), .int fr])), ((mm 2), .inl (cI, 80, .inl v)), ((mm 3), .inl (cI, 80, .inl w9)), ((mm 7), .inl (cI, 96, .inl ow)), ((mm 8), .inl (cI, 96, .inl li)), ((mm 9), .inl (cI, 6, .inl cr))] sz)) 0 0 (va_A [((mm 0), .inr (5, [.ref (mm 1), .ref (mm 2), .ref (mm 3), .ref (mm 4), .int kp, .ref (mm 5), .int ty, .int th, .int at0, .int fa, .ref (mm 6), .int ts, .ref (mm 7), .ref (mm 8), .ref (mm 9), .int fr])), ((mm 2), .inl (cI, 80, .inl v)), ((mm 3), .inl (cI, 80, .inl w9)), ((mm 7), .inl (cI, 96, .inl ow)), ((mm 8), .inl (cI, 96, .inl li)), ((mm 9), .inl (cI, 6, .inl cr))] sz) := by
  refine Met.ofW (cc := cX5_tries) (maxL := 4) (ret := none) (by decide) rfl ?_
  intro p e s m args below meth c s₁ B hml hv
  obtain ⟨rfl, hsz, hP, hE, hD0, hpre⟩ := hv
  have hx := B.exec
  have hb := B.bytes
  have hr := B.returns
  have hts := atoms_spec (ws := wsX5_tries) B.pre
  have hown : s.vm.findClass RX5 = some m.cls := findClass_of_methodNamed B.named
  have hlocks := B.notSynchronized
  have hK := hE.1
  subst hsz
  have hD := hD0.self (sz := s.heap.size)
  generalize hAe : va_A [((mm 0), .inr (5, [.ref (mm 1), .ref (mm 2), .ref (mm 3), .ref (mm 4), .int kp, .ref (mm 5), .int ty, .int th, .int at0, .int fa, .ref (mm 6), .int ts, .ref (mm 7), .ref (mm 8), .ref (mm 9), .int fr])), ((mm 2), .inl (cI, 80, .inl v)), ((mm 3), .inl (cI, 80, .inl w9)), ((mm 7), .inl (cI, 96, .inl ow)), ((mm 8), .inl (cI, 96, .inl li)), ((mm 9), .inl (cI, 6, .inl cr))] s.heap.size = A at hD hE ⊢
  have hA : ∀ q : Nat, s.heap.size ≤ q → A q := fun q h => by rw [← hAe]; exact Or.inr h
  have hS : va_S A s.heap s.heap [] := va_S.rf
  have hP : va_P (dC, dI) vwCl [((mm 0), .inr (5, [.ref (mm 1), .ref (mm 2), .ref (mm 3), .ref (mm 4), .int kp, .ref (mm 5), .int ty, .int th, .int at0, .int fa, .ref (mm 6), .int ts, .ref (mm 7), .ref (mm 8), .ref (mm 9), .int fr])), ((mm 2), .inl (cI, 80, .inl v)), ((mm 3), .inl (cI, 80, .inl w9)), ((mm 7), .inl (cI, 96, .inl ow)), ((mm 8), .inl (cI, 96, .inl li)), ((mm 9), .inl (cI, 6, .inl cr))] s.heap := hP
  have hin5 : ∀ w ∈ u_ws RX5 TX5 16, w ∈ wsX5_tries := by decide +kernel
  have hl := lv_entry [.ref (mm 0), .int (nI d), .int lev] (n := 4) (Nat.le_of_ble_eq_true rfl)
  rw [lg_entry_eq]
  generalize (lg_sl [.ref (mm 0), .int (nI d), .int lev] ++ List.replicate (4 - (lg_sl [.ref (mm 0), .int (nI d), .int lev]).length) Slot.unset).toArray = lz at hl ⊢
  have hl : lv_has lz 4 [(0, .ref (mm 0)), (1, .int (nI d)), (2, .int lev)] := hl
  obtain ⟨hvo, hd6⟩ := hpre
  refine lv_iconst (v := 0) hx hb dX5_tries_0 (by decide) ?_
  refine lv_istore_n (lv' := [(3, .int 0), (0, .ref (mm 0)), (1, .int (nI d)), (2, .int lev)]) hx hb dX5_tries_1 rfl hl (by decide) rfl (fun lz hl => ?_)
  have L2 : ∀ (zz i : Nat), i ≤ 80 → 80 + 1 ≤ i + zz → ∀ (f : Nat → Int32), f = fm_fl v w9 i → ∀ (H : Heap) (locs : List Loc), va_P (dC, dI) vwCl [((mm 0), .inr (5, [.ref (mm 1), .ref (mm 2), .ref (mm 3), .ref (mm 4), .int kp, .ref (mm 5), .int ty, .int th, .int at0, .int fa, .ref (mm 6), .int ts, .ref (mm 7), .ref (mm 8), .ref (mm 9), .int fr])), ((mm 2), .inl (cI, 80, .inl v)), ((mm 3), .inl (cI, 80, .inl f)), ((mm 7), .inl (cI, 96, .inl ow)), ((mm 8), .inl (cI, 96, .inl li)), ((mm 9), .inl (cI, 6, .inl cr))] H → va_D A [((mm 0), .inr (5, [.ref (mm 1), .ref (mm 2), .ref (mm 3), .ref (mm 4), .int kp, .ref (mm 5), .int ty, .int th, .int at0, .int fa, .ref (mm 6), .int ts, .ref (mm 7), .ref (mm 8), .ref (mm 9), .int fr])), ((mm 2), .inl (cI, 80, .inl v)), ((mm 3), .inl (cI, 80, .inl f)), ((mm 7), .inl (cI, 96, .inl ow)), ((mm 8), .inl (cI, 96, .inl li)), ((mm 9), .inl (cI, 6, .inl cr))] → va_S A s.heap H locs → ∀ (lz : Array Slot), lv_has lz 4 [(0, .ref (mm 0)), (1, .int (nI d)), (2, .int lev), (3, .int (nI i))] → W p l e (headSpec wsX5_tries ({ frames := 3, cells := 0, slots := 0, locals := 68 } : Room)).room s m ([.ref (mm 0), .int (nI d), .int lev] : List Value).toArray below meth c H locs 0 0 (MQ below (va_Qv (fun (u : Int32 × (Nat → Int32) × (Nat → Int32) × (Nat → Int32) × (Nat → Int32)) => u.1 = nI n ∧ u.2.1 = th_v v d lev ∧ u.2.2.2.1 = fm_fl (if_li v d lev) li n) (xm_B (dC, dI) (fun (u : Int32 × (Nat → Int32) × (Nat → Int32) × (Nat → Int32) × (Nat → Int32)) => [((mm 0), .inr (5, [.ref (mm 1), .ref (mm 2), .ref (mm 3), .ref (mm 4), .int kp, .ref (mm 5), .int ty, .int th, .int at0, .int fa, .ref (mm 6), .int ts, .ref (mm 7), .ref (mm 8), .ref (mm 9), .int u.1])), ((mm 2), .inl (cI, 80, .inl v)), ((mm 3), .inl (cI, 80, .inl u.2.1)), ((mm 7), .inl (cI, 96, .inl u.2.2.1)), ((mm 8), .inl (cI, 96, .inl u.2.2.2.1)), ((mm 9), .inl (cI, 6, .inl u.2.2.2.2))]) A) A) ([.ref (mm 0), .int (nI d), .int lev] : List Value).toArray s 0 0 A) (F0 m 2 lz []) := by
    intro zz
    induction zz with
    | zero => intro i hii hni; exact absurd hni (by omega)
    | succ zz ih2 =>
      intro i hii hni f e_f  H locs hP hD hS lz hl
      subst e_f
      refine lv_iload_n hx hb dX5_tries_2 rfl (lv_at hl 3 rfl) ?_
      refine lv_bipush (v := 80) hx hb dX5_tries_3 (by decide) ?_
      refine lv_icmp_ge (tgt := 26) hx hb dX5_tries_5 (by decide) (fun q5 => ?_) (fun q5 => ?_)
      · have hNi : 80 = i := (xm_end (N := 80) hii (by decide) q5).symm
        subst hNi
        obtain ⟨hP, hD⟩ := xm_cong hP hD 2 rfl (v) (fun j hj => by rw [fm_fl_in hj])
        have hP : va_P (dC, dI) vwCl [((mm 0), .inr (5, [.ref (mm 1), .ref (mm 2), .ref (mm 3), .ref (mm 4), .int kp, .ref (mm 5), .int ty, .int th, .int at0, .int fa, .ref (mm 6), .int ts, .ref (mm 7), .ref (mm 8), .ref (mm 9), .int fr])), ((mm 2), .inl (cI, 80, .inl v)), ((mm 3), .inl (cI, 80, .inl v)), ((mm 7), .inl (cI, 96, .inl ow)), ((mm 8), .inl (cI, 96, .inl li)), ((mm 9), .inl (cI, 6, .inl cr))] H := hP
        have hD : va_D A [((mm 0), .inr (5, [.ref (mm 1), .ref (mm 2), .ref (mm 3), .ref (mm 4), .int kp, .ref (mm 5), .int ty, .int th, .int at0, .int fa, .ref (mm 6), .int ts, .ref (mm 7), .ref (mm 8), .ref (mm 9), .int fr])), ((mm 2), .inl (cI, 80, .inl v)), ((mm 3), .inl (cI, 80, .inl v)), ((mm 7), .inl (cI, 96, .inl ow)), ((mm 8), .inl (cI, 96, .inl li)), ((mm 9), .inl (cI, 6, .inl cr))] := hD
        refine lv_iconst (v := 0) hx hb dX5_tries_26 (by decide) ?_
        refine lv_istore_n (lv' := [(3, .int 0), (0, .ref (mm 0)), (1, .int (nI d)), (2, .int lev)]) hx hb dX5_tries_27 rfl hl (by decide) rfl (fun lz hl => ?_)
        have L28 : ∀ (zz i : Nat), i ≤ 6 → 6 + 1 ≤ i + zz → ∀ (f : Nat → Int32), f = xv_rw 26 i (fun _ => 0) v → ∀ (H : Heap) (locs : List Loc), va_P (dC, dI) vwCl [((mm 0), .inr (5, [.ref (mm 1), .ref (mm 2), .ref (mm 3), .ref (mm 4), .int kp, .ref (mm 5), .int ty, .int th, .int at0, .int fa, .ref (mm 6), .int ts, .ref (mm 7), .ref (mm 8), .ref (mm 9), .int fr])), ((mm 2), .inl (cI, 80, .inl v)), ((mm 3), .inl (cI, 80, .inl f)), ((mm 7), .inl (cI, 96, .inl ow)), ((mm 8), .inl (cI, 96, .inl li)), ((mm 9), .inl (cI, 6, .inl cr))] H → va_D A [((mm 0), .inr (5, [.ref (mm 1), .ref (mm 2), .ref (mm 3), .ref (mm 4), .int kp, .ref (mm 5), .int ty, .int th, .int at0, .int fa, .ref (mm 6), .int ts, .ref (mm 7), .ref (mm 8), .ref (mm 9), .int fr])), ((mm 2), .inl (cI, 80, .inl v)), ((mm 3), .inl (cI, 80, .inl f)), ((mm 7), .inl (cI, 96, .inl ow)), ((mm 8), .inl (cI, 96, .inl li)), ((mm 9), .inl (cI, 6, .inl cr))] → va_S A s.heap H locs → ∀ (lz : Array Slot), lv_has lz 4 [(0, .ref (mm 0)), (1, .int (nI d)), (2, .int lev), (3, .int (nI i))] → W p l e (headSpec wsX5_tries ({ frames := 3, cells := 0, slots := 0, locals := 68 } : Room)).room s m ([.ref (mm 0), .int (nI d), .int lev] : List Value).toArray below meth c H locs 0 0 (MQ below (va_Qv (fun (u : Int32 × (Nat → Int32) × (Nat → Int32) × (Nat → Int32) × (Nat → Int32)) => u.1 = nI n ∧ u.2.1 = th_v v d lev ∧ u.2.2.2.1 = fm_fl (if_li v d lev) li n) (xm_B (dC, dI) (fun (u : Int32 × (Nat → Int32) × (Nat → Int32) × (Nat → Int32) × (Nat → Int32)) => [((mm 0), .inr (5, [.ref (mm 1), .ref (mm 2), .ref (mm 3), .ref (mm 4), .int kp, .ref (mm 5), .int ty, .int th, .int at0, .int fa, .ref (mm 6), .int ts, .ref (mm 7), .ref (mm 8), .ref (mm 9), .int u.1])), ((mm 2), .inl (cI, 80, .inl v)), ((mm 3), .inl (cI, 80, .inl u.2.1)), ((mm 7), .inl (cI, 96, .inl u.2.2.1)), ((mm 8), .inl (cI, 96, .inl u.2.2.2.1)), ((mm 9), .inl (cI, 6, .inl u.2.2.2.2))]) A) A) ([.ref (mm 0), .int (nI d), .int lev] : List Value).toArray s 0 0 A) (F0 m 28 lz []) := by
          intro zz
          induction zz with
          | zero => intro i hii hni; exact absurd hni (by omega)
          | succ zz ih28 =>
            intro i hii hni f e_f  H locs hP hD hS lz hl
            subst e_f
            refine lv_iload_n hx hb dX5_tries_28 rfl (lv_at hl 3 rfl) ?_
            refine lv_bipush (v := 6) hx hb dX5_tries_29 (by decide) ?_
            refine lv_icmp_ge (tgt := 50) hx hb dX5_tries_31 (by decide) (fun q31 => ?_) (fun q31 => ?_)
            · have hNi : 6 = i := (xm_end (N := 6) hii (by decide) q31).symm
              subst hNi
              obtain ⟨hP, hD⟩ := xm_cong hP hD 2 rfl (xv_zc v) (fun j hj => by unfold xv_zc xv_rw; rfl)
              have hP : va_P (dC, dI) vwCl [((mm 0), .inr (5, [.ref (mm 1), .ref (mm 2), .ref (mm 3), .ref (mm 4), .int kp, .ref (mm 5), .int ty, .int th, .int at0, .int fa, .ref (mm 6), .int ts, .ref (mm 7), .ref (mm 8), .ref (mm 9), .int fr])), ((mm 2), .inl (cI, 80, .inl v)), ((mm 3), .inl (cI, 80, .inl (xv_zc v))), ((mm 7), .inl (cI, 96, .inl ow)), ((mm 8), .inl (cI, 96, .inl li)), ((mm 9), .inl (cI, 6, .inl cr))] H := hP
              have hD : va_D A [((mm 0), .inr (5, [.ref (mm 1), .ref (mm 2), .ref (mm 3), .ref (mm 4), .int kp, .ref (mm 5), .int ty, .int th, .int at0, .int fa, .ref (mm 6), .int ts, .ref (mm 7), .ref (mm 8), .ref (mm 9), .int fr])), ((mm 2), .inl (cI, 80, .inl v)), ((mm 3), .inl (cI, 80, .inl (xv_zc v))), ((mm 7), .inl (cI, 96, .inl ow)), ((mm 8), .inl (cI, 96, .inl li)), ((mm 9), .inl (cI, 6, .inl cr))] := hD
              refine lv_aload_n hx hb dX5_tries_50 rfl (lv_at hl 0 rfl) ?_
              refine va_get (D := (dC, dI)) (ci := 5) (v := .ref (mm 3)) (C := RX5) (T := TX5) (N := 16) hx hb hts hin5 hown hK hP 0 rfl rfl 2 (by decide) (hts (.fieldLink RX5 16 "TurnDigitsModel" "then" "[I") (by decide +kernel)) (fun _ h9 => h9) rfl dX5_tries_51 ?_
              refine lv_bipush (v := 14) hx hb dX5_tries_54 (by decide) ?_
              refine lv_iload_n hx hb dX5_tries_56 rfl (lv_at hl 1 rfl) ?_
              refine lv_iadd hx hb dX5_tries_57 ?_
              refine xm_topi (y := nI (14 + d)) (nI_add 14 d) ?_
              refine lv_iload_n hx hb dX5_tries_58 rfl (lv_at hl 2 rfl) ?_
              refine xm_iast (D := (dC, dI)) hx hb hK hP hD hS 2 0 (14 + d) rfl rfl (by decide) rfl (by omega) dX5_tries_59 (fun H locs hP hD hS => ?_)
              have hP : va_P (dC, dI) vwCl [((mm 0), .inr (5, [.ref (mm 1), .ref (mm 2), .ref (mm 3), .ref (mm 4), .int kp, .ref (mm 5), .int ty, .int th, .int at0, .int fa, .ref (mm 6), .int ts, .ref (mm 7), .ref (mm 8), .ref (mm 9), .int fr])), ((mm 2), .inl (cI, 80, .inl v)), ((mm 3), .inl (cI, 80, .inl (upd (xv_zc v) (14 + d) lev))), ((mm 7), .inl (cI, 96, .inl ow)), ((mm 8), .inl (cI, 96, .inl li)), ((mm 9), .inl (cI, 6, .inl cr))] H := hP
              have hD : va_D A [((mm 0), .inr (5, [.ref (mm 1), .ref (mm 2), .ref (mm 3), .ref (mm 4), .int kp, .ref (mm 5), .int ty, .int th, .int at0, .int fa, .ref (mm 6), .int ts, .ref (mm 7), .ref (mm 8), .ref (mm 9), .int fr])), ((mm 2), .inl (cI, 80, .inl v)), ((mm 3), .inl (cI, 80, .inl (upd (xv_zc v) (14 + d) lev))), ((mm 7), .inl (cI, 96, .inl ow)), ((mm 8), .inl (cI, 96, .inl li)), ((mm 9), .inl (cI, 6, .inl cr))] := hD
              refine lv_aload_n hx hb dX5_tries_60 rfl (lv_at hl 0 rfl) ?_
              refine lv_aload_n hx hb dX5_tries_61 rfl (lv_at hl 0 rfl) ?_
              refine va_get (D := (dC, dI)) (ci := 5) (v := .ref (mm 3)) (C := RX5) (T := TX5) (N := 16) hx hb hts hin5 hown hK hP 0 rfl rfl 2 (by decide) (hts (.fieldLink RX5 16 "TurnDigitsModel" "then" "[I") (by decide +kernel)) (fun _ h9 => h9) rfl dX5_tries_62 ?_
              have hPc := hP.sub (ws' := [((mm 0), .inr (5, [.ref (mm 1), .ref (mm 2), .ref (mm 3), .ref (mm 4), .int kp, .ref (mm 5), .int ty, .int th, .int at0, .int fa, .ref (mm 6), .int ts, .ref (mm 7), .ref (mm 8), .ref (mm 9), .int fr])), ((mm 7), .inl (cI, 96, .inl ow)), ((mm 8), .inl (cI, 96, .inl li)), ((mm 9), .inl (cI, 6, .inl cr)), ((mm 3), .inl (cI, 80, .inl (th_v v d lev)))]) [0, 3, 4, 5, 2] rfl
              have hDc := hD.sub (ws' := [((mm 0), .inr (5, [.ref (mm 1), .ref (mm 2), .ref (mm 3), .ref (mm 4), .int kp, .ref (mm 5), .int ty, .int th, .int at0, .int fa, .ref (mm 6), .int ts, .ref (mm 7), .ref (mm 8), .ref (mm 9), .int fr])), ((mm 7), .inl (cI, 96, .inl ow)), ((mm 8), .inl (cI, 96, .inl li)), ((mm 9), .inl (cI, 6, .inl cr)), ((mm 3), .inl (cI, 80, .inl (th_v v d lev)))]) [0, 3, 4, 5, 2] (by decide) rfl
              have hFc := va_free (wc := [((mm 0), .inr (5, [.ref (mm 1), .ref (mm 2), .ref (mm 3), .ref (mm 4), .int kp, .ref (mm 5), .int ty, .int th, .int at0, .int fa, .ref (mm 6), .int ts, .ref (mm 7), .ref (mm 8), .ref (mm 9), .int fr])), ((mm 7), .inl (cI, 96, .inl ow)), ((mm 8), .inl (cI, 96, .inl li)), ((mm 9), .inl (cI, 6, .inl cr)), ((mm 3), .inl (cI, 80, .inl (th_v v d lev)))]) hD hS hA [0, 3, 4, 5, 2] rfl
              refine va_callv (va_runV (As := [.ref (mm 3)]) (rest := []) ⟨hx, hb, hml, hown, hts⟩ (c_X5_frames l dC dI cI cS cJ tt H.size mm kp ty th at0 fa ts fr (mm 3) (th_v v d lev) ow li cr n) (cwV 1 hts gX5_tries_X5_frames rfl rfl rfl (by decide +kernel) ⟨Nat.le_of_ble_eq_true rfl, Nat.le_of_ble_eq_true rfl⟩) ⟨xm_Mblind, va_recv hK hPc (ci := 5) (q0 := 0) rfl rfl, fun U hU hW => ⟨rfl, by rw [hU], by rw [hU]; exact hPc, hE.go hS hFc hU hW, hDc.weaken (fun _ _ _ _ => trivial), (th_ok hvo)⟩⟩ rfl rfl hl.1 rfl (lv_room (Nat.le_of_ble_eq_true rfl)) dX5_tries_65 ⟨Nat.zero_le _, Nat.zero_le _⟩) hS (fun q _ h => hFc q h) hFc (fun u t H1 locs ht hvm hw hB hz1 hk1 hS => ?_)
              obtain ⟨u_1, u_2, u_3, u_4⟩ := u
              obtain ⟨hP1, hD1⟩ := hB
              rw [ht] at hP1
              obtain ⟨hw_5, hw_6, hw_7⟩ := hw
              have hw_5 : u_1 = nI n := hw_5
              subst hw_5
              have hw_6 : u_2 = fm_fl (fs_ow (th_v v d lev)) ow n := hw_6
              subst hw_6
              have hw_7 : u_3 = fm_fl (fs_li (th_v v d lev)) li n := hw_7
              subst hw_7
              obtain ⟨hP, hD⟩ := va_join (wr := [((mm 2), .inl (cI, 80, .inl v))]) (w1 := [((mm 0), .inr (5, [.ref (mm 1), .ref (mm 2), .ref (mm 3), .ref (mm 4), .int kp, .ref (mm 5), .int ty, .int th, .int at0, .int fa, .ref (mm 6), .int ts, .ref (mm 7), .ref (mm 8), .ref (mm 9), .int (nI n)])), ((mm 7), .inl (cI, 96, .inl (fm_fl (fs_ow (th_v v d lev)) ow n))), ((mm 8), .inl (cI, 96, .inl (fm_fl (fs_li (th_v v d lev)) li n))), ((mm 9), .inl (cI, 6, .inl u_4)), ((mm 3), .inl (cI, 80, .inl (th_v v d lev)))]) hP hD [0, 3, 4, 5, 2] [1] rfl rfl (by decide) (by decide) hk1 hFc hP1 hD1
              generalize H1 = H at hP hS ⊢
              have hP : va_P (dC, dI) vwCl [((mm 2), .inl (cI, 80, .inl v)), ((mm 0), .inr (5, [.ref (mm 1), .ref (mm 2), .ref (mm 3), .ref (mm 4), .int kp, .ref (mm 5), .int ty, .int th, .int at0, .int fa, .ref (mm 6), .int ts, .ref (mm 7), .ref (mm 8), .ref (mm 9), .int (nI n)])), ((mm 7), .inl (cI, 96, .inl (fm_fl (fs_ow (th_v v d lev)) ow n))), ((mm 8), .inl (cI, 96, .inl (fm_fl (fs_li (th_v v d lev)) li n))), ((mm 9), .inl (cI, 6, .inl u_4)), ((mm 3), .inl (cI, 80, .inl (th_v v d lev)))] H := hP
              have hD : va_D A [((mm 2), .inl (cI, 80, .inl v)), ((mm 0), .inr (5, [.ref (mm 1), .ref (mm 2), .ref (mm 3), .ref (mm 4), .int kp, .ref (mm 5), .int ty, .int th, .int at0, .int fa, .ref (mm 6), .int ts, .ref (mm 7), .ref (mm 8), .ref (mm 9), .int (nI n)])), ((mm 7), .inl (cI, 96, .inl (fm_fl (fs_ow (th_v v d lev)) ow n))), ((mm 8), .inl (cI, 96, .inl (fm_fl (fs_li (th_v v d lev)) li n))), ((mm 9), .inl (cI, 6, .inl u_4)), ((mm 3), .inl (cI, 80, .inl (th_v v d lev)))] := hD
              have hP9 := hP.sub (ws' := [((mm 0), .inr (5, [.ref (mm 1), .ref (mm 2), .ref (mm 3), .ref (mm 4), .int kp, .ref (mm 5), .int ty, .int th, .int at0, .int fa, .ref (mm 6), .int ts, .ref (mm 7), .ref (mm 8), .ref (mm 9), .int (nI n)])), ((mm 2), .inl (cI, 80, .inl v)), ((mm 3), .inl (cI, 80, .inl (th_v v d lev))), ((mm 7), .inl (cI, 96, .inl (fm_fl (fs_ow (th_v v d lev)) ow n))), ((mm 8), .inl (cI, 96, .inl (fm_fl (fs_li (th_v v d lev)) li n))), ((mm 9), .inl (cI, 6, .inl u_4))]) [1, 0, 5, 2, 3, 4] rfl
              have hD9 := hD.sub (ws' := [((mm 0), .inr (5, [.ref (mm 1), .ref (mm 2), .ref (mm 3), .ref (mm 4), .int kp, .ref (mm 5), .int ty, .int th, .int at0, .int fa, .ref (mm 6), .int ts, .ref (mm 7), .ref (mm 8), .ref (mm 9), .int (nI n)])), ((mm 2), .inl (cI, 80, .inl v)), ((mm 3), .inl (cI, 80, .inl (th_v v d lev))), ((mm 7), .inl (cI, 96, .inl (fm_fl (fs_ow (th_v v d lev)) ow n))), ((mm 8), .inl (cI, 96, .inl (fm_fl (fs_li (th_v v d lev)) li n))), ((mm 9), .inl (cI, 6, .inl u_4))]) [1, 0, 5, 2, 3, 4] (by decide) rfl
              exact W.vret hx hb hr (fun t ht hW => ⟨⟨((nI n), (th_v v d lev), (fm_fl (fs_ow (th_v v d lev)) ow n), (fm_fl (fs_li (th_v v d lev)) li n), u_4), rfl, ⟨(rfl), (rfl), (by rw [th_li hd6])⟩, by rw [ht]; exact hP9, hD9⟩, hS.F ht⟩) hS.2.2 dX5_tries_68
            · have hlti : i < 6 := xm_lt (N := 6) hii (by decide) q31
              refine lv_aload_n hx hb dX5_tries_34 rfl (lv_at hl 0 rfl) ?_
              refine va_get (D := (dC, dI)) (ci := 5) (v := .ref (mm 3)) (C := RX5) (T := TX5) (N := 16) hx hb hts hin5 hown hK hP 0 rfl rfl 2 (by decide) (hts (.fieldLink RX5 16 "TurnDigitsModel" "then" "[I") (by decide +kernel)) (fun _ h9 => h9) rfl dX5_tries_35 ?_
              refine lv_bipush (v := 26) hx hb dX5_tries_38 (by decide) ?_
              refine lv_iload_n hx hb dX5_tries_40 rfl (lv_at hl 3 rfl) ?_
              refine lv_iadd hx hb dX5_tries_41 ?_
              refine xm_topi (y := nI (26 + i)) (nI_add 26 i) ?_
              refine lv_iconst (v := 0) hx hb dX5_tries_42 (by decide) ?_
              refine xm_iast (D := (dC, dI)) hx hb hK hP hD hS 2 0 (26 + i) rfl rfl (by decide) rfl (by omega) dX5_tries_43 (fun H locs hP hD hS => ?_)
              have hP : va_P (dC, dI) vwCl [((mm 0), .inr (5, [.ref (mm 1), .ref (mm 2), .ref (mm 3), .ref (mm 4), .int kp, .ref (mm 5), .int ty, .int th, .int at0, .int fa, .ref (mm 6), .int ts, .ref (mm 7), .ref (mm 8), .ref (mm 9), .int fr])), ((mm 2), .inl (cI, 80, .inl v)), ((mm 3), .inl (cI, 80, .inl (upd (xv_rw 26 i (fun _ => 0) v) (26 + i) 0))), ((mm 7), .inl (cI, 96, .inl ow)), ((mm 8), .inl (cI, 96, .inl li)), ((mm 9), .inl (cI, 6, .inl cr))] H := hP
              have hD : va_D A [((mm 0), .inr (5, [.ref (mm 1), .ref (mm 2), .ref (mm 3), .ref (mm 4), .int kp, .ref (mm 5), .int ty, .int th, .int at0, .int fa, .ref (mm 6), .int ts, .ref (mm 7), .ref (mm 8), .ref (mm 9), .int fr])), ((mm 2), .inl (cI, 80, .inl v)), ((mm 3), .inl (cI, 80, .inl (upd (xv_rw 26 i (fun _ => 0) v) (26 + i) 0))), ((mm 7), .inl (cI, 96, .inl ow)), ((mm 8), .inl (cI, 96, .inl li)), ((mm 9), .inl (cI, 6, .inl cr))] := hD
              refine lv_iinc (v := nI (i + 1)) (lv' := [(3, .int (nI (i + 1))), (0, .ref (mm 0)), (1, .int (nI d)), (2, .int lev)]) hx hb dX5_tries_44 hl (k := 3) rfl (nI_1 i) (by decide) rfl (fun lz hl => ?_)
              refine lv_goto (tgt := 28) hx hb dX5_tries_47 (by decide) ?_
              exact ih28 (i + 1) hlti (by omega) (upd (xv_rw 26 i (fun _ => 0) v) (26 + i) 0) (xv_rw_t rfl)  H locs hP hD hS lz (lv_sub hl [1, 2, 3, 0] rfl)
        exact L28 (6 + 1) 0 (by omega) (by omega) v (xv_rw_0 _ _ _).symm  H locs hP hD hS lz (lv_sub hl [1, 2, 3, 0] rfl)
      · have hlti : i < 80 := xm_lt (N := 80) hii (by decide) q5
        refine lv_aload_n hx hb dX5_tries_8 rfl (lv_at hl 0 rfl) ?_
        refine va_get (D := (dC, dI)) (ci := 5) (v := .ref (mm 3)) (C := RX5) (T := TX5) (N := 16) hx hb hts hin5 hown hK hP 0 rfl rfl 2 (by decide) (hts (.fieldLink RX5 16 "TurnDigitsModel" "then" "[I") (by decide +kernel)) (fun _ h9 => h9) rfl dX5_tries_9 ?_
        refine lv_iload_n hx hb dX5_tries_12 rfl (lv_at hl 3 rfl) ?_
        refine lv_aload_n hx hb dX5_tries_13 rfl (lv_at hl 0 rfl) ?_
        refine va_get (D := (dC, dI)) (ci := 5) (v := .ref (mm 2)) (C := RX5) (T := TX5) (N := 16) hx hb hts hin5 hown hK hP 0 rfl rfl 1 (by decide) (hts (.fieldLink RX5 13 "TurnDigitsModel" "now" "[I") (by decide +kernel)) (fun _ h9 => h9) rfl dX5_tries_14 ?_
        refine lv_iload_n hx hb dX5_tries_17 rfl (lv_at hl 3 rfl) ?_
        refine xm_iald (D := (dC, dI)) hx hb hK hP 1 0 i (v := v i) rfl rfl (by decide) rfl (by omega) rfl dX5_tries_18 ?_
        refine xm_iast (D := (dC, dI)) hx hb hK hP hD hS 2 0 i rfl rfl (by decide) rfl (by omega) dX5_tries_19 (fun H locs hP hD hS => ?_)
        have hP : va_P (dC, dI) vwCl [((mm 0), .inr (5, [.ref (mm 1), .ref (mm 2), .ref (mm 3), .ref (mm 4), .int kp, .ref (mm 5), .int ty, .int th, .int at0, .int fa, .ref (mm 6), .int ts, .ref (mm 7), .ref (mm 8), .ref (mm 9), .int fr])), ((mm 2), .inl (cI, 80, .inl v)), ((mm 3), .inl (cI, 80, .inl (upd (fm_fl v w9 i) i (v i)))), ((mm 7), .inl (cI, 96, .inl ow)), ((mm 8), .inl (cI, 96, .inl li)), ((mm 9), .inl (cI, 6, .inl cr))] H := hP
        have hD : va_D A [((mm 0), .inr (5, [.ref (mm 1), .ref (mm 2), .ref (mm 3), .ref (mm 4), .int kp, .ref (mm 5), .int ty, .int th, .int at0, .int fa, .ref (mm 6), .int ts, .ref (mm 7), .ref (mm 8), .ref (mm 9), .int fr])), ((mm 2), .inl (cI, 80, .inl v)), ((mm 3), .inl (cI, 80, .inl (upd (fm_fl v w9 i) i (v i)))), ((mm 7), .inl (cI, 96, .inl ow)), ((mm 8), .inl (cI, 96, .inl li)), ((mm 9), .inl (cI, 6, .inl cr))] := hD
        refine lv_iinc (v := nI (i + 1)) (lv' := [(3, .int (nI (i + 1))), (0, .ref (mm 0)), (1, .int (nI d)), (2, .int lev)]) hx hb dX5_tries_20 hl (k := 3) rfl (nI_1 i) (by decide) rfl (fun lz hl => ?_)
        refine lv_goto (tgt := 2) hx hb dX5_tries_23 (by decide) ?_
        exact ih2 (i + 1) hlti (by omega) (upd (fm_fl v w9 i) i (v i)) (fm_fl_t rfl)  H locs hP hD hS lz (lv_sub hl [1, 2, 3, 0] rfl)
  exact L2 (80 + 1) 0 (by omega) (by omega) w9 (fm_fl_0 _ _).symm  s.heap [] hP hD hS lz (lv_sub hl [1, 2, 3, 0] rfl)

