set_option maxHeartbeats 4000000 in
set_option maxRecDepth 100000 in
theorem c_mat (l : Launch) (G : GG) (sz : Nat) (z0 : Nat) (z1 : Nat) (z2 : Nat) (z3 : Nat) (z4 : Nat) (z5 : Nat) (z6 : Nat) (z7 : Nat) (z8 : Nat) (z9 : Nat) (z10 : Nat) (z11 : Nat) (z12 : Nat) (z13 : Nat) (z14 : Nat) (z15 : Nat) (z16 : Nat) (z17 : Nat) (cdv : Int32) (cyc : Int32) (li : Int32) (nM : Nat) (nC : Nat) (sn : Nat) (me : Int64) (mi : Int64) (rw : Nat → Int32) (ii : Int32) (hs : sn ≤ 64) : Met l y_MOD_at w_MOD_at ({ frames := 1, cells := 0, slots := 0, locals := 25 }) (va_Pc [.ref z0, .int ii] (Pw G sz [(z0, .inr (6, [.int cdv, .int (nI nM), .ref z1, .ref z2, .ref z3, .ref z4, .ref z5, .ref z6, .int (nI nC), .ref z7, .ref z8, .ref z9, .ref z10, .ref z11, .ref z12, .ref z13, .ref z14, .ref z15, .ref z16, .int cyc, .int li, .long me, .long mi, .int (nI sn), .ref z17])), (z17, .inl (G.2 2, 64, .inl rw))])) (QW G (some (.int (matV rw sn ii))) [(z0, .inr (6, [.int cdv, .int (nI nM), .ref z1, .ref z2, .ref z3, .ref z4, .ref z5, .ref z6, .int (nI nC), .ref z7, .ref z8, .ref z9, .ref z10, .ref z11, .ref z12, .ref z13, .ref z14, .ref z15, .ref z16, .int cyc, .int li, .long me, .long mi, .int (nI sn), .ref z17])), (z17, .inl (G.2 2, 64, .inl rw))] [(z0, .inr (6, [.int (matC ii sn), .int (nI nM), .ref z1, .ref z2, .ref z3, .ref z4, .ref z5, .ref z6, .int (nI nC), .ref z7, .ref z8, .ref z9, .ref z10, .ref z11, .ref z12, .ref z13, .ref z14, .ref z15, .ref z16, .int cyc, .int li, .long me, .long mi, .int (nI sn), .ref z17])), (z17, .inl (G.2 2, 64, .inl rw))] sz) 0 0 (va_A [(z0, .inr (6, [.int cdv, .int (nI nM), .ref z1, .ref z2, .ref z3, .ref z4, .ref z5, .ref z6, .int (nI nC), .ref z7, .ref z8, .ref z9, .ref z10, .ref z11, .ref z12, .ref z13, .ref z14, .ref z15, .ref z16, .int cyc, .int li, .long me, .long mi, .int (nI sn), .ref z17])), (z17, .inl (G.2 2, 64, .inl rw))] sz) := by
  refine Met.ofW (cc := b_MOD_at) (maxL := 2) (ret := (some .byte)) (by decide) rfl ?_
  intro p e s m args below meth c s₁ B hml hv
  obtain ⟨rfl, hsz, hP, hGK, hD0⟩ := hv
  have hx := B.exec
  have hb := B.bytes
  have hr := B.returns
  have hts := atoms_spec (ws := w_MOD_at) B.pre
  have hT : ∀ w ∈ lwG, w.before _ s = true := fun w h => hts w (List.mem_cons_of_mem _ h)
  have hown : s.vm.findClass R_MOD = some m.cls := findClass_of_methodNamed B.named
  have hlocks := B.notSynchronized
  have hK := hGK.1
  have hN := hGK.2
  subst hsz
  have hD := hD0.self (sz := s.heap.size)
  generalize hAe : va_A [(z0, .inr (6, [.int cdv, .int (nI nM), .ref z1, .ref z2, .ref z3, .ref z4, .ref z5, .ref z6, .int (nI nC), .ref z7, .ref z8, .ref z9, .ref z10, .ref z11, .ref z12, .ref z13, .ref z14, .ref z15, .ref z16, .int cyc, .int li, .long me, .long mi, .int (nI sn), .ref z17])), (z17, .inl (G.2 2, 64, .inl rw))] s.heap.size = A at hD ⊢
  have hA : ∀ q : Nat, s.heap.size ≤ q → A q := fun q h => by rw [← hAe]; exact Or.inr h
  have hS : va_S A s.heap s.heap [] := va_S.rf
  have hP : va_P G.1 vwCl [(z0, .inr (6, [.int cdv, .int (nI nM), .ref z1, .ref z2, .ref z3, .ref z4, .ref z5, .ref z6, .int (nI nC), .ref z7, .ref z8, .ref z9, .ref z10, .ref z11, .ref z12, .ref z13, .ref z14, .ref z15, .ref z16, .int cyc, .int li, .long me, .long mi, .int (nI sn), .ref z17])), (z17, .inl (G.2 2, 64, .inl rw))] s.heap := hP
  have hl := lv_entry ([.ref z0, .int ii]) (n := 2) (Nat.le_of_ble_eq_true rfl)
  rw [lg_entry_eq]
  generalize (lg_sl ([.ref z0, .int ii]) ++ List.replicate (2 - (lg_sl ([.ref z0, .int ii])).length) Slot.unset).toArray = ls at hl ⊢
  have hl : lv_has ls 2 [(0, .ref z0), (1, .int ii)] := hl
  refine lv_aload_n hx hb d_MOD_at_0 rfl (lv_at hl 0 rfl) ?_
  refine lv_iload_n hx hb d_MOD_at_1 rfl (lv_at hl 1 rfl) ?_
  refine lv_i2l (v := ii.toInt64) hx hb d_MOD_at_2 rfl ?_
  refine lv_lconst (v := 0) hx hb d_MOD_at_3 (by decide) ?_
  refine lv_aload_n hx hb d_MOD_at_4 rfl (lv_at hl 0 rfl) ?_
  refine va_get (D := G.1) (ci := 6) (v := .int (nI sn)) (C := R_MOD) (T := T_MOD) (N := 25) hx hb hT in_MOD hown hK hP 0 rfl rfl 23 (by decide) (hT _ wd_605) (fun _ h9 => h9) rfl d_MOD_at_5 ?_
  refine lv_i2l (v := (nI sn).toInt64) hx hb d_MOD_at_8 rfl ?_
  refine lv_lconst (v := 1) hx hb d_MOD_at_9 (by decide) ?_
  refine lv_lsub hx hb d_MOD_at_10 ?_
  refine bx_callV (W.runS (As := [.long ii.toInt64, .long 0, .long (((nI sn).toInt64) - 1)]) (rest := [.ref z0]) ⟨hx, hb, hml, hown, hts⟩ (c_isIn l G ii.toInt64 0 (((nI sn).toInt64) - 1)) ⟨(callB_of 3 hts (gi_all wd_671) rfl rfl rfl (hT _ wd_51) (hT _ wd_669) (by decide +kernel) ⟨Nat.le_of_ble_eq_true rfl, Nat.le_of_ble_eq_true rfl⟩), (hT _ wd_670)⟩ (psR bx_nil hGK) rfl rfl hl.1 rfl (lv_room (Nat.le_of_ble_eq_true rfl)) d_MOD_at_11 ⟨Nat.le_of_ble_eq_true rfl, Nat.le_of_ble_eq_true rfl⟩) ?_
  refine lv_if_eq (tgt := 21) hx hb d_MOD_at_14 (by decide) (fun c_14 => ?_) (fun c_14 => ?_)
  · refine lv_iconst (v := 1) hx hb d_MOD_at_21 (by decide) ?_
    refine va_put (D := G.1) (ci := 6) (v := .int 1) (ty := .int) (C := R_MOD) (T := T_MOD) (N := 25) hx hb hT in_MOD t_MOD tok_MOD nok_MOD hown hK hP hD hS 0 rfl rfl 0 (by decide) (hT _ wd_582) (fun _ h9 => h9) rfl (by decide +kernel) rfl rfl (Nat.le_of_ble_eq_true rfl) d_MOD_at_22 (fun H locs hP hD hS => ?_)
    have hP : va_P G.1 vwCl [(z0, .inr (6, [.int 1, .int (nI nM), .ref z1, .ref z2, .ref z3, .ref z4, .ref z5, .ref z6, .int (nI nC), .ref z7, .ref z8, .ref z9, .ref z10, .ref z11, .ref z12, .ref z13, .ref z14, .ref z15, .ref z16, .int cyc, .int li, .long me, .long mi, .int (nI sn), .ref z17])), (z17, .inl (G.2 2, 64, .inl rw))] H := hP
    have hD : va_D A [(z0, .inr (6, [.int 1, .int (nI nM), .ref z1, .ref z2, .ref z3, .ref z4, .ref z5, .ref z6, .int (nI nC), .ref z7, .ref z8, .ref z9, .ref z10, .ref z11, .ref z12, .ref z13, .ref z14, .ref z15, .ref z16, .int cyc, .int li, .long me, .long mi, .int (nI sn), .ref z17])), (z17, .inl (G.2 2, 64, .inl rw))] := hD
    refine lv_aload_n hx hb d_MOD_at_25 rfl (lv_at hl 0 rfl) ?_
    refine va_get (D := G.1) (ci := 6) (v := .int 1) (C := R_MOD) (T := T_MOD) (N := 25) hx hb hT in_MOD hown hK hP 0 rfl rfl 0 (by decide) (hT _ wd_582) (fun _ h9 => h9) rfl d_MOD_at_26 ?_
    refine lv_if_le (tgt := 36) hx hb d_MOD_at_29 (by decide) (fun c_29 => ?_) (fun c_29 => ?_)
    · exact absurd c_29 (by decide)
    · refine lv_iconst (v := 0) hx hb d_MOD_at_32 (by decide) ?_
      refine lv_goto (tgt := 43) hx hb d_MOD_at_33 (by decide) ?_
      have hw9 : ([(z0, .inr (6, [.int (matC ii sn), .int (nI nM), .ref z1, .ref z2, .ref z3, .ref z4, .ref z5, .ref z6, .int (nI nC), .ref z7, .ref z8, .ref z9, .ref z10, .ref z11, .ref z12, .ref z13, .ref z14, .ref z15, .ref z16, .int cyc, .int li, .long me, .long mi, .int (nI sn), .ref z17])), (z17, .inl (G.2 2, 64, .inl rw))] : va_W) = [(z0, .inr (6, [.int 1, .int (nI nM), .ref z1, .ref z2, .ref z3, .ref z4, .ref z5, .ref z6, .int (nI nC), .ref z7, .ref z8, .ref z9, .ref z10, .ref z11, .ref z12, .ref z13, .ref z14, .ref z15, .ref z16, .int cyc, .int li, .long me, .long mi, .int (nI sn), .ref z17])), (z17, .inl (G.2 2, 64, .inl rw))] := by first | (simp [matC, matV, c_14]; done) | (simp_all [matC, matV]; done)
      rw [← hw9] at hP hD
      have hq9 : (.int (matV rw sn ii)) = (.int 0 : Value) := by first | (simp [matC, matV, c_14]; done) | (simp_all [matC, matV]; done)
      exact W.zret (v := 0) hx hb hr rfl (fun t ht hW => ⟨⟨by rw [hq9], by rw [ht]; exact hP, by rw [hAe]; exact hD⟩, by rw [hAe]; exact hS.F ht⟩) hS.2.2 d_MOD_at_43
  · refine lv_iconst (v := 0) hx hb d_MOD_at_17 (by decide) ?_
    refine lv_goto (tgt := 22) hx hb d_MOD_at_18 (by decide) ?_
    refine va_put (D := G.1) (ci := 6) (v := .int 0) (ty := .int) (C := R_MOD) (T := T_MOD) (N := 25) hx hb hT in_MOD t_MOD tok_MOD nok_MOD hown hK hP hD hS 0 rfl rfl 0 (by decide) (hT _ wd_582) (fun _ h9 => h9) rfl (by decide +kernel) rfl rfl (Nat.le_of_ble_eq_true rfl) d_MOD_at_22 (fun H locs hP hD hS => ?_)
    have hP : va_P G.1 vwCl [(z0, .inr (6, [.int 0, .int (nI nM), .ref z1, .ref z2, .ref z3, .ref z4, .ref z5, .ref z6, .int (nI nC), .ref z7, .ref z8, .ref z9, .ref z10, .ref z11, .ref z12, .ref z13, .ref z14, .ref z15, .ref z16, .int cyc, .int li, .long me, .long mi, .int (nI sn), .ref z17])), (z17, .inl (G.2 2, 64, .inl rw))] H := hP
    have hD : va_D A [(z0, .inr (6, [.int 0, .int (nI nM), .ref z1, .ref z2, .ref z3, .ref z4, .ref z5, .ref z6, .int (nI nC), .ref z7, .ref z8, .ref z9, .ref z10, .ref z11, .ref z12, .ref z13, .ref z14, .ref z15, .ref z16, .int cyc, .int li, .long me, .long mi, .int (nI sn), .ref z17])), (z17, .inl (G.2 2, 64, .inl rw))] := hD
    refine lv_aload_n hx hb d_MOD_at_25 rfl (lv_at hl 0 rfl) ?_
    refine va_get (D := G.1) (ci := 6) (v := .int 0) (C := R_MOD) (T := T_MOD) (N := 25) hx hb hT in_MOD hown hK hP 0 rfl rfl 0 (by decide) (hT _ wd_582) (fun _ h9 => h9) rfl d_MOD_at_26 ?_
    refine lv_if_le (tgt := 36) hx hb d_MOD_at_29 (by decide) (fun c_29 => ?_) (fun c_29 => ?_)
    · refine lv_aload_n hx hb d_MOD_at_36 rfl (lv_at hl 0 rfl) ?_
      refine va_get (D := G.1) (ci := 6) (v := .ref z17) (C := R_MOD) (T := T_MOD) (N := 25) hx hb hT in_MOD hown hK hP 0 rfl rfl 24 (by decide) (hT _ wd_606) (fun _ h9 => h9) rfl d_MOD_at_37 ?_
      refine lv_iload_n hx hb d_MOD_at_40 rfl (lv_at hl 1 rfl) ?_
      obtain ⟨k, hk, hi⟩ := inF_ix hs c_14
      refine W.eq (g2 := F0 m 41 ls [.int (nI k), .ref z17]) (by rw [hi]) ?_
      refine va_iald hx hb hK hP 1 2 rfl rfl (vp_in_nI (by omega) (by omega)) d_MOD_at_41 ?_
      refine W.eq (g2 := F0 m 42 ls (.int (rw k) :: [])) (by rw [nI_clamp (by omega)]) ?_
      refine lv_i2b (v := (rw k).toInt8.toInt32) hx hb d_MOD_at_42 rfl ?_
      have hw9 : ([(z0, .inr (6, [.int (matC ii sn), .int (nI nM), .ref z1, .ref z2, .ref z3, .ref z4, .ref z5, .ref z6, .int (nI nC), .ref z7, .ref z8, .ref z9, .ref z10, .ref z11, .ref z12, .ref z13, .ref z14, .ref z15, .ref z16, .int cyc, .int li, .long me, .long mi, .int (nI sn), .ref z17])), (z17, .inl (G.2 2, 64, .inl rw))] : va_W) = [(z0, .inr (6, [.int 0, .int (nI nM), .ref z1, .ref z2, .ref z3, .ref z4, .ref z5, .ref z6, .int (nI nC), .ref z7, .ref z8, .ref z9, .ref z10, .ref z11, .ref z12, .ref z13, .ref z14, .ref z15, .ref z16, .int cyc, .int li, .long me, .long mi, .int (nI sn), .ref z17])), (z17, .inl (G.2 2, 64, .inl rw))] := by simp [matC, matV, c_14]; try rw [hi, nI_clamp (by omega)]
      rw [← hw9] at hP hD
      have hq9 : (.int (matV rw sn ii)) = (.int ((rw k).toInt8.toInt32) : Value) := by simp [matC, matV, c_14]; try rw [hi, nI_clamp (by omega)]
      exact W.zret (v := (rw k).toInt8.toInt32) hx hb hr (pk_nb _) (fun t ht hW => ⟨⟨by rw [hq9], by rw [ht]; exact hP, by rw [hAe]; exact hD⟩, by rw [hAe]; exact hS.F ht⟩) hS.2.2 d_MOD_at_43
    · exact absurd c_29 (by decide)
set_option maxHeartbeats 4000000 in
set_option maxRecDepth 100000 in
theorem c_mratio (l : Launch) (G : GG) (sz : Nat) (z0 : Nat) (z1 : Nat) (z2 : Nat) (z3 : Nat) (z4 : Nat) (z5 : Nat) (z6 : Nat) (z7 : Nat) (z8 : Nat) (z9 : Nat) (z10 : Nat) (z11 : Nat) (z12 : Nat) (z13 : Nat) (z14 : Nat) (z15 : Nat) (z16 : Nat) (z17 : Nat) (cdv : Int32) (cyc : Int32) (li : Int32) (nM : Nat) (nC : Nat) (sn : Nat) (me : Int64) (mi : Int64) (fR : Nat → Int32) (fH : Nat → Int32) (mo : Int32) (sd : Int32) (hm : nM ≤ 16) (hH : ∀ i, i < nM → ∃ c, c ≤ 100 ∧ fH i = nI c) : Met l y_MOD_ratio w_MOD_ratio ({ frames := 1, cells := 0, slots := 0, locals := 25 }) (va_Pc [.ref z0, .int mo, .int sd] (Pw G sz [(z0, .inr (6, [.int cdv, .int (nI nM), .ref z1, .ref z2, .ref z3, .ref z4, .ref z5, .ref z6, .int (nI nC), .ref z7, .ref z8, .ref z9, .ref z10, .ref z11, .ref z12, .ref z13, .ref z14, .ref z15, .ref z16, .int cyc, .int li, .long me, .long mi, .int (nI sn), .ref z17])), (z3, .inl (G.2 2, 16, .inl fR)), (z4, .inl (G.2 2, 16, .inl fH))])) (QW G (some (.long (mraV fR fH nM mo sd))) [(z0, .inr (6, [.int cdv, .int (nI nM), .ref z1, .ref z2, .ref z3, .ref z4, .ref z5, .ref z6, .int (nI nC), .ref z7, .ref z8, .ref z9, .ref z10, .ref z11, .ref z12, .ref z13, .ref z14, .ref z15, .ref z16, .int cyc, .int li, .long me, .long mi, .int (nI sn), .ref z17])), (z3, .inl (G.2 2, 16, .inl fR)), (z4, .inl (G.2 2, 16, .inl fH))] [(z0, .inr (6, [.int (mraC fH nM mo), .int (nI nM), .ref z1, .ref z2, .ref z3, .ref z4, .ref z5, .ref z6, .int (nI nC), .ref z7, .ref z8, .ref z9, .ref z10, .ref z11, .ref z12, .ref z13, .ref z14, .ref z15, .ref z16, .int cyc, .int li, .long me, .long mi, .int (nI sn), .ref z17])), (z3, .inl (G.2 2, 16, .inl fR)), (z4, .inl (G.2 2, 16, .inl fH))] sz) 0 0 (va_A [(z0, .inr (6, [.int cdv, .int (nI nM), .ref z1, .ref z2, .ref z3, .ref z4, .ref z5, .ref z6, .int (nI nC), .ref z7, .ref z8, .ref z9, .ref z10, .ref z11, .ref z12, .ref z13, .ref z14, .ref z15, .ref z16, .int cyc, .int li, .long me, .long mi, .int (nI sn), .ref z17])), (z3, .inl (G.2 2, 16, .inl fR)), (z4, .inl (G.2 2, 16, .inl fH))] sz) := by
  refine Met.ofW (cc := b_MOD_ratio) (maxL := 7) (ret := (some .long)) (by decide) rfl ?_
  intro p e s m args below meth c s₁ B hml hv
  obtain ⟨rfl, hsz, hP, hGK, hD0⟩ := hv
  have hx := B.exec
  have hb := B.bytes
  have hr := B.returns
  have hts := atoms_spec (ws := w_MOD_ratio) B.pre
  have hT : ∀ w ∈ lwG, w.before _ s = true := fun w h => hts w (List.mem_cons_of_mem _ h)
  have hown : s.vm.findClass R_MOD = some m.cls := findClass_of_methodNamed B.named
  have hlocks := B.notSynchronized
  have hK := hGK.1
  have hN := hGK.2
  subst hsz
  have hD := hD0.self (sz := s.heap.size)
  generalize hAe : va_A [(z0, .inr (6, [.int cdv, .int (nI nM), .ref z1, .ref z2, .ref z3, .ref z4, .ref z5, .ref z6, .int (nI nC), .ref z7, .ref z8, .ref z9, .ref z10, .ref z11, .ref z12, .ref z13, .ref z14, .ref z15, .ref z16, .int cyc, .int li, .long me, .long mi, .int (nI sn), .ref z17])), (z3, .inl (G.2 2, 16, .inl fR)), (z4, .inl (G.2 2, 16, .inl fH))] s.heap.size = A at hD ⊢
  have hA : ∀ q : Nat, s.heap.size ≤ q → A q := fun q h => by rw [← hAe]; exact Or.inr h
  have hS : va_S A s.heap s.heap [] := va_S.rf
  have hP : va_P G.1 vwCl [(z0, .inr (6, [.int cdv, .int (nI nM), .ref z1, .ref z2, .ref z3, .ref z4, .ref z5, .ref z6, .int (nI nC), .ref z7, .ref z8, .ref z9, .ref z10, .ref z11, .ref z12, .ref z13, .ref z14, .ref z15, .ref z16, .int cyc, .int li, .long me, .long mi, .int (nI sn), .ref z17])), (z3, .inl (G.2 2, 16, .inl fR)), (z4, .inl (G.2 2, 16, .inl fH))] s.heap := hP
  have hl := lv_entry ([.ref z0, .int mo, .int sd]) (n := 7) (Nat.le_of_ble_eq_true rfl)
  rw [lg_entry_eq]
  generalize (lg_sl ([.ref z0, .int mo, .int sd]) ++ List.replicate (7 - (lg_sl ([.ref z0, .int mo, .int sd])).length) Slot.unset).toArray = ls at hl ⊢
  have hl : lv_has ls 7 [(0, .ref z0), (1, .int mo), (2, .int sd)] := hl
  refine lv_iload_n hx hb d_MOD_ratio_0 rfl (lv_at hl 1 rfl) ?_
  refine lv_i2l (v := mo.toInt64) hx hb d_MOD_ratio_1 rfl ?_
  refine lv_lconst (v := 1) hx hb d_MOD_ratio_2 (by decide) ?_
  refine lv_aload_n hx hb d_MOD_ratio_3 rfl (lv_at hl 0 rfl) ?_
  refine va_get (D := G.1) (ci := 6) (v := .int (nI nM)) (C := R_MOD) (T := T_MOD) (N := 25) hx hb hT in_MOD hown hK hP 0 rfl rfl 1 (by decide) (hT _ wd_583) (fun _ h9 => h9) rfl d_MOD_ratio_4 ?_
  refine lv_i2l (v := (nI nM).toInt64) hx hb d_MOD_ratio_7 rfl ?_
  refine bx_callV (W.runS (As := [.long mo.toInt64, .long 1, .long ((nI nM).toInt64)]) (rest := []) ⟨hx, hb, hml, hown, hts⟩ (c_isIn l G mo.toInt64 1 ((nI nM).toInt64)) ⟨(callB_of 3 hts (gi_all wd_671) rfl rfl rfl (hT _ wd_51) (hT _ wd_669) (by decide +kernel) ⟨Nat.le_of_ble_eq_true rfl, Nat.le_of_ble_eq_true rfl⟩), (hT _ wd_670)⟩ (psR bx_nil hGK) rfl rfl hl.1 rfl (lv_room (Nat.le_of_ble_eq_true rfl)) d_MOD_ratio_8 ⟨Nat.le_of_ble_eq_true rfl, Nat.le_of_ble_eq_true rfl⟩) ?_
  refine lv_istore_n (lv' := [(3, .int (inF mo.toInt64 1 ((nI nM).toInt64))), (0, .ref z0), (1, .int mo), (2, .int sd)]) hx hb d_MOD_ratio_11 rfl hl (by decide) rfl (fun ls hl => ?_)
  refine lv_aload_n hx hb d_MOD_ratio_12 rfl (lv_at hl 1 rfl) ?_
  refine lv_iload_n hx hb d_MOD_ratio_13 rfl (lv_at hl 0 rfl) ?_
  refine lv_if_eq (tgt := 32) hx hb d_MOD_ratio_14 (by decide) (fun c_14 => ?_) (fun c_14 => ?_)
  · refine lv_iconst (v := 0) hx hb d_MOD_ratio_32 (by decide) ?_
    refine va_put (D := G.1) (ci := 6) (v := .int 0) (ty := .int) (C := R_MOD) (T := T_MOD) (N := 25) hx hb hT in_MOD t_MOD tok_MOD nok_MOD hown hK hP hD hS 0 rfl rfl 0 (by decide) (hT _ wd_582) (fun _ h9 => h9) rfl (by decide +kernel) rfl rfl (Nat.le_of_ble_eq_true rfl) d_MOD_ratio_33 (fun H locs hP hD hS => ?_)
    have hP : va_P G.1 vwCl [(z0, .inr (6, [.int 0, .int (nI nM), .ref z1, .ref z2, .ref z3, .ref z4, .ref z5, .ref z6, .int (nI nC), .ref z7, .ref z8, .ref z9, .ref z10, .ref z11, .ref z12, .ref z13, .ref z14, .ref z15, .ref z16, .int cyc, .int li, .long me, .long mi, .int (nI sn), .ref z17])), (z3, .inl (G.2 2, 16, .inl fR)), (z4, .inl (G.2 2, 16, .inl fH))] H := hP
    have hD : va_D A [(z0, .inr (6, [.int 0, .int (nI nM), .ref z1, .ref z2, .ref z3, .ref z4, .ref z5, .ref z6, .int (nI nC), .ref z7, .ref z8, .ref z9, .ref z10, .ref z11, .ref z12, .ref z13, .ref z14, .ref z15, .ref z16, .int cyc, .int li, .long me, .long mi, .int (nI sn), .ref z17])), (z3, .inl (G.2 2, 16, .inl fR)), (z4, .inl (G.2 2, 16, .inl fH))] := hD
    refine lv_iload_n hx hb d_MOD_ratio_36 rfl (lv_at hl 0 rfl) ?_
    refine lv_if_eq (tgt := 47) hx hb d_MOD_ratio_37 (by decide) (fun c_37 => ?_) (fun c_37 => ?_)
    · refine lv_iload_n hx hb d_MOD_ratio_47 rfl (lv_at hl 0 rfl) ?_
      refine lv_if_eq (tgt := 55) hx hb d_MOD_ratio_48 (by decide) (fun c_48 => ?_) (fun c_48 => ?_)
      · refine lv_ldc2 (v := (-1)) hx hb hown (hT _ wd_710) d_MOD_ratio_55 ?_
        have hw9 : ([(z0, .inr (6, [.int (mraC fH nM mo), .int (nI nM), .ref z1, .ref z2, .ref z3, .ref z4, .ref z5, .ref z6, .int (nI nC), .ref z7, .ref z8, .ref z9, .ref z10, .ref z11, .ref z12, .ref z13, .ref z14, .ref z15, .ref z16, .int cyc, .int li, .long me, .long mi, .int (nI sn), .ref z17])), (z3, .inl (G.2 2, 16, .inl fR)), (z4, .inl (G.2 2, 16, .inl fH))] : va_W) = [(z0, .inr (6, [.int 0, .int (nI nM), .ref z1, .ref z2, .ref z3, .ref z4, .ref z5, .ref z6, .int (nI nC), .ref z7, .ref z8, .ref z9, .ref z10, .ref z11, .ref z12, .ref z13, .ref z14, .ref z15, .ref z16, .int cyc, .int li, .long me, .long mi, .int (nI sn), .ref z17])), (z3, .inl (G.2 2, 16, .inl fR)), (z4, .inl (G.2 2, 16, .inl fH))] := by first | (simp [mraV, mraC, c_14, c_37, c_48]; done) | (simp_all [mraV, mraC]; done)
        rw [← hw9] at hP hD
        have hq9 : (.long (mraV fR fH nM mo sd)) = (.long (-1) : Value) := by first | (simp [mraV, mraC, c_14, c_37, c_48]; done) | (simp_all [mraV, mraC]; done)
        exact W.lret (v := (-1)) hx hb hr (fun t ht hW => ⟨⟨by rw [hq9], by rw [ht]; exact hP, by rw [hAe]; exact hD⟩, by rw [hAe]; exact hS.F ht⟩) hS.2.2 d_MOD_ratio_58
      · exact absurd c_14 c_48
    · exact absurd c_14 c_37
  · obtain ⟨k, hk, hmo⟩ := isM_some (by rw [← inF_isM mo (by omega)]; exact c_14) (by omega : nM ≤ 20)
    have e9 : mo - 1 = nI k := by rw [hmo]; exact nI_pred k
    have ex9 : ixM mo = k := by rw [hmo]; exact ixM_at (by omega)
    refine lv_aload_n hx hb d_MOD_ratio_17 rfl (lv_at hl 1 rfl) ?_
    refine va_get (D := G.1) (ci := 6) (v := .ref z4) (C := R_MOD) (T := T_MOD) (N := 25) hx hb hT in_MOD hown hK hP 0 rfl rfl 5 (by decide) (hT _ wd_587) (fun _ h9 => h9) rfl d_MOD_ratio_18 ?_
    refine lv_iload_n hx hb d_MOD_ratio_21 rfl (lv_at hl 2 rfl) ?_
    refine lv_iconst (v := 1) hx hb d_MOD_ratio_22 (by decide) ?_
    refine lv_isub hx hb d_MOD_ratio_23 ?_
    rw [e9]
    refine va_iald hx hb hK hP 2 2 rfl rfl (vp_in_nI (by omega) (by omega)) d_MOD_ratio_24 ?_
    refine W.eq (g2 := F0 m 25 ls (.int (fH k) :: [.ref z0])) (by rw [nI_clamp (by omega)]) ?_
    refine lv_if_ne (tgt := 32) hx hb d_MOD_ratio_25 (by decide) (fun c_25 => ?_) (fun c_25 => ?_)
    · refine lv_iconst (v := 0) hx hb d_MOD_ratio_32 (by decide) ?_
      refine va_put (D := G.1) (ci := 6) (v := .int 0) (ty := .int) (C := R_MOD) (T := T_MOD) (N := 25) hx hb hT in_MOD t_MOD tok_MOD nok_MOD hown hK hP hD hS 0 rfl rfl 0 (by decide) (hT _ wd_582) (fun _ h9 => h9) rfl (by decide +kernel) rfl rfl (Nat.le_of_ble_eq_true rfl) d_MOD_ratio_33 (fun H locs hP hD hS => ?_)
      have hP : va_P G.1 vwCl [(z0, .inr (6, [.int 0, .int (nI nM), .ref z1, .ref z2, .ref z3, .ref z4, .ref z5, .ref z6, .int (nI nC), .ref z7, .ref z8, .ref z9, .ref z10, .ref z11, .ref z12, .ref z13, .ref z14, .ref z15, .ref z16, .int cyc, .int li, .long me, .long mi, .int (nI sn), .ref z17])), (z3, .inl (G.2 2, 16, .inl fR)), (z4, .inl (G.2 2, 16, .inl fH))] H := hP
      have hD : va_D A [(z0, .inr (6, [.int 0, .int (nI nM), .ref z1, .ref z2, .ref z3, .ref z4, .ref z5, .ref z6, .int (nI nC), .ref z7, .ref z8, .ref z9, .ref z10, .ref z11, .ref z12, .ref z13, .ref z14, .ref z15, .ref z16, .int cyc, .int li, .long me, .long mi, .int (nI sn), .ref z17])), (z3, .inl (G.2 2, 16, .inl fR)), (z4, .inl (G.2 2, 16, .inl fH))] := hD
      refine lv_iload_n hx hb d_MOD_ratio_36 rfl (lv_at hl 0 rfl) ?_
      refine lv_if_eq (tgt := 47) hx hb d_MOD_ratio_37 (by decide) (fun c_37 => ?_) (fun c_37 => ?_)
      · exact absurd c_37 c_14
      · refine lv_aload_n hx hb d_MOD_ratio_40 rfl (lv_at hl 1 rfl) ?_
        refine va_get (D := G.1) (ci := 6) (v := .int 0) (C := R_MOD) (T := T_MOD) (N := 25) hx hb hT in_MOD hown hK hP 0 rfl rfl 0 (by decide) (hT _ wd_582) (fun _ h9 => h9) rfl d_MOD_ratio_41 ?_
        refine lv_if_le (tgt := 59) hx hb d_MOD_ratio_44 (by decide) (fun c_44 => ?_) (fun c_44 => ?_)
        · refine lv_aload_n hx hb d_MOD_ratio_59 rfl (lv_at hl 1 rfl) ?_
          refine va_get (D := G.1) (ci := 6) (v := .ref z3) (C := R_MOD) (T := T_MOD) (N := 25) hx hb hT in_MOD hown hK hP 0 rfl rfl 4 (by decide) (hT _ wd_586) (fun _ h9 => h9) rfl d_MOD_ratio_60 ?_
          refine lv_iload_n hx hb d_MOD_ratio_63 rfl (lv_at hl 2 rfl) ?_
          refine lv_iconst (v := 1) hx hb d_MOD_ratio_64 (by decide) ?_
          refine lv_isub hx hb d_MOD_ratio_65 ?_
          rw [e9]
          refine va_iald hx hb hK hP 1 2 rfl rfl (vp_in_nI (by omega) (by omega)) d_MOD_ratio_66 ?_
          refine W.eq (g2 := F0 m 67 ls (.int (fR k) :: [])) (by rw [nI_clamp (by omega)]) ?_
          refine lv_istore (lv' := [(4, .int (fR k)), (3, .int (inF mo.toInt64 1 ((nI nM).toInt64))), (0, .ref z0), (1, .int mo), (2, .int sd)]) hx hb d_MOD_ratio_67 hl (by decide) rfl (fun ls hl => ?_)
          refine lv_aload_n hx hb d_MOD_ratio_69 rfl (lv_at hl 2 rfl) ?_
          refine va_get (D := G.1) (ci := 6) (v := .ref z4) (C := R_MOD) (T := T_MOD) (N := 25) hx hb hT in_MOD hown hK hP 0 rfl rfl 5 (by decide) (hT _ wd_587) (fun _ h9 => h9) rfl d_MOD_ratio_70 ?_
          refine lv_iload_n hx hb d_MOD_ratio_73 rfl (lv_at hl 3 rfl) ?_
          refine lv_iconst (v := 1) hx hb d_MOD_ratio_74 (by decide) ?_
          refine lv_isub hx hb d_MOD_ratio_75 ?_
          rw [e9]
          refine va_iald hx hb hK hP 2 2 rfl rfl (vp_in_nI (by omega) (by omega)) d_MOD_ratio_76 ?_
          refine W.eq (g2 := F0 m 77 ls (.int (fH k) :: [])) (by rw [nI_clamp (by omega)]) ?_
          refine lv_istore (lv' := [(5, .int (fH k)), (4, .int (fR k)), (3, .int (inF mo.toInt64 1 ((nI nM).toInt64))), (0, .ref z0), (1, .int mo), (2, .int sd)]) hx hb d_MOD_ratio_77 hl (by decide) rfl (fun ls hl => ?_)
          refine lv_iload hx hb d_MOD_ratio_79 (lv_at hl 0 rfl) ?_
          refine lv_istore (lv' := [(6, .int (fH k)), (5, .int (fH k)), (4, .int (fR k)), (3, .int (inF mo.toInt64 1 ((nI nM).toInt64))), (0, .ref z0), (1, .int mo), (2, .int sd)]) hx hb d_MOD_ratio_81 hl (by decide) rfl (fun ls hl => ?_)
          obtain ⟨c0, hc0, ec0⟩ := hH k hk
          have hcp : 0 < c0 := Nat.pos_of_ne_zero (fun z => c_25 (by rw [ec0, z]; rfl))
          rw [ec0] at hl
          refine bx_loop (σ := Nat) (fun q H locs ls => mrl (fR k) (nI c0) q = mrl (fR k) (nI c0) c0 ∧ 0 < q ∧ q ≤ c0 ∧ va_P G.1 vwCl [(z0, .inr (6, [.int 0, .int (nI nM), .ref z1, .ref z2, .ref z3, .ref z4, .ref z5, .ref z6, .int (nI nC), .ref z7, .ref z8, .ref z9, .ref z10, .ref z11, .ref z12, .ref z13, .ref z14, .ref z15, .ref z16, .int cyc, .int li, .long me, .long mi, .int (nI sn), .ref z17])), (z3, .inl (G.2 2, 16, .inl fR)), (z4, .inl (G.2 2, 16, .inl fH))] H ∧ va_D A [(z0, .inr (6, [.int 0, .int (nI nM), .ref z1, .ref z2, .ref z3, .ref z4, .ref z5, .ref z6, .int (nI nC), .ref z7, .ref z8, .ref z9, .ref z10, .ref z11, .ref z12, .ref z13, .ref z14, .ref z15, .ref z16, .int cyc, .int li, .long me, .long mi, .int (nI sn), .ref z17])), (z3, .inl (G.2 2, 16, .inl fR)), (z4, .inl (G.2 2, 16, .inl fH))] ∧ va_S A s.heap H locs ∧ lv_has ls 7 [(0, .ref z0), (1, .int mo), (2, .int sd), (4, .int (fR k)), (5, .int (nI c0)), (6, .int (nI q))]) (fun q => q) _ (fun q H locs ls hI ih => ?_) c0 ls ⟨rfl, hcp, Nat.le_refl _, hP, hD, hS, lv_sub hl [4, 5, 6, 2, 1, 0] rfl⟩
          revert hI ih; generalize q = d; intro hI ih
          obtain ⟨hml9, hd0, hdc, hP, hD, hS, hl⟩ := hI
          have hml9 : mrl (fR k) (nI c0) d = mrl (fR k) (nI c0) c0 := hml9
          have hd0 : 0 < d := hd0
          have hdc : d ≤ c0 := hdc
          have hP : va_P G.1 vwCl [(z0, .inr (6, [.int 0, .int (nI nM), .ref z1, .ref z2, .ref z3, .ref z4, .ref z5, .ref z6, .int (nI nC), .ref z7, .ref z8, .ref z9, .ref z10, .ref z11, .ref z12, .ref z13, .ref z14, .ref z15, .ref z16, .int cyc, .int li, .long me, .long mi, .int (nI sn), .ref z17])), (z3, .inl (G.2 2, 16, .inl fR)), (z4, .inl (G.2 2, 16, .inl fH))] H := hP
          have hD : va_D A [(z0, .inr (6, [.int 0, .int (nI nM), .ref z1, .ref z2, .ref z3, .ref z4, .ref z5, .ref z6, .int (nI nC), .ref z7, .ref z8, .ref z9, .ref z10, .ref z11, .ref z12, .ref z13, .ref z14, .ref z15, .ref z16, .int cyc, .int li, .long me, .long mi, .int (nI sn), .ref z17])), (z3, .inl (G.2 2, 16, .inl fR)), (z4, .inl (G.2 2, 16, .inl fH))] := hD
          have hl : lv_has ls 7 [(0, .ref z0), (1, .int mo), (2, .int sd), (4, .int (fR k)), (5, .int (nI c0)), (6, .int (nI d))] := hl
          refine lv_iload hx hb d_MOD_ratio_83 (lv_at hl 3 rfl) ?_
          refine lv_iload hx hb d_MOD_ratio_85 (lv_at hl 5 rfl) ?_
          refine lv_irem hx hb d_MOD_ratio_87 (nI_ne0 hd0 (by omega)) ?_
          refine lv_if_ne (tgt := 99) hx hb d_MOD_ratio_88 (by decide) (fun c_88 => ?_) (fun c_88 => ?_)
          · have hd1 : 1 < d := by
              rcases Nat.lt_or_ge 1 d with h9 | h9
              · exact h9
              · have hd9 : d = 1 := by omega
                subst hd9
                first | exact absurd (rem1 _) c_88 | exact absurd (rem1 _) c_96
            refine lv_iinc (v := nI (d - 1)) (lv' := [(6, .int (nI (d - 1))), (0, .ref z0), (1, .int mo), (2, .int sd), (4, .int (fR k)), (5, .int (nI c0))]) hx hb d_MOD_ratio_99 hl (k := 5) rfl (sb_m1 hd0) (by decide) rfl (fun ls hl => ?_)
            refine lv_goto (tgt := 83) hx hb d_MOD_ratio_102 (by decide) ?_
            exact ih (d - 1) _ _ _ ⟨by rw [← hml9, mrl_step hd0]; simp [c_88], by omega, by omega, hP, hD, hS, lv_sub hl [1, 2, 3, 4, 5, 0] rfl⟩ (by show d - 1 < d; omega)
          · refine lv_iload hx hb d_MOD_ratio_91 (lv_at hl 4 rfl) ?_
            refine lv_iload hx hb d_MOD_ratio_93 (lv_at hl 5 rfl) ?_
            refine lv_irem hx hb d_MOD_ratio_95 (nI_ne0 hd0 (by omega)) ?_
            refine lv_if_eq (tgt := 105) hx hb d_MOD_ratio_96 (by decide) (fun c_96 => ?_) (fun c_96 => ?_)
            · refine lv_iload_n hx hb d_MOD_ratio_105 rfl (lv_at hl 2 rfl) ?_
              refine lv_if_ne (tgt := 118) hx hb d_MOD_ratio_106 (by decide) (fun c_106 => ?_) (fun c_106 => ?_)
              · refine lv_iload hx hb d_MOD_ratio_118 (lv_at hl 4 rfl) ?_
                refine lv_iload hx hb d_MOD_ratio_120 (lv_at hl 5 rfl) ?_
                refine lv_idiv hx hb d_MOD_ratio_122 (nI_ne0 hd0 (by omega)) ?_
                refine lv_i2l (v := ((nI c0) / (nI d)).toInt64) hx hb d_MOD_ratio_123 rfl ?_
                have hw9 : ([(z0, .inr (6, [.int (mraC fH nM mo), .int (nI nM), .ref z1, .ref z2, .ref z3, .ref z4, .ref z5, .ref z6, .int (nI nC), .ref z7, .ref z8, .ref z9, .ref z10, .ref z11, .ref z12, .ref z13, .ref z14, .ref z15, .ref z16, .int cyc, .int li, .long me, .long mi, .int (nI sn), .ref z17])), (z3, .inl (G.2 2, 16, .inl fR)), (z4, .inl (G.2 2, 16, .inl fH))] : va_W) = [(z0, .inr (6, [.int 0, .int (nI nM), .ref z1, .ref z2, .ref z3, .ref z4, .ref z5, .ref z6, .int (nI nC), .ref z7, .ref z8, .ref z9, .ref z10, .ref z11, .ref z12, .ref z13, .ref z14, .ref z15, .ref z16, .int cyc, .int li, .long me, .long mi, .int (nI sn), .ref z17])), (z3, .inl (G.2 2, 16, .inl fR)), (z4, .inl (G.2 2, 16, .inl fH))] := by first | (simp [mraC, ex9, c_14, c_25]; done) | (simp only [mraV, ex9, ec0, if_neg c_14, nI_clamp (show c0 < 2 ^ 31 by omega), ← hml9]; rw [mrl_step hd0, if_pos c_88, if_pos c_96]; simp [c_106, nI_ne0 hcp (show c0 < 2 ^ 31 by omega)])
                rw [← hw9] at hP hD
                have hq9 : (.long (mraV fR fH nM mo sd)) = (.long (((nI c0) / (nI d)).toInt64) : Value) := by first | (simp [mraC, ex9, c_14, c_25]; done) | (simp only [mraV, ex9, ec0, if_neg c_14, nI_clamp (show c0 < 2 ^ 31 by omega), ← hml9]; rw [mrl_step hd0, if_pos c_88, if_pos c_96]; simp [c_106, nI_ne0 hcp (show c0 < 2 ^ 31 by omega)])
                exact W.lret (v := ((nI c0) / (nI d)).toInt64) hx hb hr (fun t ht hW => ⟨⟨by rw [hq9], by rw [ht]; exact hP, by rw [hAe]; exact hD⟩, by rw [hAe]; exact hS.F ht⟩) hS.2.2 d_MOD_ratio_124
              · refine lv_iload hx hb d_MOD_ratio_109 (lv_at hl 3 rfl) ?_
                refine lv_iload hx hb d_MOD_ratio_111 (lv_at hl 5 rfl) ?_
                refine lv_idiv hx hb d_MOD_ratio_113 (nI_ne0 hd0 (by omega)) ?_
                refine lv_i2l (v := ((fR k) / (nI d)).toInt64) hx hb d_MOD_ratio_114 rfl ?_
                refine lv_goto (tgt := 124) hx hb d_MOD_ratio_115 (by decide) ?_
                have hw9 : ([(z0, .inr (6, [.int (mraC fH nM mo), .int (nI nM), .ref z1, .ref z2, .ref z3, .ref z4, .ref z5, .ref z6, .int (nI nC), .ref z7, .ref z8, .ref z9, .ref z10, .ref z11, .ref z12, .ref z13, .ref z14, .ref z15, .ref z16, .int cyc, .int li, .long me, .long mi, .int (nI sn), .ref z17])), (z3, .inl (G.2 2, 16, .inl fR)), (z4, .inl (G.2 2, 16, .inl fH))] : va_W) = [(z0, .inr (6, [.int 0, .int (nI nM), .ref z1, .ref z2, .ref z3, .ref z4, .ref z5, .ref z6, .int (nI nC), .ref z7, .ref z8, .ref z9, .ref z10, .ref z11, .ref z12, .ref z13, .ref z14, .ref z15, .ref z16, .int cyc, .int li, .long me, .long mi, .int (nI sn), .ref z17])), (z3, .inl (G.2 2, 16, .inl fR)), (z4, .inl (G.2 2, 16, .inl fH))] := by first | (simp [mraC, ex9, c_14, c_25]; done) | (simp only [mraV, ex9, ec0, if_neg c_14, nI_clamp (show c0 < 2 ^ 31 by omega), ← hml9]; rw [mrl_step hd0, if_pos c_88, if_pos c_96]; simp [c_106, nI_ne0 hcp (show c0 < 2 ^ 31 by omega)])
                rw [← hw9] at hP hD
                have hq9 : (.long (mraV fR fH nM mo sd)) = (.long (((fR k) / (nI d)).toInt64) : Value) := by first | (simp [mraC, ex9, c_14, c_25]; done) | (simp only [mraV, ex9, ec0, if_neg c_14, nI_clamp (show c0 < 2 ^ 31 by omega), ← hml9]; rw [mrl_step hd0, if_pos c_88, if_pos c_96]; simp [c_106, nI_ne0 hcp (show c0 < 2 ^ 31 by omega)])
                exact W.lret (v := ((fR k) / (nI d)).toInt64) hx hb hr (fun t ht hW => ⟨⟨by rw [hq9], by rw [ht]; exact hP, by rw [hAe]; exact hD⟩, by rw [hAe]; exact hS.F ht⟩) hS.2.2 d_MOD_ratio_124
            · have hd1 : 1 < d := by
                rcases Nat.lt_or_ge 1 d with h9 | h9
                · exact h9
                · have hd9 : d = 1 := by omega
                  subst hd9
                  first | exact absurd (rem1 _) c_88 | exact absurd (rem1 _) c_96
              refine lv_iinc (v := nI (d - 1)) (lv' := [(6, .int (nI (d - 1))), (0, .ref z0), (1, .int mo), (2, .int sd), (4, .int (fR k)), (5, .int (nI c0))]) hx hb d_MOD_ratio_99 hl (k := 5) rfl (sb_m1 hd0) (by decide) rfl (fun ls hl => ?_)
              refine lv_goto (tgt := 83) hx hb d_MOD_ratio_102 (by decide) ?_
              exact ih (d - 1) _ _ _ ⟨by rw [← hml9, mrl_step hd0]; simp [c_88, c_96], by omega, by omega, hP, hD, hS, lv_sub hl [1, 2, 3, 4, 5, 0] rfl⟩ (by show d - 1 < d; omega)
        · exact absurd c_44 (by decide)
    · refine lv_iconst (v := 1) hx hb d_MOD_ratio_28 (by decide) ?_
      refine lv_goto (tgt := 33) hx hb d_MOD_ratio_29 (by decide) ?_
      refine va_put (D := G.1) (ci := 6) (v := .int 1) (ty := .int) (C := R_MOD) (T := T_MOD) (N := 25) hx hb hT in_MOD t_MOD tok_MOD nok_MOD hown hK hP hD hS 0 rfl rfl 0 (by decide) (hT _ wd_582) (fun _ h9 => h9) rfl (by decide +kernel) rfl rfl (Nat.le_of_ble_eq_true rfl) d_MOD_ratio_33 (fun H locs hP hD hS => ?_)
      have hP : va_P G.1 vwCl [(z0, .inr (6, [.int 1, .int (nI nM), .ref z1, .ref z2, .ref z3, .ref z4, .ref z5, .ref z6, .int (nI nC), .ref z7, .ref z8, .ref z9, .ref z10, .ref z11, .ref z12, .ref z13, .ref z14, .ref z15, .ref z16, .int cyc, .int li, .long me, .long mi, .int (nI sn), .ref z17])), (z3, .inl (G.2 2, 16, .inl fR)), (z4, .inl (G.2 2, 16, .inl fH))] H := hP
      have hD : va_D A [(z0, .inr (6, [.int 1, .int (nI nM), .ref z1, .ref z2, .ref z3, .ref z4, .ref z5, .ref z6, .int (nI nC), .ref z7, .ref z8, .ref z9, .ref z10, .ref z11, .ref z12, .ref z13, .ref z14, .ref z15, .ref z16, .int cyc, .int li, .long me, .long mi, .int (nI sn), .ref z17])), (z3, .inl (G.2 2, 16, .inl fR)), (z4, .inl (G.2 2, 16, .inl fH))] := hD
      refine lv_iload_n hx hb d_MOD_ratio_36 rfl (lv_at hl 0 rfl) ?_
      refine lv_if_eq (tgt := 47) hx hb d_MOD_ratio_37 (by decide) (fun c_37 => ?_) (fun c_37 => ?_)
      · exact absurd c_37 c_14
      · refine lv_aload_n hx hb d_MOD_ratio_40 rfl (lv_at hl 1 rfl) ?_
        refine va_get (D := G.1) (ci := 6) (v := .int 1) (C := R_MOD) (T := T_MOD) (N := 25) hx hb hT in_MOD hown hK hP 0 rfl rfl 0 (by decide) (hT _ wd_582) (fun _ h9 => h9) rfl d_MOD_ratio_41 ?_
        refine lv_if_le (tgt := 59) hx hb d_MOD_ratio_44 (by decide) (fun c_44 => ?_) (fun c_44 => ?_)
        · exact absurd c_44 (by decide)
        · refine lv_iload_n hx hb d_MOD_ratio_47 rfl (lv_at hl 0 rfl) ?_
          refine lv_if_eq (tgt := 55) hx hb d_MOD_ratio_48 (by decide) (fun c_48 => ?_) (fun c_48 => ?_)
          · exact absurd c_48 c_14
          · refine lv_lconst (v := 0) hx hb d_MOD_ratio_51 (by decide) ?_
            refine lv_goto (tgt := 58) hx hb d_MOD_ratio_52 (by decide) ?_
            have hw9 : ([(z0, .inr (6, [.int (mraC fH nM mo), .int (nI nM), .ref z1, .ref z2, .ref z3, .ref z4, .ref z5, .ref z6, .int (nI nC), .ref z7, .ref z8, .ref z9, .ref z10, .ref z11, .ref z12, .ref z13, .ref z14, .ref z15, .ref z16, .int cyc, .int li, .long me, .long mi, .int (nI sn), .ref z17])), (z3, .inl (G.2 2, 16, .inl fR)), (z4, .inl (G.2 2, 16, .inl fH))] : va_W) = [(z0, .inr (6, [.int 1, .int (nI nM), .ref z1, .ref z2, .ref z3, .ref z4, .ref z5, .ref z6, .int (nI nC), .ref z7, .ref z8, .ref z9, .ref z10, .ref z11, .ref z12, .ref z13, .ref z14, .ref z15, .ref z16, .int cyc, .int li, .long me, .long mi, .int (nI sn), .ref z17])), (z3, .inl (G.2 2, 16, .inl fR)), (z4, .inl (G.2 2, 16, .inl fH))] := by first | (simp [mraV, mraC, ex9, c_14, c_25, c_37, c_48]; done) | (simp_all [mraV, mraC]; done)
            rw [← hw9] at hP hD
            have hq9 : (.long (mraV fR fH nM mo sd)) = (.long 0 : Value) := by first | (simp [mraV, mraC, ex9, c_14, c_25, c_37, c_48]; done) | (simp_all [mraV, mraC]; done)
            exact W.lret (v := 0) hx hb hr (fun t ht hW => ⟨⟨by rw [hq9], by rw [ht]; exact hP, by rw [hAe]; exact hD⟩, by rw [hAe]; exact hS.F ht⟩) hS.2.2 d_MOD_ratio_58
