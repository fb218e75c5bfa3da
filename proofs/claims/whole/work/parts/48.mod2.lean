set_option maxHeartbeats 4000000 in
set_option maxRecDepth 100000 in
theorem c_mmonitor (l : Launch) (G : GG) (sz : Nat) (z0 : Nat) (z1 : Nat) (z2 : Nat) (z3 : Nat) (z4 : Nat) (z5 : Nat) (z6 : Nat) (z7 : Nat) (z8 : Nat) (z9 : Nat) (z10 : Nat) (z11 : Nat) (z12 : Nat) (z13 : Nat) (z14 : Nat) (z15 : Nat) (z16 : Nat) (z17 : Nat) (cdv : Int32) (cyc : Int32) (li : Int32) (nM : Nat) (nC : Nat) (sn : Nat) (me : Int64) (mi : Int64) (fK : Nat → Int32) (fC : Nat → Int32) (ka : Int32) (ca : Int32) (hm : nM ≤ 16) : Met l y_MOD_monitor w_MOD_monitor ({ frames := 1, cells := 0, slots := 0, locals := 25 }) (va_Pc [.ref z0, .int ka, .int ca] (Pw G sz [(z0, .inr (6, [.int cdv, .int (nI nM), .ref z1, .ref z2, .ref z3, .ref z4, .ref z5, .ref z6, .int (nI nC), .ref z7, .ref z8, .ref z9, .ref z10, .ref z11, .ref z12, .ref z13, .ref z14, .ref z15, .ref z16, .int cyc, .int li, .long me, .long mi, .int (nI sn), .ref z17])), (z1, .inl (G.2 2, 16, .inl fK)), (z2, .inl (G.2 2, 16, .inl fC))])) (QW G (some (.int (mmR ka ca nM))) [(z0, .inr (6, [.int cdv, .int (nI nM), .ref z1, .ref z2, .ref z3, .ref z4, .ref z5, .ref z6, .int (nI nC), .ref z7, .ref z8, .ref z9, .ref z10, .ref z11, .ref z12, .ref z13, .ref z14, .ref z15, .ref z16, .int cyc, .int li, .long me, .long mi, .int (nI sn), .ref z17])), (z1, .inl (G.2 2, 16, .inl fK)), (z2, .inl (G.2 2, 16, .inl fC))] [(z0, .inr (6, [.int 0, .int (nI (mmN ka ca nM)), .ref z1, .ref z2, .ref z3, .ref z4, .ref z5, .ref z6, .int (nI nC), .ref z7, .ref z8, .ref z9, .ref z10, .ref z11, .ref z12, .ref z13, .ref z14, .ref z15, .ref z16, .int cyc, .int li, .long me, .long mi, .int (nI sn), .ref z17])), (z1, .inl (G.2 2, 16, .inl (mmA ka ca nM fK ka))), (z2, .inl (G.2 2, 16, .inl (mmA ka ca nM fC ca)))] sz) 0 0 (va_A [(z0, .inr (6, [.int cdv, .int (nI nM), .ref z1, .ref z2, .ref z3, .ref z4, .ref z5, .ref z6, .int (nI nC), .ref z7, .ref z8, .ref z9, .ref z10, .ref z11, .ref z12, .ref z13, .ref z14, .ref z15, .ref z16, .int cyc, .int li, .long me, .long mi, .int (nI sn), .ref z17])), (z1, .inl (G.2 2, 16, .inl fK)), (z2, .inl (G.2 2, 16, .inl fC))] sz) := by
  refine Met.ofW (cc := b_MOD_monitor) (maxL := 3) (ret := (some .int)) (by decide) rfl ?_
  intro p e s m args below meth c s₁ B hml hv
  obtain ⟨rfl, hsz, hP, hGK, hD0⟩ := hv
  have hx := B.exec
  have hb := B.bytes
  have hr := B.returns
  have hts := atoms_spec (ws := w_MOD_monitor) B.pre
  have hT : ∀ w ∈ lwG, w.before _ s = true := fun w h => hts w (List.mem_cons_of_mem _ h)
  have hown : s.vm.findClass R_MOD = some m.cls := findClass_of_methodNamed B.named
  have hlocks := B.notSynchronized
  have hK := hGK.1
  have hN := hGK.2
  subst hsz
  have hD := hD0.self (sz := s.heap.size)
  generalize hAe : va_A [(z0, .inr (6, [.int cdv, .int (nI nM), .ref z1, .ref z2, .ref z3, .ref z4, .ref z5, .ref z6, .int (nI nC), .ref z7, .ref z8, .ref z9, .ref z10, .ref z11, .ref z12, .ref z13, .ref z14, .ref z15, .ref z16, .int cyc, .int li, .long me, .long mi, .int (nI sn), .ref z17])), (z1, .inl (G.2 2, 16, .inl fK)), (z2, .inl (G.2 2, 16, .inl fC))] s.heap.size = A at hD ⊢
  have hA : ∀ q : Nat, s.heap.size ≤ q → A q := fun q h => by rw [← hAe]; exact Or.inr h
  have hS : va_S A s.heap s.heap [] := va_S.rf
  have hP : va_P G.1 vwCl [(z0, .inr (6, [.int cdv, .int (nI nM), .ref z1, .ref z2, .ref z3, .ref z4, .ref z5, .ref z6, .int (nI nC), .ref z7, .ref z8, .ref z9, .ref z10, .ref z11, .ref z12, .ref z13, .ref z14, .ref z15, .ref z16, .int cyc, .int li, .long me, .long mi, .int (nI sn), .ref z17])), (z1, .inl (G.2 2, 16, .inl fK)), (z2, .inl (G.2 2, 16, .inl fC))] s.heap := hP
  have hl := lv_entry ([.ref z0, .int ka, .int ca]) (n := 3) (Nat.le_of_ble_eq_true rfl)
  rw [lg_entry_eq]
  generalize (lg_sl ([.ref z0, .int ka, .int ca]) ++ List.replicate (3 - (lg_sl ([.ref z0, .int ka, .int ca])).length) Slot.unset).toArray = ls at hl ⊢
  have hl : lv_has ls 3 [(0, .ref z0), (1, .int ka), (2, .int ca)] := hl
  refine lv_aload_n hx hb d_MOD_monitor_0 rfl (lv_at hl 0 rfl) ?_
  refine lv_iconst (v := 0) hx hb d_MOD_monitor_1 (by decide) ?_
  refine va_put (D := G.1) (ci := 6) (v := .int 0) (ty := .int) (C := R_MOD) (T := T_MOD) (N := 25) hx hb hT in_MOD t_MOD tok_MOD nok_MOD hown hK hP hD hS 0 rfl rfl 0 (by decide) (hT _ wd_582) (fun _ h9 => h9) rfl (by decide +kernel) rfl rfl (Nat.le_of_ble_eq_true rfl) d_MOD_monitor_2 (fun H locs hP hD hS => ?_)
  have hP : va_P G.1 vwCl [(z0, .inr (6, [.int 0, .int (nI nM), .ref z1, .ref z2, .ref z3, .ref z4, .ref z5, .ref z6, .int (nI nC), .ref z7, .ref z8, .ref z9, .ref z10, .ref z11, .ref z12, .ref z13, .ref z14, .ref z15, .ref z16, .int cyc, .int li, .long me, .long mi, .int (nI sn), .ref z17])), (z1, .inl (G.2 2, 16, .inl fK)), (z2, .inl (G.2 2, 16, .inl fC))] H := hP
  have hD : va_D A [(z0, .inr (6, [.int 0, .int (nI nM), .ref z1, .ref z2, .ref z3, .ref z4, .ref z5, .ref z6, .int (nI nC), .ref z7, .ref z8, .ref z9, .ref z10, .ref z11, .ref z12, .ref z13, .ref z14, .ref z15, .ref z16, .int cyc, .int li, .long me, .long mi, .int (nI sn), .ref z17])), (z1, .inl (G.2 2, 16, .inl fK)), (z2, .inl (G.2 2, 16, .inl fC))] := hD
  refine lv_iload_n hx hb d_MOD_monitor_5 rfl (lv_at hl 1 rfl) ?_
  refine lv_i2l (v := ka.toInt64) hx hb d_MOD_monitor_6 rfl ?_
  refine lv_lconst (v := 0) hx hb d_MOD_monitor_7 (by decide) ?_
  refine lv_ldc2 (v := 3) hx hb hown (hT _ wd_668) d_MOD_monitor_8 ?_
  refine bx_callV (W.runS (As := [.long ka.toInt64, .long 0, .long 3]) (rest := []) ⟨hx, hb, hml, hown, hts⟩ (c_isIn l G ka.toInt64 0 3) ⟨(callB_of 3 hts (gi_all wd_671) rfl rfl rfl (hT _ wd_51) (hT _ wd_669) (by decide +kernel) ⟨Nat.le_of_ble_eq_true rfl, Nat.le_of_ble_eq_true rfl⟩), (hT _ wd_670)⟩ (psR bx_nil hGK) rfl rfl hl.1 rfl (lv_room (Nat.le_of_ble_eq_true rfl)) d_MOD_monitor_11 ⟨Nat.le_of_ble_eq_true rfl, Nat.le_of_ble_eq_true rfl⟩) ?_
  refine lv_if_eq (tgt := 29) hx hb d_MOD_monitor_14 (by decide) (fun c_14 => ?_) (fun c_14 => ?_)
  · refine lv_bipush (v := (-2)) hx hb d_MOD_monitor_29 (by decide) ?_
    have hw9 : ([(z0, .inr (6, [.int 0, .int (nI (mmN ka ca nM)), .ref z1, .ref z2, .ref z3, .ref z4, .ref z5, .ref z6, .int (nI nC), .ref z7, .ref z8, .ref z9, .ref z10, .ref z11, .ref z12, .ref z13, .ref z14, .ref z15, .ref z16, .int cyc, .int li, .long me, .long mi, .int (nI sn), .ref z17])), (z1, .inl (G.2 2, 16, .inl (mmA ka ca nM fK ka))), (z2, .inl (G.2 2, 16, .inl (mmA ka ca nM fC ca)))] : va_W) = [(z0, .inr (6, [.int 0, .int (nI nM), .ref z1, .ref z2, .ref z3, .ref z4, .ref z5, .ref z6, .int (nI nC), .ref z7, .ref z8, .ref z9, .ref z10, .ref z11, .ref z12, .ref z13, .ref z14, .ref z15, .ref z16, .int cyc, .int li, .long me, .long mi, .int (nI sn), .ref z17])), (z1, .inl (G.2 2, 16, .inl fK)), (z2, .inl (G.2 2, 16, .inl fC))] := by first | (simp [mmR, mmN, mmA, mmOk, nI_1, c_14]; done) | (simp_all [mmR, mmN, mmA, mmOk, nI_1]; done)
    rw [← hw9] at hP hD
    have hq9 : (.int (mmR ka ca nM)) = (.int (-2) : Value) := by first | (simp [mmR, mmN, mmA, mmOk, nI_1, c_14]; done) | (simp_all [mmR, mmN, mmA, mmOk, nI_1]; done)
    exact W.iret (v := (-2)) hx hb hr (fun t ht hW => ⟨⟨by rw [hq9], by rw [ht]; exact hP, by rw [hAe]; exact hD⟩, by rw [hAe]; exact hS.F ht⟩) hS.2.2 d_MOD_monitor_31
  · refine lv_iload_n hx hb d_MOD_monitor_17 rfl (lv_at hl 2 rfl) ?_
    refine lv_i2l (v := ca.toInt64) hx hb d_MOD_monitor_18 rfl ?_
    refine lv_lconst (v := 0) hx hb d_MOD_monitor_19 (by decide) ?_
    refine lv_ldc2 (v := 7) hx hb hown (hT _ wd_672) d_MOD_monitor_20 ?_
    refine bx_callV (W.runS (As := [.long ca.toInt64, .long 0, .long 7]) (rest := []) ⟨hx, hb, hml, hown, hts⟩ (c_isIn l G ca.toInt64 0 7) ⟨(callB_of 3 hts (gi_all wd_671) rfl rfl rfl (hT _ wd_51) (hT _ wd_669) (by decide +kernel) ⟨Nat.le_of_ble_eq_true rfl, Nat.le_of_ble_eq_true rfl⟩), (hT _ wd_670)⟩ (psR bx_nil hGK) rfl rfl hl.1 rfl (lv_room (Nat.le_of_ble_eq_true rfl)) d_MOD_monitor_23 ⟨Nat.le_of_ble_eq_true rfl, Nat.le_of_ble_eq_true rfl⟩) ?_
    refine lv_if_ne (tgt := 32) hx hb d_MOD_monitor_26 (by decide) (fun c_26 => ?_) (fun c_26 => ?_)
    · refine lv_aload_n hx hb d_MOD_monitor_32 rfl (lv_at hl 0 rfl) ?_
      refine va_get (D := G.1) (ci := 6) (v := .int (nI nM)) (C := R_MOD) (T := T_MOD) (N := 25) hx hb hT in_MOD hown hK hP 0 rfl rfl 1 (by decide) (hT _ wd_583) (fun _ h9 => h9) rfl d_MOD_monitor_33 ?_
      refine lv_bipush (v := 16) hx hb d_MOD_monitor_36 (by decide) ?_
      refine lv_icmp_ne (tgt := 44) hx hb d_MOD_monitor_38 (by decide) (fun c_38 => ?_) (fun c_38 => ?_)
      · have hlt : nM < 16 := nI_16 hm c_38
        refine lv_aload_n hx hb d_MOD_monitor_44 rfl (lv_at hl 0 rfl) ?_
        refine va_get (D := G.1) (ci := 6) (v := .ref z1) (C := R_MOD) (T := T_MOD) (N := 25) hx hb hT in_MOD hown hK hP 0 rfl rfl 2 (by decide) (hT _ wd_584) (fun _ h9 => h9) rfl d_MOD_monitor_45 ?_
        refine lv_aload_n hx hb d_MOD_monitor_48 rfl (lv_at hl 0 rfl) ?_
        refine va_get (D := G.1) (ci := 6) (v := .int (nI nM)) (C := R_MOD) (T := T_MOD) (N := 25) hx hb hT in_MOD hown hK hP 0 rfl rfl 1 (by decide) (hT _ wd_583) (fun _ h9 => h9) rfl d_MOD_monitor_49 ?_
        refine lv_iload_n hx hb d_MOD_monitor_52 rfl (lv_at hl 1 rfl) ?_
        refine va_iast hx hb hK hP hD hS 1 2 rfl rfl (vp_in_nI (by omega) (by omega)) d_MOD_monitor_53 (fun H locs hP hD hS => ?_)
        rw [nI_clamp (by omega)] at hP hD
        have hP : va_P G.1 vwCl [(z0, .inr (6, [.int 0, .int (nI nM), .ref z1, .ref z2, .ref z3, .ref z4, .ref z5, .ref z6, .int (nI nC), .ref z7, .ref z8, .ref z9, .ref z10, .ref z11, .ref z12, .ref z13, .ref z14, .ref z15, .ref z16, .int cyc, .int li, .long me, .long mi, .int (nI sn), .ref z17])), (z1, .inl (G.2 2, 16, .inl (upd fK nM ka))), (z2, .inl (G.2 2, 16, .inl fC))] H := hP
        have hD : va_D A [(z0, .inr (6, [.int 0, .int (nI nM), .ref z1, .ref z2, .ref z3, .ref z4, .ref z5, .ref z6, .int (nI nC), .ref z7, .ref z8, .ref z9, .ref z10, .ref z11, .ref z12, .ref z13, .ref z14, .ref z15, .ref z16, .int cyc, .int li, .long me, .long mi, .int (nI sn), .ref z17])), (z1, .inl (G.2 2, 16, .inl (upd fK nM ka))), (z2, .inl (G.2 2, 16, .inl fC))] := hD
        refine lv_aload_n hx hb d_MOD_monitor_54 rfl (lv_at hl 0 rfl) ?_
        refine va_get (D := G.1) (ci := 6) (v := .ref z2) (C := R_MOD) (T := T_MOD) (N := 25) hx hb hT in_MOD hown hK hP 0 rfl rfl 3 (by decide) (hT _ wd_585) (fun _ h9 => h9) rfl d_MOD_monitor_55 ?_
        refine lv_aload_n hx hb d_MOD_monitor_58 rfl (lv_at hl 0 rfl) ?_
        refine va_get (D := G.1) (ci := 6) (v := .int (nI nM)) (C := R_MOD) (T := T_MOD) (N := 25) hx hb hT in_MOD hown hK hP 0 rfl rfl 1 (by decide) (hT _ wd_583) (fun _ h9 => h9) rfl d_MOD_monitor_59 ?_
        refine lv_iload_n hx hb d_MOD_monitor_62 rfl (lv_at hl 2 rfl) ?_
        refine va_iast hx hb hK hP hD hS 2 2 rfl rfl (vp_in_nI (by omega) (by omega)) d_MOD_monitor_63 (fun H locs hP hD hS => ?_)
        rw [nI_clamp (by omega)] at hP hD
        have hP : va_P G.1 vwCl [(z0, .inr (6, [.int 0, .int (nI nM), .ref z1, .ref z2, .ref z3, .ref z4, .ref z5, .ref z6, .int (nI nC), .ref z7, .ref z8, .ref z9, .ref z10, .ref z11, .ref z12, .ref z13, .ref z14, .ref z15, .ref z16, .int cyc, .int li, .long me, .long mi, .int (nI sn), .ref z17])), (z1, .inl (G.2 2, 16, .inl (upd fK nM ka))), (z2, .inl (G.2 2, 16, .inl (upd fC nM ca)))] H := hP
        have hD : va_D A [(z0, .inr (6, [.int 0, .int (nI nM), .ref z1, .ref z2, .ref z3, .ref z4, .ref z5, .ref z6, .int (nI nC), .ref z7, .ref z8, .ref z9, .ref z10, .ref z11, .ref z12, .ref z13, .ref z14, .ref z15, .ref z16, .int cyc, .int li, .long me, .long mi, .int (nI sn), .ref z17])), (z1, .inl (G.2 2, 16, .inl (upd fK nM ka))), (z2, .inl (G.2 2, 16, .inl (upd fC nM ca)))] := hD
        refine lv_aload_n hx hb d_MOD_monitor_64 rfl (lv_at hl 0 rfl) ?_
        refine lv_dup hx hb d_MOD_monitor_65 rfl ?_
        refine va_get (D := G.1) (ci := 6) (v := .int (nI nM)) (C := R_MOD) (T := T_MOD) (N := 25) hx hb hT in_MOD hown hK hP 0 rfl rfl 1 (by decide) (hT _ wd_583) (fun _ h9 => h9) rfl d_MOD_monitor_66 ?_
        refine lv_iconst (v := 1) hx hb d_MOD_monitor_69 (by decide) ?_
        refine lv_iadd hx hb d_MOD_monitor_70 ?_
        refine va_put (D := G.1) (ci := 6) (v := .int ((nI nM) + 1)) (ty := .int) (C := R_MOD) (T := T_MOD) (N := 25) hx hb hT in_MOD t_MOD tok_MOD nok_MOD hown hK hP hD hS 0 rfl rfl 1 (by decide) (hT _ wd_583) (fun _ h9 => h9) rfl (by decide +kernel) rfl rfl (Nat.le_of_ble_eq_true rfl) d_MOD_monitor_71 (fun H locs hP hD hS => ?_)
        have hP : va_P G.1 vwCl [(z0, .inr (6, [.int 0, .int ((nI nM) + 1), .ref z1, .ref z2, .ref z3, .ref z4, .ref z5, .ref z6, .int (nI nC), .ref z7, .ref z8, .ref z9, .ref z10, .ref z11, .ref z12, .ref z13, .ref z14, .ref z15, .ref z16, .int cyc, .int li, .long me, .long mi, .int (nI sn), .ref z17])), (z1, .inl (G.2 2, 16, .inl (upd fK nM ka))), (z2, .inl (G.2 2, 16, .inl (upd fC nM ca)))] H := hP
        have hD : va_D A [(z0, .inr (6, [.int 0, .int ((nI nM) + 1), .ref z1, .ref z2, .ref z3, .ref z4, .ref z5, .ref z6, .int (nI nC), .ref z7, .ref z8, .ref z9, .ref z10, .ref z11, .ref z12, .ref z13, .ref z14, .ref z15, .ref z16, .int cyc, .int li, .long me, .long mi, .int (nI sn), .ref z17])), (z1, .inl (G.2 2, 16, .inl (upd fK nM ka))), (z2, .inl (G.2 2, 16, .inl (upd fC nM ca)))] := hD
        refine lv_aload_n hx hb d_MOD_monitor_74 rfl (lv_at hl 0 rfl) ?_
        refine va_get (D := G.1) (ci := 6) (v := .int ((nI nM) + 1)) (C := R_MOD) (T := T_MOD) (N := 25) hx hb hT in_MOD hown hK hP 0 rfl rfl 1 (by decide) (hT _ wd_583) (fun _ h9 => h9) rfl d_MOD_monitor_75 ?_
        have hw9 : ([(z0, .inr (6, [.int 0, .int (nI (mmN ka ca nM)), .ref z1, .ref z2, .ref z3, .ref z4, .ref z5, .ref z6, .int (nI nC), .ref z7, .ref z8, .ref z9, .ref z10, .ref z11, .ref z12, .ref z13, .ref z14, .ref z15, .ref z16, .int cyc, .int li, .long me, .long mi, .int (nI sn), .ref z17])), (z1, .inl (G.2 2, 16, .inl (mmA ka ca nM fK ka))), (z2, .inl (G.2 2, 16, .inl (mmA ka ca nM fC ca)))] : va_W) = [(z0, .inr (6, [.int 0, .int ((nI nM) + 1), .ref z1, .ref z2, .ref z3, .ref z4, .ref z5, .ref z6, .int (nI nC), .ref z7, .ref z8, .ref z9, .ref z10, .ref z11, .ref z12, .ref z13, .ref z14, .ref z15, .ref z16, .int cyc, .int li, .long me, .long mi, .int (nI sn), .ref z17])), (z1, .inl (G.2 2, 16, .inl (upd fK nM ka))), (z2, .inl (G.2 2, 16, .inl (upd fC nM ca)))] := by first | (simp [mmR, mmN, mmA, mmOk, nI_1, c_14, c_26, c_38]; done) | (simp_all [mmR, mmN, mmA, mmOk, nI_1]; done)
        rw [← hw9] at hP hD
        have hq9 : (.int (mmR ka ca nM)) = (.int ((nI nM) + 1) : Value) := by first | (simp [mmR, mmN, mmA, mmOk, nI_1, c_14, c_26, c_38]; done) | (simp_all [mmR, mmN, mmA, mmOk, nI_1]; done)
        exact W.iret (v := (nI nM) + 1) hx hb hr (fun t ht hW => ⟨⟨by rw [hq9], by rw [ht]; exact hP, by rw [hAe]; exact hD⟩, by rw [hAe]; exact hS.F ht⟩) hS.2.2 d_MOD_monitor_78
      · refine lv_bipush (v := (-4)) hx hb d_MOD_monitor_41 (by decide) ?_
        have hw9 : ([(z0, .inr (6, [.int 0, .int (nI (mmN ka ca nM)), .ref z1, .ref z2, .ref z3, .ref z4, .ref z5, .ref z6, .int (nI nC), .ref z7, .ref z8, .ref z9, .ref z10, .ref z11, .ref z12, .ref z13, .ref z14, .ref z15, .ref z16, .int cyc, .int li, .long me, .long mi, .int (nI sn), .ref z17])), (z1, .inl (G.2 2, 16, .inl (mmA ka ca nM fK ka))), (z2, .inl (G.2 2, 16, .inl (mmA ka ca nM fC ca)))] : va_W) = [(z0, .inr (6, [.int 0, .int (nI nM), .ref z1, .ref z2, .ref z3, .ref z4, .ref z5, .ref z6, .int (nI nC), .ref z7, .ref z8, .ref z9, .ref z10, .ref z11, .ref z12, .ref z13, .ref z14, .ref z15, .ref z16, .int cyc, .int li, .long me, .long mi, .int (nI sn), .ref z17])), (z1, .inl (G.2 2, 16, .inl fK)), (z2, .inl (G.2 2, 16, .inl fC))] := by first | (simp [mmR, mmN, mmA, mmOk, nI_1, c_14, c_26, c_38]; done) | (simp_all [mmR, mmN, mmA, mmOk, nI_1]; done)
        rw [← hw9] at hP hD
        have hq9 : (.int (mmR ka ca nM)) = (.int (-4) : Value) := by first | (simp [mmR, mmN, mmA, mmOk, nI_1, c_14, c_26, c_38]; done) | (simp_all [mmR, mmN, mmA, mmOk, nI_1]; done)
        exact W.iret (v := (-4)) hx hb hr (fun t ht hW => ⟨⟨by rw [hq9], by rw [ht]; exact hP, by rw [hAe]; exact hD⟩, by rw [hAe]; exact hS.F ht⟩) hS.2.2 d_MOD_monitor_43
    · refine lv_bipush (v := (-2)) hx hb d_MOD_monitor_29 (by decide) ?_
      have hw9 : ([(z0, .inr (6, [.int 0, .int (nI (mmN ka ca nM)), .ref z1, .ref z2, .ref z3, .ref z4, .ref z5, .ref z6, .int (nI nC), .ref z7, .ref z8, .ref z9, .ref z10, .ref z11, .ref z12, .ref z13, .ref z14, .ref z15, .ref z16, .int cyc, .int li, .long me, .long mi, .int (nI sn), .ref z17])), (z1, .inl (G.2 2, 16, .inl (mmA ka ca nM fK ka))), (z2, .inl (G.2 2, 16, .inl (mmA ka ca nM fC ca)))] : va_W) = [(z0, .inr (6, [.int 0, .int (nI nM), .ref z1, .ref z2, .ref z3, .ref z4, .ref z5, .ref z6, .int (nI nC), .ref z7, .ref z8, .ref z9, .ref z10, .ref z11, .ref z12, .ref z13, .ref z14, .ref z15, .ref z16, .int cyc, .int li, .long me, .long mi, .int (nI sn), .ref z17])), (z1, .inl (G.2 2, 16, .inl fK)), (z2, .inl (G.2 2, 16, .inl fC))] := by first | (simp [mmR, mmN, mmA, mmOk, nI_1, c_14, c_26]; done) | (simp_all [mmR, mmN, mmA, mmOk, nI_1]; done)
      rw [← hw9] at hP hD
      have hq9 : (.int (mmR ka ca nM)) = (.int (-2) : Value) := by first | (simp [mmR, mmN, mmA, mmOk, nI_1, c_14, c_26]; done) | (simp_all [mmR, mmN, mmA, mmOk, nI_1]; done)
      exact W.iret (v := (-2)) hx hb hr (fun t ht hW => ⟨⟨by rw [hq9], by rw [ht]; exact hP, by rw [hAe]; exact hD⟩, by rw [hAe]; exact hS.F ht⟩) hS.2.2 d_MOD_monitor_31
set_option maxHeartbeats 4000000 in
set_option maxRecDepth 100000 in
theorem c_mfault (l : Launch) (G : GG) (sz : Nat) (z0 : Nat) (z1 : Nat) (z2 : Nat) (z3 : Nat) (z4 : Nat) (z5 : Nat) (z6 : Nat) (z7 : Nat) (z8 : Nat) (z9 : Nat) (z10 : Nat) (z11 : Nat) (z12 : Nat) (z13 : Nat) (z14 : Nat) (z15 : Nat) (z16 : Nat) (z17 : Nat) (cdv : Int32) (cyc : Int32) (li : Int32) (nM : Nat) (nC : Nat) (sn : Nat) (me : Int64) (mi : Int64) (gN : Nat → Int32) (gO : Nat → Int32) (nu : Int32) (onn : Int32) (hn : nC ≤ 20) (hon : bz onn) : Met l y_MOD_fault w_MOD_fault ({ frames := 1, cells := 0, slots := 0, locals := 25 }) (va_Pc [.ref z0, .int nu, .int onn] (Pw G sz [(z0, .inr (6, [.int cdv, .int (nI nM), .ref z1, .ref z2, .ref z3, .ref z4, .ref z5, .ref z6, .int (nI nC), .ref z7, .ref z8, .ref z9, .ref z10, .ref z11, .ref z12, .ref z13, .ref z14, .ref z15, .ref z16, .int cyc, .int li, .long me, .long mi, .int (nI sn), .ref z17])), (z7, .inl (G.2 2, 20, .inl gN)), (z8, .inl (G.2 3, 20, .inl gO))])) (QW G (some (.int (mfR gN nu nC))) [(z0, .inr (6, [.int cdv, .int (nI nM), .ref z1, .ref z2, .ref z3, .ref z4, .ref z5, .ref z6, .int (nI nC), .ref z7, .ref z8, .ref z9, .ref z10, .ref z11, .ref z12, .ref z13, .ref z14, .ref z15, .ref z16, .int cyc, .int li, .long me, .long mi, .int (nI sn), .ref z17])), (z7, .inl (G.2 2, 20, .inl gN)), (z8, .inl (G.2 3, 20, .inl gO))] [(z0, .inr (6, [.int 0, .int (nI nM), .ref z1, .ref z2, .ref z3, .ref z4, .ref z5, .ref z6, .int (nI (mfN gN nu nC)), .ref z7, .ref z8, .ref z9, .ref z10, .ref z11, .ref z12, .ref z13, .ref z14, .ref z15, .ref z16, .int cyc, .int li, .long me, .long mi, .int (nI sn), .ref z17])), (z7, .inl (G.2 2, 20, .inl (mfA gN nu nC))), (z8, .inl (G.2 3, 20, .inl (mfO gN gO nu onn nC)))] sz) 0 0 (va_A [(z0, .inr (6, [.int cdv, .int (nI nM), .ref z1, .ref z2, .ref z3, .ref z4, .ref z5, .ref z6, .int (nI nC), .ref z7, .ref z8, .ref z9, .ref z10, .ref z11, .ref z12, .ref z13, .ref z14, .ref z15, .ref z16, .int cyc, .int li, .long me, .long mi, .int (nI sn), .ref z17])), (z7, .inl (G.2 2, 20, .inl gN)), (z8, .inl (G.2 3, 20, .inl gO))] sz) := by
  refine Met.ofW (cc := b_MOD_fault) (maxL := 4) (ret := (some .int)) (by decide) rfl ?_
  intro p e s m args below meth c s₁ B hml hv
  obtain ⟨rfl, hsz, hP, hGK, hD0⟩ := hv
  have hx := B.exec
  have hb := B.bytes
  have hr := B.returns
  have hts := atoms_spec (ws := w_MOD_fault) B.pre
  have hT : ∀ w ∈ lwG, w.before _ s = true := fun w h => hts w (List.mem_cons_of_mem _ h)
  have hown : s.vm.findClass R_MOD = some m.cls := findClass_of_methodNamed B.named
  have hlocks := B.notSynchronized
  have hK := hGK.1
  have hN := hGK.2
  subst hsz
  have hD := hD0.self (sz := s.heap.size)
  generalize hAe : va_A [(z0, .inr (6, [.int cdv, .int (nI nM), .ref z1, .ref z2, .ref z3, .ref z4, .ref z5, .ref z6, .int (nI nC), .ref z7, .ref z8, .ref z9, .ref z10, .ref z11, .ref z12, .ref z13, .ref z14, .ref z15, .ref z16, .int cyc, .int li, .long me, .long mi, .int (nI sn), .ref z17])), (z7, .inl (G.2 2, 20, .inl gN)), (z8, .inl (G.2 3, 20, .inl gO))] s.heap.size = A at hD ⊢
  have hA : ∀ q : Nat, s.heap.size ≤ q → A q := fun q h => by rw [← hAe]; exact Or.inr h
  have hS : va_S A s.heap s.heap [] := va_S.rf
  have hP : va_P G.1 vwCl [(z0, .inr (6, [.int cdv, .int (nI nM), .ref z1, .ref z2, .ref z3, .ref z4, .ref z5, .ref z6, .int (nI nC), .ref z7, .ref z8, .ref z9, .ref z10, .ref z11, .ref z12, .ref z13, .ref z14, .ref z15, .ref z16, .int cyc, .int li, .long me, .long mi, .int (nI sn), .ref z17])), (z7, .inl (G.2 2, 20, .inl gN)), (z8, .inl (G.2 3, 20, .inl gO))] s.heap := hP
  have hl := lv_entry ([.ref z0, .int nu, .int onn]) (n := 4) (Nat.le_of_ble_eq_true rfl)
  rw [lg_entry_eq]
  generalize (lg_sl ([.ref z0, .int nu, .int onn]) ++ List.replicate (4 - (lg_sl ([.ref z0, .int nu, .int onn])).length) Slot.unset).toArray = ls at hl ⊢
  have hl : lv_has ls 4 [(0, .ref z0), (1, .int nu), (2, .int onn)] := hl
  refine lv_aload_n hx hb d_MOD_fault_0 rfl (lv_at hl 0 rfl) ?_
  refine lv_iconst (v := 0) hx hb d_MOD_fault_1 (by decide) ?_
  refine va_put (D := G.1) (ci := 6) (v := .int 0) (ty := .int) (C := R_MOD) (T := T_MOD) (N := 25) hx hb hT in_MOD t_MOD tok_MOD nok_MOD hown hK hP hD hS 0 rfl rfl 0 (by decide) (hT _ wd_582) (fun _ h9 => h9) rfl (by decide +kernel) rfl rfl (Nat.le_of_ble_eq_true rfl) d_MOD_fault_2 (fun H locs hP hD hS => ?_)
  have hP : va_P G.1 vwCl [(z0, .inr (6, [.int 0, .int (nI nM), .ref z1, .ref z2, .ref z3, .ref z4, .ref z5, .ref z6, .int (nI nC), .ref z7, .ref z8, .ref z9, .ref z10, .ref z11, .ref z12, .ref z13, .ref z14, .ref z15, .ref z16, .int cyc, .int li, .long me, .long mi, .int (nI sn), .ref z17])), (z7, .inl (G.2 2, 20, .inl gN)), (z8, .inl (G.2 3, 20, .inl gO))] H := hP
  have hD : va_D A [(z0, .inr (6, [.int 0, .int (nI nM), .ref z1, .ref z2, .ref z3, .ref z4, .ref z5, .ref z6, .int (nI nC), .ref z7, .ref z8, .ref z9, .ref z10, .ref z11, .ref z12, .ref z13, .ref z14, .ref z15, .ref z16, .int cyc, .int li, .long me, .long mi, .int (nI sn), .ref z17])), (z7, .inl (G.2 2, 20, .inl gN)), (z8, .inl (G.2 3, 20, .inl gO))] := hD
  refine lv_iload_n hx hb d_MOD_fault_5 rfl (lv_at hl 1 rfl) ?_
  refine lv_i2l (v := nu.toInt64) hx hb d_MOD_fault_6 rfl ?_
  refine lv_lconst (v := 1) hx hb d_MOD_fault_7 (by decide) ?_
  refine lv_ldc2 (v := 65535) hx hb hown (hT _ wd_678) d_MOD_fault_8 ?_
  refine bx_callV (W.runS (As := [.long nu.toInt64, .long 1, .long 65535]) (rest := []) ⟨hx, hb, hml, hown, hts⟩ (c_isIn l G nu.toInt64 1 65535) ⟨(callB_of 3 hts (gi_all wd_671) rfl rfl rfl (hT _ wd_51) (hT _ wd_669) (by decide +kernel) ⟨Nat.le_of_ble_eq_true rfl, Nat.le_of_ble_eq_true rfl⟩), (hT _ wd_670)⟩ (psR bx_nil hGK) rfl rfl hl.1 rfl (lv_room (Nat.le_of_ble_eq_true rfl)) d_MOD_fault_11 ⟨Nat.le_of_ble_eq_true rfl, Nat.le_of_ble_eq_true rfl⟩) ?_
  refine lv_if_ne (tgt := 20) hx hb d_MOD_fault_14 (by decide) (fun c_14 => ?_) (fun c_14 => ?_)
  · refine lv_iconst (v := 0) hx hb d_MOD_fault_20 (by decide) ?_
    refine lv_istore_n (lv' := [(3, .int 0), (0, .ref z0), (1, .int nu), (2, .int onn)]) hx hb d_MOD_fault_21 rfl hl (by decide) rfl (fun ls hl => ?_)
    refine bx_loop (σ := Nat) (fun q H locs ls => q ≤ nC ∧ mkF gN nu nC (nC - q) = mkF gN nu nC nC ∧ va_P G.1 vwCl [(z0, .inr (6, [.int 0, .int (nI nM), .ref z1, .ref z2, .ref z3, .ref z4, .ref z5, .ref z6, .int (nI nC), .ref z7, .ref z8, .ref z9, .ref z10, .ref z11, .ref z12, .ref z13, .ref z14, .ref z15, .ref z16, .int cyc, .int li, .long me, .long mi, .int (nI sn), .ref z17])), (z7, .inl (G.2 2, 20, .inl gN)), (z8, .inl (G.2 3, 20, .inl gO))] H ∧ va_D A [(z0, .inr (6, [.int 0, .int (nI nM), .ref z1, .ref z2, .ref z3, .ref z4, .ref z5, .ref z6, .int (nI nC), .ref z7, .ref z8, .ref z9, .ref z10, .ref z11, .ref z12, .ref z13, .ref z14, .ref z15, .ref z16, .int cyc, .int li, .long me, .long mi, .int (nI sn), .ref z17])), (z7, .inl (G.2 2, 20, .inl gN)), (z8, .inl (G.2 3, 20, .inl gO))] ∧ va_S A s.heap H locs ∧ lv_has ls 4 [(0, .ref z0), (1, .int nu), (2, .int onn), (3, .int (nI q))]) (fun q => nC - q) _ (fun q H locs ls hI ih => ?_) 0 ls ⟨Nat.zero_le _, rfl, hP, hD, hS, lv_sub hl [1, 2, 3, 0] rfl⟩
    revert hI ih; generalize q = k; intro hI ih
    obtain ⟨hknk, hmk, hP, hD, hS, hl⟩ := hI
    have hknk : k ≤ nC := hknk
    have hmk : mkF gN nu nC (nC - k) = mkF gN nu nC nC := hmk
    have hP : va_P G.1 vwCl [(z0, .inr (6, [.int 0, .int (nI nM), .ref z1, .ref z2, .ref z3, .ref z4, .ref z5, .ref z6, .int (nI nC), .ref z7, .ref z8, .ref z9, .ref z10, .ref z11, .ref z12, .ref z13, .ref z14, .ref z15, .ref z16, .int cyc, .int li, .long me, .long mi, .int (nI sn), .ref z17])), (z7, .inl (G.2 2, 20, .inl gN)), (z8, .inl (G.2 3, 20, .inl gO))] H := hP
    have hD : va_D A [(z0, .inr (6, [.int 0, .int (nI nM), .ref z1, .ref z2, .ref z3, .ref z4, .ref z5, .ref z6, .int (nI nC), .ref z7, .ref z8, .ref z9, .ref z10, .ref z11, .ref z12, .ref z13, .ref z14, .ref z15, .ref z16, .int cyc, .int li, .long me, .long mi, .int (nI sn), .ref z17])), (z7, .inl (G.2 2, 20, .inl gN)), (z8, .inl (G.2 3, 20, .inl gO))] := hD
    have hl : lv_has ls 4 [(0, .ref z0), (1, .int nu), (2, .int onn), (3, .int (nI k))] := hl
    refine lv_iload_n hx hb d_MOD_fault_22 rfl (lv_at hl 3 rfl) ?_
    refine lv_aload_n hx hb d_MOD_fault_23 rfl (lv_at hl 0 rfl) ?_
    refine va_get (D := G.1) (ci := 6) (v := .int (nI nC)) (C := R_MOD) (T := T_MOD) (N := 25) hx hb hT in_MOD hown hK hP 0 rfl rfl 8 (by decide) (hT _ wd_590) (fun _ h9 => h9) rfl d_MOD_fault_24 ?_
    refine lv_icmp_ge (tgt := 46) hx hb d_MOD_fault_27 (by decide) (fun c_27 => ?_) (fun c_27 => ?_)
    · have hge : nC ≤ k := (nI_leI (by omega) (by omega)).mp c_27
      have hke : k = nC := by omega
      have hmk9 : mkF gN nu nC nC = k := by rw [← hmk, hke, Nat.sub_self]; rfl
      refine lv_iload_n hx hb d_MOD_fault_46 rfl (lv_at hl 3 rfl) ?_
      refine lv_bipush (v := 20) hx hb d_MOD_fault_47 (by decide) ?_
      refine lv_icmp_ne (tgt := 55) hx hb d_MOD_fault_49 (by decide) (fun c_49 => ?_) (fun c_49 => ?_)
      · have hk20 : k < 20 := nI_20 (by omega) c_49
        refine lv_iload_n hx hb d_MOD_fault_55 rfl (lv_at hl 3 rfl) ?_
        refine lv_aload_n hx hb d_MOD_fault_56 rfl (lv_at hl 0 rfl) ?_
        refine va_get (D := G.1) (ci := 6) (v := .int (nI nC)) (C := R_MOD) (T := T_MOD) (N := 25) hx hb hT in_MOD hown hK hP 0 rfl rfl 8 (by decide) (hT _ wd_590) (fun _ h9 => h9) rfl d_MOD_fault_57 ?_
        refine lv_icmp_ne (tgt := 80) hx hb d_MOD_fault_60 (by decide) (fun c_60 => ?_) (fun c_60 => ?_)
        · refine lv_aload_n hx hb d_MOD_fault_80 rfl (lv_at hl 0 rfl) ?_
          refine va_get (D := G.1) (ci := 6) (v := .ref z8) (C := R_MOD) (T := T_MOD) (N := 25) hx hb hT in_MOD hown hK hP 0 rfl rfl 10 (by decide) (hT _ wd_592) (fun _ h9 => h9) rfl d_MOD_fault_81 ?_
          refine lv_iload_n hx hb d_MOD_fault_84 rfl (lv_at hl 3 rfl) ?_
          refine lv_iload_n hx hb d_MOD_fault_85 rfl (lv_at hl 2 rfl) ?_
          refine va_zast hx hb hK hP hD hS 2 3 rfl rfl (vp_in_nI (by omega) (by omega)) d_MOD_fault_86 (fun H locs hP hD hS => ?_)
          rw [nI_clamp (by omega), bz.v (by assumption)] at hP hD
          have hP : va_P G.1 vwCl [(z0, .inr (6, [.int 0, .int (nI nM), .ref z1, .ref z2, .ref z3, .ref z4, .ref z5, .ref z6, .int (nI nC), .ref z7, .ref z8, .ref z9, .ref z10, .ref z11, .ref z12, .ref z13, .ref z14, .ref z15, .ref z16, .int cyc, .int li, .long me, .long mi, .int (nI sn), .ref z17])), (z7, .inl (G.2 2, 20, .inl gN)), (z8, .inl (G.2 3, 20, .inl (upd gO k onn)))] H := hP
          have hD : va_D A [(z0, .inr (6, [.int 0, .int (nI nM), .ref z1, .ref z2, .ref z3, .ref z4, .ref z5, .ref z6, .int (nI nC), .ref z7, .ref z8, .ref z9, .ref z10, .ref z11, .ref z12, .ref z13, .ref z14, .ref z15, .ref z16, .int cyc, .int li, .long me, .long mi, .int (nI sn), .ref z17])), (z7, .inl (G.2 2, 20, .inl gN)), (z8, .inl (G.2 3, 20, .inl (upd gO k onn)))] := hD
          refine lv_aload_n hx hb d_MOD_fault_87 rfl (lv_at hl 0 rfl) ?_
          refine va_get (D := G.1) (ci := 6) (v := .int (nI nC)) (C := R_MOD) (T := T_MOD) (N := 25) hx hb hT in_MOD hown hK hP 0 rfl rfl 8 (by decide) (hT _ wd_590) (fun _ h9 => h9) rfl d_MOD_fault_88 ?_
          have hw9 : ([(z0, .inr (6, [.int 0, .int (nI nM), .ref z1, .ref z2, .ref z3, .ref z4, .ref z5, .ref z6, .int (nI (mfN gN nu nC)), .ref z7, .ref z8, .ref z9, .ref z10, .ref z11, .ref z12, .ref z13, .ref z14, .ref z15, .ref z16, .int cyc, .int li, .long me, .long mi, .int (nI sn), .ref z17])), (z7, .inl (G.2 2, 20, .inl (mfA gN nu nC))), (z8, .inl (G.2 3, 20, .inl (mfO gN gO nu onn nC)))] : va_W) = [(z0, .inr (6, [.int 0, .int (nI nM), .ref z1, .ref z2, .ref z3, .ref z4, .ref z5, .ref z6, .int (nI nC), .ref z7, .ref z8, .ref z9, .ref z10, .ref z11, .ref z12, .ref z13, .ref z14, .ref z15, .ref z16, .int cyc, .int li, .long me, .long mi, .int (nI sn), .ref z17])), (z7, .inl (G.2 2, 20, .inl gN)), (z8, .inl (G.2 3, 20, .inl (upd gO k onn)))] := by first | (simp [mfR, mfN, mfA, mfO, mfOk, nI_1, hmk9, c_14, c_27, c_49, c_60]; done) | (simp_all [mfR, mfN, mfA, mfO, mfOk, nI_1]; done)
          rw [← hw9] at hP hD
          have hq9 : (.int (mfR gN nu nC)) = (.int (nI nC) : Value) := by first | (simp [mfR, mfN, mfA, mfO, mfOk, nI_1, hmk9, c_14, c_27, c_49, c_60]; done) | (simp_all [mfR, mfN, mfA, mfO, mfOk, nI_1]; done)
          exact W.iret (v := nI nC) hx hb hr (fun t ht hW => ⟨⟨by rw [hq9], by rw [ht]; exact hP, by rw [hAe]; exact hD⟩, by rw [hAe]; exact hS.F ht⟩) hS.2.2 d_MOD_fault_91
        · refine lv_aload_n hx hb d_MOD_fault_63 rfl (lv_at hl 0 rfl) ?_
          refine va_get (D := G.1) (ci := 6) (v := .ref z7) (C := R_MOD) (T := T_MOD) (N := 25) hx hb hT in_MOD hown hK hP 0 rfl rfl 9 (by decide) (hT _ wd_591) (fun _ h9 => h9) rfl d_MOD_fault_64 ?_
          refine lv_iload_n hx hb d_MOD_fault_67 rfl (lv_at hl 3 rfl) ?_
          refine lv_iload_n hx hb d_MOD_fault_68 rfl (lv_at hl 1 rfl) ?_
          refine va_iast hx hb hK hP hD hS 1 2 rfl rfl (vp_in_nI (by omega) (by omega)) d_MOD_fault_69 (fun H locs hP hD hS => ?_)
          rw [nI_clamp (by omega)] at hP hD
          have hP : va_P G.1 vwCl [(z0, .inr (6, [.int 0, .int (nI nM), .ref z1, .ref z2, .ref z3, .ref z4, .ref z5, .ref z6, .int (nI nC), .ref z7, .ref z8, .ref z9, .ref z10, .ref z11, .ref z12, .ref z13, .ref z14, .ref z15, .ref z16, .int cyc, .int li, .long me, .long mi, .int (nI sn), .ref z17])), (z7, .inl (G.2 2, 20, .inl (upd gN k nu))), (z8, .inl (G.2 3, 20, .inl gO))] H := hP
          have hD : va_D A [(z0, .inr (6, [.int 0, .int (nI nM), .ref z1, .ref z2, .ref z3, .ref z4, .ref z5, .ref z6, .int (nI nC), .ref z7, .ref z8, .ref z9, .ref z10, .ref z11, .ref z12, .ref z13, .ref z14, .ref z15, .ref z16, .int cyc, .int li, .long me, .long mi, .int (nI sn), .ref z17])), (z7, .inl (G.2 2, 20, .inl (upd gN k nu))), (z8, .inl (G.2 3, 20, .inl gO))] := hD
          refine lv_aload_n hx hb d_MOD_fault_70 rfl (lv_at hl 0 rfl) ?_
          refine lv_dup hx hb d_MOD_fault_71 rfl ?_
          refine va_get (D := G.1) (ci := 6) (v := .int (nI nC)) (C := R_MOD) (T := T_MOD) (N := 25) hx hb hT in_MOD hown hK hP 0 rfl rfl 8 (by decide) (hT _ wd_590) (fun _ h9 => h9) rfl d_MOD_fault_72 ?_
          refine lv_iconst (v := 1) hx hb d_MOD_fault_75 (by decide) ?_
          refine lv_iadd hx hb d_MOD_fault_76 ?_
          refine va_put (D := G.1) (ci := 6) (v := .int ((nI nC) + 1)) (ty := .int) (C := R_MOD) (T := T_MOD) (N := 25) hx hb hT in_MOD t_MOD tok_MOD nok_MOD hown hK hP hD hS 0 rfl rfl 8 (by decide) (hT _ wd_590) (fun _ h9 => h9) rfl (by decide +kernel) rfl rfl (Nat.le_of_ble_eq_true rfl) d_MOD_fault_77 (fun H locs hP hD hS => ?_)
          have hP : va_P G.1 vwCl [(z0, .inr (6, [.int 0, .int (nI nM), .ref z1, .ref z2, .ref z3, .ref z4, .ref z5, .ref z6, .int ((nI nC) + 1), .ref z7, .ref z8, .ref z9, .ref z10, .ref z11, .ref z12, .ref z13, .ref z14, .ref z15, .ref z16, .int cyc, .int li, .long me, .long mi, .int (nI sn), .ref z17])), (z7, .inl (G.2 2, 20, .inl (upd gN k nu))), (z8, .inl (G.2 3, 20, .inl gO))] H := hP
          have hD : va_D A [(z0, .inr (6, [.int 0, .int (nI nM), .ref z1, .ref z2, .ref z3, .ref z4, .ref z5, .ref z6, .int ((nI nC) + 1), .ref z7, .ref z8, .ref z9, .ref z10, .ref z11, .ref z12, .ref z13, .ref z14, .ref z15, .ref z16, .int cyc, .int li, .long me, .long mi, .int (nI sn), .ref z17])), (z7, .inl (G.2 2, 20, .inl (upd gN k nu))), (z8, .inl (G.2 3, 20, .inl gO))] := hD
          refine lv_aload_n hx hb d_MOD_fault_80 rfl (lv_at hl 0 rfl) ?_
          refine va_get (D := G.1) (ci := 6) (v := .ref z8) (C := R_MOD) (T := T_MOD) (N := 25) hx hb hT in_MOD hown hK hP 0 rfl rfl 10 (by decide) (hT _ wd_592) (fun _ h9 => h9) rfl d_MOD_fault_81 ?_
          refine lv_iload_n hx hb d_MOD_fault_84 rfl (lv_at hl 3 rfl) ?_
          refine lv_iload_n hx hb d_MOD_fault_85 rfl (lv_at hl 2 rfl) ?_
          refine va_zast hx hb hK hP hD hS 2 3 rfl rfl (vp_in_nI (by omega) (by omega)) d_MOD_fault_86 (fun H locs hP hD hS => ?_)
          rw [nI_clamp (by omega), bz.v (by assumption)] at hP hD
          have hP : va_P G.1 vwCl [(z0, .inr (6, [.int 0, .int (nI nM), .ref z1, .ref z2, .ref z3, .ref z4, .ref z5, .ref z6, .int ((nI nC) + 1), .ref z7, .ref z8, .ref z9, .ref z10, .ref z11, .ref z12, .ref z13, .ref z14, .ref z15, .ref z16, .int cyc, .int li, .long me, .long mi, .int (nI sn), .ref z17])), (z7, .inl (G.2 2, 20, .inl (upd gN k nu))), (z8, .inl (G.2 3, 20, .inl (upd gO k onn)))] H := hP
          have hD : va_D A [(z0, .inr (6, [.int 0, .int (nI nM), .ref z1, .ref z2, .ref z3, .ref z4, .ref z5, .ref z6, .int ((nI nC) + 1), .ref z7, .ref z8, .ref z9, .ref z10, .ref z11, .ref z12, .ref z13, .ref z14, .ref z15, .ref z16, .int cyc, .int li, .long me, .long mi, .int (nI sn), .ref z17])), (z7, .inl (G.2 2, 20, .inl (upd gN k nu))), (z8, .inl (G.2 3, 20, .inl (upd gO k onn)))] := hD
          refine lv_aload_n hx hb d_MOD_fault_87 rfl (lv_at hl 0 rfl) ?_
          refine va_get (D := G.1) (ci := 6) (v := .int ((nI nC) + 1)) (C := R_MOD) (T := T_MOD) (N := 25) hx hb hT in_MOD hown hK hP 0 rfl rfl 8 (by decide) (hT _ wd_590) (fun _ h9 => h9) rfl d_MOD_fault_88 ?_
          have hw9 : ([(z0, .inr (6, [.int 0, .int (nI nM), .ref z1, .ref z2, .ref z3, .ref z4, .ref z5, .ref z6, .int (nI (mfN gN nu nC)), .ref z7, .ref z8, .ref z9, .ref z10, .ref z11, .ref z12, .ref z13, .ref z14, .ref z15, .ref z16, .int cyc, .int li, .long me, .long mi, .int (nI sn), .ref z17])), (z7, .inl (G.2 2, 20, .inl (mfA gN nu nC))), (z8, .inl (G.2 3, 20, .inl (mfO gN gO nu onn nC)))] : va_W) = [(z0, .inr (6, [.int 0, .int (nI nM), .ref z1, .ref z2, .ref z3, .ref z4, .ref z5, .ref z6, .int ((nI nC) + 1), .ref z7, .ref z8, .ref z9, .ref z10, .ref z11, .ref z12, .ref z13, .ref z14, .ref z15, .ref z16, .int cyc, .int li, .long me, .long mi, .int (nI sn), .ref z17])), (z7, .inl (G.2 2, 20, .inl (upd gN k nu))), (z8, .inl (G.2 3, 20, .inl (upd gO k onn)))] := by first | (simp [mfR, mfN, mfA, mfO, mfOk, nI_1, hmk9, c_14, c_27, c_49, c_60]; done) | (simp_all [mfR, mfN, mfA, mfO, mfOk, nI_1]; done)
          rw [← hw9] at hP hD
          have hq9 : (.int (mfR gN nu nC)) = (.int ((nI nC) + 1) : Value) := by first | (simp [mfR, mfN, mfA, mfO, mfOk, nI_1, hmk9, c_14, c_27, c_49, c_60]; done) | (simp_all [mfR, mfN, mfA, mfO, mfOk, nI_1]; done)
          exact W.iret (v := (nI nC) + 1) hx hb hr (fun t ht hW => ⟨⟨by rw [hq9], by rw [ht]; exact hP, by rw [hAe]; exact hD⟩, by rw [hAe]; exact hS.F ht⟩) hS.2.2 d_MOD_fault_91
      · refine lv_bipush (v := (-4)) hx hb d_MOD_fault_52 (by decide) ?_
        have hw9 : ([(z0, .inr (6, [.int 0, .int (nI nM), .ref z1, .ref z2, .ref z3, .ref z4, .ref z5, .ref z6, .int (nI (mfN gN nu nC)), .ref z7, .ref z8, .ref z9, .ref z10, .ref z11, .ref z12, .ref z13, .ref z14, .ref z15, .ref z16, .int cyc, .int li, .long me, .long mi, .int (nI sn), .ref z17])), (z7, .inl (G.2 2, 20, .inl (mfA gN nu nC))), (z8, .inl (G.2 3, 20, .inl (mfO gN gO nu onn nC)))] : va_W) = [(z0, .inr (6, [.int 0, .int (nI nM), .ref z1, .ref z2, .ref z3, .ref z4, .ref z5, .ref z6, .int (nI nC), .ref z7, .ref z8, .ref z9, .ref z10, .ref z11, .ref z12, .ref z13, .ref z14, .ref z15, .ref z16, .int cyc, .int li, .long me, .long mi, .int (nI sn), .ref z17])), (z7, .inl (G.2 2, 20, .inl gN)), (z8, .inl (G.2 3, 20, .inl gO))] := by first | (simp [mfR, mfN, mfA, mfO, mfOk, nI_1, hmk9, c_14, c_27, c_49]; done) | (simp_all [mfR, mfN, mfA, mfO, mfOk, nI_1]; done)
        rw [← hw9] at hP hD
        have hq9 : (.int (mfR gN nu nC)) = (.int (-4) : Value) := by first | (simp [mfR, mfN, mfA, mfO, mfOk, nI_1, hmk9, c_14, c_27, c_49]; done) | (simp_all [mfR, mfN, mfA, mfO, mfOk, nI_1]; done)
        exact W.iret (v := (-4)) hx hb hr (fun t ht hW => ⟨⟨by rw [hq9], by rw [ht]; exact hP, by rw [hAe]; exact hD⟩, by rw [hAe]; exact hS.F ht⟩) hS.2.2 d_MOD_fault_54
    · have hk : k < nC := Nat.not_le.mp (fun z => c_27 (nI_le z (by omega)))
      refine lv_aload_n hx hb d_MOD_fault_30 rfl (lv_at hl 0 rfl) ?_
      refine va_get (D := G.1) (ci := 6) (v := .ref z7) (C := R_MOD) (T := T_MOD) (N := 25) hx hb hT in_MOD hown hK hP 0 rfl rfl 9 (by decide) (hT _ wd_591) (fun _ h9 => h9) rfl d_MOD_fault_31 ?_
      refine lv_iload_n hx hb d_MOD_fault_34 rfl (lv_at hl 3 rfl) ?_
      refine va_iald hx hb hK hP 1 2 rfl rfl (vp_in_nI (by omega) (by omega)) d_MOD_fault_35 ?_
      refine W.eq (g2 := F0 m 36 ls (.int (gN k) :: [])) (by rw [nI_clamp (by omega)]) ?_
      refine lv_iload_n hx hb d_MOD_fault_36 rfl (lv_at hl 1 rfl) ?_
      refine lv_icmp_eq (tgt := 46) hx hb d_MOD_fault_37 (by decide) (fun c_37 => ?_) (fun c_37 => ?_)
      · have hmk9 : mkF gN nu nC nC = k := by rw [← hmk, mkF_step _ hk, if_pos c_37]
        refine lv_iload_n hx hb d_MOD_fault_46 rfl (lv_at hl 3 rfl) ?_
        refine lv_bipush (v := 20) hx hb d_MOD_fault_47 (by decide) ?_
        refine lv_icmp_ne (tgt := 55) hx hb d_MOD_fault_49 (by decide) (fun c_49 => ?_) (fun c_49 => ?_)
        · have hk20 : k < 20 := nI_20 (by omega) c_49
          refine lv_iload_n hx hb d_MOD_fault_55 rfl (lv_at hl 3 rfl) ?_
          refine lv_aload_n hx hb d_MOD_fault_56 rfl (lv_at hl 0 rfl) ?_
          refine va_get (D := G.1) (ci := 6) (v := .int (nI nC)) (C := R_MOD) (T := T_MOD) (N := 25) hx hb hT in_MOD hown hK hP 0 rfl rfl 8 (by decide) (hT _ wd_590) (fun _ h9 => h9) rfl d_MOD_fault_57 ?_
          refine lv_icmp_ne (tgt := 80) hx hb d_MOD_fault_60 (by decide) (fun c_60 => ?_) (fun c_60 => ?_)
          · refine lv_aload_n hx hb d_MOD_fault_80 rfl (lv_at hl 0 rfl) ?_
            refine va_get (D := G.1) (ci := 6) (v := .ref z8) (C := R_MOD) (T := T_MOD) (N := 25) hx hb hT in_MOD hown hK hP 0 rfl rfl 10 (by decide) (hT _ wd_592) (fun _ h9 => h9) rfl d_MOD_fault_81 ?_
            refine lv_iload_n hx hb d_MOD_fault_84 rfl (lv_at hl 3 rfl) ?_
            refine lv_iload_n hx hb d_MOD_fault_85 rfl (lv_at hl 2 rfl) ?_
            refine va_zast hx hb hK hP hD hS 2 3 rfl rfl (vp_in_nI (by omega) (by omega)) d_MOD_fault_86 (fun H locs hP hD hS => ?_)
            rw [nI_clamp (by omega), bz.v (by assumption)] at hP hD
            have hP : va_P G.1 vwCl [(z0, .inr (6, [.int 0, .int (nI nM), .ref z1, .ref z2, .ref z3, .ref z4, .ref z5, .ref z6, .int (nI nC), .ref z7, .ref z8, .ref z9, .ref z10, .ref z11, .ref z12, .ref z13, .ref z14, .ref z15, .ref z16, .int cyc, .int li, .long me, .long mi, .int (nI sn), .ref z17])), (z7, .inl (G.2 2, 20, .inl gN)), (z8, .inl (G.2 3, 20, .inl (upd gO k onn)))] H := hP
            have hD : va_D A [(z0, .inr (6, [.int 0, .int (nI nM), .ref z1, .ref z2, .ref z3, .ref z4, .ref z5, .ref z6, .int (nI nC), .ref z7, .ref z8, .ref z9, .ref z10, .ref z11, .ref z12, .ref z13, .ref z14, .ref z15, .ref z16, .int cyc, .int li, .long me, .long mi, .int (nI sn), .ref z17])), (z7, .inl (G.2 2, 20, .inl gN)), (z8, .inl (G.2 3, 20, .inl (upd gO k onn)))] := hD
            refine lv_aload_n hx hb d_MOD_fault_87 rfl (lv_at hl 0 rfl) ?_
            refine va_get (D := G.1) (ci := 6) (v := .int (nI nC)) (C := R_MOD) (T := T_MOD) (N := 25) hx hb hT in_MOD hown hK hP 0 rfl rfl 8 (by decide) (hT _ wd_590) (fun _ h9 => h9) rfl d_MOD_fault_88 ?_
            have hw9 : ([(z0, .inr (6, [.int 0, .int (nI nM), .ref z1, .ref z2, .ref z3, .ref z4, .ref z5, .ref z6, .int (nI (mfN gN nu nC)), .ref z7, .ref z8, .ref z9, .ref z10, .ref z11, .ref z12, .ref z13, .ref z14, .ref z15, .ref z16, .int cyc, .int li, .long me, .long mi, .int (nI sn), .ref z17])), (z7, .inl (G.2 2, 20, .inl (mfA gN nu nC))), (z8, .inl (G.2 3, 20, .inl (mfO gN gO nu onn nC)))] : va_W) = [(z0, .inr (6, [.int 0, .int (nI nM), .ref z1, .ref z2, .ref z3, .ref z4, .ref z5, .ref z6, .int (nI nC), .ref z7, .ref z8, .ref z9, .ref z10, .ref z11, .ref z12, .ref z13, .ref z14, .ref z15, .ref z16, .int cyc, .int li, .long me, .long mi, .int (nI sn), .ref z17])), (z7, .inl (G.2 2, 20, .inl gN)), (z8, .inl (G.2 3, 20, .inl (upd gO k onn)))] := by first | (simp [mfR, mfN, mfA, mfO, mfOk, nI_1, hmk9, c_14, c_27, c_37, c_49, c_60]; done) | (simp_all [mfR, mfN, mfA, mfO, mfOk, nI_1]; done)
            rw [← hw9] at hP hD
            have hq9 : (.int (mfR gN nu nC)) = (.int (nI nC) : Value) := by first | (simp [mfR, mfN, mfA, mfO, mfOk, nI_1, hmk9, c_14, c_27, c_37, c_49, c_60]; done) | (simp_all [mfR, mfN, mfA, mfO, mfOk, nI_1]; done)
            exact W.iret (v := nI nC) hx hb hr (fun t ht hW => ⟨⟨by rw [hq9], by rw [ht]; exact hP, by rw [hAe]; exact hD⟩, by rw [hAe]; exact hS.F ht⟩) hS.2.2 d_MOD_fault_91
          · refine lv_aload_n hx hb d_MOD_fault_63 rfl (lv_at hl 0 rfl) ?_
            refine va_get (D := G.1) (ci := 6) (v := .ref z7) (C := R_MOD) (T := T_MOD) (N := 25) hx hb hT in_MOD hown hK hP 0 rfl rfl 9 (by decide) (hT _ wd_591) (fun _ h9 => h9) rfl d_MOD_fault_64 ?_
            refine lv_iload_n hx hb d_MOD_fault_67 rfl (lv_at hl 3 rfl) ?_
            refine lv_iload_n hx hb d_MOD_fault_68 rfl (lv_at hl 1 rfl) ?_
            refine va_iast hx hb hK hP hD hS 1 2 rfl rfl (vp_in_nI (by omega) (by omega)) d_MOD_fault_69 (fun H locs hP hD hS => ?_)
            rw [nI_clamp (by omega)] at hP hD
            have hP : va_P G.1 vwCl [(z0, .inr (6, [.int 0, .int (nI nM), .ref z1, .ref z2, .ref z3, .ref z4, .ref z5, .ref z6, .int (nI nC), .ref z7, .ref z8, .ref z9, .ref z10, .ref z11, .ref z12, .ref z13, .ref z14, .ref z15, .ref z16, .int cyc, .int li, .long me, .long mi, .int (nI sn), .ref z17])), (z7, .inl (G.2 2, 20, .inl (upd gN k nu))), (z8, .inl (G.2 3, 20, .inl gO))] H := hP
            have hD : va_D A [(z0, .inr (6, [.int 0, .int (nI nM), .ref z1, .ref z2, .ref z3, .ref z4, .ref z5, .ref z6, .int (nI nC), .ref z7, .ref z8, .ref z9, .ref z10, .ref z11, .ref z12, .ref z13, .ref z14, .ref z15, .ref z16, .int cyc, .int li, .long me, .long mi, .int (nI sn), .ref z17])), (z7, .inl (G.2 2, 20, .inl (upd gN k nu))), (z8, .inl (G.2 3, 20, .inl gO))] := hD
            refine lv_aload_n hx hb d_MOD_fault_70 rfl (lv_at hl 0 rfl) ?_
            refine lv_dup hx hb d_MOD_fault_71 rfl ?_
            refine va_get (D := G.1) (ci := 6) (v := .int (nI nC)) (C := R_MOD) (T := T_MOD) (N := 25) hx hb hT in_MOD hown hK hP 0 rfl rfl 8 (by decide) (hT _ wd_590) (fun _ h9 => h9) rfl d_MOD_fault_72 ?_
            refine lv_iconst (v := 1) hx hb d_MOD_fault_75 (by decide) ?_
            refine lv_iadd hx hb d_MOD_fault_76 ?_
            refine va_put (D := G.1) (ci := 6) (v := .int ((nI nC) + 1)) (ty := .int) (C := R_MOD) (T := T_MOD) (N := 25) hx hb hT in_MOD t_MOD tok_MOD nok_MOD hown hK hP hD hS 0 rfl rfl 8 (by decide) (hT _ wd_590) (fun _ h9 => h9) rfl (by decide +kernel) rfl rfl (Nat.le_of_ble_eq_true rfl) d_MOD_fault_77 (fun H locs hP hD hS => ?_)
            have hP : va_P G.1 vwCl [(z0, .inr (6, [.int 0, .int (nI nM), .ref z1, .ref z2, .ref z3, .ref z4, .ref z5, .ref z6, .int ((nI nC) + 1), .ref z7, .ref z8, .ref z9, .ref z10, .ref z11, .ref z12, .ref z13, .ref z14, .ref z15, .ref z16, .int cyc, .int li, .long me, .long mi, .int (nI sn), .ref z17])), (z7, .inl (G.2 2, 20, .inl (upd gN k nu))), (z8, .inl (G.2 3, 20, .inl gO))] H := hP
            have hD : va_D A [(z0, .inr (6, [.int 0, .int (nI nM), .ref z1, .ref z2, .ref z3, .ref z4, .ref z5, .ref z6, .int ((nI nC) + 1), .ref z7, .ref z8, .ref z9, .ref z10, .ref z11, .ref z12, .ref z13, .ref z14, .ref z15, .ref z16, .int cyc, .int li, .long me, .long mi, .int (nI sn), .ref z17])), (z7, .inl (G.2 2, 20, .inl (upd gN k nu))), (z8, .inl (G.2 3, 20, .inl gO))] := hD
            refine lv_aload_n hx hb d_MOD_fault_80 rfl (lv_at hl 0 rfl) ?_
            refine va_get (D := G.1) (ci := 6) (v := .ref z8) (C := R_MOD) (T := T_MOD) (N := 25) hx hb hT in_MOD hown hK hP 0 rfl rfl 10 (by decide) (hT _ wd_592) (fun _ h9 => h9) rfl d_MOD_fault_81 ?_
            refine lv_iload_n hx hb d_MOD_fault_84 rfl (lv_at hl 3 rfl) ?_
            refine lv_iload_n hx hb d_MOD_fault_85 rfl (lv_at hl 2 rfl) ?_
            refine va_zast hx hb hK hP hD hS 2 3 rfl rfl (vp_in_nI (by omega) (by omega)) d_MOD_fault_86 (fun H locs hP hD hS => ?_)
            rw [nI_clamp (by omega), bz.v (by assumption)] at hP hD
            have hP : va_P G.1 vwCl [(z0, .inr (6, [.int 0, .int (nI nM), .ref z1, .ref z2, .ref z3, .ref z4, .ref z5, .ref z6, .int ((nI nC) + 1), .ref z7, .ref z8, .ref z9, .ref z10, .ref z11, .ref z12, .ref z13, .ref z14, .ref z15, .ref z16, .int cyc, .int li, .long me, .long mi, .int (nI sn), .ref z17])), (z7, .inl (G.2 2, 20, .inl (upd gN k nu))), (z8, .inl (G.2 3, 20, .inl (upd gO k onn)))] H := hP
            have hD : va_D A [(z0, .inr (6, [.int 0, .int (nI nM), .ref z1, .ref z2, .ref z3, .ref z4, .ref z5, .ref z6, .int ((nI nC) + 1), .ref z7, .ref z8, .ref z9, .ref z10, .ref z11, .ref z12, .ref z13, .ref z14, .ref z15, .ref z16, .int cyc, .int li, .long me, .long mi, .int (nI sn), .ref z17])), (z7, .inl (G.2 2, 20, .inl (upd gN k nu))), (z8, .inl (G.2 3, 20, .inl (upd gO k onn)))] := hD
            refine lv_aload_n hx hb d_MOD_fault_87 rfl (lv_at hl 0 rfl) ?_
            refine va_get (D := G.1) (ci := 6) (v := .int ((nI nC) + 1)) (C := R_MOD) (T := T_MOD) (N := 25) hx hb hT in_MOD hown hK hP 0 rfl rfl 8 (by decide) (hT _ wd_590) (fun _ h9 => h9) rfl d_MOD_fault_88 ?_
            have hw9 : ([(z0, .inr (6, [.int 0, .int (nI nM), .ref z1, .ref z2, .ref z3, .ref z4, .ref z5, .ref z6, .int (nI (mfN gN nu nC)), .ref z7, .ref z8, .ref z9, .ref z10, .ref z11, .ref z12, .ref z13, .ref z14, .ref z15, .ref z16, .int cyc, .int li, .long me, .long mi, .int (nI sn), .ref z17])), (z7, .inl (G.2 2, 20, .inl (mfA gN nu nC))), (z8, .inl (G.2 3, 20, .inl (mfO gN gO nu onn nC)))] : va_W) = [(z0, .inr (6, [.int 0, .int (nI nM), .ref z1, .ref z2, .ref z3, .ref z4, .ref z5, .ref z6, .int ((nI nC) + 1), .ref z7, .ref z8, .ref z9, .ref z10, .ref z11, .ref z12, .ref z13, .ref z14, .ref z15, .ref z16, .int cyc, .int li, .long me, .long mi, .int (nI sn), .ref z17])), (z7, .inl (G.2 2, 20, .inl (upd gN k nu))), (z8, .inl (G.2 3, 20, .inl (upd gO k onn)))] := by first | (simp [mfR, mfN, mfA, mfO, mfOk, nI_1, hmk9, c_14, c_27, c_37, c_49, c_60]; done) | (simp_all [mfR, mfN, mfA, mfO, mfOk, nI_1]; done)
            rw [← hw9] at hP hD
            have hq9 : (.int (mfR gN nu nC)) = (.int ((nI nC) + 1) : Value) := by first | (simp [mfR, mfN, mfA, mfO, mfOk, nI_1, hmk9, c_14, c_27, c_37, c_49, c_60]; done) | (simp_all [mfR, mfN, mfA, mfO, mfOk, nI_1]; done)
            exact W.iret (v := (nI nC) + 1) hx hb hr (fun t ht hW => ⟨⟨by rw [hq9], by rw [ht]; exact hP, by rw [hAe]; exact hD⟩, by rw [hAe]; exact hS.F ht⟩) hS.2.2 d_MOD_fault_91
        · refine lv_bipush (v := (-4)) hx hb d_MOD_fault_52 (by decide) ?_
          have hw9 : ([(z0, .inr (6, [.int 0, .int (nI nM), .ref z1, .ref z2, .ref z3, .ref z4, .ref z5, .ref z6, .int (nI (mfN gN nu nC)), .ref z7, .ref z8, .ref z9, .ref z10, .ref z11, .ref z12, .ref z13, .ref z14, .ref z15, .ref z16, .int cyc, .int li, .long me, .long mi, .int (nI sn), .ref z17])), (z7, .inl (G.2 2, 20, .inl (mfA gN nu nC))), (z8, .inl (G.2 3, 20, .inl (mfO gN gO nu onn nC)))] : va_W) = [(z0, .inr (6, [.int 0, .int (nI nM), .ref z1, .ref z2, .ref z3, .ref z4, .ref z5, .ref z6, .int (nI nC), .ref z7, .ref z8, .ref z9, .ref z10, .ref z11, .ref z12, .ref z13, .ref z14, .ref z15, .ref z16, .int cyc, .int li, .long me, .long mi, .int (nI sn), .ref z17])), (z7, .inl (G.2 2, 20, .inl gN)), (z8, .inl (G.2 3, 20, .inl gO))] := by first | (simp [mfR, mfN, mfA, mfO, mfOk, nI_1, hmk9, c_14, c_27, c_37, c_49]; done) | (simp_all [mfR, mfN, mfA, mfO, mfOk, nI_1]; done)
          rw [← hw9] at hP hD
          have hq9 : (.int (mfR gN nu nC)) = (.int (-4) : Value) := by first | (simp [mfR, mfN, mfA, mfO, mfOk, nI_1, hmk9, c_14, c_27, c_37, c_49]; done) | (simp_all [mfR, mfN, mfA, mfO, mfOk, nI_1]; done)
          exact W.iret (v := (-4)) hx hb hr (fun t ht hW => ⟨⟨by rw [hq9], by rw [ht]; exact hP, by rw [hAe]; exact hD⟩, by rw [hAe]; exact hS.F ht⟩) hS.2.2 d_MOD_fault_54
      · refine lv_iinc (v := nI (k + 1)) (lv' := [(3, .int (nI (k + 1))), (0, .ref z0), (1, .int nu), (2, .int onn)]) hx hb d_MOD_fault_40 hl (k := 3) rfl (nI_succ _).symm (by decide) rfl (fun ls hl => ?_)
        refine lv_goto (tgt := 22) hx hb d_MOD_fault_43 (by decide) ?_
        exact ih (k + 1) _ _ _ ⟨hk, by rw [← hmk, mkF_step _ hk, if_neg c_37], hP, hD, hS, lv_sub hl [1, 2, 3, 0] rfl⟩ (by show nC - (k + 1) < nC - k; omega)
  · refine lv_bipush (v := (-2)) hx hb d_MOD_fault_17 (by decide) ?_
    have hw9 : ([(z0, .inr (6, [.int 0, .int (nI nM), .ref z1, .ref z2, .ref z3, .ref z4, .ref z5, .ref z6, .int (nI (mfN gN nu nC)), .ref z7, .ref z8, .ref z9, .ref z10, .ref z11, .ref z12, .ref z13, .ref z14, .ref z15, .ref z16, .int cyc, .int li, .long me, .long mi, .int (nI sn), .ref z17])), (z7, .inl (G.2 2, 20, .inl (mfA gN nu nC))), (z8, .inl (G.2 3, 20, .inl (mfO gN gO nu onn nC)))] : va_W) = [(z0, .inr (6, [.int 0, .int (nI nM), .ref z1, .ref z2, .ref z3, .ref z4, .ref z5, .ref z6, .int (nI nC), .ref z7, .ref z8, .ref z9, .ref z10, .ref z11, .ref z12, .ref z13, .ref z14, .ref z15, .ref z16, .int cyc, .int li, .long me, .long mi, .int (nI sn), .ref z17])), (z7, .inl (G.2 2, 20, .inl gN)), (z8, .inl (G.2 3, 20, .inl gO))] := by first | (simp [mfR, mfN, mfA, mfO, mfOk, c_14]; done) | (simp_all [mfR, mfN, mfA, mfO, mfOk]; done)
    rw [← hw9] at hP hD
    have hq9 : (.int (mfR gN nu nC)) = (.int (-2) : Value) := by first | (simp [mfR, mfN, mfA, mfO, mfOk, c_14]; done) | (simp_all [mfR, mfN, mfA, mfO, mfOk]; done)
    exact W.iret (v := (-2)) hx hb hr (fun t ht hW => ⟨⟨by rw [hq9], by rw [ht]; exact hP, by rw [hAe]; exact hD⟩, by rw [hAe]; exact hS.F ht⟩) hS.2.2 d_MOD_fault_19
set_option maxHeartbeats 4000000 in
set_option maxRecDepth 100000 in
theorem c_mclear (l : Launch) (G : GG) (sz : Nat) (z0 : Nat) (z1 : Nat) (z2 : Nat) (z3 : Nat) (z4 : Nat) (z5 : Nat) (z6 : Nat) (z7 : Nat) (z8 : Nat) (z9 : Nat) (z10 : Nat) (z11 : Nat) (z12 : Nat) (z13 : Nat) (z14 : Nat) (z15 : Nat) (z16 : Nat) (z17 : Nat) (cdv : Int32) (cyc : Int32) (li : Int32) (nM : Nat) (nC : Nat) (sn : Nat) (me : Int64) (mi : Int64) (gP : Nat → Int32) (gQ : Nat → Int32) (gF : Nat → Int32) (gW : Nat → Int32) (fY : Nat → Int32) (hn : nC ≤ 20) (hm : nM ≤ 16) : Met l y_MOD_clear w_MOD_clear ({ frames := 1, cells := 0, slots := 0, locals := 22 }) (va_Pc [.ref z0] (Pw G sz [(z0, .inr (6, [.int cdv, .int (nI nM), .ref z1, .ref z2, .ref z3, .ref z4, .ref z5, .ref z6, .int (nI nC), .ref z7, .ref z8, .ref z9, .ref z10, .ref z11, .ref z12, .ref z13, .ref z14, .ref z15, .ref z16, .int cyc, .int li, .long me, .long mi, .int (nI sn), .ref z17])), (z9, .inl (G.2 3, 20, .inl gP)), (z10, .inl (G.2 3, 20, .inl gQ)), (z12, .inl (G.2 2, 20, .inl gF)), (z14, .inl (G.2 3, 20, .inl gW)), (z6, .inl (G.2 3, 16, .inl fY))])) (QW G (some (.int (mcnt gQ nC))) [(z0, .inr (6, [.int cdv, .int (nI nM), .ref z1, .ref z2, .ref z3, .ref z4, .ref z5, .ref z6, .int (nI nC), .ref z7, .ref z8, .ref z9, .ref z10, .ref z11, .ref z12, .ref z13, .ref z14, .ref z15, .ref z16, .int cyc, .int li, .long me, .long mi, .int (nI sn), .ref z17])), (z9, .inl (G.2 3, 20, .inl gP)), (z10, .inl (G.2 3, 20, .inl gQ)), (z12, .inl (G.2 2, 20, .inl gF)), (z14, .inl (G.2 3, 20, .inl gW)), (z6, .inl (G.2 3, 16, .inl fY))] [(z0, .inr (6, [.int 0, .int (nI nM), .ref z1, .ref z2, .ref z3, .ref z4, .ref z5, .ref z6, .int (nI nC), .ref z7, .ref z8, .ref z9, .ref z10, .ref z11, .ref z12, .ref z13, .ref z14, .ref z15, .ref z16, .int cyc, .int 0, .long 0, .long 0, .int (nI sn), .ref z17])), (z9, .inl (G.2 3, 20, .inl (zk gP nC))), (z10, .inl (G.2 3, 20, .inl (zk gQ nC))), (z12, .inl (G.2 2, 20, .inl (zk gF nC))), (z14, .inl (G.2 3, 20, .inl (zk gW nC))), (z6, .inl (G.2 3, 16, .inl (zk fY nM)))] sz) 0 0 (va_A [(z0, .inr (6, [.int cdv, .int (nI nM), .ref z1, .ref z2, .ref z3, .ref z4, .ref z5, .ref z6, .int (nI nC), .ref z7, .ref z8, .ref z9, .ref z10, .ref z11, .ref z12, .ref z13, .ref z14, .ref z15, .ref z16, .int cyc, .int li, .long me, .long mi, .int (nI sn), .ref z17])), (z9, .inl (G.2 3, 20, .inl gP)), (z10, .inl (G.2 3, 20, .inl gQ)), (z12, .inl (G.2 2, 20, .inl gF)), (z14, .inl (G.2 3, 20, .inl gW)), (z6, .inl (G.2 3, 16, .inl fY))] sz) := by
  refine Met.ofW (cc := b_MOD_clear) (maxL := 3) (ret := (some .int)) (by decide) rfl ?_
  intro p e s m args below meth c s₁ B hml hv
  obtain ⟨rfl, hsz, hP, hGK, hD0⟩ := hv
  have hx := B.exec
  have hb := B.bytes
  have hr := B.returns
  have hts := atoms_spec (ws := w_MOD_clear) B.pre
  have hT : ∀ w ∈ lwG, w.before _ s = true := fun w h => hts w (List.mem_cons_of_mem _ h)
  have hown : s.vm.findClass R_MOD = some m.cls := findClass_of_methodNamed B.named
  have hlocks := B.notSynchronized
  have hK := hGK.1
  have hN := hGK.2
  subst hsz
  have hD := hD0.self (sz := s.heap.size)
  generalize hAe : va_A [(z0, .inr (6, [.int cdv, .int (nI nM), .ref z1, .ref z2, .ref z3, .ref z4, .ref z5, .ref z6, .int (nI nC), .ref z7, .ref z8, .ref z9, .ref z10, .ref z11, .ref z12, .ref z13, .ref z14, .ref z15, .ref z16, .int cyc, .int li, .long me, .long mi, .int (nI sn), .ref z17])), (z9, .inl (G.2 3, 20, .inl gP)), (z10, .inl (G.2 3, 20, .inl gQ)), (z12, .inl (G.2 2, 20, .inl gF)), (z14, .inl (G.2 3, 20, .inl gW)), (z6, .inl (G.2 3, 16, .inl fY))] s.heap.size = A at hD ⊢
  have hA : ∀ q : Nat, s.heap.size ≤ q → A q := fun q h => by rw [← hAe]; exact Or.inr h
  have hS : va_S A s.heap s.heap [] := va_S.rf
  have hP : va_P G.1 vwCl [(z0, .inr (6, [.int cdv, .int (nI nM), .ref z1, .ref z2, .ref z3, .ref z4, .ref z5, .ref z6, .int (nI nC), .ref z7, .ref z8, .ref z9, .ref z10, .ref z11, .ref z12, .ref z13, .ref z14, .ref z15, .ref z16, .int cyc, .int li, .long me, .long mi, .int (nI sn), .ref z17])), (z9, .inl (G.2 3, 20, .inl gP)), (z10, .inl (G.2 3, 20, .inl gQ)), (z12, .inl (G.2 2, 20, .inl gF)), (z14, .inl (G.2 3, 20, .inl gW)), (z6, .inl (G.2 3, 16, .inl fY))] s.heap := hP
  have hl := lv_entry ([.ref z0]) (n := 3) (Nat.le_of_ble_eq_true rfl)
  rw [lg_entry_eq]
  generalize (lg_sl ([.ref z0]) ++ List.replicate (3 - (lg_sl ([.ref z0])).length) Slot.unset).toArray = ls at hl ⊢
  have hl : lv_has ls 3 [(0, .ref z0)] := hl
  refine lv_aload_n hx hb d_MOD_clear_0 rfl (lv_at hl 0 rfl) ?_
  refine lv_iconst (v := 0) hx hb d_MOD_clear_1 (by decide) ?_
  refine va_put (D := G.1) (ci := 6) (v := .int 0) (ty := .int) (C := R_MOD) (T := T_MOD) (N := 25) hx hb hT in_MOD t_MOD tok_MOD nok_MOD hown hK hP hD hS 0 rfl rfl 0 (by decide) (hT _ wd_582) (fun _ h9 => h9) rfl (by decide +kernel) rfl rfl (Nat.le_of_ble_eq_true rfl) d_MOD_clear_2 (fun H locs hP hD hS => ?_)
  have hP : va_P G.1 vwCl [(z0, .inr (6, [.int 0, .int (nI nM), .ref z1, .ref z2, .ref z3, .ref z4, .ref z5, .ref z6, .int (nI nC), .ref z7, .ref z8, .ref z9, .ref z10, .ref z11, .ref z12, .ref z13, .ref z14, .ref z15, .ref z16, .int cyc, .int li, .long me, .long mi, .int (nI sn), .ref z17])), (z9, .inl (G.2 3, 20, .inl gP)), (z10, .inl (G.2 3, 20, .inl gQ)), (z12, .inl (G.2 2, 20, .inl gF)), (z14, .inl (G.2 3, 20, .inl gW)), (z6, .inl (G.2 3, 16, .inl fY))] H := hP
  have hD : va_D A [(z0, .inr (6, [.int 0, .int (nI nM), .ref z1, .ref z2, .ref z3, .ref z4, .ref z5, .ref z6, .int (nI nC), .ref z7, .ref z8, .ref z9, .ref z10, .ref z11, .ref z12, .ref z13, .ref z14, .ref z15, .ref z16, .int cyc, .int li, .long me, .long mi, .int (nI sn), .ref z17])), (z9, .inl (G.2 3, 20, .inl gP)), (z10, .inl (G.2 3, 20, .inl gQ)), (z12, .inl (G.2 2, 20, .inl gF)), (z14, .inl (G.2 3, 20, .inl gW)), (z6, .inl (G.2 3, 16, .inl fY))] := hD
  refine lv_aload_n hx hb d_MOD_clear_5 rfl (lv_at hl 0 rfl) ?_
  have hPc := hP.sub (ws' := [(z0, .inr (6, [.int 0, .int (nI nM), .ref z1, .ref z2, .ref z3, .ref z4, .ref z5, .ref z6, .int (nI nC), .ref z7, .ref z8, .ref z9, .ref z10, .ref z11, .ref z12, .ref z13, .ref z14, .ref z15, .ref z16, .int cyc, .int li, .long me, .long mi, .int (nI sn), .ref z17])), (z10, .inl (G.2 3, 20, .inl gQ))]) [0, 2] rfl
  refine bx_callV (W.runV (As := []) (rest := []) ⟨hx, hb, hml, hown, hts⟩ (c_confirmedCodes l G z0 z1 z2 z3 z4 z5 z6 z7 z8 z9 z10 z11 z12 z13 z14 z15 z16 z17 0 cyc li nM nC sn me mi gQ (by assumption)) ⟨(callB_of 0 hts (gi_all wd_701) rfl rfl rfl (hT _ wd_51) (hT _ wd_698) (by decide +kernel) ⟨Nat.le_of_ble_eq_true rfl, Nat.le_of_ble_eq_true rfl⟩), (hT _ wd_700), (hT _ wd_37)⟩ (pvR hPc hGK (va_recv hK hPc (ci := 6) (q0 := 0) rfl rfl)) rfl rfl hl.1 rfl (lv_room (Nat.le_of_ble_eq_true rfl)) d_MOD_clear_6 ⟨Nat.le_of_ble_eq_true rfl, Nat.le_of_ble_eq_true rfl⟩) ?_
  refine lv_istore_n (lv' := [(1, .int (mcnt gQ nC)), (0, .ref z0)]) hx hb d_MOD_clear_9 rfl hl (by decide) rfl (fun ls hl => ?_)
  refine lv_iconst (v := 0) hx hb d_MOD_clear_10 (by decide) ?_
  refine lv_istore_n (lv' := [(2, .int 0), (1, .int (mcnt gQ nC)), (0, .ref z0)]) hx hb d_MOD_clear_11 rfl hl (by decide) rfl (fun ls hl => ?_)
  refine bx_loop (σ := Nat) (fun q H locs ls => q ≤ nC ∧ va_P G.1 vwCl [(z0, .inr (6, [.int 0, .int (nI nM), .ref z1, .ref z2, .ref z3, .ref z4, .ref z5, .ref z6, .int (nI nC), .ref z7, .ref z8, .ref z9, .ref z10, .ref z11, .ref z12, .ref z13, .ref z14, .ref z15, .ref z16, .int cyc, .int li, .long me, .long mi, .int (nI sn), .ref z17])), (z9, .inl (G.2 3, 20, .inl (zk gP q))), (z10, .inl (G.2 3, 20, .inl (zk gQ q))), (z12, .inl (G.2 2, 20, .inl (zk gF q))), (z14, .inl (G.2 3, 20, .inl (zk gW q))), (z6, .inl (G.2 3, 16, .inl fY))] H ∧ va_D A [(z0, .inr (6, [.int 0, .int (nI nM), .ref z1, .ref z2, .ref z3, .ref z4, .ref z5, .ref z6, .int (nI nC), .ref z7, .ref z8, .ref z9, .ref z10, .ref z11, .ref z12, .ref z13, .ref z14, .ref z15, .ref z16, .int cyc, .int li, .long me, .long mi, .int (nI sn), .ref z17])), (z9, .inl (G.2 3, 20, .inl (zk gP q))), (z10, .inl (G.2 3, 20, .inl (zk gQ q))), (z12, .inl (G.2 2, 20, .inl (zk gF q))), (z14, .inl (G.2 3, 20, .inl (zk gW q))), (z6, .inl (G.2 3, 16, .inl fY))] ∧ va_S A s.heap H locs ∧ lv_has ls 3 [(0, .ref z0), (1, .int (mcnt gQ nC)), (2, .int (nI q))]) (fun q => nC - q) _ (fun q H locs ls hI ih => ?_) 0 ls ⟨Nat.zero_le _, by rw [zk_zero, zk_zero, zk_zero, zk_zero]; exact hP, by rw [zk_zero, zk_zero, zk_zero, zk_zero]; exact hD, hS, lv_sub hl [2, 1, 0] rfl⟩
  revert hI ih; generalize q = k; intro hI ih
  obtain ⟨hknk, hP, hD, hS, hl⟩ := hI
  have hknk : k ≤ nC := hknk
  have hP : va_P G.1 vwCl [(z0, .inr (6, [.int 0, .int (nI nM), .ref z1, .ref z2, .ref z3, .ref z4, .ref z5, .ref z6, .int (nI nC), .ref z7, .ref z8, .ref z9, .ref z10, .ref z11, .ref z12, .ref z13, .ref z14, .ref z15, .ref z16, .int cyc, .int li, .long me, .long mi, .int (nI sn), .ref z17])), (z9, .inl (G.2 3, 20, .inl (zk gP k))), (z10, .inl (G.2 3, 20, .inl (zk gQ k))), (z12, .inl (G.2 2, 20, .inl (zk gF k))), (z14, .inl (G.2 3, 20, .inl (zk gW k))), (z6, .inl (G.2 3, 16, .inl fY))] H := hP
  have hD : va_D A [(z0, .inr (6, [.int 0, .int (nI nM), .ref z1, .ref z2, .ref z3, .ref z4, .ref z5, .ref z6, .int (nI nC), .ref z7, .ref z8, .ref z9, .ref z10, .ref z11, .ref z12, .ref z13, .ref z14, .ref z15, .ref z16, .int cyc, .int li, .long me, .long mi, .int (nI sn), .ref z17])), (z9, .inl (G.2 3, 20, .inl (zk gP k))), (z10, .inl (G.2 3, 20, .inl (zk gQ k))), (z12, .inl (G.2 2, 20, .inl (zk gF k))), (z14, .inl (G.2 3, 20, .inl (zk gW k))), (z6, .inl (G.2 3, 16, .inl fY))] := hD
  have hl : lv_has ls 3 [(0, .ref z0), (1, .int (mcnt gQ nC)), (2, .int (nI k))] := hl
  refine lv_iload_n hx hb d_MOD_clear_12 rfl (lv_at hl 2 rfl) ?_
  refine lv_aload_n hx hb d_MOD_clear_13 rfl (lv_at hl 0 rfl) ?_
  refine va_get (D := G.1) (ci := 6) (v := .int (nI nC)) (C := R_MOD) (T := T_MOD) (N := 25) hx hb hT in_MOD hown hK hP 0 rfl rfl 8 (by decide) (hT _ wd_590) (fun _ h9 => h9) rfl d_MOD_clear_14 ?_
  refine lv_icmp_ge (tgt := 54) hx hb d_MOD_clear_17 (by decide) (fun c_17 => ?_) (fun c_17 => ?_)
  · have hge : nC ≤ k := (nI_leI (by omega) (by omega)).mp c_17
    have hke : k = nC := by omega
    rw [hke] at hP hD
    have hP : va_P G.1 vwCl [(z0, .inr (6, [.int 0, .int (nI nM), .ref z1, .ref z2, .ref z3, .ref z4, .ref z5, .ref z6, .int (nI nC), .ref z7, .ref z8, .ref z9, .ref z10, .ref z11, .ref z12, .ref z13, .ref z14, .ref z15, .ref z16, .int cyc, .int li, .long me, .long mi, .int (nI sn), .ref z17])), (z9, .inl (G.2 3, 20, .inl (zk gP nC))), (z10, .inl (G.2 3, 20, .inl (zk gQ nC))), (z12, .inl (G.2 2, 20, .inl (zk gF nC))), (z14, .inl (G.2 3, 20, .inl (zk gW nC))), (z6, .inl (G.2 3, 16, .inl fY))] H := hP
    have hD : va_D A [(z0, .inr (6, [.int 0, .int (nI nM), .ref z1, .ref z2, .ref z3, .ref z4, .ref z5, .ref z6, .int (nI nC), .ref z7, .ref z8, .ref z9, .ref z10, .ref z11, .ref z12, .ref z13, .ref z14, .ref z15, .ref z16, .int cyc, .int li, .long me, .long mi, .int (nI sn), .ref z17])), (z9, .inl (G.2 3, 20, .inl (zk gP nC))), (z10, .inl (G.2 3, 20, .inl (zk gQ nC))), (z12, .inl (G.2 2, 20, .inl (zk gF nC))), (z14, .inl (G.2 3, 20, .inl (zk gW nC))), (z6, .inl (G.2 3, 16, .inl fY))] := hD
    refine lv_iconst (v := 0) hx hb d_MOD_clear_54 (by decide) ?_
    refine lv_istore_n (lv' := [(2, .int 0), (0, .ref z0), (1, .int (mcnt gQ nC))]) hx hb d_MOD_clear_55 rfl hl (by decide) rfl (fun ls hl => ?_)
    refine bx_loop (σ := Nat) (fun q H locs ls => q ≤ nM ∧ va_P G.1 vwCl [(z0, .inr (6, [.int 0, .int (nI nM), .ref z1, .ref z2, .ref z3, .ref z4, .ref z5, .ref z6, .int (nI nC), .ref z7, .ref z8, .ref z9, .ref z10, .ref z11, .ref z12, .ref z13, .ref z14, .ref z15, .ref z16, .int cyc, .int li, .long me, .long mi, .int (nI sn), .ref z17])), (z9, .inl (G.2 3, 20, .inl (zk gP nC))), (z10, .inl (G.2 3, 20, .inl (zk gQ nC))), (z12, .inl (G.2 2, 20, .inl (zk gF nC))), (z14, .inl (G.2 3, 20, .inl (zk gW nC))), (z6, .inl (G.2 3, 16, .inl (zk fY q)))] H ∧ va_D A [(z0, .inr (6, [.int 0, .int (nI nM), .ref z1, .ref z2, .ref z3, .ref z4, .ref z5, .ref z6, .int (nI nC), .ref z7, .ref z8, .ref z9, .ref z10, .ref z11, .ref z12, .ref z13, .ref z14, .ref z15, .ref z16, .int cyc, .int li, .long me, .long mi, .int (nI sn), .ref z17])), (z9, .inl (G.2 3, 20, .inl (zk gP nC))), (z10, .inl (G.2 3, 20, .inl (zk gQ nC))), (z12, .inl (G.2 2, 20, .inl (zk gF nC))), (z14, .inl (G.2 3, 20, .inl (zk gW nC))), (z6, .inl (G.2 3, 16, .inl (zk fY q)))] ∧ va_S A s.heap H locs ∧ lv_has ls 3 [(0, .ref z0), (1, .int (mcnt gQ nC)), (2, .int (nI q))]) (fun q => nM - q) _ (fun q H locs ls hI ih => ?_) 0 ls ⟨Nat.zero_le _, by rw [zk_zero]; exact hP, by rw [zk_zero]; exact hD, hS, lv_sub hl [1, 2, 0] rfl⟩
    revert hI ih; generalize q = k2; intro hI ih
    obtain ⟨hknk2, hP, hD, hS, hl⟩ := hI
    have hknk2 : k2 ≤ nM := hknk2
    have hP : va_P G.1 vwCl [(z0, .inr (6, [.int 0, .int (nI nM), .ref z1, .ref z2, .ref z3, .ref z4, .ref z5, .ref z6, .int (nI nC), .ref z7, .ref z8, .ref z9, .ref z10, .ref z11, .ref z12, .ref z13, .ref z14, .ref z15, .ref z16, .int cyc, .int li, .long me, .long mi, .int (nI sn), .ref z17])), (z9, .inl (G.2 3, 20, .inl (zk gP nC))), (z10, .inl (G.2 3, 20, .inl (zk gQ nC))), (z12, .inl (G.2 2, 20, .inl (zk gF nC))), (z14, .inl (G.2 3, 20, .inl (zk gW nC))), (z6, .inl (G.2 3, 16, .inl (zk fY k2)))] H := hP
    have hD : va_D A [(z0, .inr (6, [.int 0, .int (nI nM), .ref z1, .ref z2, .ref z3, .ref z4, .ref z5, .ref z6, .int (nI nC), .ref z7, .ref z8, .ref z9, .ref z10, .ref z11, .ref z12, .ref z13, .ref z14, .ref z15, .ref z16, .int cyc, .int li, .long me, .long mi, .int (nI sn), .ref z17])), (z9, .inl (G.2 3, 20, .inl (zk gP nC))), (z10, .inl (G.2 3, 20, .inl (zk gQ nC))), (z12, .inl (G.2 2, 20, .inl (zk gF nC))), (z14, .inl (G.2 3, 20, .inl (zk gW nC))), (z6, .inl (G.2 3, 16, .inl (zk fY k2)))] := hD
    have hl : lv_has ls 3 [(0, .ref z0), (1, .int (mcnt gQ nC)), (2, .int (nI k2))] := hl
    refine lv_iload_n hx hb d_MOD_clear_56 rfl (lv_at hl 2 rfl) ?_
    refine lv_aload_n hx hb d_MOD_clear_57 rfl (lv_at hl 0 rfl) ?_
    refine va_get (D := G.1) (ci := 6) (v := .int (nI nM)) (C := R_MOD) (T := T_MOD) (N := 25) hx hb hT in_MOD hown hK hP 0 rfl rfl 1 (by decide) (hT _ wd_583) (fun _ h9 => h9) rfl d_MOD_clear_58 ?_
    refine lv_icmp_ge (tgt := 77) hx hb d_MOD_clear_61 (by decide) (fun c_61 => ?_) (fun c_61 => ?_)
    · have hge : nM ≤ k2 := (nI_leI (by omega) (by omega)).mp c_61
      have hk2e : k2 = nM := by omega
      rw [hk2e] at hP hD
      have hP : va_P G.1 vwCl [(z0, .inr (6, [.int 0, .int (nI nM), .ref z1, .ref z2, .ref z3, .ref z4, .ref z5, .ref z6, .int (nI nC), .ref z7, .ref z8, .ref z9, .ref z10, .ref z11, .ref z12, .ref z13, .ref z14, .ref z15, .ref z16, .int cyc, .int li, .long me, .long mi, .int (nI sn), .ref z17])), (z9, .inl (G.2 3, 20, .inl (zk gP nC))), (z10, .inl (G.2 3, 20, .inl (zk gQ nC))), (z12, .inl (G.2 2, 20, .inl (zk gF nC))), (z14, .inl (G.2 3, 20, .inl (zk gW nC))), (z6, .inl (G.2 3, 16, .inl (zk fY nM)))] H := hP
      have hD : va_D A [(z0, .inr (6, [.int 0, .int (nI nM), .ref z1, .ref z2, .ref z3, .ref z4, .ref z5, .ref z6, .int (nI nC), .ref z7, .ref z8, .ref z9, .ref z10, .ref z11, .ref z12, .ref z13, .ref z14, .ref z15, .ref z16, .int cyc, .int li, .long me, .long mi, .int (nI sn), .ref z17])), (z9, .inl (G.2 3, 20, .inl (zk gP nC))), (z10, .inl (G.2 3, 20, .inl (zk gQ nC))), (z12, .inl (G.2 2, 20, .inl (zk gF nC))), (z14, .inl (G.2 3, 20, .inl (zk gW nC))), (z6, .inl (G.2 3, 16, .inl (zk fY nM)))] := hD
      refine lv_aload_n hx hb d_MOD_clear_77 rfl (lv_at hl 0 rfl) ?_
      refine lv_iconst (v := 0) hx hb d_MOD_clear_78 (by decide) ?_
      refine va_put (D := G.1) (ci := 6) (v := .int 0) (ty := .boolean) (C := R_MOD) (T := T_MOD) (N := 25) hx hb hT in_MOD t_MOD tok_MOD nok_MOD hown hK hP hD hS 0 rfl rfl 20 (by decide) (hT _ wd_602) (fun _ h9 => h9) rfl (by decide +kernel) rfl rfl (Nat.le_of_ble_eq_true rfl) d_MOD_clear_79 (fun H locs hP hD hS => ?_)
      have hP : va_P G.1 vwCl [(z0, .inr (6, [.int 0, .int (nI nM), .ref z1, .ref z2, .ref z3, .ref z4, .ref z5, .ref z6, .int (nI nC), .ref z7, .ref z8, .ref z9, .ref z10, .ref z11, .ref z12, .ref z13, .ref z14, .ref z15, .ref z16, .int cyc, .int 0, .long me, .long mi, .int (nI sn), .ref z17])), (z9, .inl (G.2 3, 20, .inl (zk gP nC))), (z10, .inl (G.2 3, 20, .inl (zk gQ nC))), (z12, .inl (G.2 2, 20, .inl (zk gF nC))), (z14, .inl (G.2 3, 20, .inl (zk gW nC))), (z6, .inl (G.2 3, 16, .inl (zk fY nM)))] H := hP
      have hD : va_D A [(z0, .inr (6, [.int 0, .int (nI nM), .ref z1, .ref z2, .ref z3, .ref z4, .ref z5, .ref z6, .int (nI nC), .ref z7, .ref z8, .ref z9, .ref z10, .ref z11, .ref z12, .ref z13, .ref z14, .ref z15, .ref z16, .int cyc, .int 0, .long me, .long mi, .int (nI sn), .ref z17])), (z9, .inl (G.2 3, 20, .inl (zk gP nC))), (z10, .inl (G.2 3, 20, .inl (zk gQ nC))), (z12, .inl (G.2 2, 20, .inl (zk gF nC))), (z14, .inl (G.2 3, 20, .inl (zk gW nC))), (z6, .inl (G.2 3, 16, .inl (zk fY nM)))] := hD
      refine lv_aload_n hx hb d_MOD_clear_82 rfl (lv_at hl 0 rfl) ?_
      refine lv_lconst (v := 0) hx hb d_MOD_clear_83 (by decide) ?_
      refine va_put (D := G.1) (ci := 6) (v := .long 0) (ty := .long) (C := R_MOD) (T := T_MOD) (N := 25) hx hb hT in_MOD t_MOD tok_MOD nok_MOD hown hK hP hD hS 0 rfl rfl 21 (by decide) (hT _ wd_603) (fun _ h9 => h9) rfl (by decide +kernel) rfl rfl (Nat.le_of_ble_eq_true rfl) d_MOD_clear_84 (fun H locs hP hD hS => ?_)
      have hP : va_P G.1 vwCl [(z0, .inr (6, [.int 0, .int (nI nM), .ref z1, .ref z2, .ref z3, .ref z4, .ref z5, .ref z6, .int (nI nC), .ref z7, .ref z8, .ref z9, .ref z10, .ref z11, .ref z12, .ref z13, .ref z14, .ref z15, .ref z16, .int cyc, .int 0, .long 0, .long mi, .int (nI sn), .ref z17])), (z9, .inl (G.2 3, 20, .inl (zk gP nC))), (z10, .inl (G.2 3, 20, .inl (zk gQ nC))), (z12, .inl (G.2 2, 20, .inl (zk gF nC))), (z14, .inl (G.2 3, 20, .inl (zk gW nC))), (z6, .inl (G.2 3, 16, .inl (zk fY nM)))] H := hP
      have hD : va_D A [(z0, .inr (6, [.int 0, .int (nI nM), .ref z1, .ref z2, .ref z3, .ref z4, .ref z5, .ref z6, .int (nI nC), .ref z7, .ref z8, .ref z9, .ref z10, .ref z11, .ref z12, .ref z13, .ref z14, .ref z15, .ref z16, .int cyc, .int 0, .long 0, .long mi, .int (nI sn), .ref z17])), (z9, .inl (G.2 3, 20, .inl (zk gP nC))), (z10, .inl (G.2 3, 20, .inl (zk gQ nC))), (z12, .inl (G.2 2, 20, .inl (zk gF nC))), (z14, .inl (G.2 3, 20, .inl (zk gW nC))), (z6, .inl (G.2 3, 16, .inl (zk fY nM)))] := hD
      refine lv_aload_n hx hb d_MOD_clear_87 rfl (lv_at hl 0 rfl) ?_
      refine lv_lconst (v := 0) hx hb d_MOD_clear_88 (by decide) ?_
      refine va_put (D := G.1) (ci := 6) (v := .long 0) (ty := .long) (C := R_MOD) (T := T_MOD) (N := 25) hx hb hT in_MOD t_MOD tok_MOD nok_MOD hown hK hP hD hS 0 rfl rfl 22 (by decide) (hT _ wd_604) (fun _ h9 => h9) rfl (by decide +kernel) rfl rfl (Nat.le_of_ble_eq_true rfl) d_MOD_clear_89 (fun H locs hP hD hS => ?_)
      have hP : va_P G.1 vwCl [(z0, .inr (6, [.int 0, .int (nI nM), .ref z1, .ref z2, .ref z3, .ref z4, .ref z5, .ref z6, .int (nI nC), .ref z7, .ref z8, .ref z9, .ref z10, .ref z11, .ref z12, .ref z13, .ref z14, .ref z15, .ref z16, .int cyc, .int 0, .long 0, .long 0, .int (nI sn), .ref z17])), (z9, .inl (G.2 3, 20, .inl (zk gP nC))), (z10, .inl (G.2 3, 20, .inl (zk gQ nC))), (z12, .inl (G.2 2, 20, .inl (zk gF nC))), (z14, .inl (G.2 3, 20, .inl (zk gW nC))), (z6, .inl (G.2 3, 16, .inl (zk fY nM)))] H := hP
      have hD : va_D A [(z0, .inr (6, [.int 0, .int (nI nM), .ref z1, .ref z2, .ref z3, .ref z4, .ref z5, .ref z6, .int (nI nC), .ref z7, .ref z8, .ref z9, .ref z10, .ref z11, .ref z12, .ref z13, .ref z14, .ref z15, .ref z16, .int cyc, .int 0, .long 0, .long 0, .int (nI sn), .ref z17])), (z9, .inl (G.2 3, 20, .inl (zk gP nC))), (z10, .inl (G.2 3, 20, .inl (zk gQ nC))), (z12, .inl (G.2 2, 20, .inl (zk gF nC))), (z14, .inl (G.2 3, 20, .inl (zk gW nC))), (z6, .inl (G.2 3, 16, .inl (zk fY nM)))] := hD
      refine lv_iload_n hx hb d_MOD_clear_92 rfl (lv_at hl 1 rfl) ?_
      exact W.iret (v := mcnt gQ nC) hx hb hr (fun t ht hW => ⟨⟨rfl, by rw [ht]; exact hP, by rw [hAe]; exact hD⟩, by rw [hAe]; exact hS.F ht⟩) hS.2.2 d_MOD_clear_93
    · have hk2 : k2 < nM := Nat.not_le.mp (fun z => c_61 (nI_le z (by omega)))
      refine lv_aload_n hx hb d_MOD_clear_64 rfl (lv_at hl 0 rfl) ?_
      refine va_get (D := G.1) (ci := 6) (v := .ref z6) (C := R_MOD) (T := T_MOD) (N := 25) hx hb hT in_MOD hown hK hP 0 rfl rfl 7 (by decide) (hT _ wd_589) (fun _ h9 => h9) rfl d_MOD_clear_65 ?_
      refine lv_iload_n hx hb d_MOD_clear_68 rfl (lv_at hl 2 rfl) ?_
      refine lv_iconst (v := 0) hx hb d_MOD_clear_69 (by decide) ?_
      refine va_zast hx hb hK hP hD hS 5 3 rfl rfl (vp_in_nI (by omega) (by omega)) d_MOD_clear_70 (fun H locs hP hD hS => ?_)
      rw [nI_clamp (by omega), vn0] at hP hD
      have hP : va_P G.1 vwCl [(z0, .inr (6, [.int 0, .int (nI nM), .ref z1, .ref z2, .ref z3, .ref z4, .ref z5, .ref z6, .int (nI nC), .ref z7, .ref z8, .ref z9, .ref z10, .ref z11, .ref z12, .ref z13, .ref z14, .ref z15, .ref z16, .int cyc, .int li, .long me, .long mi, .int (nI sn), .ref z17])), (z9, .inl (G.2 3, 20, .inl (zk gP nC))), (z10, .inl (G.2 3, 20, .inl (zk gQ nC))), (z12, .inl (G.2 2, 20, .inl (zk gF nC))), (z14, .inl (G.2 3, 20, .inl (zk gW nC))), (z6, .inl (G.2 3, 16, .inl (upd (zk fY k2) k2 0)))] H := hP
      have hD : va_D A [(z0, .inr (6, [.int 0, .int (nI nM), .ref z1, .ref z2, .ref z3, .ref z4, .ref z5, .ref z6, .int (nI nC), .ref z7, .ref z8, .ref z9, .ref z10, .ref z11, .ref z12, .ref z13, .ref z14, .ref z15, .ref z16, .int cyc, .int li, .long me, .long mi, .int (nI sn), .ref z17])), (z9, .inl (G.2 3, 20, .inl (zk gP nC))), (z10, .inl (G.2 3, 20, .inl (zk gQ nC))), (z12, .inl (G.2 2, 20, .inl (zk gF nC))), (z14, .inl (G.2 3, 20, .inl (zk gW nC))), (z6, .inl (G.2 3, 16, .inl (upd (zk fY k2) k2 0)))] := hD
      refine lv_iinc (v := nI (k2 + 1)) (lv' := [(2, .int (nI (k2 + 1))), (0, .ref z0), (1, .int (mcnt gQ nC))]) hx hb d_MOD_clear_71 hl (k := 2) rfl (nI_succ _).symm (by decide) rfl (fun ls hl => ?_)
      refine lv_goto (tgt := 56) hx hb d_MOD_clear_74 (by decide) ?_
      rw [zk_succ] at hP hD
      exact ih (k2 + 1) _ _ _ ⟨hk2, hP, hD, hS, lv_sub hl [1, 2, 0] rfl⟩ (by show nM - (k2 + 1) < nM - k2; omega)
  · have hk : k < nC := Nat.not_le.mp (fun z => c_17 (nI_le z (by omega)))
    refine lv_aload_n hx hb d_MOD_clear_20 rfl (lv_at hl 0 rfl) ?_
    refine va_get (D := G.1) (ci := 6) (v := .ref z9) (C := R_MOD) (T := T_MOD) (N := 25) hx hb hT in_MOD hown hK hP 0 rfl rfl 11 (by decide) (hT _ wd_593) (fun _ h9 => h9) rfl d_MOD_clear_21 ?_
    refine lv_iload_n hx hb d_MOD_clear_24 rfl (lv_at hl 2 rfl) ?_
    refine lv_iconst (v := 0) hx hb d_MOD_clear_25 (by decide) ?_
    refine va_zast hx hb hK hP hD hS 1 3 rfl rfl (vp_in_nI (by omega) (by omega)) d_MOD_clear_26 (fun H locs hP hD hS => ?_)
    rw [nI_clamp (by omega), vn0] at hP hD
    have hP : va_P G.1 vwCl [(z0, .inr (6, [.int 0, .int (nI nM), .ref z1, .ref z2, .ref z3, .ref z4, .ref z5, .ref z6, .int (nI nC), .ref z7, .ref z8, .ref z9, .ref z10, .ref z11, .ref z12, .ref z13, .ref z14, .ref z15, .ref z16, .int cyc, .int li, .long me, .long mi, .int (nI sn), .ref z17])), (z9, .inl (G.2 3, 20, .inl (upd (zk gP k) k 0))), (z10, .inl (G.2 3, 20, .inl (zk gQ k))), (z12, .inl (G.2 2, 20, .inl (zk gF k))), (z14, .inl (G.2 3, 20, .inl (zk gW k))), (z6, .inl (G.2 3, 16, .inl fY))] H := hP
    have hD : va_D A [(z0, .inr (6, [.int 0, .int (nI nM), .ref z1, .ref z2, .ref z3, .ref z4, .ref z5, .ref z6, .int (nI nC), .ref z7, .ref z8, .ref z9, .ref z10, .ref z11, .ref z12, .ref z13, .ref z14, .ref z15, .ref z16, .int cyc, .int li, .long me, .long mi, .int (nI sn), .ref z17])), (z9, .inl (G.2 3, 20, .inl (upd (zk gP k) k 0))), (z10, .inl (G.2 3, 20, .inl (zk gQ k))), (z12, .inl (G.2 2, 20, .inl (zk gF k))), (z14, .inl (G.2 3, 20, .inl (zk gW k))), (z6, .inl (G.2 3, 16, .inl fY))] := hD
    refine lv_aload_n hx hb d_MOD_clear_27 rfl (lv_at hl 0 rfl) ?_
    refine va_get (D := G.1) (ci := 6) (v := .ref z10) (C := R_MOD) (T := T_MOD) (N := 25) hx hb hT in_MOD hown hK hP 0 rfl rfl 12 (by decide) (hT _ wd_594) (fun _ h9 => h9) rfl d_MOD_clear_28 ?_
    refine lv_iload_n hx hb d_MOD_clear_31 rfl (lv_at hl 2 rfl) ?_
    refine lv_iconst (v := 0) hx hb d_MOD_clear_32 (by decide) ?_
    refine va_zast hx hb hK hP hD hS 2 3 rfl rfl (vp_in_nI (by omega) (by omega)) d_MOD_clear_33 (fun H locs hP hD hS => ?_)
    rw [nI_clamp (by omega), vn0] at hP hD
    have hP : va_P G.1 vwCl [(z0, .inr (6, [.int 0, .int (nI nM), .ref z1, .ref z2, .ref z3, .ref z4, .ref z5, .ref z6, .int (nI nC), .ref z7, .ref z8, .ref z9, .ref z10, .ref z11, .ref z12, .ref z13, .ref z14, .ref z15, .ref z16, .int cyc, .int li, .long me, .long mi, .int (nI sn), .ref z17])), (z9, .inl (G.2 3, 20, .inl (upd (zk gP k) k 0))), (z10, .inl (G.2 3, 20, .inl (upd (zk gQ k) k 0))), (z12, .inl (G.2 2, 20, .inl (zk gF k))), (z14, .inl (G.2 3, 20, .inl (zk gW k))), (z6, .inl (G.2 3, 16, .inl fY))] H := hP
    have hD : va_D A [(z0, .inr (6, [.int 0, .int (nI nM), .ref z1, .ref z2, .ref z3, .ref z4, .ref z5, .ref z6, .int (nI nC), .ref z7, .ref z8, .ref z9, .ref z10, .ref z11, .ref z12, .ref z13, .ref z14, .ref z15, .ref z16, .int cyc, .int li, .long me, .long mi, .int (nI sn), .ref z17])), (z9, .inl (G.2 3, 20, .inl (upd (zk gP k) k 0))), (z10, .inl (G.2 3, 20, .inl (upd (zk gQ k) k 0))), (z12, .inl (G.2 2, 20, .inl (zk gF k))), (z14, .inl (G.2 3, 20, .inl (zk gW k))), (z6, .inl (G.2 3, 16, .inl fY))] := hD
    refine lv_aload_n hx hb d_MOD_clear_34 rfl (lv_at hl 0 rfl) ?_
    refine va_get (D := G.1) (ci := 6) (v := .ref z14) (C := R_MOD) (T := T_MOD) (N := 25) hx hb hT in_MOD hown hK hP 0 rfl rfl 16 (by decide) (hT _ wd_598) (fun _ h9 => h9) rfl d_MOD_clear_35 ?_
    refine lv_iload_n hx hb d_MOD_clear_38 rfl (lv_at hl 2 rfl) ?_
    refine lv_iconst (v := 0) hx hb d_MOD_clear_39 (by decide) ?_
    refine va_zast hx hb hK hP hD hS 4 3 rfl rfl (vp_in_nI (by omega) (by omega)) d_MOD_clear_40 (fun H locs hP hD hS => ?_)
    rw [nI_clamp (by omega), vn0] at hP hD
    have hP : va_P G.1 vwCl [(z0, .inr (6, [.int 0, .int (nI nM), .ref z1, .ref z2, .ref z3, .ref z4, .ref z5, .ref z6, .int (nI nC), .ref z7, .ref z8, .ref z9, .ref z10, .ref z11, .ref z12, .ref z13, .ref z14, .ref z15, .ref z16, .int cyc, .int li, .long me, .long mi, .int (nI sn), .ref z17])), (z9, .inl (G.2 3, 20, .inl (upd (zk gP k) k 0))), (z10, .inl (G.2 3, 20, .inl (upd (zk gQ k) k 0))), (z12, .inl (G.2 2, 20, .inl (zk gF k))), (z14, .inl (G.2 3, 20, .inl (upd (zk gW k) k 0))), (z6, .inl (G.2 3, 16, .inl fY))] H := hP
    have hD : va_D A [(z0, .inr (6, [.int 0, .int (nI nM), .ref z1, .ref z2, .ref z3, .ref z4, .ref z5, .ref z6, .int (nI nC), .ref z7, .ref z8, .ref z9, .ref z10, .ref z11, .ref z12, .ref z13, .ref z14, .ref z15, .ref z16, .int cyc, .int li, .long me, .long mi, .int (nI sn), .ref z17])), (z9, .inl (G.2 3, 20, .inl (upd (zk gP k) k 0))), (z10, .inl (G.2 3, 20, .inl (upd (zk gQ k) k 0))), (z12, .inl (G.2 2, 20, .inl (zk gF k))), (z14, .inl (G.2 3, 20, .inl (upd (zk gW k) k 0))), (z6, .inl (G.2 3, 16, .inl fY))] := hD
    refine lv_aload_n hx hb d_MOD_clear_41 rfl (lv_at hl 0 rfl) ?_
    refine va_get (D := G.1) (ci := 6) (v := .ref z12) (C := R_MOD) (T := T_MOD) (N := 25) hx hb hT in_MOD hown hK hP 0 rfl rfl 14 (by decide) (hT _ wd_596) (fun _ h9 => h9) rfl d_MOD_clear_42 ?_
    refine lv_iload_n hx hb d_MOD_clear_45 rfl (lv_at hl 2 rfl) ?_
    refine lv_iconst (v := 0) hx hb d_MOD_clear_46 (by decide) ?_
    refine va_iast hx hb hK hP hD hS 3 2 rfl rfl (vp_in_nI (by omega) (by omega)) d_MOD_clear_47 (fun H locs hP hD hS => ?_)
    rw [nI_clamp (by omega)] at hP hD
    have hP : va_P G.1 vwCl [(z0, .inr (6, [.int 0, .int (nI nM), .ref z1, .ref z2, .ref z3, .ref z4, .ref z5, .ref z6, .int (nI nC), .ref z7, .ref z8, .ref z9, .ref z10, .ref z11, .ref z12, .ref z13, .ref z14, .ref z15, .ref z16, .int cyc, .int li, .long me, .long mi, .int (nI sn), .ref z17])), (z9, .inl (G.2 3, 20, .inl (upd (zk gP k) k 0))), (z10, .inl (G.2 3, 20, .inl (upd (zk gQ k) k 0))), (z12, .inl (G.2 2, 20, .inl (upd (zk gF k) k 0))), (z14, .inl (G.2 3, 20, .inl (upd (zk gW k) k 0))), (z6, .inl (G.2 3, 16, .inl fY))] H := hP
    have hD : va_D A [(z0, .inr (6, [.int 0, .int (nI nM), .ref z1, .ref z2, .ref z3, .ref z4, .ref z5, .ref z6, .int (nI nC), .ref z7, .ref z8, .ref z9, .ref z10, .ref z11, .ref z12, .ref z13, .ref z14, .ref z15, .ref z16, .int cyc, .int li, .long me, .long mi, .int (nI sn), .ref z17])), (z9, .inl (G.2 3, 20, .inl (upd (zk gP k) k 0))), (z10, .inl (G.2 3, 20, .inl (upd (zk gQ k) k 0))), (z12, .inl (G.2 2, 20, .inl (upd (zk gF k) k 0))), (z14, .inl (G.2 3, 20, .inl (upd (zk gW k) k 0))), (z6, .inl (G.2 3, 16, .inl fY))] := hD
    refine lv_iinc (v := nI (k + 1)) (lv' := [(2, .int (nI (k + 1))), (0, .ref z0), (1, .int (mcnt gQ nC))]) hx hb d_MOD_clear_48 hl (k := 2) rfl (nI_succ _).symm (by decide) rfl (fun ls hl => ?_)
    refine lv_goto (tgt := 12) hx hb d_MOD_clear_51 (by decide) ?_
    rw [zk_succ, zk_succ, zk_succ, zk_succ] at hP hD
    exact ih (k + 1) _ _ _ ⟨hk, hP, hD, hS, lv_sub hl [1, 2, 0] rfl⟩ (by show nC - (k + 1) < nC - k; omega)
