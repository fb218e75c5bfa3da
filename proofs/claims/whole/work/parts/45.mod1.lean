set_option maxHeartbeats 4000000 in
set_option maxRecDepth 100000 in
theorem c_confirmedCodes (l : Launch) (G : GG) (z0 : Nat) (z1 : Nat) (z2 : Nat) (z3 : Nat) (z4 : Nat) (z5 : Nat) (z6 : Nat) (z7 : Nat) (z8 : Nat) (z9 : Nat) (z10 : Nat) (z11 : Nat) (z12 : Nat) (z13 : Nat) (z14 : Nat) (z15 : Nat) (z16 : Nat) (z17 : Nat) (cdv : Int32) (cyc : Int32) (li : Int32) (nM : Nat) (nC : Nat) (sn : Nat) (me : Int64) (mi : Int64) (gQ : Nat → Int32) (hn : nC ≤ 20) : Met l y_MOD_confirmedCodes w_MOD_confirmedCodes ({ frames := 0, cells := 0, slots := 0, locals := 0 }) (va_Pc [.ref z0] (Rw G [(z0, .inr (6, [.int cdv, .int (nI nM), .ref z1, .ref z2, .ref z3, .ref z4, .ref z5, .ref z6, .int (nI nC), .ref z7, .ref z8, .ref z9, .ref z10, .ref z11, .ref z12, .ref z13, .ref z14, .ref z15, .ref z16, .int cyc, .int li, .long me, .long mi, .int (nI sn), .ref z17])), (z10, .inl (G.2 3, 20, .inl gQ))])) (k2_QcV (.int (mcnt gQ nC))) 0 0 (fun _ => False) := by
  refine Met.ofW (cc := b_MOD_confirmedCodes) (maxL := 3) (ret := (some .int)) (by decide) rfl ?_
  intro p e s m args below meth c s₁ B hml hv
  obtain ⟨rfl, hP, hGK⟩ := hv
  have hx := B.exec
  have hb := B.bytes
  have hr := B.returns
  have hts := atoms_spec (ws := w_MOD_confirmedCodes) B.pre
  have hT : ∀ w ∈ lwG, w.before _ s = true := fun w h => hts w (List.mem_cons_of_mem _ h)
  have hown : s.vm.findClass R_MOD = some m.cls := findClass_of_methodNamed B.named
  have hlocks := B.notSynchronized
  have hK := hGK.1
  have hN := hGK.2
  have hP : va_P G.1 vwCl [(z0, .inr (6, [.int cdv, .int (nI nM), .ref z1, .ref z2, .ref z3, .ref z4, .ref z5, .ref z6, .int (nI nC), .ref z7, .ref z8, .ref z9, .ref z10, .ref z11, .ref z12, .ref z13, .ref z14, .ref z15, .ref z16, .int cyc, .int li, .long me, .long mi, .int (nI sn), .ref z17])), (z10, .inl (G.2 3, 20, .inl gQ))] s.heap := hP
  have hl := lv_entry ([.ref z0]) (n := 3) (Nat.le_of_ble_eq_true rfl)
  rw [lg_entry_eq]
  generalize (lg_sl ([.ref z0]) ++ List.replicate (3 - (lg_sl ([.ref z0])).length) Slot.unset).toArray = ls at hl ⊢
  have hl : lv_has ls 3 [(0, .ref z0)] := hl
  generalize hHe : s.heap = H at hP ⊢
  refine lv_iconst (v := 0) hx hb d_MOD_confirmedCodes_0 (by decide) ?_
  refine lv_istore_n (lv' := [(1, .int 0), (0, .ref z0)]) hx hb d_MOD_confirmedCodes_1 rfl hl (by decide) rfl (fun ls hl => ?_)
  refine lv_iconst (v := 0) hx hb d_MOD_confirmedCodes_2 (by decide) ?_
  refine lv_istore_n (lv' := [(2, .int 0), (1, .int 0), (0, .ref z0)]) hx hb d_MOD_confirmedCodes_3 rfl hl (by decide) rfl (fun ls hl => ?_)
  refine bx_loopR (σ := Nat × Int32) (fun q ls => q.1 ≤ nC ∧ q.2 = mcnt gQ q.1 ∧ lv_has ls 3 [(0, .ref z0), (1, .int q.2), (2, .int (nI q.1))]) (fun q => nC - q.1) _ (fun q ls hI ih => ?_) (0, 0) ls ⟨Nat.zero_le _, rfl, lv_sub hl [2, 1, 0] rfl⟩
  obtain ⟨k, ac1⟩ := q
  obtain ⟨hknk, hac, hl⟩ := hI
  have hknk : k ≤ nC := hknk
  have hac : ac1 = mcnt gQ k := hac
  have hl : lv_has ls 3 [(0, .ref z0), (1, .int ac1), (2, .int (nI k))] := hl
  refine lv_iload_n hx hb d_MOD_confirmedCodes_4 rfl (lv_at hl 2 rfl) ?_
  refine lv_aload_n hx hb d_MOD_confirmedCodes_5 rfl (lv_at hl 0 rfl) ?_
  refine va_get (D := G.1) (ci := 6) (v := .int (nI nC)) (C := R_MOD) (T := T_MOD) (N := 25) hx hb hT in_MOD hown hK hP 0 rfl rfl 8 (by decide) (hT _ wd_590) (fun _ h9 => h9) rfl d_MOD_confirmedCodes_6 ?_
  refine lv_icmp_ge (tgt := 35) hx hb d_MOD_confirmedCodes_9 (by decide) (fun c_9 => ?_) (fun c_9 => ?_)
  · have hge : nC ≤ k := (nI_leI (by omega) (by omega)).mp c_9
    have hke : k = nC := by omega
    refine lv_iload_n hx hb d_MOD_confirmedCodes_35 rfl (lv_at hl 1 rfl) ?_
    have hq9 : (.int (mcnt gQ nC)) = (.int ac1 : Value) := by rw [hac, hke]
    exact W.iret (v := ac1) hx hb hr (fun t ht _ => ⟨by rw [hq9], ht.trans hHe.symm⟩) (fun _ h => by cases h) d_MOD_confirmedCodes_36
  · have hk : k < nC := Nat.not_le.mp (fun z => c_9 (nI_le z (by omega)))
    refine lv_iload_n hx hb d_MOD_confirmedCodes_12 rfl (lv_at hl 1 rfl) ?_
    refine lv_aload_n hx hb d_MOD_confirmedCodes_13 rfl (lv_at hl 0 rfl) ?_
    refine va_get (D := G.1) (ci := 6) (v := .ref z10) (C := R_MOD) (T := T_MOD) (N := 25) hx hb hT in_MOD hown hK hP 0 rfl rfl 12 (by decide) (hT _ wd_594) (fun _ h9 => h9) rfl d_MOD_confirmedCodes_14 ?_
    refine lv_iload_n hx hb d_MOD_confirmedCodes_17 rfl (lv_at hl 2 rfl) ?_
    refine va_zald hx hb hK hP 1 3 rfl rfl (vp_in_nI (by omega) (by omega)) d_MOD_confirmedCodes_18 ?_
    refine W.eq (g2 := F0 m 19 ls (.int (gQ k) :: [.int ac1])) (by rw [nI_clamp (by omega)]) ?_
    refine lv_if_eq (tgt := 26) hx hb d_MOD_confirmedCodes_19 (by decide) (fun c_19 => ?_) (fun c_19 => ?_)
    · refine lv_iconst (v := 0) hx hb d_MOD_confirmedCodes_26 (by decide) ?_
      refine lv_iadd hx hb d_MOD_confirmedCodes_27 ?_
      refine W.eq (g2 := F0 m 28 ls (.int ac1 :: [])) (by rw [Int32.add_zero]) ?_
      refine lv_istore_n (lv' := [(1, .int ac1), (0, .ref z0), (2, .int (nI k))]) hx hb d_MOD_confirmedCodes_28 rfl hl (by decide) rfl (fun ls hl => ?_)
      refine lv_iinc (v := nI (k + 1)) (lv' := [(2, .int (nI (k + 1))), (1, .int ac1), (0, .ref z0)]) hx hb d_MOD_confirmedCodes_29 hl (k := 2) rfl (nI_succ _).symm (by decide) rfl (fun ls hl => ?_)
      refine lv_goto (tgt := 4) hx hb d_MOD_confirmedCodes_32 (by decide) ?_
      exact ih ((k + 1), ac1) _ ⟨hk, by simp [mcnt, hac, c_9, c_19], lv_sub hl [2, 1, 0] rfl⟩ (by show nC - (k + 1) < nC - k; omega)
    · refine lv_iconst (v := 1) hx hb d_MOD_confirmedCodes_22 (by decide) ?_
      refine lv_goto (tgt := 27) hx hb d_MOD_confirmedCodes_23 (by decide) ?_
      refine lv_iadd hx hb d_MOD_confirmedCodes_27 ?_
      refine lv_istore_n (lv' := [(1, .int (ac1 + 1)), (0, .ref z0), (2, .int (nI k))]) hx hb d_MOD_confirmedCodes_28 rfl hl (by decide) rfl (fun ls hl => ?_)
      refine lv_iinc (v := nI (k + 1)) (lv' := [(2, .int (nI (k + 1))), (1, .int (ac1 + 1)), (0, .ref z0)]) hx hb d_MOD_confirmedCodes_29 hl (k := 2) rfl (nI_succ _).symm (by decide) rfl (fun ls hl => ?_)
      refine lv_goto (tgt := 4) hx hb d_MOD_confirmedCodes_32 (by decide) ?_
      exact ih ((k + 1), ac1 + 1) _ ⟨hk, by simp [mcnt, hac, c_9, c_19], lv_sub hl [2, 1, 0] rfl⟩ (by show nC - (k + 1) < nC - k; omega)
set_option maxHeartbeats 4000000 in
set_option maxRecDepth 100000 in
theorem c_mfirstFrozen (l : Launch) (G : GG) (z0 : Nat) (z1 : Nat) (z2 : Nat) (z3 : Nat) (z4 : Nat) (z5 : Nat) (z6 : Nat) (z7 : Nat) (z8 : Nat) (z9 : Nat) (z10 : Nat) (z11 : Nat) (z12 : Nat) (z13 : Nat) (z14 : Nat) (z15 : Nat) (z16 : Nat) (z17 : Nat) (cdv : Int32) (cyc : Int32) (li : Int32) (nM : Nat) (nC : Nat) (sn : Nat) (me : Int64) (mi : Int64) (gW : Nat → Int32) (hn : nC ≤ 20) : Met l y_MOD_firstFrozen w_MOD_firstFrozen ({ frames := 0, cells := 0, slots := 0, locals := 0 }) (va_Pc [.ref z0] (Rw G [(z0, .inr (6, [.int cdv, .int (nI nM), .ref z1, .ref z2, .ref z3, .ref z4, .ref z5, .ref z6, .int (nI nC), .ref z7, .ref z8, .ref z9, .ref z10, .ref z11, .ref z12, .ref z13, .ref z14, .ref z15, .ref z16, .int cyc, .int li, .long me, .long mi, .int (nI sn), .ref z17])), (z14, .inl (G.2 3, 20, .inl gW))])) (k2_QcV (.int (nI (fzF gW nC nC)))) 0 0 (fun _ => False) := by
  refine Met.ofW (cc := b_MOD_firstFrozen) (maxL := 2) (ret := (some .int)) (by decide) rfl ?_
  intro p e s m args below meth c s₁ B hml hv
  obtain ⟨rfl, hP, hGK⟩ := hv
  have hx := B.exec
  have hb := B.bytes
  have hr := B.returns
  have hts := atoms_spec (ws := w_MOD_firstFrozen) B.pre
  have hT : ∀ w ∈ lwG, w.before _ s = true := fun w h => hts w (List.mem_cons_of_mem _ h)
  have hown : s.vm.findClass R_MOD = some m.cls := findClass_of_methodNamed B.named
  have hlocks := B.notSynchronized
  have hK := hGK.1
  have hN := hGK.2
  have hP : va_P G.1 vwCl [(z0, .inr (6, [.int cdv, .int (nI nM), .ref z1, .ref z2, .ref z3, .ref z4, .ref z5, .ref z6, .int (nI nC), .ref z7, .ref z8, .ref z9, .ref z10, .ref z11, .ref z12, .ref z13, .ref z14, .ref z15, .ref z16, .int cyc, .int li, .long me, .long mi, .int (nI sn), .ref z17])), (z14, .inl (G.2 3, 20, .inl gW))] s.heap := hP
  have hl := lv_entry ([.ref z0]) (n := 2) (Nat.le_of_ble_eq_true rfl)
  rw [lg_entry_eq]
  generalize (lg_sl ([.ref z0]) ++ List.replicate (2 - (lg_sl ([.ref z0])).length) Slot.unset).toArray = ls at hl ⊢
  have hl : lv_has ls 2 [(0, .ref z0)] := hl
  generalize hHe : s.heap = H at hP ⊢
  refine lv_iconst (v := 0) hx hb d_MOD_firstFrozen_0 (by decide) ?_
  refine lv_istore_n (lv' := [(1, .int 0), (0, .ref z0)]) hx hb d_MOD_firstFrozen_1 rfl hl (by decide) rfl (fun ls hl => ?_)
  refine bx_loopR (σ := Nat) (fun q ls => q ≤ nC ∧ fzF gW nC (nC - q) = fzF gW nC nC ∧ lv_has ls 2 [(0, .ref z0), (1, .int (nI q))]) (fun q => nC - q) _ (fun q ls hI ih => ?_) 0 ls ⟨Nat.zero_le _, rfl, lv_sub hl [1, 0] rfl⟩
  revert hI ih; generalize q = k; intro hI ih
  obtain ⟨hknk, hfz, hl⟩ := hI
  have hknk : k ≤ nC := hknk
  have hfz : fzF gW nC (nC - k) = fzF gW nC nC := hfz
  have hl : lv_has ls 2 [(0, .ref z0), (1, .int (nI k))] := hl
  refine lv_iload_n hx hb d_MOD_firstFrozen_2 rfl (lv_at hl 1 rfl) ?_
  refine lv_aload_n hx hb d_MOD_firstFrozen_3 rfl (lv_at hl 0 rfl) ?_
  refine va_get (D := G.1) (ci := 6) (v := .int (nI nC)) (C := R_MOD) (T := T_MOD) (N := 25) hx hb hT in_MOD hown hK hP 0 rfl rfl 8 (by decide) (hT _ wd_590) (fun _ h9 => h9) rfl d_MOD_firstFrozen_4 ?_
  refine lv_icmp_ge (tgt := 25) hx hb d_MOD_firstFrozen_7 (by decide) (fun c_7 => ?_) (fun c_7 => ?_)
  · have hge : nC ≤ k := (nI_leI (by omega) (by omega)).mp c_7
    have hke : k = nC := by omega
    refine lv_iload_n hx hb d_MOD_firstFrozen_25 rfl (lv_at hl 1 rfl) ?_
    have hq9 : (.int (nI (fzF gW nC nC))) = (.int (nI k) : Value) := by rw [← hfz, hke, Nat.sub_self]; rfl
    exact W.iret (v := nI k) hx hb hr (fun t ht _ => ⟨by rw [hq9], ht.trans hHe.symm⟩) (fun _ h => by cases h) d_MOD_firstFrozen_26
  · have hk : k < nC := Nat.not_le.mp (fun z => c_7 (nI_le z (by omega)))
    refine lv_aload_n hx hb d_MOD_firstFrozen_10 rfl (lv_at hl 0 rfl) ?_
    refine va_get (D := G.1) (ci := 6) (v := .ref z14) (C := R_MOD) (T := T_MOD) (N := 25) hx hb hT in_MOD hown hK hP 0 rfl rfl 16 (by decide) (hT _ wd_598) (fun _ h9 => h9) rfl d_MOD_firstFrozen_11 ?_
    refine lv_iload_n hx hb d_MOD_firstFrozen_14 rfl (lv_at hl 1 rfl) ?_
    refine va_zald hx hb hK hP 1 3 rfl rfl (vp_in_nI (by omega) (by omega)) d_MOD_firstFrozen_15 ?_
    refine W.eq (g2 := F0 m 16 ls (.int (gW k) :: [])) (by rw [nI_clamp (by omega)]) ?_
    refine lv_if_ne (tgt := 25) hx hb d_MOD_firstFrozen_16 (by decide) (fun c_16 => ?_) (fun c_16 => ?_)
    · refine lv_iload_n hx hb d_MOD_firstFrozen_25 rfl (lv_at hl 1 rfl) ?_
      have hq9 : (.int (nI (fzF gW nC nC))) = (.int (nI k) : Value) := by rw [← hfz, fzF_step hk, if_neg c_16]
      exact W.iret (v := nI k) hx hb hr (fun t ht _ => ⟨by rw [hq9], ht.trans hHe.symm⟩) (fun _ h => by cases h) d_MOD_firstFrozen_26
    · refine lv_iinc (v := nI (k + 1)) (lv' := [(1, .int (nI (k + 1))), (0, .ref z0)]) hx hb d_MOD_firstFrozen_19 hl (k := 1) rfl (nI_succ _).symm (by decide) rfl (fun ls hl => ?_)
      refine lv_goto (tgt := 2) hx hb d_MOD_firstFrozen_22 (by decide) ?_
      exact ih (k + 1) _ ⟨hk, by rw [← hfz, fzF_step hk]; simp [c_7, c_16], lv_sub hl [1, 0] rfl⟩ (by show nC - (k + 1) < nC - k; omega)
set_option maxHeartbeats 4000000 in
set_option maxRecDepth 100000 in
theorem c_most (l : Launch) (G : GG) (vv : Int64)  : Met l y_MOD_most w_MOD_most ({ frames := 0, cells := 0, slots := 0, locals := 0 }) (va_Pc [.long vv] (Rw G [])) (k2_QcV (.int (mostF vv))) 0 0 (fun _ => False) := by
  refine Met.ofW (cc := b_MOD_most) (maxL := 2) (ret := (some .int)) (by decide) rfl ?_
  intro p e s m args below meth c s₁ B hml hv
  obtain ⟨rfl, hP, hGK⟩ := hv
  have hx := B.exec
  have hb := B.bytes
  have hr := B.returns
  have hts := atoms_spec (ws := w_MOD_most) B.pre
  have hT : ∀ w ∈ lwG, w.before _ s = true := fun w h => hts w (List.mem_cons_of_mem _ h)
  have hown : s.vm.findClass R_MOD = some m.cls := findClass_of_methodNamed B.named
  have hlocks := B.notSynchronized
  have hK := hGK.1
  have hN := hGK.2
  have hP : va_P G.1 vwCl [] s.heap := hP
  have hl := lv_entry ([.long vv]) (n := 2) (Nat.le_of_ble_eq_true rfl)
  rw [lg_entry_eq]
  generalize (lg_sl ([.long vv]) ++ List.replicate (2 - (lg_sl ([.long vv])).length) Slot.unset).toArray = ls at hl ⊢
  have hl : lv_has ls 2 [(0, .long vv)] := hl
  generalize hHe : s.heap = H at hP ⊢
  refine lv_lload_n hx hb d_MOD_most_0 rfl (lv_at hl 0 rfl) ?_
  refine lv_ldc2 (v := 65535) hx hb hown (hT _ wd_678) d_MOD_most_1 ?_
  refine W.lcmp hx hb d_MOD_most_4 ?_
  refine lv_if_le (tgt := 13) hx hb d_MOD_most_5 (by decide) (fun c_5 => ?_) (fun c_5 => ?_)
  · refine lv_lload_n hx hb d_MOD_most_13 rfl (lv_at hl 0 rfl) ?_
    refine lv_l2i (v := vv.toInt32) hx hb d_MOD_most_14 rfl ?_
    have hq9 : (.int (mostF vv)) = (.int vv.toInt32 : Value) := by first | (simp [mostF, c_5]; done) | (simp_all [mostF]; done)
    exact W.iret (v := vv.toInt32) hx hb hr (fun t ht _ => ⟨by rw [hq9], ht.trans hHe.symm⟩) (fun _ h => by cases h) d_MOD_most_15
  · refine lv_ldc (v := 65535) hx hb hown (hT _ wd_739) d_MOD_most_8 ?_
    refine lv_goto (tgt := 15) hx hb d_MOD_most_10 (by decide) ?_
    have hq9 : (.int (mostF vv)) = (.int 65535 : Value) := by first | (simp [mostF, c_5]; done) | (simp_all [mostF]; done)
    exact W.iret (v := 65535) hx hb hr (fun t ht _ => ⟨by rw [hq9], ht.trans hHe.symm⟩) (fun _ h => by cases h) d_MOD_most_15
set_option maxHeartbeats 4000000 in
set_option maxRecDepth 100000 in
theorem c_mcountOf (l : Launch) (G : GG) (sz : Nat) (z0 : Nat) (z1 : Nat) (z2 : Nat) (z3 : Nat) (z4 : Nat) (z5 : Nat) (z6 : Nat) (z7 : Nat) (z8 : Nat) (z9 : Nat) (z10 : Nat) (z11 : Nat) (z12 : Nat) (z13 : Nat) (z14 : Nat) (z15 : Nat) (z16 : Nat) (z17 : Nat) (cdv : Int32) (cyc : Int32) (li : Int32) (nM : Nat) (nC : Nat) (sn : Nat) (me : Int64) (mi : Int64) (fR : Nat → Int32) (fH : Nat → Int32) (mo : Int32) (wh : Int32) (hm : nM ≤ 16) : Met l y_MOD_count_0 w_MOD_count_0 ({ frames := 1, cells := 0, slots := 0, locals := 25 }) (va_Pc [.ref z0, .int mo, .int wh] (Pw G sz [(z0, .inr (6, [.int cdv, .int (nI nM), .ref z1, .ref z2, .ref z3, .ref z4, .ref z5, .ref z6, .int (nI nC), .ref z7, .ref z8, .ref z9, .ref z10, .ref z11, .ref z12, .ref z13, .ref z14, .ref z15, .ref z16, .int cyc, .int li, .long me, .long mi, .int (nI sn), .ref z17])), (z3, .inl (G.2 2, 16, .inl fR)), (z4, .inl (G.2 2, 16, .inl fH))])) (QW G (some (.int (mcnF fR fH nM mo wh))) [(z0, .inr (6, [.int cdv, .int (nI nM), .ref z1, .ref z2, .ref z3, .ref z4, .ref z5, .ref z6, .int (nI nC), .ref z7, .ref z8, .ref z9, .ref z10, .ref z11, .ref z12, .ref z13, .ref z14, .ref z15, .ref z16, .int cyc, .int li, .long me, .long mi, .int (nI sn), .ref z17])), (z3, .inl (G.2 2, 16, .inl fR)), (z4, .inl (G.2 2, 16, .inl fH))] [(z0, .inr (6, [.int 0, .int (nI nM), .ref z1, .ref z2, .ref z3, .ref z4, .ref z5, .ref z6, .int (nI nC), .ref z7, .ref z8, .ref z9, .ref z10, .ref z11, .ref z12, .ref z13, .ref z14, .ref z15, .ref z16, .int cyc, .int li, .long me, .long mi, .int (nI sn), .ref z17])), (z3, .inl (G.2 2, 16, .inl fR)), (z4, .inl (G.2 2, 16, .inl fH))] sz) 0 0 (va_A [(z0, .inr (6, [.int cdv, .int (nI nM), .ref z1, .ref z2, .ref z3, .ref z4, .ref z5, .ref z6, .int (nI nC), .ref z7, .ref z8, .ref z9, .ref z10, .ref z11, .ref z12, .ref z13, .ref z14, .ref z15, .ref z16, .int cyc, .int li, .long me, .long mi, .int (nI sn), .ref z17])), (z3, .inl (G.2 2, 16, .inl fR)), (z4, .inl (G.2 2, 16, .inl fH))] sz) := by
  refine Met.ofW (cc := b_MOD_count_0) (maxL := 3) (ret := (some .int)) (by decide) rfl ?_
  intro p e s m args below meth c s₁ B hml hv
  obtain ⟨rfl, hsz, hP, hGK, hD0⟩ := hv
  have hx := B.exec
  have hb := B.bytes
  have hr := B.returns
  have hts := atoms_spec (ws := w_MOD_count_0) B.pre
  have hT : ∀ w ∈ lwG, w.before _ s = true := fun w h => hts w (List.mem_cons_of_mem _ h)
  have hown : s.vm.findClass R_MOD = some m.cls := findClass_of_methodNamed B.named
  have hlocks := B.notSynchronized
  have hK := hGK.1
  have hN := hGK.2
  subst hsz
  have hD := hD0.self (sz := s.heap.size)
  generalize hAe : va_A [(z0, .inr (6, [.int cdv, .int (nI nM), .ref z1, .ref z2, .ref z3, .ref z4, .ref z5, .ref z6, .int (nI nC), .ref z7, .ref z8, .ref z9, .ref z10, .ref z11, .ref z12, .ref z13, .ref z14, .ref z15, .ref z16, .int cyc, .int li, .long me, .long mi, .int (nI sn), .ref z17])), (z3, .inl (G.2 2, 16, .inl fR)), (z4, .inl (G.2 2, 16, .inl fH))] s.heap.size = A at hD ⊢
  have hA : ∀ q : Nat, s.heap.size ≤ q → A q := fun q h => by rw [← hAe]; exact Or.inr h
  have hS : va_S A s.heap s.heap [] := va_S.rf
  have hP : va_P G.1 vwCl [(z0, .inr (6, [.int cdv, .int (nI nM), .ref z1, .ref z2, .ref z3, .ref z4, .ref z5, .ref z6, .int (nI nC), .ref z7, .ref z8, .ref z9, .ref z10, .ref z11, .ref z12, .ref z13, .ref z14, .ref z15, .ref z16, .int cyc, .int li, .long me, .long mi, .int (nI sn), .ref z17])), (z3, .inl (G.2 2, 16, .inl fR)), (z4, .inl (G.2 2, 16, .inl fH))] s.heap := hP
  have hl := lv_entry ([.ref z0, .int mo, .int wh]) (n := 3) (Nat.le_of_ble_eq_true rfl)
  rw [lg_entry_eq]
  generalize (lg_sl ([.ref z0, .int mo, .int wh]) ++ List.replicate (3 - (lg_sl ([.ref z0, .int mo, .int wh])).length) Slot.unset).toArray = ls at hl ⊢
  have hl : lv_has ls 3 [(0, .ref z0), (1, .int mo), (2, .int wh)] := hl
  refine lv_aload_n hx hb d_MOD_count_0_0 rfl (lv_at hl 0 rfl) ?_
  refine lv_iconst (v := 0) hx hb d_MOD_count_0_1 (by decide) ?_
  refine va_put (D := G.1) (ci := 6) (v := .int 0) (ty := .int) (C := R_MOD) (T := T_MOD) (N := 25) hx hb hT in_MOD t_MOD tok_MOD nok_MOD hown hK hP hD hS 0 rfl rfl 0 (by decide) (hT _ wd_582) (fun _ h9 => h9) rfl (by decide +kernel) rfl rfl (Nat.le_of_ble_eq_true rfl) d_MOD_count_0_2 (fun H locs hP hD hS => ?_)
  have hP : va_P G.1 vwCl [(z0, .inr (6, [.int 0, .int (nI nM), .ref z1, .ref z2, .ref z3, .ref z4, .ref z5, .ref z6, .int (nI nC), .ref z7, .ref z8, .ref z9, .ref z10, .ref z11, .ref z12, .ref z13, .ref z14, .ref z15, .ref z16, .int cyc, .int li, .long me, .long mi, .int (nI sn), .ref z17])), (z3, .inl (G.2 2, 16, .inl fR)), (z4, .inl (G.2 2, 16, .inl fH))] H := hP
  have hD : va_D A [(z0, .inr (6, [.int 0, .int (nI nM), .ref z1, .ref z2, .ref z3, .ref z4, .ref z5, .ref z6, .int (nI nC), .ref z7, .ref z8, .ref z9, .ref z10, .ref z11, .ref z12, .ref z13, .ref z14, .ref z15, .ref z16, .int cyc, .int li, .long me, .long mi, .int (nI sn), .ref z17])), (z3, .inl (G.2 2, 16, .inl fR)), (z4, .inl (G.2 2, 16, .inl fH))] := hD
  refine lv_iload_n hx hb d_MOD_count_0_5 rfl (lv_at hl 1 rfl) ?_
  refine lv_i2l (v := mo.toInt64) hx hb d_MOD_count_0_6 rfl ?_
  refine lv_lconst (v := 1) hx hb d_MOD_count_0_7 (by decide) ?_
  refine lv_aload_n hx hb d_MOD_count_0_8 rfl (lv_at hl 0 rfl) ?_
  refine va_get (D := G.1) (ci := 6) (v := .int (nI nM)) (C := R_MOD) (T := T_MOD) (N := 25) hx hb hT in_MOD hown hK hP 0 rfl rfl 1 (by decide) (hT _ wd_583) (fun _ h9 => h9) rfl d_MOD_count_0_9 ?_
  refine lv_i2l (v := (nI nM).toInt64) hx hb d_MOD_count_0_12 rfl ?_
  refine bx_callV (W.runS (As := [.long mo.toInt64, .long 1, .long ((nI nM).toInt64)]) (rest := []) ⟨hx, hb, hml, hown, hts⟩ (c_isIn l G mo.toInt64 1 ((nI nM).toInt64)) ⟨(callB_of 3 hts (gi_all wd_671) rfl rfl rfl (hT _ wd_51) (hT _ wd_669) (by decide +kernel) ⟨Nat.le_of_ble_eq_true rfl, Nat.le_of_ble_eq_true rfl⟩), (hT _ wd_670)⟩ (psR bx_nil hGK) rfl rfl hl.1 rfl (lv_room (Nat.le_of_ble_eq_true rfl)) d_MOD_count_0_13 ⟨Nat.le_of_ble_eq_true rfl, Nat.le_of_ble_eq_true rfl⟩) ?_
  refine lv_if_ne (tgt := 21) hx hb d_MOD_count_0_16 (by decide) (fun c_16 => ?_) (fun c_16 => ?_)
  · obtain ⟨k, hk, hmo⟩ := isM_some (by rw [← inF_isM mo (by omega)]; exact c_16) (by omega : nM ≤ 20)
    have e9 : mo - 1 = nI k := by rw [hmo]; exact nI_pred k
    have ex9 : ixM mo = k := by rw [hmo]; exact ixM_at (by omega)
    refine lv_iload_n hx hb d_MOD_count_0_21 rfl (lv_at hl 2 rfl) ?_
    refine lv_if_ne (tgt := 36) hx hb d_MOD_count_0_22 (by decide) (fun c_22 => ?_) (fun c_22 => ?_)
    · refine lv_aload_n hx hb d_MOD_count_0_36 rfl (lv_at hl 0 rfl) ?_
      refine va_get (D := G.1) (ci := 6) (v := .ref z4) (C := R_MOD) (T := T_MOD) (N := 25) hx hb hT in_MOD hown hK hP 0 rfl rfl 5 (by decide) (hT _ wd_587) (fun _ h9 => h9) rfl d_MOD_count_0_37 ?_
      refine lv_iload_n hx hb d_MOD_count_0_40 rfl (lv_at hl 1 rfl) ?_
      refine lv_iconst (v := 1) hx hb d_MOD_count_0_41 (by decide) ?_
      refine lv_isub hx hb d_MOD_count_0_42 ?_
      rw [e9]
      refine va_iald hx hb hK hP 2 2 rfl rfl (vp_in_nI (by omega) (by omega)) d_MOD_count_0_43 ?_
      refine W.eq (g2 := F0 m 44 ls (.int (fH k) :: [])) (by rw [nI_clamp (by omega)]) ?_
      have hq9 : (.int (mcnF fR fH nM mo wh)) = (.int (fH k) : Value) := by simp only [mcnF, ex9, if_neg c_16]; simp [c_22]
      exact W.iret (v := fH k) hx hb hr (fun t ht hW => ⟨⟨by rw [hq9], by rw [ht]; exact hP, by rw [hAe]; exact hD⟩, by rw [hAe]; exact hS.F ht⟩) hS.2.2 d_MOD_count_0_44
    · refine lv_aload_n hx hb d_MOD_count_0_25 rfl (lv_at hl 0 rfl) ?_
      refine va_get (D := G.1) (ci := 6) (v := .ref z3) (C := R_MOD) (T := T_MOD) (N := 25) hx hb hT in_MOD hown hK hP 0 rfl rfl 4 (by decide) (hT _ wd_586) (fun _ h9 => h9) rfl d_MOD_count_0_26 ?_
      refine lv_iload_n hx hb d_MOD_count_0_29 rfl (lv_at hl 1 rfl) ?_
      refine lv_iconst (v := 1) hx hb d_MOD_count_0_30 (by decide) ?_
      refine lv_isub hx hb d_MOD_count_0_31 ?_
      rw [e9]
      refine va_iald hx hb hK hP 1 2 rfl rfl (vp_in_nI (by omega) (by omega)) d_MOD_count_0_32 ?_
      refine W.eq (g2 := F0 m 33 ls (.int (fR k) :: [])) (by rw [nI_clamp (by omega)]) ?_
      refine lv_goto (tgt := 44) hx hb d_MOD_count_0_33 (by decide) ?_
      have hq9 : (.int (mcnF fR fH nM mo wh)) = (.int (fR k) : Value) := by simp only [mcnF, ex9, if_neg c_16]; simp [c_22]
      exact W.iret (v := fR k) hx hb hr (fun t ht hW => ⟨⟨by rw [hq9], by rw [ht]; exact hP, by rw [hAe]; exact hD⟩, by rw [hAe]; exact hS.F ht⟩) hS.2.2 d_MOD_count_0_44
  · refine lv_iconst (v := (-1)) hx hb d_MOD_count_0_19 (by decide) ?_
    have hq9 : (.int (mcnF fR fH nM mo wh)) = (.int (-1) : Value) := by first | (simp [mcnF, c_16]; done) | (simp_all [mcnF]; done)
    exact W.iret (v := (-1)) hx hb hr (fun t ht hW => ⟨⟨by rw [hq9], by rw [ht]; exact hP, by rw [hAe]; exact hD⟩, by rw [hAe]; exact hS.F ht⟩) hS.2.2 d_MOD_count_0_20
set_option maxHeartbeats 4000000 in
set_option maxRecDepth 100000 in
theorem c_mready (l : Launch) (G : GG) (sz : Nat) (z0 : Nat) (z1 : Nat) (z2 : Nat) (z3 : Nat) (z4 : Nat) (z5 : Nat) (z6 : Nat) (z7 : Nat) (z8 : Nat) (z9 : Nat) (z10 : Nat) (z11 : Nat) (z12 : Nat) (z13 : Nat) (z14 : Nat) (z15 : Nat) (z16 : Nat) (z17 : Nat) (cdv : Int32) (cyc : Int32) (li : Int32) (nM : Nat) (nC : Nat) (sn : Nat) (me : Int64) (mi : Int64) (fK : Nat → Int32) (fY : Nat → Int32) (kd : Int32) (hm : nM ≤ 16) : Met l y_MOD_ready w_MOD_ready ({ frames := 1, cells := 0, slots := 0, locals := 25 }) (va_Pc [.ref z0, .int kd] (Pw G sz [(z0, .inr (6, [.int cdv, .int (nI nM), .ref z1, .ref z2, .ref z3, .ref z4, .ref z5, .ref z6, .int (nI nC), .ref z7, .ref z8, .ref z9, .ref z10, .ref z11, .ref z12, .ref z13, .ref z14, .ref z15, .ref z16, .int cyc, .int li, .long me, .long mi, .int (nI sn), .ref z17])), (z1, .inl (G.2 2, 16, .inl fK)), (z6, .inl (G.2 3, 16, .inl fY))])) (QW G (some (.int (mrdy fK fY nM kd))) [(z0, .inr (6, [.int cdv, .int (nI nM), .ref z1, .ref z2, .ref z3, .ref z4, .ref z5, .ref z6, .int (nI nC), .ref z7, .ref z8, .ref z9, .ref z10, .ref z11, .ref z12, .ref z13, .ref z14, .ref z15, .ref z16, .int cyc, .int li, .long me, .long mi, .int (nI sn), .ref z17])), (z1, .inl (G.2 2, 16, .inl fK)), (z6, .inl (G.2 3, 16, .inl fY))] [(z0, .inr (6, [.int 0, .int (nI nM), .ref z1, .ref z2, .ref z3, .ref z4, .ref z5, .ref z6, .int (nI nC), .ref z7, .ref z8, .ref z9, .ref z10, .ref z11, .ref z12, .ref z13, .ref z14, .ref z15, .ref z16, .int cyc, .int li, .long me, .long mi, .int (nI sn), .ref z17])), (z1, .inl (G.2 2, 16, .inl fK)), (z6, .inl (G.2 3, 16, .inl fY))] sz) 0 0 (va_A [(z0, .inr (6, [.int cdv, .int (nI nM), .ref z1, .ref z2, .ref z3, .ref z4, .ref z5, .ref z6, .int (nI nC), .ref z7, .ref z8, .ref z9, .ref z10, .ref z11, .ref z12, .ref z13, .ref z14, .ref z15, .ref z16, .int cyc, .int li, .long me, .long mi, .int (nI sn), .ref z17])), (z1, .inl (G.2 2, 16, .inl fK)), (z6, .inl (G.2 3, 16, .inl fY))] sz) := by
  refine Met.ofW (cc := b_MOD_ready) (maxL := 4) (ret := (some .int)) (by decide) rfl ?_
  intro p e s m args below meth c s₁ B hml hv
  obtain ⟨rfl, hsz, hP, hGK, hD0⟩ := hv
  have hx := B.exec
  have hb := B.bytes
  have hr := B.returns
  have hts := atoms_spec (ws := w_MOD_ready) B.pre
  have hT : ∀ w ∈ lwG, w.before _ s = true := fun w h => hts w (List.mem_cons_of_mem _ h)
  have hown : s.vm.findClass R_MOD = some m.cls := findClass_of_methodNamed B.named
  have hlocks := B.notSynchronized
  have hK := hGK.1
  have hN := hGK.2
  subst hsz
  have hD := hD0.self (sz := s.heap.size)
  generalize hAe : va_A [(z0, .inr (6, [.int cdv, .int (nI nM), .ref z1, .ref z2, .ref z3, .ref z4, .ref z5, .ref z6, .int (nI nC), .ref z7, .ref z8, .ref z9, .ref z10, .ref z11, .ref z12, .ref z13, .ref z14, .ref z15, .ref z16, .int cyc, .int li, .long me, .long mi, .int (nI sn), .ref z17])), (z1, .inl (G.2 2, 16, .inl fK)), (z6, .inl (G.2 3, 16, .inl fY))] s.heap.size = A at hD ⊢
  have hA : ∀ q : Nat, s.heap.size ≤ q → A q := fun q h => by rw [← hAe]; exact Or.inr h
  have hS : va_S A s.heap s.heap [] := va_S.rf
  have hP : va_P G.1 vwCl [(z0, .inr (6, [.int cdv, .int (nI nM), .ref z1, .ref z2, .ref z3, .ref z4, .ref z5, .ref z6, .int (nI nC), .ref z7, .ref z8, .ref z9, .ref z10, .ref z11, .ref z12, .ref z13, .ref z14, .ref z15, .ref z16, .int cyc, .int li, .long me, .long mi, .int (nI sn), .ref z17])), (z1, .inl (G.2 2, 16, .inl fK)), (z6, .inl (G.2 3, 16, .inl fY))] s.heap := hP
  have hl := lv_entry ([.ref z0, .int kd]) (n := 4) (Nat.le_of_ble_eq_true rfl)
  rw [lg_entry_eq]
  generalize (lg_sl ([.ref z0, .int kd]) ++ List.replicate (4 - (lg_sl ([.ref z0, .int kd])).length) Slot.unset).toArray = ls at hl ⊢
  have hl : lv_has ls 4 [(0, .ref z0), (1, .int kd)] := hl
  refine lv_aload_n hx hb d_MOD_ready_0 rfl (lv_at hl 0 rfl) ?_
  refine lv_iconst (v := 0) hx hb d_MOD_ready_1 (by decide) ?_
  refine va_put (D := G.1) (ci := 6) (v := .int 0) (ty := .int) (C := R_MOD) (T := T_MOD) (N := 25) hx hb hT in_MOD t_MOD tok_MOD nok_MOD hown hK hP hD hS 0 rfl rfl 0 (by decide) (hT _ wd_582) (fun _ h9 => h9) rfl (by decide +kernel) rfl rfl (Nat.le_of_ble_eq_true rfl) d_MOD_ready_2 (fun H locs hP hD hS => ?_)
  have hP : va_P G.1 vwCl [(z0, .inr (6, [.int 0, .int (nI nM), .ref z1, .ref z2, .ref z3, .ref z4, .ref z5, .ref z6, .int (nI nC), .ref z7, .ref z8, .ref z9, .ref z10, .ref z11, .ref z12, .ref z13, .ref z14, .ref z15, .ref z16, .int cyc, .int li, .long me, .long mi, .int (nI sn), .ref z17])), (z1, .inl (G.2 2, 16, .inl fK)), (z6, .inl (G.2 3, 16, .inl fY))] H := hP
  have hD : va_D A [(z0, .inr (6, [.int 0, .int (nI nM), .ref z1, .ref z2, .ref z3, .ref z4, .ref z5, .ref z6, .int (nI nC), .ref z7, .ref z8, .ref z9, .ref z10, .ref z11, .ref z12, .ref z13, .ref z14, .ref z15, .ref z16, .int cyc, .int li, .long me, .long mi, .int (nI sn), .ref z17])), (z1, .inl (G.2 2, 16, .inl fK)), (z6, .inl (G.2 3, 16, .inl fY))] := hD
  refine lv_iload_n hx hb d_MOD_ready_5 rfl (lv_at hl 1 rfl) ?_
  refine lv_i2l (v := kd.toInt64) hx hb d_MOD_ready_6 rfl ?_
  refine lv_lconst (v := 0) hx hb d_MOD_ready_7 (by decide) ?_
  refine lv_ldc2 (v := 3) hx hb hown (hT _ wd_668) d_MOD_ready_8 ?_
  refine bx_callV (W.runS (As := [.long kd.toInt64, .long 0, .long 3]) (rest := []) ⟨hx, hb, hml, hown, hts⟩ (c_isIn l G kd.toInt64 0 3) ⟨(callB_of 3 hts (gi_all wd_671) rfl rfl rfl (hT _ wd_51) (hT _ wd_669) (by decide +kernel) ⟨Nat.le_of_ble_eq_true rfl, Nat.le_of_ble_eq_true rfl⟩), (hT _ wd_670)⟩ (psR bx_nil hGK) rfl rfl hl.1 rfl (lv_room (Nat.le_of_ble_eq_true rfl)) d_MOD_ready_11 ⟨Nat.le_of_ble_eq_true rfl, Nat.le_of_ble_eq_true rfl⟩) ?_
  refine lv_if_ne (tgt := 20) hx hb d_MOD_ready_14 (by decide) (fun c_14 => ?_) (fun c_14 => ?_)
  · refine lv_iconst (v := 2) hx hb d_MOD_ready_20 (by decide) ?_
    refine lv_istore_n (lv' := [(2, .int 2), (0, .ref z0), (1, .int kd)]) hx hb d_MOD_ready_21 rfl hl (by decide) rfl (fun ls hl => ?_)
    refine lv_iconst (v := 0) hx hb d_MOD_ready_22 (by decide) ?_
    refine lv_istore_n (lv' := [(3, .int 0), (2, .int 2), (0, .ref z0), (1, .int kd)]) hx hb d_MOD_ready_23 rfl hl (by decide) rfl (fun ls hl => ?_)
    refine bx_loop (σ := Nat × Int32) (fun q H locs ls => q.1 ≤ nM ∧ mrF fK fY kd nM (nM - q.1) q.2 = mrF fK fY kd nM nM 2 ∧ va_P G.1 vwCl [(z0, .inr (6, [.int 0, .int (nI nM), .ref z1, .ref z2, .ref z3, .ref z4, .ref z5, .ref z6, .int (nI nC), .ref z7, .ref z8, .ref z9, .ref z10, .ref z11, .ref z12, .ref z13, .ref z14, .ref z15, .ref z16, .int cyc, .int li, .long me, .long mi, .int (nI sn), .ref z17])), (z1, .inl (G.2 2, 16, .inl fK)), (z6, .inl (G.2 3, 16, .inl fY))] H ∧ va_D A [(z0, .inr (6, [.int 0, .int (nI nM), .ref z1, .ref z2, .ref z3, .ref z4, .ref z5, .ref z6, .int (nI nC), .ref z7, .ref z8, .ref z9, .ref z10, .ref z11, .ref z12, .ref z13, .ref z14, .ref z15, .ref z16, .int cyc, .int li, .long me, .long mi, .int (nI sn), .ref z17])), (z1, .inl (G.2 2, 16, .inl fK)), (z6, .inl (G.2 3, 16, .inl fY))] ∧ va_S A s.heap H locs ∧ lv_has ls 4 [(0, .ref z0), (1, .int kd), (2, .int q.2), (3, .int (nI q.1))]) (fun q => nM - q.1) _ (fun q H locs ls hI ih => ?_) (0, 2) ls ⟨Nat.zero_le _, rfl, hP, hD, hS, lv_sub hl [2, 3, 1, 0] rfl⟩
    obtain ⟨k, ac1⟩ := q
    obtain ⟨hknk, hmr, hP, hD, hS, hl⟩ := hI
    have hknk : k ≤ nM := hknk
    have hmr : mrF fK fY kd nM (nM - k) ac1 = mrF fK fY kd nM nM 2 := hmr
    have hP : va_P G.1 vwCl [(z0, .inr (6, [.int 0, .int (nI nM), .ref z1, .ref z2, .ref z3, .ref z4, .ref z5, .ref z6, .int (nI nC), .ref z7, .ref z8, .ref z9, .ref z10, .ref z11, .ref z12, .ref z13, .ref z14, .ref z15, .ref z16, .int cyc, .int li, .long me, .long mi, .int (nI sn), .ref z17])), (z1, .inl (G.2 2, 16, .inl fK)), (z6, .inl (G.2 3, 16, .inl fY))] H := hP
    have hD : va_D A [(z0, .inr (6, [.int 0, .int (nI nM), .ref z1, .ref z2, .ref z3, .ref z4, .ref z5, .ref z6, .int (nI nC), .ref z7, .ref z8, .ref z9, .ref z10, .ref z11, .ref z12, .ref z13, .ref z14, .ref z15, .ref z16, .int cyc, .int li, .long me, .long mi, .int (nI sn), .ref z17])), (z1, .inl (G.2 2, 16, .inl fK)), (z6, .inl (G.2 3, 16, .inl fY))] := hD
    have hl : lv_has ls 4 [(0, .ref z0), (1, .int kd), (2, .int ac1), (3, .int (nI k))] := hl
    refine lv_iload_n hx hb d_MOD_ready_24 rfl (lv_at hl 3 rfl) ?_
    refine lv_aload_n hx hb d_MOD_ready_25 rfl (lv_at hl 0 rfl) ?_
    refine va_get (D := G.1) (ci := 6) (v := .int (nI nM)) (C := R_MOD) (T := T_MOD) (N := 25) hx hb hT in_MOD hown hK hP 0 rfl rfl 1 (by decide) (hT _ wd_583) (fun _ h9 => h9) rfl d_MOD_ready_26 ?_
    refine lv_icmp_ge (tgt := 67) hx hb d_MOD_ready_29 (by decide) (fun c_29 => ?_) (fun c_29 => ?_)
    · have hge : nM ≤ k := (nI_leI (by omega) (by omega)).mp c_29
      have hke : k = nM := by omega
      refine lv_iload_n hx hb d_MOD_ready_67 rfl (lv_at hl 2 rfl) ?_
      have hq9 : (.int (mrdy fK fY nM kd)) = (.int ac1 : Value) := by rw [mrdy, if_neg c_14, ← hmr, hke, Nat.sub_self]; rfl
      exact W.iret (v := ac1) hx hb hr (fun t ht hW => ⟨⟨by rw [hq9], by rw [ht]; exact hP, by rw [hAe]; exact hD⟩, by rw [hAe]; exact hS.F ht⟩) hS.2.2 d_MOD_ready_68
    · have hk : k < nM := Nat.not_le.mp (fun z => c_29 (nI_le z (by omega)))
      refine lv_aload_n hx hb d_MOD_ready_32 rfl (lv_at hl 0 rfl) ?_
      refine va_get (D := G.1) (ci := 6) (v := .ref z1) (C := R_MOD) (T := T_MOD) (N := 25) hx hb hT in_MOD hown hK hP 0 rfl rfl 2 (by decide) (hT _ wd_584) (fun _ h9 => h9) rfl d_MOD_ready_33 ?_
      refine lv_iload_n hx hb d_MOD_ready_36 rfl (lv_at hl 3 rfl) ?_
      refine va_iald hx hb hK hP 1 2 rfl rfl (vp_in_nI (by omega) (by omega)) d_MOD_ready_37 ?_
      refine W.eq (g2 := F0 m 38 ls (.int (fK k) :: [])) (by rw [nI_clamp (by omega)]) ?_
      refine lv_iload_n hx hb d_MOD_ready_38 rfl (lv_at hl 1 rfl) ?_
      refine lv_icmp_ne (tgt := 61) hx hb d_MOD_ready_39 (by decide) (fun c_39 => ?_) (fun c_39 => ?_)
      · refine lv_iinc (v := nI (k + 1)) (lv' := [(3, .int (nI (k + 1))), (0, .ref z0), (1, .int kd), (2, .int ac1)]) hx hb d_MOD_ready_61 hl (k := 3) rfl (nI_succ _).symm (by decide) rfl (fun ls hl => ?_)
        refine lv_goto (tgt := 24) hx hb d_MOD_ready_64 (by decide) ?_
        exact ih ((k + 1), ac1) _ _ _ ⟨hk, by rw [← hmr, mrF_step _ _ hk]; simp [c_14, c_29, c_39], hP, hD, hS, lv_sub hl [1, 2, 3, 0] rfl⟩ (by show nM - (k + 1) < nM - k; omega)
      · refine lv_aload_n hx hb d_MOD_ready_42 rfl (lv_at hl 0 rfl) ?_
        refine va_get (D := G.1) (ci := 6) (v := .ref z6) (C := R_MOD) (T := T_MOD) (N := 25) hx hb hT in_MOD hown hK hP 0 rfl rfl 7 (by decide) (hT _ wd_589) (fun _ h9 => h9) rfl d_MOD_ready_43 ?_
        refine lv_iload_n hx hb d_MOD_ready_46 rfl (lv_at hl 3 rfl) ?_
        refine va_zald hx hb hK hP 2 3 rfl rfl (vp_in_nI (by omega) (by omega)) d_MOD_ready_47 ?_
        refine W.eq (g2 := F0 m 48 ls (.int (fY k) :: [])) (by rw [nI_clamp (by omega)]) ?_
        refine lv_if_eq (tgt := 59) hx hb d_MOD_ready_48 (by decide) (fun c_48 => ?_) (fun c_48 => ?_)
        · refine lv_iconst (v := 0) hx hb d_MOD_ready_59 (by decide) ?_
          refine lv_istore_n (lv' := [(2, .int 0), (0, .ref z0), (1, .int kd), (3, .int (nI k))]) hx hb d_MOD_ready_60 rfl hl (by decide) rfl (fun ls hl => ?_)
          refine lv_iinc (v := nI (k + 1)) (lv' := [(3, .int (nI (k + 1))), (2, .int 0), (0, .ref z0), (1, .int kd)]) hx hb d_MOD_ready_61 hl (k := 3) rfl (nI_succ _).symm (by decide) rfl (fun ls hl => ?_)
          refine lv_goto (tgt := 24) hx hb d_MOD_ready_64 (by decide) ?_
          exact ih ((k + 1), 0) _ _ _ ⟨hk, by rw [← hmr, mrF_step _ _ hk]; simp [c_14, c_29, c_39, c_48], hP, hD, hS, lv_sub hl [2, 3, 1, 0] rfl⟩ (by show nM - (k + 1) < nM - k; omega)
        · refine lv_iload_n hx hb d_MOD_ready_51 rfl (lv_at hl 2 rfl) ?_
          refine lv_if_eq (tgt := 59) hx hb d_MOD_ready_52 (by decide) (fun c_52 => ?_) (fun c_52 => ?_)
          · refine lv_iconst (v := 0) hx hb d_MOD_ready_59 (by decide) ?_
            refine lv_istore_n (lv' := [(2, .int 0), (0, .ref z0), (1, .int kd), (3, .int (nI k))]) hx hb d_MOD_ready_60 rfl hl (by decide) rfl (fun ls hl => ?_)
            refine lv_iinc (v := nI (k + 1)) (lv' := [(3, .int (nI (k + 1))), (2, .int 0), (0, .ref z0), (1, .int kd)]) hx hb d_MOD_ready_61 hl (k := 3) rfl (nI_succ _).symm (by decide) rfl (fun ls hl => ?_)
            refine lv_goto (tgt := 24) hx hb d_MOD_ready_64 (by decide) ?_
            exact ih ((k + 1), 0) _ _ _ ⟨hk, by rw [← hmr, mrF_step _ _ hk]; simp [c_14, c_29, c_39, c_48, c_52], hP, hD, hS, lv_sub hl [2, 3, 1, 0] rfl⟩ (by show nM - (k + 1) < nM - k; omega)
          · refine lv_iconst (v := 1) hx hb d_MOD_ready_55 (by decide) ?_
            refine lv_goto (tgt := 60) hx hb d_MOD_ready_56 (by decide) ?_
            refine lv_istore_n (lv' := [(2, .int 1), (0, .ref z0), (1, .int kd), (3, .int (nI k))]) hx hb d_MOD_ready_60 rfl hl (by decide) rfl (fun ls hl => ?_)
            refine lv_iinc (v := nI (k + 1)) (lv' := [(3, .int (nI (k + 1))), (2, .int 1), (0, .ref z0), (1, .int kd)]) hx hb d_MOD_ready_61 hl (k := 3) rfl (nI_succ _).symm (by decide) rfl (fun ls hl => ?_)
            refine lv_goto (tgt := 24) hx hb d_MOD_ready_64 (by decide) ?_
            exact ih ((k + 1), 1) _ _ _ ⟨hk, by rw [← hmr, mrF_step _ _ hk]; simp [c_14, c_29, c_39, c_48, c_52], hP, hD, hS, lv_sub hl [2, 3, 1, 0] rfl⟩ (by show nM - (k + 1) < nM - k; omega)
  · refine lv_bipush (v := (-2)) hx hb d_MOD_ready_17 (by decide) ?_
    have hq9 : (.int (mrdy fK fY nM kd)) = (.int (-2) : Value) := by first | (simp [mrdy, c_14]; done) | (simp_all [mrdy]; done)
    exact W.iret (v := (-2)) hx hb hr (fun t ht hW => ⟨⟨by rw [hq9], by rw [ht]; exact hP, by rw [hAe]; exact hD⟩, by rw [hAe]; exact hS.F ht⟩) hS.2.2 d_MOD_ready_19
set_option maxHeartbeats 4000000 in
set_option maxRecDepth 100000 in
theorem c_mpermanent (l : Launch) (G : GG) (sz : Nat) (z0 : Nat) (z1 : Nat) (z2 : Nat) (z3 : Nat) (z4 : Nat) (z5 : Nat) (z6 : Nat) (z7 : Nat) (z8 : Nat) (z9 : Nat) (z10 : Nat) (z11 : Nat) (z12 : Nat) (z13 : Nat) (z14 : Nat) (z15 : Nat) (z16 : Nat) (z17 : Nat) (cdv : Int32) (cyc : Int32) (li : Int32) (nM : Nat) (nC : Nat) (sn : Nat) (me : Int64) (mi : Int64) (gN : Nat → Int32) (gL : Nat → Int32) (pi : Int32) (hn : nC ≤ 20) : Met l y_MOD_permanent w_MOD_permanent ({ frames := 0, cells := 0, slots := 0, locals := 0 }) (va_Pc [.ref z0, .int pi] (Pw G sz [(z0, .inr (6, [.int cdv, .int (nI nM), .ref z1, .ref z2, .ref z3, .ref z4, .ref z5, .ref z6, .int (nI nC), .ref z7, .ref z8, .ref z9, .ref z10, .ref z11, .ref z12, .ref z13, .ref z14, .ref z15, .ref z16, .int cyc, .int li, .long me, .long mi, .int (nI sn), .ref z17])), (z7, .inl (G.2 2, 20, .inl gN)), (z11, .inl (G.2 3, 20, .inl gL))])) (QW G (some (.int (mpF gN gL pi nC nC 0))) [(z0, .inr (6, [.int cdv, .int (nI nM), .ref z1, .ref z2, .ref z3, .ref z4, .ref z5, .ref z6, .int (nI nC), .ref z7, .ref z8, .ref z9, .ref z10, .ref z11, .ref z12, .ref z13, .ref z14, .ref z15, .ref z16, .int cyc, .int li, .long me, .long mi, .int (nI sn), .ref z17])), (z7, .inl (G.2 2, 20, .inl gN)), (z11, .inl (G.2 3, 20, .inl gL))] [(z0, .inr (6, [.int 0, .int (nI nM), .ref z1, .ref z2, .ref z3, .ref z4, .ref z5, .ref z6, .int (nI nC), .ref z7, .ref z8, .ref z9, .ref z10, .ref z11, .ref z12, .ref z13, .ref z14, .ref z15, .ref z16, .int cyc, .int li, .long me, .long mi, .int (nI sn), .ref z17])), (z7, .inl (G.2 2, 20, .inl gN)), (z11, .inl (G.2 3, 20, .inl gL))] sz) 0 0 (va_A [(z0, .inr (6, [.int cdv, .int (nI nM), .ref z1, .ref z2, .ref z3, .ref z4, .ref z5, .ref z6, .int (nI nC), .ref z7, .ref z8, .ref z9, .ref z10, .ref z11, .ref z12, .ref z13, .ref z14, .ref z15, .ref z16, .int cyc, .int li, .long me, .long mi, .int (nI sn), .ref z17])), (z7, .inl (G.2 2, 20, .inl gN)), (z11, .inl (G.2 3, 20, .inl gL))] sz) := by
  refine Met.ofW (cc := b_MOD_permanent) (maxL := 4) (ret := (some .int)) (by decide) rfl ?_
  intro p e s m args below meth c s₁ B hml hv
  obtain ⟨rfl, hsz, hP, hGK, hD0⟩ := hv
  have hx := B.exec
  have hb := B.bytes
  have hr := B.returns
  have hts := atoms_spec (ws := w_MOD_permanent) B.pre
  have hT : ∀ w ∈ lwG, w.before _ s = true := fun w h => hts w (List.mem_cons_of_mem _ h)
  have hown : s.vm.findClass R_MOD = some m.cls := findClass_of_methodNamed B.named
  have hlocks := B.notSynchronized
  have hK := hGK.1
  have hN := hGK.2
  subst hsz
  have hD := hD0.self (sz := s.heap.size)
  generalize hAe : va_A [(z0, .inr (6, [.int cdv, .int (nI nM), .ref z1, .ref z2, .ref z3, .ref z4, .ref z5, .ref z6, .int (nI nC), .ref z7, .ref z8, .ref z9, .ref z10, .ref z11, .ref z12, .ref z13, .ref z14, .ref z15, .ref z16, .int cyc, .int li, .long me, .long mi, .int (nI sn), .ref z17])), (z7, .inl (G.2 2, 20, .inl gN)), (z11, .inl (G.2 3, 20, .inl gL))] s.heap.size = A at hD ⊢
  have hA : ∀ q : Nat, s.heap.size ≤ q → A q := fun q h => by rw [← hAe]; exact Or.inr h
  have hS : va_S A s.heap s.heap [] := va_S.rf
  have hP : va_P G.1 vwCl [(z0, .inr (6, [.int cdv, .int (nI nM), .ref z1, .ref z2, .ref z3, .ref z4, .ref z5, .ref z6, .int (nI nC), .ref z7, .ref z8, .ref z9, .ref z10, .ref z11, .ref z12, .ref z13, .ref z14, .ref z15, .ref z16, .int cyc, .int li, .long me, .long mi, .int (nI sn), .ref z17])), (z7, .inl (G.2 2, 20, .inl gN)), (z11, .inl (G.2 3, 20, .inl gL))] s.heap := hP
  have hl := lv_entry ([.ref z0, .int pi]) (n := 4) (Nat.le_of_ble_eq_true rfl)
  rw [lg_entry_eq]
  generalize (lg_sl ([.ref z0, .int pi]) ++ List.replicate (4 - (lg_sl ([.ref z0, .int pi])).length) Slot.unset).toArray = ls at hl ⊢
  have hl : lv_has ls 4 [(0, .ref z0), (1, .int pi)] := hl
  refine lv_aload_n hx hb d_MOD_permanent_0 rfl (lv_at hl 0 rfl) ?_
  refine lv_iconst (v := 0) hx hb d_MOD_permanent_1 (by decide) ?_
  refine va_put (D := G.1) (ci := 6) (v := .int 0) (ty := .int) (C := R_MOD) (T := T_MOD) (N := 25) hx hb hT in_MOD t_MOD tok_MOD nok_MOD hown hK hP hD hS 0 rfl rfl 0 (by decide) (hT _ wd_582) (fun _ h9 => h9) rfl (by decide +kernel) rfl rfl (Nat.le_of_ble_eq_true rfl) d_MOD_permanent_2 (fun H locs hP hD hS => ?_)
  have hP : va_P G.1 vwCl [(z0, .inr (6, [.int 0, .int (nI nM), .ref z1, .ref z2, .ref z3, .ref z4, .ref z5, .ref z6, .int (nI nC), .ref z7, .ref z8, .ref z9, .ref z10, .ref z11, .ref z12, .ref z13, .ref z14, .ref z15, .ref z16, .int cyc, .int li, .long me, .long mi, .int (nI sn), .ref z17])), (z7, .inl (G.2 2, 20, .inl gN)), (z11, .inl (G.2 3, 20, .inl gL))] H := hP
  have hD : va_D A [(z0, .inr (6, [.int 0, .int (nI nM), .ref z1, .ref z2, .ref z3, .ref z4, .ref z5, .ref z6, .int (nI nC), .ref z7, .ref z8, .ref z9, .ref z10, .ref z11, .ref z12, .ref z13, .ref z14, .ref z15, .ref z16, .int cyc, .int li, .long me, .long mi, .int (nI sn), .ref z17])), (z7, .inl (G.2 2, 20, .inl gN)), (z11, .inl (G.2 3, 20, .inl gL))] := hD
  refine lv_iconst (v := 0) hx hb d_MOD_permanent_5 (by decide) ?_
  refine lv_istore_n (lv' := [(2, .int 0), (0, .ref z0), (1, .int pi)]) hx hb d_MOD_permanent_6 rfl hl (by decide) rfl (fun ls hl => ?_)
  refine lv_iconst (v := 0) hx hb d_MOD_permanent_7 (by decide) ?_
  refine lv_istore_n (lv' := [(3, .int 0), (2, .int 0), (0, .ref z0), (1, .int pi)]) hx hb d_MOD_permanent_8 rfl hl (by decide) rfl (fun ls hl => ?_)
  refine bx_loop (σ := Nat × Int32) (fun q H locs ls => q.1 ≤ nC ∧ mpF gN gL pi nC (nC - q.1) q.2 = mpF gN gL pi nC nC 0 ∧ va_P G.1 vwCl [(z0, .inr (6, [.int 0, .int (nI nM), .ref z1, .ref z2, .ref z3, .ref z4, .ref z5, .ref z6, .int (nI nC), .ref z7, .ref z8, .ref z9, .ref z10, .ref z11, .ref z12, .ref z13, .ref z14, .ref z15, .ref z16, .int cyc, .int li, .long me, .long mi, .int (nI sn), .ref z17])), (z7, .inl (G.2 2, 20, .inl gN)), (z11, .inl (G.2 3, 20, .inl gL))] H ∧ va_D A [(z0, .inr (6, [.int 0, .int (nI nM), .ref z1, .ref z2, .ref z3, .ref z4, .ref z5, .ref z6, .int (nI nC), .ref z7, .ref z8, .ref z9, .ref z10, .ref z11, .ref z12, .ref z13, .ref z14, .ref z15, .ref z16, .int cyc, .int li, .long me, .long mi, .int (nI sn), .ref z17])), (z7, .inl (G.2 2, 20, .inl gN)), (z11, .inl (G.2 3, 20, .inl gL))] ∧ va_S A s.heap H locs ∧ lv_has ls 4 [(0, .ref z0), (1, .int pi), (2, .int q.2), (3, .int (nI q.1))]) (fun q => nC - q.1) _ (fun q H locs ls hI ih => ?_) (0, 0) ls ⟨Nat.zero_le _, rfl, hP, hD, hS, lv_sub hl [2, 3, 1, 0] rfl⟩
  obtain ⟨k, bf⟩ := q
  obtain ⟨hknk, hpm, hP, hD, hS, hl⟩ := hI
  have hknk : k ≤ nC := hknk
  have hpm : mpF gN gL pi nC (nC - k) bf = mpF gN gL pi nC nC 0 := hpm
  have hP : va_P G.1 vwCl [(z0, .inr (6, [.int 0, .int (nI nM), .ref z1, .ref z2, .ref z3, .ref z4, .ref z5, .ref z6, .int (nI nC), .ref z7, .ref z8, .ref z9, .ref z10, .ref z11, .ref z12, .ref z13, .ref z14, .ref z15, .ref z16, .int cyc, .int li, .long me, .long mi, .int (nI sn), .ref z17])), (z7, .inl (G.2 2, 20, .inl gN)), (z11, .inl (G.2 3, 20, .inl gL))] H := hP
  have hD : va_D A [(z0, .inr (6, [.int 0, .int (nI nM), .ref z1, .ref z2, .ref z3, .ref z4, .ref z5, .ref z6, .int (nI nC), .ref z7, .ref z8, .ref z9, .ref z10, .ref z11, .ref z12, .ref z13, .ref z14, .ref z15, .ref z16, .int cyc, .int li, .long me, .long mi, .int (nI sn), .ref z17])), (z7, .inl (G.2 2, 20, .inl gN)), (z11, .inl (G.2 3, 20, .inl gL))] := hD
  have hl : lv_has ls 4 [(0, .ref z0), (1, .int pi), (2, .int bf), (3, .int (nI k))] := hl
  refine lv_iload_n hx hb d_MOD_permanent_9 rfl (lv_at hl 3 rfl) ?_
  refine lv_aload_n hx hb d_MOD_permanent_10 rfl (lv_at hl 0 rfl) ?_
  refine va_get (D := G.1) (ci := 6) (v := .int (nI nC)) (C := R_MOD) (T := T_MOD) (N := 25) hx hb hT in_MOD hown hK hP 0 rfl rfl 8 (by decide) (hT _ wd_590) (fun _ h9 => h9) rfl d_MOD_permanent_11 ?_
  refine lv_icmp_ge (tgt := 47) hx hb d_MOD_permanent_14 (by decide) (fun c_14 => ?_) (fun c_14 => ?_)
  · have hge : nC ≤ k := (nI_leI (by omega) (by omega)).mp c_14
    have hke : k = nC := by omega
    refine lv_iconst (v := 0) hx hb d_MOD_permanent_47 (by decide) ?_
    have hq9 : (.int (mpF gN gL pi nC nC 0)) = (.int 0 : Value) := by rw [← hpm, hke, Nat.sub_self]; rfl
    exact W.iret (v := 0) hx hb hr (fun t ht hW => ⟨⟨by rw [hq9], by rw [ht]; exact hP, by rw [hAe]; exact hD⟩, by rw [hAe]; exact hS.F ht⟩) hS.2.2 d_MOD_permanent_48
  · have hk : k < nC := Nat.not_le.mp (fun z => c_14 (nI_le z (by omega)))
    refine lv_aload_n hx hb d_MOD_permanent_17 rfl (lv_at hl 0 rfl) ?_
    refine va_get (D := G.1) (ci := 6) (v := .ref z11) (C := R_MOD) (T := T_MOD) (N := 25) hx hb hT in_MOD hown hK hP 0 rfl rfl 13 (by decide) (hT _ wd_595) (fun _ h9 => h9) rfl d_MOD_permanent_18 ?_
    refine lv_iload_n hx hb d_MOD_permanent_21 rfl (lv_at hl 3 rfl) ?_
    refine va_zald hx hb hK hP 2 3 rfl rfl (vp_in_nI (by omega) (by omega)) d_MOD_permanent_22 ?_
    refine W.eq (g2 := F0 m 23 ls (.int (gL k) :: [])) (by rw [nI_clamp (by omega)]) ?_
    refine lv_if_eq (tgt := 41) hx hb d_MOD_permanent_23 (by decide) (fun c_23 => ?_) (fun c_23 => ?_)
    · refine lv_iinc (v := nI (k + 1)) (lv' := [(3, .int (nI (k + 1))), (0, .ref z0), (1, .int pi), (2, .int bf)]) hx hb d_MOD_permanent_41 hl (k := 3) rfl (nI_succ _).symm (by decide) rfl (fun ls hl => ?_)
      refine lv_goto (tgt := 9) hx hb d_MOD_permanent_44 (by decide) ?_
      exact ih ((k + 1), bf) _ _ _ ⟨hk, by rw [← hpm, mpF_step _ _ hk]; simp [c_14, c_23], hP, hD, hS, lv_sub hl [1, 2, 3, 0] rfl⟩ (by show nC - (k + 1) < nC - k; omega)
    · refine lv_iload_n hx hb d_MOD_permanent_26 rfl (lv_at hl 2 rfl) ?_
      refine lv_iload_n hx hb d_MOD_permanent_27 rfl (lv_at hl 1 rfl) ?_
      refine lv_icmp_ne (tgt := 38) hx hb d_MOD_permanent_28 (by decide) (fun c_28 => ?_) (fun c_28 => ?_)
      · refine lv_iinc (v := bf + 1) (lv' := [(2, .int (bf + 1)), (0, .ref z0), (1, .int pi), (3, .int (nI k))]) hx hb d_MOD_permanent_38 hl (k := 2) rfl rfl (by decide) rfl (fun ls hl => ?_)
        refine lv_iinc (v := nI (k + 1)) (lv' := [(3, .int (nI (k + 1))), (2, .int (bf + 1)), (0, .ref z0), (1, .int pi)]) hx hb d_MOD_permanent_41 hl (k := 3) rfl (nI_succ _).symm (by decide) rfl (fun ls hl => ?_)
        refine lv_goto (tgt := 9) hx hb d_MOD_permanent_44 (by decide) ?_
        exact ih ((k + 1), bf + 1) _ _ _ ⟨hk, by rw [← hpm, mpF_step _ _ hk]; simp [c_14, c_23, c_28], hP, hD, hS, lv_sub hl [2, 3, 1, 0] rfl⟩ (by show nC - (k + 1) < nC - k; omega)
      · refine lv_aload_n hx hb d_MOD_permanent_31 rfl (lv_at hl 0 rfl) ?_
        refine va_get (D := G.1) (ci := 6) (v := .ref z7) (C := R_MOD) (T := T_MOD) (N := 25) hx hb hT in_MOD hown hK hP 0 rfl rfl 9 (by decide) (hT _ wd_591) (fun _ h9 => h9) rfl d_MOD_permanent_32 ?_
        refine lv_iload_n hx hb d_MOD_permanent_35 rfl (lv_at hl 3 rfl) ?_
        refine va_iald hx hb hK hP 1 2 rfl rfl (vp_in_nI (by omega) (by omega)) d_MOD_permanent_36 ?_
        refine W.eq (g2 := F0 m 37 ls (.int (gN k) :: [])) (by rw [nI_clamp (by omega)]) ?_
        have hq9 : (.int (mpF gN gL pi nC nC 0)) = (.int (gN k) : Value) := by rw [← hpm, mpF_step _ _ hk]; simp [c_23, c_28]
        exact W.iret (v := gN k) hx hb hr (fun t ht hW => ⟨⟨by rw [hq9], by rw [ht]; exact hP, by rw [hAe]; exact hD⟩, by rw [hAe]; exact hS.F ht⟩) hS.2.2 d_MOD_permanent_37
set_option maxHeartbeats 4000000 in
set_option maxRecDepth 100000 in
theorem c_mlamp (l : Launch) (G : GG) (sz : Nat) (z0 : Nat) (z1 : Nat) (z2 : Nat) (z3 : Nat) (z4 : Nat) (z5 : Nat) (z6 : Nat) (z7 : Nat) (z8 : Nat) (z9 : Nat) (z10 : Nat) (z11 : Nat) (z12 : Nat) (z13 : Nat) (z14 : Nat) (z15 : Nat) (z16 : Nat) (z17 : Nat) (cdv : Int32) (cyc : Int32) (li : Int32) (nM : Nat) (nC : Nat) (sn : Nat) (me : Int64) (mi : Int64) (xm : Int64) (xi : Int64)  : Met l y_MOD_lamp w_MOD_lamp ({ frames := 1, cells := 0, slots := 0, locals := 25 }) (va_Pc [.ref z0, .long xm, .long xi] (Pw G sz [(z0, .inr (6, [.int cdv, .int (nI nM), .ref z1, .ref z2, .ref z3, .ref z4, .ref z5, .ref z6, .int (nI nC), .ref z7, .ref z8, .ref z9, .ref z10, .ref z11, .ref z12, .ref z13, .ref z14, .ref z15, .ref z16, .int cyc, .int li, .long me, .long mi, .int (nI sn), .ref z17]))])) (QW G (some (.int (mlR xm xi li))) [(z0, .inr (6, [.int cdv, .int (nI nM), .ref z1, .ref z2, .ref z3, .ref z4, .ref z5, .ref z6, .int (nI nC), .ref z7, .ref z8, .ref z9, .ref z10, .ref z11, .ref z12, .ref z13, .ref z14, .ref z15, .ref z16, .int cyc, .int li, .long me, .long mi, .int (nI sn), .ref z17]))] [(z0, .inr (6, [.int 0, .int (nI nM), .ref z1, .ref z2, .ref z3, .ref z4, .ref z5, .ref z6, .int (nI nC), .ref z7, .ref z8, .ref z9, .ref z10, .ref z11, .ref z12, .ref z13, .ref z14, .ref z15, .ref z16, .int cyc, .int li, .long (mlX xm xi li me xm), .long (mlX xm xi li mi xi), .int (nI sn), .ref z17]))] sz) 0 0 (va_A [(z0, .inr (6, [.int cdv, .int (nI nM), .ref z1, .ref z2, .ref z3, .ref z4, .ref z5, .ref z6, .int (nI nC), .ref z7, .ref z8, .ref z9, .ref z10, .ref z11, .ref z12, .ref z13, .ref z14, .ref z15, .ref z16, .int cyc, .int li, .long me, .long mi, .int (nI sn), .ref z17]))] sz) := by
  refine Met.ofW (cc := b_MOD_lamp) (maxL := 5) (ret := (some .int)) (by decide) rfl ?_
  intro p e s m args below meth c s₁ B hml hv
  obtain ⟨rfl, hsz, hP, hGK, hD0⟩ := hv
  have hx := B.exec
  have hb := B.bytes
  have hr := B.returns
  have hts := atoms_spec (ws := w_MOD_lamp) B.pre
  have hT : ∀ w ∈ lwG, w.before _ s = true := fun w h => hts w (List.mem_cons_of_mem _ h)
  have hown : s.vm.findClass R_MOD = some m.cls := findClass_of_methodNamed B.named
  have hlocks := B.notSynchronized
  have hK := hGK.1
  have hN := hGK.2
  subst hsz
  have hD := hD0.self (sz := s.heap.size)
  generalize hAe : va_A [(z0, .inr (6, [.int cdv, .int (nI nM), .ref z1, .ref z2, .ref z3, .ref z4, .ref z5, .ref z6, .int (nI nC), .ref z7, .ref z8, .ref z9, .ref z10, .ref z11, .ref z12, .ref z13, .ref z14, .ref z15, .ref z16, .int cyc, .int li, .long me, .long mi, .int (nI sn), .ref z17]))] s.heap.size = A at hD ⊢
  have hA : ∀ q : Nat, s.heap.size ≤ q → A q := fun q h => by rw [← hAe]; exact Or.inr h
  have hS : va_S A s.heap s.heap [] := va_S.rf
  have hP : va_P G.1 vwCl [(z0, .inr (6, [.int cdv, .int (nI nM), .ref z1, .ref z2, .ref z3, .ref z4, .ref z5, .ref z6, .int (nI nC), .ref z7, .ref z8, .ref z9, .ref z10, .ref z11, .ref z12, .ref z13, .ref z14, .ref z15, .ref z16, .int cyc, .int li, .long me, .long mi, .int (nI sn), .ref z17]))] s.heap := hP
  have hl := lv_entry ([.ref z0, .long xm, .long xi]) (n := 5) (Nat.le_of_ble_eq_true rfl)
  rw [lg_entry_eq]
  generalize (lg_sl ([.ref z0, .long xm, .long xi]) ++ List.replicate (5 - (lg_sl ([.ref z0, .long xm, .long xi])).length) Slot.unset).toArray = ls at hl ⊢
  have hl : lv_has ls 5 [(0, .ref z0), (1, .long xm), (3, .long xi)] := hl
  refine lv_aload_n hx hb d_MOD_lamp_0 rfl (lv_at hl 0 rfl) ?_
  refine lv_iconst (v := 0) hx hb d_MOD_lamp_1 (by decide) ?_
  refine va_put (D := G.1) (ci := 6) (v := .int 0) (ty := .int) (C := R_MOD) (T := T_MOD) (N := 25) hx hb hT in_MOD t_MOD tok_MOD nok_MOD hown hK hP hD hS 0 rfl rfl 0 (by decide) (hT _ wd_582) (fun _ h9 => h9) rfl (by decide +kernel) rfl rfl (Nat.le_of_ble_eq_true rfl) d_MOD_lamp_2 (fun H locs hP hD hS => ?_)
  have hP : va_P G.1 vwCl [(z0, .inr (6, [.int 0, .int (nI nM), .ref z1, .ref z2, .ref z3, .ref z4, .ref z5, .ref z6, .int (nI nC), .ref z7, .ref z8, .ref z9, .ref z10, .ref z11, .ref z12, .ref z13, .ref z14, .ref z15, .ref z16, .int cyc, .int li, .long me, .long mi, .int (nI sn), .ref z17]))] H := hP
  have hD : va_D A [(z0, .inr (6, [.int 0, .int (nI nM), .ref z1, .ref z2, .ref z3, .ref z4, .ref z5, .ref z6, .int (nI nC), .ref z7, .ref z8, .ref z9, .ref z10, .ref z11, .ref z12, .ref z13, .ref z14, .ref z15, .ref z16, .int cyc, .int li, .long me, .long mi, .int (nI sn), .ref z17]))] := hD
  refine lv_lload_n hx hb d_MOD_lamp_5 rfl (lv_at hl 1 rfl) ?_
  refine lv_lconst (v := 0) hx hb d_MOD_lamp_6 (by decide) ?_
  refine lv_ldc2 (v := 1000000000) hx hb hown (hT _ wd_731) d_MOD_lamp_7 ?_
  refine bx_callV (W.runS (As := [.long xm, .long 0, .long 1000000000]) (rest := []) ⟨hx, hb, hml, hown, hts⟩ (c_isIn l G xm 0 1000000000) ⟨(callB_of 3 hts (gi_all wd_671) rfl rfl rfl (hT _ wd_51) (hT _ wd_669) (by decide +kernel) ⟨Nat.le_of_ble_eq_true rfl, Nat.le_of_ble_eq_true rfl⟩), (hT _ wd_670)⟩ (psR bx_nil hGK) rfl rfl hl.1 rfl (lv_room (Nat.le_of_ble_eq_true rfl)) d_MOD_lamp_10 ⟨Nat.le_of_ble_eq_true rfl, Nat.le_of_ble_eq_true rfl⟩) ?_
  refine lv_if_eq (tgt := 27) hx hb d_MOD_lamp_13 (by decide) (fun c_13 => ?_) (fun c_13 => ?_)
  · refine lv_bipush (v := (-2)) hx hb d_MOD_lamp_27 (by decide) ?_
    have hw9 : ([(z0, .inr (6, [.int 0, .int (nI nM), .ref z1, .ref z2, .ref z3, .ref z4, .ref z5, .ref z6, .int (nI nC), .ref z7, .ref z8, .ref z9, .ref z10, .ref z11, .ref z12, .ref z13, .ref z14, .ref z15, .ref z16, .int cyc, .int li, .long (mlX xm xi li me xm), .long (mlX xm xi li mi xi), .int (nI sn), .ref z17]))] : va_W) = [(z0, .inr (6, [.int 0, .int (nI nM), .ref z1, .ref z2, .ref z3, .ref z4, .ref z5, .ref z6, .int (nI nC), .ref z7, .ref z8, .ref z9, .ref z10, .ref z11, .ref z12, .ref z13, .ref z14, .ref z15, .ref z16, .int cyc, .int li, .long me, .long mi, .int (nI sn), .ref z17]))] := by first | (simp [mlR, mlX, mlB, c_13]; done) | (simp_all [mlR, mlX, mlB]; done)
    rw [← hw9] at hP hD
    have hq9 : (.int (mlR xm xi li)) = (.int (-2) : Value) := by first | (simp [mlR, mlX, mlB, c_13]; done) | (simp_all [mlR, mlX, mlB]; done)
    exact W.iret (v := (-2)) hx hb hr (fun t ht hW => ⟨⟨by rw [hq9], by rw [ht]; exact hP, by rw [hAe]; exact hD⟩, by rw [hAe]; exact hS.F ht⟩) hS.2.2 d_MOD_lamp_29
  · refine lv_lload_n hx hb d_MOD_lamp_16 rfl (lv_at hl 2 rfl) ?_
    refine lv_lconst (v := 0) hx hb d_MOD_lamp_17 (by decide) ?_
    refine lv_ldc2 (v := 1000000000) hx hb hown (hT _ wd_731) d_MOD_lamp_18 ?_
    refine bx_callV (W.runS (As := [.long xi, .long 0, .long 1000000000]) (rest := []) ⟨hx, hb, hml, hown, hts⟩ (c_isIn l G xi 0 1000000000) ⟨(callB_of 3 hts (gi_all wd_671) rfl rfl rfl (hT _ wd_51) (hT _ wd_669) (by decide +kernel) ⟨Nat.le_of_ble_eq_true rfl, Nat.le_of_ble_eq_true rfl⟩), (hT _ wd_670)⟩ (psR bx_nil hGK) rfl rfl hl.1 rfl (lv_room (Nat.le_of_ble_eq_true rfl)) d_MOD_lamp_21 ⟨Nat.le_of_ble_eq_true rfl, Nat.le_of_ble_eq_true rfl⟩) ?_
    refine lv_if_ne (tgt := 30) hx hb d_MOD_lamp_24 (by decide) (fun c_24 => ?_) (fun c_24 => ?_)
    · refine lv_aload_n hx hb d_MOD_lamp_30 rfl (lv_at hl 0 rfl) ?_
      refine va_get (D := G.1) (ci := 6) (v := .int li) (C := R_MOD) (T := T_MOD) (N := 25) hx hb hT in_MOD hown hK hP 0 rfl rfl 20 (by decide) (hT _ wd_602) (fun _ h9 => h9) rfl d_MOD_lamp_31 ?_
      refine lv_if_ne (tgt := 39) hx hb d_MOD_lamp_34 (by decide) (fun c_34 => ?_) (fun c_34 => ?_)
      · refine lv_aload_n hx hb d_MOD_lamp_39 rfl (lv_at hl 0 rfl) ?_
        refine lv_dup hx hb d_MOD_lamp_40 rfl ?_
        refine va_get (D := G.1) (ci := 6) (v := .long me) (C := R_MOD) (T := T_MOD) (N := 25) hx hb hT in_MOD hown hK hP 0 rfl rfl 21 (by decide) (hT _ wd_603) (fun _ h9 => h9) rfl d_MOD_lamp_41 ?_
        refine lv_lload_n hx hb d_MOD_lamp_44 rfl (lv_at hl 1 rfl) ?_
        refine lv_ladd hx hb d_MOD_lamp_45 ?_
        refine va_put (D := G.1) (ci := 6) (v := .long (me + xm)) (ty := .long) (C := R_MOD) (T := T_MOD) (N := 25) hx hb hT in_MOD t_MOD tok_MOD nok_MOD hown hK hP hD hS 0 rfl rfl 21 (by decide) (hT _ wd_603) (fun _ h9 => h9) rfl (by decide +kernel) rfl rfl (Nat.le_of_ble_eq_true rfl) d_MOD_lamp_46 (fun H locs hP hD hS => ?_)
        have hP : va_P G.1 vwCl [(z0, .inr (6, [.int 0, .int (nI nM), .ref z1, .ref z2, .ref z3, .ref z4, .ref z5, .ref z6, .int (nI nC), .ref z7, .ref z8, .ref z9, .ref z10, .ref z11, .ref z12, .ref z13, .ref z14, .ref z15, .ref z16, .int cyc, .int li, .long (me + xm), .long mi, .int (nI sn), .ref z17]))] H := hP
        have hD : va_D A [(z0, .inr (6, [.int 0, .int (nI nM), .ref z1, .ref z2, .ref z3, .ref z4, .ref z5, .ref z6, .int (nI nC), .ref z7, .ref z8, .ref z9, .ref z10, .ref z11, .ref z12, .ref z13, .ref z14, .ref z15, .ref z16, .int cyc, .int li, .long (me + xm), .long mi, .int (nI sn), .ref z17]))] := hD
        refine lv_aload_n hx hb d_MOD_lamp_49 rfl (lv_at hl 0 rfl) ?_
        refine lv_dup hx hb d_MOD_lamp_50 rfl ?_
        refine va_get (D := G.1) (ci := 6) (v := .long mi) (C := R_MOD) (T := T_MOD) (N := 25) hx hb hT in_MOD hown hK hP 0 rfl rfl 22 (by decide) (hT _ wd_604) (fun _ h9 => h9) rfl d_MOD_lamp_51 ?_
        refine lv_lload_n hx hb d_MOD_lamp_54 rfl (lv_at hl 2 rfl) ?_
        refine lv_ladd hx hb d_MOD_lamp_55 ?_
        refine va_put (D := G.1) (ci := 6) (v := .long (mi + xi)) (ty := .long) (C := R_MOD) (T := T_MOD) (N := 25) hx hb hT in_MOD t_MOD tok_MOD nok_MOD hown hK hP hD hS 0 rfl rfl 22 (by decide) (hT _ wd_604) (fun _ h9 => h9) rfl (by decide +kernel) rfl rfl (Nat.le_of_ble_eq_true rfl) d_MOD_lamp_56 (fun H locs hP hD hS => ?_)
        have hP : va_P G.1 vwCl [(z0, .inr (6, [.int 0, .int (nI nM), .ref z1, .ref z2, .ref z3, .ref z4, .ref z5, .ref z6, .int (nI nC), .ref z7, .ref z8, .ref z9, .ref z10, .ref z11, .ref z12, .ref z13, .ref z14, .ref z15, .ref z16, .int cyc, .int li, .long (me + xm), .long (mi + xi), .int (nI sn), .ref z17]))] H := hP
        have hD : va_D A [(z0, .inr (6, [.int 0, .int (nI nM), .ref z1, .ref z2, .ref z3, .ref z4, .ref z5, .ref z6, .int (nI nC), .ref z7, .ref z8, .ref z9, .ref z10, .ref z11, .ref z12, .ref z13, .ref z14, .ref z15, .ref z16, .int cyc, .int li, .long (me + xm), .long (mi + xi), .int (nI sn), .ref z17]))] := hD
        refine lv_iconst (v := 1) hx hb d_MOD_lamp_59 (by decide) ?_
        have hw9 : ([(z0, .inr (6, [.int 0, .int (nI nM), .ref z1, .ref z2, .ref z3, .ref z4, .ref z5, .ref z6, .int (nI nC), .ref z7, .ref z8, .ref z9, .ref z10, .ref z11, .ref z12, .ref z13, .ref z14, .ref z15, .ref z16, .int cyc, .int li, .long (mlX xm xi li me xm), .long (mlX xm xi li mi xi), .int (nI sn), .ref z17]))] : va_W) = [(z0, .inr (6, [.int 0, .int (nI nM), .ref z1, .ref z2, .ref z3, .ref z4, .ref z5, .ref z6, .int (nI nC), .ref z7, .ref z8, .ref z9, .ref z10, .ref z11, .ref z12, .ref z13, .ref z14, .ref z15, .ref z16, .int cyc, .int li, .long (me + xm), .long (mi + xi), .int (nI sn), .ref z17]))] := by first | (simp [mlR, mlX, mlB, c_13, c_24, c_34]; done) | (simp_all [mlR, mlX, mlB]; done)
        rw [← hw9] at hP hD
        have hq9 : (.int (mlR xm xi li)) = (.int 1 : Value) := by first | (simp [mlR, mlX, mlB, c_13, c_24, c_34]; done) | (simp_all [mlR, mlX, mlB]; done)
        exact W.iret (v := 1) hx hb hr (fun t ht hW => ⟨⟨by rw [hq9], by rw [ht]; exact hP, by rw [hAe]; exact hD⟩, by rw [hAe]; exact hS.F ht⟩) hS.2.2 d_MOD_lamp_60
      · refine lv_iconst (v := 0) hx hb d_MOD_lamp_37 (by decide) ?_
        have hw9 : ([(z0, .inr (6, [.int 0, .int (nI nM), .ref z1, .ref z2, .ref z3, .ref z4, .ref z5, .ref z6, .int (nI nC), .ref z7, .ref z8, .ref z9, .ref z10, .ref z11, .ref z12, .ref z13, .ref z14, .ref z15, .ref z16, .int cyc, .int li, .long (mlX xm xi li me xm), .long (mlX xm xi li mi xi), .int (nI sn), .ref z17]))] : va_W) = [(z0, .inr (6, [.int 0, .int (nI nM), .ref z1, .ref z2, .ref z3, .ref z4, .ref z5, .ref z6, .int (nI nC), .ref z7, .ref z8, .ref z9, .ref z10, .ref z11, .ref z12, .ref z13, .ref z14, .ref z15, .ref z16, .int cyc, .int li, .long me, .long mi, .int (nI sn), .ref z17]))] := by first | (simp [mlR, mlX, mlB, c_13, c_24, c_34]; done) | (simp_all [mlR, mlX, mlB]; done)
        rw [← hw9] at hP hD
        have hq9 : (.int (mlR xm xi li)) = (.int 0 : Value) := by first | (simp [mlR, mlX, mlB, c_13, c_24, c_34]; done) | (simp_all [mlR, mlX, mlB]; done)
        exact W.iret (v := 0) hx hb hr (fun t ht hW => ⟨⟨by rw [hq9], by rw [ht]; exact hP, by rw [hAe]; exact hD⟩, by rw [hAe]; exact hS.F ht⟩) hS.2.2 d_MOD_lamp_38
    · refine lv_bipush (v := (-2)) hx hb d_MOD_lamp_27 (by decide) ?_
      have hw9 : ([(z0, .inr (6, [.int 0, .int (nI nM), .ref z1, .ref z2, .ref z3, .ref z4, .ref z5, .ref z6, .int (nI nC), .ref z7, .ref z8, .ref z9, .ref z10, .ref z11, .ref z12, .ref z13, .ref z14, .ref z15, .ref z16, .int cyc, .int li, .long (mlX xm xi li me xm), .long (mlX xm xi li mi xi), .int (nI sn), .ref z17]))] : va_W) = [(z0, .inr (6, [.int 0, .int (nI nM), .ref z1, .ref z2, .ref z3, .ref z4, .ref z5, .ref z6, .int (nI nC), .ref z7, .ref z8, .ref z9, .ref z10, .ref z11, .ref z12, .ref z13, .ref z14, .ref z15, .ref z16, .int cyc, .int li, .long me, .long mi, .int (nI sn), .ref z17]))] := by first | (simp [mlR, mlX, mlB, c_13, c_24]; done) | (simp_all [mlR, mlX, mlB]; done)
      rw [← hw9] at hP hD
      have hq9 : (.int (mlR xm xi li)) = (.int (-2) : Value) := by first | (simp [mlR, mlX, mlB, c_13, c_24]; done) | (simp_all [mlR, mlX, mlB]; done)
      exact W.iret (v := (-2)) hx hb hr (fun t ht hW => ⟨⟨by rw [hq9], by rw [ht]; exact hP, by rw [hAe]; exact hD⟩, by rw [hAe]; exact hS.F ht⟩) hS.2.2 d_MOD_lamp_29
set_option maxHeartbeats 4000000 in
set_option maxRecDepth 100000 in
theorem c_mfreeze (l : Launch) (G : GG) (sz : Nat) (z0 : Nat) (z1 : Nat) (z2 : Nat) (z3 : Nat) (z4 : Nat) (z5 : Nat) (z6 : Nat) (z7 : Nat) (z8 : Nat) (z9 : Nat) (z10 : Nat) (z11 : Nat) (z12 : Nat) (z13 : Nat) (z14 : Nat) (z15 : Nat) (z16 : Nat) (z17 : Nat) (cdv : Int32) (cyc : Int32) (li : Int32) (nM : Nat) (nC : Nat) (sn : Nat) (me : Int64) (mi : Int64) (gN : Nat → Int32) (gW : Nat → Int32) (gC : Nat → Int32) (gD : Nat → Int32) (fi : Int32) (hn : nC ≤ 20) : Met l y_MOD_freeze w_MOD_freeze ({ frames := 1, cells := 0, slots := 0, locals := 25 }) (va_Pc [.ref z0, .int fi] (Pw G sz [(z0, .inr (6, [.int cdv, .int (nI nM), .ref z1, .ref z2, .ref z3, .ref z4, .ref z5, .ref z6, .int (nI nC), .ref z7, .ref z8, .ref z9, .ref z10, .ref z11, .ref z12, .ref z13, .ref z14, .ref z15, .ref z16, .int cyc, .int li, .long me, .long mi, .int (nI sn), .ref z17])), (z7, .inl (G.2 2, 20, .inl gN)), (z14, .inl (G.2 3, 20, .inl gW)), (z15, .inl (G.2 2, 20, .inl gC)), (z16, .inl (G.2 2, 20, .inl gD))])) (QW G (some (.int (mfz gN gW gC gD nC mi fi))) [(z0, .inr (6, [.int cdv, .int (nI nM), .ref z1, .ref z2, .ref z3, .ref z4, .ref z5, .ref z6, .int (nI nC), .ref z7, .ref z8, .ref z9, .ref z10, .ref z11, .ref z12, .ref z13, .ref z14, .ref z15, .ref z16, .int cyc, .int li, .long me, .long mi, .int (nI sn), .ref z17])), (z7, .inl (G.2 2, 20, .inl gN)), (z14, .inl (G.2 3, 20, .inl gW)), (z15, .inl (G.2 2, 20, .inl gC)), (z16, .inl (G.2 2, 20, .inl gD))] [(z0, .inr (6, [.int 0, .int (nI nM), .ref z1, .ref z2, .ref z3, .ref z4, .ref z5, .ref z6, .int (nI nC), .ref z7, .ref z8, .ref z9, .ref z10, .ref z11, .ref z12, .ref z13, .ref z14, .ref z15, .ref z16, .int cyc, .int li, .long me, .long mi, .int (nI sn), .ref z17])), (z7, .inl (G.2 2, 20, .inl gN)), (z14, .inl (G.2 3, 20, .inl gW)), (z15, .inl (G.2 2, 20, .inl gC)), (z16, .inl (G.2 2, 20, .inl gD))] sz) 0 0 (va_A [(z0, .inr (6, [.int cdv, .int (nI nM), .ref z1, .ref z2, .ref z3, .ref z4, .ref z5, .ref z6, .int (nI nC), .ref z7, .ref z8, .ref z9, .ref z10, .ref z11, .ref z12, .ref z13, .ref z14, .ref z15, .ref z16, .int cyc, .int li, .long me, .long mi, .int (nI sn), .ref z17])), (z7, .inl (G.2 2, 20, .inl gN)), (z14, .inl (G.2 3, 20, .inl gW)), (z15, .inl (G.2 2, 20, .inl gC)), (z16, .inl (G.2 2, 20, .inl gD))] sz) := by
  refine Met.ofW (cc := b_MOD_freeze) (maxL := 3) (ret := (some .int)) (by decide) rfl ?_
  intro p e s m args below meth c s₁ B hml hv
  obtain ⟨rfl, hsz, hP, hGK, hD0⟩ := hv
  have hx := B.exec
  have hb := B.bytes
  have hr := B.returns
  have hts := atoms_spec (ws := w_MOD_freeze) B.pre
  have hT : ∀ w ∈ lwG, w.before _ s = true := fun w h => hts w (List.mem_cons_of_mem _ h)
  have hown : s.vm.findClass R_MOD = some m.cls := findClass_of_methodNamed B.named
  have hlocks := B.notSynchronized
  have hK := hGK.1
  have hN := hGK.2
  subst hsz
  have hD := hD0.self (sz := s.heap.size)
  generalize hAe : va_A [(z0, .inr (6, [.int cdv, .int (nI nM), .ref z1, .ref z2, .ref z3, .ref z4, .ref z5, .ref z6, .int (nI nC), .ref z7, .ref z8, .ref z9, .ref z10, .ref z11, .ref z12, .ref z13, .ref z14, .ref z15, .ref z16, .int cyc, .int li, .long me, .long mi, .int (nI sn), .ref z17])), (z7, .inl (G.2 2, 20, .inl gN)), (z14, .inl (G.2 3, 20, .inl gW)), (z15, .inl (G.2 2, 20, .inl gC)), (z16, .inl (G.2 2, 20, .inl gD))] s.heap.size = A at hD ⊢
  have hA : ∀ q : Nat, s.heap.size ≤ q → A q := fun q h => by rw [← hAe]; exact Or.inr h
  have hS : va_S A s.heap s.heap [] := va_S.rf
  have hP : va_P G.1 vwCl [(z0, .inr (6, [.int cdv, .int (nI nM), .ref z1, .ref z2, .ref z3, .ref z4, .ref z5, .ref z6, .int (nI nC), .ref z7, .ref z8, .ref z9, .ref z10, .ref z11, .ref z12, .ref z13, .ref z14, .ref z15, .ref z16, .int cyc, .int li, .long me, .long mi, .int (nI sn), .ref z17])), (z7, .inl (G.2 2, 20, .inl gN)), (z14, .inl (G.2 3, 20, .inl gW)), (z15, .inl (G.2 2, 20, .inl gC)), (z16, .inl (G.2 2, 20, .inl gD))] s.heap := hP
  have hl := lv_entry ([.ref z0, .int fi]) (n := 3) (Nat.le_of_ble_eq_true rfl)
  rw [lg_entry_eq]
  generalize (lg_sl ([.ref z0, .int fi]) ++ List.replicate (3 - (lg_sl ([.ref z0, .int fi])).length) Slot.unset).toArray = ls at hl ⊢
  have hl : lv_has ls 3 [(0, .ref z0), (1, .int fi)] := hl
  refine lv_aload_n hx hb d_MOD_freeze_0 rfl (lv_at hl 0 rfl) ?_
  refine lv_iconst (v := 0) hx hb d_MOD_freeze_1 (by decide) ?_
  refine va_put (D := G.1) (ci := 6) (v := .int 0) (ty := .int) (C := R_MOD) (T := T_MOD) (N := 25) hx hb hT in_MOD t_MOD tok_MOD nok_MOD hown hK hP hD hS 0 rfl rfl 0 (by decide) (hT _ wd_582) (fun _ h9 => h9) rfl (by decide +kernel) rfl rfl (Nat.le_of_ble_eq_true rfl) d_MOD_freeze_2 (fun H locs hP hD hS => ?_)
  have hP : va_P G.1 vwCl [(z0, .inr (6, [.int 0, .int (nI nM), .ref z1, .ref z2, .ref z3, .ref z4, .ref z5, .ref z6, .int (nI nC), .ref z7, .ref z8, .ref z9, .ref z10, .ref z11, .ref z12, .ref z13, .ref z14, .ref z15, .ref z16, .int cyc, .int li, .long me, .long mi, .int (nI sn), .ref z17])), (z7, .inl (G.2 2, 20, .inl gN)), (z14, .inl (G.2 3, 20, .inl gW)), (z15, .inl (G.2 2, 20, .inl gC)), (z16, .inl (G.2 2, 20, .inl gD))] H := hP
  have hD : va_D A [(z0, .inr (6, [.int 0, .int (nI nM), .ref z1, .ref z2, .ref z3, .ref z4, .ref z5, .ref z6, .int (nI nC), .ref z7, .ref z8, .ref z9, .ref z10, .ref z11, .ref z12, .ref z13, .ref z14, .ref z15, .ref z16, .int cyc, .int li, .long me, .long mi, .int (nI sn), .ref z17])), (z7, .inl (G.2 2, 20, .inl gN)), (z14, .inl (G.2 3, 20, .inl gW)), (z15, .inl (G.2 2, 20, .inl gC)), (z16, .inl (G.2 2, 20, .inl gD))] := hD
  refine lv_iload_n hx hb d_MOD_freeze_5 rfl (lv_at hl 1 rfl) ?_
  refine lv_i2l (v := fi.toInt64) hx hb d_MOD_freeze_6 rfl ?_
  refine lv_lconst (v := 0) hx hb d_MOD_freeze_7 (by decide) ?_
  refine lv_ldc2 (v := 3) hx hb hown (hT _ wd_668) d_MOD_freeze_8 ?_
  refine bx_callV (W.runS (As := [.long fi.toInt64, .long 0, .long 3]) (rest := []) ⟨hx, hb, hml, hown, hts⟩ (c_isIn l G fi.toInt64 0 3) ⟨(callB_of 3 hts (gi_all wd_671) rfl rfl rfl (hT _ wd_51) (hT _ wd_669) (by decide +kernel) ⟨Nat.le_of_ble_eq_true rfl, Nat.le_of_ble_eq_true rfl⟩), (hT _ wd_670)⟩ (psR bx_nil hGK) rfl rfl hl.1 rfl (lv_room (Nat.le_of_ble_eq_true rfl)) d_MOD_freeze_11 ⟨Nat.le_of_ble_eq_true rfl, Nat.le_of_ble_eq_true rfl⟩) ?_
  refine lv_if_ne (tgt := 20) hx hb d_MOD_freeze_14 (by decide) (fun c_14 => ?_) (fun c_14 => ?_)
  · refine lv_iload_n hx hb d_MOD_freeze_20 rfl (lv_at hl 1 rfl) ?_
    refine lv_iconst (v := 3) hx hb d_MOD_freeze_21 (by decide) ?_
    refine lv_icmp_ne (tgt := 33) hx hb d_MOD_freeze_22 (by decide) (fun c_22 => ?_) (fun c_22 => ?_)
    · refine lv_aload_n hx hb d_MOD_freeze_33 rfl (lv_at hl 0 rfl) ?_
      have hPc := hP.sub (ws' := [(z0, .inr (6, [.int 0, .int (nI nM), .ref z1, .ref z2, .ref z3, .ref z4, .ref z5, .ref z6, .int (nI nC), .ref z7, .ref z8, .ref z9, .ref z10, .ref z11, .ref z12, .ref z13, .ref z14, .ref z15, .ref z16, .int cyc, .int li, .long me, .long mi, .int (nI sn), .ref z17])), (z14, .inl (G.2 3, 20, .inl gW))]) [0, 2] rfl
      refine bx_callV (W.runV (As := []) (rest := []) ⟨hx, hb, hml, hown, hts⟩ (c_mfirstFrozen l G z0 z1 z2 z3 z4 z5 z6 z7 z8 z9 z10 z11 z12 z13 z14 z15 z16 z17 0 cyc li nM nC sn me mi gW (by assumption)) ⟨(callB_of 0 hts (gi_all wd_743) rfl rfl rfl (hT _ wd_51) (hT _ wd_740) (by decide +kernel) ⟨Nat.le_of_ble_eq_true rfl, Nat.le_of_ble_eq_true rfl⟩), (hT _ wd_742), (hT _ wd_38)⟩ (pvR hPc hGK (va_recv hK hPc (ci := 6) (q0 := 0) rfl rfl)) rfl rfl hl.1 rfl (lv_room (Nat.le_of_ble_eq_true rfl)) d_MOD_freeze_34 ⟨Nat.le_of_ble_eq_true rfl, Nat.le_of_ble_eq_true rfl⟩) ?_
      refine lv_istore_n (lv' := [(2, .int (nI (fzF gW nC nC))), (0, .ref z0), (1, .int fi)]) hx hb d_MOD_freeze_37 rfl hl (by decide) rfl (fun ls hl => ?_)
      refine lv_iload_n hx hb d_MOD_freeze_38 rfl (lv_at hl 0 rfl) ?_
      refine lv_aload_n hx hb d_MOD_freeze_39 rfl (lv_at hl 1 rfl) ?_
      refine va_get (D := G.1) (ci := 6) (v := .int (nI nC)) (C := R_MOD) (T := T_MOD) (N := 25) hx hb hT in_MOD hown hK hP 0 rfl rfl 8 (by decide) (hT _ wd_590) (fun _ h9 => h9) rfl d_MOD_freeze_40 ?_
      refine lv_icmp_ne (tgt := 50) hx hb d_MOD_freeze_43 (by decide) (fun c_43 => ?_) (fun c_43 => ?_)
      · have hfl := fzF_le (gW := gW) (n := nC) nC
        have hflt : fzF gW nC nC < nC := Nat.lt_of_le_of_ne hfl (fun z => c_43 (by rw [z]))
        refine lv_iload_n hx hb d_MOD_freeze_50 rfl (lv_at hl 2 rfl) ?_
        refine lv_if_ne (tgt := 63) hx hb d_MOD_freeze_51 (by decide) (fun c_51 => ?_) (fun c_51 => ?_)
        · refine lv_iload_n hx hb d_MOD_freeze_63 rfl (lv_at hl 2 rfl) ?_
          refine lv_iconst (v := 1) hx hb d_MOD_freeze_64 (by decide) ?_
          refine lv_icmp_ne (tgt := 77) hx hb d_MOD_freeze_65 (by decide) (fun c_65 => ?_) (fun c_65 => ?_)
          · refine lv_aload_n hx hb d_MOD_freeze_77 rfl (lv_at hl 1 rfl) ?_
            refine va_get (D := G.1) (ci := 6) (v := .ref z16) (C := R_MOD) (T := T_MOD) (N := 25) hx hb hT in_MOD hown hK hP 0 rfl rfl 18 (by decide) (hT _ wd_600) (fun _ h9 => h9) rfl d_MOD_freeze_78 ?_
            refine lv_iload_n hx hb d_MOD_freeze_81 rfl (lv_at hl 0 rfl) ?_
            refine va_iald hx hb hK hP 4 2 rfl rfl (vp_in_nI (by omega) (by omega)) d_MOD_freeze_82 ?_
            refine W.eq (g2 := F0 m 83 ls (.int (gD (fzF gW nC nC)) :: [])) (by rw [nI_clamp (by omega)]) ?_
            have hq9 : (.int (mfz gN gW gC gD nC mi fi)) = (.int (gD (fzF gW nC nC)) : Value) := by first | (simp [mfz, c_14, c_22, c_43, c_51, c_65]; done) | (simp_all [mfz]; done)
            exact W.iret (v := gD (fzF gW nC nC)) hx hb hr (fun t ht hW => ⟨⟨by rw [hq9], by rw [ht]; exact hP, by rw [hAe]; exact hD⟩, by rw [hAe]; exact hS.F ht⟩) hS.2.2 d_MOD_freeze_83
          · refine lv_aload_n hx hb d_MOD_freeze_68 rfl (lv_at hl 1 rfl) ?_
            refine va_get (D := G.1) (ci := 6) (v := .ref z15) (C := R_MOD) (T := T_MOD) (N := 25) hx hb hT in_MOD hown hK hP 0 rfl rfl 17 (by decide) (hT _ wd_599) (fun _ h9 => h9) rfl d_MOD_freeze_69 ?_
            refine lv_iload_n hx hb d_MOD_freeze_72 rfl (lv_at hl 0 rfl) ?_
            refine va_iald hx hb hK hP 3 2 rfl rfl (vp_in_nI (by omega) (by omega)) d_MOD_freeze_73 ?_
            refine W.eq (g2 := F0 m 74 ls (.int (gC (fzF gW nC nC)) :: [])) (by rw [nI_clamp (by omega)]) ?_
            refine lv_goto (tgt := 83) hx hb d_MOD_freeze_74 (by decide) ?_
            have hq9 : (.int (mfz gN gW gC gD nC mi fi)) = (.int (gC (fzF gW nC nC)) : Value) := by first | (simp [mfz, c_14, c_22, c_43, c_51, c_65]; done) | (simp_all [mfz]; done)
            exact W.iret (v := gC (fzF gW nC nC)) hx hb hr (fun t ht hW => ⟨⟨by rw [hq9], by rw [ht]; exact hP, by rw [hAe]; exact hD⟩, by rw [hAe]; exact hS.F ht⟩) hS.2.2 d_MOD_freeze_83
        · refine lv_aload_n hx hb d_MOD_freeze_54 rfl (lv_at hl 1 rfl) ?_
          refine va_get (D := G.1) (ci := 6) (v := .ref z7) (C := R_MOD) (T := T_MOD) (N := 25) hx hb hT in_MOD hown hK hP 0 rfl rfl 9 (by decide) (hT _ wd_591) (fun _ h9 => h9) rfl d_MOD_freeze_55 ?_
          refine lv_iload_n hx hb d_MOD_freeze_58 rfl (lv_at hl 0 rfl) ?_
          refine va_iald hx hb hK hP 1 2 rfl rfl (vp_in_nI (by omega) (by omega)) d_MOD_freeze_59 ?_
          refine W.eq (g2 := F0 m 60 ls (.int (gN (fzF gW nC nC)) :: [])) (by rw [nI_clamp (by omega)]) ?_
          refine lv_goto (tgt := 83) hx hb d_MOD_freeze_60 (by decide) ?_
          have hq9 : (.int (mfz gN gW gC gD nC mi fi)) = (.int (gN (fzF gW nC nC)) : Value) := by first | (simp [mfz, c_14, c_22, c_43, c_51]; done) | (simp_all [mfz]; done)
          exact W.iret (v := gN (fzF gW nC nC)) hx hb hr (fun t ht hW => ⟨⟨by rw [hq9], by rw [ht]; exact hP, by rw [hAe]; exact hD⟩, by rw [hAe]; exact hS.F ht⟩) hS.2.2 d_MOD_freeze_83
      · refine lv_iconst (v := 0) hx hb d_MOD_freeze_46 (by decide) ?_
        refine lv_goto (tgt := 83) hx hb d_MOD_freeze_47 (by decide) ?_
        have hq9 : (.int (mfz gN gW gC gD nC mi fi)) = (.int 0 : Value) := by first | (simp [mfz, c_14, c_22, c_43]; done) | (simp_all [mfz]; done)
        exact W.iret (v := 0) hx hb hr (fun t ht hW => ⟨⟨by rw [hq9], by rw [ht]; exact hP, by rw [hAe]; exact hD⟩, by rw [hAe]; exact hS.F ht⟩) hS.2.2 d_MOD_freeze_83
    · refine lv_aload_n hx hb d_MOD_freeze_25 rfl (lv_at hl 0 rfl) ?_
      refine va_get (D := G.1) (ci := 6) (v := .long mi) (C := R_MOD) (T := T_MOD) (N := 25) hx hb hT in_MOD hown hK hP 0 rfl rfl 22 (by decide) (hT _ wd_604) (fun _ h9 => h9) rfl d_MOD_freeze_26 ?_
      refine bx_callV (W.runS (As := [.long mi]) (rest := []) ⟨hx, hb, hml, hown, hts⟩ (c_most l G mi) ⟨(callB_of 1 hts (gi_all wd_738) rfl rfl rfl (hT _ wd_51) (hT _ wd_736) (by decide +kernel) ⟨Nat.le_of_ble_eq_true rfl, Nat.le_of_ble_eq_true rfl⟩), (hT _ wd_737)⟩ (psR bx_nil hGK) rfl rfl hl.1 rfl (lv_room (Nat.le_of_ble_eq_true rfl)) d_MOD_freeze_29 ⟨Nat.le_of_ble_eq_true rfl, Nat.le_of_ble_eq_true rfl⟩) ?_
      have hq9 : (.int (mfz gN gW gC gD nC mi fi)) = (.int (mostF mi) : Value) := by first | (simp [mfz, c_14, c_22]; done) | (simp_all [mfz]; done)
      exact W.iret (v := mostF mi) hx hb hr (fun t ht hW => ⟨⟨by rw [hq9], by rw [ht]; exact hP, by rw [hAe]; exact hD⟩, by rw [hAe]; exact hS.F ht⟩) hS.2.2 d_MOD_freeze_32
  · refine lv_bipush (v := (-2)) hx hb d_MOD_freeze_17 (by decide) ?_
    have hq9 : (.int (mfz gN gW gC gD nC mi fi)) = (.int (-2) : Value) := by first | (simp [mfz, c_14]; done) | (simp_all [mfz]; done)
    exact W.iret (v := (-2)) hx hb hr (fun t ht hW => ⟨⟨by rw [hq9], by rw [ht]; exact hP, by rw [hAe]; exact hD⟩, by rw [hAe]; exact hS.F ht⟩) hS.2.2 d_MOD_freeze_19
set_option maxHeartbeats 4000000 in
set_option maxRecDepth 100000 in
theorem c_mput (l : Launch) (G : GG) (sz : Nat) (z0 : Nat) (z1 : Nat) (z2 : Nat) (z3 : Nat) (z4 : Nat) (z5 : Nat) (z6 : Nat) (z7 : Nat) (z8 : Nat) (z9 : Nat) (z10 : Nat) (z11 : Nat) (z12 : Nat) (z13 : Nat) (z14 : Nat) (z15 : Nat) (z16 : Nat) (z17 : Nat) (cdv : Int32) (cyc : Int32) (li : Int32) (nM : Nat) (nC : Nat) (me : Int64) (mi : Int64) (mb : MB) (pv : Int32) (hmb : mb.1 < 64) : Met l y_MOD_put w_MOD_put ({ frames := 0, cells := 0, slots := 0, locals := 0 }) (va_Pc [.ref z0, .int pv] (Pw G sz [(z0, .inr (6, [.int cdv, .int (nI nM), .ref z1, .ref z2, .ref z3, .ref z4, .ref z5, .ref z6, .int (nI nC), .ref z7, .ref z8, .ref z9, .ref z10, .ref z11, .ref z12, .ref z13, .ref z14, .ref z15, .ref z16, .int cyc, .int li, .long me, .long mi, .int (nI mb.1), .ref z17])), (z17, .inl (G.2 2, 64, .inl mb.2))])) (QW G none [(z0, .inr (6, [.int cdv, .int (nI nM), .ref z1, .ref z2, .ref z3, .ref z4, .ref z5, .ref z6, .int (nI nC), .ref z7, .ref z8, .ref z9, .ref z10, .ref z11, .ref z12, .ref z13, .ref z14, .ref z15, .ref z16, .int cyc, .int li, .long me, .long mi, .int (nI mb.1), .ref z17])), (z17, .inl (G.2 2, 64, .inl mb.2))] [(z0, .inr (6, [.int cdv, .int (nI nM), .ref z1, .ref z2, .ref z3, .ref z4, .ref z5, .ref z6, .int (nI nC), .ref z7, .ref z8, .ref z9, .ref z10, .ref z11, .ref z12, .ref z13, .ref z14, .ref z15, .ref z16, .int cyc, .int li, .long me, .long mi, .int (nI (mPut mb pv).1), .ref z17])), (z17, .inl (G.2 2, 64, .inl ((mPut mb pv).2)))] sz) 0 0 (va_A [(z0, .inr (6, [.int cdv, .int (nI nM), .ref z1, .ref z2, .ref z3, .ref z4, .ref z5, .ref z6, .int (nI nC), .ref z7, .ref z8, .ref z9, .ref z10, .ref z11, .ref z12, .ref z13, .ref z14, .ref z15, .ref z16, .int cyc, .int li, .long me, .long mi, .int (nI mb.1), .ref z17])), (z17, .inl (G.2 2, 64, .inl mb.2))] sz) := by
  refine Met.ofW (cc := b_MOD_put) (maxL := 2) (ret := none) (by decide) rfl ?_
  intro p e s m args below meth c s₁ B hml hv
  obtain ⟨rfl, hsz, hP, hGK, hD0⟩ := hv
  have hx := B.exec
  have hb := B.bytes
  have hr := B.returns
  have hts := atoms_spec (ws := w_MOD_put) B.pre
  have hT : ∀ w ∈ lwG, w.before _ s = true := fun w h => hts w (List.mem_cons_of_mem _ h)
  have hown : s.vm.findClass R_MOD = some m.cls := findClass_of_methodNamed B.named
  have hlocks := B.notSynchronized
  have hK := hGK.1
  have hN := hGK.2
  subst hsz
  have hD := hD0.self (sz := s.heap.size)
  generalize hAe : va_A [(z0, .inr (6, [.int cdv, .int (nI nM), .ref z1, .ref z2, .ref z3, .ref z4, .ref z5, .ref z6, .int (nI nC), .ref z7, .ref z8, .ref z9, .ref z10, .ref z11, .ref z12, .ref z13, .ref z14, .ref z15, .ref z16, .int cyc, .int li, .long me, .long mi, .int (nI mb.1), .ref z17])), (z17, .inl (G.2 2, 64, .inl mb.2))] s.heap.size = A at hD ⊢
  have hA : ∀ q : Nat, s.heap.size ≤ q → A q := fun q h => by rw [← hAe]; exact Or.inr h
  have hS : va_S A s.heap s.heap [] := va_S.rf
  have hP : va_P G.1 vwCl [(z0, .inr (6, [.int cdv, .int (nI nM), .ref z1, .ref z2, .ref z3, .ref z4, .ref z5, .ref z6, .int (nI nC), .ref z7, .ref z8, .ref z9, .ref z10, .ref z11, .ref z12, .ref z13, .ref z14, .ref z15, .ref z16, .int cyc, .int li, .long me, .long mi, .int (nI mb.1), .ref z17])), (z17, .inl (G.2 2, 64, .inl mb.2))] s.heap := hP
  have hl := lv_entry ([.ref z0, .int pv]) (n := 2) (Nat.le_of_ble_eq_true rfl)
  rw [lg_entry_eq]
  generalize (lg_sl ([.ref z0, .int pv]) ++ List.replicate (2 - (lg_sl ([.ref z0, .int pv])).length) Slot.unset).toArray = ls at hl ⊢
  have hl : lv_has ls 2 [(0, .ref z0), (1, .int pv)] := hl
  refine lv_aload_n hx hb d_MOD_put_0 rfl (lv_at hl 0 rfl) ?_
  refine va_get (D := G.1) (ci := 6) (v := .ref z17) (C := R_MOD) (T := T_MOD) (N := 25) hx hb hT in_MOD hown hK hP 0 rfl rfl 24 (by decide) (hT _ wd_606) (fun _ h9 => h9) rfl d_MOD_put_1 ?_
  refine lv_aload_n hx hb d_MOD_put_4 rfl (lv_at hl 0 rfl) ?_
  refine va_get (D := G.1) (ci := 6) (v := .int (nI mb.1)) (C := R_MOD) (T := T_MOD) (N := 25) hx hb hT in_MOD hown hK hP 0 rfl rfl 23 (by decide) (hT _ wd_605) (fun _ h9 => h9) rfl d_MOD_put_5 ?_
  refine lv_iload_n hx hb d_MOD_put_8 rfl (lv_at hl 1 rfl) ?_
  refine lv_sipush (v := 255) hx hb d_MOD_put_9 (by decide) ?_
  refine lv_iand hx hb d_MOD_put_12 ?_
  refine va_iast hx hb hK hP hD hS 1 2 rfl rfl (vp_in_nI (by omega) (by omega)) d_MOD_put_13 (fun H locs hP hD hS => ?_)
  rw [nI_clamp (by omega)] at hP hD
  have hP : va_P G.1 vwCl [(z0, .inr (6, [.int cdv, .int (nI nM), .ref z1, .ref z2, .ref z3, .ref z4, .ref z5, .ref z6, .int (nI nC), .ref z7, .ref z8, .ref z9, .ref z10, .ref z11, .ref z12, .ref z13, .ref z14, .ref z15, .ref z16, .int cyc, .int li, .long me, .long mi, .int (nI mb.1), .ref z17])), (z17, .inl (G.2 2, 64, .inl (upd mb.2 mb.1 (pv &&& 255))))] H := hP
  have hD : va_D A [(z0, .inr (6, [.int cdv, .int (nI nM), .ref z1, .ref z2, .ref z3, .ref z4, .ref z5, .ref z6, .int (nI nC), .ref z7, .ref z8, .ref z9, .ref z10, .ref z11, .ref z12, .ref z13, .ref z14, .ref z15, .ref z16, .int cyc, .int li, .long me, .long mi, .int (nI mb.1), .ref z17])), (z17, .inl (G.2 2, 64, .inl (upd mb.2 mb.1 (pv &&& 255))))] := hD
  refine lv_aload_n hx hb d_MOD_put_14 rfl (lv_at hl 0 rfl) ?_
  refine lv_dup hx hb d_MOD_put_15 rfl ?_
  refine va_get (D := G.1) (ci := 6) (v := .int (nI mb.1)) (C := R_MOD) (T := T_MOD) (N := 25) hx hb hT in_MOD hown hK hP 0 rfl rfl 23 (by decide) (hT _ wd_605) (fun _ h9 => h9) rfl d_MOD_put_16 ?_
  refine lv_iconst (v := 1) hx hb d_MOD_put_19 (by decide) ?_
  refine lv_iadd hx hb d_MOD_put_20 ?_
  refine va_put (D := G.1) (ci := 6) (v := .int ((nI mb.1) + 1)) (ty := .int) (C := R_MOD) (T := T_MOD) (N := 25) hx hb hT in_MOD t_MOD tok_MOD nok_MOD hown hK hP hD hS 0 rfl rfl 23 (by decide) (hT _ wd_605) (fun _ h9 => h9) rfl (by decide +kernel) rfl rfl (Nat.le_of_ble_eq_true rfl) d_MOD_put_21 (fun H locs hP hD hS => ?_)
  have hP : va_P G.1 vwCl [(z0, .inr (6, [.int cdv, .int (nI nM), .ref z1, .ref z2, .ref z3, .ref z4, .ref z5, .ref z6, .int (nI nC), .ref z7, .ref z8, .ref z9, .ref z10, .ref z11, .ref z12, .ref z13, .ref z14, .ref z15, .ref z16, .int cyc, .int li, .long me, .long mi, .int ((nI mb.1) + 1), .ref z17])), (z17, .inl (G.2 2, 64, .inl (upd mb.2 mb.1 (pv &&& 255))))] H := hP
  have hD : va_D A [(z0, .inr (6, [.int cdv, .int (nI nM), .ref z1, .ref z2, .ref z3, .ref z4, .ref z5, .ref z6, .int (nI nC), .ref z7, .ref z8, .ref z9, .ref z10, .ref z11, .ref z12, .ref z13, .ref z14, .ref z15, .ref z16, .int cyc, .int li, .long me, .long mi, .int ((nI mb.1) + 1), .ref z17])), (z17, .inl (G.2 2, 64, .inl (upd mb.2 mb.1 (pv &&& 255))))] := hD
  have hw9 : ([(z0, .inr (6, [.int cdv, .int (nI nM), .ref z1, .ref z2, .ref z3, .ref z4, .ref z5, .ref z6, .int (nI nC), .ref z7, .ref z8, .ref z9, .ref z10, .ref z11, .ref z12, .ref z13, .ref z14, .ref z15, .ref z16, .int cyc, .int li, .long me, .long mi, .int (nI (mPut mb pv).1), .ref z17])), (z17, .inl (G.2 2, 64, .inl ((mPut mb pv).2)))] : va_W) = [(z0, .inr (6, [.int cdv, .int (nI nM), .ref z1, .ref z2, .ref z3, .ref z4, .ref z5, .ref z6, .int (nI nC), .ref z7, .ref z8, .ref z9, .ref z10, .ref z11, .ref z12, .ref z13, .ref z14, .ref z15, .ref z16, .int cyc, .int li, .long me, .long mi, .int ((nI mb.1) + 1), .ref z17])), (z17, .inl (G.2 2, 64, .inl (upd mb.2 mb.1 (pv &&& 255))))] := by simp only [mPut, nI_1]
  rw [← hw9] at hP hD
  exact W.vret hx hb hr (fun t ht hW => ⟨⟨rfl, by rw [ht]; exact hP, by rw [hAe]; exact hD⟩, by rw [hAe]; exact hS.F ht⟩) hS.2.2 d_MOD_put_24
set_option maxHeartbeats 4000000 in
set_option maxRecDepth 100000 in
theorem c_mputTwo (l : Launch) (G : GG) (sz : Nat) (z0 : Nat) (z1 : Nat) (z2 : Nat) (z3 : Nat) (z4 : Nat) (z5 : Nat) (z6 : Nat) (z7 : Nat) (z8 : Nat) (z9 : Nat) (z10 : Nat) (z11 : Nat) (z12 : Nat) (z13 : Nat) (z14 : Nat) (z15 : Nat) (z16 : Nat) (z17 : Nat) (cdv : Int32) (cyc : Int32) (li : Int32) (nM : Nat) (nC : Nat) (me : Int64) (mi : Int64) (mb : MB) (pv : Int32) (hmb : mb.1 + 1 < 64) : Met l y_MOD_putTwo w_MOD_putTwo ({ frames := 1, cells := 0, slots := 0, locals := 21 }) (va_Pc [.ref z0, .int pv] (Pw G sz [(z0, .inr (6, [.int cdv, .int (nI nM), .ref z1, .ref z2, .ref z3, .ref z4, .ref z5, .ref z6, .int (nI nC), .ref z7, .ref z8, .ref z9, .ref z10, .ref z11, .ref z12, .ref z13, .ref z14, .ref z15, .ref z16, .int cyc, .int li, .long me, .long mi, .int (nI mb.1), .ref z17])), (z17, .inl (G.2 2, 64, .inl mb.2))])) (QW G none [(z0, .inr (6, [.int cdv, .int (nI nM), .ref z1, .ref z2, .ref z3, .ref z4, .ref z5, .ref z6, .int (nI nC), .ref z7, .ref z8, .ref z9, .ref z10, .ref z11, .ref z12, .ref z13, .ref z14, .ref z15, .ref z16, .int cyc, .int li, .long me, .long mi, .int (nI mb.1), .ref z17])), (z17, .inl (G.2 2, 64, .inl mb.2))] [(z0, .inr (6, [.int cdv, .int (nI nM), .ref z1, .ref z2, .ref z3, .ref z4, .ref z5, .ref z6, .int (nI nC), .ref z7, .ref z8, .ref z9, .ref z10, .ref z11, .ref z12, .ref z13, .ref z14, .ref z15, .ref z16, .int cyc, .int li, .long me, .long mi, .int (nI (mTwo mb pv).1), .ref z17])), (z17, .inl (G.2 2, 64, .inl ((mTwo mb pv).2)))] sz) 0 0 (va_A [(z0, .inr (6, [.int cdv, .int (nI nM), .ref z1, .ref z2, .ref z3, .ref z4, .ref z5, .ref z6, .int (nI nC), .ref z7, .ref z8, .ref z9, .ref z10, .ref z11, .ref z12, .ref z13, .ref z14, .ref z15, .ref z16, .int cyc, .int li, .long me, .long mi, .int (nI mb.1), .ref z17])), (z17, .inl (G.2 2, 64, .inl mb.2))] sz) := by
  refine Met.ofW (cc := b_MOD_putTwo) (maxL := 2) (ret := none) (by decide) rfl ?_
  intro p e s m args below meth c s₁ B hml hv
  obtain ⟨rfl, hsz, hP, hGK, hD0⟩ := hv
  have hx := B.exec
  have hb := B.bytes
  have hr := B.returns
  have hts := atoms_spec (ws := w_MOD_putTwo) B.pre
  have hT : ∀ w ∈ lwG, w.before _ s = true := fun w h => hts w (List.mem_cons_of_mem _ h)
  have hown : s.vm.findClass R_MOD = some m.cls := findClass_of_methodNamed B.named
  have hlocks := B.notSynchronized
  have hK := hGK.1
  have hN := hGK.2
  subst hsz
  have hD := hD0.self (sz := s.heap.size)
  generalize hAe : va_A [(z0, .inr (6, [.int cdv, .int (nI nM), .ref z1, .ref z2, .ref z3, .ref z4, .ref z5, .ref z6, .int (nI nC), .ref z7, .ref z8, .ref z9, .ref z10, .ref z11, .ref z12, .ref z13, .ref z14, .ref z15, .ref z16, .int cyc, .int li, .long me, .long mi, .int (nI mb.1), .ref z17])), (z17, .inl (G.2 2, 64, .inl mb.2))] s.heap.size = A at hD ⊢
  have hA : ∀ q : Nat, s.heap.size ≤ q → A q := fun q h => by rw [← hAe]; exact Or.inr h
  have hS : va_S A s.heap s.heap [] := va_S.rf
  have hP : va_P G.1 vwCl [(z0, .inr (6, [.int cdv, .int (nI nM), .ref z1, .ref z2, .ref z3, .ref z4, .ref z5, .ref z6, .int (nI nC), .ref z7, .ref z8, .ref z9, .ref z10, .ref z11, .ref z12, .ref z13, .ref z14, .ref z15, .ref z16, .int cyc, .int li, .long me, .long mi, .int (nI mb.1), .ref z17])), (z17, .inl (G.2 2, 64, .inl mb.2))] s.heap := hP
  have hl := lv_entry ([.ref z0, .int pv]) (n := 2) (Nat.le_of_ble_eq_true rfl)
  rw [lg_entry_eq]
  generalize (lg_sl ([.ref z0, .int pv]) ++ List.replicate (2 - (lg_sl ([.ref z0, .int pv])).length) Slot.unset).toArray = ls at hl ⊢
  have hl : lv_has ls 2 [(0, .ref z0), (1, .int pv)] := hl
  refine lv_aload_n hx hb d_MOD_putTwo_0 rfl (lv_at hl 0 rfl) ?_
  refine lv_iload_n hx hb d_MOD_putTwo_1 rfl (lv_at hl 1 rfl) ?_
  refine lv_bipush (v := 8) hx hb d_MOD_putTwo_2 (by decide) ?_
  refine lv_ishr hx hb d_MOD_putTwo_4 ?_
  have hPc := hP.sub (ws' := [(z0, .inr (6, [.int cdv, .int (nI nM), .ref z1, .ref z2, .ref z3, .ref z4, .ref z5, .ref z6, .int (nI nC), .ref z7, .ref z8, .ref z9, .ref z10, .ref z11, .ref z12, .ref z13, .ref z14, .ref z15, .ref z16, .int cyc, .int li, .long me, .long mi, .int (nI mb.1), .ref z17])), (z17, .inl (G.2 2, 64, .inl mb.2))]) [0, 1] rfl
  have hDc := hD.sub (ws' := [(z0, .inr (6, [.int cdv, .int (nI nM), .ref z1, .ref z2, .ref z3, .ref z4, .ref z5, .ref z6, .int (nI nC), .ref z7, .ref z8, .ref z9, .ref z10, .ref z11, .ref z12, .ref z13, .ref z14, .ref z15, .ref z16, .int cyc, .int li, .long me, .long mi, .int (nI mb.1), .ref z17])), (z17, .inl (G.2 2, 64, .inl mb.2))]) [0, 1] (by decide) rfl
  refine bx_callKv [0, 1] (va_runV (As := [.int (pv >>> ((8 : Int32) &&& 31))]) (rest := []) ⟨hx, hb, hml, hown, hts⟩ (c_mput l G s.heap.size z0 z1 z2 z3 z4 z5 z6 z7 z8 z9 z10 z11 z12 z13 z14 z15 z16 z17 cdv cyc li nM nC me mi mb (pv >>> ((8 : Int32) &&& 31)) (by omega)) ⟨(callB_of 1 hts (gi_all wd_755) rfl rfl rfl (hT _ wd_51) (hT _ wd_752) (by decide +kernel) ⟨Nat.le_of_ble_eq_true rfl, Nat.le_of_ble_eq_true rfl⟩), (hT _ wd_754), (hT _ wd_40)⟩ (pvW hPc hGK hDc (va_recv hK hPc (ci := 6) (q0 := 0) rfl rfl)) rfl rfl hl.1 rfl (lv_room (Nat.le_of_ble_eq_true rfl)) d_MOD_putTwo_5 ⟨Nat.le_of_ble_eq_true rfl, Nat.le_of_ble_eq_true rfl⟩) hP hD hS hA rfl rfl rfl (fun H locs hP hD hS => ?_)
  obtain ⟨b_5, eb_5⟩ : ∃ z : MB, z = mPut mb (pv >>> ((8 : Int32) &&& 31)) := ⟨_, rfl⟩
  have hP : va_P G.1 vwCl [(z0, .inr (6, [.int cdv, .int (nI nM), .ref z1, .ref z2, .ref z3, .ref z4, .ref z5, .ref z6, .int (nI nC), .ref z7, .ref z8, .ref z9, .ref z10, .ref z11, .ref z12, .ref z13, .ref z14, .ref z15, .ref z16, .int cyc, .int li, .long me, .long mi, .int (nI b_5.1), .ref z17])), (z17, .inl (G.2 2, 64, .inl b_5.2))] H := by rw [eb_5]; exact hP
  have hD : va_D A [(z0, .inr (6, [.int cdv, .int (nI nM), .ref z1, .ref z2, .ref z3, .ref z4, .ref z5, .ref z6, .int (nI nC), .ref z7, .ref z8, .ref z9, .ref z10, .ref z11, .ref z12, .ref z13, .ref z14, .ref z15, .ref z16, .int cyc, .int li, .long me, .long mi, .int (nI b_5.1), .ref z17])), (z17, .inl (G.2 2, 64, .inl b_5.2))] := by rw [eb_5]; exact hD
  refine lv_aload_n hx hb d_MOD_putTwo_8 rfl (lv_at hl 0 rfl) ?_
  refine lv_iload_n hx hb d_MOD_putTwo_9 rfl (lv_at hl 1 rfl) ?_
  have hPc := hP.sub (ws' := [(z0, .inr (6, [.int cdv, .int (nI nM), .ref z1, .ref z2, .ref z3, .ref z4, .ref z5, .ref z6, .int (nI nC), .ref z7, .ref z8, .ref z9, .ref z10, .ref z11, .ref z12, .ref z13, .ref z14, .ref z15, .ref z16, .int cyc, .int li, .long me, .long mi, .int (nI b_5.1), .ref z17])), (z17, .inl (G.2 2, 64, .inl b_5.2))]) [0, 1] rfl
  have hDc := hD.sub (ws' := [(z0, .inr (6, [.int cdv, .int (nI nM), .ref z1, .ref z2, .ref z3, .ref z4, .ref z5, .ref z6, .int (nI nC), .ref z7, .ref z8, .ref z9, .ref z10, .ref z11, .ref z12, .ref z13, .ref z14, .ref z15, .ref z16, .int cyc, .int li, .long me, .long mi, .int (nI b_5.1), .ref z17])), (z17, .inl (G.2 2, 64, .inl b_5.2))]) [0, 1] (by decide) rfl
  refine bx_callKv [0, 1] (va_runV (As := [.int pv]) (rest := []) ⟨hx, hb, hml, hown, hts⟩ (c_mput l G H.size z0 z1 z2 z3 z4 z5 z6 z7 z8 z9 z10 z11 z12 z13 z14 z15 z16 z17 cdv cyc li nM nC me mi b_5 pv (by simp only [eb_5, mPut]; omega)) ⟨(callB_of 1 hts (gi_all wd_755) rfl rfl rfl (hT _ wd_51) (hT _ wd_752) (by decide +kernel) ⟨Nat.le_of_ble_eq_true rfl, Nat.le_of_ble_eq_true rfl⟩), (hT _ wd_754), (hT _ wd_40)⟩ (pvW hPc hGK hDc (va_recv hK hPc (ci := 6) (q0 := 0) rfl rfl)) rfl rfl hl.1 rfl (lv_room (Nat.le_of_ble_eq_true rfl)) d_MOD_putTwo_10 ⟨Nat.le_of_ble_eq_true rfl, Nat.le_of_ble_eq_true rfl⟩) hP hD hS hA rfl rfl rfl (fun H locs hP hD hS => ?_)
  obtain ⟨b_10, eb_10⟩ : ∃ z : MB, z = mPut b_5 pv := ⟨_, rfl⟩
  have hP : va_P G.1 vwCl [(z0, .inr (6, [.int cdv, .int (nI nM), .ref z1, .ref z2, .ref z3, .ref z4, .ref z5, .ref z6, .int (nI nC), .ref z7, .ref z8, .ref z9, .ref z10, .ref z11, .ref z12, .ref z13, .ref z14, .ref z15, .ref z16, .int cyc, .int li, .long me, .long mi, .int (nI b_10.1), .ref z17])), (z17, .inl (G.2 2, 64, .inl b_10.2))] H := by rw [eb_10]; exact hP
  have hD : va_D A [(z0, .inr (6, [.int cdv, .int (nI nM), .ref z1, .ref z2, .ref z3, .ref z4, .ref z5, .ref z6, .int (nI nC), .ref z7, .ref z8, .ref z9, .ref z10, .ref z11, .ref z12, .ref z13, .ref z14, .ref z15, .ref z16, .int cyc, .int li, .long me, .long mi, .int (nI b_10.1), .ref z17])), (z17, .inl (G.2 2, 64, .inl b_10.2))] := by rw [eb_10]; exact hD
  have hw9 : ([(z0, .inr (6, [.int cdv, .int (nI nM), .ref z1, .ref z2, .ref z3, .ref z4, .ref z5, .ref z6, .int (nI nC), .ref z7, .ref z8, .ref z9, .ref z10, .ref z11, .ref z12, .ref z13, .ref z14, .ref z15, .ref z16, .int cyc, .int li, .long me, .long mi, .int (nI (mTwo mb pv).1), .ref z17])), (z17, .inl (G.2 2, 64, .inl ((mTwo mb pv).2)))] : va_W) = [(z0, .inr (6, [.int cdv, .int (nI nM), .ref z1, .ref z2, .ref z3, .ref z4, .ref z5, .ref z6, .int (nI nC), .ref z7, .ref z8, .ref z9, .ref z10, .ref z11, .ref z12, .ref z13, .ref z14, .ref z15, .ref z16, .int cyc, .int li, .long me, .long mi, .int (nI b_10.1), .ref z17])), (z17, .inl (G.2 2, 64, .inl b_10.2))] := by simp only [mTwo, eb_10, eb_5]
  rw [← hw9] at hP hD
  exact W.vret hx hb hr (fun t ht hW => ⟨⟨rfl, by rw [ht]; exact hP, by rw [hAe]; exact hD⟩, by rw [hAe]; exact hS.F ht⟩) hS.2.2 d_MOD_putTwo_13
set_option maxHeartbeats 4000000 in
set_option maxRecDepth 100000 in
theorem c_msum (l : Launch) (G : GG) (sz : Nat) (z0 : Nat) (z1 : Nat) (z2 : Nat) (z3 : Nat) (z4 : Nat) (z5 : Nat) (z6 : Nat) (z7 : Nat) (z8 : Nat) (z9 : Nat) (z10 : Nat) (z11 : Nat) (z12 : Nat) (z13 : Nat) (z14 : Nat) (z15 : Nat) (z16 : Nat) (z17 : Nat) (cdv : Int32) (cyc : Int32) (li : Int32) (nM : Nat) (nC : Nat) (sn : Nat) (me : Int64) (mi : Int64) (rw : Nat → Int32) (hs : sn ≤ 64) : Met l y_MOD_sum w_MOD_sum ({ frames := 0, cells := 0, slots := 0, locals := 0 }) (va_Pc [.ref z0] (Pw G sz [(z0, .inr (6, [.int cdv, .int (nI nM), .ref z1, .ref z2, .ref z3, .ref z4, .ref z5, .ref z6, .int (nI nC), .ref z7, .ref z8, .ref z9, .ref z10, .ref z11, .ref z12, .ref z13, .ref z14, .ref z15, .ref z16, .int cyc, .int li, .long me, .long mi, .int (nI sn), .ref z17])), (z17, .inl (G.2 2, 64, .inl rw))])) (QW G (some (.int (msF rw sn))) [(z0, .inr (6, [.int cdv, .int (nI nM), .ref z1, .ref z2, .ref z3, .ref z4, .ref z5, .ref z6, .int (nI nC), .ref z7, .ref z8, .ref z9, .ref z10, .ref z11, .ref z12, .ref z13, .ref z14, .ref z15, .ref z16, .int cyc, .int li, .long me, .long mi, .int (nI sn), .ref z17])), (z17, .inl (G.2 2, 64, .inl rw))] [(z0, .inr (6, [.int 0, .int (nI nM), .ref z1, .ref z2, .ref z3, .ref z4, .ref z5, .ref z6, .int (nI nC), .ref z7, .ref z8, .ref z9, .ref z10, .ref z11, .ref z12, .ref z13, .ref z14, .ref z15, .ref z16, .int cyc, .int li, .long me, .long mi, .int (nI sn), .ref z17])), (z17, .inl (G.2 2, 64, .inl rw))] sz) 0 0 (va_A [(z0, .inr (6, [.int cdv, .int (nI nM), .ref z1, .ref z2, .ref z3, .ref z4, .ref z5, .ref z6, .int (nI nC), .ref z7, .ref z8, .ref z9, .ref z10, .ref z11, .ref z12, .ref z13, .ref z14, .ref z15, .ref z16, .int cyc, .int li, .long me, .long mi, .int (nI sn), .ref z17])), (z17, .inl (G.2 2, 64, .inl rw))] sz) := by
  refine Met.ofW (cc := b_MOD_sum) (maxL := 3) (ret := (some .int)) (by decide) rfl ?_
  intro p e s m args below meth c s₁ B hml hv
  obtain ⟨rfl, hsz, hP, hGK, hD0⟩ := hv
  have hx := B.exec
  have hb := B.bytes
  have hr := B.returns
  have hts := atoms_spec (ws := w_MOD_sum) B.pre
  have hT : ∀ w ∈ lwG, w.before _ s = true := fun w h => hts w (List.mem_cons_of_mem _ h)
  have hown : s.vm.findClass R_MOD = some m.cls := findClass_of_methodNamed B.named
  have hlocks := B.notSynchronized
  have hK := hGK.1
  have hN := hGK.2
  subst hsz
  have hD := hD0.self (sz := s.heap.size)
  generalize hAe : va_A [(z0, .inr (6, [.int cdv, .int (nI nM), .ref z1, .ref z2, .ref z3, .ref z4, .ref z5, .ref z6, .int (nI nC), .ref z7, .ref z8, .ref z9, .ref z10, .ref z11, .ref z12, .ref z13, .ref z14, .ref z15, .ref z16, .int cyc, .int li, .long me, .long mi, .int (nI sn), .ref z17])), (z17, .inl (G.2 2, 64, .inl rw))] s.heap.size = A at hD ⊢
  have hA : ∀ q : Nat, s.heap.size ≤ q → A q := fun q h => by rw [← hAe]; exact Or.inr h
  have hS : va_S A s.heap s.heap [] := va_S.rf
  have hP : va_P G.1 vwCl [(z0, .inr (6, [.int cdv, .int (nI nM), .ref z1, .ref z2, .ref z3, .ref z4, .ref z5, .ref z6, .int (nI nC), .ref z7, .ref z8, .ref z9, .ref z10, .ref z11, .ref z12, .ref z13, .ref z14, .ref z15, .ref z16, .int cyc, .int li, .long me, .long mi, .int (nI sn), .ref z17])), (z17, .inl (G.2 2, 64, .inl rw))] s.heap := hP
  have hl := lv_entry ([.ref z0]) (n := 3) (Nat.le_of_ble_eq_true rfl)
  rw [lg_entry_eq]
  generalize (lg_sl ([.ref z0]) ++ List.replicate (3 - (lg_sl ([.ref z0])).length) Slot.unset).toArray = ls at hl ⊢
  have hl : lv_has ls 3 [(0, .ref z0)] := hl
  refine lv_aload_n hx hb d_MOD_sum_0 rfl (lv_at hl 0 rfl) ?_
  refine lv_iconst (v := 0) hx hb d_MOD_sum_1 (by decide) ?_
  refine va_put (D := G.1) (ci := 6) (v := .int 0) (ty := .int) (C := R_MOD) (T := T_MOD) (N := 25) hx hb hT in_MOD t_MOD tok_MOD nok_MOD hown hK hP hD hS 0 rfl rfl 0 (by decide) (hT _ wd_582) (fun _ h9 => h9) rfl (by decide +kernel) rfl rfl (Nat.le_of_ble_eq_true rfl) d_MOD_sum_2 (fun H locs hP hD hS => ?_)
  have hP : va_P G.1 vwCl [(z0, .inr (6, [.int 0, .int (nI nM), .ref z1, .ref z2, .ref z3, .ref z4, .ref z5, .ref z6, .int (nI nC), .ref z7, .ref z8, .ref z9, .ref z10, .ref z11, .ref z12, .ref z13, .ref z14, .ref z15, .ref z16, .int cyc, .int li, .long me, .long mi, .int (nI sn), .ref z17])), (z17, .inl (G.2 2, 64, .inl rw))] H := hP
  have hD : va_D A [(z0, .inr (6, [.int 0, .int (nI nM), .ref z1, .ref z2, .ref z3, .ref z4, .ref z5, .ref z6, .int (nI nC), .ref z7, .ref z8, .ref z9, .ref z10, .ref z11, .ref z12, .ref z13, .ref z14, .ref z15, .ref z16, .int cyc, .int li, .long me, .long mi, .int (nI sn), .ref z17])), (z17, .inl (G.2 2, 64, .inl rw))] := hD
  refine lv_iconst (v := 0) hx hb d_MOD_sum_5 (by decide) ?_
  refine lv_istore_n (lv' := [(1, .int 0), (0, .ref z0)]) hx hb d_MOD_sum_6 rfl hl (by decide) rfl (fun ls hl => ?_)
  refine lv_iconst (v := 0) hx hb d_MOD_sum_7 (by decide) ?_
  refine lv_istore_n (lv' := [(2, .int 0), (1, .int 0), (0, .ref z0)]) hx hb d_MOD_sum_8 rfl hl (by decide) rfl (fun ls hl => ?_)
  refine bx_loop (σ := Nat × Int32) (fun q H locs ls => q.1 ≤ sn ∧ q.2 = msF rw q.1 ∧ va_P G.1 vwCl [(z0, .inr (6, [.int 0, .int (nI nM), .ref z1, .ref z2, .ref z3, .ref z4, .ref z5, .ref z6, .int (nI nC), .ref z7, .ref z8, .ref z9, .ref z10, .ref z11, .ref z12, .ref z13, .ref z14, .ref z15, .ref z16, .int cyc, .int li, .long me, .long mi, .int (nI sn), .ref z17])), (z17, .inl (G.2 2, 64, .inl rw))] H ∧ va_D A [(z0, .inr (6, [.int 0, .int (nI nM), .ref z1, .ref z2, .ref z3, .ref z4, .ref z5, .ref z6, .int (nI nC), .ref z7, .ref z8, .ref z9, .ref z10, .ref z11, .ref z12, .ref z13, .ref z14, .ref z15, .ref z16, .int cyc, .int li, .long me, .long mi, .int (nI sn), .ref z17])), (z17, .inl (G.2 2, 64, .inl rw))] ∧ va_S A s.heap H locs ∧ lv_has ls 3 [(0, .ref z0), (1, .int q.2), (2, .int (nI q.1))]) (fun q => sn - q.1) _ (fun q H locs ls hI ih => ?_) (0, 0) ls ⟨Nat.zero_le _, rfl, hP, hD, hS, lv_sub hl [2, 1, 0] rfl⟩
  obtain ⟨k, ac1⟩ := q
  obtain ⟨hknk, hac, hP, hD, hS, hl⟩ := hI
  have hknk : k ≤ sn := hknk
  have hac : ac1 = msF rw k := hac
  have hP : va_P G.1 vwCl [(z0, .inr (6, [.int 0, .int (nI nM), .ref z1, .ref z2, .ref z3, .ref z4, .ref z5, .ref z6, .int (nI nC), .ref z7, .ref z8, .ref z9, .ref z10, .ref z11, .ref z12, .ref z13, .ref z14, .ref z15, .ref z16, .int cyc, .int li, .long me, .long mi, .int (nI sn), .ref z17])), (z17, .inl (G.2 2, 64, .inl rw))] H := hP
  have hD : va_D A [(z0, .inr (6, [.int 0, .int (nI nM), .ref z1, .ref z2, .ref z3, .ref z4, .ref z5, .ref z6, .int (nI nC), .ref z7, .ref z8, .ref z9, .ref z10, .ref z11, .ref z12, .ref z13, .ref z14, .ref z15, .ref z16, .int cyc, .int li, .long me, .long mi, .int (nI sn), .ref z17])), (z17, .inl (G.2 2, 64, .inl rw))] := hD
  have hl : lv_has ls 3 [(0, .ref z0), (1, .int ac1), (2, .int (nI k))] := hl
  refine lv_iload_n hx hb d_MOD_sum_9 rfl (lv_at hl 2 rfl) ?_
  refine lv_aload_n hx hb d_MOD_sum_10 rfl (lv_at hl 0 rfl) ?_
  refine va_get (D := G.1) (ci := 6) (v := .int (nI sn)) (C := R_MOD) (T := T_MOD) (N := 25) hx hb hT in_MOD hown hK hP 0 rfl rfl 23 (by decide) (hT _ wd_605) (fun _ h9 => h9) rfl d_MOD_sum_11 ?_
  refine lv_icmp_ge (tgt := 32) hx hb d_MOD_sum_14 (by decide) (fun c_14 => ?_) (fun c_14 => ?_)
  · have hge : sn ≤ k := (nI_leI (by omega) (by omega)).mp c_14
    have hke : k = sn := by omega
    refine lv_iload_n hx hb d_MOD_sum_32 rfl (lv_at hl 1 rfl) ?_
    have hq9 : (.int (msF rw sn)) = (.int ac1 : Value) := by rw [hac, hke]
    exact W.iret (v := ac1) hx hb hr (fun t ht hW => ⟨⟨by rw [hq9], by rw [ht]; exact hP, by rw [hAe]; exact hD⟩, by rw [hAe]; exact hS.F ht⟩) hS.2.2 d_MOD_sum_33
  · have hk : k < sn := Nat.not_le.mp (fun z => c_14 (nI_le z (by omega)))
    refine lv_iload_n hx hb d_MOD_sum_17 rfl (lv_at hl 1 rfl) ?_
    refine lv_aload_n hx hb d_MOD_sum_18 rfl (lv_at hl 0 rfl) ?_
    refine va_get (D := G.1) (ci := 6) (v := .ref z17) (C := R_MOD) (T := T_MOD) (N := 25) hx hb hT in_MOD hown hK hP 0 rfl rfl 24 (by decide) (hT _ wd_606) (fun _ h9 => h9) rfl d_MOD_sum_19 ?_
    refine lv_iload_n hx hb d_MOD_sum_22 rfl (lv_at hl 2 rfl) ?_
    refine va_iald hx hb hK hP 1 2 rfl rfl (vp_in_nI (by omega) (by omega)) d_MOD_sum_23 ?_
    refine W.eq (g2 := F0 m 24 ls (.int (rw k) :: [.int ac1])) (by rw [nI_clamp (by omega)]) ?_
    refine lv_iadd hx hb d_MOD_sum_24 ?_
    refine lv_istore_n (lv' := [(1, .int (ac1 + (rw k))), (0, .ref z0), (2, .int (nI k))]) hx hb d_MOD_sum_25 rfl hl (by decide) rfl (fun ls hl => ?_)
    refine lv_iinc (v := nI (k + 1)) (lv' := [(2, .int (nI (k + 1))), (1, .int (ac1 + (rw k))), (0, .ref z0)]) hx hb d_MOD_sum_26 hl (k := 2) rfl (nI_succ _).symm (by decide) rfl (fun ls hl => ?_)
    refine lv_goto (tgt := 9) hx hb d_MOD_sum_29 (by decide) ?_
    exact ih ((k + 1), ac1 + (rw k)) _ _ _ ⟨hk, by rw [msF, hac], hP, hD, hS, lv_sub hl [2, 1, 0] rfl⟩ (by show sn - (k + 1) < sn - k; omega)
