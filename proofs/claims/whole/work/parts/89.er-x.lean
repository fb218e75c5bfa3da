set_option maxHeartbeats 4000000 in
set_option maxRecDepth 100000 in
theorem c_ratioR (l : Launch) (G : GG) (x0 : Nat) (x1 : Nat) (x2 : Nat) (x3 : Nat) (x4 : Nat) (x5 : Nat) (cyc : Int32) (mM : Int32) (mC : Int32) (li : Int32) (eM : Nat) (eC : Nat) (nM : Nat) (nC : Nat) (me : Int64) (mi : Int64) (b : OB) (bM : va_W) (bC : va_W) (am : Nat → Nat) (ac : Nat → Nat) (mon : Nat → Mon) (cod : Nat → Cod) (mo : Int32) (sd : Int32) (hM : LB G bM eM nM am) (hH : ∀ i, i < nM → ∃ c, c ≤ 100 ∧ (mon i).2.2.2.1 = nI c) (hnt : ¬ raT mon nM mo) : Met l y_ER_ratio w_ER_ratio ({ frames := 3, cells := 0, slots := 0, locals := 64 }) (va_Pc [.ref x0, .int mo, .int sd] (Rw G ([(x0, .inr (0, [.ref x1, .ref x2, .ref x3, .ref x4, .int cyc])), (x1, .inr (1, [.int mM, .ref eM, .int (nI nM)])), (x2, .inr (1, [.int mC, .ref eC, .int (nI nC)])), (x3, .inr (2, [.int li, .long me, .long mi])), (x4, .inr (3, [.ref x5, .int b.1])), (x5, .inl (G.2 1, 41, .inl b.2))] ++ tlW bM bC nM am mon nC ac cod))) (k2_QcV (.long (raV mon nM mo sd))) 0 0 (fun _ => False) := by
  refine Met.ofW (cc := b_ER_ratio) (maxL := 4) (ret := (some .long)) (by decide) rfl ?_
  intro p e s m args below meth c s₁ B hml hv
  obtain ⟨rfl, hP, hGK⟩ := hv
  have hx := B.exec
  have hb := B.bytes
  have hr := B.returns
  have hts := atoms_spec (ws := w_ER_ratio) B.pre
  have hT : ∀ w ∈ lwG, w.before _ s = true := fun w h => hts w (List.mem_cons_of_mem _ h)
  have hown : s.vm.findClass R_ER = some m.cls := findClass_of_methodNamed B.named
  have hlocks := B.notSynchronized
  have hK := hGK.1
  have hN := hGK.2
  have hP : va_P G.1 vwCl ([(x0, .inr (0, [.ref x1, .ref x2, .ref x3, .ref x4, .int cyc])), (x1, .inr (1, [.int mM, .ref eM, .int (nI nM)])), (x2, .inr (1, [.int mC, .ref eC, .int (nI nC)])), (x3, .inr (2, [.int li, .long me, .long mi])), (x4, .inr (3, [.ref x5, .int b.1])), (x5, .inl (G.2 1, 41, .inl b.2))] ++ tlW bM bC nM am mon nC ac cod) s.heap := hP
  have hl := lv_entry ([.ref x0, .int mo, .int sd]) (n := 4) (Nat.le_of_ble_eq_true rfl)
  rw [lg_entry_eq]
  generalize (lg_sl ([.ref x0, .int mo, .int sd]) ++ List.replicate (4 - (lg_sl ([.ref x0, .int mo, .int sd])).length) Slot.unset).toArray = ls at hl ⊢
  have hl : lv_has ls 4 [(0, .ref x0), (1, .int mo), (2, .int sd)] := hl
  generalize hHe : s.heap = H at hP ⊢
  refine lv_aload_n hx hb d_ER_ratio_0 rfl (lv_at hl 0 rfl) ?_
  refine lv_iload_n hx hb d_ER_ratio_1 rfl (lv_at hl 1 rfl) ?_
  refine bx_callV (W.runV (As := [.int mo]) (rest := []) ⟨hx, hb, hml, hown, hts⟩ (c_isMonitor l G x0 x1 x2 x3 x4 x5 cyc mM mC li eM eC nM nC me mi b bM bC am ac mon cod mo) ⟨(callB_of 1 hts (gi_all wd_323) rfl rfl rfl (hT _ wd_45) (hT _ wd_320) (by decide +kernel) ⟨Nat.le_of_ble_eq_true rfl, Nat.le_of_ble_eq_true rfl⟩), (hT _ wd_322), (hT _ wd_14)⟩ (pvR hP hGK (va_recv hK hP (ci := 0) (q0 := 0) rfl rfl)) rfl rfl hl.1 rfl (lv_room (Nat.le_of_ble_eq_true rfl)) d_ER_ratio_2 ⟨Nat.le_of_ble_eq_true rfl, Nat.le_of_ble_eq_true rfl⟩) ?_
  refine lv_if_ne (tgt := 12) hx hb d_ER_ratio_5 (by decide) (fun c_5 => ?_) (fun c_5 => ?_)
  · obtain ⟨k, hk, hmo⟩ := isM_some c_5 hM.1
    have e9 : mo - 1 = nI k := by rw [hmo]; exact nI_pred k
    have ex9 : ixM mo = k := by rw [hmo]; exact ixM_at (by have := hM.1; omega)
    refine lv_aload_n hx hb d_ER_ratio_12 rfl (lv_at hl 0 rfl) ?_
    refine va_get (D := G.1) (ci := 0) (v := .ref x1) (C := R_ER) (T := T_ER) (N := 5) hx hb hT in_ER hown hK hP 0 rfl rfl 0 (by decide) (hT _ wd_134) (fun _ h9 => h9) rfl d_ER_ratio_13 ?_
    refine lv_iload_n hx hb d_ER_ratio_16 rfl (lv_at hl 1 rfl) ?_
    refine lv_iconst (v := 1) hx hb d_ER_ratio_17 (by decide) ?_
    refine lv_isub hx hb d_ER_ratio_18 ?_
    rw [e9]
    obtain ⟨cap, fa, hbk, hcap, hcap2, hfa⟩ := hM.some hk
    have hPc : va_P G.1 vwCl [(x1, .inr (1, [.int mM, .ref eM, .int (nI nM)])), (eM, .inl (G.2 0, cap, .inr (.inr (.inr (.inr fa)))))] H := (hP.sub (ws' := [(x1, .inr (1, [.int mM, .ref eM, .int (nI nM)]))]) [1] rfl).app (bx_sub hP (fun q9 hq9 => tl_inM (by rw [hbk]; exact hq9)))
    refine bx_callV (W.runV (As := [.int (nI k)]) (rest := []) ⟨hx, hb, hml, hown, hts⟩ (c_get l G x1 eM mM nM k cap fa (am k) hk hcap (by omega) (hfa k hk)) ⟨(callB_of 1 hts (gi_all wd_258) rfl rfl rfl (hT _ wd_48) (hT _ wd_255) (by decide +kernel) ⟨Nat.le_of_ble_eq_true rfl, Nat.le_of_ble_eq_true rfl⟩), (hT _ wd_256), (hT _ wd_257)⟩ (pvR hPc hGK (va_recv hK hPc (ci := 1) (q0 := 0) rfl rfl)) rfl rfl hl.1 rfl (lv_room (Nat.le_of_ble_eq_true rfl)) d_ER_ratio_19 ⟨Nat.le_of_ble_eq_true rfl, Nat.le_of_ble_eq_true rfl⟩) ?_
    refine va_castS hx hb hown (hT _ wd_161) (hK.1 4 _ rfl).2 (va_recv hK hP (ci := 4) rfl (tl_mon hk)) d_ER_ratio_22 ?_
    refine lv_astore_n (lv' := [(3, .ref (am k)), (0, .ref x0), (1, .int mo), (2, .int sd)]) hx hb d_ER_ratio_25 rfl hl (by decide) rfl (fun ls hl => ?_)
    refine lv_aload_n hx hb d_ER_ratio_26 rfl (lv_at hl 0 rfl) ?_
    refine va_getN (D := G.1) (ci := 4) (v := .int ((mon k).2.2.2.1)) (C := R_MON) (T := T_MON) (N := 6) hx hb hT in_MON hown hK hP _ (tl_mon hk) rfl 3 (by decide) (va_Nw.use rfl (hN (.fieldLinkNest "EmissionRows" 80 "EmissionRows$Monitor" "chances" "I" "EmissionRows") nw_173)) (fun _ h9 => h9) rfl d_ER_ratio_27 ?_
    refine lv_if_ne (tgt := 43) hx hb d_ER_ratio_30 (by decide) (fun c_30 => ?_) (fun c_30 => ?_)
    · refine lv_iload_n hx hb d_ER_ratio_43 rfl (lv_at hl 3 rfl) ?_
      refine lv_if_ne (tgt := 54) hx hb d_ER_ratio_44 (by decide) (fun c_44 => ?_) (fun c_44 => ?_)
      · refine lv_aload_n hx hb d_ER_ratio_54 rfl (lv_at hl 0 rfl) ?_
        refine va_getN (D := G.1) (ci := 4) (v := .int ((mon k).2.2.2.1)) (C := R_MON) (T := T_MON) (N := 6) hx hb hT in_MON hown hK hP _ (tl_mon hk) rfl 3 (by decide) (va_Nw.use rfl (hN (.fieldLinkNest "EmissionRows" 80 "EmissionRows$Monitor" "chances" "I" "EmissionRows") nw_173)) (fun _ h9 => h9) rfl d_ER_ratio_55 ?_
        refine lv_aload_n hx hb d_ER_ratio_58 rfl (lv_at hl 0 rfl) ?_
        refine va_getN (D := G.1) (ci := 4) (v := .int ((mon k).2.2.1)) (C := R_MON) (T := T_MON) (N := 6) hx hb hT in_MON hown hK hP _ (tl_mon hk) rfl 2 (by decide) (va_Nw.use rfl (hN (.fieldLinkNest "EmissionRows" 77 "EmissionRows$Monitor" "runs" "I" "EmissionRows") nw_171)) (fun _ h9 => h9) rfl d_ER_ratio_59 ?_
        refine lv_aload_n hx hb d_ER_ratio_62 rfl (lv_at hl 0 rfl) ?_
        refine va_getN (D := G.1) (ci := 4) (v := .int ((mon k).2.2.2.1)) (C := R_MON) (T := T_MON) (N := 6) hx hb hT in_MON hown hK hP _ (tl_mon hk) rfl 3 (by decide) (va_Nw.use rfl (hN (.fieldLinkNest "EmissionRows" 80 "EmissionRows$Monitor" "chances" "I" "EmissionRows") nw_173)) (fun _ h9 => h9) rfl d_ER_ratio_63 ?_
        obtain ⟨c0, hc0, ec0⟩ := hH k hk
        refine W.eq (g2 := F0 m 66 ls [.int (nI c0), .int ((mon k).2.2.1), .int (nI c0)]) (by rw [ec0]) ?_
        refine bx_callV (W.runS (As := [.int (nI c0), .int ((mon k).2.2.1), .int (nI c0)]) (rest := []) ⟨hx, hb, hml, hown, hts⟩ (c_inLowestTerms l G (nI c0) ((mon k).2.2.1) c0 (by omega)) ⟨(callB_of 3 hts (gi_all wd_547) rfl rfl rfl (hT _ wd_45) (hT _ wd_545) (by decide +kernel) ⟨Nat.le_of_ble_eq_true rfl, Nat.le_of_ble_eq_true rfl⟩), (hT _ wd_546)⟩ (psR bx_nil hGK) rfl rfl hl.1 rfl (lv_room (Nat.le_of_ble_eq_true rfl)) d_ER_ratio_66 ⟨Nat.le_of_ble_eq_true rfl, Nat.le_of_ble_eq_true rfl⟩) ?_
        refine lv_i2l (v := (ilF (nI c0) ((mon k).2.2.1) (nI c0) c0).toInt64) hx hb d_ER_ratio_69 rfl ?_
        have hq9 : (.long (raV mon nM mo sd)) = (.long ((ilF (nI c0) ((mon k).2.2.1) (nI c0) c0).toInt64) : Value) := by simp only [raV, if_neg c_5, ex9, ec0, nI_clamp (show c0 < 2 ^ 31 by omega), if_neg c_44]
        exact W.lret (v := (ilF (nI c0) ((mon k).2.2.1) (nI c0) c0).toInt64) hx hb hr (fun t ht _ => ⟨by rw [hq9], ht.trans hHe.symm⟩) (fun _ h => by cases h) d_ER_ratio_70
      · refine lv_aload_n hx hb d_ER_ratio_47 rfl (lv_at hl 0 rfl) ?_
        refine va_getN (D := G.1) (ci := 4) (v := .int ((mon k).2.2.1)) (C := R_MON) (T := T_MON) (N := 6) hx hb hT in_MON hown hK hP _ (tl_mon hk) rfl 2 (by decide) (va_Nw.use rfl (hN (.fieldLinkNest "EmissionRows" 77 "EmissionRows$Monitor" "runs" "I" "EmissionRows") nw_171)) (fun _ h9 => h9) rfl d_ER_ratio_48 ?_
        refine lv_goto (tgt := 58) hx hb d_ER_ratio_51 (by decide) ?_
        refine lv_aload_n hx hb d_ER_ratio_58 rfl (lv_at hl 0 rfl) ?_
        refine va_getN (D := G.1) (ci := 4) (v := .int ((mon k).2.2.1)) (C := R_MON) (T := T_MON) (N := 6) hx hb hT in_MON hown hK hP _ (tl_mon hk) rfl 2 (by decide) (va_Nw.use rfl (hN (.fieldLinkNest "EmissionRows" 77 "EmissionRows$Monitor" "runs" "I" "EmissionRows") nw_171)) (fun _ h9 => h9) rfl d_ER_ratio_59 ?_
        refine lv_aload_n hx hb d_ER_ratio_62 rfl (lv_at hl 0 rfl) ?_
        refine va_getN (D := G.1) (ci := 4) (v := .int ((mon k).2.2.2.1)) (C := R_MON) (T := T_MON) (N := 6) hx hb hT in_MON hown hK hP _ (tl_mon hk) rfl 3 (by decide) (va_Nw.use rfl (hN (.fieldLinkNest "EmissionRows" 80 "EmissionRows$Monitor" "chances" "I" "EmissionRows") nw_173)) (fun _ h9 => h9) rfl d_ER_ratio_63 ?_
        obtain ⟨c0, hc0, ec0⟩ := hH k hk
        refine W.eq (g2 := F0 m 66 ls [.int (nI c0), .int ((mon k).2.2.1), .int ((mon k).2.2.1)]) (by rw [ec0]) ?_
        refine bx_callV (W.runS (As := [.int ((mon k).2.2.1), .int ((mon k).2.2.1), .int (nI c0)]) (rest := []) ⟨hx, hb, hml, hown, hts⟩ (c_inLowestTerms l G ((mon k).2.2.1) ((mon k).2.2.1) c0 (by omega)) ⟨(callB_of 3 hts (gi_all wd_547) rfl rfl rfl (hT _ wd_45) (hT _ wd_545) (by decide +kernel) ⟨Nat.le_of_ble_eq_true rfl, Nat.le_of_ble_eq_true rfl⟩), (hT _ wd_546)⟩ (psR bx_nil hGK) rfl rfl hl.1 rfl (lv_room (Nat.le_of_ble_eq_true rfl)) d_ER_ratio_66 ⟨Nat.le_of_ble_eq_true rfl, Nat.le_of_ble_eq_true rfl⟩) ?_
        refine lv_i2l (v := (ilF ((mon k).2.2.1) ((mon k).2.2.1) (nI c0) c0).toInt64) hx hb d_ER_ratio_69 rfl ?_
        have hq9 : (.long (raV mon nM mo sd)) = (.long ((ilF ((mon k).2.2.1) ((mon k).2.2.1) (nI c0) c0).toInt64) : Value) := by simp only [raV, if_neg c_5, ex9, ec0, nI_clamp (show c0 < 2 ^ 31 by omega), if_pos c_44]
        exact W.lret (v := (ilF ((mon k).2.2.1) ((mon k).2.2.1) (nI c0) c0).toInt64) hx hb hr (fun t ht _ => ⟨by rw [hq9], ht.trans hHe.symm⟩) (fun _ h => by cases h) d_ER_ratio_70
    · exact absurd ⟨c_5, by rw [ex9]; exact c_30⟩ hnt
  · refine lv_ldc2 (v := (-1)) hx hb hown (hT _ wd_478) d_ER_ratio_8 ?_
    have hq9 : (.long (raV mon nM mo sd)) = (.long (-1) : Value) := by simp only [raV, if_pos c_5]
    exact W.lret (v := (-1)) hx hb hr (fun t ht _ => ⟨by rw [hq9], ht.trans hHe.symm⟩) (fun _ h => by cases h) d_ER_ratio_11
set_option maxHeartbeats 4000000 in
set_option maxRecDepth 100000 in
theorem c_atR (l : Launch) (G : GG) (x0 : Nat) (x1 : Nat) (x2 : Nat) (x3 : Nat) (x4 : Nat) (x5 : Nat) (cyc : Int32) (mM : Int32) (mC : Int32) (li : Int32) (eM : Nat) (eC : Nat) (nM : Nat) (nC : Nat) (me : Int64) (mi : Int64) (b : OB) (bM : va_W) (bC : va_W) (am : Nat → Nat) (ac : Nat → Nat) (mon : Nat → Mon) (cod : Nat → Cod) (ii : Int32) (hh : ¬ hasF ii b.1 = 0) (hby : ∃ v : Int32, b.2 ii.toNatClampNeg = v.toInt8.toInt32) : Met l y_ER_at w_ER_at ({ frames := 1, cells := 0, slots := 0, locals := 21 }) (va_Pc [.ref x0, .int ii] (Rw G ([(x0, .inr (0, [.ref x1, .ref x2, .ref x3, .ref x4, .int cyc])), (x1, .inr (1, [.int mM, .ref eM, .int (nI nM)])), (x2, .inr (1, [.int mC, .ref eC, .int (nI nC)])), (x3, .inr (2, [.int li, .long me, .long mi])), (x4, .inr (3, [.ref x5, .int b.1])), (x5, .inl (G.2 1, 41, .inl b.2))] ++ tlW bM bC nM am mon nC ac cod))) (k2_QcV (.int (b.2 ii.toNatClampNeg))) 0 0 (fun _ => False) := by
  refine Met.ofW (cc := b_ER_at) (maxL := 2) (ret := (some .byte)) (by decide) rfl ?_
  intro p e s m args below meth c s₁ B hml hv
  obtain ⟨rfl, hP, hGK⟩ := hv
  have hx := B.exec
  have hb := B.bytes
  have hr := B.returns
  have hts := atoms_spec (ws := w_ER_at) B.pre
  have hT : ∀ w ∈ lwG, w.before _ s = true := fun w h => hts w (List.mem_cons_of_mem _ h)
  have hown : s.vm.findClass R_ER = some m.cls := findClass_of_methodNamed B.named
  have hlocks := B.notSynchronized
  have hK := hGK.1
  have hN := hGK.2
  have hP : va_P G.1 vwCl ([(x0, .inr (0, [.ref x1, .ref x2, .ref x3, .ref x4, .int cyc])), (x1, .inr (1, [.int mM, .ref eM, .int (nI nM)])), (x2, .inr (1, [.int mC, .ref eC, .int (nI nC)])), (x3, .inr (2, [.int li, .long me, .long mi])), (x4, .inr (3, [.ref x5, .int b.1])), (x5, .inl (G.2 1, 41, .inl b.2))] ++ tlW bM bC nM am mon nC ac cod) s.heap := hP
  have hl := lv_entry ([.ref x0, .int ii]) (n := 2) (Nat.le_of_ble_eq_true rfl)
  rw [lg_entry_eq]
  generalize (lg_sl ([.ref x0, .int ii]) ++ List.replicate (2 - (lg_sl ([.ref x0, .int ii])).length) Slot.unset).toArray = ls at hl ⊢
  have hl : lv_has ls 2 [(0, .ref x0), (1, .int ii)] := hl
  generalize hHe : s.heap = H at hP ⊢
  refine lv_aload_n hx hb d_ER_at_0 rfl (lv_at hl 0 rfl) ?_
  refine va_get (D := G.1) (ci := 0) (v := .ref x4) (C := R_ER) (T := T_ER) (N := 5) hx hb hT in_ER hown hK hP 0 rfl rfl 3 (by decide) (hT _ wd_137) (fun _ h9 => h9) rfl d_ER_at_1 ?_
  refine lv_iload_n hx hb d_ER_at_4 rfl (lv_at hl 1 rfl) ?_
  have hPc := hP.sub (ws' := [(x4, .inr (3, [.ref x5, .int b.1])), (x5, .inl (G.2 1, 41, .inl b.2))]) [4, 5] rfl
  refine bx_callV ((va_runVN (As := [.int ii]) (rest := []) ⟨hx, hb, hml, hown, hts⟩ (c_ohas l G x4 x5 b ii) ⟨(va_cnB 1 hts (gi_all wd_559) rfl rfl rfl (hN (.methodLinkNest "EmissionRows" 170 ⟨"EmissionRows$Octets", "has", "(I)Z"⟩ "EmissionRows") nw_556) (hT _ wd_50) (by decide +kernel) ⟨Nat.le_of_ble_eq_true rfl, Nat.le_of_ble_eq_true rfl⟩), (hT _ wd_558), (hT _ wd_32)⟩ (pvR hPc hGK (va_recv hK hPc (ci := 3) (q0 := 0) rfl rfl)) rfl rfl hl.1 rfl (lv_room (Nat.le_of_ble_eq_true rfl)) d_ER_at_5 ⟨Nat.le_of_ble_eq_true rfl, Nat.le_of_ble_eq_true rfl⟩)).run ?_
  refine lv_if_ne (tgt := 21) hx hb d_ER_at_8 (by decide) (fun c_8 => ?_) (fun c_8 => ?_)
  · refine lv_aload_n hx hb d_ER_at_21 rfl (lv_at hl 0 rfl) ?_
    refine va_get (D := G.1) (ci := 0) (v := .ref x4) (C := R_ER) (T := T_ER) (N := 5) hx hb hT in_ER hown hK hP 0 rfl rfl 3 (by decide) (hT _ wd_137) (fun _ h9 => h9) rfl d_ER_at_22 ?_
    refine va_getN (D := G.1) (ci := 3) (v := .ref x5) (C := R_OCT) (T := T_OCT) (N := 2) hx hb hT in_OCT hown hK hP 4 rfl rfl 0 (by decide) (va_Nw.use rfl (hN (.fieldLinkNest "EmissionRows" 178 "EmissionRows$Octets" "octets" "[B" "EmissionRows") nw_125)) (fun _ h9 => h9) rfl d_ER_at_25 ?_
    refine lv_iload_n hx hb d_ER_at_28 rfl (lv_at hl 1 rfl) ?_
    refine va_bald hx hb hK hP 5 1 rfl rfl (has_in c_8) d_ER_at_29 ?_
    exact W.zret (v := b.2 ii.toNatClampNeg) hx hb hr (by obtain ⟨v, hv⟩ := hby; rw [hv]; exact pk_nb v) (fun t ht _ => ⟨rfl, ht.trans hHe.symm⟩) (fun _ h => by cases h) d_ER_at_30
  · exact absurd c_8 hh
set_option maxHeartbeats 4000000 in
set_option maxRecDepth 100000 in
theorem t_ratioT (l : Launch) (hl9 : l.stackTraces = false) (G : GG) (sa : Nat) (x0 : Nat) (x1 : Nat) (x2 : Nat) (x3 : Nat) (x4 : Nat) (x5 : Nat) (cyc : Int32) (mM : Int32) (mC : Int32) (li : Int32) (eM : Nat) (eC : Nat) (nM : Nat) (nC : Nat) (me : Int64) (mi : Int64) (b : OB) (bM : va_W) (bC : va_W) (am : Nat → Nat) (ac : Nat → Nat) (mon : Nat → Mon) (cod : Nat → Cod) (mo : Int32) (sd : Int32) (hM : LB G bM eM nM am) (ht : raT mon nM mo) : cx_Met l y_ER_ratio w_ER_ratio ({ frames := 6, cells := 1, slots := 6, locals := 82 }) (va_Pc [.ref x0, .int mo, .int sd] (PwT G 87 "the monitor had no chance" sa ([(x0, .inr (0, [.ref x1, .ref x2, .ref x3, .ref x4, .int cyc])), (x1, .inr (1, [.int mM, .ref eM, .int (nI nM)])), (x2, .inr (1, [.int mC, .ref eC, .int (nI nC)])), (x3, .inr (2, [.int li, .long me, .long mi])), (x4, .inr (3, [.ref x5, .int b.1])), (x5, .inl (G.2 1, 41, .inl b.2))] ++ tlW bM bC nM am mon nC ac cod))) "java/lang/ArithmeticException" 1 6 := by
  refine cx_ofW (cc := b_ER_ratio) (maxL := 4) (ret := (some .long)) (by decide) rfl ?_
  intro p e s m args below meth c s₁ B hml hv
  obtain ⟨rfl, ⟨hP, hGK⟩, hZ, hR⟩ := hv
  have hx := B.exec
  have hb := B.bytes
  have hr := B.returns
  have hts := atoms_spec (ws := w_ER_ratio) B.pre
  have hT : ∀ w ∈ lwG, w.before _ s = true := fun w h => hts w (List.mem_cons_of_mem _ h)
  have hown : s.vm.findClass R_ER = some m.cls := findClass_of_methodNamed B.named
  have hlocks := B.notSynchronized
  have hK := hGK.1
  have hN := hGK.2
  have hP : va_P G.1 vwCl ([(x0, .inr (0, [.ref x1, .ref x2, .ref x3, .ref x4, .int cyc])), (x1, .inr (1, [.int mM, .ref eM, .int (nI nM)])), (x2, .inr (1, [.int mC, .ref eC, .int (nI nC)])), (x3, .inr (2, [.int li, .long me, .long mi])), (x4, .inr (3, [.ref x5, .int b.1])), (x5, .inl (G.2 1, 41, .inl b.2))] ++ tlW bM bC nM am mon nC ac cod) s.heap := hP
  have hl := lv_entry ([.ref x0, .int mo, .int sd]) (n := 4) (Nat.le_of_ble_eq_true rfl)
  rw [lg_entry_eq]
  generalize (lg_sl ([.ref x0, .int mo, .int sd]) ++ List.replicate (4 - (lg_sl ([.ref x0, .int mo, .int sd])).length) Slot.unset).toArray = ls at hl ⊢
  have hl : lv_has ls 4 [(0, .ref x0), (1, .int mo), (2, .int sd)] := hl
  refine lv_aload_n hx hb d_ER_ratio_0 rfl (lv_at hl 0 rfl) ?_
  refine lv_iload_n hx hb d_ER_ratio_1 rfl (lv_at hl 1 rfl) ?_
  refine bx_callV (W.runV (As := [.int mo]) (rest := []) ⟨hx, hb, hml, hown, hts⟩ (c_isMonitor l G x0 x1 x2 x3 x4 x5 cyc mM mC li eM eC nM nC me mi b bM bC am ac mon cod mo) ⟨(callB_of 1 hts (gi_all wd_323) rfl rfl rfl (hT _ wd_45) (hT _ wd_320) (by decide +kernel) ⟨Nat.le_of_ble_eq_true rfl, Nat.le_of_ble_eq_true rfl⟩), (hT _ wd_322), (hT _ wd_14)⟩ (pvR hP hGK (va_recv hK hP (ci := 0) (q0 := 0) rfl rfl)) rfl rfl hl.1 rfl (lv_room (Nat.le_of_ble_eq_true rfl)) d_ER_ratio_2 ⟨Nat.le_of_ble_eq_true rfl, Nat.le_of_ble_eq_true rfl⟩) ?_
  refine lv_if_ne (tgt := 12) hx hb d_ER_ratio_5 (by decide) (fun c_5 => ?_) (fun c_5 => ?_)
  · obtain ⟨k, hk, hmo⟩ := isM_some c_5 hM.1
    have e9 : mo - 1 = nI k := by rw [hmo]; exact nI_pred k
    have ex9 : ixM mo = k := by rw [hmo]; exact ixM_at (by have := hM.1; omega)
    refine lv_aload_n hx hb d_ER_ratio_12 rfl (lv_at hl 0 rfl) ?_
    refine va_get (D := G.1) (ci := 0) (v := .ref x1) (C := R_ER) (T := T_ER) (N := 5) hx hb hT in_ER hown hK hP 0 rfl rfl 0 (by decide) (hT _ wd_134) (fun _ h9 => h9) rfl d_ER_ratio_13 ?_
    refine lv_iload_n hx hb d_ER_ratio_16 rfl (lv_at hl 1 rfl) ?_
    refine lv_iconst (v := 1) hx hb d_ER_ratio_17 (by decide) ?_
    refine lv_isub hx hb d_ER_ratio_18 ?_
    rw [e9]
    obtain ⟨cap, fa, hbk, hcap, hcap2, hfa⟩ := hM.some hk
    have hPc : va_P G.1 vwCl [(x1, .inr (1, [.int mM, .ref eM, .int (nI nM)])), (eM, .inl (G.2 0, cap, .inr (.inr (.inr (.inr fa)))))] s.heap := (hP.sub (ws' := [(x1, .inr (1, [.int mM, .ref eM, .int (nI nM)]))]) [1] rfl).app (bx_sub hP (fun q9 hq9 => tl_inM (by rw [hbk]; exact hq9)))
    refine bx_callV (W.runV (As := [.int (nI k)]) (rest := []) ⟨hx, hb, hml, hown, hts⟩ (c_get l G x1 eM mM nM k cap fa (am k) hk hcap (by omega) (hfa k hk)) ⟨(callB_of 1 hts (gi_all wd_258) rfl rfl rfl (hT _ wd_48) (hT _ wd_255) (by decide +kernel) ⟨Nat.le_of_ble_eq_true rfl, Nat.le_of_ble_eq_true rfl⟩), (hT _ wd_256), (hT _ wd_257)⟩ (pvR hPc hGK (va_recv hK hPc (ci := 1) (q0 := 0) rfl rfl)) rfl rfl hl.1 rfl (lv_room (Nat.le_of_ble_eq_true rfl)) d_ER_ratio_19 ⟨Nat.le_of_ble_eq_true rfl, Nat.le_of_ble_eq_true rfl⟩) ?_
    refine va_castS hx hb hown (hT _ wd_161) (hK.1 4 _ rfl).2 (va_recv hK hP (ci := 4) rfl (tl_mon hk)) d_ER_ratio_22 ?_
    refine lv_astore_n (lv' := [(3, .ref (am k)), (0, .ref x0), (1, .int mo), (2, .int sd)]) hx hb d_ER_ratio_25 rfl hl (by decide) rfl (fun ls hl => ?_)
    refine lv_aload_n hx hb d_ER_ratio_26 rfl (lv_at hl 0 rfl) ?_
    refine va_getN (D := G.1) (ci := 4) (v := .int ((mon k).2.2.2.1)) (C := R_MON) (T := T_MON) (N := 6) hx hb hT in_MON hown hK hP _ (tl_mon hk) rfl 3 (by decide) (va_Nw.use rfl (hN (.fieldLinkNest "EmissionRows" 80 "EmissionRows$Monitor" "chances" "I" "EmissionRows") nw_173)) (fun _ h9 => h9) rfl d_ER_ratio_27 ?_
    refine lv_if_ne (tgt := 43) hx hb d_ER_ratio_30 (by decide) (fun c_30 => ?_) (fun c_30 => ?_)
    · exact absurd (by rw [← ex9]; exact ht.2) c_30
    · exact cx_throw (names := ["java/lang/RuntimeException", "java/lang/Exception"]) hx hb (hml.trans hl.1.symm) hl9 hown (hT _ wd_479) (hT _ wd_480) (hT _ wd_62) (by decide +kernel) (by decide +kernel) (at_ARE hT (va_Nw.use rfl (hN (.castable "java/lang/ArithmeticException" "java/lang/ArithmeticException") nw_481)) hZ) hR (B.noHandlers (hts _ List.mem_cons_self)) d_ER_ratio_33 d_ER_ratio_36 d_ER_ratio_37 d_ER_ratio_39 d_ER_ratio_42 (Nat.le_of_ble_eq_true rfl) (Nat.le_of_ble_eq_true rfl) (Nat.le_of_ble_eq_true rfl) (Nat.le_of_ble_eq_true rfl) hlocks
  · exact absurd c_5 ht.1
set_option maxHeartbeats 4000000 in
set_option maxRecDepth 100000 in
theorem t_atT (l : Launch) (hl9 : l.stackTraces = false) (G : GG) (sa : Nat) (x0 : Nat) (x1 : Nat) (x2 : Nat) (x3 : Nat) (x4 : Nat) (x5 : Nat) (cyc : Int32) (mM : Int32) (mC : Int32) (li : Int32) (eM : Nat) (eC : Nat) (nM : Nat) (nC : Nat) (me : Int64) (mi : Int64) (b : OB) (bM : va_W) (bC : va_W) (am : Nat → Nat) (ac : Nat → Nat) (mon : Nat → Mon) (cod : Nat → Cod) (ii : Int32) (hh : hasF ii b.1 = 0) : cx_Met l y_ER_at w_ER_at ({ frames := 6, cells := 1, slots := 6, locals := 82 }) (va_Pc [.ref x0, .int ii] (PwT G 175 "the answer has no such octet" sa ([(x0, .inr (0, [.ref x1, .ref x2, .ref x3, .ref x4, .int cyc])), (x1, .inr (1, [.int mM, .ref eM, .int (nI nM)])), (x2, .inr (1, [.int mC, .ref eC, .int (nI nC)])), (x3, .inr (2, [.int li, .long me, .long mi])), (x4, .inr (3, [.ref x5, .int b.1])), (x5, .inl (G.2 1, 41, .inl b.2))] ++ tlW bM bC nM am mon nC ac cod))) "java/lang/IndexOutOfBoundsException" 1 6 := by
  refine cx_ofW (cc := b_ER_at) (maxL := 2) (ret := (some .byte)) (by decide) rfl ?_
  intro p e s m args below meth c s₁ B hml hv
  obtain ⟨rfl, ⟨hP, hGK⟩, hZ, hR⟩ := hv
  have hx := B.exec
  have hb := B.bytes
  have hr := B.returns
  have hts := atoms_spec (ws := w_ER_at) B.pre
  have hT : ∀ w ∈ lwG, w.before _ s = true := fun w h => hts w (List.mem_cons_of_mem _ h)
  have hown : s.vm.findClass R_ER = some m.cls := findClass_of_methodNamed B.named
  have hlocks := B.notSynchronized
  have hK := hGK.1
  have hN := hGK.2
  have hP : va_P G.1 vwCl ([(x0, .inr (0, [.ref x1, .ref x2, .ref x3, .ref x4, .int cyc])), (x1, .inr (1, [.int mM, .ref eM, .int (nI nM)])), (x2, .inr (1, [.int mC, .ref eC, .int (nI nC)])), (x3, .inr (2, [.int li, .long me, .long mi])), (x4, .inr (3, [.ref x5, .int b.1])), (x5, .inl (G.2 1, 41, .inl b.2))] ++ tlW bM bC nM am mon nC ac cod) s.heap := hP
  have hl := lv_entry ([.ref x0, .int ii]) (n := 2) (Nat.le_of_ble_eq_true rfl)
  rw [lg_entry_eq]
  generalize (lg_sl ([.ref x0, .int ii]) ++ List.replicate (2 - (lg_sl ([.ref x0, .int ii])).length) Slot.unset).toArray = ls at hl ⊢
  have hl : lv_has ls 2 [(0, .ref x0), (1, .int ii)] := hl
  refine lv_aload_n hx hb d_ER_at_0 rfl (lv_at hl 0 rfl) ?_
  refine va_get (D := G.1) (ci := 0) (v := .ref x4) (C := R_ER) (T := T_ER) (N := 5) hx hb hT in_ER hown hK hP 0 rfl rfl 3 (by decide) (hT _ wd_137) (fun _ h9 => h9) rfl d_ER_at_1 ?_
  refine lv_iload_n hx hb d_ER_at_4 rfl (lv_at hl 1 rfl) ?_
  have hPc := hP.sub (ws' := [(x4, .inr (3, [.ref x5, .int b.1])), (x5, .inl (G.2 1, 41, .inl b.2))]) [4, 5] rfl
  refine bx_callV ((va_runVN (As := [.int ii]) (rest := []) ⟨hx, hb, hml, hown, hts⟩ (c_ohas l G x4 x5 b ii) ⟨(va_cnB 1 hts (gi_all wd_559) rfl rfl rfl (hN (.methodLinkNest "EmissionRows" 170 ⟨"EmissionRows$Octets", "has", "(I)Z"⟩ "EmissionRows") nw_556) (hT _ wd_50) (by decide +kernel) ⟨Nat.le_of_ble_eq_true rfl, Nat.le_of_ble_eq_true rfl⟩), (hT _ wd_558), (hT _ wd_32)⟩ (pvR hPc hGK (va_recv hK hPc (ci := 3) (q0 := 0) rfl rfl)) rfl rfl hl.1 rfl (lv_room (Nat.le_of_ble_eq_true rfl)) d_ER_at_5 ⟨Nat.le_of_ble_eq_true rfl, Nat.le_of_ble_eq_true rfl⟩)).run ?_
  refine lv_if_ne (tgt := 21) hx hb d_ER_at_8 (by decide) (fun c_8 => ?_) (fun c_8 => ?_)
  · exact absurd hh c_8
  · exact cx_throw (names := ["java/lang/RuntimeException", "java/lang/Exception"]) hx hb (hml.trans hl.1.symm) hl9 hown (hT _ wd_560) (hT _ wd_561) (hT _ wd_64) (by decide +kernel) (by decide +kernel) (at_IOB hT (va_Nw.use rfl (hN (.castable "java/lang/IndexOutOfBoundsException" "java/lang/IndexOutOfBoundsException") nw_562)) hZ) hR (B.noHandlers (hts _ List.mem_cons_self)) d_ER_at_11 d_ER_at_14 d_ER_at_15 d_ER_at_17 d_ER_at_20 (Nat.le_of_ble_eq_true rfl) (Nat.le_of_ble_eq_true rfl) (Nat.le_of_ble_eq_true rfl) (Nat.le_of_ble_eq_true rfl) hlocks
