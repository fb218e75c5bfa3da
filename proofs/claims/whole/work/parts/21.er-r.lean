set_option maxHeartbeats 4000000 in
set_option maxRecDepth 100000 in
theorem c_isMonitor (l : Launch) (G : GG) (x0 : Nat) (x1 : Nat) (x2 : Nat) (x3 : Nat) (x4 : Nat) (x5 : Nat) (cyc : Int32) (mM : Int32) (mC : Int32) (li : Int32) (eM : Nat) (eC : Nat) (nM : Nat) (nC : Nat) (me : Int64) (mi : Int64) (b : OB) (bM : va_W) (bC : va_W) (am : Nat → Nat) (ac : Nat → Nat) (mon : Nat → Mon) (cod : Nat → Cod) (nn : Int32)  : Met l y_ER_isMonitor w_ER_isMonitor ({ frames := 1, cells := 0, slots := 0, locals := 20 }) (va_Pc [.ref x0, .int nn] (Rw G ([(x0, .inr (0, [.ref x1, .ref x2, .ref x3, .ref x4, .int cyc])), (x1, .inr (1, [.int mM, .ref eM, .int (nI nM)])), (x2, .inr (1, [.int mC, .ref eC, .int (nI nC)])), (x3, .inr (2, [.int li, .long me, .long mi])), (x4, .inr (3, [.ref x5, .int b.1])), (x5, .inl (G.2 1, 41, .inl b.2))] ++ tlW bM bC nM am mon nC ac cod))) (k2_QcV (.int (isM nn nM))) 0 0 (fun _ => False) := by
  refine Met.ofW (cc := b_ER_isMonitor) (maxL := 2) (ret := (some .boolean)) (by decide) rfl ?_
  intro p e s m args below meth c s₁ B hml hv
  obtain ⟨rfl, hP, hGK⟩ := hv
  have hx := B.exec
  have hb := B.bytes
  have hr := B.returns
  have hts := atoms_spec (ws := w_ER_isMonitor) B.pre
  have hT : ∀ w ∈ lwG, w.before _ s = true := fun w h => hts w (List.mem_cons_of_mem _ h)
  have hown : s.vm.findClass R_ER = some m.cls := findClass_of_methodNamed B.named
  have hlocks := B.notSynchronized
  have hK := hGK.1
  have hN := hGK.2
  have hP : va_P G.1 vwCl ([(x0, .inr (0, [.ref x1, .ref x2, .ref x3, .ref x4, .int cyc])), (x1, .inr (1, [.int mM, .ref eM, .int (nI nM)])), (x2, .inr (1, [.int mC, .ref eC, .int (nI nC)])), (x3, .inr (2, [.int li, .long me, .long mi])), (x4, .inr (3, [.ref x5, .int b.1])), (x5, .inl (G.2 1, 41, .inl b.2))] ++ tlW bM bC nM am mon nC ac cod) s.heap := hP
  have hl := lv_entry ([.ref x0, .int nn]) (n := 2) (Nat.le_of_ble_eq_true rfl)
  rw [lg_entry_eq]
  generalize (lg_sl ([.ref x0, .int nn]) ++ List.replicate (2 - (lg_sl ([.ref x0, .int nn])).length) Slot.unset).toArray = ls at hl ⊢
  have hl : lv_has ls 2 [(0, .ref x0), (1, .int nn)] := hl
  generalize hHe : s.heap = H at hP ⊢
  refine lv_iload_n hx hb d_ER_isMonitor_0 rfl (lv_at hl 1 rfl) ?_
  refine lv_iconst (v := 1) hx hb d_ER_isMonitor_1 (by decide) ?_
  refine lv_icmp_lt (tgt := 20) hx hb d_ER_isMonitor_2 (by decide) (fun c_2 => ?_) (fun c_2 => ?_)
  · refine lv_iconst (v := 0) hx hb d_ER_isMonitor_20 (by decide) ?_
    have hq9 : (.int (isM nn nM)) = (.int 0 : Value) := by first | (simp [isM, c_2]; done) | (simp_all [isM]; done)
    exact W.zret (v := 0) hx hb hr rfl (fun t ht _ => ⟨by rw [hq9], ht.trans hHe.symm⟩) (fun _ h => by cases h) d_ER_isMonitor_21
  · refine lv_iload_n hx hb d_ER_isMonitor_5 rfl (lv_at hl 1 rfl) ?_
    refine lv_aload_n hx hb d_ER_isMonitor_6 rfl (lv_at hl 0 rfl) ?_
    refine va_get (D := G.1) (ci := 0) (v := .ref x1) (C := R_ER) (T := T_ER) (N := 5) hx hb hT in_ER hown hK hP 0 rfl rfl 0 (by decide) (hT _ wd_134) (fun _ h9 => h9) rfl d_ER_isMonitor_7 ?_
    have hPc := hP.sub (ws' := [(x1, .inr (1, [.int mM, .ref eM, .int (nI nM)]))]) [1] rfl
    refine bx_callV (W.runV (As := []) (rest := [.int nn]) ⟨hx, hb, hml, hown, hts⟩ (c_size l G x1 eM mM (nI nM)) ⟨(callB_of 0 hts (gi_all wd_160) rfl rfl rfl (hT _ wd_48) (hT _ wd_157) (by decide +kernel) ⟨Nat.le_of_ble_eq_true rfl, Nat.le_of_ble_eq_true rfl⟩), (hT _ wd_158), (hT _ wd_159)⟩ (pvR hPc hGK (va_recv hK hPc (ci := 1) (q0 := 0) rfl rfl)) rfl rfl hl.1 rfl (lv_room (Nat.le_of_ble_eq_true rfl)) d_ER_isMonitor_10 ⟨Nat.le_of_ble_eq_true rfl, Nat.le_of_ble_eq_true rfl⟩) ?_
    refine lv_icmp_gt (tgt := 20) hx hb d_ER_isMonitor_13 (by decide) (fun c_13 => ?_) (fun c_13 => ?_)
    · refine lv_iconst (v := 0) hx hb d_ER_isMonitor_20 (by decide) ?_
      have hq9 : (.int (isM nn nM)) = (.int 0 : Value) := by first | (simp [isM, c_2, c_13]; done) | (simp_all [isM]; done)
      exact W.zret (v := 0) hx hb hr rfl (fun t ht _ => ⟨by rw [hq9], ht.trans hHe.symm⟩) (fun _ h => by cases h) d_ER_isMonitor_21
    · refine lv_iconst (v := 1) hx hb d_ER_isMonitor_16 (by decide) ?_
      refine lv_goto (tgt := 21) hx hb d_ER_isMonitor_17 (by decide) ?_
      have hq9 : (.int (isM nn nM)) = (.int 1 : Value) := by first | (simp [isM, c_2, c_13]; done) | (simp_all [isM]; done)
      exact W.zret (v := 1) hx hb hr rfl (fun t ht _ => ⟨by rw [hq9], ht.trans hHe.symm⟩) (fun _ h => by cases h) d_ER_isMonitor_21
set_option maxHeartbeats 4000000 in
set_option maxRecDepth 100000 in
theorem c_howManyConfirmed (l : Launch) (G : GG) (x0 : Nat) (x1 : Nat) (x2 : Nat) (x3 : Nat) (x4 : Nat) (x5 : Nat) (cyc : Int32) (mM : Int32) (mC : Int32) (li : Int32) (eM : Nat) (eC : Nat) (nM : Nat) (nC : Nat) (me : Int64) (mi : Int64) (b : OB) (bM : va_W) (bC : va_W) (am : Nat → Nat) (ac : Nat → Nat) (mon : Nat → Mon) (cod : Nat → Cod) (hC : LB G bC eC nC ac) : Met l y_ER_howManyConfirmed w_ER_howManyConfirmed ({ frames := 3, cells := 0, slots := 0, locals := 64 }) (va_Pc [.ref x0] (Rw G ([(x0, .inr (0, [.ref x1, .ref x2, .ref x3, .ref x4, .int cyc])), (x1, .inr (1, [.int mM, .ref eM, .int (nI nM)])), (x2, .inr (1, [.int mC, .ref eC, .int (nI nC)])), (x3, .inr (2, [.int li, .long me, .long mi])), (x4, .inr (3, [.ref x5, .int b.1])), (x5, .inl (G.2 1, 41, .inl b.2))] ++ tlW bM bC nM am mon nC ac cod))) (k2_QcV (.int (cntC cod nC))) 0 0 (fun _ => False) := by
  refine Met.ofW (cc := b_ER_howManyConfirmed) (maxL := 3) (ret := (some .int)) (by decide) rfl ?_
  intro p e s m args below meth c s₁ B hml hv
  obtain ⟨rfl, hP, hGK⟩ := hv
  have hx := B.exec
  have hb := B.bytes
  have hr := B.returns
  have hts := atoms_spec (ws := w_ER_howManyConfirmed) B.pre
  have hT : ∀ w ∈ lwG, w.before _ s = true := fun w h => hts w (List.mem_cons_of_mem _ h)
  have hown : s.vm.findClass R_ER = some m.cls := findClass_of_methodNamed B.named
  have hlocks := B.notSynchronized
  have hK := hGK.1
  have hN := hGK.2
  have hP : va_P G.1 vwCl ([(x0, .inr (0, [.ref x1, .ref x2, .ref x3, .ref x4, .int cyc])), (x1, .inr (1, [.int mM, .ref eM, .int (nI nM)])), (x2, .inr (1, [.int mC, .ref eC, .int (nI nC)])), (x3, .inr (2, [.int li, .long me, .long mi])), (x4, .inr (3, [.ref x5, .int b.1])), (x5, .inl (G.2 1, 41, .inl b.2))] ++ tlW bM bC nM am mon nC ac cod) s.heap := hP
  have hl := lv_entry ([.ref x0]) (n := 3) (Nat.le_of_ble_eq_true rfl)
  rw [lg_entry_eq]
  generalize (lg_sl ([.ref x0]) ++ List.replicate (3 - (lg_sl ([.ref x0])).length) Slot.unset).toArray = ls at hl ⊢
  have hl : lv_has ls 3 [(0, .ref x0)] := hl
  generalize hHe : s.heap = H at hP ⊢
  refine lv_iconst (v := 0) hx hb d_ER_howManyConfirmed_0 (by decide) ?_
  refine lv_istore_n (lv' := [(1, .int 0), (0, .ref x0)]) hx hb d_ER_howManyConfirmed_1 rfl hl (by decide) rfl (fun ls hl => ?_)
  refine lv_iconst (v := 0) hx hb d_ER_howManyConfirmed_2 (by decide) ?_
  refine lv_istore_n (lv' := [(2, .int 0), (1, .int 0), (0, .ref x0)]) hx hb d_ER_howManyConfirmed_3 rfl hl (by decide) rfl (fun ls hl => ?_)
  refine bx_loopR (σ := Nat × Int32) (fun q ls => q.1 ≤ nC ∧ q.2 = cntC cod q.1 ∧ lv_has ls 3 [(0, .ref x0), (1, .int q.2), (2, .int (nI q.1))]) (fun q => nC - q.1) _ (fun q ls hI ih => ?_) (0, 0) ls ⟨Nat.zero_le _, rfl, lv_sub hl [2, 1, 0] rfl⟩
  obtain ⟨k, ac1⟩ := q
  obtain ⟨hkn, hac, hl⟩ := hI
  have hkn : k ≤ nC := hkn
  have hac : ac1 = cntC cod k := hac
  have hl : lv_has ls 3 [(0, .ref x0), (1, .int ac1), (2, .int (nI k))] := hl
  refine lv_iload_n hx hb d_ER_howManyConfirmed_4 rfl (lv_at hl 2 rfl) ?_
  refine lv_aload_n hx hb d_ER_howManyConfirmed_5 rfl (lv_at hl 0 rfl) ?_
  refine va_get (D := G.1) (ci := 0) (v := .ref x2) (C := R_ER) (T := T_ER) (N := 5) hx hb hT in_ER hown hK hP 0 rfl rfl 1 (by decide) (hT _ wd_135) (fun _ h9 => h9) rfl d_ER_howManyConfirmed_6 ?_
  have hPc := hP.sub (ws' := [(x2, .inr (1, [.int mC, .ref eC, .int (nI nC)]))]) [2] rfl
  refine bx_callV (W.runV (As := []) (rest := [.int (nI k)]) ⟨hx, hb, hml, hown, hts⟩ (c_size l G x2 eC mC (nI nC)) ⟨(callB_of 0 hts (gi_all wd_160) rfl rfl rfl (hT _ wd_48) (hT _ wd_157) (by decide +kernel) ⟨Nat.le_of_ble_eq_true rfl, Nat.le_of_ble_eq_true rfl⟩), (hT _ wd_158), (hT _ wd_159)⟩ (pvR hPc hGK (va_recv hK hPc (ci := 1) (q0 := 0) rfl rfl)) rfl rfl hl.1 rfl (lv_room (Nat.le_of_ble_eq_true rfl)) d_ER_howManyConfirmed_9 ⟨Nat.le_of_ble_eq_true rfl, Nat.le_of_ble_eq_true rfl⟩) ?_
  refine lv_icmp_ge (tgt := 41) hx hb d_ER_howManyConfirmed_12 (by decide) (fun c_12 => ?_) (fun c_12 => ?_)
  · have hge : nC ≤ k := (nI_leI (by have := hC.1; omega) (by have := hC.1; omega)).mp c_12
    have hke : k = nC := by omega
    refine lv_iload_n hx hb d_ER_howManyConfirmed_41 rfl (lv_at hl 1 rfl) ?_
    have hq9 : (.int (cntC cod nC)) = (.int ac1 : Value) := by rw [hac, hke]
    exact W.iret (v := ac1) hx hb hr (fun t ht _ => ⟨by rw [hq9], ht.trans hHe.symm⟩) (fun _ h => by cases h) d_ER_howManyConfirmed_42
  · have hk : k < nC := Nat.not_le.mp (fun z => c_12 (nI_le z (by have := hC.1; omega)))
    refine lv_aload_n hx hb d_ER_howManyConfirmed_15 rfl (lv_at hl 0 rfl) ?_
    refine va_get (D := G.1) (ci := 0) (v := .ref x2) (C := R_ER) (T := T_ER) (N := 5) hx hb hT in_ER hown hK hP 0 rfl rfl 1 (by decide) (hT _ wd_135) (fun _ h9 => h9) rfl d_ER_howManyConfirmed_16 ?_
    refine lv_iload_n hx hb d_ER_howManyConfirmed_19 rfl (lv_at hl 2 rfl) ?_
    obtain ⟨cap, fa, hbk, hcap, hcap2, hfa⟩ := hC.some hk
    have hPc : va_P G.1 vwCl [(x2, .inr (1, [.int mC, .ref eC, .int (nI nC)])), (eC, .inl (G.2 0, cap, .inr (.inr (.inr (.inr fa)))))] H := (hP.sub (ws' := [(x2, .inr (1, [.int mC, .ref eC, .int (nI nC)]))]) [2] rfl).app (bx_sub hP (fun q9 hq9 => tl_inC (by rw [hbk]; exact hq9)))
    refine bx_callV (W.runV (As := [.int (nI k)]) (rest := []) ⟨hx, hb, hml, hown, hts⟩ (c_get l G x2 eC mC nC k cap fa (ac k) hk hcap (by omega) (hfa k hk)) ⟨(callB_of 1 hts (gi_all wd_258) rfl rfl rfl (hT _ wd_48) (hT _ wd_255) (by decide +kernel) ⟨Nat.le_of_ble_eq_true rfl, Nat.le_of_ble_eq_true rfl⟩), (hT _ wd_256), (hT _ wd_257)⟩ (pvR hPc hGK (va_recv hK hPc (ci := 1) (q0 := 0) rfl rfl)) rfl rfl hl.1 rfl (lv_room (Nat.le_of_ble_eq_true rfl)) d_ER_howManyConfirmed_20 ⟨Nat.le_of_ble_eq_true rfl, Nat.le_of_ble_eq_true rfl⟩) ?_
    refine va_castS hx hb hown (hT _ wd_289) (hK.1 5 _ rfl).2 (va_recv hK hP (ci := 5) rfl (tl_cod hk)) d_ER_howManyConfirmed_23 ?_
    refine va_getN (D := G.1) (ci := 5) (v := .int ((cod k).2.2.2.1)) (C := R_COD) (T := T_COD) (N := 9) hx hb hT in_COD hown hK hP _ (tl_cod hk) rfl 3 (by decide) (va_Nw.use rfl (hN (.fieldLinkNest "EmissionRows" 199 "EmissionRows$Code" "confirmed" "Z" "EmissionRows") nw_350)) (fun _ h9 => h9) rfl d_ER_howManyConfirmed_26 ?_
    refine lv_if_eq (tgt := 35) hx hb d_ER_howManyConfirmed_29 (by decide) (fun c_29 => ?_) (fun c_29 => ?_)
    · refine lv_iinc (v := nI (k + 1)) (lv' := [(2, .int (nI (k + 1))), (0, .ref x0), (1, .int ac1)]) hx hb d_ER_howManyConfirmed_35 hl (k := 2) rfl (nI_succ _).symm (by decide) rfl (fun ls hl => ?_)
      refine lv_goto (tgt := 4) hx hb d_ER_howManyConfirmed_38 (by decide) ?_
      exact ih ((k + 1), ac1) _ ⟨hk, by simp [cntC, hac, c_12, c_29], lv_sub hl [1, 2, 0] rfl⟩ (by show nC - (k + 1) < nC - k; omega)
    · refine lv_iinc (v := ac1 + 1) (lv' := [(1, .int (ac1 + 1)), (0, .ref x0), (2, .int (nI k))]) hx hb d_ER_howManyConfirmed_32 hl (k := 1) rfl rfl (by decide) rfl (fun ls hl => ?_)
      refine lv_iinc (v := nI (k + 1)) (lv' := [(2, .int (nI (k + 1))), (1, .int (ac1 + 1)), (0, .ref x0)]) hx hb d_ER_howManyConfirmed_35 hl (k := 2) rfl (nI_succ _).symm (by decide) rfl (fun ls hl => ?_)
      refine lv_goto (tgt := 4) hx hb d_ER_howManyConfirmed_38 (by decide) ?_
      exact ih ((k + 1), ac1 + 1) _ ⟨hk, by simp [cntC, hac, c_12, c_29], lv_sub hl [2, 1, 0] rfl⟩ (by show nC - (k + 1) < nC - k; omega)
set_option maxHeartbeats 4000000 in
set_option maxRecDepth 100000 in
theorem c_readinessOf (l : Launch) (G : GG) (x0 : Nat) (x1 : Nat) (x2 : Nat) (x3 : Nat) (x4 : Nat) (x5 : Nat) (cyc : Int32) (mM : Int32) (mC : Int32) (li : Int32) (eM : Nat) (eC : Nat) (nM : Nat) (nC : Nat) (me : Int64) (mi : Int64) (b : OB) (bM : va_W) (bC : va_W) (am : Nat → Nat) (ac : Nat → Nat) (mon : Nat → Mon) (cod : Nat → Cod) (kd : Int32) (hM : LB G bM eM nM am) : Met l y_ER_readinessOf w_ER_readinessOf ({ frames := 3, cells := 0, slots := 0, locals := 64 }) (va_Pc [.ref x0, .int kd] (Rw G ([(x0, .inr (0, [.ref x1, .ref x2, .ref x3, .ref x4, .int cyc])), (x1, .inr (1, [.int mM, .ref eM, .int (nI nM)])), (x2, .inr (1, [.int mC, .ref eC, .int (nI nC)])), (x3, .inr (2, [.int li, .long me, .long mi])), (x4, .inr (3, [.ref x5, .int b.1])), (x5, .inl (G.2 1, 41, .inl b.2))] ++ tlW bM bC nM am mon nC ac cod))) (k2_QcV (.int (rdF mon kd nM nM 2))) 0 0 (fun _ => False) := by
  refine Met.ofW (cc := b_ER_readinessOf) (maxL := 5) (ret := (some .int)) (by decide) rfl ?_
  intro p e s m args below meth c s₁ B hml hv
  obtain ⟨rfl, hP, hGK⟩ := hv
  have hx := B.exec
  have hb := B.bytes
  have hr := B.returns
  have hts := atoms_spec (ws := w_ER_readinessOf) B.pre
  have hT : ∀ w ∈ lwG, w.before _ s = true := fun w h => hts w (List.mem_cons_of_mem _ h)
  have hown : s.vm.findClass R_ER = some m.cls := findClass_of_methodNamed B.named
  have hlocks := B.notSynchronized
  have hK := hGK.1
  have hN := hGK.2
  have hP : va_P G.1 vwCl ([(x0, .inr (0, [.ref x1, .ref x2, .ref x3, .ref x4, .int cyc])), (x1, .inr (1, [.int mM, .ref eM, .int (nI nM)])), (x2, .inr (1, [.int mC, .ref eC, .int (nI nC)])), (x3, .inr (2, [.int li, .long me, .long mi])), (x4, .inr (3, [.ref x5, .int b.1])), (x5, .inl (G.2 1, 41, .inl b.2))] ++ tlW bM bC nM am mon nC ac cod) s.heap := hP
  have hl := lv_entry ([.ref x0, .int kd]) (n := 5) (Nat.le_of_ble_eq_true rfl)
  rw [lg_entry_eq]
  generalize (lg_sl ([.ref x0, .int kd]) ++ List.replicate (5 - (lg_sl ([.ref x0, .int kd])).length) Slot.unset).toArray = ls at hl ⊢
  have hl : lv_has ls 5 [(0, .ref x0), (1, .int kd)] := hl
  generalize hHe : s.heap = H at hP ⊢
  refine lv_iconst (v := 2) hx hb d_ER_readinessOf_0 (by decide) ?_
  refine lv_istore_n (lv' := [(2, .int 2), (0, .ref x0), (1, .int kd)]) hx hb d_ER_readinessOf_1 rfl hl (by decide) rfl (fun ls hl => ?_)
  refine lv_iconst (v := 0) hx hb d_ER_readinessOf_2 (by decide) ?_
  refine lv_istore_n (lv' := [(3, .int 0), (2, .int 2), (0, .ref x0), (1, .int kd)]) hx hb d_ER_readinessOf_3 rfl hl (by decide) rfl (fun ls hl => ?_)
  refine bx_loopR (σ := Nat × Int32) (fun q ls => q.1 ≤ nM ∧ rdF mon kd nM (nM - q.1) q.2 = rdF mon kd nM nM 2 ∧ lv_has ls 5 [(0, .ref x0), (1, .int kd), (2, .int q.2), (3, .int (nI q.1))]) (fun q => nM - q.1) _ (fun q ls hI ih => ?_) (0, 2) ls ⟨Nat.zero_le _, rfl, lv_sub hl [2, 3, 1, 0] rfl⟩
  obtain ⟨k, ac1⟩ := q
  obtain ⟨hkn, hrd, hl⟩ := hI
  have hkn : k ≤ nM := hkn
  have hrd : rdF mon kd nM (nM - k) ac1 = rdF mon kd nM nM 2 := hrd
  have hl : lv_has ls 5 [(0, .ref x0), (1, .int kd), (2, .int ac1), (3, .int (nI k))] := hl
  refine lv_iload_n hx hb d_ER_readinessOf_4 rfl (lv_at hl 3 rfl) ?_
  refine lv_aload_n hx hb d_ER_readinessOf_5 rfl (lv_at hl 0 rfl) ?_
  refine va_get (D := G.1) (ci := 0) (v := .ref x1) (C := R_ER) (T := T_ER) (N := 5) hx hb hT in_ER hown hK hP 0 rfl rfl 0 (by decide) (hT _ wd_134) (fun _ h9 => h9) rfl d_ER_readinessOf_6 ?_
  have hPc := hP.sub (ws' := [(x1, .inr (1, [.int mM, .ref eM, .int (nI nM)]))]) [1] rfl
  refine bx_callV (W.runV (As := []) (rest := [.int (nI k)]) ⟨hx, hb, hml, hown, hts⟩ (c_size l G x1 eM mM (nI nM)) ⟨(callB_of 0 hts (gi_all wd_160) rfl rfl rfl (hT _ wd_48) (hT _ wd_157) (by decide +kernel) ⟨Nat.le_of_ble_eq_true rfl, Nat.le_of_ble_eq_true rfl⟩), (hT _ wd_158), (hT _ wd_159)⟩ (pvR hPc hGK (va_recv hK hPc (ci := 1) (q0 := 0) rfl rfl)) rfl rfl hl.1 rfl (lv_room (Nat.le_of_ble_eq_true rfl)) d_ER_readinessOf_9 ⟨Nat.le_of_ble_eq_true rfl, Nat.le_of_ble_eq_true rfl⟩) ?_
  refine lv_icmp_ge (tgt := 55) hx hb d_ER_readinessOf_12 (by decide) (fun c_12 => ?_) (fun c_12 => ?_)
  · have hge : nM ≤ k := (nI_leI (by have := hM.1; omega) (by have := hM.1; omega)).mp c_12
    have hke : k = nM := by omega
    refine lv_iload_n hx hb d_ER_readinessOf_55 rfl (lv_at hl 2 rfl) ?_
    have hq9 : (.int (rdF mon kd nM nM 2)) = (.int ac1 : Value) := by rw [← hrd, hke, Nat.sub_self]; rfl
    exact W.iret (v := ac1) hx hb hr (fun t ht _ => ⟨by rw [hq9], ht.trans hHe.symm⟩) (fun _ h => by cases h) d_ER_readinessOf_56
  · have hk : k < nM := Nat.not_le.mp (fun z => c_12 (nI_le z (by have := hM.1; omega)))
    refine lv_aload_n hx hb d_ER_readinessOf_15 rfl (lv_at hl 0 rfl) ?_
    refine va_get (D := G.1) (ci := 0) (v := .ref x1) (C := R_ER) (T := T_ER) (N := 5) hx hb hT in_ER hown hK hP 0 rfl rfl 0 (by decide) (hT _ wd_134) (fun _ h9 => h9) rfl d_ER_readinessOf_16 ?_
    refine lv_iload_n hx hb d_ER_readinessOf_19 rfl (lv_at hl 3 rfl) ?_
    obtain ⟨cap, fa, hbk, hcap, hcap2, hfa⟩ := hM.some hk
    have hPc : va_P G.1 vwCl [(x1, .inr (1, [.int mM, .ref eM, .int (nI nM)])), (eM, .inl (G.2 0, cap, .inr (.inr (.inr (.inr fa)))))] H := (hP.sub (ws' := [(x1, .inr (1, [.int mM, .ref eM, .int (nI nM)]))]) [1] rfl).app (bx_sub hP (fun q9 hq9 => tl_inM (by rw [hbk]; exact hq9)))
    refine bx_callV (W.runV (As := [.int (nI k)]) (rest := []) ⟨hx, hb, hml, hown, hts⟩ (c_get l G x1 eM mM nM k cap fa (am k) hk hcap (by omega) (hfa k hk)) ⟨(callB_of 1 hts (gi_all wd_258) rfl rfl rfl (hT _ wd_48) (hT _ wd_255) (by decide +kernel) ⟨Nat.le_of_ble_eq_true rfl, Nat.le_of_ble_eq_true rfl⟩), (hT _ wd_256), (hT _ wd_257)⟩ (pvR hPc hGK (va_recv hK hPc (ci := 1) (q0 := 0) rfl rfl)) rfl rfl hl.1 rfl (lv_room (Nat.le_of_ble_eq_true rfl)) d_ER_readinessOf_20 ⟨Nat.le_of_ble_eq_true rfl, Nat.le_of_ble_eq_true rfl⟩) ?_
    refine va_castS hx hb hown (hT _ wd_161) (hK.1 4 _ rfl).2 (va_recv hK hP (ci := 4) rfl (tl_mon hk)) d_ER_readinessOf_23 ?_
    refine lv_astore (lv' := [(4, .ref (am k)), (0, .ref x0), (1, .int kd), (2, .int ac1), (3, .int (nI k))]) hx hb d_ER_readinessOf_26 hl (by decide) rfl (fun ls hl => ?_)
    refine lv_aload hx hb d_ER_readinessOf_28 (lv_at hl 0 rfl) ?_
    refine va_getN (D := G.1) (ci := 4) (v := .int ((mon k).1)) (C := R_MON) (T := T_MON) (N := 6) hx hb hT in_MON hown hK hP _ (tl_mon hk) rfl 0 (by decide) (va_Nw.use rfl (hN (.fieldLinkNest "EmissionRows" 202 "EmissionRows$Monitor" "kind" "I" "EmissionRows") nw_168)) (fun _ h9 => h9) rfl d_ER_readinessOf_30 ?_
    refine lv_iload_n hx hb d_ER_readinessOf_33 rfl (lv_at hl 2 rfl) ?_
    refine lv_icmp_ne (tgt := 49) hx hb d_ER_readinessOf_34 (by decide) (fun c_34 => ?_) (fun c_34 => ?_)
    · refine lv_iinc (v := nI (k + 1)) (lv' := [(3, .int (nI (k + 1))), (4, .ref (am k)), (0, .ref x0), (1, .int kd), (2, .int ac1)]) hx hb d_ER_readinessOf_49 hl (k := 4) rfl (nI_succ _).symm (by decide) rfl (fun ls hl => ?_)
      refine lv_goto (tgt := 4) hx hb d_ER_readinessOf_52 (by decide) ?_
      exact ih ((k + 1), ac1) _ ⟨hk, by rw [← hrd, rdF_step _ _ hk]; simp [c_12, c_34], lv_sub hl [2, 3, 4, 0] rfl⟩ (by show nM - (k + 1) < nM - k; omega)
    · refine lv_aload hx hb d_ER_readinessOf_37 (lv_at hl 0 rfl) ?_
      refine va_getN (D := G.1) (ci := 4) (v := .int ((mon k).2.2.2.2.2)) (C := R_MON) (T := T_MON) (N := 6) hx hb hT in_MON hown hK hP _ (tl_mon hk) rfl 5 (by decide) (va_Nw.use rfl (hN (.fieldLinkNest "EmissionRows" 122 "EmissionRows$Monitor" "tested" "Z" "EmissionRows") nw_176)) (fun _ h9 => h9) rfl d_ER_readinessOf_39 ?_
      refine lv_if_ne (tgt := 47) hx hb d_ER_readinessOf_42 (by decide) (fun c_42 => ?_) (fun c_42 => ?_)
      · refine lv_iconst (v := 1) hx hb d_ER_readinessOf_47 (by decide) ?_
        refine lv_istore_n (lv' := [(2, .int 1), (4, .ref (am k)), (0, .ref x0), (1, .int kd), (3, .int (nI k))]) hx hb d_ER_readinessOf_48 rfl hl (by decide) rfl (fun ls hl => ?_)
        refine lv_iinc (v := nI (k + 1)) (lv' := [(3, .int (nI (k + 1))), (2, .int 1), (4, .ref (am k)), (0, .ref x0), (1, .int kd)]) hx hb d_ER_readinessOf_49 hl (k := 4) rfl (nI_succ _).symm (by decide) rfl (fun ls hl => ?_)
        refine lv_goto (tgt := 4) hx hb d_ER_readinessOf_52 (by decide) ?_
        exact ih ((k + 1), 1) _ ⟨hk, by rw [← hrd, rdF_step _ _ hk]; simp [c_12, c_34, c_42], lv_sub hl [3, 4, 1, 0] rfl⟩ (by show nM - (k + 1) < nM - k; omega)
      · refine lv_iconst (v := 0) hx hb d_ER_readinessOf_45 (by decide) ?_
        have hq9 : (.int (rdF mon kd nM nM 2)) = (.int 0 : Value) := by rw [← hrd, rdF_step _ _ hk]; simp [c_34, c_42]
        exact W.iret (v := 0) hx hb hr (fun t ht _ => ⟨by rw [hq9], ht.trans hHe.symm⟩) (fun _ h => by cases h) d_ER_readinessOf_46
set_option maxHeartbeats 4000000 in
set_option maxRecDepth 100000 in
theorem c_ready (l : Launch) (G : GG) (x0 : Nat) (x1 : Nat) (x2 : Nat) (x3 : Nat) (x4 : Nat) (x5 : Nat) (cyc : Int32) (mM : Int32) (mC : Int32) (li : Int32) (eM : Nat) (eC : Nat) (nM : Nat) (nC : Nat) (me : Int64) (mi : Int64) (b : OB) (bM : va_W) (bC : va_W) (am : Nat → Nat) (ac : Nat → Nat) (mon : Nat → Mon) (cod : Nat → Cod) (kd : Int32) (hM : LB G bM eM nM am) : Met l y_ER_ready w_ER_ready ({ frames := 4, cells := 0, slots := 0, locals := 88 }) (va_Pc [.ref x0, .int kd] (Rw G ([(x0, .inr (0, [.ref x1, .ref x2, .ref x3, .ref x4, .int cyc])), (x1, .inr (1, [.int mM, .ref eM, .int (nI nM)])), (x2, .inr (1, [.int mC, .ref eC, .int (nI nC)])), (x3, .inr (2, [.int li, .long me, .long mi])), (x4, .inr (3, [.ref x5, .int b.1])), (x5, .inl (G.2 1, 41, .inl b.2))] ++ tlW bM bC nM am mon nC ac cod))) (k2_QcV (.int (rdyF mon nM kd))) 0 0 (fun _ => False) := by
  refine Met.ofW (cc := b_ER_ready) (maxL := 2) (ret := (some .int)) (by decide) rfl ?_
  intro p e s m args below meth c s₁ B hml hv
  obtain ⟨rfl, hP, hGK⟩ := hv
  have hx := B.exec
  have hb := B.bytes
  have hr := B.returns
  have hts := atoms_spec (ws := w_ER_ready) B.pre
  have hT : ∀ w ∈ lwG, w.before _ s = true := fun w h => hts w (List.mem_cons_of_mem _ h)
  have hown : s.vm.findClass R_ER = some m.cls := findClass_of_methodNamed B.named
  have hlocks := B.notSynchronized
  have hK := hGK.1
  have hN := hGK.2
  have hP : va_P G.1 vwCl ([(x0, .inr (0, [.ref x1, .ref x2, .ref x3, .ref x4, .int cyc])), (x1, .inr (1, [.int mM, .ref eM, .int (nI nM)])), (x2, .inr (1, [.int mC, .ref eC, .int (nI nC)])), (x3, .inr (2, [.int li, .long me, .long mi])), (x4, .inr (3, [.ref x5, .int b.1])), (x5, .inl (G.2 1, 41, .inl b.2))] ++ tlW bM bC nM am mon nC ac cod) s.heap := hP
  have hl := lv_entry ([.ref x0, .int kd]) (n := 2) (Nat.le_of_ble_eq_true rfl)
  rw [lg_entry_eq]
  generalize (lg_sl ([.ref x0, .int kd]) ++ List.replicate (2 - (lg_sl ([.ref x0, .int kd])).length) Slot.unset).toArray = ls at hl ⊢
  have hl : lv_has ls 2 [(0, .ref x0), (1, .int kd)] := hl
  generalize hHe : s.heap = H at hP ⊢
  refine lv_iload_n hx hb d_ER_ready_0 rfl (lv_at hl 1 rfl) ?_
  refine bx_callV (W.runS (As := [.int kd]) (rest := []) ⟨hx, hb, hml, hown, hts⟩ (c_isKind l G kd) ⟨(callB_of 1 hts (gi_all wd_156) rfl rfl rfl (hT _ wd_45) (hT _ wd_154) (by decide +kernel) ⟨Nat.le_of_ble_eq_true rfl, Nat.le_of_ble_eq_true rfl⟩), (hT _ wd_155)⟩ (psR bx_nil hGK) rfl rfl hl.1 rfl (lv_room (Nat.le_of_ble_eq_true rfl)) d_ER_ready_1 ⟨Nat.le_of_ble_eq_true rfl, Nat.le_of_ble_eq_true rfl⟩) ?_
  refine lv_if_eq (tgt := 15) hx hb d_ER_ready_4 (by decide) (fun c_4 => ?_) (fun c_4 => ?_)
  · refine lv_bipush (v := (-2)) hx hb d_ER_ready_15 (by decide) ?_
    have hq9 : (.int (rdyF mon nM kd)) = (.int (-2) : Value) := by first | (simp [rdyF, c_4]; done) | (simp_all [rdyF]; done)
    exact W.iret (v := (-2)) hx hb hr (fun t ht _ => ⟨by rw [hq9], ht.trans hHe.symm⟩) (fun _ h => by cases h) d_ER_ready_17
  · refine lv_aload_n hx hb d_ER_ready_7 rfl (lv_at hl 0 rfl) ?_
    refine lv_iload_n hx hb d_ER_ready_8 rfl (lv_at hl 1 rfl) ?_
    refine bx_callV (W.runV (As := [.int kd]) (rest := []) ⟨hx, hb, hml, hown, hts⟩ (c_readinessOf l G x0 x1 x2 x3 x4 x5 cyc mM mC li eM eC nM nC me mi b bM bC am ac mon cod kd (by assumption)) ⟨(callB_of 1 hts (gi_all wd_331) rfl rfl rfl (hT _ wd_45) (hT _ wd_328) (by decide +kernel) ⟨Nat.le_of_ble_eq_true rfl, Nat.le_of_ble_eq_true rfl⟩), (hT _ wd_330), (hT _ wd_15)⟩ (pvR hP hGK (va_recv hK hP (ci := 0) (q0 := 0) rfl rfl)) rfl rfl hl.1 rfl (lv_room (Nat.le_of_ble_eq_true rfl)) d_ER_ready_9 ⟨Nat.le_of_ble_eq_true rfl, Nat.le_of_ble_eq_true rfl⟩) ?_
    refine lv_goto (tgt := 17) hx hb d_ER_ready_12 (by decide) ?_
    have hq9 : (.int (rdyF mon nM kd)) = (.int (rdF mon kd nM nM 2) : Value) := by first | (simp [rdyF, c_4]; done) | (simp_all [rdyF]; done)
    exact W.iret (v := rdF mon kd nM nM 2) hx hb hr (fun t ht _ => ⟨by rw [hq9], ht.trans hHe.symm⟩) (fun _ h => by cases h) d_ER_ready_17
set_option maxHeartbeats 4000000 in
set_option maxRecDepth 100000 in
theorem c_knownCode (l : Launch) (G : GG) (x0 : Nat) (x1 : Nat) (x2 : Nat) (x3 : Nat) (x4 : Nat) (x5 : Nat) (cyc : Int32) (mM : Int32) (mC : Int32) (li : Int32) (eM : Nat) (eC : Nat) (nM : Nat) (nC : Nat) (me : Int64) (mi : Int64) (b : OB) (bM : va_W) (bC : va_W) (am : Nat → Nat) (ac : Nat → Nat) (mon : Nat → Mon) (cod : Nat → Cod) (nu : Int32) (hC : LB G bC eC nC ac) : Met l y_ER_knownCode w_ER_knownCode ({ frames := 3, cells := 0, slots := 0, locals := 64 }) (va_Pc [.ref x0, .int nu] (Rw G ([(x0, .inr (0, [.ref x1, .ref x2, .ref x3, .ref x4, .int cyc])), (x1, .inr (1, [.int mM, .ref eM, .int (nI nM)])), (x2, .inr (1, [.int mC, .ref eC, .int (nI nC)])), (x3, .inr (2, [.int li, .long me, .long mi])), (x4, .inr (3, [.ref x5, .int b.1])), (x5, .inl (G.2 1, 41, .inl b.2))] ++ tlW bM bC nM am mon nC ac cod))) (k2_QcV (va_rf ((kcF cod nu nC nC).map ac))) 0 0 (fun _ => False) := by
  refine Met.ofW (cc := b_ER_knownCode) (maxL := 4) (ret := (some (.object "EmissionRows$Code"))) (by decide) rfl ?_
  intro p e s m args below meth c s₁ B hml hv
  obtain ⟨rfl, hP, hGK⟩ := hv
  have hx := B.exec
  have hb := B.bytes
  have hr := B.returns
  have hts := atoms_spec (ws := w_ER_knownCode) B.pre
  have hT : ∀ w ∈ lwG, w.before _ s = true := fun w h => hts w (List.mem_cons_of_mem _ h)
  have hown : s.vm.findClass R_ER = some m.cls := findClass_of_methodNamed B.named
  have hlocks := B.notSynchronized
  have hK := hGK.1
  have hN := hGK.2
  have hP : va_P G.1 vwCl ([(x0, .inr (0, [.ref x1, .ref x2, .ref x3, .ref x4, .int cyc])), (x1, .inr (1, [.int mM, .ref eM, .int (nI nM)])), (x2, .inr (1, [.int mC, .ref eC, .int (nI nC)])), (x3, .inr (2, [.int li, .long me, .long mi])), (x4, .inr (3, [.ref x5, .int b.1])), (x5, .inl (G.2 1, 41, .inl b.2))] ++ tlW bM bC nM am mon nC ac cod) s.heap := hP
  have hl := lv_entry ([.ref x0, .int nu]) (n := 4) (Nat.le_of_ble_eq_true rfl)
  rw [lg_entry_eq]
  generalize (lg_sl ([.ref x0, .int nu]) ++ List.replicate (4 - (lg_sl ([.ref x0, .int nu])).length) Slot.unset).toArray = ls at hl ⊢
  have hl : lv_has ls 4 [(0, .ref x0), (1, .int nu)] := hl
  generalize hHe : s.heap = H at hP ⊢
  refine lv_iconst (v := 0) hx hb d_ER_knownCode_0 (by decide) ?_
  refine lv_istore_n (lv' := [(2, .int 0), (0, .ref x0), (1, .int nu)]) hx hb d_ER_knownCode_1 rfl hl (by decide) rfl (fun ls hl => ?_)
  refine bx_loopR (σ := Nat) (fun q ls => q ≤ nC ∧ kcF cod nu nC (nC - q) = kcF cod nu nC nC ∧ lv_has ls 4 [(0, .ref x0), (1, .int nu), (2, .int (nI q))]) (fun q => nC - q) _ (fun q ls hI ih => ?_) 0 ls ⟨Nat.zero_le _, rfl, lv_sub hl [1, 2, 0] rfl⟩
  revert hI ih; generalize q = k; intro hI ih
  obtain ⟨hkn, hkc, hl⟩ := hI
  have hkn : k ≤ nC := hkn
  have hkc : kcF cod nu nC (nC - k) = kcF cod nu nC nC := hkc
  have hl : lv_has ls 4 [(0, .ref x0), (1, .int nu), (2, .int (nI k))] := hl
  refine lv_iload_n hx hb d_ER_knownCode_2 rfl (lv_at hl 2 rfl) ?_
  refine lv_aload_n hx hb d_ER_knownCode_3 rfl (lv_at hl 0 rfl) ?_
  refine va_get (D := G.1) (ci := 0) (v := .ref x2) (C := R_ER) (T := T_ER) (N := 5) hx hb hT in_ER hown hK hP 0 rfl rfl 1 (by decide) (hT _ wd_135) (fun _ h9 => h9) rfl d_ER_knownCode_4 ?_
  have hPc := hP.sub (ws' := [(x2, .inr (1, [.int mC, .ref eC, .int (nI nC)]))]) [2] rfl
  refine bx_callV (W.runV (As := []) (rest := [.int (nI k)]) ⟨hx, hb, hml, hown, hts⟩ (c_size l G x2 eC mC (nI nC)) ⟨(callB_of 0 hts (gi_all wd_160) rfl rfl rfl (hT _ wd_48) (hT _ wd_157) (by decide +kernel) ⟨Nat.le_of_ble_eq_true rfl, Nat.le_of_ble_eq_true rfl⟩), (hT _ wd_158), (hT _ wd_159)⟩ (pvR hPc hGK (va_recv hK hPc (ci := 1) (q0 := 0) rfl rfl)) rfl rfl hl.1 rfl (lv_room (Nat.le_of_ble_eq_true rfl)) d_ER_knownCode_7 ⟨Nat.le_of_ble_eq_true rfl, Nat.le_of_ble_eq_true rfl⟩) ?_
  refine lv_icmp_ge (tgt := 41) hx hb d_ER_knownCode_10 (by decide) (fun c_10 => ?_) (fun c_10 => ?_)
  · have hge : nC ≤ k := (nI_leI (by have := hC.1; omega) (by have := hC.1; omega)).mp c_10
    have hke : k = nC := by omega
    refine lv_null hx hb d_ER_knownCode_41 ?_
    have hq9 : (va_rf ((kcF cod nu nC nC).map ac)) = (.null : Value) := by rw [← hkc, hke, Nat.sub_self]; rfl
    exact W.aret (v := .null) hx hb hr (Or.inl ⟨_, rfl⟩) (Or.inl rfl) (fun t ht _ => ⟨by rw [hq9], ht.trans hHe.symm⟩) (fun _ h => by cases h) d_ER_knownCode_42
  · have hk : k < nC := Nat.not_le.mp (fun z => c_10 (nI_le z (by have := hC.1; omega)))
    refine lv_aload_n hx hb d_ER_knownCode_13 rfl (lv_at hl 0 rfl) ?_
    refine va_get (D := G.1) (ci := 0) (v := .ref x2) (C := R_ER) (T := T_ER) (N := 5) hx hb hT in_ER hown hK hP 0 rfl rfl 1 (by decide) (hT _ wd_135) (fun _ h9 => h9) rfl d_ER_knownCode_14 ?_
    refine lv_iload_n hx hb d_ER_knownCode_17 rfl (lv_at hl 2 rfl) ?_
    obtain ⟨cap, fa, hbk, hcap, hcap2, hfa⟩ := hC.some hk
    have hPc : va_P G.1 vwCl [(x2, .inr (1, [.int mC, .ref eC, .int (nI nC)])), (eC, .inl (G.2 0, cap, .inr (.inr (.inr (.inr fa)))))] H := (hP.sub (ws' := [(x2, .inr (1, [.int mC, .ref eC, .int (nI nC)]))]) [2] rfl).app (bx_sub hP (fun q9 hq9 => tl_inC (by rw [hbk]; exact hq9)))
    refine bx_callV (W.runV (As := [.int (nI k)]) (rest := []) ⟨hx, hb, hml, hown, hts⟩ (c_get l G x2 eC mC nC k cap fa (ac k) hk hcap (by omega) (hfa k hk)) ⟨(callB_of 1 hts (gi_all wd_258) rfl rfl rfl (hT _ wd_48) (hT _ wd_255) (by decide +kernel) ⟨Nat.le_of_ble_eq_true rfl, Nat.le_of_ble_eq_true rfl⟩), (hT _ wd_256), (hT _ wd_257)⟩ (pvR hPc hGK (va_recv hK hPc (ci := 1) (q0 := 0) rfl rfl)) rfl rfl hl.1 rfl (lv_room (Nat.le_of_ble_eq_true rfl)) d_ER_knownCode_18 ⟨Nat.le_of_ble_eq_true rfl, Nat.le_of_ble_eq_true rfl⟩) ?_
    refine va_castS hx hb hown (hT _ wd_289) (hK.1 5 _ rfl).2 (va_recv hK hP (ci := 5) rfl (tl_cod hk)) d_ER_knownCode_21 ?_
    refine lv_astore_n (lv' := [(3, .ref (ac k)), (0, .ref x0), (1, .int nu), (2, .int (nI k))]) hx hb d_ER_knownCode_24 rfl hl (by decide) rfl (fun ls hl => ?_)
    refine lv_aload_n hx hb d_ER_knownCode_25 rfl (lv_at hl 0 rfl) ?_
    refine va_getN (D := G.1) (ci := 5) (v := .int ((cod k).1)) (C := R_COD) (T := T_COD) (N := 9) hx hb hT in_COD hown hK hP _ (tl_cod hk) rfl 0 (by decide) (va_Nw.use rfl (hN (.fieldLinkNest "EmissionRows" 116 "EmissionRows$Code" "number" "I" "EmissionRows") nw_345)) (fun _ h9 => h9) rfl d_ER_knownCode_26 ?_
    refine lv_iload_n hx hb d_ER_knownCode_29 rfl (lv_at hl 2 rfl) ?_
    refine lv_icmp_ne (tgt := 35) hx hb d_ER_knownCode_30 (by decide) (fun c_30 => ?_) (fun c_30 => ?_)
    · refine lv_iinc (v := nI (k + 1)) (lv' := [(2, .int (nI (k + 1))), (3, .ref (ac k)), (0, .ref x0), (1, .int nu)]) hx hb d_ER_knownCode_35 hl (k := 3) rfl (nI_succ _).symm (by decide) rfl (fun ls hl => ?_)
      refine lv_goto (tgt := 2) hx hb d_ER_knownCode_38 (by decide) ?_
      exact ih (k + 1) _ ⟨hk, by rw [← hkc, kcF_step _ hk]; simp [c_10, c_30], lv_sub hl [2, 3, 0] rfl⟩ (by show nC - (k + 1) < nC - k; omega)
    · refine lv_aload_n hx hb d_ER_knownCode_33 rfl (lv_at hl 0 rfl) ?_
      have hq9 : (va_rf ((kcF cod nu nC nC).map ac)) = (.ref (ac k) : Value) := by rw [← hkc, kcF_step _ hk]; simp [c_30, va_rf]
      exact W.aret (v := .ref (ac k)) hx hb hr (Or.inl ⟨_, rfl⟩) (Or.inr ⟨_, rfl⟩) (fun t ht _ => ⟨by rw [hq9], ht.trans hHe.symm⟩) (fun _ h => by cases h) d_ER_knownCode_34
set_option maxHeartbeats 4000000 in
set_option maxRecDepth 100000 in
theorem c_firstFrozen (l : Launch) (G : GG) (x0 : Nat) (x1 : Nat) (x2 : Nat) (x3 : Nat) (x4 : Nat) (x5 : Nat) (cyc : Int32) (mM : Int32) (mC : Int32) (li : Int32) (eM : Nat) (eC : Nat) (nM : Nat) (nC : Nat) (me : Int64) (mi : Int64) (b : OB) (bM : va_W) (bC : va_W) (am : Nat → Nat) (ac : Nat → Nat) (mon : Nat → Mon) (cod : Nat → Cod) (hC : LB G bC eC nC ac) : Met l y_ER_firstFrozen w_ER_firstFrozen ({ frames := 3, cells := 0, slots := 0, locals := 64 }) (va_Pc [.ref x0] (Rw G ([(x0, .inr (0, [.ref x1, .ref x2, .ref x3, .ref x4, .int cyc])), (x1, .inr (1, [.int mM, .ref eM, .int (nI nM)])), (x2, .inr (1, [.int mC, .ref eC, .int (nI nC)])), (x3, .inr (2, [.int li, .long me, .long mi])), (x4, .inr (3, [.ref x5, .int b.1])), (x5, .inl (G.2 1, 41, .inl b.2))] ++ tlW bM bC nM am mon nC ac cod))) (k2_QcV (va_rf ((ffF cod nC nC).map ac))) 0 0 (fun _ => False) := by
  refine Met.ofW (cc := b_ER_firstFrozen) (maxL := 3) (ret := (some (.object "EmissionRows$Code"))) (by decide) rfl ?_
  intro p e s m args below meth c s₁ B hml hv
  obtain ⟨rfl, hP, hGK⟩ := hv
  have hx := B.exec
  have hb := B.bytes
  have hr := B.returns
  have hts := atoms_spec (ws := w_ER_firstFrozen) B.pre
  have hT : ∀ w ∈ lwG, w.before _ s = true := fun w h => hts w (List.mem_cons_of_mem _ h)
  have hown : s.vm.findClass R_ER = some m.cls := findClass_of_methodNamed B.named
  have hlocks := B.notSynchronized
  have hK := hGK.1
  have hN := hGK.2
  have hP : va_P G.1 vwCl ([(x0, .inr (0, [.ref x1, .ref x2, .ref x3, .ref x4, .int cyc])), (x1, .inr (1, [.int mM, .ref eM, .int (nI nM)])), (x2, .inr (1, [.int mC, .ref eC, .int (nI nC)])), (x3, .inr (2, [.int li, .long me, .long mi])), (x4, .inr (3, [.ref x5, .int b.1])), (x5, .inl (G.2 1, 41, .inl b.2))] ++ tlW bM bC nM am mon nC ac cod) s.heap := hP
  have hl := lv_entry ([.ref x0]) (n := 3) (Nat.le_of_ble_eq_true rfl)
  rw [lg_entry_eq]
  generalize (lg_sl ([.ref x0]) ++ List.replicate (3 - (lg_sl ([.ref x0])).length) Slot.unset).toArray = ls at hl ⊢
  have hl : lv_has ls 3 [(0, .ref x0)] := hl
  generalize hHe : s.heap = H at hP ⊢
  refine lv_iconst (v := 0) hx hb d_ER_firstFrozen_0 (by decide) ?_
  refine lv_istore_n (lv' := [(1, .int 0), (0, .ref x0)]) hx hb d_ER_firstFrozen_1 rfl hl (by decide) rfl (fun ls hl => ?_)
  refine bx_loopR (σ := Nat) (fun q ls => q ≤ nC ∧ ffF cod nC (nC - q) = ffF cod nC nC ∧ lv_has ls 3 [(0, .ref x0), (1, .int (nI q))]) (fun q => nC - q) _ (fun q ls hI ih => ?_) 0 ls ⟨Nat.zero_le _, rfl, lv_sub hl [1, 0] rfl⟩
  revert hI ih; generalize q = k; intro hI ih
  obtain ⟨hkn, hff, hl⟩ := hI
  have hkn : k ≤ nC := hkn
  have hff : ffF cod nC (nC - k) = ffF cod nC nC := hff
  have hl : lv_has ls 3 [(0, .ref x0), (1, .int (nI k))] := hl
  refine lv_iload_n hx hb d_ER_firstFrozen_2 rfl (lv_at hl 1 rfl) ?_
  refine lv_aload_n hx hb d_ER_firstFrozen_3 rfl (lv_at hl 0 rfl) ?_
  refine va_get (D := G.1) (ci := 0) (v := .ref x2) (C := R_ER) (T := T_ER) (N := 5) hx hb hT in_ER hown hK hP 0 rfl rfl 1 (by decide) (hT _ wd_135) (fun _ h9 => h9) rfl d_ER_firstFrozen_4 ?_
  have hPc := hP.sub (ws' := [(x2, .inr (1, [.int mC, .ref eC, .int (nI nC)]))]) [2] rfl
  refine bx_callV (W.runV (As := []) (rest := [.int (nI k)]) ⟨hx, hb, hml, hown, hts⟩ (c_size l G x2 eC mC (nI nC)) ⟨(callB_of 0 hts (gi_all wd_160) rfl rfl rfl (hT _ wd_48) (hT _ wd_157) (by decide +kernel) ⟨Nat.le_of_ble_eq_true rfl, Nat.le_of_ble_eq_true rfl⟩), (hT _ wd_158), (hT _ wd_159)⟩ (pvR hPc hGK (va_recv hK hPc (ci := 1) (q0 := 0) rfl rfl)) rfl rfl hl.1 rfl (lv_room (Nat.le_of_ble_eq_true rfl)) d_ER_firstFrozen_7 ⟨Nat.le_of_ble_eq_true rfl, Nat.le_of_ble_eq_true rfl⟩) ?_
  refine lv_icmp_ge (tgt := 40) hx hb d_ER_firstFrozen_10 (by decide) (fun c_10 => ?_) (fun c_10 => ?_)
  · have hge : nC ≤ k := (nI_leI (by have := hC.1; omega) (by have := hC.1; omega)).mp c_10
    have hke : k = nC := by omega
    refine lv_null hx hb d_ER_firstFrozen_40 ?_
    have hq9 : (va_rf ((ffF cod nC nC).map ac)) = (.null : Value) := by rw [← hff, hke, Nat.sub_self]; rfl
    exact W.aret (v := .null) hx hb hr (Or.inl ⟨_, rfl⟩) (Or.inl rfl) (fun t ht _ => ⟨by rw [hq9], ht.trans hHe.symm⟩) (fun _ h => by cases h) d_ER_firstFrozen_41
  · have hk : k < nC := Nat.not_le.mp (fun z => c_10 (nI_le z (by have := hC.1; omega)))
    refine lv_aload_n hx hb d_ER_firstFrozen_13 rfl (lv_at hl 0 rfl) ?_
    refine va_get (D := G.1) (ci := 0) (v := .ref x2) (C := R_ER) (T := T_ER) (N := 5) hx hb hT in_ER hown hK hP 0 rfl rfl 1 (by decide) (hT _ wd_135) (fun _ h9 => h9) rfl d_ER_firstFrozen_14 ?_
    refine lv_iload_n hx hb d_ER_firstFrozen_17 rfl (lv_at hl 1 rfl) ?_
    obtain ⟨cap, fa, hbk, hcap, hcap2, hfa⟩ := hC.some hk
    have hPc : va_P G.1 vwCl [(x2, .inr (1, [.int mC, .ref eC, .int (nI nC)])), (eC, .inl (G.2 0, cap, .inr (.inr (.inr (.inr fa)))))] H := (hP.sub (ws' := [(x2, .inr (1, [.int mC, .ref eC, .int (nI nC)]))]) [2] rfl).app (bx_sub hP (fun q9 hq9 => tl_inC (by rw [hbk]; exact hq9)))
    refine bx_callV (W.runV (As := [.int (nI k)]) (rest := []) ⟨hx, hb, hml, hown, hts⟩ (c_get l G x2 eC mC nC k cap fa (ac k) hk hcap (by omega) (hfa k hk)) ⟨(callB_of 1 hts (gi_all wd_258) rfl rfl rfl (hT _ wd_48) (hT _ wd_255) (by decide +kernel) ⟨Nat.le_of_ble_eq_true rfl, Nat.le_of_ble_eq_true rfl⟩), (hT _ wd_256), (hT _ wd_257)⟩ (pvR hPc hGK (va_recv hK hPc (ci := 1) (q0 := 0) rfl rfl)) rfl rfl hl.1 rfl (lv_room (Nat.le_of_ble_eq_true rfl)) d_ER_firstFrozen_18 ⟨Nat.le_of_ble_eq_true rfl, Nat.le_of_ble_eq_true rfl⟩) ?_
    refine va_castS hx hb hown (hT _ wd_289) (hK.1 5 _ rfl).2 (va_recv hK hP (ci := 5) rfl (tl_cod hk)) d_ER_firstFrozen_21 ?_
    refine lv_astore_n (lv' := [(2, .ref (ac k)), (0, .ref x0), (1, .int (nI k))]) hx hb d_ER_firstFrozen_24 rfl hl (by decide) rfl (fun ls hl => ?_)
    refine lv_aload_n hx hb d_ER_firstFrozen_25 rfl (lv_at hl 0 rfl) ?_
    have hPc : va_P G.1 vwCl [((ac k), .inr (5, [.int ((cod k).1), .int ((cod k).2.1), .int ((cod k).2.2.1), .int ((cod k).2.2.2.1), .int ((cod k).2.2.2.2.1), .int ((cod k).2.2.2.2.2.1), .int ((cod k).2.2.2.2.2.2.1), .int ((cod k).2.2.2.2.2.2.2.1), .int ((cod k).2.2.2.2.2.2.2.2)]))] H := bx_one hP (tl_cod hk)
    refine bx_callV ((va_runVN (As := []) (rest := []) ⟨hx, hb, hml, hown, hts⟩ (c_hasFrozenRow l G (ac k) ((cod k).1) ((cod k).2.1) ((cod k).2.2.1) ((cod k).2.2.2.1) ((cod k).2.2.2.2.1) ((cod k).2.2.2.2.2.1) ((cod k).2.2.2.2.2.2.1) ((cod k).2.2.2.2.2.2.2.1) ((cod k).2.2.2.2.2.2.2.2)) ⟨(va_cnB 0 hts (gi_all wd_415) rfl rfl rfl (hN (.methodLinkNest "EmissionRows" 205 ⟨"EmissionRows$Code", "hasFrozenRow", "()Z"⟩ "EmissionRows") nw_412) (hT _ wd_63) (by decide +kernel) ⟨Nat.le_of_ble_eq_true rfl, Nat.le_of_ble_eq_true rfl⟩), (hT _ wd_414), (hT _ wd_19)⟩ (pvR hPc hGK (va_recv hK hPc (ci := 5) (q0 := 0) rfl rfl)) rfl rfl hl.1 rfl (lv_room (Nat.le_of_ble_eq_true rfl)) d_ER_firstFrozen_26 ⟨Nat.le_of_ble_eq_true rfl, Nat.le_of_ble_eq_true rfl⟩)).run ?_
    refine lv_if_eq (tgt := 34) hx hb d_ER_firstFrozen_29 (by decide) (fun c_29 => ?_) (fun c_29 => ?_)
    · refine lv_iinc (v := nI (k + 1)) (lv' := [(1, .int (nI (k + 1))), (2, .ref (ac k)), (0, .ref x0)]) hx hb d_ER_firstFrozen_34 hl (k := 2) rfl (nI_succ _).symm (by decide) rfl (fun ls hl => ?_)
      refine lv_goto (tgt := 2) hx hb d_ER_firstFrozen_37 (by decide) ?_
      exact ih (k + 1) _ ⟨hk, by rw [← hff, ffF_step hk]; simp [c_10, c_29], lv_sub hl [2, 0] rfl⟩ (by show nC - (k + 1) < nC - k; omega)
    · refine lv_aload_n hx hb d_ER_firstFrozen_32 rfl (lv_at hl 0 rfl) ?_
      have hq9 : (va_rf ((ffF cod nC nC).map ac)) = (.ref (ac k) : Value) := by rw [← hff, ffF_step hk]; simp [c_29, va_rf]
      exact W.aret (v := .ref (ac k)) hx hb hr (Or.inl ⟨_, rfl⟩) (Or.inr ⟨_, rfl⟩) (fun t ht _ => ⟨by rw [hq9], ht.trans hHe.symm⟩) (fun _ h => by cases h) d_ER_firstFrozen_33
set_option maxHeartbeats 4000000 in
set_option maxRecDepth 100000 in
theorem c_permanent (l : Launch) (G : GG) (x0 : Nat) (x1 : Nat) (x2 : Nat) (x3 : Nat) (x4 : Nat) (x5 : Nat) (cyc : Int32) (mM : Int32) (mC : Int32) (li : Int32) (eM : Nat) (eC : Nat) (nM : Nat) (nC : Nat) (me : Int64) (mi : Int64) (b : OB) (bM : va_W) (bC : va_W) (am : Nat → Nat) (ac : Nat → Nat) (mon : Nat → Mon) (cod : Nat → Cod) (pi : Int32) (hC : LB G bC eC nC ac) : Met l y_ER_permanent w_ER_permanent ({ frames := 3, cells := 0, slots := 0, locals := 64 }) (va_Pc [.ref x0, .int pi] (Rw G ([(x0, .inr (0, [.ref x1, .ref x2, .ref x3, .ref x4, .int cyc])), (x1, .inr (1, [.int mM, .ref eM, .int (nI nM)])), (x2, .inr (1, [.int mC, .ref eC, .int (nI nC)])), (x3, .inr (2, [.int li, .long me, .long mi])), (x4, .inr (3, [.ref x5, .int b.1])), (x5, .inl (G.2 1, 41, .inl b.2))] ++ tlW bM bC nM am mon nC ac cod))) (k2_QcV (.int (pmF cod pi nC nC 0))) 0 0 (fun _ => False) := by
  refine Met.ofW (cc := b_ER_permanent) (maxL := 5) (ret := (some .int)) (by decide) rfl ?_
  intro p e s m args below meth c s₁ B hml hv
  obtain ⟨rfl, hP, hGK⟩ := hv
  have hx := B.exec
  have hb := B.bytes
  have hr := B.returns
  have hts := atoms_spec (ws := w_ER_permanent) B.pre
  have hT : ∀ w ∈ lwG, w.before _ s = true := fun w h => hts w (List.mem_cons_of_mem _ h)
  have hown : s.vm.findClass R_ER = some m.cls := findClass_of_methodNamed B.named
  have hlocks := B.notSynchronized
  have hK := hGK.1
  have hN := hGK.2
  have hP : va_P G.1 vwCl ([(x0, .inr (0, [.ref x1, .ref x2, .ref x3, .ref x4, .int cyc])), (x1, .inr (1, [.int mM, .ref eM, .int (nI nM)])), (x2, .inr (1, [.int mC, .ref eC, .int (nI nC)])), (x3, .inr (2, [.int li, .long me, .long mi])), (x4, .inr (3, [.ref x5, .int b.1])), (x5, .inl (G.2 1, 41, .inl b.2))] ++ tlW bM bC nM am mon nC ac cod) s.heap := hP
  have hl := lv_entry ([.ref x0, .int pi]) (n := 5) (Nat.le_of_ble_eq_true rfl)
  rw [lg_entry_eq]
  generalize (lg_sl ([.ref x0, .int pi]) ++ List.replicate (5 - (lg_sl ([.ref x0, .int pi])).length) Slot.unset).toArray = ls at hl ⊢
  have hl : lv_has ls 5 [(0, .ref x0), (1, .int pi)] := hl
  generalize hHe : s.heap = H at hP ⊢
  refine lv_iconst (v := 0) hx hb d_ER_permanent_0 (by decide) ?_
  refine lv_istore_n (lv' := [(2, .int 0), (0, .ref x0), (1, .int pi)]) hx hb d_ER_permanent_1 rfl hl (by decide) rfl (fun ls hl => ?_)
  refine lv_iconst (v := 0) hx hb d_ER_permanent_2 (by decide) ?_
  refine lv_istore_n (lv' := [(3, .int 0), (2, .int 0), (0, .ref x0), (1, .int pi)]) hx hb d_ER_permanent_3 rfl hl (by decide) rfl (fun ls hl => ?_)
  refine bx_loopR (σ := Nat × Int32) (fun q ls => q.1 ≤ nC ∧ pmF cod pi nC (nC - q.1) q.2 = pmF cod pi nC nC 0 ∧ lv_has ls 5 [(0, .ref x0), (1, .int pi), (2, .int q.2), (3, .int (nI q.1))]) (fun q => nC - q.1) _ (fun q ls hI ih => ?_) (0, 0) ls ⟨Nat.zero_le _, rfl, lv_sub hl [2, 3, 1, 0] rfl⟩
  obtain ⟨k, bf⟩ := q
  obtain ⟨hkn, hpm, hl⟩ := hI
  have hkn : k ≤ nC := hkn
  have hpm : pmF cod pi nC (nC - k) bf = pmF cod pi nC nC 0 := hpm
  have hl : lv_has ls 5 [(0, .ref x0), (1, .int pi), (2, .int bf), (3, .int (nI k))] := hl
  refine lv_iload_n hx hb d_ER_permanent_4 rfl (lv_at hl 3 rfl) ?_
  refine lv_aload_n hx hb d_ER_permanent_5 rfl (lv_at hl 0 rfl) ?_
  refine va_get (D := G.1) (ci := 0) (v := .ref x2) (C := R_ER) (T := T_ER) (N := 5) hx hb hT in_ER hown hK hP 0 rfl rfl 1 (by decide) (hT _ wd_135) (fun _ h9 => h9) rfl d_ER_permanent_6 ?_
  have hPc := hP.sub (ws' := [(x2, .inr (1, [.int mC, .ref eC, .int (nI nC)]))]) [2] rfl
  refine bx_callV (W.runV (As := []) (rest := [.int (nI k)]) ⟨hx, hb, hml, hown, hts⟩ (c_size l G x2 eC mC (nI nC)) ⟨(callB_of 0 hts (gi_all wd_160) rfl rfl rfl (hT _ wd_48) (hT _ wd_157) (by decide +kernel) ⟨Nat.le_of_ble_eq_true rfl, Nat.le_of_ble_eq_true rfl⟩), (hT _ wd_158), (hT _ wd_159)⟩ (pvR hPc hGK (va_recv hK hPc (ci := 1) (q0 := 0) rfl rfl)) rfl rfl hl.1 rfl (lv_room (Nat.le_of_ble_eq_true rfl)) d_ER_permanent_9 ⟨Nat.le_of_ble_eq_true rfl, Nat.le_of_ble_eq_true rfl⟩) ?_
  refine lv_icmp_ge (tgt := 56) hx hb d_ER_permanent_12 (by decide) (fun c_12 => ?_) (fun c_12 => ?_)
  · have hge : nC ≤ k := (nI_leI (by have := hC.1; omega) (by have := hC.1; omega)).mp c_12
    have hke : k = nC := by omega
    refine lv_iconst (v := 0) hx hb d_ER_permanent_56 (by decide) ?_
    have hq9 : (.int (pmF cod pi nC nC 0)) = (.int 0 : Value) := by rw [← hpm, hke, Nat.sub_self]; rfl
    exact W.iret (v := 0) hx hb hr (fun t ht _ => ⟨by rw [hq9], ht.trans hHe.symm⟩) (fun _ h => by cases h) d_ER_permanent_57
  · have hk : k < nC := Nat.not_le.mp (fun z => c_12 (nI_le z (by have := hC.1; omega)))
    refine lv_aload_n hx hb d_ER_permanent_15 rfl (lv_at hl 0 rfl) ?_
    refine va_get (D := G.1) (ci := 0) (v := .ref x2) (C := R_ER) (T := T_ER) (N := 5) hx hb hT in_ER hown hK hP 0 rfl rfl 1 (by decide) (hT _ wd_135) (fun _ h9 => h9) rfl d_ER_permanent_16 ?_
    refine lv_iload_n hx hb d_ER_permanent_19 rfl (lv_at hl 3 rfl) ?_
    obtain ⟨cap, fa, hbk, hcap, hcap2, hfa⟩ := hC.some hk
    have hPc : va_P G.1 vwCl [(x2, .inr (1, [.int mC, .ref eC, .int (nI nC)])), (eC, .inl (G.2 0, cap, .inr (.inr (.inr (.inr fa)))))] H := (hP.sub (ws' := [(x2, .inr (1, [.int mC, .ref eC, .int (nI nC)]))]) [2] rfl).app (bx_sub hP (fun q9 hq9 => tl_inC (by rw [hbk]; exact hq9)))
    refine bx_callV (W.runV (As := [.int (nI k)]) (rest := []) ⟨hx, hb, hml, hown, hts⟩ (c_get l G x2 eC mC nC k cap fa (ac k) hk hcap (by omega) (hfa k hk)) ⟨(callB_of 1 hts (gi_all wd_258) rfl rfl rfl (hT _ wd_48) (hT _ wd_255) (by decide +kernel) ⟨Nat.le_of_ble_eq_true rfl, Nat.le_of_ble_eq_true rfl⟩), (hT _ wd_256), (hT _ wd_257)⟩ (pvR hPc hGK (va_recv hK hPc (ci := 1) (q0 := 0) rfl rfl)) rfl rfl hl.1 rfl (lv_room (Nat.le_of_ble_eq_true rfl)) d_ER_permanent_20 ⟨Nat.le_of_ble_eq_true rfl, Nat.le_of_ble_eq_true rfl⟩) ?_
    refine va_castS hx hb hown (hT _ wd_289) (hK.1 5 _ rfl).2 (va_recv hK hP (ci := 5) rfl (tl_cod hk)) d_ER_permanent_23 ?_
    refine lv_astore (lv' := [(4, .ref (ac k)), (0, .ref x0), (1, .int pi), (2, .int bf), (3, .int (nI k))]) hx hb d_ER_permanent_26 hl (by decide) rfl (fun ls hl => ?_)
    refine lv_aload hx hb d_ER_permanent_28 (lv_at hl 0 rfl) ?_
    refine va_getN (D := G.1) (ci := 5) (v := .int ((cod k).2.2.2.2.1)) (C := R_COD) (T := T_COD) (N := 9) hx hb hT in_COD hown hK hP _ (tl_cod hk) rfl 4 (by decide) (va_Nw.use rfl (hN (.fieldLinkNest "EmissionRows" 113 "EmissionRows$Code" "lasting" "Z" "EmissionRows") nw_352)) (fun _ h9 => h9) rfl d_ER_permanent_30 ?_
    refine lv_if_eq (tgt := 50) hx hb d_ER_permanent_33 (by decide) (fun c_33 => ?_) (fun c_33 => ?_)
    · refine lv_iinc (v := nI (k + 1)) (lv' := [(3, .int (nI (k + 1))), (4, .ref (ac k)), (0, .ref x0), (1, .int pi), (2, .int bf)]) hx hb d_ER_permanent_50 hl (k := 4) rfl (nI_succ _).symm (by decide) rfl (fun ls hl => ?_)
      refine lv_goto (tgt := 4) hx hb d_ER_permanent_53 (by decide) ?_
      exact ih ((k + 1), bf) _ ⟨hk, by rw [← hpm, pmF_step _ _ hk]; simp [c_12, c_33], lv_sub hl [2, 3, 4, 0] rfl⟩ (by show nC - (k + 1) < nC - k; omega)
    · refine lv_iload_n hx hb d_ER_permanent_36 rfl (lv_at hl 3 rfl) ?_
      refine lv_iload_n hx hb d_ER_permanent_37 rfl (lv_at hl 2 rfl) ?_
      refine lv_icmp_ne (tgt := 47) hx hb d_ER_permanent_38 (by decide) (fun c_38 => ?_) (fun c_38 => ?_)
      · refine lv_iinc (v := bf + 1) (lv' := [(2, .int (bf + 1)), (4, .ref (ac k)), (0, .ref x0), (1, .int pi), (3, .int (nI k))]) hx hb d_ER_permanent_47 hl (k := 3) rfl rfl (by decide) rfl (fun ls hl => ?_)
        refine lv_iinc (v := nI (k + 1)) (lv' := [(3, .int (nI (k + 1))), (2, .int (bf + 1)), (4, .ref (ac k)), (0, .ref x0), (1, .int pi)]) hx hb d_ER_permanent_50 hl (k := 4) rfl (nI_succ _).symm (by decide) rfl (fun ls hl => ?_)
        refine lv_goto (tgt := 4) hx hb d_ER_permanent_53 (by decide) ?_
        exact ih ((k + 1), bf + 1) _ ⟨hk, by rw [← hpm, pmF_step _ _ hk]; simp [c_12, c_33, c_38], lv_sub hl [3, 4, 1, 0] rfl⟩ (by show nC - (k + 1) < nC - k; omega)
      · refine lv_aload hx hb d_ER_permanent_41 (lv_at hl 0 rfl) ?_
        refine va_getN (D := G.1) (ci := 5) (v := .int ((cod k).1)) (C := R_COD) (T := T_COD) (N := 9) hx hb hT in_COD hown hK hP _ (tl_cod hk) rfl 0 (by decide) (va_Nw.use rfl (hN (.fieldLinkNest "EmissionRows" 116 "EmissionRows$Code" "number" "I" "EmissionRows") nw_345)) (fun _ h9 => h9) rfl d_ER_permanent_43 ?_
        have hq9 : (.int (pmF cod pi nC nC 0)) = (.int ((cod k).1) : Value) := by rw [← hpm, pmF_step _ _ hk]; simp [c_33, c_38]
        exact W.iret (v := (cod k).1) hx hb hr (fun t ht _ => ⟨by rw [hq9], ht.trans hHe.symm⟩) (fun _ h => by cases h) d_ER_permanent_46
