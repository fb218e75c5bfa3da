set_option maxHeartbeats 4000000 in
set_option maxRecDepth 100000 in
theorem c_lratioR (l : Launch) (G : GG) (sz : Nat) (x0 : Nat) (x1 : Nat) (x2 : Nat) (x3 : Nat) (x4 : Nat) (x5 : Nat) (cyc : Int32) (mM : Int32) (mC : Int32) (li : Int32) (eM : Nat) (eC : Nat) (nM : Nat) (nC : Nat) (me : Int64) (mi : Int64) (b : OB) (bM : va_W) (bC : va_W) (am : Nat → Nat) (ac : Nat → Nat) (mon : Nat → Mon) (cod : Nat → Cod) (ox : Nat) (of : Nat → Int64) (mo : Int32) (sd : Int32) (hM : LB G bM eM nM am) (hH : ∀ i, i < nM → ∃ c, c ≤ 100 ∧ (mon i).2.2.2.1 = nI c) (hnt : ¬ raT mon nM mo) : Met l y_LAW_ratio w_LAW_ratio ({ frames := 4, cells := 0, slots := 0, locals := 87 }) (va_Pc [.ref x0, .int mo, .int sd, .ref ox] (Pw G sz ([(x0, .inr (0, [.ref x1, .ref x2, .ref x3, .ref x4, .int cyc])), (x1, .inr (1, [.int mM, .ref eM, .int (nI nM)])), (x2, .inr (1, [.int mC, .ref eC, .int (nI nC)])), (x3, .inr (2, [.int li, .long me, .long mi])), (x4, .inr (3, [.ref x5, .int b.1])), (x5, .inl (G.2 1, 41, .inl b.2)), (ox, .inl (G.2 4, 1, .inr (.inl of)))] ++ tlW bM bC nM am mon nC ac cod))) (QW G (some (.int 0)) ([(x0, .inr (0, [.ref x1, .ref x2, .ref x3, .ref x4, .int cyc])), (x1, .inr (1, [.int mM, .ref eM, .int (nI nM)])), (x2, .inr (1, [.int mC, .ref eC, .int (nI nC)])), (x3, .inr (2, [.int li, .long me, .long mi])), (x4, .inr (3, [.ref x5, .int b.1])), (x5, .inl (G.2 1, 41, .inl b.2)), (ox, .inl (G.2 4, 1, .inr (.inl of)))] ++ tlW bM bC nM am mon nC ac cod) ([(x0, .inr (0, [.ref x1, .ref x2, .ref x3, .ref x4, .int cyc])), (x1, .inr (1, [.int mM, .ref eM, .int (nI nM)])), (x2, .inr (1, [.int mC, .ref eC, .int (nI nC)])), (x3, .inr (2, [.int li, .long me, .long mi])), (x4, .inr (3, [.ref x5, .int b.1])), (x5, .inl (G.2 1, 41, .inl b.2)), (ox, .inl (G.2 4, 1, .inr (.inl (vp_updL of 0 (raV mon nM mo sd)))))] ++ tlW bM bC nM am mon nC ac cod) sz) 0 0 (va_A ([(x0, .inr (0, [.ref x1, .ref x2, .ref x3, .ref x4, .int cyc])), (x1, .inr (1, [.int mM, .ref eM, .int (nI nM)])), (x2, .inr (1, [.int mC, .ref eC, .int (nI nC)])), (x3, .inr (2, [.int li, .long me, .long mi])), (x4, .inr (3, [.ref x5, .int b.1])), (x5, .inl (G.2 1, 41, .inl b.2)), (ox, .inl (G.2 4, 1, .inr (.inl of)))] ++ tlW bM bC nM am mon nC ac cod) sz) := by
  refine va_MetW (hh := [(0, 9, 12, 13)]) (cc := b_LAW_ratio) (maxL := 5) (ret := (some .int)) (by decide) rfl ?_
  intro p e s m args below meth c s₁ B hml hv
  obtain ⟨rfl, hsz, hP, hGK, hD0⟩ := hv
  have hx := B.exec
  have hb := B.bytes
  have hr := B.returns
  have hts := atoms_spec (ws := w_LAW_ratio) B.pre
  have hT : ∀ w ∈ lwG, w.before _ s = true := fun w h => hts w (List.mem_cons_of_mem _ h)
  have hown : s.vm.findClass R_LAW = some m.cls := findClass_of_methodNamed B.named
  have hlocks := B.notSynchronized
  have hK := hGK.1
  have hN := hGK.2
  subst hsz
  have hD := hD0.self (sz := s.heap.size)
  generalize hAe : va_A ([(x0, .inr (0, [.ref x1, .ref x2, .ref x3, .ref x4, .int cyc])), (x1, .inr (1, [.int mM, .ref eM, .int (nI nM)])), (x2, .inr (1, [.int mC, .ref eC, .int (nI nC)])), (x3, .inr (2, [.int li, .long me, .long mi])), (x4, .inr (3, [.ref x5, .int b.1])), (x5, .inl (G.2 1, 41, .inl b.2)), (ox, .inl (G.2 4, 1, .inr (.inl of)))] ++ tlW bM bC nM am mon nC ac cod) s.heap.size = A at hD ⊢
  have hA : ∀ q : Nat, s.heap.size ≤ q → A q := fun q h => by rw [← hAe]; exact Or.inr h
  have hS : va_S A s.heap s.heap [] := va_S.rf
  have hP : va_P G.1 vwCl ([(x0, .inr (0, [.ref x1, .ref x2, .ref x3, .ref x4, .int cyc])), (x1, .inr (1, [.int mM, .ref eM, .int (nI nM)])), (x2, .inr (1, [.int mC, .ref eC, .int (nI nC)])), (x3, .inr (2, [.int li, .long me, .long mi])), (x4, .inr (3, [.ref x5, .int b.1])), (x5, .inl (G.2 1, 41, .inl b.2)), (ox, .inl (G.2 4, 1, .inr (.inl of)))] ++ tlW bM bC nM am mon nC ac cod) s.heap := hP
  have hl := lv_entry ([.ref x0, .int mo, .int sd, .ref ox]) (n := 5) (Nat.le_of_ble_eq_true rfl)
  rw [lg_entry_eq]
  generalize (lg_sl ([.ref x0, .int mo, .int sd, .ref ox]) ++ List.replicate (5 - (lg_sl ([.ref x0, .int mo, .int sd, .ref ox])).length) Slot.unset).toArray = ls at hl ⊢
  have hl : lv_has ls 5 [(0, .ref x0), (1, .int mo), (2, .int sd), (3, .ref ox)] := hl
  refine lv_aload_n hx hb d_LAW_ratio_0 rfl (lv_at hl 3 rfl) ?_
  refine lv_iconst (v := 0) hx hb d_LAW_ratio_1 (by decide) ?_
  refine lv_aload_n hx hb d_LAW_ratio_2 rfl (lv_at hl 0 rfl) ?_
  refine lv_iload_n hx hb d_LAW_ratio_3 rfl (lv_at hl 1 rfl) ?_
  refine lv_iload_n hx hb d_LAW_ratio_4 rfl (lv_at hl 2 rfl) ?_
  have hPc := bx_PR bx_mid hP
  refine bx_callV (W.runV (As := [.int mo, .int sd]) (rest := [.int 0, .ref ox]) ⟨hx, hb, hml, hown, hts⟩ (c_ratioR l G x0 x1 x2 x3 x4 x5 cyc mM mC li eM eC nM nC me mi b bM bC am ac mon cod mo sd hM hH hnt) ⟨(callB_of 2 hts (gi_all wd_477) rfl rfl rfl (hT _ wd_45) (hT _ wd_474) (by decide +kernel) ⟨Nat.le_of_ble_eq_true rfl, Nat.le_of_ble_eq_true rfl⟩), (hT _ wd_475), (hT _ wd_476)⟩ (pvR hPc hGK (va_recv hK hPc (ci := 0) (q0 := 0) rfl rfl)) rfl rfl hl.1 rfl (lv_room (Nat.le_of_ble_eq_true rfl)) d_LAW_ratio_5 ⟨Nat.le_of_ble_eq_true rfl, Nat.le_of_ble_eq_true rfl⟩) ?_
  refine va_last hx hb hK hP hD hS 6 4 rfl rfl (by unfold vp_in; decide) d_LAW_ratio_8 (fun H locs hP hD hS => ?_)
  have hP : va_P G.1 vwCl ([(x0, .inr (0, [.ref x1, .ref x2, .ref x3, .ref x4, .int cyc])), (x1, .inr (1, [.int mM, .ref eM, .int (nI nM)])), (x2, .inr (1, [.int mC, .ref eC, .int (nI nC)])), (x3, .inr (2, [.int li, .long me, .long mi])), (x4, .inr (3, [.ref x5, .int b.1])), (x5, .inl (G.2 1, 41, .inl b.2)), (ox, .inl (G.2 4, 1, .inr (.inl (vp_updL of 0 (raV mon nM mo sd)))))] ++ tlW bM bC nM am mon nC ac cod) H := hP
  have hD : va_D A ([(x0, .inr (0, [.ref x1, .ref x2, .ref x3, .ref x4, .int cyc])), (x1, .inr (1, [.int mM, .ref eM, .int (nI nM)])), (x2, .inr (1, [.int mC, .ref eC, .int (nI nC)])), (x3, .inr (2, [.int li, .long me, .long mi])), (x4, .inr (3, [.ref x5, .int b.1])), (x5, .inl (G.2 1, 41, .inl b.2)), (ox, .inl (G.2 4, 1, .inr (.inl (vp_updL of 0 (raV mon nM mo sd)))))] ++ tlW bM bC nM am mon nC ac cod) := hD
  refine lv_goto (tgt := 16) hx hb d_LAW_ratio_9 (by decide) ?_
  refine lv_iconst (v := 0) hx hb d_LAW_ratio_16 (by decide) ?_
  exact W.iret (v := 0) hx hb hr (fun t ht hW => ⟨⟨rfl, by rw [ht]; exact hP, by rw [hAe]; exact hD⟩, by rw [hAe]; exact hS.F ht⟩) hS.2.2 d_LAW_ratio_17
set_option maxHeartbeats 4000000 in
set_option maxRecDepth 100000 in
theorem c_latR (l : Launch) (G : GG) (sz : Nat) (x0 : Nat) (x1 : Nat) (x2 : Nat) (x3 : Nat) (x4 : Nat) (x5 : Nat) (cyc : Int32) (mM : Int32) (mC : Int32) (li : Int32) (eM : Nat) (eC : Nat) (nM : Nat) (nC : Nat) (me : Int64) (mi : Int64) (b : OB) (bM : va_W) (bC : va_W) (am : Nat → Nat) (ac : Nat → Nat) (mon : Nat → Mon) (cod : Nat → Cod) (ox : Nat) (of : Nat → Int64) (ii : Int32) (hh : ¬ hasF ii b.1 = 0) (hby : ∃ v : Int32, b.2 ii.toNatClampNeg = v.toInt8.toInt32) : Met l y_LAW_at w_LAW_at ({ frames := 2, cells := 0, slots := 0, locals := 42 }) (va_Pc [.ref x0, .int ii, .ref ox] (Pw G sz ([(x0, .inr (0, [.ref x1, .ref x2, .ref x3, .ref x4, .int cyc])), (x1, .inr (1, [.int mM, .ref eM, .int (nI nM)])), (x2, .inr (1, [.int mC, .ref eC, .int (nI nC)])), (x3, .inr (2, [.int li, .long me, .long mi])), (x4, .inr (3, [.ref x5, .int b.1])), (x5, .inl (G.2 1, 41, .inl b.2)), (ox, .inl (G.2 4, 1, .inr (.inl of)))] ++ tlW bM bC nM am mon nC ac cod))) (QW G (some (.int 0)) ([(x0, .inr (0, [.ref x1, .ref x2, .ref x3, .ref x4, .int cyc])), (x1, .inr (1, [.int mM, .ref eM, .int (nI nM)])), (x2, .inr (1, [.int mC, .ref eC, .int (nI nC)])), (x3, .inr (2, [.int li, .long me, .long mi])), (x4, .inr (3, [.ref x5, .int b.1])), (x5, .inl (G.2 1, 41, .inl b.2)), (ox, .inl (G.2 4, 1, .inr (.inl of)))] ++ tlW bM bC nM am mon nC ac cod) ([(x0, .inr (0, [.ref x1, .ref x2, .ref x3, .ref x4, .int cyc])), (x1, .inr (1, [.int mM, .ref eM, .int (nI nM)])), (x2, .inr (1, [.int mC, .ref eC, .int (nI nC)])), (x3, .inr (2, [.int li, .long me, .long mi])), (x4, .inr (3, [.ref x5, .int b.1])), (x5, .inl (G.2 1, 41, .inl b.2)), (ox, .inl (G.2 4, 1, .inr (.inl (vp_updL of 0 (b.2 ii.toNatClampNeg).toInt64))))] ++ tlW bM bC nM am mon nC ac cod) sz) 0 0 (va_A ([(x0, .inr (0, [.ref x1, .ref x2, .ref x3, .ref x4, .int cyc])), (x1, .inr (1, [.int mM, .ref eM, .int (nI nM)])), (x2, .inr (1, [.int mC, .ref eC, .int (nI nC)])), (x3, .inr (2, [.int li, .long me, .long mi])), (x4, .inr (3, [.ref x5, .int b.1])), (x5, .inl (G.2 1, 41, .inl b.2)), (ox, .inl (G.2 4, 1, .inr (.inl of)))] ++ tlW bM bC nM am mon nC ac cod) sz) := by
  refine va_MetW (hh := [(0, 9, 12, 19)]) (cc := b_LAW_at) (maxL := 4) (ret := (some .int)) (by decide) rfl ?_
  intro p e s m args below meth c s₁ B hml hv
  obtain ⟨rfl, hsz, hP, hGK, hD0⟩ := hv
  have hx := B.exec
  have hb := B.bytes
  have hr := B.returns
  have hts := atoms_spec (ws := w_LAW_at) B.pre
  have hT : ∀ w ∈ lwG, w.before _ s = true := fun w h => hts w (List.mem_cons_of_mem _ h)
  have hown : s.vm.findClass R_LAW = some m.cls := findClass_of_methodNamed B.named
  have hlocks := B.notSynchronized
  have hK := hGK.1
  have hN := hGK.2
  subst hsz
  have hD := hD0.self (sz := s.heap.size)
  generalize hAe : va_A ([(x0, .inr (0, [.ref x1, .ref x2, .ref x3, .ref x4, .int cyc])), (x1, .inr (1, [.int mM, .ref eM, .int (nI nM)])), (x2, .inr (1, [.int mC, .ref eC, .int (nI nC)])), (x3, .inr (2, [.int li, .long me, .long mi])), (x4, .inr (3, [.ref x5, .int b.1])), (x5, .inl (G.2 1, 41, .inl b.2)), (ox, .inl (G.2 4, 1, .inr (.inl of)))] ++ tlW bM bC nM am mon nC ac cod) s.heap.size = A at hD ⊢
  have hA : ∀ q : Nat, s.heap.size ≤ q → A q := fun q h => by rw [← hAe]; exact Or.inr h
  have hS : va_S A s.heap s.heap [] := va_S.rf
  have hP : va_P G.1 vwCl ([(x0, .inr (0, [.ref x1, .ref x2, .ref x3, .ref x4, .int cyc])), (x1, .inr (1, [.int mM, .ref eM, .int (nI nM)])), (x2, .inr (1, [.int mC, .ref eC, .int (nI nC)])), (x3, .inr (2, [.int li, .long me, .long mi])), (x4, .inr (3, [.ref x5, .int b.1])), (x5, .inl (G.2 1, 41, .inl b.2)), (ox, .inl (G.2 4, 1, .inr (.inl of)))] ++ tlW bM bC nM am mon nC ac cod) s.heap := hP
  have hl := lv_entry ([.ref x0, .int ii, .ref ox]) (n := 4) (Nat.le_of_ble_eq_true rfl)
  rw [lg_entry_eq]
  generalize (lg_sl ([.ref x0, .int ii, .ref ox]) ++ List.replicate (4 - (lg_sl ([.ref x0, .int ii, .ref ox])).length) Slot.unset).toArray = ls at hl ⊢
  have hl : lv_has ls 4 [(0, .ref x0), (1, .int ii), (2, .ref ox)] := hl
  refine lv_aload_n hx hb d_LAW_at_0 rfl (lv_at hl 2 rfl) ?_
  refine lv_iconst (v := 0) hx hb d_LAW_at_1 (by decide) ?_
  refine lv_aload_n hx hb d_LAW_at_2 rfl (lv_at hl 0 rfl) ?_
  refine lv_iload_n hx hb d_LAW_at_3 rfl (lv_at hl 1 rfl) ?_
  have hPc := bx_PR bx_mid hP
  refine bx_callV (W.runV (As := [.int ii]) (rest := [.int 0, .ref ox]) ⟨hx, hb, hml, hown, hts⟩ (c_atR l G x0 x1 x2 x3 x4 x5 cyc mM mC li eM eC nM nC me mi b bM bC am ac mon cod ii hh hby) ⟨(callB_of 1 hts (gi_all wd_555) rfl rfl rfl (hT _ wd_45) (hT _ wd_552) (by decide +kernel) ⟨Nat.le_of_ble_eq_true rfl, Nat.le_of_ble_eq_true rfl⟩), (hT _ wd_553), (hT _ wd_554)⟩ (pvR hPc hGK (va_recv hK hPc (ci := 0) (q0 := 0) rfl rfl)) rfl rfl hl.1 rfl (lv_room (Nat.le_of_ble_eq_true rfl)) d_LAW_at_4 ⟨Nat.le_of_ble_eq_true rfl, Nat.le_of_ble_eq_true rfl⟩) ?_
  refine lv_i2l (v := (b.2 ii.toNatClampNeg).toInt64) hx hb d_LAW_at_7 rfl ?_
  refine va_last hx hb hK hP hD hS 6 4 rfl rfl (by unfold vp_in; decide) d_LAW_at_8 (fun H locs hP hD hS => ?_)
  have hP : va_P G.1 vwCl ([(x0, .inr (0, [.ref x1, .ref x2, .ref x3, .ref x4, .int cyc])), (x1, .inr (1, [.int mM, .ref eM, .int (nI nM)])), (x2, .inr (1, [.int mC, .ref eC, .int (nI nC)])), (x3, .inr (2, [.int li, .long me, .long mi])), (x4, .inr (3, [.ref x5, .int b.1])), (x5, .inl (G.2 1, 41, .inl b.2)), (ox, .inl (G.2 4, 1, .inr (.inl (vp_updL of 0 ((b.2 ii.toNatClampNeg).toInt64)))))] ++ tlW bM bC nM am mon nC ac cod) H := hP
  have hD : va_D A ([(x0, .inr (0, [.ref x1, .ref x2, .ref x3, .ref x4, .int cyc])), (x1, .inr (1, [.int mM, .ref eM, .int (nI nM)])), (x2, .inr (1, [.int mC, .ref eC, .int (nI nC)])), (x3, .inr (2, [.int li, .long me, .long mi])), (x4, .inr (3, [.ref x5, .int b.1])), (x5, .inl (G.2 1, 41, .inl b.2)), (ox, .inl (G.2 4, 1, .inr (.inl (vp_updL of 0 ((b.2 ii.toNatClampNeg).toInt64)))))] ++ tlW bM bC nM am mon nC ac cod) := hD
  refine lv_goto (tgt := 15) hx hb d_LAW_at_9 (by decide) ?_
  refine lv_iconst (v := 0) hx hb d_LAW_at_15 (by decide) ?_
  have hw9 : (([(x0, .inr (0, [.ref x1, .ref x2, .ref x3, .ref x4, .int cyc])), (x1, .inr (1, [.int mM, .ref eM, .int (nI nM)])), (x2, .inr (1, [.int mC, .ref eC, .int (nI nC)])), (x3, .inr (2, [.int li, .long me, .long mi])), (x4, .inr (3, [.ref x5, .int b.1])), (x5, .inl (G.2 1, 41, .inl b.2)), (ox, .inl (G.2 4, 1, .inr (.inl (vp_updL of 0 (b.2 ii.toNatClampNeg).toInt64))))] ++ tlW bM bC nM am mon nC ac cod) : va_W) = ([(x0, .inr (0, [.ref x1, .ref x2, .ref x3, .ref x4, .int cyc])), (x1, .inr (1, [.int mM, .ref eM, .int (nI nM)])), (x2, .inr (1, [.int mC, .ref eC, .int (nI nC)])), (x3, .inr (2, [.int li, .long me, .long mi])), (x4, .inr (3, [.ref x5, .int b.1])), (x5, .inl (G.2 1, 41, .inl b.2)), (ox, .inl (G.2 4, 1, .inr (.inl (vp_updL of 0 ((b.2 ii.toNatClampNeg).toInt64)))))] ++ tlW bM bC nM am mon nC ac cod) := by first | (simp []; done) | (simp_all []; done)
  rw [← hw9] at hP hD
  exact W.iret (v := 0) hx hb hr (fun t ht hW => ⟨⟨rfl, by rw [ht]; exact hP, by rw [hAe]; exact hD⟩, by rw [hAe]; exact hS.F ht⟩) hS.2.2 d_LAW_at_16
set_option maxHeartbeats 4000000 in
set_option maxRecDepth 100000 in
theorem c_lratioT (l : Launch) (G : GG) (sz : Nat) (hl9 : l.stackTraces = false) (sa : Nat) (x0 : Nat) (x1 : Nat) (x2 : Nat) (x3 : Nat) (x4 : Nat) (x5 : Nat) (cyc : Int32) (mM : Int32) (mC : Int32) (li : Int32) (eM : Nat) (eC : Nat) (nM : Nat) (nC : Nat) (me : Int64) (mi : Int64) (b : OB) (bM : va_W) (bC : va_W) (am : Nat → Nat) (ac : Nat → Nat) (mon : Nat → Mon) (cod : Nat → Cod) (ox : Nat) (of : Nat → Int64) (mo : Int32) (sd : Int32) (hM : LB G bM eM nM am) (ht : raT mon nM mo) : Met l y_LAW_ratio w_LAW_ratio ({ frames := 7, cells := 1, slots := 6, locals := 105 }) (va_Pc [.ref x0, .int mo, .int sd, .ref ox] (PwZ G sz 87 "the monitor had no chance" sa ([(x0, .inr (0, [.ref x1, .ref x2, .ref x3, .ref x4, .int cyc])), (x1, .inr (1, [.int mM, .ref eM, .int (nI nM)])), (x2, .inr (1, [.int mC, .ref eC, .int (nI nC)])), (x3, .inr (2, [.int li, .long me, .long mi])), (x4, .inr (3, [.ref x5, .int b.1])), (x5, .inl (G.2 1, 41, .inl b.2)), (ox, .inl (G.2 4, 1, .inr (.inl of)))] ++ tlW bM bC nM am mon nC ac cod))) (QA (S := Unit) G (fun _ => some (.int 1)) ([(x0, .inr (0, [.ref x1, .ref x2, .ref x3, .ref x4, .int cyc])), (x1, .inr (1, [.int mM, .ref eM, .int (nI nM)])), (x2, .inr (1, [.int mC, .ref eC, .int (nI nC)])), (x3, .inr (2, [.int li, .long me, .long mi])), (x4, .inr (3, [.ref x5, .int b.1])), (x5, .inl (G.2 1, 41, .inl b.2)), (ox, .inl (G.2 4, 1, .inr (.inl of)))] ++ tlW bM bC nM am mon nC ac cod) (fun _ => ([(x0, .inr (0, [.ref x1, .ref x2, .ref x3, .ref x4, .int cyc])), (x1, .inr (1, [.int mM, .ref eM, .int (nI nM)])), (x2, .inr (1, [.int mC, .ref eC, .int (nI nC)])), (x3, .inr (2, [.int li, .long me, .long mi])), (x4, .inr (3, [.ref x5, .int b.1])), (x5, .inl (G.2 1, 41, .inl b.2)), (ox, .inl (G.2 4, 1, .inr (.inl of)))] ++ tlW bM bC nM am mon nC ac cod)) (fun _ => True) sz) 1 6 (va_A ([(x0, .inr (0, [.ref x1, .ref x2, .ref x3, .ref x4, .int cyc])), (x1, .inr (1, [.int mM, .ref eM, .int (nI nM)])), (x2, .inr (1, [.int mC, .ref eC, .int (nI nC)])), (x3, .inr (2, [.int li, .long me, .long mi])), (x4, .inr (3, [.ref x5, .int b.1])), (x5, .inl (G.2 1, 41, .inl b.2)), (ox, .inl (G.2 4, 1, .inr (.inl of)))] ++ tlW bM bC nM am mon nC ac cod) sz) := by
  refine va_MetW (hh := [(0, 9, 12, 13)]) (cc := b_LAW_ratio) (maxL := 5) (ret := (some .int)) (by decide) rfl ?_
  intro p e s m args below meth c s₁ B hml hv
  obtain ⟨rfl, ⟨hsz, hP, hGK, hD0⟩, hZ, hR⟩ := hv
  have hx := B.exec
  have hb := B.bytes
  have hr := B.returns
  have hts := atoms_spec (ws := w_LAW_ratio) B.pre
  have hT : ∀ w ∈ lwG, w.before _ s = true := fun w h => hts w (List.mem_cons_of_mem _ h)
  have hown : s.vm.findClass R_LAW = some m.cls := findClass_of_methodNamed B.named
  have hlocks := B.notSynchronized
  have hK := hGK.1
  have hN := hGK.2
  subst hsz
  have hD := hD0.self (sz := s.heap.size)
  generalize hAe : va_A ([(x0, .inr (0, [.ref x1, .ref x2, .ref x3, .ref x4, .int cyc])), (x1, .inr (1, [.int mM, .ref eM, .int (nI nM)])), (x2, .inr (1, [.int mC, .ref eC, .int (nI nC)])), (x3, .inr (2, [.int li, .long me, .long mi])), (x4, .inr (3, [.ref x5, .int b.1])), (x5, .inl (G.2 1, 41, .inl b.2)), (ox, .inl (G.2 4, 1, .inr (.inl of)))] ++ tlW bM bC nM am mon nC ac cod) s.heap.size = A at hD ⊢
  have hA : ∀ q : Nat, s.heap.size ≤ q → A q := fun q h => by rw [← hAe]; exact Or.inr h
  have hS : va_S A s.heap s.heap [] := va_S.rf
  have hP : va_P G.1 vwCl ([(x0, .inr (0, [.ref x1, .ref x2, .ref x3, .ref x4, .int cyc])), (x1, .inr (1, [.int mM, .ref eM, .int (nI nM)])), (x2, .inr (1, [.int mC, .ref eC, .int (nI nC)])), (x3, .inr (2, [.int li, .long me, .long mi])), (x4, .inr (3, [.ref x5, .int b.1])), (x5, .inl (G.2 1, 41, .inl b.2)), (ox, .inl (G.2 4, 1, .inr (.inl of)))] ++ tlW bM bC nM am mon nC ac cod) s.heap := hP
  have hl := lv_entry ([.ref x0, .int mo, .int sd, .ref ox]) (n := 5) (Nat.le_of_ble_eq_true rfl)
  rw [lg_entry_eq]
  generalize (lg_sl ([.ref x0, .int mo, .int sd, .ref ox]) ++ List.replicate (5 - (lg_sl ([.ref x0, .int mo, .int sd, .ref ox])).length) Slot.unset).toArray = ls at hl ⊢
  have hl : lv_has ls 5 [(0, .ref x0), (1, .int mo), (2, .int sd), (3, .ref ox)] := hl
  refine lv_aload_n hx hb d_LAW_ratio_0 rfl (lv_at hl 3 rfl) ?_
  refine lv_iconst (v := 0) hx hb d_LAW_ratio_1 (by decide) ?_
  refine lv_aload_n hx hb d_LAW_ratio_2 rfl (lv_at hl 0 rfl) ?_
  refine lv_iload_n hx hb d_LAW_ratio_3 rfl (lv_at hl 1 rfl) ?_
  refine lv_iload_n hx hb d_LAW_ratio_4 rfl (lv_at hl 2 rfl) ?_
  have hPc := bx_PR bx_mid hP
  refine cx_callT2 (As := [.int mo, .int sd]) (rest := [.int 0, .ref ox]) ⟨hx, hb, hml, hown, hts⟩ (t_ratioT l hl9 G sa x0 x1 x2 x3 x4 x5 cyc mM mC li eM eC nM nC me mi b bM bC am ac mon cod mo sd hM ht) ⟨(callB_of 2 hts (gi_all wd_477) rfl rfl rfl (hT _ wd_45) (hT _ wd_474) (by decide +kernel) ⟨Nat.le_of_ble_eq_true rfl, Nat.le_of_ble_eq_true rfl⟩), (hT _ wd_475), (hT _ wd_476)⟩ (pvT hPc hGK hZ hR (va_recv hK hPc (ci := 0) (q0 := 0) rfl rfl)) rfl hl.1 (Nat.le_of_ble_eq_true rfl) d_LAW_ratio_5 ⟨Nat.le_of_ble_eq_true rfl, Nat.le_of_ble_eq_true rfl⟩ (cx_tab B (hts _ List.mem_cons_self)) (hT _ wd_473) (by decide) (by decide) (by decide) hP hS (fun q H hP hS => ?_)
  refine lv_astore (lv' := [(4, .ref q), (0, .ref x0), (1, .int mo), (2, .int sd), (3, .ref ox)]) hx hb d_LAW_ratio_12 hl (by decide) rfl (fun ls hl => ?_)
  refine lv_iconst (v := 1) hx hb d_LAW_ratio_14 (by decide) ?_
  refine W.widen (k := 1) (n := 6) (Nat.le_of_ble_eq_true rfl) (Nat.le_of_ble_eq_true rfl) ?_
  exact W.iret (v := 1) hx hb hr (fun t ht hW => ⟨⟨(), rfl, by rw [ht]; exact hP, by rw [hAe]; exact hD, trivial⟩, by rw [hAe]; exact hS.F ht⟩) hS.2.2 d_LAW_ratio_15
set_option maxHeartbeats 4000000 in
set_option maxRecDepth 100000 in
theorem c_latT (l : Launch) (G : GG) (sz : Nat) (hl9 : l.stackTraces = false) (sa : Nat) (x0 : Nat) (x1 : Nat) (x2 : Nat) (x3 : Nat) (x4 : Nat) (x5 : Nat) (cyc : Int32) (mM : Int32) (mC : Int32) (li : Int32) (eM : Nat) (eC : Nat) (nM : Nat) (nC : Nat) (me : Int64) (mi : Int64) (b : OB) (bM : va_W) (bC : va_W) (am : Nat → Nat) (ac : Nat → Nat) (mon : Nat → Mon) (cod : Nat → Cod) (ox : Nat) (of : Nat → Int64) (ii : Int32) (hh : hasF ii b.1 = 0) : Met l y_LAW_at w_LAW_at ({ frames := 7, cells := 1, slots := 6, locals := 103 }) (va_Pc [.ref x0, .int ii, .ref ox] (PwZ G sz 175 "the answer has no such octet" sa ([(x0, .inr (0, [.ref x1, .ref x2, .ref x3, .ref x4, .int cyc])), (x1, .inr (1, [.int mM, .ref eM, .int (nI nM)])), (x2, .inr (1, [.int mC, .ref eC, .int (nI nC)])), (x3, .inr (2, [.int li, .long me, .long mi])), (x4, .inr (3, [.ref x5, .int b.1])), (x5, .inl (G.2 1, 41, .inl b.2)), (ox, .inl (G.2 4, 1, .inr (.inl of)))] ++ tlW bM bC nM am mon nC ac cod))) (QA (S := Unit) G (fun _ => some (.int 1)) ([(x0, .inr (0, [.ref x1, .ref x2, .ref x3, .ref x4, .int cyc])), (x1, .inr (1, [.int mM, .ref eM, .int (nI nM)])), (x2, .inr (1, [.int mC, .ref eC, .int (nI nC)])), (x3, .inr (2, [.int li, .long me, .long mi])), (x4, .inr (3, [.ref x5, .int b.1])), (x5, .inl (G.2 1, 41, .inl b.2)), (ox, .inl (G.2 4, 1, .inr (.inl of)))] ++ tlW bM bC nM am mon nC ac cod) (fun _ => ([(x0, .inr (0, [.ref x1, .ref x2, .ref x3, .ref x4, .int cyc])), (x1, .inr (1, [.int mM, .ref eM, .int (nI nM)])), (x2, .inr (1, [.int mC, .ref eC, .int (nI nC)])), (x3, .inr (2, [.int li, .long me, .long mi])), (x4, .inr (3, [.ref x5, .int b.1])), (x5, .inl (G.2 1, 41, .inl b.2)), (ox, .inl (G.2 4, 1, .inr (.inl of)))] ++ tlW bM bC nM am mon nC ac cod)) (fun _ => True) sz) 1 6 (va_A ([(x0, .inr (0, [.ref x1, .ref x2, .ref x3, .ref x4, .int cyc])), (x1, .inr (1, [.int mM, .ref eM, .int (nI nM)])), (x2, .inr (1, [.int mC, .ref eC, .int (nI nC)])), (x3, .inr (2, [.int li, .long me, .long mi])), (x4, .inr (3, [.ref x5, .int b.1])), (x5, .inl (G.2 1, 41, .inl b.2)), (ox, .inl (G.2 4, 1, .inr (.inl of)))] ++ tlW bM bC nM am mon nC ac cod) sz) := by
  refine va_MetW (hh := [(0, 9, 12, 19)]) (cc := b_LAW_at) (maxL := 4) (ret := (some .int)) (by decide) rfl ?_
  intro p e s m args below meth c s₁ B hml hv
  obtain ⟨rfl, ⟨hsz, hP, hGK, hD0⟩, hZ, hR⟩ := hv
  have hx := B.exec
  have hb := B.bytes
  have hr := B.returns
  have hts := atoms_spec (ws := w_LAW_at) B.pre
  have hT : ∀ w ∈ lwG, w.before _ s = true := fun w h => hts w (List.mem_cons_of_mem _ h)
  have hown : s.vm.findClass R_LAW = some m.cls := findClass_of_methodNamed B.named
  have hlocks := B.notSynchronized
  have hK := hGK.1
  have hN := hGK.2
  subst hsz
  have hD := hD0.self (sz := s.heap.size)
  generalize hAe : va_A ([(x0, .inr (0, [.ref x1, .ref x2, .ref x3, .ref x4, .int cyc])), (x1, .inr (1, [.int mM, .ref eM, .int (nI nM)])), (x2, .inr (1, [.int mC, .ref eC, .int (nI nC)])), (x3, .inr (2, [.int li, .long me, .long mi])), (x4, .inr (3, [.ref x5, .int b.1])), (x5, .inl (G.2 1, 41, .inl b.2)), (ox, .inl (G.2 4, 1, .inr (.inl of)))] ++ tlW bM bC nM am mon nC ac cod) s.heap.size = A at hD ⊢
  have hA : ∀ q : Nat, s.heap.size ≤ q → A q := fun q h => by rw [← hAe]; exact Or.inr h
  have hS : va_S A s.heap s.heap [] := va_S.rf
  have hP : va_P G.1 vwCl ([(x0, .inr (0, [.ref x1, .ref x2, .ref x3, .ref x4, .int cyc])), (x1, .inr (1, [.int mM, .ref eM, .int (nI nM)])), (x2, .inr (1, [.int mC, .ref eC, .int (nI nC)])), (x3, .inr (2, [.int li, .long me, .long mi])), (x4, .inr (3, [.ref x5, .int b.1])), (x5, .inl (G.2 1, 41, .inl b.2)), (ox, .inl (G.2 4, 1, .inr (.inl of)))] ++ tlW bM bC nM am mon nC ac cod) s.heap := hP
  have hl := lv_entry ([.ref x0, .int ii, .ref ox]) (n := 4) (Nat.le_of_ble_eq_true rfl)
  rw [lg_entry_eq]
  generalize (lg_sl ([.ref x0, .int ii, .ref ox]) ++ List.replicate (4 - (lg_sl ([.ref x0, .int ii, .ref ox])).length) Slot.unset).toArray = ls at hl ⊢
  have hl : lv_has ls 4 [(0, .ref x0), (1, .int ii), (2, .ref ox)] := hl
  refine lv_aload_n hx hb d_LAW_at_0 rfl (lv_at hl 2 rfl) ?_
  refine lv_iconst (v := 0) hx hb d_LAW_at_1 (by decide) ?_
  refine lv_aload_n hx hb d_LAW_at_2 rfl (lv_at hl 0 rfl) ?_
  refine lv_iload_n hx hb d_LAW_at_3 rfl (lv_at hl 1 rfl) ?_
  have hPc := bx_PR bx_mid hP
  refine cx_callT2 (As := [.int ii]) (rest := [.int 0, .ref ox]) ⟨hx, hb, hml, hown, hts⟩ (t_atT l hl9 G sa x0 x1 x2 x3 x4 x5 cyc mM mC li eM eC nM nC me mi b bM bC am ac mon cod ii hh) ⟨(callB_of 1 hts (gi_all wd_555) rfl rfl rfl (hT _ wd_45) (hT _ wd_552) (by decide +kernel) ⟨Nat.le_of_ble_eq_true rfl, Nat.le_of_ble_eq_true rfl⟩), (hT _ wd_553), (hT _ wd_554)⟩ (pvT hPc hGK hZ hR (va_recv hK hPc (ci := 0) (q0 := 0) rfl rfl)) rfl hl.1 (Nat.le_of_ble_eq_true rfl) d_LAW_at_4 ⟨Nat.le_of_ble_eq_true rfl, Nat.le_of_ble_eq_true rfl⟩ (cx_tab B (hts _ List.mem_cons_self)) (hT _ wd_551) (by decide) (by decide) (by decide) hP hS (fun q H hP hS => ?_)
  refine lv_astore_n (lv' := [(3, .ref q), (0, .ref x0), (1, .int ii), (2, .ref ox)]) hx hb d_LAW_at_12 rfl hl (by decide) rfl (fun ls hl => ?_)
  refine lv_iconst (v := 1) hx hb d_LAW_at_13 (by decide) ?_
  refine W.widen (k := 1) (n := 6) (Nat.le_of_ble_eq_true rfl) (Nat.le_of_ble_eq_true rfl) ?_
  exact W.iret (v := 1) hx hb hr (fun t ht hW => ⟨⟨(), rfl, by rw [ht]; exact hP, by rw [hAe]; exact hD, trivial⟩, by rw [hAe]; exact hS.F ht⟩) hS.2.2 d_LAW_at_14
