set_option maxHeartbeats 4000000 in
set_option maxRecDepth 100000 in
theorem c_lamp (l : Launch) (G : GG) (sz : Nat) (x0 : Nat) (x1 : Nat) (x2 : Nat) (x3 : Nat) (x4 : Nat) (x5 : Nat) (cyc : Int32) (mM : Int32) (mC : Int32) (li : Int32) (eM : Nat) (eC : Nat) (nM : Nat) (nC : Nat) (me : Int64) (mi : Int64) (b : OB) (bM : va_W) (bC : va_W) (am : Nat → Nat) (ac : Nat → Nat) (mon : Nat → Mon) (cod : Nat → Cod) (xm : Int64) (xi : Int64) (hli : bz li) : Met l y_ER_lamp w_ER_lamp ({ frames := 1, cells := 0, slots := 0, locals := 24 }) (va_Pc [.ref x0, .long xm, .long xi] (Pw G sz ([(x0, .inr (0, [.ref x1, .ref x2, .ref x3, .ref x4, .int cyc])), (x1, .inr (1, [.int mM, .ref eM, .int (nI nM)])), (x2, .inr (1, [.int mC, .ref eC, .int (nI nC)])), (x3, .inr (2, [.int li, .long me, .long mi])), (x4, .inr (3, [.ref x5, .int b.1])), (x5, .inl (G.2 1, 41, .inl b.2))] ++ tlW bM bC nM am mon nC ac cod))) (QW G (some (.int (lmpR xm xi li))) ([(x0, .inr (0, [.ref x1, .ref x2, .ref x3, .ref x4, .int cyc])), (x1, .inr (1, [.int mM, .ref eM, .int (nI nM)])), (x2, .inr (1, [.int mC, .ref eC, .int (nI nC)])), (x3, .inr (2, [.int li, .long me, .long mi])), (x4, .inr (3, [.ref x5, .int b.1])), (x5, .inl (G.2 1, 41, .inl b.2))] ++ tlW bM bC nM am mon nC ac cod) ([(x0, .inr (0, [.ref x1, .ref x2, .ref x3, .ref x4, .int cyc])), (x1, .inr (1, [.int mM, .ref eM, .int (nI nM)])), (x2, .inr (1, [.int mC, .ref eC, .int (nI nC)])), (x3, .inr (2, [.int li, .long (lmpX xm xi li me xm), .long (lmpX xm xi li mi xi)])), (x4, .inr (3, [.ref x5, .int b.1])), (x5, .inl (G.2 1, 41, .inl b.2))] ++ tlW bM bC nM am mon nC ac cod) sz) 0 0 (va_A ([(x0, .inr (0, [.ref x1, .ref x2, .ref x3, .ref x4, .int cyc])), (x1, .inr (1, [.int mM, .ref eM, .int (nI nM)])), (x2, .inr (1, [.int mC, .ref eC, .int (nI nC)])), (x3, .inr (2, [.int li, .long me, .long mi])), (x4, .inr (3, [.ref x5, .int b.1])), (x5, .inl (G.2 1, 41, .inl b.2))] ++ tlW bM bC nM am mon nC ac cod) sz) := by
  refine Met.ofW (cc := b_ER_lamp) (maxL := 5) (ret := (some .int)) (by decide) rfl ?_
  intro p e s m args below meth c s₁ B hml hv
  obtain ⟨rfl, hsz, hP, hGK, hD0⟩ := hv
  have hx := B.exec
  have hb := B.bytes
  have hr := B.returns
  have hts := atoms_spec (ws := w_ER_lamp) B.pre
  have hT : ∀ w ∈ lwG, w.before _ s = true := fun w h => hts w (List.mem_cons_of_mem _ h)
  have hown : s.vm.findClass R_ER = some m.cls := findClass_of_methodNamed B.named
  have hlocks := B.notSynchronized
  have hK := hGK.1
  have hN := hGK.2
  subst hsz
  have hD := hD0.self (sz := s.heap.size)
  generalize hAe : va_A ([(x0, .inr (0, [.ref x1, .ref x2, .ref x3, .ref x4, .int cyc])), (x1, .inr (1, [.int mM, .ref eM, .int (nI nM)])), (x2, .inr (1, [.int mC, .ref eC, .int (nI nC)])), (x3, .inr (2, [.int li, .long me, .long mi])), (x4, .inr (3, [.ref x5, .int b.1])), (x5, .inl (G.2 1, 41, .inl b.2))] ++ tlW bM bC nM am mon nC ac cod) s.heap.size = A at hD ⊢
  have hA : ∀ q : Nat, s.heap.size ≤ q → A q := fun q h => by rw [← hAe]; exact Or.inr h
  have hS : va_S A s.heap s.heap [] := va_S.rf
  have hP : va_P G.1 vwCl ([(x0, .inr (0, [.ref x1, .ref x2, .ref x3, .ref x4, .int cyc])), (x1, .inr (1, [.int mM, .ref eM, .int (nI nM)])), (x2, .inr (1, [.int mC, .ref eC, .int (nI nC)])), (x3, .inr (2, [.int li, .long me, .long mi])), (x4, .inr (3, [.ref x5, .int b.1])), (x5, .inl (G.2 1, 41, .inl b.2))] ++ tlW bM bC nM am mon nC ac cod) s.heap := hP
  have hl := lv_entry ([.ref x0, .long xm, .long xi]) (n := 5) (Nat.le_of_ble_eq_true rfl)
  rw [lg_entry_eq]
  generalize (lg_sl ([.ref x0, .long xm, .long xi]) ++ List.replicate (5 - (lg_sl ([.ref x0, .long xm, .long xi])).length) Slot.unset).toArray = ls at hl ⊢
  have hl : lv_has ls 5 [(0, .ref x0), (1, .long xm), (3, .long xi)] := hl
  refine lv_lload_n hx hb d_ER_lamp_0 rfl (lv_at hl 1 rfl) ?_
  refine lv_lconst (v := 0) hx hb d_ER_lamp_1 (by decide) ?_
  refine W.lcmp hx hb d_ER_lamp_2 ?_
  refine lv_if_lt (tgt := 28) hx hb d_ER_lamp_3 (by decide) (fun c_3 => ?_) (fun c_3 => ?_)
  · refine lv_bipush (v := (-2)) hx hb d_ER_lamp_28 (by decide) ?_
    have hw9 : (([(x0, .inr (0, [.ref x1, .ref x2, .ref x3, .ref x4, .int cyc])), (x1, .inr (1, [.int mM, .ref eM, .int (nI nM)])), (x2, .inr (1, [.int mC, .ref eC, .int (nI nC)])), (x3, .inr (2, [.int li, .long (lmpX xm xi li me xm), .long (lmpX xm xi li mi xi)])), (x4, .inr (3, [.ref x5, .int b.1])), (x5, .inl (G.2 1, 41, .inl b.2))] ++ tlW bM bC nM am mon nC ac cod) : va_W) = ([(x0, .inr (0, [.ref x1, .ref x2, .ref x3, .ref x4, .int cyc])), (x1, .inr (1, [.int mM, .ref eM, .int (nI nM)])), (x2, .inr (1, [.int mC, .ref eC, .int (nI nC)])), (x3, .inr (2, [.int li, .long me, .long mi])), (x4, .inr (3, [.ref x5, .int b.1])), (x5, .inl (G.2 1, 41, .inl b.2))] ++ tlW bM bC nM am mon nC ac cod) := by first | (simp [lmpR, lmpX, lmpB, c_3]; done) | (simp_all [lmpR, lmpX, lmpB]; done)
    rw [← hw9] at hP hD
    have hq9 : (.int (lmpR xm xi li)) = (.int (-2) : Value) := by first | (simp [lmpR, lmpX, lmpB, c_3]; done) | (simp_all [lmpR, lmpX, lmpB]; done)
    exact W.iret (v := (-2)) hx hb hr (fun t ht hW => ⟨⟨by rw [hq9], by rw [ht]; exact hP, by rw [hAe]; exact hD⟩, by rw [hAe]; exact hS.F ht⟩) hS.2.2 d_ER_lamp_30
  · refine lv_lload_n hx hb d_ER_lamp_6 rfl (lv_at hl 1 rfl) ?_
    refine lv_ldc2 (v := 1000000000) hx hb hown (hT _ wd_392) d_ER_lamp_7 ?_
    refine W.lcmp hx hb d_ER_lamp_10 ?_
    refine lv_if_gt (tgt := 28) hx hb d_ER_lamp_11 (by decide) (fun c_11 => ?_) (fun c_11 => ?_)
    · refine lv_bipush (v := (-2)) hx hb d_ER_lamp_28 (by decide) ?_
      have hw9 : (([(x0, .inr (0, [.ref x1, .ref x2, .ref x3, .ref x4, .int cyc])), (x1, .inr (1, [.int mM, .ref eM, .int (nI nM)])), (x2, .inr (1, [.int mC, .ref eC, .int (nI nC)])), (x3, .inr (2, [.int li, .long (lmpX xm xi li me xm), .long (lmpX xm xi li mi xi)])), (x4, .inr (3, [.ref x5, .int b.1])), (x5, .inl (G.2 1, 41, .inl b.2))] ++ tlW bM bC nM am mon nC ac cod) : va_W) = ([(x0, .inr (0, [.ref x1, .ref x2, .ref x3, .ref x4, .int cyc])), (x1, .inr (1, [.int mM, .ref eM, .int (nI nM)])), (x2, .inr (1, [.int mC, .ref eC, .int (nI nC)])), (x3, .inr (2, [.int li, .long me, .long mi])), (x4, .inr (3, [.ref x5, .int b.1])), (x5, .inl (G.2 1, 41, .inl b.2))] ++ tlW bM bC nM am mon nC ac cod) := by first | (simp [lmpR, lmpX, lmpB, c_3, c_11]; done) | (simp_all [lmpR, lmpX, lmpB]; done)
      rw [← hw9] at hP hD
      have hq9 : (.int (lmpR xm xi li)) = (.int (-2) : Value) := by first | (simp [lmpR, lmpX, lmpB, c_3, c_11]; done) | (simp_all [lmpR, lmpX, lmpB]; done)
      exact W.iret (v := (-2)) hx hb hr (fun t ht hW => ⟨⟨by rw [hq9], by rw [ht]; exact hP, by rw [hAe]; exact hD⟩, by rw [hAe]; exact hS.F ht⟩) hS.2.2 d_ER_lamp_30
    · refine lv_lload_n hx hb d_ER_lamp_14 rfl (lv_at hl 2 rfl) ?_
      refine lv_lconst (v := 0) hx hb d_ER_lamp_15 (by decide) ?_
      refine W.lcmp hx hb d_ER_lamp_16 ?_
      refine lv_if_lt (tgt := 28) hx hb d_ER_lamp_17 (by decide) (fun c_17 => ?_) (fun c_17 => ?_)
      · refine lv_bipush (v := (-2)) hx hb d_ER_lamp_28 (by decide) ?_
        have hw9 : (([(x0, .inr (0, [.ref x1, .ref x2, .ref x3, .ref x4, .int cyc])), (x1, .inr (1, [.int mM, .ref eM, .int (nI nM)])), (x2, .inr (1, [.int mC, .ref eC, .int (nI nC)])), (x3, .inr (2, [.int li, .long (lmpX xm xi li me xm), .long (lmpX xm xi li mi xi)])), (x4, .inr (3, [.ref x5, .int b.1])), (x5, .inl (G.2 1, 41, .inl b.2))] ++ tlW bM bC nM am mon nC ac cod) : va_W) = ([(x0, .inr (0, [.ref x1, .ref x2, .ref x3, .ref x4, .int cyc])), (x1, .inr (1, [.int mM, .ref eM, .int (nI nM)])), (x2, .inr (1, [.int mC, .ref eC, .int (nI nC)])), (x3, .inr (2, [.int li, .long me, .long mi])), (x4, .inr (3, [.ref x5, .int b.1])), (x5, .inl (G.2 1, 41, .inl b.2))] ++ tlW bM bC nM am mon nC ac cod) := by first | (simp [lmpR, lmpX, lmpB, c_3, c_11, c_17]; done) | (simp_all [lmpR, lmpX, lmpB]; done)
        rw [← hw9] at hP hD
        have hq9 : (.int (lmpR xm xi li)) = (.int (-2) : Value) := by first | (simp [lmpR, lmpX, lmpB, c_3, c_11, c_17]; done) | (simp_all [lmpR, lmpX, lmpB]; done)
        exact W.iret (v := (-2)) hx hb hr (fun t ht hW => ⟨⟨by rw [hq9], by rw [ht]; exact hP, by rw [hAe]; exact hD⟩, by rw [hAe]; exact hS.F ht⟩) hS.2.2 d_ER_lamp_30
      · refine lv_lload_n hx hb d_ER_lamp_20 rfl (lv_at hl 2 rfl) ?_
        refine lv_ldc2 (v := 1000000000) hx hb hown (hT _ wd_392) d_ER_lamp_21 ?_
        refine W.lcmp hx hb d_ER_lamp_24 ?_
        refine lv_if_le (tgt := 31) hx hb d_ER_lamp_25 (by decide) (fun c_25 => ?_) (fun c_25 => ?_)
        · refine lv_aload_n hx hb d_ER_lamp_31 rfl (lv_at hl 0 rfl) ?_
          refine va_get (D := G.1) (ci := 0) (v := .ref x3) (C := R_ER) (T := T_ER) (N := 5) hx hb hT in_ER hown hK hP 0 rfl rfl 2 (by decide) (hT _ wd_136) (fun _ h9 => h9) rfl d_ER_lamp_32 ?_
          refine lv_lload_n hx hb d_ER_lamp_35 rfl (lv_at hl 1 rfl) ?_
          refine lv_lload_n hx hb d_ER_lamp_36 rfl (lv_at hl 2 rfl) ?_
          have hPc := hP.sub (ws' := [(x3, .inr (2, [.int li, .long me, .long mi]))]) [3] rfl
          have hDc := hD.sub (ws' := [(x3, .inr (2, [.int li, .long me, .long mi]))]) [3] (by decide) rfl
          refine bx_callKr [3] (va_runVN (As := [.long xm, .long xi]) (rest := []) ⟨hx, hb, hml, hown, hts⟩ (c_goOn l G s.heap.size x3 li me mi xm xi (by assumption)) ⟨(va_cnB 2 hts (gi_all wd_396) rfl rfl rfl (hN (.methodLinkNest "EmissionRows" 130 ⟨"EmissionRows$Lamp", "goOn", "(JJ)Z"⟩ "EmissionRows") nw_393) (hT _ wd_49) (by decide +kernel) ⟨Nat.le_of_ble_eq_true rfl, Nat.le_of_ble_eq_true rfl⟩), (hT _ wd_395), (hT _ wd_17)⟩ (pvW hPc hGK hDc (va_recv hK hPc (ci := 2) (q0 := 0) rfl rfl)) rfl rfl hl.1 rfl (lv_room (Nat.le_of_ble_eq_true rfl)) d_ER_lamp_37 ⟨Nat.le_of_ble_eq_true rfl, Nat.le_of_ble_eq_true rfl⟩) hP hD hS hA rfl rfl rfl (fun H locs hP hD hS => ?_)
          have hP : va_P G.1 vwCl ([(x0, .inr (0, [.ref x1, .ref x2, .ref x3, .ref x4, .int cyc])), (x1, .inr (1, [.int mM, .ref eM, .int (nI nM)])), (x2, .inr (1, [.int mC, .ref eC, .int (nI nC)])), (x3, .inr (2, [.int li, .long (goM li me xm), .long (goM li mi xi)])), (x4, .inr (3, [.ref x5, .int b.1])), (x5, .inl (G.2 1, 41, .inl b.2))] ++ tlW bM bC nM am mon nC ac cod) H := hP
          have hD : va_D A ([(x0, .inr (0, [.ref x1, .ref x2, .ref x3, .ref x4, .int cyc])), (x1, .inr (1, [.int mM, .ref eM, .int (nI nM)])), (x2, .inr (1, [.int mC, .ref eC, .int (nI nC)])), (x3, .inr (2, [.int li, .long (goM li me xm), .long (goM li mi xi)])), (x4, .inr (3, [.ref x5, .int b.1])), (x5, .inl (G.2 1, 41, .inl b.2))] ++ tlW bM bC nM am mon nC ac cod) := hD
          refine lv_if_eq (tgt := 47) hx hb d_ER_lamp_40 (by decide) (fun c_40 => ?_) (fun c_40 => ?_)
          · refine lv_iconst (v := 0) hx hb d_ER_lamp_47 (by decide) ?_
            have hw9 : (([(x0, .inr (0, [.ref x1, .ref x2, .ref x3, .ref x4, .int cyc])), (x1, .inr (1, [.int mM, .ref eM, .int (nI nM)])), (x2, .inr (1, [.int mC, .ref eC, .int (nI nC)])), (x3, .inr (2, [.int li, .long (lmpX xm xi li me xm), .long (lmpX xm xi li mi xi)])), (x4, .inr (3, [.ref x5, .int b.1])), (x5, .inl (G.2 1, 41, .inl b.2))] ++ tlW bM bC nM am mon nC ac cod) : va_W) = ([(x0, .inr (0, [.ref x1, .ref x2, .ref x3, .ref x4, .int cyc])), (x1, .inr (1, [.int mM, .ref eM, .int (nI nM)])), (x2, .inr (1, [.int mC, .ref eC, .int (nI nC)])), (x3, .inr (2, [.int li, .long (goM li me xm), .long (goM li mi xi)])), (x4, .inr (3, [.ref x5, .int b.1])), (x5, .inl (G.2 1, 41, .inl b.2))] ++ tlW bM bC nM am mon nC ac cod) := by first | (simp [lmpR, lmpX, lmpB, c_3, c_11, c_17, c_25, c_40]; done) | (simp_all [lmpR, lmpX, lmpB]; done)
            rw [← hw9] at hP hD
            have hq9 : (.int (lmpR xm xi li)) = (.int 0 : Value) := by first | (simp [lmpR, lmpX, lmpB, c_3, c_11, c_17, c_25, c_40]; done) | (simp_all [lmpR, lmpX, lmpB]; done)
            exact W.iret (v := 0) hx hb hr (fun t ht hW => ⟨⟨by rw [hq9], by rw [ht]; exact hP, by rw [hAe]; exact hD⟩, by rw [hAe]; exact hS.F ht⟩) hS.2.2 d_ER_lamp_48
          · refine lv_iconst (v := 1) hx hb d_ER_lamp_43 (by decide) ?_
            refine lv_goto (tgt := 48) hx hb d_ER_lamp_44 (by decide) ?_
            have hw9 : (([(x0, .inr (0, [.ref x1, .ref x2, .ref x3, .ref x4, .int cyc])), (x1, .inr (1, [.int mM, .ref eM, .int (nI nM)])), (x2, .inr (1, [.int mC, .ref eC, .int (nI nC)])), (x3, .inr (2, [.int li, .long (lmpX xm xi li me xm), .long (lmpX xm xi li mi xi)])), (x4, .inr (3, [.ref x5, .int b.1])), (x5, .inl (G.2 1, 41, .inl b.2))] ++ tlW bM bC nM am mon nC ac cod) : va_W) = ([(x0, .inr (0, [.ref x1, .ref x2, .ref x3, .ref x4, .int cyc])), (x1, .inr (1, [.int mM, .ref eM, .int (nI nM)])), (x2, .inr (1, [.int mC, .ref eC, .int (nI nC)])), (x3, .inr (2, [.int li, .long (goM li me xm), .long (goM li mi xi)])), (x4, .inr (3, [.ref x5, .int b.1])), (x5, .inl (G.2 1, 41, .inl b.2))] ++ tlW bM bC nM am mon nC ac cod) := by first | (simp [lmpR, lmpX, lmpB, c_3, c_11, c_17, c_25, c_40]; done) | (simp_all [lmpR, lmpX, lmpB]; done)
            rw [← hw9] at hP hD
            have hq9 : (.int (lmpR xm xi li)) = (.int 1 : Value) := by first | (simp [lmpR, lmpX, lmpB, c_3, c_11, c_17, c_25, c_40]; done) | (simp_all [lmpR, lmpX, lmpB]; done)
            exact W.iret (v := 1) hx hb hr (fun t ht hW => ⟨⟨by rw [hq9], by rw [ht]; exact hP, by rw [hAe]; exact hD⟩, by rw [hAe]; exact hS.F ht⟩) hS.2.2 d_ER_lamp_48
        · refine lv_bipush (v := (-2)) hx hb d_ER_lamp_28 (by decide) ?_
          have hw9 : (([(x0, .inr (0, [.ref x1, .ref x2, .ref x3, .ref x4, .int cyc])), (x1, .inr (1, [.int mM, .ref eM, .int (nI nM)])), (x2, .inr (1, [.int mC, .ref eC, .int (nI nC)])), (x3, .inr (2, [.int li, .long (lmpX xm xi li me xm), .long (lmpX xm xi li mi xi)])), (x4, .inr (3, [.ref x5, .int b.1])), (x5, .inl (G.2 1, 41, .inl b.2))] ++ tlW bM bC nM am mon nC ac cod) : va_W) = ([(x0, .inr (0, [.ref x1, .ref x2, .ref x3, .ref x4, .int cyc])), (x1, .inr (1, [.int mM, .ref eM, .int (nI nM)])), (x2, .inr (1, [.int mC, .ref eC, .int (nI nC)])), (x3, .inr (2, [.int li, .long me, .long mi])), (x4, .inr (3, [.ref x5, .int b.1])), (x5, .inl (G.2 1, 41, .inl b.2))] ++ tlW bM bC nM am mon nC ac cod) := by first | (simp [lmpR, lmpX, lmpB, c_3, c_11, c_17, c_25]; done) | (simp_all [lmpR, lmpX, lmpB]; done)
          rw [← hw9] at hP hD
          have hq9 : (.int (lmpR xm xi li)) = (.int (-2) : Value) := by first | (simp [lmpR, lmpX, lmpB, c_3, c_11, c_17, c_25]; done) | (simp_all [lmpR, lmpX, lmpB]; done)
          exact W.iret (v := (-2)) hx hb hr (fun t ht hW => ⟨⟨by rw [hq9], by rw [ht]; exact hP, by rw [hAe]; exact hD⟩, by rw [hAe]; exact hS.F ht⟩) hS.2.2 d_ER_lamp_30
set_option maxHeartbeats 4000000 in
set_option maxRecDepth 100000 in
theorem c_passMonitors (l : Launch) (G : GG) (sz : Nat) (x0 : Nat) (x1 : Nat) (x2 : Nat) (x3 : Nat) (x4 : Nat) (x5 : Nat) (cyc : Int32) (mM : Int32) (mC : Int32) (li : Int32) (eM : Nat) (eC : Nat) (nM : Nat) (nC : Nat) (me : Int64) (mi : Int64) (b : OB) (bM : va_W) (bC : va_W) (am : Nat → Nat) (ac : Nat → Nat) (mon : Nat → Mon) (cod : Nat → Cod) (cs : Int32) (ts : Int32) (hM : LB G bM eM nM am) : Met l y_ER_passMonitors w_ER_passMonitors ({ frames := 3, cells := 0, slots := 0, locals := 66 }) (va_Pc [.ref x0, .int cs, .int ts] (Pw G sz ([(x0, .inr (0, [.ref x1, .ref x2, .ref x3, .ref x4, .int cyc])), (x1, .inr (1, [.int mM, .ref eM, .int (nI nM)])), (x2, .inr (1, [.int mC, .ref eC, .int (nI nC)])), (x3, .inr (2, [.int li, .long me, .long mi])), (x4, .inr (3, [.ref x5, .int b.1])), (x5, .inl (G.2 1, 41, .inl b.2))] ++ tlW bM bC nM am mon nC ac cod))) (QW G (some (.int (cntM mon cs nM))) ([(x0, .inr (0, [.ref x1, .ref x2, .ref x3, .ref x4, .int cyc])), (x1, .inr (1, [.int mM, .ref eM, .int (nI nM)])), (x2, .inr (1, [.int mC, .ref eC, .int (nI nC)])), (x3, .inr (2, [.int li, .long me, .long mi])), (x4, .inr (3, [.ref x5, .int b.1])), (x5, .inl (G.2 1, 41, .inl b.2))] ++ tlW bM bC nM am mon nC ac cod) ([(x0, .inr (0, [.ref x1, .ref x2, .ref x3, .ref x4, .int cyc])), (x1, .inr (1, [.int mM, .ref eM, .int (nI nM)])), (x2, .inr (1, [.int mC, .ref eC, .int (nI nC)])), (x3, .inr (2, [.int li, .long me, .long mi])), (x4, .inr (3, [.ref x5, .int b.1])), (x5, .inl (G.2 1, 41, .inl b.2))] ++ tlW bM bC nM am (upto (gEc cs ts) mon nM) nC ac cod) sz) 0 0 (va_A ([(x0, .inr (0, [.ref x1, .ref x2, .ref x3, .ref x4, .int cyc])), (x1, .inr (1, [.int mM, .ref eM, .int (nI nM)])), (x2, .inr (1, [.int mC, .ref eC, .int (nI nC)])), (x3, .inr (2, [.int li, .long me, .long mi])), (x4, .inr (3, [.ref x5, .int b.1])), (x5, .inl (G.2 1, 41, .inl b.2))] ++ tlW bM bC nM am mon nC ac cod) sz) := by
  refine Met.ofW (cc := b_ER_passMonitors) (maxL := 5) (ret := (some .int)) (by decide) rfl ?_
  intro p e s m args below meth c s₁ B hml hv
  obtain ⟨rfl, hsz, hP, hGK, hD0⟩ := hv
  have hx := B.exec
  have hb := B.bytes
  have hr := B.returns
  have hts := atoms_spec (ws := w_ER_passMonitors) B.pre
  have hT : ∀ w ∈ lwG, w.before _ s = true := fun w h => hts w (List.mem_cons_of_mem _ h)
  have hown : s.vm.findClass R_ER = some m.cls := findClass_of_methodNamed B.named
  have hlocks := B.notSynchronized
  have hK := hGK.1
  have hN := hGK.2
  subst hsz
  have hD := hD0.self (sz := s.heap.size)
  generalize hAe : va_A ([(x0, .inr (0, [.ref x1, .ref x2, .ref x3, .ref x4, .int cyc])), (x1, .inr (1, [.int mM, .ref eM, .int (nI nM)])), (x2, .inr (1, [.int mC, .ref eC, .int (nI nC)])), (x3, .inr (2, [.int li, .long me, .long mi])), (x4, .inr (3, [.ref x5, .int b.1])), (x5, .inl (G.2 1, 41, .inl b.2))] ++ tlW bM bC nM am mon nC ac cod) s.heap.size = A at hD ⊢
  have hA : ∀ q : Nat, s.heap.size ≤ q → A q := fun q h => by rw [← hAe]; exact Or.inr h
  have hS : va_S A s.heap s.heap [] := va_S.rf
  have hP : va_P G.1 vwCl ([(x0, .inr (0, [.ref x1, .ref x2, .ref x3, .ref x4, .int cyc])), (x1, .inr (1, [.int mM, .ref eM, .int (nI nM)])), (x2, .inr (1, [.int mC, .ref eC, .int (nI nC)])), (x3, .inr (2, [.int li, .long me, .long mi])), (x4, .inr (3, [.ref x5, .int b.1])), (x5, .inl (G.2 1, 41, .inl b.2))] ++ tlW bM bC nM am mon nC ac cod) s.heap := hP
  have hl := lv_entry ([.ref x0, .int cs, .int ts]) (n := 5) (Nat.le_of_ble_eq_true rfl)
  rw [lg_entry_eq]
  generalize (lg_sl ([.ref x0, .int cs, .int ts]) ++ List.replicate (5 - (lg_sl ([.ref x0, .int cs, .int ts])).length) Slot.unset).toArray = ls at hl ⊢
  have hl : lv_has ls 5 [(0, .ref x0), (1, .int cs), (2, .int ts)] := hl
  refine lv_iconst (v := 0) hx hb d_ER_passMonitors_0 (by decide) ?_
  refine lv_istore_n (lv' := [(3, .int 0), (0, .ref x0), (1, .int cs), (2, .int ts)]) hx hb d_ER_passMonitors_1 rfl hl (by decide) rfl (fun ls hl => ?_)
  refine lv_iconst (v := 0) hx hb d_ER_passMonitors_2 (by decide) ?_
  refine lv_istore (lv' := [(4, .int 0), (3, .int 0), (0, .ref x0), (1, .int cs), (2, .int ts)]) hx hb d_ER_passMonitors_3 hl (by decide) rfl (fun ls hl => ?_)
  refine bx_loop (σ := Nat × Int32) (fun q H locs ls => q.1 ≤ nM ∧ q.2 = cntM mon cs q.1 ∧ va_P G.1 vwCl ([(x0, .inr (0, [.ref x1, .ref x2, .ref x3, .ref x4, .int cyc])), (x1, .inr (1, [.int mM, .ref eM, .int (nI nM)])), (x2, .inr (1, [.int mC, .ref eC, .int (nI nC)])), (x3, .inr (2, [.int li, .long me, .long mi])), (x4, .inr (3, [.ref x5, .int b.1])), (x5, .inl (G.2 1, 41, .inl b.2))] ++ tlW bM bC nM am (upto (gEc cs ts) mon q.1) nC ac cod) H ∧ va_D A ([(x0, .inr (0, [.ref x1, .ref x2, .ref x3, .ref x4, .int cyc])), (x1, .inr (1, [.int mM, .ref eM, .int (nI nM)])), (x2, .inr (1, [.int mC, .ref eC, .int (nI nC)])), (x3, .inr (2, [.int li, .long me, .long mi])), (x4, .inr (3, [.ref x5, .int b.1])), (x5, .inl (G.2 1, 41, .inl b.2))] ++ tlW bM bC nM am (upto (gEc cs ts) mon q.1) nC ac cod) ∧ va_S A s.heap H locs ∧ lv_has ls 5 [(0, .ref x0), (1, .int cs), (2, .int ts), (3, .int q.2), (4, .int (nI q.1))]) (fun q => nM - q.1) _ (fun q H locs ls hI ih => ?_) (0, 0) ls ⟨Nat.zero_le _, rfl, by rw [upto_zero]; exact hP, by rw [upto_zero]; exact hD, hS, lv_sub hl [2, 3, 4, 1, 0] rfl⟩
  obtain ⟨k, ac1⟩ := q
  obtain ⟨hkn, hac, hP, hD, hS, hl⟩ := hI
  have hkn : k ≤ nM := hkn
  have hac : ac1 = cntM mon cs k := hac
  have hP : va_P G.1 vwCl ([(x0, .inr (0, [.ref x1, .ref x2, .ref x3, .ref x4, .int cyc])), (x1, .inr (1, [.int mM, .ref eM, .int (nI nM)])), (x2, .inr (1, [.int mC, .ref eC, .int (nI nC)])), (x3, .inr (2, [.int li, .long me, .long mi])), (x4, .inr (3, [.ref x5, .int b.1])), (x5, .inl (G.2 1, 41, .inl b.2))] ++ tlW bM bC nM am (upto (gEc cs ts) mon k) nC ac cod) H := hP
  have hD : va_D A ([(x0, .inr (0, [.ref x1, .ref x2, .ref x3, .ref x4, .int cyc])), (x1, .inr (1, [.int mM, .ref eM, .int (nI nM)])), (x2, .inr (1, [.int mC, .ref eC, .int (nI nC)])), (x3, .inr (2, [.int li, .long me, .long mi])), (x4, .inr (3, [.ref x5, .int b.1])), (x5, .inl (G.2 1, 41, .inl b.2))] ++ tlW bM bC nM am (upto (gEc cs ts) mon k) nC ac cod) := hD
  have hl : lv_has ls 5 [(0, .ref x0), (1, .int cs), (2, .int ts), (3, .int ac1), (4, .int (nI k))] := hl
  refine lv_iload hx hb d_ER_passMonitors_5 (lv_at hl 4 rfl) ?_
  refine lv_aload_n hx hb d_ER_passMonitors_7 rfl (lv_at hl 0 rfl) ?_
  refine va_get (D := G.1) (ci := 0) (v := .ref x1) (C := R_ER) (T := T_ER) (N := 5) hx hb hT in_ER hown hK hP 0 rfl rfl 0 (by decide) (hT _ wd_134) (fun _ h9 => h9) rfl d_ER_passMonitors_8 ?_
  have hPc := hP.sub (ws' := [(x1, .inr (1, [.int mM, .ref eM, .int (nI nM)]))]) [1] rfl
  refine bx_callV (W.runV (As := []) (rest := [.int (nI k)]) ⟨hx, hb, hml, hown, hts⟩ (c_size l G x1 eM mM (nI nM)) ⟨(callB_of 0 hts (gi_all wd_160) rfl rfl rfl (hT _ wd_48) (hT _ wd_157) (by decide +kernel) ⟨Nat.le_of_ble_eq_true rfl, Nat.le_of_ble_eq_true rfl⟩), (hT _ wd_158), (hT _ wd_159)⟩ (pvR hPc hGK (va_recv hK hPc (ci := 1) (q0 := 0) rfl rfl)) rfl rfl hl.1 rfl (lv_room (Nat.le_of_ble_eq_true rfl)) d_ER_passMonitors_11 ⟨Nat.le_of_ble_eq_true rfl, Nat.le_of_ble_eq_true rfl⟩) ?_
  refine lv_icmp_ge (tgt := 51) hx hb d_ER_passMonitors_14 (by decide) (fun c_14 => ?_) (fun c_14 => ?_)
  · have hge : nM ≤ k := (nI_leI (by have := hM.1; omega) (by have := hM.1; omega)).mp c_14
    have hke : k = nM := by omega
    refine lv_iload_n hx hb d_ER_passMonitors_51 rfl (lv_at hl 3 rfl) ?_
    rw [hke] at hP hD
    have hq9 : (.int (cntM mon cs nM)) = (.int ac1 : Value) := by rw [hac, hke]
    exact W.iret (v := ac1) hx hb hr (fun t ht hW => ⟨⟨by rw [hq9], by rw [ht]; exact hP, by rw [hAe]; exact hD⟩, by rw [hAe]; exact hS.F ht⟩) hS.2.2 d_ER_passMonitors_52
  · have hk : k < nM := Nat.not_le.mp (fun z => c_14 (nI_le z (by have := hM.1; omega)))
    refine lv_aload_n hx hb d_ER_passMonitors_17 rfl (lv_at hl 0 rfl) ?_
    refine va_get (D := G.1) (ci := 0) (v := .ref x1) (C := R_ER) (T := T_ER) (N := 5) hx hb hT in_ER hown hK hP 0 rfl rfl 0 (by decide) (hT _ wd_134) (fun _ h9 => h9) rfl d_ER_passMonitors_18 ?_
    refine lv_iload hx hb d_ER_passMonitors_21 (lv_at hl 4 rfl) ?_
    obtain ⟨cap, fa, hbk, hcap, hcap2, hfa⟩ := hM.some hk
    have hPc : va_P G.1 vwCl [(x1, .inr (1, [.int mM, .ref eM, .int (nI nM)])), (eM, .inl (G.2 0, cap, .inr (.inr (.inr (.inr fa)))))] H := (hP.sub (ws' := [(x1, .inr (1, [.int mM, .ref eM, .int (nI nM)]))]) [1] rfl).app (bx_sub hP (fun q9 hq9 => tl_inM (by rw [hbk]; exact hq9)))
    refine bx_callV (W.runV (As := [.int (nI k)]) (rest := []) ⟨hx, hb, hml, hown, hts⟩ (c_get l G x1 eM mM nM k cap fa (am k) hk hcap (by omega) (hfa k hk)) ⟨(callB_of 1 hts (gi_all wd_258) rfl rfl rfl (hT _ wd_48) (hT _ wd_255) (by decide +kernel) ⟨Nat.le_of_ble_eq_true rfl, Nat.le_of_ble_eq_true rfl⟩), (hT _ wd_256), (hT _ wd_257)⟩ (pvR hPc hGK (va_recv hK hPc (ci := 1) (q0 := 0) rfl rfl)) rfl rfl hl.1 rfl (lv_room (Nat.le_of_ble_eq_true rfl)) d_ER_passMonitors_23 ⟨Nat.le_of_ble_eq_true rfl, Nat.le_of_ble_eq_true rfl⟩) ?_
    refine va_castS hx hb hown (hT _ wd_161) (hK.1 4 _ rfl).2 (va_recv hK hP (ci := 4) rfl (tl_mon_u hk)) d_ER_passMonitors_26 ?_
    refine lv_iload_n hx hb d_ER_passMonitors_29 rfl (lv_at hl 1 rfl) ?_
    refine lv_iload_n hx hb d_ER_passMonitors_30 rfl (lv_at hl 2 rfl) ?_
    refine lv_iload hx hb d_ER_passMonitors_31 (lv_at hl 4 rfl) ?_
    refine bx_callV (W.runS (As := [.int ts, .int (nI k)]) (rest := [.int cs, .ref (am k)]) ⟨hx, hb, hml, hown, hts⟩ (c_isBitSet l G ts (nI k)) ⟨(callB_of 2 hts (gi_all wd_271) rfl rfl rfl (hT _ wd_45) (hT _ wd_269) (by decide +kernel) ⟨Nat.le_of_ble_eq_true rfl, Nat.le_of_ble_eq_true rfl⟩), (hT _ wd_270)⟩ (psR bx_nil hGK) rfl rfl hl.1 rfl (lv_room (Nat.le_of_ble_eq_true rfl)) d_ER_passMonitors_33 ⟨Nat.le_of_ble_eq_true rfl, Nat.le_of_ble_eq_true rfl⟩) ?_
    have hPc : va_P G.1 vwCl [((am k), .inr (4, [.int ((mon k).1), .int ((mon k).2.1), .int ((mon k).2.2.1), .int ((mon k).2.2.2.1), .int ((mon k).2.2.2.2.1), .int ((mon k).2.2.2.2.2)]))] H := bx_one hP (tl_mon_u hk)
    have hDc : va_D A [((am k), .inr (4, [.int ((mon k).1), .int ((mon k).2.1), .int ((mon k).2.2.1), .int ((mon k).2.2.2.1), .int ((mon k).2.2.2.2.1), .int ((mon k).2.2.2.2.2)]))] := bx_d1 (hD.2 _ _ (tl_mon_u hk))
    refine bx_callKr [_] (va_runVN (As := [.int cs, .int (bitF ts (nI k))]) (rest := []) ⟨hx, hb, hml, hown, hts⟩ (c_endCycle l G H.size (am k) ((mon k).1) ((mon k).2.1) ((mon k).2.2.1) ((mon k).2.2.2.1) ((mon k).2.2.2.2.1) ((mon k).2.2.2.2.2) cs (bitF ts (nI k))) ⟨(va_cnB 2 hts (gi_all wd_275) rfl rfl rfl (hN (.methodLinkNest "EmissionRows" 189 ⟨"EmissionRows$Monitor", "endCycle", "(IZ)Z"⟩ "EmissionRows") nw_272) (hT _ wd_52) (by decide +kernel) ⟨Nat.le_of_ble_eq_true rfl, Nat.le_of_ble_eq_true rfl⟩), (hT _ wd_274), (hT _ wd_4)⟩ (pvW hPc hGK hDc (va_recv hK hPc (ci := 4) (q0 := 0) rfl rfl)) rfl rfl hl.1 rfl (lv_room (Nat.le_of_ble_eq_true rfl)) d_ER_passMonitors_36 ⟨Nat.le_of_ble_eq_true rfl, Nat.le_of_ble_eq_true rfl⟩) hP hD hS hA bx_nd1 (congrArg (fun z => [z]) (tl_mon_u hk)) rfl (fun H locs hP hD hS => ?_)
    have hP : va_P G.1 vwCl ([(x0, .inr (0, [.ref x1, .ref x2, .ref x3, .ref x4, .int cyc])), (x1, .inr (1, [.int mM, .ref eM, .int (nI nM)])), (x2, .inr (1, [.int mC, .ref eC, .int (nI nC)])), (x3, .inr (2, [.int li, .long me, .long mi])), (x4, .inr (3, [.ref x5, .int b.1])), (x5, .inl (G.2 1, 41, .inl b.2))] ++ tlW bM bC nM am (upto (gEc cs ts) mon (k + 1)) nC ac cod) H := by rw [← upto_succ, ← tl_mon_set hk]; exact hP
    have hD : va_D A ([(x0, .inr (0, [.ref x1, .ref x2, .ref x3, .ref x4, .int cyc])), (x1, .inr (1, [.int mM, .ref eM, .int (nI nM)])), (x2, .inr (1, [.int mC, .ref eC, .int (nI nC)])), (x3, .inr (2, [.int li, .long me, .long mi])), (x4, .inr (3, [.ref x5, .int b.1])), (x5, .inl (G.2 1, 41, .inl b.2))] ++ tlW bM bC nM am (upto (gEc cs ts) mon (k + 1)) nC ac cod) := by rw [← upto_succ, ← tl_mon_set hk]; exact hD
    refine lv_if_eq (tgt := 45) hx hb d_ER_passMonitors_39 (by decide) (fun c_39 => ?_) (fun c_39 => ?_)
    · refine lv_iinc (v := nI (k + 1)) (lv' := [(4, .int (nI (k + 1))), (0, .ref x0), (1, .int cs), (2, .int ts), (3, .int ac1)]) hx hb d_ER_passMonitors_45 hl (k := 4) rfl (nI_succ _).symm (by decide) rfl (fun ls hl => ?_)
      refine lv_goto (tgt := 5) hx hb d_ER_passMonitors_48 (by decide) ?_
      exact ih ((k + 1), ac1) _ _ _ ⟨hk, by simp [cntM, hcM, hac, c_14, c_39], hP, hD, hS, lv_sub hl [1, 2, 3, 4, 0] rfl⟩ (by show nM - (k + 1) < nM - k; omega)
    · refine lv_iinc (v := ac1 + 1) (lv' := [(3, .int (ac1 + 1)), (0, .ref x0), (1, .int cs), (2, .int ts), (4, .int (nI k))]) hx hb d_ER_passMonitors_42 hl (k := 3) rfl rfl (by decide) rfl (fun ls hl => ?_)
      refine lv_iinc (v := nI (k + 1)) (lv' := [(4, .int (nI (k + 1))), (3, .int (ac1 + 1)), (0, .ref x0), (1, .int cs), (2, .int ts)]) hx hb d_ER_passMonitors_45 hl (k := 4) rfl (nI_succ _).symm (by decide) rfl (fun ls hl => ?_)
      refine lv_goto (tgt := 5) hx hb d_ER_passMonitors_48 (by decide) ?_
      exact ih ((k + 1), ac1 + 1) _ _ _ ⟨hk, by simp [cntM, hcM, hac, c_14, c_39], hP, hD, hS, lv_sub hl [2, 3, 4, 1, 0] rfl⟩ (by show nM - (k + 1) < nM - k; omega)
set_option maxHeartbeats 4000000 in
set_option maxRecDepth 100000 in
theorem c_passCodes (l : Launch) (G : GG) (sz : Nat) (x0 : Nat) (x1 : Nat) (x2 : Nat) (x3 : Nat) (x4 : Nat) (x5 : Nat) (cyc : Int32) (mM : Int32) (mC : Int32) (li : Int32) (eM : Nat) (eC : Nat) (nM : Nat) (nC : Nat) (me : Int64) (mi : Int64) (b : OB) (bM : va_W) (bC : va_W) (am : Nat → Nat) (ac : Nat → Nat) (mon : Nat → Mon) (cod : Nat → Cod) (cs : Int32) (hC : LB G bC eC nC ac) : Met l y_ER_passCodes w_ER_passCodes ({ frames := 3, cells := 0, slots := 0, locals := 64 }) (va_Pc [.ref x0, .int cs] (Pw G sz ([(x0, .inr (0, [.ref x1, .ref x2, .ref x3, .ref x4, .int cyc])), (x1, .inr (1, [.int mM, .ref eM, .int (nI nM)])), (x2, .inr (1, [.int mC, .ref eC, .int (nI nC)])), (x3, .inr (2, [.int li, .long me, .long mi])), (x4, .inr (3, [.ref x5, .int b.1])), (x5, .inl (G.2 1, 41, .inl b.2))] ++ tlW bM bC nM am mon nC ac cod))) (QW G none ([(x0, .inr (0, [.ref x1, .ref x2, .ref x3, .ref x4, .int cyc])), (x1, .inr (1, [.int mM, .ref eM, .int (nI nM)])), (x2, .inr (1, [.int mC, .ref eC, .int (nI nC)])), (x3, .inr (2, [.int li, .long me, .long mi])), (x4, .inr (3, [.ref x5, .int b.1])), (x5, .inl (G.2 1, 41, .inl b.2))] ++ tlW bM bC nM am mon nC ac cod) ([(x0, .inr (0, [.ref x1, .ref x2, .ref x3, .ref x4, .int cyc])), (x1, .inr (1, [.int mM, .ref eM, .int (nI nM)])), (x2, .inr (1, [.int mC, .ref eC, .int (nI nC)])), (x3, .inr (2, [.int li, .long me, .long mi])), (x4, .inr (3, [.ref x5, .int b.1])), (x5, .inl (G.2 1, 41, .inl b.2))] ++ tlW bM bC nM am mon nC ac (upto (gCy cyc cs) cod nC)) sz) 0 0 (va_A ([(x0, .inr (0, [.ref x1, .ref x2, .ref x3, .ref x4, .int cyc])), (x1, .inr (1, [.int mM, .ref eM, .int (nI nM)])), (x2, .inr (1, [.int mC, .ref eC, .int (nI nC)])), (x3, .inr (2, [.int li, .long me, .long mi])), (x4, .inr (3, [.ref x5, .int b.1])), (x5, .inl (G.2 1, 41, .inl b.2))] ++ tlW bM bC nM am mon nC ac cod) sz) := by
  refine Met.ofW (cc := b_ER_passCodes) (maxL := 4) (ret := none) (by decide) rfl ?_
  intro p e s m args below meth c s₁ B hml hv
  obtain ⟨rfl, hsz, hP, hGK, hD0⟩ := hv
  have hx := B.exec
  have hb := B.bytes
  have hr := B.returns
  have hts := atoms_spec (ws := w_ER_passCodes) B.pre
  have hT : ∀ w ∈ lwG, w.before _ s = true := fun w h => hts w (List.mem_cons_of_mem _ h)
  have hown : s.vm.findClass R_ER = some m.cls := findClass_of_methodNamed B.named
  have hlocks := B.notSynchronized
  have hK := hGK.1
  have hN := hGK.2
  subst hsz
  have hD := hD0.self (sz := s.heap.size)
  generalize hAe : va_A ([(x0, .inr (0, [.ref x1, .ref x2, .ref x3, .ref x4, .int cyc])), (x1, .inr (1, [.int mM, .ref eM, .int (nI nM)])), (x2, .inr (1, [.int mC, .ref eC, .int (nI nC)])), (x3, .inr (2, [.int li, .long me, .long mi])), (x4, .inr (3, [.ref x5, .int b.1])), (x5, .inl (G.2 1, 41, .inl b.2))] ++ tlW bM bC nM am mon nC ac cod) s.heap.size = A at hD ⊢
  have hA : ∀ q : Nat, s.heap.size ≤ q → A q := fun q h => by rw [← hAe]; exact Or.inr h
  have hS : va_S A s.heap s.heap [] := va_S.rf
  have hP : va_P G.1 vwCl ([(x0, .inr (0, [.ref x1, .ref x2, .ref x3, .ref x4, .int cyc])), (x1, .inr (1, [.int mM, .ref eM, .int (nI nM)])), (x2, .inr (1, [.int mC, .ref eC, .int (nI nC)])), (x3, .inr (2, [.int li, .long me, .long mi])), (x4, .inr (3, [.ref x5, .int b.1])), (x5, .inl (G.2 1, 41, .inl b.2))] ++ tlW bM bC nM am mon nC ac cod) s.heap := hP
  have hl := lv_entry ([.ref x0, .int cs]) (n := 4) (Nat.le_of_ble_eq_true rfl)
  rw [lg_entry_eq]
  generalize (lg_sl ([.ref x0, .int cs]) ++ List.replicate (4 - (lg_sl ([.ref x0, .int cs])).length) Slot.unset).toArray = ls at hl ⊢
  have hl : lv_has ls 4 [(0, .ref x0), (1, .int cs)] := hl
  refine lv_iconst (v := 0) hx hb d_ER_passCodes_0 (by decide) ?_
  refine lv_istore_n (lv' := [(2, .int 0), (0, .ref x0), (1, .int cs)]) hx hb d_ER_passCodes_1 rfl hl (by decide) rfl (fun ls hl => ?_)
  refine bx_loop (σ := Nat) (fun q H locs ls => q ≤ nC ∧ va_P G.1 vwCl ([(x0, .inr (0, [.ref x1, .ref x2, .ref x3, .ref x4, .int cyc])), (x1, .inr (1, [.int mM, .ref eM, .int (nI nM)])), (x2, .inr (1, [.int mC, .ref eC, .int (nI nC)])), (x3, .inr (2, [.int li, .long me, .long mi])), (x4, .inr (3, [.ref x5, .int b.1])), (x5, .inl (G.2 1, 41, .inl b.2))] ++ tlW bM bC nM am mon nC ac (upto (gCy cyc cs) cod q)) H ∧ va_D A ([(x0, .inr (0, [.ref x1, .ref x2, .ref x3, .ref x4, .int cyc])), (x1, .inr (1, [.int mM, .ref eM, .int (nI nM)])), (x2, .inr (1, [.int mC, .ref eC, .int (nI nC)])), (x3, .inr (2, [.int li, .long me, .long mi])), (x4, .inr (3, [.ref x5, .int b.1])), (x5, .inl (G.2 1, 41, .inl b.2))] ++ tlW bM bC nM am mon nC ac (upto (gCy cyc cs) cod q)) ∧ va_S A s.heap H locs ∧ lv_has ls 4 [(0, .ref x0), (1, .int cs), (2, .int (nI q))]) (fun q => nC - q) _ (fun q H locs ls hI ih => ?_) 0 ls ⟨Nat.zero_le _, by rw [upto_zero]; exact hP, by rw [upto_zero]; exact hD, hS, lv_sub hl [1, 2, 0] rfl⟩
  revert hI ih; generalize q = k; intro hI ih
  obtain ⟨hkn, hP, hD, hS, hl⟩ := hI
  have hkn : k ≤ nC := hkn
  have hP : va_P G.1 vwCl ([(x0, .inr (0, [.ref x1, .ref x2, .ref x3, .ref x4, .int cyc])), (x1, .inr (1, [.int mM, .ref eM, .int (nI nM)])), (x2, .inr (1, [.int mC, .ref eC, .int (nI nC)])), (x3, .inr (2, [.int li, .long me, .long mi])), (x4, .inr (3, [.ref x5, .int b.1])), (x5, .inl (G.2 1, 41, .inl b.2))] ++ tlW bM bC nM am mon nC ac (upto (gCy cyc cs) cod k)) H := hP
  have hD : va_D A ([(x0, .inr (0, [.ref x1, .ref x2, .ref x3, .ref x4, .int cyc])), (x1, .inr (1, [.int mM, .ref eM, .int (nI nM)])), (x2, .inr (1, [.int mC, .ref eC, .int (nI nC)])), (x3, .inr (2, [.int li, .long me, .long mi])), (x4, .inr (3, [.ref x5, .int b.1])), (x5, .inl (G.2 1, 41, .inl b.2))] ++ tlW bM bC nM am mon nC ac (upto (gCy cyc cs) cod k)) := hD
  have hl : lv_has ls 4 [(0, .ref x0), (1, .int cs), (2, .int (nI k))] := hl
  refine lv_iload_n hx hb d_ER_passCodes_2 rfl (lv_at hl 2 rfl) ?_
  refine lv_aload_n hx hb d_ER_passCodes_3 rfl (lv_at hl 0 rfl) ?_
  refine va_get (D := G.1) (ci := 0) (v := .ref x2) (C := R_ER) (T := T_ER) (N := 5) hx hb hT in_ER hown hK hP 0 rfl rfl 1 (by decide) (hT _ wd_135) (fun _ h9 => h9) rfl d_ER_passCodes_4 ?_
  have hPc := hP.sub (ws' := [(x2, .inr (1, [.int mC, .ref eC, .int (nI nC)]))]) [2] rfl
  refine bx_callV (W.runV (As := []) (rest := [.int (nI k)]) ⟨hx, hb, hml, hown, hts⟩ (c_size l G x2 eC mC (nI nC)) ⟨(callB_of 0 hts (gi_all wd_160) rfl rfl rfl (hT _ wd_48) (hT _ wd_157) (by decide +kernel) ⟨Nat.le_of_ble_eq_true rfl, Nat.le_of_ble_eq_true rfl⟩), (hT _ wd_158), (hT _ wd_159)⟩ (pvR hPc hGK (va_recv hK hPc (ci := 1) (q0 := 0) rfl rfl)) rfl rfl hl.1 rfl (lv_room (Nat.le_of_ble_eq_true rfl)) d_ER_passCodes_7 ⟨Nat.le_of_ble_eq_true rfl, Nat.le_of_ble_eq_true rfl⟩) ?_
  refine lv_icmp_ge (tgt := 55) hx hb d_ER_passCodes_10 (by decide) (fun c_10 => ?_) (fun c_10 => ?_)
  · have hge : nC ≤ k := (nI_leI (by have := hC.1; omega) (by have := hC.1; omega)).mp c_10
    have hke : k = nC := by omega
    rw [hke] at hP hD
    exact W.vret hx hb hr (fun t ht hW => ⟨⟨rfl, by rw [ht]; exact hP, by rw [hAe]; exact hD⟩, by rw [hAe]; exact hS.F ht⟩) hS.2.2 d_ER_passCodes_55
  · have hk : k < nC := Nat.not_le.mp (fun z => c_10 (nI_le z (by have := hC.1; omega)))
    refine lv_aload_n hx hb d_ER_passCodes_13 rfl (lv_at hl 0 rfl) ?_
    refine va_get (D := G.1) (ci := 0) (v := .ref x2) (C := R_ER) (T := T_ER) (N := 5) hx hb hT in_ER hown hK hP 0 rfl rfl 1 (by decide) (hT _ wd_135) (fun _ h9 => h9) rfl d_ER_passCodes_14 ?_
    refine lv_iload_n hx hb d_ER_passCodes_17 rfl (lv_at hl 2 rfl) ?_
    obtain ⟨cap, fa, hbk, hcap, hcap2, hfa⟩ := hC.some hk
    have hPc : va_P G.1 vwCl [(x2, .inr (1, [.int mC, .ref eC, .int (nI nC)])), (eC, .inl (G.2 0, cap, .inr (.inr (.inr (.inr fa)))))] H := (hP.sub (ws' := [(x2, .inr (1, [.int mC, .ref eC, .int (nI nC)]))]) [2] rfl).app (bx_sub hP (fun q9 hq9 => tl_inC (by rw [hbk]; exact hq9)))
    refine bx_callV (W.runV (As := [.int (nI k)]) (rest := []) ⟨hx, hb, hml, hown, hts⟩ (c_get l G x2 eC mC nC k cap fa (ac k) hk hcap (by omega) (hfa k hk)) ⟨(callB_of 1 hts (gi_all wd_258) rfl rfl rfl (hT _ wd_48) (hT _ wd_255) (by decide +kernel) ⟨Nat.le_of_ble_eq_true rfl, Nat.le_of_ble_eq_true rfl⟩), (hT _ wd_256), (hT _ wd_257)⟩ (pvR hPc hGK (va_recv hK hPc (ci := 1) (q0 := 0) rfl rfl)) rfl rfl hl.1 rfl (lv_room (Nat.le_of_ble_eq_true rfl)) d_ER_passCodes_18 ⟨Nat.le_of_ble_eq_true rfl, Nat.le_of_ble_eq_true rfl⟩) ?_
    refine va_castS hx hb hown (hT _ wd_289) (hK.1 5 _ rfl).2 (va_recv hK hP (ci := 5) rfl (tl_cod_u hk)) d_ER_passCodes_21 ?_
    refine lv_astore_n (lv' := [(3, .ref (ac k)), (0, .ref x0), (1, .int cs), (2, .int (nI k))]) hx hb d_ER_passCodes_24 rfl hl (by decide) rfl (fun ls hl => ?_)
    refine lv_aload_n hx hb d_ER_passCodes_25 rfl (lv_at hl 0 rfl) ?_
    refine va_getN (D := G.1) (ci := 5) (v := .int ((cod k).2.1)) (C := R_COD) (T := T_COD) (N := 9) hx hb hT in_COD hown hK hP _ (tl_cod_u hk) rfl 1 (by decide) (va_Nw.use rfl (hN (.fieldLinkNest "EmissionRows" 104 "EmissionRows$Code" "on" "Z" "EmissionRows") nw_347)) (fun _ h9 => h9) rfl d_ER_passCodes_26 ?_
    refine lv_if_eq (tgt := 44) hx hb d_ER_passCodes_29 (by decide) (fun c_29 => ?_) (fun c_29 => ?_)
    · refine lv_aload_n hx hb d_ER_passCodes_44 rfl (lv_at hl 0 rfl) ?_
      refine lv_iload_n hx hb d_ER_passCodes_45 rfl (lv_at hl 2 rfl) ?_
      have hPc : va_P G.1 vwCl [((ac k), .inr (5, [.int ((cod k).1), .int ((cod k).2.1), .int ((cod k).2.2.1), .int ((cod k).2.2.2.1), .int ((cod k).2.2.2.2.1), .int ((cod k).2.2.2.2.2.1), .int ((cod k).2.2.2.2.2.2.1), .int ((cod k).2.2.2.2.2.2.2.1), .int ((cod k).2.2.2.2.2.2.2.2)]))] H := bx_one hP (tl_cod_u hk)
      have hDc : va_D A [((ac k), .inr (5, [.int ((cod k).1), .int ((cod k).2.1), .int ((cod k).2.2.1), .int ((cod k).2.2.2.1), .int ((cod k).2.2.2.2.1), .int ((cod k).2.2.2.2.2.1), .int ((cod k).2.2.2.2.2.2.1), .int ((cod k).2.2.2.2.2.2.2.1), .int ((cod k).2.2.2.2.2.2.2.2)]))] := bx_d1 (hD.2 _ _ (tl_cod_u hk))
      refine bx_callKv [_] (va_runVN (As := [.int cs]) (rest := []) ⟨hx, hb, hml, hown, hts⟩ (c_endCycleOff l G H.size (ac k) ((cod k).1) ((cod k).2.1) ((cod k).2.2.1) ((cod k).2.2.2.1) ((cod k).2.2.2.2.1) ((cod k).2.2.2.2.2.1) ((cod k).2.2.2.2.2.2.1) ((cod k).2.2.2.2.2.2.2.1) ((cod k).2.2.2.2.2.2.2.2) cs) ⟨(va_cnB 1 hts (gi_all wd_298) rfl rfl rfl (hN (.methodLinkNest "EmissionRows" 196 ⟨"EmissionRows$Code", "endCycleOff", "(I)V"⟩ "EmissionRows") nw_295) (hT _ wd_63) (by decide +kernel) ⟨Nat.le_of_ble_eq_true rfl, Nat.le_of_ble_eq_true rfl⟩), (hT _ wd_297), (hT _ wd_9)⟩ (pvW hPc hGK hDc (va_recv hK hPc (ci := 5) (q0 := 0) rfl rfl)) rfl rfl hl.1 rfl (lv_room (Nat.le_of_ble_eq_true rfl)) d_ER_passCodes_46 ⟨Nat.le_of_ble_eq_true rfl, Nat.le_of_ble_eq_true rfl⟩) hP hD hS hA bx_nd1 (congrArg (fun z => [z]) (tl_cod_u hk)) rfl (fun H locs hP hD hS => ?_)
      have hg9 : (gCy cyc cs) k (cod k) = codOff (cod k) cs := by simp [gCy, codCy, c_10, c_29]
      have hP : va_P G.1 vwCl ([(x0, .inr (0, [.ref x1, .ref x2, .ref x3, .ref x4, .int cyc])), (x1, .inr (1, [.int mM, .ref eM, .int (nI nM)])), (x2, .inr (1, [.int mC, .ref eC, .int (nI nC)])), (x3, .inr (2, [.int li, .long me, .long mi])), (x4, .inr (3, [.ref x5, .int b.1])), (x5, .inl (G.2 1, 41, .inl b.2))] ++ tlW bM bC nM am mon nC ac (upto (gCy cyc cs) cod (k + 1))) H := by rw [← upto_succ, hg9, ← tl_cod_set]; exact hP
      have hD : va_D A ([(x0, .inr (0, [.ref x1, .ref x2, .ref x3, .ref x4, .int cyc])), (x1, .inr (1, [.int mM, .ref eM, .int (nI nM)])), (x2, .inr (1, [.int mC, .ref eC, .int (nI nC)])), (x3, .inr (2, [.int li, .long me, .long mi])), (x4, .inr (3, [.ref x5, .int b.1])), (x5, .inl (G.2 1, 41, .inl b.2))] ++ tlW bM bC nM am mon nC ac (upto (gCy cyc cs) cod (k + 1))) := by rw [← upto_succ, hg9, ← tl_cod_set]; exact hD
      refine lv_iinc (v := nI (k + 1)) (lv' := [(2, .int (nI (k + 1))), (3, .ref (ac k)), (0, .ref x0), (1, .int cs)]) hx hb d_ER_passCodes_49 hl (k := 3) rfl (nI_succ _).symm (by decide) rfl (fun ls hl => ?_)
      refine lv_goto (tgt := 2) hx hb d_ER_passCodes_52 (by decide) ?_
      exact ih (k + 1) _ _ _ ⟨hk, hP, hD, hS, lv_sub hl [2, 3, 0] rfl⟩ (by show nC - (k + 1) < nC - k; omega)
    · refine lv_aload_n hx hb d_ER_passCodes_32 rfl (lv_at hl 0 rfl) ?_
      refine lv_aload_n hx hb d_ER_passCodes_33 rfl (lv_at hl 1 rfl) ?_
      refine va_get (D := G.1) (ci := 0) (v := .int cyc) (C := R_ER) (T := T_ER) (N := 5) hx hb hT in_ER hown hK hP 0 rfl rfl 4 (by decide) (hT _ wd_138) (fun _ h9 => h9) rfl d_ER_passCodes_34 ?_
      refine lv_iload_n hx hb d_ER_passCodes_37 rfl (lv_at hl 2 rfl) ?_
      have hPc : va_P G.1 vwCl [((ac k), .inr (5, [.int ((cod k).1), .int ((cod k).2.1), .int ((cod k).2.2.1), .int ((cod k).2.2.2.1), .int ((cod k).2.2.2.2.1), .int ((cod k).2.2.2.2.2.1), .int ((cod k).2.2.2.2.2.2.1), .int ((cod k).2.2.2.2.2.2.2.1), .int ((cod k).2.2.2.2.2.2.2.2)]))] H := bx_one hP (tl_cod_u hk)
      have hDc : va_D A [((ac k), .inr (5, [.int ((cod k).1), .int ((cod k).2.1), .int ((cod k).2.2.1), .int ((cod k).2.2.2.1), .int ((cod k).2.2.2.2.1), .int ((cod k).2.2.2.2.2.1), .int ((cod k).2.2.2.2.2.2.1), .int ((cod k).2.2.2.2.2.2.2.1), .int ((cod k).2.2.2.2.2.2.2.2)]))] := bx_d1 (hD.2 _ _ (tl_cod_u hk))
      refine bx_callKv [_] (va_runVN (As := [.int cyc, .int cs]) (rest := []) ⟨hx, hb, hml, hown, hts⟩ (c_endCycleOn l G H.size (ac k) ((cod k).1) ((cod k).2.1) ((cod k).2.2.1) ((cod k).2.2.2.1) ((cod k).2.2.2.2.1) ((cod k).2.2.2.2.2.1) ((cod k).2.2.2.2.2.2.1) ((cod k).2.2.2.2.2.2.2.1) ((cod k).2.2.2.2.2.2.2.2) cyc cs) ⟨(va_cnB 2 hts (gi_all wd_294) rfl rfl rfl (hN (.methodLinkNest "EmissionRows" 193 ⟨"EmissionRows$Code", "endCycleOn", "(II)V"⟩ "EmissionRows") nw_290) (hT _ wd_63) (by decide +kernel) ⟨Nat.le_of_ble_eq_true rfl, Nat.le_of_ble_eq_true rfl⟩), (hT _ wd_292), (hT _ wd_8)⟩ (pvW hPc hGK hDc (va_recv hK hPc (ci := 5) (q0 := 0) rfl rfl)) rfl rfl hl.1 rfl (lv_room (Nat.le_of_ble_eq_true rfl)) d_ER_passCodes_38 ⟨Nat.le_of_ble_eq_true rfl, Nat.le_of_ble_eq_true rfl⟩) hP hD hS hA bx_nd1 (congrArg (fun z => [z]) (tl_cod_u hk)) rfl (fun H locs hP hD hS => ?_)
      have hg9 : (gCy cyc cs) k (cod k) = codOn (cod k) cyc cs := by simp [gCy, codCy, c_10, c_29]
      have hP : va_P G.1 vwCl ([(x0, .inr (0, [.ref x1, .ref x2, .ref x3, .ref x4, .int cyc])), (x1, .inr (1, [.int mM, .ref eM, .int (nI nM)])), (x2, .inr (1, [.int mC, .ref eC, .int (nI nC)])), (x3, .inr (2, [.int li, .long me, .long mi])), (x4, .inr (3, [.ref x5, .int b.1])), (x5, .inl (G.2 1, 41, .inl b.2))] ++ tlW bM bC nM am mon nC ac (upto (gCy cyc cs) cod (k + 1))) H := by rw [← upto_succ, hg9, ← tl_cod_set]; exact hP
      have hD : va_D A ([(x0, .inr (0, [.ref x1, .ref x2, .ref x3, .ref x4, .int cyc])), (x1, .inr (1, [.int mM, .ref eM, .int (nI nM)])), (x2, .inr (1, [.int mC, .ref eC, .int (nI nC)])), (x3, .inr (2, [.int li, .long me, .long mi])), (x4, .inr (3, [.ref x5, .int b.1])), (x5, .inl (G.2 1, 41, .inl b.2))] ++ tlW bM bC nM am mon nC ac (upto (gCy cyc cs) cod (k + 1))) := by rw [← upto_succ, hg9, ← tl_cod_set]; exact hD
      refine lv_goto (tgt := 49) hx hb d_ER_passCodes_41 (by decide) ?_
      refine lv_iinc (v := nI (k + 1)) (lv' := [(2, .int (nI (k + 1))), (3, .ref (ac k)), (0, .ref x0), (1, .int cs)]) hx hb d_ER_passCodes_49 hl (k := 3) rfl (nI_succ _).symm (by decide) rfl (fun ls hl => ?_)
      refine lv_goto (tgt := 2) hx hb d_ER_passCodes_52 (by decide) ?_
      exact ih (k + 1) _ _ _ ⟨hk, hP, hD, hS, lv_sub hl [2, 3, 0] rfl⟩ (by show nC - (k + 1) < nC - k; omega)
