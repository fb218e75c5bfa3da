set_option maxHeartbeats 4000000 in
set_option maxRecDepth 100000 in
theorem c_drop (l : Launch) (G : GG) (sz : Nat) (h0 : Nat) (h1 : Nat) (b : OB)  : Met l y_OCT_drop w_OCT_drop ({ frames := 0, cells := 0, slots := 0, locals := 0 }) (va_Pc [.ref h0] (Pw G sz [(h0, .inr (3, [.ref h1, .int b.1])), (h1, .inl (G.2 1, 41, .inl b.2))])) (QW G none [(h0, .inr (3, [.ref h1, .int b.1])), (h1, .inl (G.2 1, 41, .inl b.2))] [(h0, .inr (3, [.ref h1, .int (((0 : Int32), b.2).1)])), (h1, .inl (G.2 1, 41, .inl (((0 : Int32), b.2).2)))] sz) 0 0 (va_A [(h0, .inr (3, [.ref h1, .int b.1])), (h1, .inl (G.2 1, 41, .inl b.2))] sz) := by
  refine Met.ofW (cc := b_OCT_drop) (maxL := 1) (ret := none) (by decide) rfl ?_
  intro p e s m args below meth c s₁ B hml hv
  obtain ⟨rfl, hsz, hP, hGK, hD0⟩ := hv
  have hx := B.exec
  have hb := B.bytes
  have hr := B.returns
  have hts := atoms_spec (ws := w_OCT_drop) B.pre
  have hT : ∀ w ∈ lwG, w.before _ s = true := fun w h => hts w (List.mem_cons_of_mem _ h)
  have hown : s.vm.findClass R_OCT = some m.cls := findClass_of_methodNamed B.named
  have hlocks := B.notSynchronized
  have hK := hGK.1
  have hN := hGK.2
  subst hsz
  have hD := hD0.self (sz := s.heap.size)
  generalize hAe : va_A [(h0, .inr (3, [.ref h1, .int b.1])), (h1, .inl (G.2 1, 41, .inl b.2))] s.heap.size = A at hD ⊢
  have hA : ∀ q : Nat, s.heap.size ≤ q → A q := fun q h => by rw [← hAe]; exact Or.inr h
  have hS : va_S A s.heap s.heap [] := va_S.rf
  have hP : va_P G.1 vwCl [(h0, .inr (3, [.ref h1, .int b.1])), (h1, .inl (G.2 1, 41, .inl b.2))] s.heap := hP
  have hl := lv_entry ([.ref h0]) (n := 1) (Nat.le_of_ble_eq_true rfl)
  rw [lg_entry_eq]
  generalize (lg_sl ([.ref h0]) ++ List.replicate (1 - (lg_sl ([.ref h0])).length) Slot.unset).toArray = ls at hl ⊢
  have hl : lv_has ls 1 [(0, .ref h0)] := hl
  refine lv_aload_n hx hb d_OCT_drop_0 rfl (lv_at hl 0 rfl) ?_
  refine lv_iconst (v := 0) hx hb d_OCT_drop_1 (by decide) ?_
  refine va_put (D := G.1) (ci := 3) (v := .int 0) (ty := .int) (C := R_OCT) (T := T_OCT) (N := 2) hx hb hT in_OCT t_OCT tok_OCT nok_OCT hown hK hP hD hS 0 rfl rfl 1 (by decide) (hT _ wd_126) (fun _ h9 => h9) rfl (by decide +kernel) rfl rfl (Nat.le_of_ble_eq_true rfl) d_OCT_drop_2 (fun H locs hP hD hS => ?_)
  have hP : va_P G.1 vwCl [(h0, .inr (3, [.ref h1, .int 0])), (h1, .inl (G.2 1, 41, .inl b.2))] H := hP
  have hD : va_D A [(h0, .inr (3, [.ref h1, .int 0])), (h1, .inl (G.2 1, 41, .inl b.2))] := hD
  have hw9 : ([(h0, .inr (3, [.ref h1, .int (((0 : Int32), b.2).1)])), (h1, .inl (G.2 1, 41, .inl (((0 : Int32), b.2).2)))] : va_W) = [(h0, .inr (3, [.ref h1, .int 0])), (h1, .inl (G.2 1, 41, .inl b.2))] := by rfl
  rw [← hw9] at hP hD
  exact W.vret hx hb hr (fun t ht hW => ⟨⟨rfl, by rw [ht]; exact hP, by rw [hAe]; exact hD⟩, by rw [hAe]; exact hS.F ht⟩) hS.2.2 d_OCT_drop_5
set_option maxHeartbeats 4000000 in
set_option maxRecDepth 100000 in
theorem c_oadd (l : Launch) (G : GG) (sz : Nat) (h0 : Nat) (h1 : Nat) (b : OB) (oc : Int32)  : Met l y_OCT_add w_OCT_add ({ frames := 0, cells := 0, slots := 0, locals := 0 }) (va_Pc [.ref h0, .int oc] (Pw G sz [(h0, .inr (3, [.ref h1, .int b.1])), (h1, .inl (G.2 1, 41, .inl b.2))])) (QW G none [(h0, .inr (3, [.ref h1, .int b.1])), (h1, .inl (G.2 1, 41, .inl b.2))] [(h0, .inr (3, [.ref h1, .int ((oAdd b oc).1)])), (h1, .inl (G.2 1, 41, .inl ((oAdd b oc).2)))] sz) 0 0 (va_A [(h0, .inr (3, [.ref h1, .int b.1])), (h1, .inl (G.2 1, 41, .inl b.2))] sz) := by
  refine Met.ofW (cc := b_OCT_add) (maxL := 2) (ret := none) (by decide) rfl ?_
  intro p e s m args below meth c s₁ B hml hv
  obtain ⟨rfl, hsz, hP, hGK, hD0⟩ := hv
  have hx := B.exec
  have hb := B.bytes
  have hr := B.returns
  have hts := atoms_spec (ws := w_OCT_add) B.pre
  have hT : ∀ w ∈ lwG, w.before _ s = true := fun w h => hts w (List.mem_cons_of_mem _ h)
  have hown : s.vm.findClass R_OCT = some m.cls := findClass_of_methodNamed B.named
  have hlocks := B.notSynchronized
  have hK := hGK.1
  have hN := hGK.2
  subst hsz
  have hD := hD0.self (sz := s.heap.size)
  generalize hAe : va_A [(h0, .inr (3, [.ref h1, .int b.1])), (h1, .inl (G.2 1, 41, .inl b.2))] s.heap.size = A at hD ⊢
  have hA : ∀ q : Nat, s.heap.size ≤ q → A q := fun q h => by rw [← hAe]; exact Or.inr h
  have hS : va_S A s.heap s.heap [] := va_S.rf
  have hP : va_P G.1 vwCl [(h0, .inr (3, [.ref h1, .int b.1])), (h1, .inl (G.2 1, 41, .inl b.2))] s.heap := hP
  have hl := lv_entry ([.ref h0, .int oc]) (n := 2) (Nat.le_of_ble_eq_true rfl)
  rw [lg_entry_eq]
  generalize (lg_sl ([.ref h0, .int oc]) ++ List.replicate (2 - (lg_sl ([.ref h0, .int oc])).length) Slot.unset).toArray = ls at hl ⊢
  have hl : lv_has ls 2 [(0, .ref h0), (1, .int oc)] := hl
  refine lv_aload_n hx hb d_OCT_add_0 rfl (lv_at hl 0 rfl) ?_
  refine va_get (D := G.1) (ci := 3) (v := .int b.1) (C := R_OCT) (T := T_OCT) (N := 2) hx hb hT in_OCT hown hK hP 0 rfl rfl 1 (by decide) (hT _ wd_126) (fun _ h9 => h9) rfl d_OCT_add_1 ?_
  refine lv_if_lt (tgt := 40) hx hb d_OCT_add_4 (by decide) (fun c_4 => ?_) (fun c_4 => ?_)
  · have hw9 : ([(h0, .inr (3, [.ref h1, .int ((oAdd b oc).1)])), (h1, .inl (G.2 1, 41, .inl ((oAdd b oc).2)))] : va_W) = [(h0, .inr (3, [.ref h1, .int b.1])), (h1, .inl (G.2 1, 41, .inl b.2))] := by first | (simp [oAdd, pk_vb, c_4]; done) | (simp_all [oAdd, pk_vb]; done)
    rw [← hw9] at hP hD
    exact W.vret hx hb hr (fun t ht hW => ⟨⟨rfl, by rw [ht]; exact hP, by rw [hAe]; exact hD⟩, by rw [hAe]; exact hS.F ht⟩) hS.2.2 d_OCT_add_40
  · refine lv_aload_n hx hb d_OCT_add_7 rfl (lv_at hl 0 rfl) ?_
    refine va_get (D := G.1) (ci := 3) (v := .int b.1) (C := R_OCT) (T := T_OCT) (N := 2) hx hb hT in_OCT hown hK hP 0 rfl rfl 1 (by decide) (hT _ wd_126) (fun _ h9 => h9) rfl d_OCT_add_8 ?_
    refine lv_aload_n hx hb d_OCT_add_11 rfl (lv_at hl 0 rfl) ?_
    refine va_get (D := G.1) (ci := 3) (v := .ref h1) (C := R_OCT) (T := T_OCT) (N := 2) hx hb hT in_OCT hown hK hP 0 rfl rfl 0 (by decide) (hT _ wd_124) (fun _ h9 => h9) rfl d_OCT_add_12 ?_
    refine va_alen (v := 41) hx hb hK hP 1 1 rfl rfl (by show Int32.ofNat 41 = 41; decide) d_OCT_add_15 ?_
    refine lv_icmp_ge (tgt := 40) hx hb d_OCT_add_16 (by decide) (fun c_16 => ?_) (fun c_16 => ?_)
    · have hw9 : ([(h0, .inr (3, [.ref h1, .int ((oAdd b oc).1)])), (h1, .inl (G.2 1, 41, .inl ((oAdd b oc).2)))] : va_W) = [(h0, .inr (3, [.ref h1, .int b.1])), (h1, .inl (G.2 1, 41, .inl b.2))] := by first | (simp [oAdd, pk_vb, c_4, c_16]; done) | (simp_all [oAdd, pk_vb]; done)
      rw [← hw9] at hP hD
      exact W.vret hx hb hr (fun t ht hW => ⟨⟨rfl, by rw [ht]; exact hP, by rw [hAe]; exact hD⟩, by rw [hAe]; exact hS.F ht⟩) hS.2.2 d_OCT_add_40
    · refine lv_aload_n hx hb d_OCT_add_19 rfl (lv_at hl 0 rfl) ?_
      refine va_get (D := G.1) (ci := 3) (v := .ref h1) (C := R_OCT) (T := T_OCT) (N := 2) hx hb hT in_OCT hown hK hP 0 rfl rfl 0 (by decide) (hT _ wd_124) (fun _ h9 => h9) rfl d_OCT_add_20 ?_
      refine lv_aload_n hx hb d_OCT_add_23 rfl (lv_at hl 0 rfl) ?_
      refine va_get (D := G.1) (ci := 3) (v := .int b.1) (C := R_OCT) (T := T_OCT) (N := 2) hx hb hT in_OCT hown hK hP 0 rfl rfl 1 (by decide) (hT _ wd_126) (fun _ h9 => h9) rfl d_OCT_add_24 ?_
      refine lv_iload_n hx hb d_OCT_add_27 rfl (lv_at hl 1 rfl) ?_
      refine lv_i2b (v := oc.toInt8.toInt32) hx hb d_OCT_add_28 rfl ?_
      refine va_bast hx hb hK hP hD hS 1 1 rfl rfl (in41 c_4 c_16) d_OCT_add_29 (fun H locs hP hD hS => ?_)
      have hP : va_P G.1 vwCl [(h0, .inr (3, [.ref h1, .int b.1])), (h1, .inl (G.2 1, 41, .inl (upd b.2 b.1.toNatClampNeg (vp_nar .byte oc.toInt8.toInt32))))] H := hP
      have hD : va_D A [(h0, .inr (3, [.ref h1, .int b.1])), (h1, .inl (G.2 1, 41, .inl (upd b.2 b.1.toNatClampNeg (vp_nar .byte oc.toInt8.toInt32))))] := hD
      refine lv_aload_n hx hb d_OCT_add_30 rfl (lv_at hl 0 rfl) ?_
      refine lv_dup hx hb d_OCT_add_31 rfl ?_
      refine va_get (D := G.1) (ci := 3) (v := .int b.1) (C := R_OCT) (T := T_OCT) (N := 2) hx hb hT in_OCT hown hK hP 0 rfl rfl 1 (by decide) (hT _ wd_126) (fun _ h9 => h9) rfl d_OCT_add_32 ?_
      refine lv_iconst (v := 1) hx hb d_OCT_add_35 (by decide) ?_
      refine lv_iadd hx hb d_OCT_add_36 ?_
      refine va_put (D := G.1) (ci := 3) (v := .int (b.1 + 1)) (ty := .int) (C := R_OCT) (T := T_OCT) (N := 2) hx hb hT in_OCT t_OCT tok_OCT nok_OCT hown hK hP hD hS 0 rfl rfl 1 (by decide) (hT _ wd_126) (fun _ h9 => h9) rfl (by decide +kernel) rfl rfl (Nat.le_of_ble_eq_true rfl) d_OCT_add_37 (fun H locs hP hD hS => ?_)
      have hP : va_P G.1 vwCl [(h0, .inr (3, [.ref h1, .int (b.1 + 1)])), (h1, .inl (G.2 1, 41, .inl (upd b.2 b.1.toNatClampNeg (vp_nar .byte oc.toInt8.toInt32))))] H := hP
      have hD : va_D A [(h0, .inr (3, [.ref h1, .int (b.1 + 1)])), (h1, .inl (G.2 1, 41, .inl (upd b.2 b.1.toNatClampNeg (vp_nar .byte oc.toInt8.toInt32))))] := hD
      have hw9 : ([(h0, .inr (3, [.ref h1, .int ((oAdd b oc).1)])), (h1, .inl (G.2 1, 41, .inl ((oAdd b oc).2)))] : va_W) = [(h0, .inr (3, [.ref h1, .int (b.1 + 1)])), (h1, .inl (G.2 1, 41, .inl (upd b.2 b.1.toNatClampNeg (vp_nar .byte oc.toInt8.toInt32))))] := by first | (simp [oAdd, pk_vb, c_4, c_16]; done) | (simp_all [oAdd, pk_vb]; done)
      rw [← hw9] at hP hD
      exact W.vret hx hb hr (fun t ht hW => ⟨⟨rfl, by rw [ht]; exact hP, by rw [hAe]; exact hD⟩, by rw [hAe]; exact hS.F ht⟩) hS.2.2 d_OCT_add_40
set_option maxHeartbeats 4000000 in
set_option maxRecDepth 100000 in
theorem c_obegin (l : Launch) (G : GG) (sz : Nat) (h0 : Nat) (h1 : Nat) (b : OB) (md : Int32)  : Met l y_OCT_begin w_OCT_begin ({ frames := 1, cells := 0, slots := 0, locals := 21 }) (va_Pc [.ref h0, .int md] (Pw G sz [(h0, .inr (3, [.ref h1, .int b.1])), (h1, .inl (G.2 1, 41, .inl b.2))])) (QW G none [(h0, .inr (3, [.ref h1, .int b.1])), (h1, .inl (G.2 1, 41, .inl b.2))] [(h0, .inr (3, [.ref h1, .int ((oBeg b md).1)])), (h1, .inl (G.2 1, 41, .inl ((oBeg b md).2)))] sz) 0 0 (va_A [(h0, .inr (3, [.ref h1, .int b.1])), (h1, .inl (G.2 1, 41, .inl b.2))] sz) := by
  refine Met.ofW (cc := b_OCT_begin) (maxL := 2) (ret := none) (by decide) rfl ?_
  intro p e s m args below meth c s₁ B hml hv
  obtain ⟨rfl, hsz, hP, hGK, hD0⟩ := hv
  have hx := B.exec
  have hb := B.bytes
  have hr := B.returns
  have hts := atoms_spec (ws := w_OCT_begin) B.pre
  have hT : ∀ w ∈ lwG, w.before _ s = true := fun w h => hts w (List.mem_cons_of_mem _ h)
  have hown : s.vm.findClass R_OCT = some m.cls := findClass_of_methodNamed B.named
  have hlocks := B.notSynchronized
  have hK := hGK.1
  have hN := hGK.2
  subst hsz
  have hD := hD0.self (sz := s.heap.size)
  generalize hAe : va_A [(h0, .inr (3, [.ref h1, .int b.1])), (h1, .inl (G.2 1, 41, .inl b.2))] s.heap.size = A at hD ⊢
  have hA : ∀ q : Nat, s.heap.size ≤ q → A q := fun q h => by rw [← hAe]; exact Or.inr h
  have hS : va_S A s.heap s.heap [] := va_S.rf
  have hP : va_P G.1 vwCl [(h0, .inr (3, [.ref h1, .int b.1])), (h1, .inl (G.2 1, 41, .inl b.2))] s.heap := hP
  have hl := lv_entry ([.ref h0, .int md]) (n := 2) (Nat.le_of_ble_eq_true rfl)
  rw [lg_entry_eq]
  generalize (lg_sl ([.ref h0, .int md]) ++ List.replicate (2 - (lg_sl ([.ref h0, .int md])).length) Slot.unset).toArray = ls at hl ⊢
  have hl : lv_has ls 2 [(0, .ref h0), (1, .int md)] := hl
  refine lv_aload_n hx hb d_OCT_begin_0 rfl (lv_at hl 0 rfl) ?_
  refine lv_bipush (v := 64) hx hb d_OCT_begin_1 (by decide) ?_
  refine lv_iload_n hx hb d_OCT_begin_3 rfl (lv_at hl 1 rfl) ?_
  refine lv_iadd hx hb d_OCT_begin_4 ?_
  have hPc := hP.sub (ws' := [(h0, .inr (3, [.ref h1, .int b.1])), (h1, .inl (G.2 1, 41, .inl b.2))]) [0, 1] rfl
  have hDc := hD.sub (ws' := [(h0, .inr (3, [.ref h1, .int b.1])), (h1, .inl (G.2 1, 41, .inl b.2))]) [0, 1] (by decide) rfl
  refine bx_callKv [0, 1] (va_runV (As := [.int (64 + md)]) (rest := []) ⟨hx, hb, hml, hown, hts⟩ (c_oadd l G s.heap.size h0 h1 b (64 + md)) ⟨(callB_of 1 hts (gi_all wd_435) rfl rfl rfl (hT _ wd_50) (hT _ wd_432) (by decide +kernel) ⟨Nat.le_of_ble_eq_true rfl, Nat.le_of_ble_eq_true rfl⟩), (hT _ wd_434), (hT _ wd_23)⟩ (pvW hPc hGK hDc (va_recv hK hPc (ci := 3) (q0 := 0) rfl rfl)) rfl rfl hl.1 rfl (lv_room (Nat.le_of_ble_eq_true rfl)) d_OCT_begin_5 ⟨Nat.le_of_ble_eq_true rfl, Nat.le_of_ble_eq_true rfl⟩) hP hD hS hA rfl rfl rfl (fun H locs hP hD hS => ?_)
  obtain ⟨b_5, eb_5⟩ : ∃ z : OB, z = oAdd b (64 + md) := ⟨_, rfl⟩
  have hP : va_P G.1 vwCl [(h0, .inr (3, [.ref h1, .int b_5.1])), (h1, .inl (G.2 1, 41, .inl b_5.2))] H := by rw [eb_5]; exact hP
  have hD : va_D A [(h0, .inr (3, [.ref h1, .int b_5.1])), (h1, .inl (G.2 1, 41, .inl b_5.2))] := by rw [eb_5]; exact hD
  have hw9 : ([(h0, .inr (3, [.ref h1, .int ((oBeg b md).1)])), (h1, .inl (G.2 1, 41, .inl ((oBeg b md).2)))] : va_W) = [(h0, .inr (3, [.ref h1, .int b_5.1])), (h1, .inl (G.2 1, 41, .inl b_5.2))] := by simp only [oBeg, eb_5]
  rw [← hw9] at hP hD
  exact W.vret hx hb hr (fun t ht hW => ⟨⟨rfl, by rw [ht]; exact hP, by rw [hAe]; exact hD⟩, by rw [hAe]; exact hS.F ht⟩) hS.2.2 d_OCT_begin_8
set_option maxHeartbeats 4000000 in
set_option maxRecDepth 100000 in
theorem c_oaddTwo (l : Launch) (G : GG) (sz : Nat) (h0 : Nat) (h1 : Nat) (b : OB) (xn : Int32)  : Met l y_OCT_addTwo w_OCT_addTwo ({ frames := 1, cells := 0, slots := 0, locals := 21 }) (va_Pc [.ref h0, .int xn] (Pw G sz [(h0, .inr (3, [.ref h1, .int b.1])), (h1, .inl (G.2 1, 41, .inl b.2))])) (QW G none [(h0, .inr (3, [.ref h1, .int b.1])), (h1, .inl (G.2 1, 41, .inl b.2))] [(h0, .inr (3, [.ref h1, .int ((oTwo b xn).1)])), (h1, .inl (G.2 1, 41, .inl ((oTwo b xn).2)))] sz) 0 0 (va_A [(h0, .inr (3, [.ref h1, .int b.1])), (h1, .inl (G.2 1, 41, .inl b.2))] sz) := by
  refine Met.ofW (cc := b_OCT_addTwo) (maxL := 2) (ret := none) (by decide) rfl ?_
  intro p e s m args below meth c s₁ B hml hv
  obtain ⟨rfl, hsz, hP, hGK, hD0⟩ := hv
  have hx := B.exec
  have hb := B.bytes
  have hr := B.returns
  have hts := atoms_spec (ws := w_OCT_addTwo) B.pre
  have hT : ∀ w ∈ lwG, w.before _ s = true := fun w h => hts w (List.mem_cons_of_mem _ h)
  have hown : s.vm.findClass R_OCT = some m.cls := findClass_of_methodNamed B.named
  have hlocks := B.notSynchronized
  have hK := hGK.1
  have hN := hGK.2
  subst hsz
  have hD := hD0.self (sz := s.heap.size)
  generalize hAe : va_A [(h0, .inr (3, [.ref h1, .int b.1])), (h1, .inl (G.2 1, 41, .inl b.2))] s.heap.size = A at hD ⊢
  have hA : ∀ q : Nat, s.heap.size ≤ q → A q := fun q h => by rw [← hAe]; exact Or.inr h
  have hS : va_S A s.heap s.heap [] := va_S.rf
  have hP : va_P G.1 vwCl [(h0, .inr (3, [.ref h1, .int b.1])), (h1, .inl (G.2 1, 41, .inl b.2))] s.heap := hP
  have hl := lv_entry ([.ref h0, .int xn]) (n := 2) (Nat.le_of_ble_eq_true rfl)
  rw [lg_entry_eq]
  generalize (lg_sl ([.ref h0, .int xn]) ++ List.replicate (2 - (lg_sl ([.ref h0, .int xn])).length) Slot.unset).toArray = ls at hl ⊢
  have hl : lv_has ls 2 [(0, .ref h0), (1, .int xn)] := hl
  refine lv_aload_n hx hb d_OCT_addTwo_0 rfl (lv_at hl 0 rfl) ?_
  refine lv_iload_n hx hb d_OCT_addTwo_1 rfl (lv_at hl 1 rfl) ?_
  refine lv_bipush (v := 8) hx hb d_OCT_addTwo_2 (by decide) ?_
  refine lv_ishr hx hb d_OCT_addTwo_4 ?_
  have hPc := hP.sub (ws' := [(h0, .inr (3, [.ref h1, .int b.1])), (h1, .inl (G.2 1, 41, .inl b.2))]) [0, 1] rfl
  have hDc := hD.sub (ws' := [(h0, .inr (3, [.ref h1, .int b.1])), (h1, .inl (G.2 1, 41, .inl b.2))]) [0, 1] (by decide) rfl
  refine bx_callKv [0, 1] (va_runV (As := [.int (xn >>> ((8 : Int32) &&& 31))]) (rest := []) ⟨hx, hb, hml, hown, hts⟩ (c_oadd l G s.heap.size h0 h1 b (xn >>> ((8 : Int32) &&& 31))) ⟨(callB_of 1 hts (gi_all wd_435) rfl rfl rfl (hT _ wd_50) (hT _ wd_432) (by decide +kernel) ⟨Nat.le_of_ble_eq_true rfl, Nat.le_of_ble_eq_true rfl⟩), (hT _ wd_434), (hT _ wd_23)⟩ (pvW hPc hGK hDc (va_recv hK hPc (ci := 3) (q0 := 0) rfl rfl)) rfl rfl hl.1 rfl (lv_room (Nat.le_of_ble_eq_true rfl)) d_OCT_addTwo_5 ⟨Nat.le_of_ble_eq_true rfl, Nat.le_of_ble_eq_true rfl⟩) hP hD hS hA rfl rfl rfl (fun H locs hP hD hS => ?_)
  obtain ⟨b_5, eb_5⟩ : ∃ z : OB, z = oAdd b (xn >>> ((8 : Int32) &&& 31)) := ⟨_, rfl⟩
  have hP : va_P G.1 vwCl [(h0, .inr (3, [.ref h1, .int b_5.1])), (h1, .inl (G.2 1, 41, .inl b_5.2))] H := by rw [eb_5]; exact hP
  have hD : va_D A [(h0, .inr (3, [.ref h1, .int b_5.1])), (h1, .inl (G.2 1, 41, .inl b_5.2))] := by rw [eb_5]; exact hD
  refine lv_aload_n hx hb d_OCT_addTwo_8 rfl (lv_at hl 0 rfl) ?_
  refine lv_iload_n hx hb d_OCT_addTwo_9 rfl (lv_at hl 1 rfl) ?_
  have hPc := hP.sub (ws' := [(h0, .inr (3, [.ref h1, .int b_5.1])), (h1, .inl (G.2 1, 41, .inl b_5.2))]) [0, 1] rfl
  have hDc := hD.sub (ws' := [(h0, .inr (3, [.ref h1, .int b_5.1])), (h1, .inl (G.2 1, 41, .inl b_5.2))]) [0, 1] (by decide) rfl
  refine bx_callKv [0, 1] (va_runV (As := [.int xn]) (rest := []) ⟨hx, hb, hml, hown, hts⟩ (c_oadd l G H.size h0 h1 b_5 xn) ⟨(callB_of 1 hts (gi_all wd_435) rfl rfl rfl (hT _ wd_50) (hT _ wd_432) (by decide +kernel) ⟨Nat.le_of_ble_eq_true rfl, Nat.le_of_ble_eq_true rfl⟩), (hT _ wd_434), (hT _ wd_23)⟩ (pvW hPc hGK hDc (va_recv hK hPc (ci := 3) (q0 := 0) rfl rfl)) rfl rfl hl.1 rfl (lv_room (Nat.le_of_ble_eq_true rfl)) d_OCT_addTwo_10 ⟨Nat.le_of_ble_eq_true rfl, Nat.le_of_ble_eq_true rfl⟩) hP hD hS hA rfl rfl rfl (fun H locs hP hD hS => ?_)
  obtain ⟨b_10, eb_10⟩ : ∃ z : OB, z = oAdd b_5 xn := ⟨_, rfl⟩
  have hP : va_P G.1 vwCl [(h0, .inr (3, [.ref h1, .int b_10.1])), (h1, .inl (G.2 1, 41, .inl b_10.2))] H := by rw [eb_10]; exact hP
  have hD : va_D A [(h0, .inr (3, [.ref h1, .int b_10.1])), (h1, .inl (G.2 1, 41, .inl b_10.2))] := by rw [eb_10]; exact hD
  have hw9 : ([(h0, .inr (3, [.ref h1, .int ((oTwo b xn).1)])), (h1, .inl (G.2 1, 41, .inl ((oTwo b xn).2)))] : va_W) = [(h0, .inr (3, [.ref h1, .int b_10.1])), (h1, .inl (G.2 1, 41, .inl b_10.2))] := by simp only [oTwo, eb_10, eb_5]
  rw [← hw9] at hP hD
  exact W.vret hx hb hr (fun t ht hW => ⟨⟨rfl, by rw [ht]; exact hP, by rw [hAe]; exact hD⟩, by rw [hAe]; exact hS.F ht⟩) hS.2.2 d_OCT_addTwo_13
set_option maxHeartbeats 4000000 in
set_option maxRecDepth 100000 in
theorem c_ohas (l : Launch) (G : GG) (h0 : Nat) (h1 : Nat) (b : OB) (ii : Int32)  : Met l y_OCT_has w_OCT_has ({ frames := 0, cells := 0, slots := 0, locals := 0 }) (va_Pc [.ref h0, .int ii] (Rw G [(h0, .inr (3, [.ref h1, .int b.1])), (h1, .inl (G.2 1, 41, .inl b.2))])) (k2_QcV (.int (hasF ii b.1))) 0 0 (fun _ => False) := by
  refine Met.ofW (cc := b_OCT_has) (maxL := 2) (ret := (some .boolean)) (by decide) rfl ?_
  intro p e s m args below meth c s₁ B hml hv
  obtain ⟨rfl, hP, hGK⟩ := hv
  have hx := B.exec
  have hb := B.bytes
  have hr := B.returns
  have hts := atoms_spec (ws := w_OCT_has) B.pre
  have hT : ∀ w ∈ lwG, w.before _ s = true := fun w h => hts w (List.mem_cons_of_mem _ h)
  have hown : s.vm.findClass R_OCT = some m.cls := findClass_of_methodNamed B.named
  have hlocks := B.notSynchronized
  have hK := hGK.1
  have hN := hGK.2
  have hP : va_P G.1 vwCl [(h0, .inr (3, [.ref h1, .int b.1])), (h1, .inl (G.2 1, 41, .inl b.2))] s.heap := hP
  have hl := lv_entry ([.ref h0, .int ii]) (n := 2) (Nat.le_of_ble_eq_true rfl)
  rw [lg_entry_eq]
  generalize (lg_sl ([.ref h0, .int ii]) ++ List.replicate (2 - (lg_sl ([.ref h0, .int ii])).length) Slot.unset).toArray = ls at hl ⊢
  have hl : lv_has ls 2 [(0, .ref h0), (1, .int ii)] := hl
  generalize hHe : s.heap = H at hP ⊢
  refine lv_iload_n hx hb d_OCT_has_0 rfl (lv_at hl 1 rfl) ?_
  refine lv_if_lt (tgt := 25) hx hb d_OCT_has_1 (by decide) (fun c_1 => ?_) (fun c_1 => ?_)
  · refine lv_iconst (v := 0) hx hb d_OCT_has_25 (by decide) ?_
    have hq9 : (.int (hasF ii b.1)) = (.int 0 : Value) := by first | (simp [hasF, c_1]; done) | (simp_all [hasF]; done)
    exact W.zret (v := 0) hx hb hr rfl (fun t ht _ => ⟨by rw [hq9], ht.trans hHe.symm⟩) (fun _ h => by cases h) d_OCT_has_26
  · refine lv_iload_n hx hb d_OCT_has_4 rfl (lv_at hl 1 rfl) ?_
    refine lv_aload_n hx hb d_OCT_has_5 rfl (lv_at hl 0 rfl) ?_
    refine va_get (D := G.1) (ci := 3) (v := .int b.1) (C := R_OCT) (T := T_OCT) (N := 2) hx hb hT in_OCT hown hK hP 0 rfl rfl 1 (by decide) (hT _ wd_126) (fun _ h9 => h9) rfl d_OCT_has_6 ?_
    refine lv_icmp_ge (tgt := 25) hx hb d_OCT_has_9 (by decide) (fun c_9 => ?_) (fun c_9 => ?_)
    · refine lv_iconst (v := 0) hx hb d_OCT_has_25 (by decide) ?_
      have hq9 : (.int (hasF ii b.1)) = (.int 0 : Value) := by first | (simp [hasF, c_1, c_9]; done) | (simp_all [hasF]; done)
      exact W.zret (v := 0) hx hb hr rfl (fun t ht _ => ⟨by rw [hq9], ht.trans hHe.symm⟩) (fun _ h => by cases h) d_OCT_has_26
    · refine lv_iload_n hx hb d_OCT_has_12 rfl (lv_at hl 1 rfl) ?_
      refine lv_aload_n hx hb d_OCT_has_13 rfl (lv_at hl 0 rfl) ?_
      refine va_get (D := G.1) (ci := 3) (v := .ref h1) (C := R_OCT) (T := T_OCT) (N := 2) hx hb hT in_OCT hown hK hP 0 rfl rfl 0 (by decide) (hT _ wd_124) (fun _ h9 => h9) rfl d_OCT_has_14 ?_
      refine va_alen (v := 41) hx hb hK hP 1 1 rfl rfl (by show Int32.ofNat 41 = 41; decide) d_OCT_has_17 ?_
      refine lv_icmp_ge (tgt := 25) hx hb d_OCT_has_18 (by decide) (fun c_18 => ?_) (fun c_18 => ?_)
      · refine lv_iconst (v := 0) hx hb d_OCT_has_25 (by decide) ?_
        have hq9 : (.int (hasF ii b.1)) = (.int 0 : Value) := by first | (simp [hasF, c_1, c_9, c_18]; done) | (simp_all [hasF]; done)
        exact W.zret (v := 0) hx hb hr rfl (fun t ht _ => ⟨by rw [hq9], ht.trans hHe.symm⟩) (fun _ h => by cases h) d_OCT_has_26
      · refine lv_iconst (v := 1) hx hb d_OCT_has_21 (by decide) ?_
        refine lv_goto (tgt := 26) hx hb d_OCT_has_22 (by decide) ?_
        have hq9 : (.int (hasF ii b.1)) = (.int 1 : Value) := by first | (simp [hasF, c_1, c_9, c_18]; done) | (simp_all [hasF]; done)
        exact W.zret (v := 1) hx hb hr rfl (fun t ht _ => ⟨by rw [hq9], ht.trans hHe.symm⟩) (fun _ h => by cases h) d_OCT_has_26
set_option maxHeartbeats 4000000 in
set_option maxRecDepth 100000 in
theorem c_ototal (l : Launch) (G : GG) (h0 : Nat) (h1 : Nat) (b : OB)  : Met l y_OCT_total w_OCT_total ({ frames := 0, cells := 0, slots := 0, locals := 0 }) (va_Pc [.ref h0] (Rw G [(h0, .inr (3, [.ref h1, .int b.1])), (h1, .inl (G.2 1, 41, .inl b.2))])) (k2_QcV (.int (totF b.1 b.2 41 0))) 0 0 (fun _ => False) := by
  refine Met.ofW (cc := b_OCT_total) (maxL := 3) (ret := (some .int)) (by decide) rfl ?_
  intro p e s m args below meth c s₁ B hml hv
  obtain ⟨rfl, hP, hGK⟩ := hv
  have hx := B.exec
  have hb := B.bytes
  have hr := B.returns
  have hts := atoms_spec (ws := w_OCT_total) B.pre
  have hT : ∀ w ∈ lwG, w.before _ s = true := fun w h => hts w (List.mem_cons_of_mem _ h)
  have hown : s.vm.findClass R_OCT = some m.cls := findClass_of_methodNamed B.named
  have hlocks := B.notSynchronized
  have hK := hGK.1
  have hN := hGK.2
  have hP : va_P G.1 vwCl [(h0, .inr (3, [.ref h1, .int b.1])), (h1, .inl (G.2 1, 41, .inl b.2))] s.heap := hP
  have hl := lv_entry ([.ref h0]) (n := 3) (Nat.le_of_ble_eq_true rfl)
  rw [lg_entry_eq]
  generalize (lg_sl ([.ref h0]) ++ List.replicate (3 - (lg_sl ([.ref h0])).length) Slot.unset).toArray = ls at hl ⊢
  have hl : lv_has ls 3 [(0, .ref h0)] := hl
  generalize hHe : s.heap = H at hP ⊢
  refine lv_iconst (v := 0) hx hb d_OCT_total_0 (by decide) ?_
  refine lv_istore_n (lv' := [(1, .int 0), (0, .ref h0)]) hx hb d_OCT_total_1 rfl hl (by decide) rfl (fun ls hl => ?_)
  refine lv_iconst (v := 0) hx hb d_OCT_total_2 (by decide) ?_
  refine lv_istore_n (lv' := [(2, .int 0), (1, .int 0), (0, .ref h0)]) hx hb d_OCT_total_3 rfl hl (by decide) rfl (fun ls hl => ?_)
  refine bx_loopR (σ := Nat × Int32) (fun q ls => q.1 ≤ 41 ∧ totF b.1 b.2 (41 - q.1) q.2 = totF b.1 b.2 41 0 ∧ lv_has ls 3 [(0, .ref h0), (1, .int q.2), (2, .int (nI q.1))]) (fun q => 41 - q.1) _ (fun q ls hI ih => ?_) (0, 0) ls ⟨by omega, rfl, lv_sub hl [2, 1, 0] rfl⟩
  obtain ⟨k, ac1⟩ := q
  obtain ⟨hkn, hto, hl⟩ := hI
  have hkn : k ≤ 41 := hkn
  have hto : totF b.1 b.2 (41 - k) ac1 = totF b.1 b.2 41 0 := hto
  have hl : lv_has ls 3 [(0, .ref h0), (1, .int ac1), (2, .int (nI k))] := hl
  refine lv_iload_n hx hb d_OCT_total_4 rfl (lv_at hl 2 rfl) ?_
  refine lv_aload_n hx hb d_OCT_total_5 rfl (lv_at hl 0 rfl) ?_
  refine va_get (D := G.1) (ci := 3) (v := .int b.1) (C := R_OCT) (T := T_OCT) (N := 2) hx hb hT in_OCT hown hK hP 0 rfl rfl 1 (by decide) (hT _ wd_126) (fun _ h9 => h9) rfl d_OCT_total_6 ?_
  refine lv_icmp_ge (tgt := 40) hx hb d_OCT_total_9 (by decide) (fun c_9 => ?_) (fun c_9 => ?_)
  · refine lv_iload_n hx hb d_OCT_total_40 rfl (lv_at hl 1 rfl) ?_
    have hq9 : (.int (totF b.1 b.2 41 0)) = (.int ac1 : Value) := by rw [← hto, totF_stop c_9 hkn]
    exact W.iret (v := ac1) hx hb hr (fun t ht _ => ⟨by rw [hq9], ht.trans hHe.symm⟩) (fun _ h => by cases h) d_OCT_total_41
  · refine lv_iload_n hx hb d_OCT_total_12 rfl (lv_at hl 2 rfl) ?_
    refine lv_aload_n hx hb d_OCT_total_13 rfl (lv_at hl 0 rfl) ?_
    refine va_get (D := G.1) (ci := 3) (v := .ref h1) (C := R_OCT) (T := T_OCT) (N := 2) hx hb hT in_OCT hown hK hP 0 rfl rfl 0 (by decide) (hT _ wd_124) (fun _ h9 => h9) rfl d_OCT_total_14 ?_
    refine va_alen (v := 41) hx hb hK hP 1 1 rfl rfl (by show Int32.ofNat 41 = 41; decide) d_OCT_total_17 ?_
    refine lv_icmp_ge (tgt := 40) hx hb d_OCT_total_18 (by decide) (fun c_18 => ?_) (fun c_18 => ?_)
    · have hge : 41 ≤ k := (nI_leI (by omega) (by omega)).mp c_18
      have hke : k = 41 := by omega
      refine lv_iload_n hx hb d_OCT_total_40 rfl (lv_at hl 1 rfl) ?_
      have hq9 : (.int (totF b.1 b.2 41 0)) = (.int ac1 : Value) := by rw [← hto, hke, Nat.sub_self]; rfl
      exact W.iret (v := ac1) hx hb hr (fun t ht _ => ⟨by rw [hq9], ht.trans hHe.symm⟩) (fun _ h => by cases h) d_OCT_total_41
    · have hk : k < 41 := Nat.not_le.mp (fun z => c_18 (nI_le z (by omega)))
      refine lv_iload_n hx hb d_OCT_total_21 rfl (lv_at hl 1 rfl) ?_
      refine lv_aload_n hx hb d_OCT_total_22 rfl (lv_at hl 0 rfl) ?_
      refine va_get (D := G.1) (ci := 3) (v := .ref h1) (C := R_OCT) (T := T_OCT) (N := 2) hx hb hT in_OCT hown hK hP 0 rfl rfl 0 (by decide) (hT _ wd_124) (fun _ h9 => h9) rfl d_OCT_total_23 ?_
      refine lv_iload_n hx hb d_OCT_total_26 rfl (lv_at hl 2 rfl) ?_
      refine va_bald hx hb hK hP 1 1 rfl rfl (vp_in_nI hk (by omega)) d_OCT_total_27 ?_
      refine W.eq (g2 := F0 m 28 ls (.int (b.2 k) :: [.int ac1])) (by rw [nI_clamp (by omega)]) ?_
      refine lv_sipush (v := 255) hx hb d_OCT_total_28 (by decide) ?_
      refine lv_iand hx hb d_OCT_total_31 ?_
      refine lv_iadd hx hb d_OCT_total_32 ?_
      refine lv_istore_n (lv' := [(1, .int (ac1 + ((b.2 k) &&& 255))), (0, .ref h0), (2, .int (nI k))]) hx hb d_OCT_total_33 rfl hl (by decide) rfl (fun ls hl => ?_)
      refine lv_iinc (v := nI (k + 1)) (lv' := [(2, .int (nI (k + 1))), (1, .int (ac1 + ((b.2 k) &&& 255))), (0, .ref h0)]) hx hb d_OCT_total_34 hl (k := 2) rfl (nI_succ _).symm (by decide) rfl (fun ls hl => ?_)
      refine lv_goto (tgt := 4) hx hb d_OCT_total_37 (by decide) ?_
      exact ih ((k + 1), ac1 + ((b.2 k) &&& 255)) _ ⟨hk, by rw [← hto, totF_step _ hk, if_neg c_9], lv_sub hl [2, 1, 0] rfl⟩ (by show 41 - (k + 1) < 41 - k; omega)
