set_option maxHeartbeats 4000000 in
set_option maxRecDepth 100000 in
theorem c_size (l : Launch) (G : GG) (h0 : Nat) (ed : Nat) (mo : Int32) (lsz : Int32)  : Met l y_AL_size w_AL_size ({ frames := 0, cells := 0, slots := 0, locals := 0 }) (va_Pc [.ref h0] (Rw G [(h0, .inr (1, [.int mo, .ref ed, .int lsz]))])) (k2_QcV (.int lsz)) 0 0 (fun _ => False) := by
  refine Met.ofW (cc := b_AL_size) (maxL := 1) (ret := (some .int)) (by decide) rfl ?_
  intro p e s m args below meth c s₁ B hml hv
  obtain ⟨rfl, hP, hGK⟩ := hv
  have hx := B.exec
  have hb := B.bytes
  have hr := B.returns
  have hts := atoms_spec (ws := w_AL_size) B.pre
  have hT : ∀ w ∈ lwG, w.before _ s = true := fun w h => hts w (List.mem_cons_of_mem _ h)
  have hown : s.vm.findClass R_AL = some m.cls := findClass_of_methodNamed B.named
  have hlocks := B.notSynchronized
  have hK := hGK.1
  have hN := hGK.2
  have hP : va_P G.1 vwCl [(h0, .inr (1, [.int mo, .ref ed, .int lsz]))] s.heap := hP
  have hl := lv_entry ([.ref h0]) (n := 1) (Nat.le_of_ble_eq_true rfl)
  rw [lg_entry_eq]
  generalize (lg_sl ([.ref h0]) ++ List.replicate (1 - (lg_sl ([.ref h0])).length) Slot.unset).toArray = ls at hl ⊢
  have hl : lv_has ls 1 [(0, .ref h0)] := hl
  generalize hHe : s.heap = H at hP ⊢
  refine lv_aload_n hx hb d_AL_size_0 rfl (lv_at hl 0 rfl) ?_
  refine va_get (D := G.1) (ci := 1) (v := .int lsz) (C := R_AL) (T := T_AL) (N := 3) hx hb hT in_AL hown hK hP 0 rfl rfl 2 (by decide) (hT _ wd_88) (fun _ h9 => h9) rfl d_AL_size_1 ?_
  exact W.iret (v := lsz) hx hb hr (fun t ht _ => ⟨rfl, ht.trans hHe.symm⟩) (fun _ h => by cases h) d_AL_size_4
set_option maxHeartbeats 4000000 in
set_option maxRecDepth 100000 in
theorem c_preCheck (l : Launch) (G : GG) (k : Nat) (n : Nat) (hk : k < n) (hn : n < 2 ^ 31) : Met l y_PRE_checkIndex w_PRE_checkIndex ({ frames := 0, cells := 0, slots := 0, locals := 0 }) (va_Pc [.int (nI k), .int (nI n), .null] (Rw G [])) (k2_QcV (.int (nI k))) 0 0 (fun _ => False) := by
  refine Met.ofW (cc := b_PRE_checkIndex) (maxL := 3) (ret := (some .int)) (by decide) rfl ?_
  intro p e s m args below meth c s₁ B hml hv
  obtain ⟨rfl, hP, hGK⟩ := hv
  have hx := B.exec
  have hb := B.bytes
  have hr := B.returns
  have hts := atoms_spec (ws := w_PRE_checkIndex) B.pre
  have hT : ∀ w ∈ lwG, w.before _ s = true := fun w h => hts w (List.mem_cons_of_mem _ h)
  have hown : s.vm.findClass R_PRE = some m.cls := findClass_of_methodNamed B.named
  have hlocks := B.notSynchronized
  have hK := hGK.1
  have hN := hGK.2
  have hP : va_P G.1 vwCl [] s.heap := hP
  have hl := lv_entry ([.int (nI k), .int (nI n), .null]) (n := 3) (Nat.le_of_ble_eq_true rfl)
  rw [lg_entry_eq]
  generalize (lg_sl ([.int (nI k), .int (nI n), .null]) ++ List.replicate (3 - (lg_sl ([.int (nI k), .int (nI n), .null])).length) Slot.unset).toArray = ls at hl ⊢
  have hl : lv_has ls 3 [(0, .int (nI k)), (1, .int (nI n)), (2, .null)] := hl
  generalize hHe : s.heap = H at hP ⊢
  refine lv_iload_n hx hb d_PRE_checkIndex_0 rfl (lv_at hl 0 rfl) ?_
  refine lv_if_lt (tgt := 9) hx hb d_PRE_checkIndex_1 (by decide) (fun c_1 => ?_) (fun c_1 => ?_)
  · exact absurd c_1 (nI_pos (by omega))
  · refine lv_iload_n hx hb d_PRE_checkIndex_4 rfl (lv_at hl 0 rfl) ?_
    refine lv_iload_n hx hb d_PRE_checkIndex_5 rfl (lv_at hl 1 rfl) ?_
    refine lv_icmp_lt (tgt := 16) hx hb d_PRE_checkIndex_6 (by decide) (fun c_6 => ?_) (fun c_6 => ?_)
    · refine lv_iload_n hx hb d_PRE_checkIndex_16 rfl (lv_at hl 0 rfl) ?_
      exact W.iret (v := nI k) hx hb hr (fun t ht _ => ⟨rfl, ht.trans hHe.symm⟩) (fun _ h => by cases h) d_PRE_checkIndex_17
    · exact absurd (nI_lt hk hn) c_6
set_option maxHeartbeats 4000000 in
set_option maxRecDepth 100000 in
theorem c_objCheck (l : Launch) (G : GG) (k : Nat) (n : Nat) (hk : k < n) (hn : n < 2 ^ 31) : Met l y_OBJS_checkIndex w_OBJS_checkIndex ({ frames := 1, cells := 0, slots := 0, locals := 22 }) (va_Pc [.int (nI k), .int (nI n)] (Rw G [])) (k2_QcV (.int (nI k))) 0 0 (fun _ => False) := by
  refine Met.ofW (cc := b_OBJS_checkIndex) (maxL := 2) (ret := (some .int)) (by decide) rfl ?_
  intro p e s m args below meth c s₁ B hml hv
  obtain ⟨rfl, hP, hGK⟩ := hv
  have hx := B.exec
  have hb := B.bytes
  have hr := B.returns
  have hts := atoms_spec (ws := w_OBJS_checkIndex) B.pre
  have hT : ∀ w ∈ lwG, w.before _ s = true := fun w h => hts w (List.mem_cons_of_mem _ h)
  have hown : s.vm.findClass R_OBJS = some m.cls := findClass_of_methodNamed B.named
  have hlocks := B.notSynchronized
  have hK := hGK.1
  have hN := hGK.2
  have hP : va_P G.1 vwCl [] s.heap := hP
  have hl := lv_entry ([.int (nI k), .int (nI n)]) (n := 2) (Nat.le_of_ble_eq_true rfl)
  rw [lg_entry_eq]
  generalize (lg_sl ([.int (nI k), .int (nI n)]) ++ List.replicate (2 - (lg_sl ([.int (nI k), .int (nI n)])).length) Slot.unset).toArray = ls at hl ⊢
  have hl : lv_has ls 2 [(0, .int (nI k)), (1, .int (nI n))] := hl
  generalize hHe : s.heap = H at hP ⊢
  refine lv_iload_n hx hb d_OBJS_checkIndex_0 rfl (lv_at hl 0 rfl) ?_
  refine lv_iload_n hx hb d_OBJS_checkIndex_1 rfl (lv_at hl 1 rfl) ?_
  refine lv_null hx hb d_OBJS_checkIndex_2 ?_
  refine bx_callV (W.runS (As := [.int (nI k), .int (nI n), .null]) (rest := []) ⟨hx, hb, hml, hown, hts⟩ (c_preCheck l G k n (by assumption) (by assumption)) ⟨(callB_of 3 hts (gi_all wd_264) rfl rfl rfl (hT _ wd_58) (hT _ wd_262) (by decide +kernel) ⟨Nat.le_of_ble_eq_true rfl, Nat.le_of_ble_eq_true rfl⟩), (hT _ wd_263)⟩ (psR bx_nil hGK) rfl rfl hl.1 rfl (lv_room (Nat.le_of_ble_eq_true rfl)) d_OBJS_checkIndex_3 ⟨Nat.le_of_ble_eq_true rfl, Nat.le_of_ble_eq_true rfl⟩) ?_
  exact W.iret (v := nI k) hx hb hr (fun t ht _ => ⟨rfl, ht.trans hHe.symm⟩) (fun _ h => by cases h) d_OBJS_checkIndex_6
set_option maxHeartbeats 4000000 in
set_option maxRecDepth 100000 in
theorem c_elementData (l : Launch) (G : GG) (h0 : Nat) (ed : Nat) (mo : Int32) (n : Nat) (k : Nat) (cap : Nat) (f : Nat → Option Nat) (a : Nat) (hk : k < n) (hnc : n ≤ cap) (hc : cap < 2 ^ 31) (hf : f k = some a) : Met l y_AL_elementData w_AL_elementData ({ frames := 0, cells := 0, slots := 0, locals := 0 }) (va_Pc [.ref h0, .int (nI k)] (Rw G [(h0, .inr (1, [.int mo, .ref ed, .int (nI n)])), (ed, .inl (G.2 0, cap, .inr (.inr (.inr (.inr f)))))])) (k2_QcV (.ref a)) 0 0 (fun _ => False) := by
  refine Met.ofW (cc := b_AL_elementData) (maxL := 2) (ret := (some (.object "java/lang/Object"))) (by decide) rfl ?_
  intro p e s m args below meth c s₁ B hml hv
  obtain ⟨rfl, hP, hGK⟩ := hv
  have hx := B.exec
  have hb := B.bytes
  have hr := B.returns
  have hts := atoms_spec (ws := w_AL_elementData) B.pre
  have hT : ∀ w ∈ lwG, w.before _ s = true := fun w h => hts w (List.mem_cons_of_mem _ h)
  have hown : s.vm.findClass R_AL = some m.cls := findClass_of_methodNamed B.named
  have hlocks := B.notSynchronized
  have hK := hGK.1
  have hN := hGK.2
  have hP : va_P G.1 vwCl [(h0, .inr (1, [.int mo, .ref ed, .int (nI n)])), (ed, .inl (G.2 0, cap, .inr (.inr (.inr (.inr f)))))] s.heap := hP
  have hl := lv_entry ([.ref h0, .int (nI k)]) (n := 2) (Nat.le_of_ble_eq_true rfl)
  rw [lg_entry_eq]
  generalize (lg_sl ([.ref h0, .int (nI k)]) ++ List.replicate (2 - (lg_sl ([.ref h0, .int (nI k)])).length) Slot.unset).toArray = ls at hl ⊢
  have hl : lv_has ls 2 [(0, .ref h0), (1, .int (nI k))] := hl
  generalize hHe : s.heap = H at hP ⊢
  refine lv_aload_n hx hb d_AL_elementData_0 rfl (lv_at hl 0 rfl) ?_
  refine va_get (D := G.1) (ci := 1) (v := .ref ed) (C := R_AL) (T := T_AL) (N := 3) hx hb hT in_AL hown hK hP 0 rfl rfl 1 (by decide) (hT _ wd_87) (fun _ h9 => h9) rfl d_AL_elementData_1 ?_
  refine lv_iload_n hx hb d_AL_elementData_4 rfl (lv_at hl 1 rfl) ?_
  refine va_aldq hx hb hK hP 1 0 rfl rfl (vp_in_nI (Nat.lt_of_lt_of_le hk hnc) hc) d_AL_elementData_5 ?_
  refine W.eq (g2 := F0 m 6 ls [.ref a]) (by rw [nI_clamp (by omega), hf]; rfl) ?_
  exact W.aret (v := .ref a) hx hb hr (Or.inl ⟨_, rfl⟩) (Or.inr ⟨_, rfl⟩) (fun t ht _ => ⟨rfl, ht.trans hHe.symm⟩) (fun _ h => by cases h) d_AL_elementData_6
set_option maxHeartbeats 4000000 in
set_option maxRecDepth 100000 in
theorem c_get (l : Launch) (G : GG) (h0 : Nat) (ed : Nat) (mo : Int32) (n : Nat) (k : Nat) (cap : Nat) (f : Nat → Option Nat) (a : Nat) (hk : k < n) (hnc : n ≤ cap) (hc : cap < 2 ^ 31) (hf : f k = some a) : Met l y_AL_get w_AL_get ({ frames := 2, cells := 0, slots := 0, locals := 43 }) (va_Pc [.ref h0, .int (nI k)] (Rw G [(h0, .inr (1, [.int mo, .ref ed, .int (nI n)])), (ed, .inl (G.2 0, cap, .inr (.inr (.inr (.inr f)))))])) (k2_QcV (.ref a)) 0 0 (fun _ => False) := by
  refine Met.ofW (cc := b_AL_get) (maxL := 2) (ret := (some (.object "java/lang/Object"))) (by decide) rfl ?_
  intro p e s m args below meth c s₁ B hml hv
  obtain ⟨rfl, hP, hGK⟩ := hv
  have hx := B.exec
  have hb := B.bytes
  have hr := B.returns
  have hts := atoms_spec (ws := w_AL_get) B.pre
  have hT : ∀ w ∈ lwG, w.before _ s = true := fun w h => hts w (List.mem_cons_of_mem _ h)
  have hown : s.vm.findClass R_AL = some m.cls := findClass_of_methodNamed B.named
  have hlocks := B.notSynchronized
  have hK := hGK.1
  have hN := hGK.2
  have hP : va_P G.1 vwCl [(h0, .inr (1, [.int mo, .ref ed, .int (nI n)])), (ed, .inl (G.2 0, cap, .inr (.inr (.inr (.inr f)))))] s.heap := hP
  have hl := lv_entry ([.ref h0, .int (nI k)]) (n := 2) (Nat.le_of_ble_eq_true rfl)
  rw [lg_entry_eq]
  generalize (lg_sl ([.ref h0, .int (nI k)]) ++ List.replicate (2 - (lg_sl ([.ref h0, .int (nI k)])).length) Slot.unset).toArray = ls at hl ⊢
  have hl : lv_has ls 2 [(0, .ref h0), (1, .int (nI k))] := hl
  generalize hHe : s.heap = H at hP ⊢
  refine lv_iload_n hx hb d_AL_get_0 rfl (lv_at hl 1 rfl) ?_
  refine lv_aload_n hx hb d_AL_get_1 rfl (lv_at hl 0 rfl) ?_
  refine va_get (D := G.1) (ci := 1) (v := .int (nI n)) (C := R_AL) (T := T_AL) (N := 3) hx hb hT in_AL hown hK hP 0 rfl rfl 2 (by decide) (hT _ wd_88) (fun _ h9 => h9) rfl d_AL_get_2 ?_
  refine bx_callV (W.runS (As := [.int (nI k), .int (nI n)]) (rest := []) ⟨hx, hb, hml, hown, hts⟩ (c_objCheck l G k n hk (by omega)) ⟨(callB_of 2 hts (gi_all wd_261) rfl rfl rfl (hT _ wd_57) (hT _ wd_259) (by decide +kernel) ⟨Nat.le_of_ble_eq_true rfl, Nat.le_of_ble_eq_true rfl⟩), (hT _ wd_260)⟩ (psR bx_nil hGK) rfl rfl hl.1 rfl (lv_room (Nat.le_of_ble_eq_true rfl)) d_AL_get_5 ⟨Nat.le_of_ble_eq_true rfl, Nat.le_of_ble_eq_true rfl⟩) ?_
  refine lv_pop hx hb d_AL_get_8 rfl ?_
  refine lv_aload_n hx hb d_AL_get_9 rfl (lv_at hl 0 rfl) ?_
  refine lv_iload_n hx hb d_AL_get_10 rfl (lv_at hl 1 rfl) ?_
  have hPc := hP.sub (ws' := [(h0, .inr (1, [.int mo, .ref ed, .int (nI n)])), (ed, .inl (G.2 0, cap, .inr (.inr (.inr (.inr f)))))]) [0, 1] rfl
  refine bx_callV (W.runV (As := [.int (nI k)]) (rest := []) ⟨hx, hb, hml, hown, hts⟩ (c_elementData l G h0 ed mo n k cap f a (by assumption) (by assumption) (by assumption) (by assumption)) ⟨(callB_of 1 hts (gi_all wd_268) rfl rfl rfl (hT _ wd_48) (hT _ wd_265) (by decide +kernel) ⟨Nat.le_of_ble_eq_true rfl, Nat.le_of_ble_eq_true rfl⟩), (hT _ wd_266), (hT _ wd_267)⟩ (pvR hPc hGK (va_recv hK hPc (ci := 1) (q0 := 0) rfl rfl)) rfl rfl hl.1 rfl (lv_room (Nat.le_of_ble_eq_true rfl)) d_AL_get_11 ⟨Nat.le_of_ble_eq_true rfl, Nat.le_of_ble_eq_true rfl⟩) ?_
  exact W.aret (v := .ref a) hx hb hr (Or.inl ⟨_, rfl⟩) (Or.inr ⟨_, rfl⟩) (fun t ht _ => ⟨rfl, ht.trans hHe.symm⟩) (fun _ h => by cases h) d_AL_get_14
