set_option maxHeartbeats 4000000 in
set_option maxRecDepth 100000 in
theorem c_ABC_init (l : Launch) (G : GG) (sz : Nat) (h0 : Nat) (mo : Int32) (lsz : Int32)  : Met l y_ABC_init w_ABC_init ({ frames := 1, cells := 0, slots := 0, locals := 12 }) (va_Pc [.ref h0] (Pw G sz [(h0, .inr (1, [.int mo, .null, .int lsz]))])) (QW G none [(h0, .inr (1, [.int mo, .null, .int lsz]))] [(h0, .inr (1, [.int mo, .null, .int lsz]))] sz) 0 0 (va_A [(h0, .inr (1, [.int mo, .null, .int lsz]))] sz) := by
  refine Met.ofW (cc := b_ABC_init) (maxL := 1) (ret := none) (by decide) rfl ?_
  intro p e s m args below meth c s₁ B hml hv
  obtain ⟨rfl, hsz, hP, hGK, hD0⟩ := hv
  have hx := B.exec
  have hb := B.bytes
  have hr := B.returns
  have hts := atoms_spec (ws := w_ABC_init) B.pre
  have hT : ∀ w ∈ lwG, w.before _ s = true := fun w h => hts w (List.mem_cons_of_mem _ h)
  have hown : s.vm.findClass R_ABC = some m.cls := findClass_of_methodNamed B.named
  have hlocks := B.notSynchronized
  have hK := hGK.1
  have hN := hGK.2
  have hin : meth.name = "<init>" := (name_of_methodNamed B.named B.method).1
  subst hsz
  have hD := hD0.self (sz := s.heap.size)
  generalize hAe : va_A [(h0, .inr (1, [.int mo, .null, .int lsz]))] s.heap.size = A at hD ⊢
  have hA : ∀ q : Nat, s.heap.size ≤ q → A q := fun q h => by rw [← hAe]; exact Or.inr h
  have hS : va_S A s.heap s.heap [] := va_S.rf
  have hP : va_P G.1 vwCl [(h0, .inr (1, [.int mo, .null, .int lsz]))] s.heap := hP
  have hl := lv_entry ([.ref h0]) (n := 1) (Nat.le_of_ble_eq_true rfl)
  rw [lg_entry_eq]
  generalize (lg_sl ([.ref h0]) ++ List.replicate (1 - (lg_sl ([.ref h0])).length) Slot.unset).toArray = ls at hl ⊢
  have hl : lv_has ls 1 [(0, .ref h0)] := hl
  refine lv_aload_n hx hb d_ABC_init_0 rfl (lv_at hl 0 rfl) ?_
  refine W.objInit hx hb hown (hT _ wd_84) (hT _ wd_71) (hT _ wd_72) rfl (by rw [hml]; exact hl.1) rfl d_ABC_init_1 (Nat.le_of_ble_eq_true rfl) (Nat.le_of_ble_eq_true rfl) ?_
  refine W.eq (g2 := F0 m 4 ls []) rfl ?_
  exact W.vret hx hb hr (fun t ht hW => ⟨⟨rfl, by rw [ht]; exact hP, by rw [hAe]; exact hD⟩, by rw [hAe]; exact hS.F ht⟩) hS.2.2 d_ABC_init_4
set_option maxHeartbeats 4000000 in
set_option maxRecDepth 100000 in
theorem c_ABL_init (l : Launch) (G : GG) (sz : Nat) (h0 : Nat) (mo : Int32) (lsz : Int32)  : Met l y_ABL_init w_ABL_init ({ frames := 2, cells := 0, slots := 0, locals := 32 }) (va_Pc [.ref h0] (Pw G sz [(h0, .inr (1, [.int mo, .null, .int lsz]))])) (QW G none [(h0, .inr (1, [.int mo, .null, .int lsz]))] [(h0, .inr (1, [.int 0, .null, .int lsz]))] sz) 0 0 (va_A [(h0, .inr (1, [.int mo, .null, .int lsz]))] sz) := by
  refine Met.ofW (cc := b_ABL_init) (maxL := 1) (ret := none) (by decide) rfl ?_
  intro p e s m args below meth c s₁ B hml hv
  obtain ⟨rfl, hsz, hP, hGK, hD0⟩ := hv
  have hx := B.exec
  have hb := B.bytes
  have hr := B.returns
  have hts := atoms_spec (ws := w_ABL_init) B.pre
  have hT : ∀ w ∈ lwG, w.before _ s = true := fun w h => hts w (List.mem_cons_of_mem _ h)
  have hown : s.vm.findClass R_ABL = some m.cls := findClass_of_methodNamed B.named
  have hlocks := B.notSynchronized
  have hK := hGK.1
  have hN := hGK.2
  have hin : meth.name = "<init>" := (name_of_methodNamed B.named B.method).1
  subst hsz
  have hD := hD0.self (sz := s.heap.size)
  generalize hAe : va_A [(h0, .inr (1, [.int mo, .null, .int lsz]))] s.heap.size = A at hD ⊢
  have hA : ∀ q : Nat, s.heap.size ≤ q → A q := fun q h => by rw [← hAe]; exact Or.inr h
  have hS : va_S A s.heap s.heap [] := va_S.rf
  have hP : va_P G.1 vwCl [(h0, .inr (1, [.int mo, .null, .int lsz]))] s.heap := hP
  have hl := lv_entry ([.ref h0]) (n := 1) (Nat.le_of_ble_eq_true rfl)
  rw [lg_entry_eq]
  generalize (lg_sl ([.ref h0]) ++ List.replicate (1 - (lg_sl ([.ref h0])).length) Slot.unset).toArray = ls at hl ⊢
  have hl : lv_has ls 1 [(0, .ref h0)] := hl
  refine lv_aload_n hx hb d_ABL_init_0 rfl (lv_at hl 0 rfl) ?_
  have hPc := hP.sub (ws' := [(h0, .inr (1, [.int mo, .null, .int lsz]))]) [0] rfl
  have hDc := hD.sub (ws' := [(h0, .inr (1, [.int mo, .null, .int lsz]))]) [0] (by decide) rfl
  refine bx_callKv [0] (va_runI (As := []) (rest := []) ⟨hx, hb, hml, hown, hts⟩ (c_ABC_init l G s.heap.size h0 mo lsz) ⟨(callB_of 0 hts (gi_all wd_83) rfl rfl rfl (hT _ wd_46) (hT _ wd_81) (by decide +kernel) ⟨Nat.le_of_ble_eq_true rfl, Nat.le_of_ble_eq_true rfl⟩), rfl, (hT _ wd_82)⟩ (psW hPc hGK hDc) rfl rfl hl.1 rfl (lv_room (Nat.le_of_ble_eq_true rfl)) d_ABL_init_1 ⟨Nat.le_of_ble_eq_true rfl, Nat.le_of_ble_eq_true rfl⟩) hP hD hS hA rfl rfl rfl (fun H locs hP hD hS => ?_)
  have hP : va_P G.1 vwCl [(h0, .inr (1, [.int mo, .null, .int lsz]))] H := hP
  have hD : va_D A [(h0, .inr (1, [.int mo, .null, .int lsz]))] := hD
  refine lv_aload_n hx hb d_ABL_init_4 rfl (lv_at hl 0 rfl) ?_
  refine lv_iconst (v := 0) hx hb d_ABL_init_5 (by decide) ?_
  refine va_put (D := G.1) (ci := 1) (v := .int 0) (ty := .int) (C := R_AL) (T := T_AL) (N := 3) hx hb hT in_AL t_AL tok_AL nok_AL hown hK hP hD hS 0 rfl rfl 0 (by decide) (hT _ wd_89) (fun _ h9 => h9) rfl (by decide +kernel) rfl rfl (Nat.le_of_ble_eq_true rfl) d_ABL_init_6 (fun H locs hP hD hS => ?_)
  have hP : va_P G.1 vwCl [(h0, .inr (1, [.int 0, .null, .int lsz]))] H := hP
  have hD : va_D A [(h0, .inr (1, [.int 0, .null, .int lsz]))] := hD
  exact W.vret hx hb hr (fun t ht hW => ⟨⟨rfl, by rw [ht]; exact hP, by rw [hAe]; exact hD⟩, by rw [hAe]; exact hS.F ht⟩) hS.2.2 d_ABL_init_9
set_option maxHeartbeats 4000000 in
set_option maxRecDepth 100000 in
theorem c_AL_init (l : Launch) (G : GG) (sz : Nat) (e0 mi0 : Nat) (h0 : Nat) (mo : Int32) (lsz : Int32)  : Met l y_AL_init w_AL_init ({ frames := 3, cells := 0, slots := 0, locals := 52 }) (va_Pc [.ref h0] (PwX G sz e0 mi0 ([] : List Nat) [(h0, .inr (1, [.int mo, .null, .int lsz]))])) (QA (S := Unit) G (fun _ => none) [(h0, .inr (1, [.int mo, .null, .int lsz]))] (fun _ => [(h0, .inr (1, [.int 0, .ref e0, .int lsz]))]) (fun _ => True) sz) 0 0 (va_A [(h0, .inr (1, [.int mo, .null, .int lsz]))] sz) := by
  refine Met.ofW (cc := b_AL_init) (maxL := 1) (ret := none) (by decide) rfl ?_
  intro p e s m args below meth c s₁ B hml hv
  obtain ⟨rfl, ⟨hsz, hP, hGK, hD0⟩, hX⟩ := hv
  have hx := B.exec
  have hb := B.bytes
  have hr := B.returns
  have hts := atoms_spec (ws := w_AL_init) B.pre
  have hT : ∀ w ∈ lwG, w.before _ s = true := fun w h => hts w (List.mem_cons_of_mem _ h)
  have hown : s.vm.findClass R_AL = some m.cls := findClass_of_methodNamed B.named
  have hlocks := B.notSynchronized
  have hK := hGK.1
  have hN := hGK.2
  have hin : meth.name = "<init>" := (name_of_methodNamed B.named B.method).1
  subst hsz
  have hD := hD0.self (sz := s.heap.size)
  generalize hAe : va_A [(h0, .inr (1, [.int mo, .null, .int lsz]))] s.heap.size = A at hD hX ⊢
  have hA : ∀ q : Nat, s.heap.size ≤ q → A q := fun q h => by rw [← hAe]; exact Or.inr h
  have hS : va_S A s.heap s.heap [] := va_S.rf
  have hP : va_P G.1 vwCl [(h0, .inr (1, [.int mo, .null, .int lsz]))] s.heap := hP
  have hl := lv_entry ([.ref h0]) (n := 1) (Nat.le_of_ble_eq_true rfl)
  rw [lg_entry_eq]
  generalize (lg_sl ([.ref h0]) ++ List.replicate (1 - (lg_sl ([.ref h0])).length) Slot.unset).toArray = ls at hl ⊢
  have hl : lv_has ls 1 [(0, .ref h0)] := hl
  refine lv_aload_n hx hb d_AL_init_0 rfl (lv_at hl 0 rfl) ?_
  have hPc := hP.sub (ws' := [(h0, .inr (1, [.int mo, .null, .int lsz]))]) [0] rfl
  have hDc := hD.sub (ws' := [(h0, .inr (1, [.int mo, .null, .int lsz]))]) [0] (by decide) rfl
  refine bx_callKv [0] (va_runI (As := []) (rest := []) ⟨hx, hb, hml, hown, hts⟩ (c_ABL_init l G s.heap.size h0 mo lsz) ⟨(callB_of 0 hts (gi_all wd_80) rfl rfl rfl (hT _ wd_47) (hT _ wd_78) (by decide +kernel) ⟨Nat.le_of_ble_eq_true rfl, Nat.le_of_ble_eq_true rfl⟩), rfl, (hT _ wd_79)⟩ (psW hPc hGK hDc) rfl rfl hl.1 rfl (lv_room (Nat.le_of_ble_eq_true rfl)) d_AL_init_1 ⟨Nat.le_of_ble_eq_true rfl, Nat.le_of_ble_eq_true rfl⟩) hP hD hS hA rfl rfl rfl (fun H locs hP hD hS => ?_)
  have hP : va_P G.1 vwCl [(h0, .inr (1, [.int 0, .null, .int lsz]))] H := hP
  have hD : va_D A [(h0, .inr (1, [.int 0, .null, .int lsz]))] := hD
  refine lv_aload_n hx hb d_AL_init_4 rfl (lv_at hl 0 rfl) ?_
  refine va_gets (A := A) hx hb hX.1.1 hS hown (hT _ wd_85) (fun _ h9 => h9) d_AL_init_5 ?_
  refine va_put (D := G.1) (ci := 1) (v := .ref e0) (ty := .array (.object "java/lang/Object")) (C := R_AL) (T := T_AL) (N := 3) hx hb hT in_AL t_AL tok_AL nok_AL hown hK hP hD hS 0 rfl rfl 1 (by decide) (hT _ wd_87) (fun _ h9 => h9) rfl (by decide +kernel) rfl rfl (Nat.le_of_ble_eq_true rfl) d_AL_init_8 (fun H locs hP hD hS => ?_)
  have hP : va_P G.1 vwCl [(h0, .inr (1, [.int 0, .ref e0, .int lsz]))] H := hP
  have hD : va_D A [(h0, .inr (1, [.int 0, .ref e0, .int lsz]))] := hD
  refine W.widen (k := 0) (n := 0) (Nat.le_of_ble_eq_true rfl) (Nat.le_of_ble_eq_true rfl) ?_
  exact W.vret hx hb hr (fun t ht hW => ⟨⟨(), rfl, by rw [ht]; exact hP, by rw [hAe]; exact hD, trivial⟩, by rw [hAe]; exact hS.F ht⟩) hS.2.2 d_AL_init_11
set_option maxHeartbeats 4000000 in
set_option maxRecDepth 100000 in
theorem c_newLength (l : Launch) (G : GG) (no : Int32) (ng : Int32) (np : Int32) (h1 : ¬ no + (if ng < np then np else ng) ≤ 0) (h2 : ¬ 2147483639 < no + (if ng < np then np else ng)) : Met l y_ASUP_newLength w_ASUP_newLength ({ frames := 1, cells := 0, slots := 0, locals := 14 }) (va_Pc [.int no, .int ng, .int np] (Rw G [])) (k2_QcV (.int (no + (if ng < np then np else ng)))) 0 0 (fun _ => False) := by
  refine Met.ofW (cc := b_ASUP_newLength) (maxL := 4) (ret := (some .int)) (by decide) rfl ?_
  intro p e s m args below meth c s₁ B hml hv
  obtain ⟨rfl, hP, hGK⟩ := hv
  have hx := B.exec
  have hb := B.bytes
  have hr := B.returns
  have hts := atoms_spec (ws := w_ASUP_newLength) B.pre
  have hT : ∀ w ∈ lwG, w.before _ s = true := fun w h => hts w (List.mem_cons_of_mem _ h)
  have hown : s.vm.findClass R_ASUP = some m.cls := findClass_of_methodNamed B.named
  have hlocks := B.notSynchronized
  have hK := hGK.1
  have hN := hGK.2
  have hP : va_P G.1 vwCl [] s.heap := hP
  have hl := lv_entry ([.int no, .int ng, .int np]) (n := 4) (Nat.le_of_ble_eq_true rfl)
  rw [lg_entry_eq]
  generalize (lg_sl ([.int no, .int ng, .int np]) ++ List.replicate (4 - (lg_sl ([.int no, .int ng, .int np])).length) Slot.unset).toArray = ls at hl ⊢
  have hl : lv_has ls 4 [(0, .int no), (1, .int ng), (2, .int np)] := hl
  generalize hHe : s.heap = H at hP ⊢
  refine lv_iload_n hx hb d_ASUP_newLength_0 rfl (lv_at hl 0 rfl) ?_
  refine lv_iload_n hx hb d_ASUP_newLength_1 rfl (lv_at hl 1 rfl) ?_
  refine lv_iload_n hx hb d_ASUP_newLength_2 rfl (lv_at hl 2 rfl) ?_
  refine va_mmax hx hb (hml.trans hl.1.symm) hown (hT _ wd_209) (hT _ wd_210) (hT _ wd_54) (hT _ wd_211) (Nat.le_of_ble_eq_true rfl) (Nat.le_of_ble_eq_true rfl) (Nat.zero_le _) (Nat.zero_le _) d_ASUP_newLength_3 ?_
  refine lv_iadd hx hb d_ASUP_newLength_6 ?_
  refine lv_istore_n (lv' := [(3, .int (no + (if ng < np then np else ng))), (0, .int no), (1, .int ng), (2, .int np)]) hx hb d_ASUP_newLength_7 rfl hl (by decide) rfl (fun ls hl => ?_)
  refine lv_iconst (v := 0) hx hb d_ASUP_newLength_8 (by decide) ?_
  refine lv_iload_n hx hb d_ASUP_newLength_9 rfl (lv_at hl 0 rfl) ?_
  refine lv_icmp_ge (tgt := 21) hx hb d_ASUP_newLength_10 (by decide) (fun c_10 => ?_) (fun c_10 => ?_)
  · exact absurd c_10 h1
  · refine lv_iload_n hx hb d_ASUP_newLength_13 rfl (lv_at hl 0 rfl) ?_
    refine lv_ldc (v := 2147483639) hx hb hown (hT _ wd_212) d_ASUP_newLength_14 ?_
    refine lv_icmp_gt (tgt := 21) hx hb d_ASUP_newLength_16 (by decide) (fun c_16 => ?_) (fun c_16 => ?_)
    · exact absurd c_16 h2
    · refine lv_iload_n hx hb d_ASUP_newLength_19 rfl (lv_at hl 0 rfl) ?_
      exact W.iret (v := no + (if ng < np then np else ng)) hx hb hr (fun t ht _ => ⟨rfl, ht.trans hHe.symm⟩) (fun _ h => by cases h) d_ASUP_newLength_20
set_option maxHeartbeats 4000000 in
set_option maxRecDepth 100000 in
theorem c_copyOf3 (l : Launch) (G : GG) (sz : Nat) (e0 mi0 : Nat) (a0 : Nat) (cap : Nat) (n2 : Nat) (f : Nat → Option Nat) (els : List Nat) (hc : cap ≤ n2) (hn2 : n2 ≤ 22) (hf : ∀ i, i < cap → ∀ y, f i = some y → y ∈ els) : Met l y_ARRS_copyOf_1 w_ARRS_copyOf_1 ({ frames := 1, cells := 1, slots := 22, locals := 30 }) (va_Pc [.ref a0, .int (nI n2), .ref mi0] (PwX G sz e0 mi0 els [(a0, .inl (G.2 0, cap, .inr (.inr (.inr (.inr f)))))])) (QA (S := Nat × (Nat → Option Nat)) G (fun u => some (.ref u.1)) [(a0, .inl (G.2 0, cap, .inr (.inr (.inr (.inr f)))))] (fun u => [(a0, .inl (G.2 0, cap, .inr (.inr (.inr (.inr f))))), (u.1, .inl (G.2 0, n2, .inr (.inr (.inr (.inr u.2)))))]) (fun u => ∀ i, i < cap → u.2 i = f i) sz) 1 22 (va_A [(a0, .inl (G.2 0, cap, .inr (.inr (.inr (.inr f)))))] sz) := by
  refine Met.ofW (cc := b_ARRS_copyOf_1) (maxL := 4) (ret := (some (.array (.object "java/lang/Object")))) (by decide) rfl ?_
  intro p e s m args below meth c s₁ B hml hv
  obtain ⟨rfl, ⟨hsz, hP, hGK, hD0⟩, hX⟩ := hv
  have hx := B.exec
  have hb := B.bytes
  have hr := B.returns
  have hts := atoms_spec (ws := w_ARRS_copyOf_1) B.pre
  have hT : ∀ w ∈ lwG, w.before _ s = true := fun w h => hts w (List.mem_cons_of_mem _ h)
  have hown : s.vm.findClass R_ARRS = some m.cls := findClass_of_methodNamed B.named
  have hlocks := B.notSynchronized
  have hK := hGK.1
  have hN := hGK.2
  subst hsz
  have hD := hD0.self (sz := s.heap.size)
  generalize hAe : va_A [(a0, .inl (G.2 0, cap, .inr (.inr (.inr (.inr f)))))] s.heap.size = A at hD hX ⊢
  have hA : ∀ q : Nat, s.heap.size ≤ q → A q := fun q h => by rw [← hAe]; exact Or.inr h
  have hS : va_S A s.heap s.heap [] := va_S.rf
  have hP : va_P G.1 vwCl [(a0, .inl (G.2 0, cap, .inr (.inr (.inr (.inr f)))))] s.heap := hP
  have hl := lv_entry ([.ref a0, .int (nI n2), .ref mi0]) (n := 4) (Nat.le_of_ble_eq_true rfl)
  rw [lg_entry_eq]
  generalize (lg_sl ([.ref a0, .int (nI n2), .ref mi0]) ++ List.replicate (4 - (lg_sl ([.ref a0, .int (nI n2), .ref mi0])).length) Slot.unset).toArray = ls at hl ⊢
  have hl : lv_has ls 4 [(0, .ref a0), (1, .int (nI n2)), (2, .ref mi0)] := hl
  refine lv_aload_n hx hb d_ARRS_copyOf_1_0 rfl (lv_at hl 2 rfl) ?_
  refine va_ldcM hx hb hown (hT _ wd_235) hX.1.2.2.1 d_ARRS_copyOf_1_1 ?_
  refine lv_acmp_ne (rx := some mi0) (ry := some mi0) (tgt := 13) hx hb d_ARRS_copyOf_1_3 (by decide) (fun c_3 => absurd rfl c_3) (fun _ => ?_)
  refine lv_iload_n hx hb d_ARRS_copyOf_1_6 rfl (lv_at hl 1 rfl) ?_
  refine va_newq (N' := n2) hx hb hown (hT _ wd_237) hX.1.2.2.2.2 hK hP hD hS hA (nI_pos (by omega)) (nI_clamp (by omega)) (by omega) (Nat.le_of_ble_eq_true rfl) (show 0 + n2 ≤ 22 by omega) d_ARRS_copyOf_1_7 (fun q_7 cA H hK9 hP hD hS => ?_)
  obtain rfl : cA = G.2 0 := bx_cA hK9 (i := 0) (j := 5) rfl rfl
  have hP : va_P G.1 vwCl [(a0, .inl (G.2 0, cap, .inr (.inr (.inr (.inr f))))), (q_7, .inl (G.2 0, n2, .inr (.inr (.inr (.inr (fun _ => none))))))] H := hP
  have hD : va_D A [(a0, .inl (G.2 0, cap, .inr (.inr (.inr (.inr f))))), (q_7, .inl (G.2 0, n2, .inr (.inr (.inr (.inr (fun _ => none))))))] := hD
  refine lv_goto (tgt := 24) hx hb d_ARRS_copyOf_1_10 (by decide) ?_
  refine lv_astore_n (lv' := [(3, .ref q_7), (0, .ref a0), (1, .int (nI n2)), (2, .ref mi0)]) hx hb d_ARRS_copyOf_1_24 rfl hl (by decide) rfl (fun ls hl => ?_)
  refine lv_aload_n hx hb d_ARRS_copyOf_1_25 rfl (lv_at hl 1 rfl) ?_
  refine lv_iconst (v := 0) hx hb d_ARRS_copyOf_1_26 (by decide) ?_
  refine lv_aload_n hx hb d_ARRS_copyOf_1_27 rfl (lv_at hl 0 rfl) ?_
  refine lv_iconst (v := 0) hx hb d_ARRS_copyOf_1_28 (by decide) ?_
  refine lv_aload_n hx hb d_ARRS_copyOf_1_29 rfl (lv_at hl 1 rfl) ?_
  refine va_alen (v := nI cap) hx hb hK hP 0 0 rfl rfl rfl d_ARRS_copyOf_1_30 ?_
  refine lv_iload_n hx hb d_ARRS_copyOf_1_31 rfl (lv_at hl 2 rfl) ?_
  refine va_mmin hx hb (hml.trans hl.1.symm) hown (hT _ wd_238) (hT _ wd_239) (hT _ wd_54) (hT _ wd_240) (Nat.le_of_ble_eq_true rfl) (Nat.le_of_ble_eq_true rfl) (Nat.le_of_ble_eq_true rfl) (show 0 + n2 ≤ 22 by omega) d_ARRS_copyOf_1_32 ?_
  refine W.eq (g2 := F0 m 35 ls (.int (nI cap) :: [.int 0, .ref q_7, .int 0, .ref a0])) (by rw [if_neg (nI_nlt hc (by omega))]) ?_
  refine va_copyM hx hb (hml.trans hl.1.symm) hown (hT _ wd_241) (hT _ wd_243) (hT _ wd_242) (hT _ wd_56) hK hP hD hS 0 1 0 0 rfl rfl rfl rfl (by decide) (by decide) (nI_pos (by omega)) (by rw [nI_clamp (by omega), sb_cl0]; omega) (by rw [nI_clamp (by omega), sb_cl0]; omega) (fun i hi y hy => ((hX.kept hS.2.1).2 y (hf i (by rw [nI_clamp (by omega)] at hi; exact hi) y (by rw [sb_cl0, Nat.zero_add] at hy; exact hy))).1) (Nat.le_of_ble_eq_true rfl) (Nat.le_of_ble_eq_true rfl) d_ARRS_copyOf_1_35 (fun H locs hP hD hS => ?_)
  rw [nI_clamp (by omega), sb_cl0] at hP hD
  have hP : va_P G.1 vwCl [(a0, .inl (G.2 0, cap, .inr (.inr (.inr (.inr f))))), (q_7, .inl (G.2 0, n2, .inr (.inr (.inr (.inr (va_cpy f (fun _ => none) 0 0 cap))))))] H := hP
  have hD : va_D A [(a0, .inl (G.2 0, cap, .inr (.inr (.inr (.inr f))))), (q_7, .inl (G.2 0, n2, .inr (.inr (.inr (.inr (va_cpy f (fun _ => none) 0 0 cap))))))] := hD
  refine lv_aload_n hx hb d_ARRS_copyOf_1_38 rfl (lv_at hl 0 rfl) ?_
  refine W.widen (k := 1) (n := 22) (Nat.le_of_ble_eq_true rfl) (show 0 + n2 ≤ 22 by omega) ?_
  exact W.aret (v := .ref q_7) hx hb hr (Or.inr ⟨_, rfl⟩) (Or.inr ⟨_, rfl⟩) (fun t ht hW => ⟨⟨(q_7, va_cpy f (fun _ => none) 0 0 cap), rfl, by rw [ht]; exact hP, by rw [hAe]; exact hD, fun i hi => by show va_cpy f (fun _ => none) 0 0 cap i = f i; rw [pk_cpy_in (sp := 0) (dp := 0) (n := cap) (Nat.zero_le i) (by omega), Nat.zero_add, Nat.sub_zero]⟩, by rw [hAe]; exact hS.F ht⟩) hS.2.2 d_ARRS_copyOf_1_39
