set_option maxHeartbeats 4000000 in
set_option maxRecDepth 100000 in
theorem c_grow0A (l : Launch) (G : GG) (sz : Nat) (e0 mi0 : Nat) (h0 : Nat) (mo : Int32) (els : List Nat)  : Met l y_AL_grow_0 w_AL_grow_0 ({ frames := 2, cells := 1, slots := 22, locals := 37 }) (va_Pc [.ref h0] (PwX G sz e0 mi0 els [(h0, .inr (1, [.int mo, .ref e0, .int (nI 0)]))])) (QA (S := Nat × (Nat → Option Nat)) G (fun u => some (.ref u.1)) [(h0, .inr (1, [.int mo, .ref e0, .int (nI 0)]))] (fun u => [(h0, .inr (1, [.int mo, .ref u.1, .int (nI 0)])), (u.1, .inl (G.2 0, 10, .inr (.inr (.inr (.inr u.2)))))]) (fun _ => True) sz) 1 22 (va_A [(h0, .inr (1, [.int mo, .ref e0, .int (nI 0)]))] sz) := by
  refine Met.ofW (cc := b_AL_grow_0) (maxL := 1) (ret := (some (.array (.object "java/lang/Object")))) (by decide) rfl ?_
  intro p e s m args below meth c s₁ B hml hv
  obtain ⟨rfl, ⟨hsz, hP, hGK, hD0⟩, hX⟩ := hv
  have hx := B.exec
  have hb := B.bytes
  have hr := B.returns
  have hts := atoms_spec (ws := w_AL_grow_0) B.pre
  have hT : ∀ w ∈ lwG, w.before _ s = true := fun w h => hts w (List.mem_cons_of_mem _ h)
  have hown : s.vm.findClass R_AL = some m.cls := findClass_of_methodNamed B.named
  have hlocks := B.notSynchronized
  have hK := hGK.1
  have hN := hGK.2
  subst hsz
  have hD := hD0.self (sz := s.heap.size)
  generalize hAe : va_A [(h0, .inr (1, [.int mo, .ref e0, .int (nI 0)]))] s.heap.size = A at hD hX ⊢
  have hA : ∀ q : Nat, s.heap.size ≤ q → A q := fun q h => by rw [← hAe]; exact Or.inr h
  have hS : va_S A s.heap s.heap [] := va_S.rf
  have hP : va_P G.1 vwCl [(h0, .inr (1, [.int mo, .ref e0, .int (nI 0)]))] s.heap := hP
  have hl := lv_entry ([.ref h0]) (n := 1) (Nat.le_of_ble_eq_true rfl)
  rw [lg_entry_eq]
  generalize (lg_sl ([.ref h0]) ++ List.replicate (1 - (lg_sl ([.ref h0])).length) Slot.unset).toArray = ls at hl ⊢
  have hl : lv_has ls 1 [(0, .ref h0)] := hl
  refine lv_aload_n hx hb d_AL_grow_0_0 rfl (lv_at hl 0 rfl) ?_
  refine lv_aload_n hx hb d_AL_grow_0_1 rfl (lv_at hl 0 rfl) ?_
  refine va_get (D := G.1) (ci := 1) (v := .int (nI 0)) (C := R_AL) (T := T_AL) (N := 3) hx hb hT in_AL hown hK hP 0 rfl rfl 2 (by decide) (hT _ wd_88) (fun _ h9 => h9) rfl d_AL_grow_0_2 ?_
  refine lv_iconst (v := 1) hx hb d_AL_grow_0_5 (by decide) ?_
  refine lv_iadd hx hb d_AL_grow_0_6 ?_
  refine W.eq (g2 := F0 m 7 ls [.int (nI 1), .ref h0]) (by rw [nI_1]) ?_
  have hpm : ([(h0, .inr (1, [.int mo, .ref e0, .int (nI 0)]))] : va_W).Perm ([(h0, .inr (1, [.int mo, .ref e0, .int (nI 0)]))] ++ []) := List.Perm.refl _
  have hPc := bx_PR hpm hP
  have hDc := bx_DR hpm hD
  have hXc : XE e0 mi0 els (va_A [(h0, .inr (1, [.int mo, .ref e0, .int (nI 0)]))] s.heap.size) s s.heap := (hX.kept hS.2.1).narrow (bx_freeR hpm hD hS hA)
  refine bx_callA (va_runV (As := [.int (nI 1)]) (rest := []) ⟨hx, hb, hml, hown, hts⟩ (c_grow1A l G s.heap.size e0 mi0 h0 mo els) ⟨(callB_of 1 hts (gi_all wd_205) rfl rfl rfl (hT _ wd_48) (hT _ wd_202) (by decide +kernel) ⟨Nat.le_of_ble_eq_true rfl, Nat.le_of_ble_eq_true rfl⟩), (hT _ wd_204), (hT _ wd_2)⟩ (pvX hPc hGK hDc hXc (va_recv hK hPc (ci := 1) (q0 := 0) rfl rfl)) rfl rfl hl.1 rfl (lv_room (Nat.le_of_ble_eq_true rfl)) d_AL_grow_0_7 ⟨Nat.le_of_ble_eq_true rfl, Nat.le_of_ble_eq_true rfl⟩) hpm hP hD hS hA (fun u H locs hu hP hD hS => ?_)
  obtain ⟨q9, f9⟩ := u
  have hP : va_P G.1 vwCl [(h0, .inr (1, [.int mo, .ref q9, .int (nI 0)])), (q9, .inl (G.2 0, 10, .inr (.inr (.inr (.inr f9)))))] H := hP
  have hD : va_D A [(h0, .inr (1, [.int mo, .ref q9, .int (nI 0)])), (q9, .inl (G.2 0, 10, .inr (.inr (.inr (.inr f9)))))] := hD
  refine W.eq (g2 := F0 m 10 ls [.ref q9]) rfl ?_
  refine W.widen (k := 1) (n := 22) (Nat.le_of_ble_eq_true rfl) (Nat.le_of_ble_eq_true rfl) ?_
  exact W.aret (v := .ref q9) hx hb hr (Or.inr ⟨_, rfl⟩) (Or.inr ⟨_, rfl⟩) (fun t ht hW => ⟨⟨(q9, f9), rfl, by rw [ht]; exact hP, by rw [hAe]; exact hD, hu⟩, by rw [hAe]; exact hS.F ht⟩) hS.2.2 d_AL_grow_0_10
set_option maxHeartbeats 4000000 in
set_option maxRecDepth 100000 in
theorem c_grow0C (l : Launch) (G : GG) (sz : Nat) (e0 mi0 : Nat) (h0 : Nat) (ed : Nat) (mo : Int32) (cap : Nat) (c2 : Nat) (f : Nat → Option Nat) (els : List Nat) (hcc : (cap = 10 ∧ c2 = 15) ∨ (cap = 15 ∧ c2 = 22)) (hf : ∀ i, i < cap → ∀ y, f i = some y → y ∈ els) : Met l y_AL_grow_0 w_AL_grow_0 ({ frames := 4, cells := 1, slots := 22, locals := 97 }) (va_Pc [.ref h0] (PwX G sz e0 mi0 els [(h0, .inr (1, [.int mo, .ref ed, .int (nI cap)])), (ed, .inl (G.2 0, cap, .inr (.inr (.inr (.inr f)))))])) (QA (S := Nat × (Nat → Option Nat)) G (fun u => some (.ref u.1)) [(h0, .inr (1, [.int mo, .ref ed, .int (nI cap)])), (ed, .inl (G.2 0, cap, .inr (.inr (.inr (.inr f)))))] (fun u => [(h0, .inr (1, [.int mo, .ref u.1, .int (nI cap)])), (u.1, .inl (G.2 0, c2, .inr (.inr (.inr (.inr u.2)))))]) (fun u => ∀ i, i < cap → u.2 i = f i) sz) 1 22 (va_A [(h0, .inr (1, [.int mo, .ref ed, .int (nI cap)])), (ed, .inl (G.2 0, cap, .inr (.inr (.inr (.inr f)))))] sz) := by
  refine Met.ofW (cc := b_AL_grow_0) (maxL := 1) (ret := (some (.array (.object "java/lang/Object")))) (by decide) rfl ?_
  intro p e s m args below meth c s₁ B hml hv
  obtain ⟨rfl, ⟨hsz, hP, hGK, hD0⟩, hX⟩ := hv
  have hx := B.exec
  have hb := B.bytes
  have hr := B.returns
  have hts := atoms_spec (ws := w_AL_grow_0) B.pre
  have hT : ∀ w ∈ lwG, w.before _ s = true := fun w h => hts w (List.mem_cons_of_mem _ h)
  have hown : s.vm.findClass R_AL = some m.cls := findClass_of_methodNamed B.named
  have hlocks := B.notSynchronized
  have hK := hGK.1
  have hN := hGK.2
  subst hsz
  have hD := hD0.self (sz := s.heap.size)
  generalize hAe : va_A [(h0, .inr (1, [.int mo, .ref ed, .int (nI cap)])), (ed, .inl (G.2 0, cap, .inr (.inr (.inr (.inr f)))))] s.heap.size = A at hD hX ⊢
  have hA : ∀ q : Nat, s.heap.size ≤ q → A q := fun q h => by rw [← hAe]; exact Or.inr h
  have hS : va_S A s.heap s.heap [] := va_S.rf
  have hP : va_P G.1 vwCl [(h0, .inr (1, [.int mo, .ref ed, .int (nI cap)])), (ed, .inl (G.2 0, cap, .inr (.inr (.inr (.inr f)))))] s.heap := hP
  have hl := lv_entry ([.ref h0]) (n := 1) (Nat.le_of_ble_eq_true rfl)
  rw [lg_entry_eq]
  generalize (lg_sl ([.ref h0]) ++ List.replicate (1 - (lg_sl ([.ref h0])).length) Slot.unset).toArray = ls at hl ⊢
  have hl : lv_has ls 1 [(0, .ref h0)] := hl
  refine lv_aload_n hx hb d_AL_grow_0_0 rfl (lv_at hl 0 rfl) ?_
  refine lv_aload_n hx hb d_AL_grow_0_1 rfl (lv_at hl 0 rfl) ?_
  refine va_get (D := G.1) (ci := 1) (v := .int (nI cap)) (C := R_AL) (T := T_AL) (N := 3) hx hb hT in_AL hown hK hP 0 rfl rfl 2 (by decide) (hT _ wd_88) (fun _ h9 => h9) rfl d_AL_grow_0_2 ?_
  refine lv_iconst (v := 1) hx hb d_AL_grow_0_5 (by decide) ?_
  refine lv_iadd hx hb d_AL_grow_0_6 ?_
  refine W.eq (g2 := F0 m 7 ls [.int (nI (cap + 1)), .ref h0]) (by rw [nI_1]) ?_
  have hpm : ([(h0, .inr (1, [.int mo, .ref ed, .int (nI cap)])), (ed, .inl (G.2 0, cap, .inr (.inr (.inr (.inr f)))))] : va_W).Perm ([(h0, .inr (1, [.int mo, .ref ed, .int (nI cap)])), (ed, .inl (G.2 0, cap, .inr (.inr (.inr (.inr f)))))] ++ []) := List.Perm.refl _
  have hPc := bx_PR hpm hP
  have hDc := bx_DR hpm hD
  have hXc : XE e0 mi0 els (va_A [(h0, .inr (1, [.int mo, .ref ed, .int (nI cap)])), (ed, .inl (G.2 0, cap, .inr (.inr (.inr (.inr f)))))] s.heap.size) s s.heap := (hX.kept hS.2.1).narrow (bx_freeR hpm hD hS hA)
  refine bx_callA (va_runV (As := [.int (nI (cap + 1))]) (rest := []) ⟨hx, hb, hml, hown, hts⟩ (c_grow1C l G s.heap.size e0 mi0 h0 ed mo cap c2 f els hcc hf) ⟨(callB_of 1 hts (gi_all wd_205) rfl rfl rfl (hT _ wd_48) (hT _ wd_202) (by decide +kernel) ⟨Nat.le_of_ble_eq_true rfl, Nat.le_of_ble_eq_true rfl⟩), (hT _ wd_204), (hT _ wd_2)⟩ (pvX hPc hGK hDc hXc (va_recv hK hPc (ci := 1) (q0 := 0) rfl rfl)) rfl rfl hl.1 rfl (lv_room (Nat.le_of_ble_eq_true rfl)) d_AL_grow_0_7 ⟨Nat.le_of_ble_eq_true rfl, Nat.le_of_ble_eq_true rfl⟩) hpm hP hD hS hA (fun u H locs hu hP hD hS => ?_)
  obtain ⟨q9, f9⟩ := u
  have hP : va_P G.1 vwCl [(h0, .inr (1, [.int mo, .ref q9, .int (nI cap)])), (q9, .inl (G.2 0, c2, .inr (.inr (.inr (.inr f9)))))] H := hP
  have hD : va_D A [(h0, .inr (1, [.int mo, .ref q9, .int (nI cap)])), (q9, .inl (G.2 0, c2, .inr (.inr (.inr (.inr f9)))))] := hD
  refine W.eq (g2 := F0 m 10 ls [.ref q9]) rfl ?_
  refine W.widen (k := 1) (n := 22) (Nat.le_of_ble_eq_true rfl) (Nat.le_of_ble_eq_true rfl) ?_
  exact W.aret (v := .ref q9) hx hb hr (Or.inr ⟨_, rfl⟩) (Or.inr ⟨_, rfl⟩) (fun t ht hW => ⟨⟨(q9, f9), rfl, by rw [ht]; exact hP, by rw [hAe]; exact hD, hu⟩, by rw [hAe]; exact hS.F ht⟩) hS.2.2 d_AL_grow_0_10
