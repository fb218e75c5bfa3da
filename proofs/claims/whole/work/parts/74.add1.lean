set_option maxHeartbeats 4000000 in
set_option maxRecDepth 100000 in
theorem c_add1A (l : Launch) (G : GG) (sz : Nat) (e0 mi0 : Nat) (h0 : Nat) (mo : Int32) (els : List Nat) (q : Nat) (hq : q ∈ els) : Met l y_AL_add_0 w_AL_add_0 ({ frames := 4, cells := 1, slots := 22, locals := 80 }) (va_Pc [.ref h0, .ref q] (PwX G sz e0 mi0 els [(h0, .inr (1, [.int mo, .ref e0, .int (nI 0)]))])) (QA (S := Nat × (Nat → Option Nat)) G (fun _ => some (.int 1)) [(h0, .inr (1, [.int mo, .ref e0, .int (nI 0)]))] (fun u => [(h0, .inr (1, [.int (mo + 1), .ref u.1, .int (nI (0 + 1))])), (u.1, .inl (G.2 0, 10, .inr (.inr (.inr (.inr u.2)))))]) (fun u => u.2 0 = some q) sz) 1 22 (va_A [(h0, .inr (1, [.int mo, .ref e0, .int (nI 0)]))] sz) := by
  refine Met.ofW (cc := b_AL_add_0) (maxL := 2) (ret := (some .boolean)) (by decide) rfl ?_
  intro p e s m args below meth c s₁ B hml hv
  obtain ⟨rfl, ⟨hsz, hP, hGK, hD0⟩, hX⟩ := hv
  have hx := B.exec
  have hb := B.bytes
  have hr := B.returns
  have hts := atoms_spec (ws := w_AL_add_0) B.pre
  have hT : ∀ w ∈ lwG, w.before _ s = true := fun w h => hts w (List.mem_cons_of_mem _ h)
  have hown : s.vm.findClass R_AL = some m.cls := findClass_of_methodNamed B.named
  have hlocks := B.notSynchronized
  have hK := hGK.1
  have hN := hGK.2
  subst hsz
  have hD := hD0.self (sz := s.heap.size)
  generalize hAe : va_A [(h0, .inr (1, [.int mo, .ref e0, .int (nI 0)]))] s.heap.size = A at hD hX ⊢
  have hA : ∀ q : Nat, s.heap.size ≤ q → A q := fun q h => by rw [← hAe]; exact Or.inr h
  have hS : va_S A s.heap s.heap [] := va_S.rf
  have hP : va_P G.1 vwCl [(h0, .inr (1, [.int mo, .ref e0, .int (nI 0)]))] s.heap := hP
  have hl := lv_entry ([.ref h0, .ref q]) (n := 2) (Nat.le_of_ble_eq_true rfl)
  rw [lg_entry_eq]
  generalize (lg_sl ([.ref h0, .ref q]) ++ List.replicate (2 - (lg_sl ([.ref h0, .ref q])).length) Slot.unset).toArray = ls at hl ⊢
  have hl : lv_has ls 2 [(0, .ref h0), (1, .ref q)] := hl
  refine lv_aload_n hx hb d_AL_add_0_0 rfl (lv_at hl 0 rfl) ?_
  refine lv_dup hx hb d_AL_add_0_1 rfl ?_
  refine va_get (D := G.1) (ci := 1) (v := .int mo) (C := R_AL) (T := T_AL) (N := 3) hx hb hT in_AL hown hK hP 0 rfl rfl 0 (by decide) (hT _ wd_90) (u_same (hT _ wd_91)) rfl d_AL_add_0_2 ?_
  refine lv_iconst (v := 1) hx hb d_AL_add_0_5 (by decide) ?_
  refine lv_iadd hx hb d_AL_add_0_6 ?_
  refine va_put (D := G.1) (ci := 1) (v := .int (mo + 1)) (ty := .int) (C := R_AL) (T := T_AL) (N := 3) hx hb hT in_AL t_AL tok_AL nok_AL hown hK hP hD hS 0 rfl rfl 0 (by decide) (hT _ wd_90) (u_same (hT _ wd_91)) rfl (by decide +kernel) rfl rfl (Nat.le_of_ble_eq_true rfl) d_AL_add_0_7 (fun H locs hP hD hS => ?_)
  have hP : va_P G.1 vwCl [(h0, .inr (1, [.int (mo + 1), .ref e0, .int (nI 0)]))] H := hP
  have hD : va_D A [(h0, .inr (1, [.int (mo + 1), .ref e0, .int (nI 0)]))] := hD
  refine lv_aload_n hx hb d_AL_add_0_10 rfl (lv_at hl 0 rfl) ?_
  refine lv_aload_n hx hb d_AL_add_0_11 rfl (lv_at hl 1 rfl) ?_
  refine lv_aload_n hx hb d_AL_add_0_12 rfl (lv_at hl 0 rfl) ?_
  refine va_get (D := G.1) (ci := 1) (v := .ref e0) (C := R_AL) (T := T_AL) (N := 3) hx hb hT in_AL hown hK hP 0 rfl rfl 1 (by decide) (hT _ wd_87) (fun _ h9 => h9) rfl d_AL_add_0_13 ?_
  refine lv_aload_n hx hb d_AL_add_0_16 rfl (lv_at hl 0 rfl) ?_
  refine va_get (D := G.1) (ci := 1) (v := .int (nI 0)) (C := R_AL) (T := T_AL) (N := 3) hx hb hT in_AL hown hK hP 0 rfl rfl 2 (by decide) (hT _ wd_88) (fun _ h9 => h9) rfl d_AL_add_0_17 ?_
  have hpm : ([(h0, .inr (1, [.int (mo + 1), .ref e0, .int (nI 0)]))] : va_W).Perm ([(h0, .inr (1, [.int (mo + 1), .ref e0, .int (nI 0)]))] ++ []) := List.Perm.refl _
  have hPc := bx_PR hpm hP
  have hDc := bx_DR hpm hD
  have hXc : XE e0 mi0 els (va_A [(h0, .inr (1, [.int (mo + 1), .ref e0, .int (nI 0)]))] H.size) s H := (hX.kept hS.2.1).narrow (bx_freeR hpm hD hS hA)
  refine bx_callA (va_runV (As := [.ref q, .ref e0, .int (nI 0)]) (rest := []) ⟨hx, hb, hml, hown, hts⟩ (c_add3A l G H.size e0 mi0 h0 (mo + 1) els q hq) ⟨(callB_of 3 hts (gi_all wd_197) rfl rfl rfl (hT _ wd_48) (hT _ wd_194) (by decide +kernel) ⟨Nat.le_of_ble_eq_true rfl, Nat.le_of_ble_eq_true rfl⟩), (hT _ wd_196), (hT _ wd_0)⟩ (pvX hPc hGK hDc hXc (va_recv hK hPc (ci := 1) (q0 := 0) rfl rfl)) rfl rfl hl.1 rfl (lv_room (Nat.le_of_ble_eq_true rfl)) d_AL_add_0_20 ⟨Nat.le_of_ble_eq_true rfl, Nat.le_of_ble_eq_true rfl⟩) hpm hP hD hS hA (fun u H locs hu hP hD hS => ?_)
  obtain ⟨q9, f9⟩ := u
  have hP : va_P G.1 vwCl [(h0, .inr (1, [.int (mo + 1), .ref q9, .int (nI (0 + 1))])), (q9, .inl (G.2 0, 10, .inr (.inr (.inr (.inr f9)))))] H := hP
  have hD : va_D A [(h0, .inr (1, [.int (mo + 1), .ref q9, .int (nI (0 + 1))])), (q9, .inl (G.2 0, 10, .inr (.inr (.inr (.inr f9)))))] := hD
  refine W.eq (g2 := F0 m 23 ls []) rfl ?_
  refine lv_iconst (v := 1) hx hb d_AL_add_0_23 (by decide) ?_
  refine W.widen (k := 1) (n := 22) (Nat.le_of_ble_eq_true rfl) (Nat.le_of_ble_eq_true rfl) ?_
  exact W.zret (v := 1) hx hb hr rfl (fun t ht hW => ⟨⟨(q9, f9), rfl, by rw [ht]; exact hP, by rw [hAe]; exact hD, hu⟩, by rw [hAe]; exact hS.F ht⟩) hS.2.2 d_AL_add_0_24
set_option maxHeartbeats 4000000 in
set_option maxRecDepth 100000 in
theorem c_add1B (l : Launch) (G : GG) (sz : Nat) (e0 mi0 : Nat) (h0 : Nat) (ed : Nat) (mo : Int32) (n : Nat) (cap : Nat) (f : Nat → Option Nat) (els : List Nat) (q : Nat) (hnc : n < cap) (hcap : cap ≤ 22) (hq : q ∈ els) : Met l y_AL_add_0 w_AL_add_0 ({ frames := 1, cells := 1, slots := 22, locals := 23 }) (va_Pc [.ref h0, .ref q] (PwX G sz e0 mi0 els [(h0, .inr (1, [.int mo, .ref ed, .int (nI n)])), (ed, .inl (G.2 0, cap, .inr (.inr (.inr (.inr f)))))])) (QA (S := Nat × (Nat → Option Nat)) G (fun _ => some (.int 1)) [(h0, .inr (1, [.int mo, .ref ed, .int (nI n)])), (ed, .inl (G.2 0, cap, .inr (.inr (.inr (.inr f)))))] (fun u => [(h0, .inr (1, [.int (mo + 1), .ref u.1, .int (nI (n + 1))])), (u.1, .inl (G.2 0, cap, .inr (.inr (.inr (.inr u.2)))))]) (fun u => (∀ i, i < n → u.2 i = f i) ∧ u.2 n = some q) sz) 1 22 (va_A [(h0, .inr (1, [.int mo, .ref ed, .int (nI n)])), (ed, .inl (G.2 0, cap, .inr (.inr (.inr (.inr f)))))] sz) := by
  refine Met.ofW (cc := b_AL_add_0) (maxL := 2) (ret := (some .boolean)) (by decide) rfl ?_
  intro p e s m args below meth c s₁ B hml hv
  obtain ⟨rfl, ⟨hsz, hP, hGK, hD0⟩, hX⟩ := hv
  have hx := B.exec
  have hb := B.bytes
  have hr := B.returns
  have hts := atoms_spec (ws := w_AL_add_0) B.pre
  have hT : ∀ w ∈ lwG, w.before _ s = true := fun w h => hts w (List.mem_cons_of_mem _ h)
  have hown : s.vm.findClass R_AL = some m.cls := findClass_of_methodNamed B.named
  have hlocks := B.notSynchronized
  have hK := hGK.1
  have hN := hGK.2
  subst hsz
  have hD := hD0.self (sz := s.heap.size)
  generalize hAe : va_A [(h0, .inr (1, [.int mo, .ref ed, .int (nI n)])), (ed, .inl (G.2 0, cap, .inr (.inr (.inr (.inr f)))))] s.heap.size = A at hD hX ⊢
  have hA : ∀ q : Nat, s.heap.size ≤ q → A q := fun q h => by rw [← hAe]; exact Or.inr h
  have hS : va_S A s.heap s.heap [] := va_S.rf
  have hP : va_P G.1 vwCl [(h0, .inr (1, [.int mo, .ref ed, .int (nI n)])), (ed, .inl (G.2 0, cap, .inr (.inr (.inr (.inr f)))))] s.heap := hP
  have hl := lv_entry ([.ref h0, .ref q]) (n := 2) (Nat.le_of_ble_eq_true rfl)
  rw [lg_entry_eq]
  generalize (lg_sl ([.ref h0, .ref q]) ++ List.replicate (2 - (lg_sl ([.ref h0, .ref q])).length) Slot.unset).toArray = ls at hl ⊢
  have hl : lv_has ls 2 [(0, .ref h0), (1, .ref q)] := hl
  refine lv_aload_n hx hb d_AL_add_0_0 rfl (lv_at hl 0 rfl) ?_
  refine lv_dup hx hb d_AL_add_0_1 rfl ?_
  refine va_get (D := G.1) (ci := 1) (v := .int mo) (C := R_AL) (T := T_AL) (N := 3) hx hb hT in_AL hown hK hP 0 rfl rfl 0 (by decide) (hT _ wd_90) (u_same (hT _ wd_91)) rfl d_AL_add_0_2 ?_
  refine lv_iconst (v := 1) hx hb d_AL_add_0_5 (by decide) ?_
  refine lv_iadd hx hb d_AL_add_0_6 ?_
  refine va_put (D := G.1) (ci := 1) (v := .int (mo + 1)) (ty := .int) (C := R_AL) (T := T_AL) (N := 3) hx hb hT in_AL t_AL tok_AL nok_AL hown hK hP hD hS 0 rfl rfl 0 (by decide) (hT _ wd_90) (u_same (hT _ wd_91)) rfl (by decide +kernel) rfl rfl (Nat.le_of_ble_eq_true rfl) d_AL_add_0_7 (fun H locs hP hD hS => ?_)
  have hP : va_P G.1 vwCl [(h0, .inr (1, [.int (mo + 1), .ref ed, .int (nI n)])), (ed, .inl (G.2 0, cap, .inr (.inr (.inr (.inr f)))))] H := hP
  have hD : va_D A [(h0, .inr (1, [.int (mo + 1), .ref ed, .int (nI n)])), (ed, .inl (G.2 0, cap, .inr (.inr (.inr (.inr f)))))] := hD
  refine lv_aload_n hx hb d_AL_add_0_10 rfl (lv_at hl 0 rfl) ?_
  refine lv_aload_n hx hb d_AL_add_0_11 rfl (lv_at hl 1 rfl) ?_
  refine lv_aload_n hx hb d_AL_add_0_12 rfl (lv_at hl 0 rfl) ?_
  refine va_get (D := G.1) (ci := 1) (v := .ref ed) (C := R_AL) (T := T_AL) (N := 3) hx hb hT in_AL hown hK hP 0 rfl rfl 1 (by decide) (hT _ wd_87) (fun _ h9 => h9) rfl d_AL_add_0_13 ?_
  refine lv_aload_n hx hb d_AL_add_0_16 rfl (lv_at hl 0 rfl) ?_
  refine va_get (D := G.1) (ci := 1) (v := .int (nI n)) (C := R_AL) (T := T_AL) (N := 3) hx hb hT in_AL hown hK hP 0 rfl rfl 2 (by decide) (hT _ wd_88) (fun _ h9 => h9) rfl d_AL_add_0_17 ?_
  have hpm : ([(h0, .inr (1, [.int (mo + 1), .ref ed, .int (nI n)])), (ed, .inl (G.2 0, cap, .inr (.inr (.inr (.inr f)))))] : va_W).Perm ([(h0, .inr (1, [.int (mo + 1), .ref ed, .int (nI n)])), (ed, .inl (G.2 0, cap, .inr (.inr (.inr (.inr f)))))] ++ []) := List.Perm.refl _
  have hPc := bx_PR hpm hP
  have hDc := bx_DR hpm hD
  have hXc : XE e0 mi0 els (va_A [(h0, .inr (1, [.int (mo + 1), .ref ed, .int (nI n)])), (ed, .inl (G.2 0, cap, .inr (.inr (.inr (.inr f)))))] H.size) s H := (hX.kept hS.2.1).narrow (bx_freeR hpm hD hS hA)
  refine bx_callA (va_runV (As := [.ref q, .ref ed, .int (nI n)]) (rest := []) ⟨hx, hb, hml, hown, hts⟩ (c_add3B l G H.size e0 mi0 h0 ed (mo + 1) n cap f els q hnc hcap hq) ⟨(callB_of 3 hts (gi_all wd_197) rfl rfl rfl (hT _ wd_48) (hT _ wd_194) (by decide +kernel) ⟨Nat.le_of_ble_eq_true rfl, Nat.le_of_ble_eq_true rfl⟩), (hT _ wd_196), (hT _ wd_0)⟩ (pvX hPc hGK hDc hXc (va_recv hK hPc (ci := 1) (q0 := 0) rfl rfl)) rfl rfl hl.1 rfl (lv_room (Nat.le_of_ble_eq_true rfl)) d_AL_add_0_20 ⟨Nat.le_of_ble_eq_true rfl, Nat.le_of_ble_eq_true rfl⟩) hpm hP hD hS hA (fun u H locs hu hP hD hS => ?_)
  obtain ⟨q9, f9⟩ := u
  have hP : va_P G.1 vwCl [(h0, .inr (1, [.int (mo + 1), .ref q9, .int (nI (n + 1))])), (q9, .inl (G.2 0, cap, .inr (.inr (.inr (.inr f9)))))] H := hP
  have hD : va_D A [(h0, .inr (1, [.int (mo + 1), .ref q9, .int (nI (n + 1))])), (q9, .inl (G.2 0, cap, .inr (.inr (.inr (.inr f9)))))] := hD
  refine W.eq (g2 := F0 m 23 ls []) rfl ?_
  refine lv_iconst (v := 1) hx hb d_AL_add_0_23 (by decide) ?_
  refine W.widen (k := 1) (n := 22) (Nat.le_of_ble_eq_true rfl) (Nat.le_of_ble_eq_true rfl) ?_
  exact W.zret (v := 1) hx hb hr rfl (fun t ht hW => ⟨⟨(q9, f9), rfl, by rw [ht]; exact hP, by rw [hAe]; exact hD, hu⟩, by rw [hAe]; exact hS.F ht⟩) hS.2.2 d_AL_add_0_24
set_option maxHeartbeats 4000000 in
set_option maxRecDepth 100000 in
theorem c_add1C (l : Launch) (G : GG) (sz : Nat) (e0 mi0 : Nat) (h0 : Nat) (ed : Nat) (mo : Int32) (cap : Nat) (c2 : Nat) (f : Nat → Option Nat) (els : List Nat) (q : Nat) (hcc : (cap = 10 ∧ c2 = 15) ∨ (cap = 15 ∧ c2 = 22)) (hf : ∀ i, i < cap → ∀ y, f i = some y → y ∈ els) (hq : q ∈ els) : Met l y_AL_add_0 w_AL_add_0 ({ frames := 6, cells := 1, slots := 22, locals := 140 }) (va_Pc [.ref h0, .ref q] (PwX G sz e0 mi0 els [(h0, .inr (1, [.int mo, .ref ed, .int (nI cap)])), (ed, .inl (G.2 0, cap, .inr (.inr (.inr (.inr f)))))])) (QA (S := Nat × (Nat → Option Nat)) G (fun _ => some (.int 1)) [(h0, .inr (1, [.int mo, .ref ed, .int (nI cap)])), (ed, .inl (G.2 0, cap, .inr (.inr (.inr (.inr f)))))] (fun u => [(h0, .inr (1, [.int (mo + 1), .ref u.1, .int (nI (cap + 1))])), (u.1, .inl (G.2 0, c2, .inr (.inr (.inr (.inr u.2)))))]) (fun u => (∀ i, i < cap → u.2 i = f i) ∧ u.2 cap = some q) sz) 1 22 (va_A [(h0, .inr (1, [.int mo, .ref ed, .int (nI cap)])), (ed, .inl (G.2 0, cap, .inr (.inr (.inr (.inr f)))))] sz) := by
  refine Met.ofW (cc := b_AL_add_0) (maxL := 2) (ret := (some .boolean)) (by decide) rfl ?_
  intro p e s m args below meth c s₁ B hml hv
  obtain ⟨rfl, ⟨hsz, hP, hGK, hD0⟩, hX⟩ := hv
  have hx := B.exec
  have hb := B.bytes
  have hr := B.returns
  have hts := atoms_spec (ws := w_AL_add_0) B.pre
  have hT : ∀ w ∈ lwG, w.before _ s = true := fun w h => hts w (List.mem_cons_of_mem _ h)
  have hown : s.vm.findClass R_AL = some m.cls := findClass_of_methodNamed B.named
  have hlocks := B.notSynchronized
  have hK := hGK.1
  have hN := hGK.2
  subst hsz
  have hD := hD0.self (sz := s.heap.size)
  generalize hAe : va_A [(h0, .inr (1, [.int mo, .ref ed, .int (nI cap)])), (ed, .inl (G.2 0, cap, .inr (.inr (.inr (.inr f)))))] s.heap.size = A at hD hX ⊢
  have hA : ∀ q : Nat, s.heap.size ≤ q → A q := fun q h => by rw [← hAe]; exact Or.inr h
  have hS : va_S A s.heap s.heap [] := va_S.rf
  have hP : va_P G.1 vwCl [(h0, .inr (1, [.int mo, .ref ed, .int (nI cap)])), (ed, .inl (G.2 0, cap, .inr (.inr (.inr (.inr f)))))] s.heap := hP
  have hl := lv_entry ([.ref h0, .ref q]) (n := 2) (Nat.le_of_ble_eq_true rfl)
  rw [lg_entry_eq]
  generalize (lg_sl ([.ref h0, .ref q]) ++ List.replicate (2 - (lg_sl ([.ref h0, .ref q])).length) Slot.unset).toArray = ls at hl ⊢
  have hl : lv_has ls 2 [(0, .ref h0), (1, .ref q)] := hl
  refine lv_aload_n hx hb d_AL_add_0_0 rfl (lv_at hl 0 rfl) ?_
  refine lv_dup hx hb d_AL_add_0_1 rfl ?_
  refine va_get (D := G.1) (ci := 1) (v := .int mo) (C := R_AL) (T := T_AL) (N := 3) hx hb hT in_AL hown hK hP 0 rfl rfl 0 (by decide) (hT _ wd_90) (u_same (hT _ wd_91)) rfl d_AL_add_0_2 ?_
  refine lv_iconst (v := 1) hx hb d_AL_add_0_5 (by decide) ?_
  refine lv_iadd hx hb d_AL_add_0_6 ?_
  refine va_put (D := G.1) (ci := 1) (v := .int (mo + 1)) (ty := .int) (C := R_AL) (T := T_AL) (N := 3) hx hb hT in_AL t_AL tok_AL nok_AL hown hK hP hD hS 0 rfl rfl 0 (by decide) (hT _ wd_90) (u_same (hT _ wd_91)) rfl (by decide +kernel) rfl rfl (Nat.le_of_ble_eq_true rfl) d_AL_add_0_7 (fun H locs hP hD hS => ?_)
  have hP : va_P G.1 vwCl [(h0, .inr (1, [.int (mo + 1), .ref ed, .int (nI cap)])), (ed, .inl (G.2 0, cap, .inr (.inr (.inr (.inr f)))))] H := hP
  have hD : va_D A [(h0, .inr (1, [.int (mo + 1), .ref ed, .int (nI cap)])), (ed, .inl (G.2 0, cap, .inr (.inr (.inr (.inr f)))))] := hD
  refine lv_aload_n hx hb d_AL_add_0_10 rfl (lv_at hl 0 rfl) ?_
  refine lv_aload_n hx hb d_AL_add_0_11 rfl (lv_at hl 1 rfl) ?_
  refine lv_aload_n hx hb d_AL_add_0_12 rfl (lv_at hl 0 rfl) ?_
  refine va_get (D := G.1) (ci := 1) (v := .ref ed) (C := R_AL) (T := T_AL) (N := 3) hx hb hT in_AL hown hK hP 0 rfl rfl 1 (by decide) (hT _ wd_87) (fun _ h9 => h9) rfl d_AL_add_0_13 ?_
  refine lv_aload_n hx hb d_AL_add_0_16 rfl (lv_at hl 0 rfl) ?_
  refine va_get (D := G.1) (ci := 1) (v := .int (nI cap)) (C := R_AL) (T := T_AL) (N := 3) hx hb hT in_AL hown hK hP 0 rfl rfl 2 (by decide) (hT _ wd_88) (fun _ h9 => h9) rfl d_AL_add_0_17 ?_
  have hpm : ([(h0, .inr (1, [.int (mo + 1), .ref ed, .int (nI cap)])), (ed, .inl (G.2 0, cap, .inr (.inr (.inr (.inr f)))))] : va_W).Perm ([(h0, .inr (1, [.int (mo + 1), .ref ed, .int (nI cap)])), (ed, .inl (G.2 0, cap, .inr (.inr (.inr (.inr f)))))] ++ []) := List.Perm.refl _
  have hPc := bx_PR hpm hP
  have hDc := bx_DR hpm hD
  have hXc : XE e0 mi0 els (va_A [(h0, .inr (1, [.int (mo + 1), .ref ed, .int (nI cap)])), (ed, .inl (G.2 0, cap, .inr (.inr (.inr (.inr f)))))] H.size) s H := (hX.kept hS.2.1).narrow (bx_freeR hpm hD hS hA)
  refine bx_callA (va_runV (As := [.ref q, .ref ed, .int (nI cap)]) (rest := []) ⟨hx, hb, hml, hown, hts⟩ (c_add3C l G H.size e0 mi0 h0 ed (mo + 1) cap c2 f els q hcc hf hq) ⟨(callB_of 3 hts (gi_all wd_197) rfl rfl rfl (hT _ wd_48) (hT _ wd_194) (by decide +kernel) ⟨Nat.le_of_ble_eq_true rfl, Nat.le_of_ble_eq_true rfl⟩), (hT _ wd_196), (hT _ wd_0)⟩ (pvX hPc hGK hDc hXc (va_recv hK hPc (ci := 1) (q0 := 0) rfl rfl)) rfl rfl hl.1 rfl (lv_room (Nat.le_of_ble_eq_true rfl)) d_AL_add_0_20 ⟨Nat.le_of_ble_eq_true rfl, Nat.le_of_ble_eq_true rfl⟩) hpm hP hD hS hA (fun u H locs hu hP hD hS => ?_)
  obtain ⟨q9, f9⟩ := u
  have hP : va_P G.1 vwCl [(h0, .inr (1, [.int (mo + 1), .ref q9, .int (nI (cap + 1))])), (q9, .inl (G.2 0, c2, .inr (.inr (.inr (.inr f9)))))] H := hP
  have hD : va_D A [(h0, .inr (1, [.int (mo + 1), .ref q9, .int (nI (cap + 1))])), (q9, .inl (G.2 0, c2, .inr (.inr (.inr (.inr f9)))))] := hD
  refine W.eq (g2 := F0 m 23 ls []) rfl ?_
  refine lv_iconst (v := 1) hx hb d_AL_add_0_23 (by decide) ?_
  refine W.widen (k := 1) (n := 22) (Nat.le_of_ble_eq_true rfl) (Nat.le_of_ble_eq_true rfl) ?_
  exact W.zret (v := 1) hx hb hr rfl (fun t ht hW => ⟨⟨(q9, f9), rfl, by rw [ht]; exact hP, by rw [hAe]; exact hD, hu⟩, by rw [hAe]; exact hS.F ht⟩) hS.2.2 d_AL_add_0_24
