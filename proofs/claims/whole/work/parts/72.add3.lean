set_option maxHeartbeats 4000000 in
set_option maxRecDepth 100000 in
theorem c_add3A (l : Launch) (G : GG) (sz : Nat) (e0 mi0 : Nat) (h0 : Nat) (mo : Int32) (els : List Nat) (q : Nat) (hq : q ∈ els) : Met l y_AL_add_1 w_AL_add_1 ({ frames := 3, cells := 1, slots := 22, locals := 57 }) (va_Pc [.ref h0, .ref q, .ref e0, .int (nI 0)] (PwX G sz e0 mi0 els [(h0, .inr (1, [.int mo, .ref e0, .int (nI 0)]))])) (QA (S := Nat × (Nat → Option Nat)) G (fun _ => none) [(h0, .inr (1, [.int mo, .ref e0, .int (nI 0)]))] (fun u => [(h0, .inr (1, [.int mo, .ref u.1, .int (nI (0 + 1))])), (u.1, .inl (G.2 0, 10, .inr (.inr (.inr (.inr u.2)))))]) (fun u => u.2 0 = some q) sz) 1 22 (va_A [(h0, .inr (1, [.int mo, .ref e0, .int (nI 0)]))] sz) := by
  refine Met.ofW (cc := b_AL_add_1) (maxL := 4) (ret := none) (by decide) rfl ?_
  intro p e s m args below meth c s₁ B hml hv
  obtain ⟨rfl, ⟨hsz, hP, hGK, hD0⟩, hX⟩ := hv
  have hx := B.exec
  have hb := B.bytes
  have hr := B.returns
  have hts := atoms_spec (ws := w_AL_add_1) B.pre
  have hT : ∀ w ∈ lwG, w.before _ s = true := fun w h => hts w (List.mem_cons_of_mem _ h)
  have hown : s.vm.findClass R_AL = some m.cls := findClass_of_methodNamed B.named
  have hlocks := B.notSynchronized
  have hK := hGK.1
  have hN := hGK.2
  subst hsz
  have hD := hD0.self (sz := s.heap.size)
  generalize hAe : va_A [(h0, .inr (1, [.int mo, .ref e0, .int (nI 0)]))] s.heap.size = A at hD hX ⊢
  have hA : ∀ q : Nat, s.heap.size ≤ q → A q := fun q h => by rw [← hAe]; exact Or.inr h
  have hS : va_S A s.heap s.heap [] := va_S.rf
  have hP : va_P G.1 vwCl [(h0, .inr (1, [.int mo, .ref e0, .int (nI 0)]))] s.heap := hP
  have hl := lv_entry ([.ref h0, .ref q, .ref e0, .int (nI 0)]) (n := 4) (Nat.le_of_ble_eq_true rfl)
  rw [lg_entry_eq]
  generalize (lg_sl ([.ref h0, .ref q, .ref e0, .int (nI 0)]) ++ List.replicate (4 - (lg_sl ([.ref h0, .ref q, .ref e0, .int (nI 0)])).length) Slot.unset).toArray = ls at hl ⊢
  have hl : lv_has ls 4 [(0, .ref h0), (1, .ref q), (2, .ref e0), (3, .int (nI 0))] := hl
  refine lv_iload_n hx hb d_AL_add_1_0 rfl (lv_at hl 3 rfl) ?_
  refine lv_aload_n hx hb d_AL_add_1_1 rfl (lv_at hl 2 rfl) ?_
  refine va_tlen (v := 0) hx hb hX.1.2.1 hS (by decide) d_AL_add_1_2 ?_
  refine lv_icmp_ne (tgt := 11) hx hb d_AL_add_1_3 (by decide) (fun c_3 => ?_) (fun c_3 => ?_)
  · exact absurd nI_0 c_3
  · refine lv_aload_n hx hb d_AL_add_1_6 rfl (lv_at hl 0 rfl) ?_
    have hpm : ([(h0, .inr (1, [.int mo, .ref e0, .int (nI 0)]))] : va_W).Perm ([(h0, .inr (1, [.int mo, .ref e0, .int (nI 0)]))] ++ []) := List.Perm.refl _
    have hPc := bx_PR hpm hP
    have hDc := bx_DR hpm hD
    have hXc : XE e0 mi0 els (va_A [(h0, .inr (1, [.int mo, .ref e0, .int (nI 0)]))] s.heap.size) s s.heap := (hX.kept hS.2.1).narrow (bx_freeR hpm hD hS hA)
    refine bx_callA (va_runV (As := []) (rest := []) ⟨hx, hb, hml, hown, hts⟩ (c_grow0A l G s.heap.size e0 mi0 h0 mo els) ⟨(callB_of 0 hts (gi_all wd_201) rfl rfl rfl (hT _ wd_48) (hT _ wd_198) (by decide +kernel) ⟨Nat.le_of_ble_eq_true rfl, Nat.le_of_ble_eq_true rfl⟩), (hT _ wd_200), (hT _ wd_1)⟩ (pvX hPc hGK hDc hXc (va_recv hK hPc (ci := 1) (q0 := 0) rfl rfl)) rfl rfl hl.1 rfl (lv_room (Nat.le_of_ble_eq_true rfl)) d_AL_add_1_7 ⟨Nat.le_of_ble_eq_true rfl, Nat.le_of_ble_eq_true rfl⟩) hpm hP hD hS hA (fun u H locs hu hP hD hS => ?_)
    obtain ⟨q9, f9⟩ := u
    have hP : va_P G.1 vwCl [(h0, .inr (1, [.int mo, .ref q9, .int (nI 0)])), (q9, .inl (G.2 0, 10, .inr (.inr (.inr (.inr f9)))))] H := hP
    have hD : va_D A [(h0, .inr (1, [.int mo, .ref q9, .int (nI 0)])), (q9, .inl (G.2 0, 10, .inr (.inr (.inr (.inr f9)))))] := hD
    refine W.eq (g2 := F0 m 10 ls [.ref q9]) rfl ?_
    refine lv_astore_n (lv' := [(2, .ref q9), (0, .ref h0), (1, .ref q), (3, .int (nI 0))]) hx hb d_AL_add_1_10 rfl hl (by decide) rfl (fun ls hl => ?_)
    refine lv_aload_n hx hb d_AL_add_1_11 rfl (lv_at hl 0 rfl) ?_
    refine lv_iload_n hx hb d_AL_add_1_12 rfl (lv_at hl 3 rfl) ?_
    refine lv_aload_n hx hb d_AL_add_1_13 rfl (lv_at hl 2 rfl) ?_
    refine va_astqM hx hb hK hP hD hS 1 0 (E := "java/lang/Object") rfl rfl ((hX.kept hS.2.1).2 q hq).1 (vp_in_nI (by omega) (by omega)) d_AL_add_1_14 (fun H locs hP hD hS => ?_)
    rw [nI_clamp (by omega)] at hP hD
    have hP : va_P G.1 vwCl [(h0, .inr (1, [.int mo, .ref q9, .int (nI 0)])), (q9, .inl (G.2 0, 10, .inr (.inr (.inr (.inr (va_up f9 0 (some q)))))))] H := hP
    have hD : va_D A [(h0, .inr (1, [.int mo, .ref q9, .int (nI 0)])), (q9, .inl (G.2 0, 10, .inr (.inr (.inr (.inr (va_up f9 0 (some q)))))))] := hD
    refine lv_aload_n hx hb d_AL_add_1_15 rfl (lv_at hl 1 rfl) ?_
    refine lv_iload_n hx hb d_AL_add_1_16 rfl (lv_at hl 3 rfl) ?_
    refine lv_iconst (v := 1) hx hb d_AL_add_1_17 (by decide) ?_
    refine lv_iadd hx hb d_AL_add_1_18 ?_
    refine W.eq (g2 := F0 m 19 ls [.int (nI (0 + 1)), .ref h0]) (by rw [nI_1]) ?_
    refine va_put (D := G.1) (ci := 1) (v := .int (nI (0 + 1))) (ty := .int) (C := R_AL) (T := T_AL) (N := 3) hx hb hT in_AL t_AL tok_AL nok_AL hown hK hP hD hS 0 rfl rfl 2 (by decide) (hT _ wd_88) (fun _ h9 => h9) rfl (by decide +kernel) rfl rfl (Nat.le_of_ble_eq_true rfl) d_AL_add_1_19 (fun H locs hP hD hS => ?_)
    have hP : va_P G.1 vwCl [(h0, .inr (1, [.int mo, .ref q9, .int (nI (0 + 1))])), (q9, .inl (G.2 0, 10, .inr (.inr (.inr (.inr (va_up f9 0 (some q)))))))] H := hP
    have hD : va_D A [(h0, .inr (1, [.int mo, .ref q9, .int (nI (0 + 1))])), (q9, .inl (G.2 0, 10, .inr (.inr (.inr (.inr (va_up f9 0 (some q)))))))] := hD
    refine W.widen (k := 1) (n := 22) (Nat.le_of_ble_eq_true rfl) (Nat.le_of_ble_eq_true rfl) ?_
    exact W.vret hx hb hr (fun t ht hW => ⟨⟨(q9, va_up f9 0 (some q)), rfl, by rw [ht]; exact hP, by rw [hAe]; exact hD, show va_up f9 0 (some q) 0 = some q from va_up_self _ _ _⟩, by rw [hAe]; exact hS.F ht⟩) hS.2.2 d_AL_add_1_22
set_option maxHeartbeats 4000000 in
set_option maxRecDepth 100000 in
theorem c_add3B (l : Launch) (G : GG) (sz : Nat) (e0 mi0 : Nat) (h0 : Nat) (ed : Nat) (mo : Int32) (n : Nat) (cap : Nat) (f : Nat → Option Nat) (els : List Nat) (q : Nat) (hnc : n < cap) (hcap : cap ≤ 22) (hq : q ∈ els) : Met l y_AL_add_1 w_AL_add_1 ({ frames := 0, cells := 1, slots := 22, locals := 0 }) (va_Pc [.ref h0, .ref q, .ref ed, .int (nI n)] (PwX G sz e0 mi0 els [(h0, .inr (1, [.int mo, .ref ed, .int (nI n)])), (ed, .inl (G.2 0, cap, .inr (.inr (.inr (.inr f)))))])) (QA (S := Nat × (Nat → Option Nat)) G (fun _ => none) [(h0, .inr (1, [.int mo, .ref ed, .int (nI n)])), (ed, .inl (G.2 0, cap, .inr (.inr (.inr (.inr f)))))] (fun u => [(h0, .inr (1, [.int mo, .ref u.1, .int (nI (n + 1))])), (u.1, .inl (G.2 0, cap, .inr (.inr (.inr (.inr u.2)))))]) (fun u => (∀ i, i < n → u.2 i = f i) ∧ u.2 n = some q) sz) 1 22 (va_A [(h0, .inr (1, [.int mo, .ref ed, .int (nI n)])), (ed, .inl (G.2 0, cap, .inr (.inr (.inr (.inr f)))))] sz) := by
  refine Met.ofW (cc := b_AL_add_1) (maxL := 4) (ret := none) (by decide) rfl ?_
  intro p e s m args below meth c s₁ B hml hv
  obtain ⟨rfl, ⟨hsz, hP, hGK, hD0⟩, hX⟩ := hv
  have hx := B.exec
  have hb := B.bytes
  have hr := B.returns
  have hts := atoms_spec (ws := w_AL_add_1) B.pre
  have hT : ∀ w ∈ lwG, w.before _ s = true := fun w h => hts w (List.mem_cons_of_mem _ h)
  have hown : s.vm.findClass R_AL = some m.cls := findClass_of_methodNamed B.named
  have hlocks := B.notSynchronized
  have hK := hGK.1
  have hN := hGK.2
  subst hsz
  have hD := hD0.self (sz := s.heap.size)
  generalize hAe : va_A [(h0, .inr (1, [.int mo, .ref ed, .int (nI n)])), (ed, .inl (G.2 0, cap, .inr (.inr (.inr (.inr f)))))] s.heap.size = A at hD hX ⊢
  have hA : ∀ q : Nat, s.heap.size ≤ q → A q := fun q h => by rw [← hAe]; exact Or.inr h
  have hS : va_S A s.heap s.heap [] := va_S.rf
  have hP : va_P G.1 vwCl [(h0, .inr (1, [.int mo, .ref ed, .int (nI n)])), (ed, .inl (G.2 0, cap, .inr (.inr (.inr (.inr f)))))] s.heap := hP
  have hl := lv_entry ([.ref h0, .ref q, .ref ed, .int (nI n)]) (n := 4) (Nat.le_of_ble_eq_true rfl)
  rw [lg_entry_eq]
  generalize (lg_sl ([.ref h0, .ref q, .ref ed, .int (nI n)]) ++ List.replicate (4 - (lg_sl ([.ref h0, .ref q, .ref ed, .int (nI n)])).length) Slot.unset).toArray = ls at hl ⊢
  have hl : lv_has ls 4 [(0, .ref h0), (1, .ref q), (2, .ref ed), (3, .int (nI n))] := hl
  refine lv_iload_n hx hb d_AL_add_1_0 rfl (lv_at hl 3 rfl) ?_
  refine lv_aload_n hx hb d_AL_add_1_1 rfl (lv_at hl 2 rfl) ?_
  refine va_alen (v := nI cap) hx hb hK hP 1 0 rfl rfl rfl d_AL_add_1_2 ?_
  refine lv_icmp_ne (tgt := 11) hx hb d_AL_add_1_3 (by decide) (fun c_3 => ?_) (fun c_3 => ?_)
  · refine lv_aload_n hx hb d_AL_add_1_11 rfl (lv_at hl 2 rfl) ?_
    refine lv_iload_n hx hb d_AL_add_1_12 rfl (lv_at hl 3 rfl) ?_
    refine lv_aload_n hx hb d_AL_add_1_13 rfl (lv_at hl 1 rfl) ?_
    refine va_astqM hx hb hK hP hD hS 1 0 (E := "java/lang/Object") rfl rfl ((hX.kept hS.2.1).2 q hq).1 (vp_in_nI (by omega) (by omega)) d_AL_add_1_14 (fun H locs hP hD hS => ?_)
    rw [nI_clamp (by omega)] at hP hD
    have hP : va_P G.1 vwCl [(h0, .inr (1, [.int mo, .ref ed, .int (nI n)])), (ed, .inl (G.2 0, cap, .inr (.inr (.inr (.inr (va_up f n (some q)))))))] H := hP
    have hD : va_D A [(h0, .inr (1, [.int mo, .ref ed, .int (nI n)])), (ed, .inl (G.2 0, cap, .inr (.inr (.inr (.inr (va_up f n (some q)))))))] := hD
    refine lv_aload_n hx hb d_AL_add_1_15 rfl (lv_at hl 0 rfl) ?_
    refine lv_iload_n hx hb d_AL_add_1_16 rfl (lv_at hl 3 rfl) ?_
    refine lv_iconst (v := 1) hx hb d_AL_add_1_17 (by decide) ?_
    refine lv_iadd hx hb d_AL_add_1_18 ?_
    refine W.eq (g2 := F0 m 19 ls [.int (nI (n + 1)), .ref h0]) (by rw [nI_1]) ?_
    refine va_put (D := G.1) (ci := 1) (v := .int (nI (n + 1))) (ty := .int) (C := R_AL) (T := T_AL) (N := 3) hx hb hT in_AL t_AL tok_AL nok_AL hown hK hP hD hS 0 rfl rfl 2 (by decide) (hT _ wd_88) (fun _ h9 => h9) rfl (by decide +kernel) rfl rfl (Nat.le_of_ble_eq_true rfl) d_AL_add_1_19 (fun H locs hP hD hS => ?_)
    have hP : va_P G.1 vwCl [(h0, .inr (1, [.int mo, .ref ed, .int (nI (n + 1))])), (ed, .inl (G.2 0, cap, .inr (.inr (.inr (.inr (va_up f n (some q)))))))] H := hP
    have hD : va_D A [(h0, .inr (1, [.int mo, .ref ed, .int (nI (n + 1))])), (ed, .inl (G.2 0, cap, .inr (.inr (.inr (.inr (va_up f n (some q)))))))] := hD
    refine W.widen (k := 1) (n := 22) (Nat.le_of_ble_eq_true rfl) (Nat.le_of_ble_eq_true rfl) ?_
    exact W.vret hx hb hr (fun t ht hW => ⟨⟨(ed, va_up f n (some q)), rfl, by rw [ht]; exact hP, by rw [hAe]; exact hD, ⟨fun i hi => va_up_ne _ _ (by omega), va_up_self _ _ _⟩⟩, by rw [hAe]; exact hS.F ht⟩) hS.2.2 d_AL_add_1_22
  · exact absurd ((nI_eq (by omega) (by omega)).mp c_3) (by omega)
set_option maxHeartbeats 4000000 in
set_option maxRecDepth 100000 in
theorem c_add3C (l : Launch) (G : GG) (sz : Nat) (e0 mi0 : Nat) (h0 : Nat) (ed : Nat) (mo : Int32) (cap : Nat) (c2 : Nat) (f : Nat → Option Nat) (els : List Nat) (q : Nat) (hcc : (cap = 10 ∧ c2 = 15) ∨ (cap = 15 ∧ c2 = 22)) (hf : ∀ i, i < cap → ∀ y, f i = some y → y ∈ els) (hq : q ∈ els) : Met l y_AL_add_1 w_AL_add_1 ({ frames := 5, cells := 1, slots := 22, locals := 117 }) (va_Pc [.ref h0, .ref q, .ref ed, .int (nI cap)] (PwX G sz e0 mi0 els [(h0, .inr (1, [.int mo, .ref ed, .int (nI cap)])), (ed, .inl (G.2 0, cap, .inr (.inr (.inr (.inr f)))))])) (QA (S := Nat × (Nat → Option Nat)) G (fun _ => none) [(h0, .inr (1, [.int mo, .ref ed, .int (nI cap)])), (ed, .inl (G.2 0, cap, .inr (.inr (.inr (.inr f)))))] (fun u => [(h0, .inr (1, [.int mo, .ref u.1, .int (nI (cap + 1))])), (u.1, .inl (G.2 0, c2, .inr (.inr (.inr (.inr u.2)))))]) (fun u => (∀ i, i < cap → u.2 i = f i) ∧ u.2 cap = some q) sz) 1 22 (va_A [(h0, .inr (1, [.int mo, .ref ed, .int (nI cap)])), (ed, .inl (G.2 0, cap, .inr (.inr (.inr (.inr f)))))] sz) := by
  refine Met.ofW (cc := b_AL_add_1) (maxL := 4) (ret := none) (by decide) rfl ?_
  intro p e s m args below meth c s₁ B hml hv
  obtain ⟨rfl, ⟨hsz, hP, hGK, hD0⟩, hX⟩ := hv
  have hx := B.exec
  have hb := B.bytes
  have hr := B.returns
  have hts := atoms_spec (ws := w_AL_add_1) B.pre
  have hT : ∀ w ∈ lwG, w.before _ s = true := fun w h => hts w (List.mem_cons_of_mem _ h)
  have hown : s.vm.findClass R_AL = some m.cls := findClass_of_methodNamed B.named
  have hlocks := B.notSynchronized
  have hK := hGK.1
  have hN := hGK.2
  subst hsz
  have hD := hD0.self (sz := s.heap.size)
  generalize hAe : va_A [(h0, .inr (1, [.int mo, .ref ed, .int (nI cap)])), (ed, .inl (G.2 0, cap, .inr (.inr (.inr (.inr f)))))] s.heap.size = A at hD hX ⊢
  have hA : ∀ q : Nat, s.heap.size ≤ q → A q := fun q h => by rw [← hAe]; exact Or.inr h
  have hS : va_S A s.heap s.heap [] := va_S.rf
  have hP : va_P G.1 vwCl [(h0, .inr (1, [.int mo, .ref ed, .int (nI cap)])), (ed, .inl (G.2 0, cap, .inr (.inr (.inr (.inr f)))))] s.heap := hP
  have hl := lv_entry ([.ref h0, .ref q, .ref ed, .int (nI cap)]) (n := 4) (Nat.le_of_ble_eq_true rfl)
  rw [lg_entry_eq]
  generalize (lg_sl ([.ref h0, .ref q, .ref ed, .int (nI cap)]) ++ List.replicate (4 - (lg_sl ([.ref h0, .ref q, .ref ed, .int (nI cap)])).length) Slot.unset).toArray = ls at hl ⊢
  have hl : lv_has ls 4 [(0, .ref h0), (1, .ref q), (2, .ref ed), (3, .int (nI cap))] := hl
  refine lv_iload_n hx hb d_AL_add_1_0 rfl (lv_at hl 3 rfl) ?_
  refine lv_aload_n hx hb d_AL_add_1_1 rfl (lv_at hl 2 rfl) ?_
  refine va_alen (v := nI cap) hx hb hK hP 1 0 rfl rfl rfl d_AL_add_1_2 ?_
  refine lv_icmp_ne (tgt := 11) hx hb d_AL_add_1_3 (by decide) (fun c_3 => ?_) (fun c_3 => ?_)
  · exact absurd rfl c_3
  · refine lv_aload_n hx hb d_AL_add_1_6 rfl (lv_at hl 0 rfl) ?_
    have hpm : ([(h0, .inr (1, [.int mo, .ref ed, .int (nI cap)])), (ed, .inl (G.2 0, cap, .inr (.inr (.inr (.inr f)))))] : va_W).Perm ([(h0, .inr (1, [.int mo, .ref ed, .int (nI cap)])), (ed, .inl (G.2 0, cap, .inr (.inr (.inr (.inr f)))))] ++ []) := List.Perm.refl _
    have hPc := bx_PR hpm hP
    have hDc := bx_DR hpm hD
    have hXc : XE e0 mi0 els (va_A [(h0, .inr (1, [.int mo, .ref ed, .int (nI cap)])), (ed, .inl (G.2 0, cap, .inr (.inr (.inr (.inr f)))))] s.heap.size) s s.heap := (hX.kept hS.2.1).narrow (bx_freeR hpm hD hS hA)
    refine bx_callA (va_runV (As := []) (rest := []) ⟨hx, hb, hml, hown, hts⟩ (c_grow0C l G s.heap.size e0 mi0 h0 ed mo cap c2 f els hcc hf) ⟨(callB_of 0 hts (gi_all wd_201) rfl rfl rfl (hT _ wd_48) (hT _ wd_198) (by decide +kernel) ⟨Nat.le_of_ble_eq_true rfl, Nat.le_of_ble_eq_true rfl⟩), (hT _ wd_200), (hT _ wd_1)⟩ (pvX hPc hGK hDc hXc (va_recv hK hPc (ci := 1) (q0 := 0) rfl rfl)) rfl rfl hl.1 rfl (lv_room (Nat.le_of_ble_eq_true rfl)) d_AL_add_1_7 ⟨Nat.le_of_ble_eq_true rfl, Nat.le_of_ble_eq_true rfl⟩) hpm hP hD hS hA (fun u H locs hu hP hD hS => ?_)
    obtain ⟨q9, f9⟩ := u
    have hP : va_P G.1 vwCl [(h0, .inr (1, [.int mo, .ref q9, .int (nI cap)])), (q9, .inl (G.2 0, c2, .inr (.inr (.inr (.inr f9)))))] H := hP
    have hD : va_D A [(h0, .inr (1, [.int mo, .ref q9, .int (nI cap)])), (q9, .inl (G.2 0, c2, .inr (.inr (.inr (.inr f9)))))] := hD
    refine W.eq (g2 := F0 m 10 ls [.ref q9]) rfl ?_
    refine lv_astore_n (lv' := [(2, .ref q9), (0, .ref h0), (1, .ref q), (3, .int (nI cap))]) hx hb d_AL_add_1_10 rfl hl (by decide) rfl (fun ls hl => ?_)
    refine lv_aload_n hx hb d_AL_add_1_11 rfl (lv_at hl 0 rfl) ?_
    refine lv_iload_n hx hb d_AL_add_1_12 rfl (lv_at hl 3 rfl) ?_
    refine lv_aload_n hx hb d_AL_add_1_13 rfl (lv_at hl 2 rfl) ?_
    refine va_astqM hx hb hK hP hD hS 1 0 (E := "java/lang/Object") rfl rfl ((hX.kept hS.2.1).2 q hq).1 (vp_in_nI (by omega) (by omega)) d_AL_add_1_14 (fun H locs hP hD hS => ?_)
    rw [nI_clamp (by omega)] at hP hD
    have hP : va_P G.1 vwCl [(h0, .inr (1, [.int mo, .ref q9, .int (nI cap)])), (q9, .inl (G.2 0, c2, .inr (.inr (.inr (.inr (va_up f9 cap (some q)))))))] H := hP
    have hD : va_D A [(h0, .inr (1, [.int mo, .ref q9, .int (nI cap)])), (q9, .inl (G.2 0, c2, .inr (.inr (.inr (.inr (va_up f9 cap (some q)))))))] := hD
    refine lv_aload_n hx hb d_AL_add_1_15 rfl (lv_at hl 1 rfl) ?_
    refine lv_iload_n hx hb d_AL_add_1_16 rfl (lv_at hl 3 rfl) ?_
    refine lv_iconst (v := 1) hx hb d_AL_add_1_17 (by decide) ?_
    refine lv_iadd hx hb d_AL_add_1_18 ?_
    refine W.eq (g2 := F0 m 19 ls [.int (nI (cap + 1)), .ref h0]) (by rw [nI_1]) ?_
    refine va_put (D := G.1) (ci := 1) (v := .int (nI (cap + 1))) (ty := .int) (C := R_AL) (T := T_AL) (N := 3) hx hb hT in_AL t_AL tok_AL nok_AL hown hK hP hD hS 0 rfl rfl 2 (by decide) (hT _ wd_88) (fun _ h9 => h9) rfl (by decide +kernel) rfl rfl (Nat.le_of_ble_eq_true rfl) d_AL_add_1_19 (fun H locs hP hD hS => ?_)
    have hP : va_P G.1 vwCl [(h0, .inr (1, [.int mo, .ref q9, .int (nI (cap + 1))])), (q9, .inl (G.2 0, c2, .inr (.inr (.inr (.inr (va_up f9 cap (some q)))))))] H := hP
    have hD : va_D A [(h0, .inr (1, [.int mo, .ref q9, .int (nI (cap + 1))])), (q9, .inl (G.2 0, c2, .inr (.inr (.inr (.inr (va_up f9 cap (some q)))))))] := hD
    refine W.widen (k := 1) (n := 22) (Nat.le_of_ble_eq_true rfl) (Nat.le_of_ble_eq_true rfl) ?_
    exact W.vret hx hb hr (fun t ht hW => ⟨⟨(q9, va_up f9 cap (some q)), rfl, by rw [ht]; exact hP, by rw [hAe]; exact hD, ⟨fun i hi => (va_up_ne _ _ (by omega)).trans (hu i hi), va_up_self _ _ _⟩⟩, by rw [hAe]; exact hS.F ht⟩) hS.2.2 d_AL_add_1_22
