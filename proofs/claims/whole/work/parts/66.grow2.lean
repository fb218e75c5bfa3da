set_option maxHeartbeats 4000000 in
set_option maxRecDepth 100000 in
theorem c_copyOf2 (l : Launch) (G : GG) (sz : Nat) (e0 mi0 : Nat) (a0 : Nat) (cap : Nat) (n2 : Nat) (f : Nat → Option Nat) (els : List Nat) (hc : cap ≤ n2) (hn2 : n2 ≤ 22) (hf : ∀ i, i < cap → ∀ y, f i = some y → y ∈ els) : Met l y_ARRS_copyOf_0 w_ARRS_copyOf_0 ({ frames := 2, cells := 1, slots := 22, locals := 53 }) (va_Pc [.ref a0, .int (nI n2)] (PwX G sz e0 mi0 els [(a0, .inl (G.2 0, cap, .inr (.inr (.inr (.inr f)))))])) (QA (S := Nat × (Nat → Option Nat)) G (fun u => some (.ref u.1)) [(a0, .inl (G.2 0, cap, .inr (.inr (.inr (.inr f)))))] (fun u => [(a0, .inl (G.2 0, cap, .inr (.inr (.inr (.inr f))))), (u.1, .inl (G.2 0, n2, .inr (.inr (.inr (.inr u.2)))))]) (fun u => ∀ i, i < cap → u.2 i = f i) sz) 1 22 (va_A [(a0, .inl (G.2 0, cap, .inr (.inr (.inr (.inr f)))))] sz) := by
  refine Met.ofW (cc := b_ARRS_copyOf_0) (maxL := 2) (ret := (some (.array (.object "java/lang/Object")))) (by decide) rfl ?_
  intro p e s m args below meth c s₁ B hml hv
  obtain ⟨rfl, ⟨hsz, hP, hGK, hD0⟩, hX⟩ := hv
  have hx := B.exec
  have hb := B.bytes
  have hr := B.returns
  have hts := atoms_spec (ws := w_ARRS_copyOf_0) B.pre
  have hT : ∀ w ∈ lwG, w.before _ s = true := fun w h => hts w (List.mem_cons_of_mem _ h)
  have hown : s.vm.findClass R_ARRS = some m.cls := findClass_of_methodNamed B.named
  have hlocks := B.notSynchronized
  have hK := hGK.1
  have hN := hGK.2
  subst hsz
  have hD := hD0.self (sz := s.heap.size)
  generalize hAe : va_A [(a0, .inl (G.2 0, cap, .inr (.inr (.inr (.inr f)))))] s.heap.size = A at hD hX ⊢
  have hA : ∀ q : Nat, s.heap.size ≤ q → A q := fun q h => by rw [← hAe]; exact Or.inr h
  have hS : va_S A s.heap s.heap [] := va_S.rf
  have hP : va_P G.1 vwCl [(a0, .inl (G.2 0, cap, .inr (.inr (.inr (.inr f)))))] s.heap := hP
  have hl := lv_entry ([.ref a0, .int (nI n2)]) (n := 2) (Nat.le_of_ble_eq_true rfl)
  rw [lg_entry_eq]
  generalize (lg_sl ([.ref a0, .int (nI n2)]) ++ List.replicate (2 - (lg_sl ([.ref a0, .int (nI n2)])).length) Slot.unset).toArray = ls at hl ⊢
  have hl : lv_has ls 2 [(0, .ref a0), (1, .int (nI n2))] := hl
  refine lv_aload_n hx hb d_ARRS_copyOf_0_0 rfl (lv_at hl 0 rfl) ?_
  refine lv_iload_n hx hb d_ARRS_copyOf_0_1 rfl (lv_at hl 1 rfl) ?_
  refine lv_aload_n hx hb d_ARRS_copyOf_0_2 rfl (lv_at hl 0 rfl) ?_
  have hrc : ∃ cell : Cell, s.heap[a0]? = some cell ∧ cell.vm.isStatics = false ∧ s.vm.findClass "[Ljava/lang/Object;" = some cell.cls := ⟨_, hP 0 _ rfl, rfl, va_nmO (hK.2 0 _ rfl).2 (by decide)⟩
  refine va_getC hx hb (hml.trans hl.1.symm) hown (hT _ wd_219) (va_Dc.use hX.1.2.2.2.1) (hT _ wd_783) (hT _ wd_220) (hT _ wd_231) hX.1.2.2.1 hrc (Nat.le_of_ble_eq_true rfl) (Nat.le_of_ble_eq_true rfl) d_ARRS_copyOf_0_3 ?_
  have hpm : ([(a0, .inl (G.2 0, cap, .inr (.inr (.inr (.inr f)))))] : va_W).Perm ([(a0, .inl (G.2 0, cap, .inr (.inr (.inr (.inr f)))))] ++ []) := List.Perm.refl _
  have hPc := bx_PR hpm hP
  have hDc := bx_DR hpm hD
  have hXc : XE e0 mi0 els (va_A [(a0, .inl (G.2 0, cap, .inr (.inr (.inr (.inr f)))))] s.heap.size) s s.heap := (hX.kept hS.2.1).narrow (bx_freeR hpm hD hS hA)
  refine bx_callA (va_runS (As := [.ref a0, .int (nI n2), .ref mi0]) (rest := []) ⟨hx, hb, hml, hown, hts⟩ (c_copyOf3 l G s.heap.size e0 mi0 a0 cap n2 f els hc hn2 hf) ⟨(callB_of 3 hts (gi_all wd_234) rfl rfl rfl (hT _ wd_55) (hT _ wd_232) (by decide +kernel) ⟨Nat.le_of_ble_eq_true rfl, Nat.le_of_ble_eq_true rfl⟩), (hT _ wd_233)⟩ (psX hPc hGK hDc hXc) rfl rfl hl.1 rfl (lv_room (Nat.le_of_ble_eq_true rfl)) d_ARRS_copyOf_0_6 ⟨Nat.le_of_ble_eq_true rfl, Nat.le_of_ble_eq_true rfl⟩) hpm hP hD hS hA (fun u H locs hu hP hD hS => ?_)
  obtain ⟨q9, f9⟩ := u
  have hP : va_P G.1 vwCl [(a0, .inl (G.2 0, cap, .inr (.inr (.inr (.inr f))))), (q9, .inl (G.2 0, n2, .inr (.inr (.inr (.inr f9)))))] H := hP
  have hD : va_D A [(a0, .inl (G.2 0, cap, .inr (.inr (.inr (.inr f))))), (q9, .inl (G.2 0, n2, .inr (.inr (.inr (.inr f9)))))] := hD
  refine W.eq (g2 := F0 m 9 ls [.ref q9]) rfl ?_
  refine W.widen (k := 1) (n := 22) (Nat.le_of_ble_eq_true rfl) (Nat.le_of_ble_eq_true rfl) ?_
  exact W.aret (v := .ref q9) hx hb hr (Or.inr ⟨_, rfl⟩) (Or.inr ⟨_, rfl⟩) (fun t ht hW => ⟨⟨(q9, f9), rfl, by rw [ht]; exact hP, by rw [hAe]; exact hD, hu⟩, by rw [hAe]; exact hS.F ht⟩) hS.2.2 d_ARRS_copyOf_0_9
