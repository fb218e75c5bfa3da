set_option maxHeartbeats 4000000 in
set_option maxRecDepth 100000 in
theorem c_grow1A (l : Launch) (G : GG) (sz : Nat) (e0 mi0 : Nat) (h0 : Nat) (mo : Int32) (els : List Nat)  : Met l y_AL_grow_1 w_AL_grow_1 ({ frames := 1, cells := 1, slots := 22, locals := 14 }) (va_Pc [.ref h0, .int (nI 1)] (PwX G sz e0 mi0 els [(h0, .inr (1, [.int mo, .ref e0, .int (nI 0)]))])) (QA (S := Nat × (Nat → Option Nat)) G (fun u => some (.ref u.1)) [(h0, .inr (1, [.int mo, .ref e0, .int (nI 0)]))] (fun u => [(h0, .inr (1, [.int mo, .ref u.1, .int (nI 0)])), (u.1, .inl (G.2 0, 10, .inr (.inr (.inr (.inr u.2)))))]) (fun _ => True) sz) 1 22 (va_A [(h0, .inr (1, [.int mo, .ref e0, .int (nI 0)]))] sz) := by
  refine Met.ofW (cc := b_AL_grow_1) (maxL := 4) (ret := (some (.array (.object "java/lang/Object")))) (by decide) rfl ?_
  intro p e s m args below meth c s₁ B hml hv
  obtain ⟨rfl, ⟨hsz, hP, hGK, hD0⟩, hX⟩ := hv
  have hx := B.exec
  have hb := B.bytes
  have hr := B.returns
  have hts := atoms_spec (ws := w_AL_grow_1) B.pre
  have hT : ∀ w ∈ lwG, w.before _ s = true := fun w h => hts w (List.mem_cons_of_mem _ h)
  have hown : s.vm.findClass R_AL = some m.cls := findClass_of_methodNamed B.named
  have hlocks := B.notSynchronized
  have hK := hGK.1
  have hN := hGK.2
  subst hsz
  have hD := hD0.self (sz := s.heap.size)
  generalize hAe : va_A [(h0, .inr (1, [.int mo, .ref e0, .int (nI 0)]))] s.heap.size = A at hD hX ⊢
  have hA : ∀ q : Nat, s.heap.size ≤ q → A q := fun q h => by rw [← hAe]; exact Or.inr h
  have hS : va_S A s.heap s.heap [] := va_S.rf
  have hP : va_P G.1 vwCl [(h0, .inr (1, [.int mo, .ref e0, .int (nI 0)]))] s.heap := hP
  have hl := lv_entry ([.ref h0, .int (nI 1)]) (n := 4) (Nat.le_of_ble_eq_true rfl)
  rw [lg_entry_eq]
  generalize (lg_sl ([.ref h0, .int (nI 1)]) ++ List.replicate (4 - (lg_sl ([.ref h0, .int (nI 1)])).length) Slot.unset).toArray = ls at hl ⊢
  have hl : lv_has ls 4 [(0, .ref h0), (1, .int (nI 1))] := hl
  refine lv_aload_n hx hb d_AL_grow_1_0 rfl (lv_at hl 0 rfl) ?_
  refine va_get (D := G.1) (ci := 1) (v := .ref e0) (C := R_AL) (T := T_AL) (N := 3) hx hb hT in_AL hown hK hP 0 rfl rfl 1 (by decide) (hT _ wd_87) (fun _ h9 => h9) rfl d_AL_grow_1_1 ?_
  refine va_tlen (v := 0) hx hb hX.1.2.1 hS (by decide) d_AL_grow_1_4 ?_
  refine lv_istore_n (lv' := [(2, .int 0), (0, .ref h0), (1, .int (nI 1))]) hx hb d_AL_grow_1_5 rfl hl (by decide) rfl (fun ls hl => ?_)
  refine lv_iload_n hx hb d_AL_grow_1_6 rfl (lv_at hl 0 rfl) ?_
  refine lv_if_gt (tgt := 20) hx hb d_AL_grow_1_7 (by decide) (fun c_7 => ?_) (fun c_7 => ?_)
  · exact absurd c_7 (by decide)
  · refine lv_aload_n hx hb d_AL_grow_1_10 rfl (lv_at hl 1 rfl) ?_
    refine va_get (D := G.1) (ci := 1) (v := .ref e0) (C := R_AL) (T := T_AL) (N := 3) hx hb hT in_AL hown hK hP 0 rfl rfl 1 (by decide) (hT _ wd_87) (fun _ h9 => h9) rfl d_AL_grow_1_11 ?_
    refine va_gets (A := A) hx hb hX.1.1 hS hown (hT _ wd_85) (fun _ h9 => h9) d_AL_grow_1_14 ?_
    refine lv_acmp_eq (rx := some e0) (ry := some e0) (tgt := 45) hx hb d_AL_grow_1_17 (by decide) (fun _ => ?_) (fun c_17 => absurd rfl c_17)
    refine lv_aload_n hx hb d_AL_grow_1_45 rfl (lv_at hl 1 rfl) ?_
    refine lv_bipush (v := 10) hx hb d_AL_grow_1_46 (by decide) ?_
    refine lv_iload_n hx hb d_AL_grow_1_48 rfl (lv_at hl 2 rfl) ?_
    refine va_mmax hx hb (hml.trans hl.1.symm) hown (hT _ wd_244) (hT _ wd_210) (hT _ wd_54) (hT _ wd_211) (Nat.le_of_ble_eq_true rfl) (Nat.le_of_ble_eq_true rfl) (Nat.zero_le _) (Nat.zero_le _) d_AL_grow_1_49 ?_
    refine W.eq (g2 := F0 m 52 ls (.int 10 :: [.ref h0])) (by rw [show (if (10 : Int32) < nI 1 then nI 1 else 10) = 10 from by decide]) ?_
    refine va_newq (N' := 10) hx hb hown (hT _ wd_245) hX.1.2.2.2.2 hK hP hD hS hA (by decide) (by decide) (by decide) (Nat.le_of_ble_eq_true rfl) (Nat.le_of_ble_eq_true rfl) d_AL_grow_1_52 (fun q_52 cA H hK9 hP hD hS => ?_)
    obtain rfl : cA = G.2 0 := bx_cA hK9 (i := 0) (j := 5) rfl rfl
    have hP : va_P G.1 vwCl [(h0, .inr (1, [.int mo, .ref e0, .int (nI 0)])), (q_52, .inl (G.2 0, 10, .inr (.inr (.inr (.inr (fun _ => none))))))] H := hP
    have hD : va_D A [(h0, .inr (1, [.int mo, .ref e0, .int (nI 0)])), (q_52, .inl (G.2 0, 10, .inr (.inr (.inr (.inr (fun _ => none))))))] := hD
    refine lv_dup_x1 hx hb d_AL_grow_1_55 rfl rfl ?_
    refine va_put (D := G.1) (ci := 1) (v := .ref q_52) (ty := .array (.object "java/lang/Object")) (C := R_AL) (T := T_AL) (N := 3) hx hb hT in_AL t_AL tok_AL nok_AL hown hK hP hD hS 0 rfl rfl 1 (by decide) (hT _ wd_87) (fun _ h9 => h9) rfl (by decide +kernel) rfl rfl (Nat.le_of_ble_eq_true rfl) d_AL_grow_1_56 (fun H locs hP hD hS => ?_)
    have hP : va_P G.1 vwCl [(h0, .inr (1, [.int mo, .ref q_52, .int (nI 0)])), (q_52, .inl (G.2 0, 10, .inr (.inr (.inr (.inr (fun _ => none))))))] H := hP
    have hD : va_D A [(h0, .inr (1, [.int mo, .ref q_52, .int (nI 0)])), (q_52, .inl (G.2 0, 10, .inr (.inr (.inr (.inr (fun _ => none))))))] := hD
    refine W.widen (k := 1) (n := 22) (Nat.le_of_ble_eq_true rfl) (Nat.le_of_ble_eq_true rfl) ?_
    exact W.aret (v := .ref q_52) hx hb hr (Or.inr ⟨_, rfl⟩) (Or.inr ⟨_, rfl⟩) (fun t ht hW => ⟨⟨(q_52, fun _ => none), rfl, by rw [ht]; exact hP, by rw [hAe]; exact hD, trivial⟩, by rw [hAe]; exact hS.F ht⟩) hS.2.2 d_AL_grow_1_59
set_option maxHeartbeats 4000000 in
set_option maxRecDepth 100000 in
theorem c_grow1C (l : Launch) (G : GG) (sz : Nat) (e0 mi0 : Nat) (h0 : Nat) (ed : Nat) (mo : Int32) (cap : Nat) (c2 : Nat) (f : Nat → Option Nat) (els : List Nat) (hcc : (cap = 10 ∧ c2 = 15) ∨ (cap = 15 ∧ c2 = 22)) (hf : ∀ i, i < cap → ∀ y, f i = some y → y ∈ els) : Met l y_AL_grow_1 w_AL_grow_1 ({ frames := 3, cells := 1, slots := 22, locals := 74 }) (va_Pc [.ref h0, .int (nI (cap + 1))] (PwX G sz e0 mi0 els [(h0, .inr (1, [.int mo, .ref ed, .int (nI cap)])), (ed, .inl (G.2 0, cap, .inr (.inr (.inr (.inr f)))))])) (QA (S := Nat × (Nat → Option Nat)) G (fun u => some (.ref u.1)) [(h0, .inr (1, [.int mo, .ref ed, .int (nI cap)])), (ed, .inl (G.2 0, cap, .inr (.inr (.inr (.inr f)))))] (fun u => [(h0, .inr (1, [.int mo, .ref u.1, .int (nI cap)])), (u.1, .inl (G.2 0, c2, .inr (.inr (.inr (.inr u.2)))))]) (fun u => ∀ i, i < cap → u.2 i = f i) sz) 1 22 (va_A [(h0, .inr (1, [.int mo, .ref ed, .int (nI cap)])), (ed, .inl (G.2 0, cap, .inr (.inr (.inr (.inr f)))))] sz) := by
  refine Met.ofW (cc := b_AL_grow_1) (maxL := 4) (ret := (some (.array (.object "java/lang/Object")))) (by decide) rfl ?_
  intro p e s m args below meth c s₁ B hml hv
  obtain ⟨rfl, ⟨hsz, hP, hGK, hD0⟩, hX⟩ := hv
  have hx := B.exec
  have hb := B.bytes
  have hr := B.returns
  have hts := atoms_spec (ws := w_AL_grow_1) B.pre
  have hT : ∀ w ∈ lwG, w.before _ s = true := fun w h => hts w (List.mem_cons_of_mem _ h)
  have hown : s.vm.findClass R_AL = some m.cls := findClass_of_methodNamed B.named
  have hlocks := B.notSynchronized
  have hK := hGK.1
  have hN := hGK.2
  subst hsz
  have hD := hD0.self (sz := s.heap.size)
  generalize hAe : va_A [(h0, .inr (1, [.int mo, .ref ed, .int (nI cap)])), (ed, .inl (G.2 0, cap, .inr (.inr (.inr (.inr f)))))] s.heap.size = A at hD hX ⊢
  have hA : ∀ q : Nat, s.heap.size ≤ q → A q := fun q h => by rw [← hAe]; exact Or.inr h
  have hS : va_S A s.heap s.heap [] := va_S.rf
  have hP : va_P G.1 vwCl [(h0, .inr (1, [.int mo, .ref ed, .int (nI cap)])), (ed, .inl (G.2 0, cap, .inr (.inr (.inr (.inr f)))))] s.heap := hP
  have hl := lv_entry ([.ref h0, .int (nI (cap + 1))]) (n := 4) (Nat.le_of_ble_eq_true rfl)
  rw [lg_entry_eq]
  generalize (lg_sl ([.ref h0, .int (nI (cap + 1))]) ++ List.replicate (4 - (lg_sl ([.ref h0, .int (nI (cap + 1))])).length) Slot.unset).toArray = ls at hl ⊢
  have hl : lv_has ls 4 [(0, .ref h0), (1, .int (nI (cap + 1)))] := hl
  have hcap : cap ≤ 15 := by omega
  have hnl : nI cap + (if nI (cap + 1) - nI cap < nI cap >>> ((1 : Int32) &&& 31) then nI cap >>> ((1 : Int32) &&& 31) else nI (cap + 1) - nI cap) = nI c2 := by rcases hcc with ⟨rfl, rfl⟩ | ⟨rfl, rfl⟩ <;> decide
  have hn1 : ¬ nI cap + (if nI (cap + 1) - nI cap < nI cap >>> ((1 : Int32) &&& 31) then nI cap >>> ((1 : Int32) &&& 31) else nI (cap + 1) - nI cap) ≤ 0 := by rw [hnl]; exact nI_nle (by omega) (by omega)
  have hn2 : ¬ 2147483639 < nI cap + (if nI (cap + 1) - nI cap < nI cap >>> ((1 : Int32) &&& 31) then nI cap >>> ((1 : Int32) &&& 31) else nI (cap + 1) - nI cap) := by rw [hnl]; exact nI_nlt (a := 2147483639) (b := c2) (by omega) (by decide)
  refine lv_aload_n hx hb d_AL_grow_1_0 rfl (lv_at hl 0 rfl) ?_
  refine va_get (D := G.1) (ci := 1) (v := .ref ed) (C := R_AL) (T := T_AL) (N := 3) hx hb hT in_AL hown hK hP 0 rfl rfl 1 (by decide) (hT _ wd_87) (fun _ h9 => h9) rfl d_AL_grow_1_1 ?_
  refine va_alen (v := nI cap) hx hb hK hP 1 0 rfl rfl rfl d_AL_grow_1_4 ?_
  refine lv_istore_n (lv' := [(2, .int (nI cap)), (0, .ref h0), (1, .int (nI (cap + 1)))]) hx hb d_AL_grow_1_5 rfl hl (by decide) rfl (fun ls hl => ?_)
  refine lv_iload_n hx hb d_AL_grow_1_6 rfl (lv_at hl 0 rfl) ?_
  refine lv_if_gt (tgt := 20) hx hb d_AL_grow_1_7 (by decide) (fun c_7 => ?_) (fun c_7 => ?_)
  · refine lv_iload_n hx hb d_AL_grow_1_20 rfl (lv_at hl 0 rfl) ?_
    refine lv_iload_n hx hb d_AL_grow_1_21 rfl (lv_at hl 2 rfl) ?_
    refine lv_iload_n hx hb d_AL_grow_1_22 rfl (lv_at hl 0 rfl) ?_
    refine lv_isub hx hb d_AL_grow_1_23 ?_
    refine lv_iload_n hx hb d_AL_grow_1_24 rfl (lv_at hl 0 rfl) ?_
    refine lv_iconst (v := 1) hx hb d_AL_grow_1_25 (by decide) ?_
    refine lv_ishr hx hb d_AL_grow_1_26 ?_
    refine bx_callV (W.runS (As := [.int (nI cap), .int ((nI (cap + 1)) - (nI cap)), .int ((nI cap) >>> ((1 : Int32) &&& 31))]) (rest := []) ⟨hx, hb, hml, hown, hts⟩ (c_newLength l G (nI cap) ((nI (cap + 1)) - (nI cap)) ((nI cap) >>> ((1 : Int32) &&& 31)) hn1 hn2) ⟨(callB_of 3 hts (gi_all wd_208) rfl rfl rfl (hT _ wd_53) (hT _ wd_206) (by decide +kernel) ⟨Nat.le_of_ble_eq_true rfl, Nat.le_of_ble_eq_true rfl⟩), (hT _ wd_207)⟩ (psR bx_nil hGK) rfl rfl hl.1 rfl (lv_room (Nat.le_of_ble_eq_true rfl)) d_AL_grow_1_27 ⟨Nat.le_of_ble_eq_true rfl, Nat.le_of_ble_eq_true rfl⟩) ?_
    refine W.eq (g2 := F0 m 30 ls [.int (nI c2)]) (by rw [hnl]) ?_
    refine lv_istore_n (lv' := [(3, .int (nI c2)), (2, .int (nI cap)), (0, .ref h0), (1, .int (nI (cap + 1)))]) hx hb d_AL_grow_1_30 rfl hl (by decide) rfl (fun ls hl => ?_)
    refine lv_aload_n hx hb d_AL_grow_1_31 rfl (lv_at hl 2 rfl) ?_
    refine lv_aload_n hx hb d_AL_grow_1_32 rfl (lv_at hl 2 rfl) ?_
    refine va_get (D := G.1) (ci := 1) (v := .ref ed) (C := R_AL) (T := T_AL) (N := 3) hx hb hT in_AL hown hK hP 0 rfl rfl 1 (by decide) (hT _ wd_87) (fun _ h9 => h9) rfl d_AL_grow_1_33 ?_
    refine lv_iload_n hx hb d_AL_grow_1_36 rfl (lv_at hl 0 rfl) ?_
    have hpm : ([(h0, .inr (1, [.int mo, .ref ed, .int (nI cap)])), (ed, .inl (G.2 0, cap, .inr (.inr (.inr (.inr f)))))] : va_W).Perm ([(ed, .inl (G.2 0, cap, .inr (.inr (.inr (.inr f)))))] ++ [(h0, .inr (1, [.int mo, .ref ed, .int (nI cap)]))]) := List.Perm.swap _ _ _
    have hPc := bx_PR hpm hP
    have hDc := bx_DR hpm hD
    have hXc : XE e0 mi0 els (va_A [(ed, .inl (G.2 0, cap, .inr (.inr (.inr (.inr f)))))] s.heap.size) s s.heap := (hX.kept hS.2.1).narrow (bx_freeR hpm hD hS hA)
    refine bx_callA (va_runS (As := [.ref ed, .int (nI c2)]) (rest := [.ref h0]) ⟨hx, hb, hml, hown, hts⟩ (c_copyOf2 l G s.heap.size e0 mi0 ed cap c2 f els (by omega) (by omega) hf) ⟨(callB_of 2 hts (gi_all wd_218) rfl rfl rfl (hT _ wd_55) (hT _ wd_216) (by decide +kernel) ⟨Nat.le_of_ble_eq_true rfl, Nat.le_of_ble_eq_true rfl⟩), (hT _ wd_217)⟩ (psX hPc hGK hDc hXc) rfl rfl hl.1 rfl (lv_room (Nat.le_of_ble_eq_true rfl)) d_AL_grow_1_37 ⟨Nat.le_of_ble_eq_true rfl, Nat.le_of_ble_eq_true rfl⟩) hpm hP hD hS hA (fun u H locs hu hP hD hS => ?_)
    obtain ⟨q9, f9⟩ := u
    have hP : va_P G.1 vwCl [(ed, .inl (G.2 0, cap, .inr (.inr (.inr (.inr f))))), (q9, .inl (G.2 0, c2, .inr (.inr (.inr (.inr f9))))), (h0, .inr (1, [.int mo, .ref ed, .int (nI cap)]))] H := hP
    have hD : va_D A [(ed, .inl (G.2 0, cap, .inr (.inr (.inr (.inr f))))), (q9, .inl (G.2 0, c2, .inr (.inr (.inr (.inr f9))))), (h0, .inr (1, [.int mo, .ref ed, .int (nI cap)]))] := hD
    refine W.eq (g2 := F0 m 40 ls [.ref q9, .ref h0]) rfl ?_
    refine lv_dup_x1 hx hb d_AL_grow_1_40 rfl rfl ?_
    refine va_put (D := G.1) (ci := 1) (v := .ref q9) (ty := .array (.object "java/lang/Object")) (C := R_AL) (T := T_AL) (N := 3) hx hb hT in_AL t_AL tok_AL nok_AL hown hK hP hD hS 2 rfl rfl 1 (by decide) (hT _ wd_87) (fun _ h9 => h9) rfl (by decide +kernel) rfl rfl (Nat.le_of_ble_eq_true rfl) d_AL_grow_1_41 (fun H locs hP hD hS => ?_)
    have hP : va_P G.1 vwCl [(ed, .inl (G.2 0, cap, .inr (.inr (.inr (.inr f))))), (q9, .inl (G.2 0, c2, .inr (.inr (.inr (.inr f9))))), (h0, .inr (1, [.int mo, .ref q9, .int (nI cap)]))] H := hP
    have hD : va_D A [(ed, .inl (G.2 0, cap, .inr (.inr (.inr (.inr f))))), (q9, .inl (G.2 0, c2, .inr (.inr (.inr (.inr f9))))), (h0, .inr (1, [.int mo, .ref q9, .int (nI cap)]))] := hD
    have hP := hP.sub (ws' := [(h0, .inr (1, [.int mo, .ref q9, .int (nI cap)])), (q9, .inl (G.2 0, c2, .inr (.inr (.inr (.inr f9)))))]) [2, 1] rfl
    have hD := hD.sub (ws' := [(h0, .inr (1, [.int mo, .ref q9, .int (nI cap)])), (q9, .inl (G.2 0, c2, .inr (.inr (.inr (.inr f9)))))]) [2, 1] (by decide) rfl
    refine W.widen (k := 1) (n := 22) (Nat.le_of_ble_eq_true rfl) (Nat.le_of_ble_eq_true rfl) ?_
    exact W.aret (v := .ref q9) hx hb hr (Or.inr ⟨_, rfl⟩) (Or.inr ⟨_, rfl⟩) (fun t ht hW => ⟨⟨(q9, f9), rfl, by rw [ht]; exact hP, by rw [hAe]; exact hD, hu⟩, by rw [hAe]; exact hS.F ht⟩) hS.2.2 d_AL_grow_1_44
  · exact absurd (nI_lt (a := 0) (b := cap) (by omega) (by omega)) c_7
