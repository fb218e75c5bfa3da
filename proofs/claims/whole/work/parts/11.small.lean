set_option maxHeartbeats 4000000 in
set_option maxRecDepth 100000 in
theorem c_isBitSet (l : Launch) (G : GG) (ba : Int32) (bb : Int32)  : Met l y_ER_isBitSet w_ER_isBitSet ({ frames := 0, cells := 0, slots := 0, locals := 0 }) (va_Pc [.int ba, .int bb] (Rw G [])) (k2_QcV (.int (bitF ba bb))) 0 0 (fun _ => False) := by
  refine Met.ofW (cc := b_ER_isBitSet) (maxL := 2) (ret := (some .boolean)) (by decide) rfl ?_
  intro p e s m args below meth c s₁ B hml hv
  obtain ⟨rfl, hP, hGK⟩ := hv
  have hx := B.exec
  have hb := B.bytes
  have hr := B.returns
  have hts := atoms_spec (ws := w_ER_isBitSet) B.pre
  have hT : ∀ w ∈ lwG, w.before _ s = true := fun w h => hts w (List.mem_cons_of_mem _ h)
  have hown : s.vm.findClass R_ER = some m.cls := findClass_of_methodNamed B.named
  have hlocks := B.notSynchronized
  have hK := hGK.1
  have hN := hGK.2
  have hP : va_P G.1 vwCl [] s.heap := hP
  have hl := lv_entry ([.int ba, .int bb]) (n := 2) (Nat.le_of_ble_eq_true rfl)
  rw [lg_entry_eq]
  generalize (lg_sl ([.int ba, .int bb]) ++ List.replicate (2 - (lg_sl ([.int ba, .int bb])).length) Slot.unset).toArray = ls at hl ⊢
  have hl : lv_has ls 2 [(0, .int ba), (1, .int bb)] := hl
  generalize hHe : s.heap = H at hP ⊢
  refine lv_iload_n hx hb d_ER_isBitSet_0 rfl (lv_at hl 0 rfl) ?_
  refine lv_iload_n hx hb d_ER_isBitSet_1 rfl (lv_at hl 1 rfl) ?_
  refine lv_ishr hx hb d_ER_isBitSet_2 ?_
  refine lv_iconst (v := 1) hx hb d_ER_isBitSet_3 (by decide) ?_
  refine lv_iand hx hb d_ER_isBitSet_4 ?_
  refine lv_iconst (v := 1) hx hb d_ER_isBitSet_5 (by decide) ?_
  refine lv_icmp_ne (tgt := 13) hx hb d_ER_isBitSet_6 (by decide) (fun c_6 => ?_) (fun c_6 => ?_)
  · refine lv_iconst (v := 0) hx hb d_ER_isBitSet_13 (by decide) ?_
    have hq9 : (.int (bitF ba bb)) = (.int 0 : Value) := by first | (simp [bitF, c_6]; done) | (simp_all [bitF]; done)
    exact W.zret (v := 0) hx hb hr rfl (fun t ht _ => ⟨by rw [hq9], ht.trans hHe.symm⟩) (fun _ h => by cases h) d_ER_isBitSet_14
  · refine lv_iconst (v := 1) hx hb d_ER_isBitSet_9 (by decide) ?_
    refine lv_goto (tgt := 14) hx hb d_ER_isBitSet_10 (by decide) ?_
    have hq9 : (.int (bitF ba bb)) = (.int 1 : Value) := by first | (simp [bitF, c_6]; done) | (simp_all [bitF]; done)
    exact W.zret (v := 1) hx hb hr rfl (fun t ht _ => ⟨by rw [hq9], ht.trans hHe.symm⟩) (fun _ h => by cases h) d_ER_isBitSet_14
set_option maxHeartbeats 4000000 in
set_option maxRecDepth 100000 in
theorem c_isKind (l : Launch) (G : GG) (kk : Int32)  : Met l y_ER_isKind w_ER_isKind ({ frames := 0, cells := 0, slots := 0, locals := 0 }) (va_Pc [.int kk] (Rw G [])) (k2_QcV (.int (kindF kk))) 0 0 (fun _ => False) := by
  refine Met.ofW (cc := b_ER_isKind) (maxL := 1) (ret := (some .boolean)) (by decide) rfl ?_
  intro p e s m args below meth c s₁ B hml hv
  obtain ⟨rfl, hP, hGK⟩ := hv
  have hx := B.exec
  have hb := B.bytes
  have hr := B.returns
  have hts := atoms_spec (ws := w_ER_isKind) B.pre
  have hT : ∀ w ∈ lwG, w.before _ s = true := fun w h => hts w (List.mem_cons_of_mem _ h)
  have hown : s.vm.findClass R_ER = some m.cls := findClass_of_methodNamed B.named
  have hlocks := B.notSynchronized
  have hK := hGK.1
  have hN := hGK.2
  have hP : va_P G.1 vwCl [] s.heap := hP
  have hl := lv_entry ([.int kk]) (n := 1) (Nat.le_of_ble_eq_true rfl)
  rw [lg_entry_eq]
  generalize (lg_sl ([.int kk]) ++ List.replicate (1 - (lg_sl ([.int kk])).length) Slot.unset).toArray = ls at hl ⊢
  have hl : lv_has ls 1 [(0, .int kk)] := hl
  generalize hHe : s.heap = H at hP ⊢
  refine lv_iload_n hx hb d_ER_isKind_0 rfl (lv_at hl 0 rfl) ?_
  refine lv_if_lt (tgt := 13) hx hb d_ER_isKind_1 (by decide) (fun c_1 => ?_) (fun c_1 => ?_)
  · refine lv_iconst (v := 0) hx hb d_ER_isKind_13 (by decide) ?_
    have hq9 : (.int (kindF kk)) = (.int 0 : Value) := by first | (simp [kindF, c_1]; done) | (simp_all [kindF]; done)
    exact W.zret (v := 0) hx hb hr rfl (fun t ht _ => ⟨by rw [hq9], ht.trans hHe.symm⟩) (fun _ h => by cases h) d_ER_isKind_14
  · refine lv_iload_n hx hb d_ER_isKind_4 rfl (lv_at hl 0 rfl) ?_
    refine lv_iconst (v := 4) hx hb d_ER_isKind_5 (by decide) ?_
    refine lv_icmp_ge (tgt := 13) hx hb d_ER_isKind_6 (by decide) (fun c_6 => ?_) (fun c_6 => ?_)
    · refine lv_iconst (v := 0) hx hb d_ER_isKind_13 (by decide) ?_
      have hq9 : (.int (kindF kk)) = (.int 0 : Value) := by first | (simp [kindF, c_1, c_6]; done) | (simp_all [kindF]; done)
      exact W.zret (v := 0) hx hb hr rfl (fun t ht _ => ⟨by rw [hq9], ht.trans hHe.symm⟩) (fun _ h => by cases h) d_ER_isKind_14
    · refine lv_iconst (v := 1) hx hb d_ER_isKind_9 (by decide) ?_
      refine lv_goto (tgt := 14) hx hb d_ER_isKind_10 (by decide) ?_
      have hq9 : (.int (kindF kk)) = (.int 1 : Value) := by first | (simp [kindF, c_1, c_6]; done) | (simp_all [kindF]; done)
      exact W.zret (v := 1) hx hb hr rfl (fun t ht _ => ⟨by rw [hq9], ht.trans hHe.symm⟩) (fun _ h => by cases h) d_ER_isKind_14
set_option maxHeartbeats 4000000 in
set_option maxRecDepth 100000 in
theorem c_Monitor_init (l : Launch) (G : GG) (sz : Nat) (h0 : Nat) (kd : Int32) (cd : Int32) (ru : Int32) (ch : Int32) (he : Int32) (te : Int32) (ka : Int32) (ca : Int32)  : Met l y_MON_init w_MON_init ({ frames := 1, cells := 0, slots := 0, locals := 12 }) (va_Pc [.ref h0, .int ka, .int ca] (Pw G sz [(h0, .inr (4, [.int kd, .int cd, .int ru, .int ch, .int he, .int te]))])) (QW G none [(h0, .inr (4, [.int kd, .int cd, .int ru, .int ch, .int he, .int te]))] [(h0, .inr (4, [.int ka, .int ca, .int 0, .int 0, .int 0, .int 0]))] sz) 0 0 (va_A [(h0, .inr (4, [.int kd, .int cd, .int ru, .int ch, .int he, .int te]))] sz) := by
  refine Met.ofW (cc := b_MON_init) (maxL := 3) (ret := none) (by decide) rfl ?_
  intro p e s m args below meth c s₁ B hml hv
  obtain ⟨rfl, hsz, hP, hGK, hD0⟩ := hv
  have hx := B.exec
  have hb := B.bytes
  have hr := B.returns
  have hts := atoms_spec (ws := w_MON_init) B.pre
  have hT : ∀ w ∈ lwG, w.before _ s = true := fun w h => hts w (List.mem_cons_of_mem _ h)
  have hown : s.vm.findClass R_MON = some m.cls := findClass_of_methodNamed B.named
  have hlocks := B.notSynchronized
  have hK := hGK.1
  have hN := hGK.2
  have hin : meth.name = "<init>" := (name_of_methodNamed B.named B.method).1
  subst hsz
  have hD := hD0.self (sz := s.heap.size)
  generalize hAe : va_A [(h0, .inr (4, [.int kd, .int cd, .int ru, .int ch, .int he, .int te]))] s.heap.size = A at hD ⊢
  have hA : ∀ q : Nat, s.heap.size ≤ q → A q := fun q h => by rw [← hAe]; exact Or.inr h
  have hS : va_S A s.heap s.heap [] := va_S.rf
  have hP : va_P G.1 vwCl [(h0, .inr (4, [.int kd, .int cd, .int ru, .int ch, .int he, .int te]))] s.heap := hP
  have hl := lv_entry ([.ref h0, .int ka, .int ca]) (n := 3) (Nat.le_of_ble_eq_true rfl)
  rw [lg_entry_eq]
  generalize (lg_sl ([.ref h0, .int ka, .int ca]) ++ List.replicate (3 - (lg_sl ([.ref h0, .int ka, .int ca])).length) Slot.unset).toArray = ls at hl ⊢
  have hl : lv_has ls 3 [(0, .ref h0), (1, .int ka), (2, .int ca)] := hl
  refine lv_aload_n hx hb d_MON_init_0 rfl (lv_at hl 0 rfl) ?_
  refine W.objInit hx hb hown (hT _ wd_166) (hT _ wd_71) (hT _ wd_72) rfl (by rw [hml]; exact hl.1) rfl d_MON_init_1 (Nat.le_of_ble_eq_true rfl) (Nat.le_of_ble_eq_true rfl) ?_
  refine W.eq (g2 := F0 m 4 ls []) rfl ?_
  refine lv_aload_n hx hb d_MON_init_4 rfl (lv_at hl 0 rfl) ?_
  refine lv_iconst (v := 0) hx hb d_MON_init_5 (by decide) ?_
  refine va_put (D := G.1) (ci := 4) (v := .int 0) (ty := .int) (C := R_MON) (T := T_MON) (N := 6) hx hb hT in_MON t_MON tok_MON nok_MON hown hK hP hD hS 0 rfl rfl 2 (by decide) (hT _ wd_170) (fun _ h9 => h9) rfl (by decide +kernel) rfl rfl (Nat.le_of_ble_eq_true rfl) d_MON_init_6 (fun H locs hP hD hS => ?_)
  have hP : va_P G.1 vwCl [(h0, .inr (4, [.int kd, .int cd, .int 0, .int ch, .int he, .int te]))] H := hP
  have hD : va_D A [(h0, .inr (4, [.int kd, .int cd, .int 0, .int ch, .int he, .int te]))] := hD
  refine lv_aload_n hx hb d_MON_init_9 rfl (lv_at hl 0 rfl) ?_
  refine lv_iconst (v := 0) hx hb d_MON_init_10 (by decide) ?_
  refine va_put (D := G.1) (ci := 4) (v := .int 0) (ty := .int) (C := R_MON) (T := T_MON) (N := 6) hx hb hT in_MON t_MON tok_MON nok_MON hown hK hP hD hS 0 rfl rfl 3 (by decide) (hT _ wd_172) (fun _ h9 => h9) rfl (by decide +kernel) rfl rfl (Nat.le_of_ble_eq_true rfl) d_MON_init_11 (fun H locs hP hD hS => ?_)
  have hP : va_P G.1 vwCl [(h0, .inr (4, [.int kd, .int cd, .int 0, .int 0, .int he, .int te]))] H := hP
  have hD : va_D A [(h0, .inr (4, [.int kd, .int cd, .int 0, .int 0, .int he, .int te]))] := hD
  refine lv_aload_n hx hb d_MON_init_14 rfl (lv_at hl 0 rfl) ?_
  refine lv_iconst (v := 0) hx hb d_MON_init_15 (by decide) ?_
  refine va_put (D := G.1) (ci := 4) (v := .int 0) (ty := .int) (C := R_MON) (T := T_MON) (N := 6) hx hb hT in_MON t_MON tok_MON nok_MON hown hK hP hD hS 0 rfl rfl 4 (by decide) (hT _ wd_174) (fun _ h9 => h9) rfl (by decide +kernel) rfl rfl (Nat.le_of_ble_eq_true rfl) d_MON_init_16 (fun H locs hP hD hS => ?_)
  have hP : va_P G.1 vwCl [(h0, .inr (4, [.int kd, .int cd, .int 0, .int 0, .int 0, .int te]))] H := hP
  have hD : va_D A [(h0, .inr (4, [.int kd, .int cd, .int 0, .int 0, .int 0, .int te]))] := hD
  refine lv_aload_n hx hb d_MON_init_19 rfl (lv_at hl 0 rfl) ?_
  refine lv_iconst (v := 0) hx hb d_MON_init_20 (by decide) ?_
  refine va_put (D := G.1) (ci := 4) (v := .int 0) (ty := .boolean) (C := R_MON) (T := T_MON) (N := 6) hx hb hT in_MON t_MON tok_MON nok_MON hown hK hP hD hS 0 rfl rfl 5 (by decide) (hT _ wd_175) (fun _ h9 => h9) rfl (by decide +kernel) rfl rfl (Nat.le_of_ble_eq_true rfl) d_MON_init_21 (fun H locs hP hD hS => ?_)
  have hP : va_P G.1 vwCl [(h0, .inr (4, [.int kd, .int cd, .int 0, .int 0, .int 0, .int 0]))] H := hP
  have hD : va_D A [(h0, .inr (4, [.int kd, .int cd, .int 0, .int 0, .int 0, .int 0]))] := hD
  refine lv_aload_n hx hb d_MON_init_24 rfl (lv_at hl 0 rfl) ?_
  refine lv_iload_n hx hb d_MON_init_25 rfl (lv_at hl 1 rfl) ?_
  refine va_putF (D := G.1) (ci := 4) (v := .int ka) (ty := .int) (C := R_MON) (T := T_MON) (N := 6) hx hb hT in_MON t_MON tok_MON nok_MON hown hK hP hD hS 0 rfl rfl 0 (by decide) (hT _ wd_167) (fun _ h9 => h9) rfl hin rfl (by decide +kernel) rfl rfl (Nat.le_of_ble_eq_true rfl) d_MON_init_26 (fun H locs hP hD hS => ?_)
  have hP : va_P G.1 vwCl [(h0, .inr (4, [.int ka, .int cd, .int 0, .int 0, .int 0, .int 0]))] H := hP
  have hD : va_D A [(h0, .inr (4, [.int ka, .int cd, .int 0, .int 0, .int 0, .int 0]))] := hD
  refine lv_aload_n hx hb d_MON_init_29 rfl (lv_at hl 0 rfl) ?_
  refine lv_iload_n hx hb d_MON_init_30 rfl (lv_at hl 2 rfl) ?_
  refine va_putF (D := G.1) (ci := 4) (v := .int ca) (ty := .int) (C := R_MON) (T := T_MON) (N := 6) hx hb hT in_MON t_MON tok_MON nok_MON hown hK hP hD hS 0 rfl rfl 1 (by decide) (hT _ wd_169) (fun _ h9 => h9) rfl hin rfl (by decide +kernel) rfl rfl (Nat.le_of_ble_eq_true rfl) d_MON_init_31 (fun H locs hP hD hS => ?_)
  have hP : va_P G.1 vwCl [(h0, .inr (4, [.int ka, .int ca, .int 0, .int 0, .int 0, .int 0]))] H := hP
  have hD : va_D A [(h0, .inr (4, [.int ka, .int ca, .int 0, .int 0, .int 0, .int 0]))] := hD
  exact W.vret hx hb hr (fun t ht hW => ⟨⟨rfl, by rw [ht]; exact hP, by rw [hAe]; exact hD⟩, by rw [hAe]; exact hS.F ht⟩) hS.2.2 d_MON_init_34
set_option maxHeartbeats 4000000 in
set_option maxRecDepth 100000 in
theorem c_countChance (l : Launch) (G : GG) (sz : Nat) (h0 : Nat) (kd : Int32) (cd : Int32) (ru : Int32) (ch : Int32) (he : Int32) (te : Int32) (tr : Int32)  : Met l y_MON_countChance w_MON_countChance ({ frames := 0, cells := 0, slots := 0, locals := 0 }) (va_Pc [.ref h0, .int tr] (Pw G sz [(h0, .inr (4, [.int kd, .int cd, .int ru, .int ch, .int he, .int te]))])) (QW G none [(h0, .inr (4, [.int kd, .int cd, .int ru, .int ch, .int he, .int te]))] [(h0, .inr (4, [.int kd, .int cd, .int (ccR ru ch tr), .int (ccC ch), .int he, .int te]))] sz) 0 0 (va_A [(h0, .inr (4, [.int kd, .int cd, .int ru, .int ch, .int he, .int te]))] sz) := by
  refine Met.ofW (cc := b_MON_countChance) (maxL := 2) (ret := none) (by decide) rfl ?_
  intro p e s m args below meth c s₁ B hml hv
  obtain ⟨rfl, hsz, hP, hGK, hD0⟩ := hv
  have hx := B.exec
  have hb := B.bytes
  have hr := B.returns
  have hts := atoms_spec (ws := w_MON_countChance) B.pre
  have hT : ∀ w ∈ lwG, w.before _ s = true := fun w h => hts w (List.mem_cons_of_mem _ h)
  have hown : s.vm.findClass R_MON = some m.cls := findClass_of_methodNamed B.named
  have hlocks := B.notSynchronized
  have hK := hGK.1
  have hN := hGK.2
  subst hsz
  have hD := hD0.self (sz := s.heap.size)
  generalize hAe : va_A [(h0, .inr (4, [.int kd, .int cd, .int ru, .int ch, .int he, .int te]))] s.heap.size = A at hD ⊢
  have hA : ∀ q : Nat, s.heap.size ≤ q → A q := fun q h => by rw [← hAe]; exact Or.inr h
  have hS : va_S A s.heap s.heap [] := va_S.rf
  have hP : va_P G.1 vwCl [(h0, .inr (4, [.int kd, .int cd, .int ru, .int ch, .int he, .int te]))] s.heap := hP
  have hl := lv_entry ([.ref h0, .int tr]) (n := 2) (Nat.le_of_ble_eq_true rfl)
  rw [lg_entry_eq]
  generalize (lg_sl ([.ref h0, .int tr]) ++ List.replicate (2 - (lg_sl ([.ref h0, .int tr])).length) Slot.unset).toArray = ls at hl ⊢
  have hl : lv_has ls 2 [(0, .ref h0), (1, .int tr)] := hl
  refine lv_aload_n hx hb d_MON_countChance_0 rfl (lv_at hl 0 rfl) ?_
  refine va_get (D := G.1) (ci := 4) (v := .int ch) (C := R_MON) (T := T_MON) (N := 6) hx hb hT in_MON hown hK hP 0 rfl rfl 3 (by decide) (hT _ wd_172) (fun _ h9 => h9) rfl d_MON_countChance_1 ?_
  refine lv_bipush (v := 100) hx hb d_MON_countChance_4 (by decide) ?_
  refine lv_icmp_lt (tgt := 29) hx hb d_MON_countChance_6 (by decide) (fun c_6 => ?_) (fun c_6 => ?_)
  · refine lv_aload_n hx hb d_MON_countChance_29 rfl (lv_at hl 0 rfl) ?_
    refine lv_dup hx hb d_MON_countChance_30 rfl ?_
    refine va_get (D := G.1) (ci := 4) (v := .int ch) (C := R_MON) (T := T_MON) (N := 6) hx hb hT in_MON hown hK hP 0 rfl rfl 3 (by decide) (hT _ wd_172) (fun _ h9 => h9) rfl d_MON_countChance_31 ?_
    refine lv_iconst (v := 1) hx hb d_MON_countChance_34 (by decide) ?_
    refine lv_iadd hx hb d_MON_countChance_35 ?_
    refine va_put (D := G.1) (ci := 4) (v := .int (ch + 1)) (ty := .int) (C := R_MON) (T := T_MON) (N := 6) hx hb hT in_MON t_MON tok_MON nok_MON hown hK hP hD hS 0 rfl rfl 3 (by decide) (hT _ wd_172) (fun _ h9 => h9) rfl (by decide +kernel) rfl rfl (Nat.le_of_ble_eq_true rfl) d_MON_countChance_36 (fun H locs hP hD hS => ?_)
    have hP : va_P G.1 vwCl [(h0, .inr (4, [.int kd, .int cd, .int ru, .int (ch + 1), .int he, .int te]))] H := hP
    have hD : va_D A [(h0, .inr (4, [.int kd, .int cd, .int ru, .int (ch + 1), .int he, .int te]))] := hD
    refine lv_iload_n hx hb d_MON_countChance_39 rfl (lv_at hl 1 rfl) ?_
    refine lv_if_eq (tgt := 53) hx hb d_MON_countChance_40 (by decide) (fun c_40 => ?_) (fun c_40 => ?_)
    · have hw9 : ([(h0, .inr (4, [.int kd, .int cd, .int (ccR ru ch tr), .int (ccC ch), .int he, .int te]))] : va_W) = [(h0, .inr (4, [.int kd, .int cd, .int ru, .int (ch + 1), .int he, .int te]))] := by first | (simp [ccR, ccC, c_6, c_40]; done) | (simp_all [ccR, ccC]; done)
      rw [← hw9] at hP hD
      exact W.vret hx hb hr (fun t ht hW => ⟨⟨rfl, by rw [ht]; exact hP, by rw [hAe]; exact hD⟩, by rw [hAe]; exact hS.F ht⟩) hS.2.2 d_MON_countChance_53
    · refine lv_aload_n hx hb d_MON_countChance_43 rfl (lv_at hl 0 rfl) ?_
      refine lv_dup hx hb d_MON_countChance_44 rfl ?_
      refine va_get (D := G.1) (ci := 4) (v := .int ru) (C := R_MON) (T := T_MON) (N := 6) hx hb hT in_MON hown hK hP 0 rfl rfl 2 (by decide) (hT _ wd_170) (fun _ h9 => h9) rfl d_MON_countChance_45 ?_
      refine lv_iconst (v := 1) hx hb d_MON_countChance_48 (by decide) ?_
      refine lv_iadd hx hb d_MON_countChance_49 ?_
      refine va_put (D := G.1) (ci := 4) (v := .int (ru + 1)) (ty := .int) (C := R_MON) (T := T_MON) (N := 6) hx hb hT in_MON t_MON tok_MON nok_MON hown hK hP hD hS 0 rfl rfl 2 (by decide) (hT _ wd_170) (fun _ h9 => h9) rfl (by decide +kernel) rfl rfl (Nat.le_of_ble_eq_true rfl) d_MON_countChance_50 (fun H locs hP hD hS => ?_)
      have hP : va_P G.1 vwCl [(h0, .inr (4, [.int kd, .int cd, .int (ru + 1), .int (ch + 1), .int he, .int te]))] H := hP
      have hD : va_D A [(h0, .inr (4, [.int kd, .int cd, .int (ru + 1), .int (ch + 1), .int he, .int te]))] := hD
      have hw9 : ([(h0, .inr (4, [.int kd, .int cd, .int (ccR ru ch tr), .int (ccC ch), .int he, .int te]))] : va_W) = [(h0, .inr (4, [.int kd, .int cd, .int (ru + 1), .int (ch + 1), .int he, .int te]))] := by first | (simp [ccR, ccC, c_6, c_40]; done) | (simp_all [ccR, ccC]; done)
      rw [← hw9] at hP hD
      exact W.vret hx hb hr (fun t ht hW => ⟨⟨rfl, by rw [ht]; exact hP, by rw [hAe]; exact hD⟩, by rw [hAe]; exact hS.F ht⟩) hS.2.2 d_MON_countChance_53
  · refine lv_aload_n hx hb d_MON_countChance_9 rfl (lv_at hl 0 rfl) ?_
    refine lv_dup hx hb d_MON_countChance_10 rfl ?_
    refine va_get (D := G.1) (ci := 4) (v := .int ru) (C := R_MON) (T := T_MON) (N := 6) hx hb hT in_MON hown hK hP 0 rfl rfl 2 (by decide) (hT _ wd_170) (fun _ h9 => h9) rfl d_MON_countChance_11 ?_
    refine lv_iconst (v := 2) hx hb d_MON_countChance_14 (by decide) ?_
    refine lv_idiv hx hb d_MON_countChance_15 (by decide) ?_
    refine va_put (D := G.1) (ci := 4) (v := .int (ru / 2)) (ty := .int) (C := R_MON) (T := T_MON) (N := 6) hx hb hT in_MON t_MON tok_MON nok_MON hown hK hP hD hS 0 rfl rfl 2 (by decide) (hT _ wd_170) (fun _ h9 => h9) rfl (by decide +kernel) rfl rfl (Nat.le_of_ble_eq_true rfl) d_MON_countChance_16 (fun H locs hP hD hS => ?_)
    have hP : va_P G.1 vwCl [(h0, .inr (4, [.int kd, .int cd, .int (ru / 2), .int ch, .int he, .int te]))] H := hP
    have hD : va_D A [(h0, .inr (4, [.int kd, .int cd, .int (ru / 2), .int ch, .int he, .int te]))] := hD
    refine lv_aload_n hx hb d_MON_countChance_19 rfl (lv_at hl 0 rfl) ?_
    refine lv_dup hx hb d_MON_countChance_20 rfl ?_
    refine va_get (D := G.1) (ci := 4) (v := .int ch) (C := R_MON) (T := T_MON) (N := 6) hx hb hT in_MON hown hK hP 0 rfl rfl 3 (by decide) (hT _ wd_172) (fun _ h9 => h9) rfl d_MON_countChance_21 ?_
    refine lv_iconst (v := 2) hx hb d_MON_countChance_24 (by decide) ?_
    refine lv_idiv hx hb d_MON_countChance_25 (by decide) ?_
    refine va_put (D := G.1) (ci := 4) (v := .int (ch / 2)) (ty := .int) (C := R_MON) (T := T_MON) (N := 6) hx hb hT in_MON t_MON tok_MON nok_MON hown hK hP hD hS 0 rfl rfl 3 (by decide) (hT _ wd_172) (fun _ h9 => h9) rfl (by decide +kernel) rfl rfl (Nat.le_of_ble_eq_true rfl) d_MON_countChance_26 (fun H locs hP hD hS => ?_)
    have hP : va_P G.1 vwCl [(h0, .inr (4, [.int kd, .int cd, .int (ru / 2), .int (ch / 2), .int he, .int te]))] H := hP
    have hD : va_D A [(h0, .inr (4, [.int kd, .int cd, .int (ru / 2), .int (ch / 2), .int he, .int te]))] := hD
    refine lv_aload_n hx hb d_MON_countChance_29 rfl (lv_at hl 0 rfl) ?_
    refine lv_dup hx hb d_MON_countChance_30 rfl ?_
    refine va_get (D := G.1) (ci := 4) (v := .int (ch / 2)) (C := R_MON) (T := T_MON) (N := 6) hx hb hT in_MON hown hK hP 0 rfl rfl 3 (by decide) (hT _ wd_172) (fun _ h9 => h9) rfl d_MON_countChance_31 ?_
    refine lv_iconst (v := 1) hx hb d_MON_countChance_34 (by decide) ?_
    refine lv_iadd hx hb d_MON_countChance_35 ?_
    refine va_put (D := G.1) (ci := 4) (v := .int ((ch / 2) + 1)) (ty := .int) (C := R_MON) (T := T_MON) (N := 6) hx hb hT in_MON t_MON tok_MON nok_MON hown hK hP hD hS 0 rfl rfl 3 (by decide) (hT _ wd_172) (fun _ h9 => h9) rfl (by decide +kernel) rfl rfl (Nat.le_of_ble_eq_true rfl) d_MON_countChance_36 (fun H locs hP hD hS => ?_)
    have hP : va_P G.1 vwCl [(h0, .inr (4, [.int kd, .int cd, .int (ru / 2), .int ((ch / 2) + 1), .int he, .int te]))] H := hP
    have hD : va_D A [(h0, .inr (4, [.int kd, .int cd, .int (ru / 2), .int ((ch / 2) + 1), .int he, .int te]))] := hD
    refine lv_iload_n hx hb d_MON_countChance_39 rfl (lv_at hl 1 rfl) ?_
    refine lv_if_eq (tgt := 53) hx hb d_MON_countChance_40 (by decide) (fun c_40 => ?_) (fun c_40 => ?_)
    · have hw9 : ([(h0, .inr (4, [.int kd, .int cd, .int (ccR ru ch tr), .int (ccC ch), .int he, .int te]))] : va_W) = [(h0, .inr (4, [.int kd, .int cd, .int (ru / 2), .int ((ch / 2) + 1), .int he, .int te]))] := by first | (simp [ccR, ccC, c_6, c_40]; done) | (simp_all [ccR, ccC]; done)
      rw [← hw9] at hP hD
      exact W.vret hx hb hr (fun t ht hW => ⟨⟨rfl, by rw [ht]; exact hP, by rw [hAe]; exact hD⟩, by rw [hAe]; exact hS.F ht⟩) hS.2.2 d_MON_countChance_53
    · refine lv_aload_n hx hb d_MON_countChance_43 rfl (lv_at hl 0 rfl) ?_
      refine lv_dup hx hb d_MON_countChance_44 rfl ?_
      refine va_get (D := G.1) (ci := 4) (v := .int (ru / 2)) (C := R_MON) (T := T_MON) (N := 6) hx hb hT in_MON hown hK hP 0 rfl rfl 2 (by decide) (hT _ wd_170) (fun _ h9 => h9) rfl d_MON_countChance_45 ?_
      refine lv_iconst (v := 1) hx hb d_MON_countChance_48 (by decide) ?_
      refine lv_iadd hx hb d_MON_countChance_49 ?_
      refine va_put (D := G.1) (ci := 4) (v := .int ((ru / 2) + 1)) (ty := .int) (C := R_MON) (T := T_MON) (N := 6) hx hb hT in_MON t_MON tok_MON nok_MON hown hK hP hD hS 0 rfl rfl 2 (by decide) (hT _ wd_170) (fun _ h9 => h9) rfl (by decide +kernel) rfl rfl (Nat.le_of_ble_eq_true rfl) d_MON_countChance_50 (fun H locs hP hD hS => ?_)
      have hP : va_P G.1 vwCl [(h0, .inr (4, [.int kd, .int cd, .int ((ru / 2) + 1), .int ((ch / 2) + 1), .int he, .int te]))] H := hP
      have hD : va_D A [(h0, .inr (4, [.int kd, .int cd, .int ((ru / 2) + 1), .int ((ch / 2) + 1), .int he, .int te]))] := hD
      have hw9 : ([(h0, .inr (4, [.int kd, .int cd, .int (ccR ru ch tr), .int (ccC ch), .int he, .int te]))] : va_W) = [(h0, .inr (4, [.int kd, .int cd, .int ((ru / 2) + 1), .int ((ch / 2) + 1), .int he, .int te]))] := by first | (simp [ccR, ccC, c_6, c_40]; done) | (simp_all [ccR, ccC]; done)
      rw [← hw9] at hP hD
      exact W.vret hx hb hr (fun t ht hW => ⟨⟨rfl, by rw [ht]; exact hP, by rw [hAe]; exact hD⟩, by rw [hAe]; exact hS.F ht⟩) hS.2.2 d_MON_countChance_53
set_option maxHeartbeats 4000000 in
set_option maxRecDepth 100000 in
theorem c_hasChance (l : Launch) (G : GG) (sz : Nat) (h0 : Nat) (kd : Int32) (cd : Int32) (ru : Int32) (ch : Int32) (he : Int32) (te : Int32) (cs : Int32)  : Met l y_MON_hasChance w_MON_hasChance ({ frames := 1, cells := 0, slots := 0, locals := 21 }) (va_Pc [.ref h0, .int cs] (Pw G sz [(h0, .inr (4, [.int kd, .int cd, .int ru, .int ch, .int he, .int te]))])) (QW G (some (.int (hcR kd cd he cs))) [(h0, .inr (4, [.int kd, .int cd, .int ru, .int ch, .int he, .int te]))] [(h0, .inr (4, [.int kd, .int cd, .int ru, .int ch, .int (hcH cd he cs), .int te]))] sz) 0 0 (va_A [(h0, .inr (4, [.int kd, .int cd, .int ru, .int ch, .int he, .int te]))] sz) := by
  refine Met.ofW (cc := b_MON_hasChance) (maxL := 3) (ret := (some .boolean)) (by decide) rfl ?_
  intro p e s m args below meth c s₁ B hml hv
  obtain ⟨rfl, hsz, hP, hGK, hD0⟩ := hv
  have hx := B.exec
  have hb := B.bytes
  have hr := B.returns
  have hts := atoms_spec (ws := w_MON_hasChance) B.pre
  have hT : ∀ w ∈ lwG, w.before _ s = true := fun w h => hts w (List.mem_cons_of_mem _ h)
  have hown : s.vm.findClass R_MON = some m.cls := findClass_of_methodNamed B.named
  have hlocks := B.notSynchronized
  have hK := hGK.1
  have hN := hGK.2
  subst hsz
  have hD := hD0.self (sz := s.heap.size)
  generalize hAe : va_A [(h0, .inr (4, [.int kd, .int cd, .int ru, .int ch, .int he, .int te]))] s.heap.size = A at hD ⊢
  have hA : ∀ q : Nat, s.heap.size ≤ q → A q := fun q h => by rw [← hAe]; exact Or.inr h
  have hS : va_S A s.heap s.heap [] := va_S.rf
  have hP : va_P G.1 vwCl [(h0, .inr (4, [.int kd, .int cd, .int ru, .int ch, .int he, .int te]))] s.heap := hP
  have hl := lv_entry ([.ref h0, .int cs]) (n := 3) (Nat.le_of_ble_eq_true rfl)
  rw [lg_entry_eq]
  generalize (lg_sl ([.ref h0, .int cs]) ++ List.replicate (3 - (lg_sl ([.ref h0, .int cs])).length) Slot.unset).toArray = ls at hl ⊢
  have hl : lv_has ls 3 [(0, .ref h0), (1, .int cs)] := hl
  refine lv_iload_n hx hb d_MON_hasChance_0 rfl (lv_at hl 1 rfl) ?_
  refine lv_aload_n hx hb d_MON_hasChance_1 rfl (lv_at hl 0 rfl) ?_
  refine va_get (D := G.1) (ci := 4) (v := .int cd) (C := R_MON) (T := T_MON) (N := 6) hx hb hT in_MON hown hK hP 0 rfl rfl 1 (by decide) (hT _ wd_169) (fun _ h9 => h9) rfl d_MON_hasChance_2 ?_
  refine bx_callV ((va_runSN (As := [.int cs, .int cd]) (rest := []) ⟨hx, hb, hml, hown, hts⟩ (c_isBitSet l G cs cd) ⟨(va_cnB 2 hts (gi_all wd_271) rfl rfl rfl (hN (.methodLinkNest "EmissionRows$Monitor" 39 ⟨"EmissionRows", "isBitSet", "(II)Z"⟩ "EmissionRows") nw_280) (hT _ wd_45) (by decide +kernel) ⟨Nat.le_of_ble_eq_true rfl, Nat.le_of_ble_eq_true rfl⟩), (hT _ wd_270), trivial⟩ (psR bx_nil hGK) rfl rfl hl.1 rfl (lv_room (Nat.le_of_ble_eq_true rfl)) d_MON_hasChance_5 ⟨Nat.le_of_ble_eq_true rfl, Nat.le_of_ble_eq_true rfl⟩)).run ?_
  refine lv_istore_n (lv' := [(2, .int (bitF cs cd)), (0, .ref h0), (1, .int cs)]) hx hb d_MON_hasChance_8 rfl hl (by decide) rfl (fun ls hl => ?_)
  refine lv_iload_n hx hb d_MON_hasChance_9 rfl (lv_at hl 0 rfl) ?_
  refine lv_if_eq (tgt := 23) hx hb d_MON_hasChance_10 (by decide) (fun c_10 => ?_) (fun c_10 => ?_)
  · refine lv_aload_n hx hb d_MON_hasChance_23 rfl (lv_at hl 1 rfl) ?_
    refine va_get (D := G.1) (ci := 4) (v := .int kd) (C := R_MON) (T := T_MON) (N := 6) hx hb hT in_MON hown hK hP 0 rfl rfl 0 (by decide) (hT _ wd_167) (fun _ h9 => h9) rfl d_MON_hasChance_24 ?_
    rcases Decidable.em (kd = 1) with c_27_1 | c_27_1
    · refine lv_tableIn (off := 25) (tgt := 52) hx hb d_MON_hasChance_27 (by rw [c_27_1]; decide) (by rw [c_27_1]; decide) (by rw [c_27_1]; decide) (by decide) ?_
      refine lv_iload_n hx hb d_MON_hasChance_52 rfl (lv_at hl 0 rfl) ?_
      refine lv_if_eq (tgt := 76) hx hb d_MON_hasChance_53 (by decide) (fun c_53 => ?_) (fun c_53 => ?_)
      · refine lv_iconst (v := 0) hx hb d_MON_hasChance_76 (by decide) ?_
        have hw9 : ([(h0, .inr (4, [.int kd, .int cd, .int ru, .int ch, .int (hcH cd he cs), .int te]))] : va_W) = [(h0, .inr (4, [.int kd, .int cd, .int ru, .int ch, .int he, .int te]))] := by first | (simp [hcR, hcH, c_10, c_27_1, c_53]; done) | (simp_all [hcR, hcH]; done)
        rw [← hw9] at hP hD
        have hq9 : (.int (hcR kd cd he cs)) = (.int 0 : Value) := by first | (simp [hcR, hcH, c_10, c_27_1, c_53]; done) | (simp_all [hcR, hcH]; done)
        exact W.zret (v := 0) hx hb hr rfl (fun t ht hW => ⟨⟨by rw [hq9], by rw [ht]; exact hP, by rw [hAe]; exact hD⟩, by rw [hAe]; exact hS.F ht⟩) hS.2.2 d_MON_hasChance_77
      · refine lv_iload_n hx hb d_MON_hasChance_56 rfl (lv_at hl 2 rfl) ?_
        refine lv_aload_n hx hb d_MON_hasChance_57 rfl (lv_at hl 1 rfl) ?_
        refine va_get (D := G.1) (ci := 4) (v := .int cd) (C := R_MON) (T := T_MON) (N := 6) hx hb hT in_MON hown hK hP 0 rfl rfl 1 (by decide) (hT _ wd_169) (fun _ h9 => h9) rfl d_MON_hasChance_58 ?_
        refine lv_iconst (v := 1) hx hb d_MON_hasChance_61 (by decide) ?_
        refine lv_iadd hx hb d_MON_hasChance_62 ?_
        refine lv_bipush (v := 8) hx hb d_MON_hasChance_63 (by decide) ?_
        refine lv_irem hx hb d_MON_hasChance_65 (by decide) ?_
        refine bx_callV ((va_runSN (As := [.int cs, .int ((cd + 1) - (cd + 1) / 8 * 8)]) (rest := []) ⟨hx, hb, hml, hown, hts⟩ (c_isBitSet l G cs ((cd + 1) - (cd + 1) / 8 * 8)) ⟨(va_cnB 2 hts (gi_all wd_271) rfl rfl rfl (hN (.methodLinkNest "EmissionRows$Monitor" 39 ⟨"EmissionRows", "isBitSet", "(II)Z"⟩ "EmissionRows") nw_280) (hT _ wd_45) (by decide +kernel) ⟨Nat.le_of_ble_eq_true rfl, Nat.le_of_ble_eq_true rfl⟩), (hT _ wd_270), trivial⟩ (psR bx_nil hGK) rfl rfl hl.1 rfl (lv_room (Nat.le_of_ble_eq_true rfl)) d_MON_hasChance_66 ⟨Nat.le_of_ble_eq_true rfl, Nat.le_of_ble_eq_true rfl⟩)).run ?_
        refine lv_if_eq (tgt := 76) hx hb d_MON_hasChance_69 (by decide) (fun c_69 => ?_) (fun c_69 => ?_)
        · refine lv_iconst (v := 0) hx hb d_MON_hasChance_76 (by decide) ?_
          have hw9 : ([(h0, .inr (4, [.int kd, .int cd, .int ru, .int ch, .int (hcH cd he cs), .int te]))] : va_W) = [(h0, .inr (4, [.int kd, .int cd, .int ru, .int ch, .int he, .int te]))] := by first | (simp [hcR, hcH, c_10, c_27_1, c_53, c_69]; done) | (simp_all [hcR, hcH]; done)
          rw [← hw9] at hP hD
          have hq9 : (.int (hcR kd cd he cs)) = (.int 0 : Value) := by first | (simp [hcR, hcH, c_10, c_27_1, c_53, c_69]; done) | (simp_all [hcR, hcH]; done)
          exact W.zret (v := 0) hx hb hr rfl (fun t ht hW => ⟨⟨by rw [hq9], by rw [ht]; exact hP, by rw [hAe]; exact hD⟩, by rw [hAe]; exact hS.F ht⟩) hS.2.2 d_MON_hasChance_77
        · refine lv_iconst (v := 1) hx hb d_MON_hasChance_72 (by decide) ?_
          refine lv_goto (tgt := 77) hx hb d_MON_hasChance_73 (by decide) ?_
          have hw9 : ([(h0, .inr (4, [.int kd, .int cd, .int ru, .int ch, .int (hcH cd he cs), .int te]))] : va_W) = [(h0, .inr (4, [.int kd, .int cd, .int ru, .int ch, .int he, .int te]))] := by first | (simp [hcR, hcH, c_10, c_27_1, c_53, c_69]; done) | (simp_all [hcR, hcH]; done)
          rw [← hw9] at hP hD
          have hq9 : (.int (hcR kd cd he cs)) = (.int 1 : Value) := by first | (simp [hcR, hcH, c_10, c_27_1, c_53, c_69]; done) | (simp_all [hcR, hcH]; done)
          exact W.zret (v := 1) hx hb hr rfl (fun t ht hW => ⟨⟨by rw [hq9], by rw [ht]; exact hP, by rw [hAe]; exact hD⟩, by rw [hAe]; exact hS.F ht⟩) hS.2.2 d_MON_hasChance_77
    rcases Decidable.em (kd = 2) with c_27_2 | c_27_2
    · refine lv_tableIn (off := 51) (tgt := 78) hx hb d_MON_hasChance_27 (by rw [c_27_2]; decide) (by rw [c_27_2]; decide) (by rw [c_27_2]; decide) (by decide) ?_
      refine lv_iload_n hx hb d_MON_hasChance_78 rfl (lv_at hl 0 rfl) ?_
      refine lv_if_eq (tgt := 95) hx hb d_MON_hasChance_79 (by decide) (fun c_79 => ?_) (fun c_79 => ?_)
      · refine lv_iconst (v := 0) hx hb d_MON_hasChance_95 (by decide) ?_
        have hw9 : ([(h0, .inr (4, [.int kd, .int cd, .int ru, .int ch, .int (hcH cd he cs), .int te]))] : va_W) = [(h0, .inr (4, [.int kd, .int cd, .int ru, .int ch, .int he, .int te]))] := by first | (simp [hcR, hcH, c_10, c_27_1, c_27_2, c_79]; done) | (simp_all [hcR, hcH]; done)
        rw [← hw9] at hP hD
        have hq9 : (.int (hcR kd cd he cs)) = (.int 0 : Value) := by first | (simp [hcR, hcH, c_10, c_27_1, c_27_2, c_79]; done) | (simp_all [hcR, hcH]; done)
        exact W.zret (v := 0) hx hb hr rfl (fun t ht hW => ⟨⟨by rw [hq9], by rw [ht]; exact hP, by rw [hAe]; exact hD⟩, by rw [hAe]; exact hS.F ht⟩) hS.2.2 d_MON_hasChance_96
      · refine lv_aload_n hx hb d_MON_hasChance_82 rfl (lv_at hl 1 rfl) ?_
        refine va_get (D := G.1) (ci := 4) (v := .int he) (C := R_MON) (T := T_MON) (N := 6) hx hb hT in_MON hown hK hP 0 rfl rfl 4 (by decide) (hT _ wd_174) (fun _ h9 => h9) rfl d_MON_hasChance_83 ?_
        refine lv_iconst (v := 2) hx hb d_MON_hasChance_86 (by decide) ?_
        refine lv_irem hx hb d_MON_hasChance_87 (by decide) ?_
        refine lv_if_ne (tgt := 95) hx hb d_MON_hasChance_88 (by decide) (fun c_88 => ?_) (fun c_88 => ?_)
        · refine lv_iconst (v := 0) hx hb d_MON_hasChance_95 (by decide) ?_
          have hw9 : ([(h0, .inr (4, [.int kd, .int cd, .int ru, .int ch, .int (hcH cd he cs), .int te]))] : va_W) = [(h0, .inr (4, [.int kd, .int cd, .int ru, .int ch, .int he, .int te]))] := by first | (simp [hcR, hcH, c_10, c_27_1, c_27_2, c_79, c_88]; done) | (simp_all [hcR, hcH]; done)
          rw [← hw9] at hP hD
          have hq9 : (.int (hcR kd cd he cs)) = (.int 0 : Value) := by first | (simp [hcR, hcH, c_10, c_27_1, c_27_2, c_79, c_88]; done) | (simp_all [hcR, hcH]; done)
          exact W.zret (v := 0) hx hb hr rfl (fun t ht hW => ⟨⟨by rw [hq9], by rw [ht]; exact hP, by rw [hAe]; exact hD⟩, by rw [hAe]; exact hS.F ht⟩) hS.2.2 d_MON_hasChance_96
        · refine lv_iconst (v := 1) hx hb d_MON_hasChance_91 (by decide) ?_
          refine lv_goto (tgt := 96) hx hb d_MON_hasChance_92 (by decide) ?_
          have hw9 : ([(h0, .inr (4, [.int kd, .int cd, .int ru, .int ch, .int (hcH cd he cs), .int te]))] : va_W) = [(h0, .inr (4, [.int kd, .int cd, .int ru, .int ch, .int he, .int te]))] := by first | (simp [hcR, hcH, c_10, c_27_1, c_27_2, c_79, c_88]; done) | (simp_all [hcR, hcH]; done)
          rw [← hw9] at hP hD
          have hq9 : (.int (hcR kd cd he cs)) = (.int 1 : Value) := by first | (simp [hcR, hcH, c_10, c_27_1, c_27_2, c_79, c_88]; done) | (simp_all [hcR, hcH]; done)
          exact W.zret (v := 1) hx hb hr rfl (fun t ht hW => ⟨⟨by rw [hq9], by rw [ht]; exact hP, by rw [hAe]; exact hD⟩, by rw [hAe]; exact hS.F ht⟩) hS.2.2 d_MON_hasChance_96
    rcases Decidable.em (kd = 3) with c_27_3 | c_27_3
    · refine lv_tableIn (off := 70) (tgt := 97) hx hb d_MON_hasChance_27 (by rw [c_27_3]; decide) (by rw [c_27_3]; decide) (by rw [c_27_3]; decide) (by decide) ?_
      refine lv_iload_n hx hb d_MON_hasChance_97 rfl (lv_at hl 0 rfl) ?_
      refine lv_if_ne (tgt := 105) hx hb d_MON_hasChance_98 (by decide) (fun c_98 => ?_) (fun c_98 => ?_)
      · refine lv_iconst (v := 0) hx hb d_MON_hasChance_105 (by decide) ?_
        have hw9 : ([(h0, .inr (4, [.int kd, .int cd, .int ru, .int ch, .int (hcH cd he cs), .int te]))] : va_W) = [(h0, .inr (4, [.int kd, .int cd, .int ru, .int ch, .int he, .int te]))] := by first | (simp [hcR, hcH, c_10, c_27_1, c_27_2, c_27_3, c_98]; done) | (simp_all [hcR, hcH]; done)
        rw [← hw9] at hP hD
        have hq9 : (.int (hcR kd cd he cs)) = (.int 0 : Value) := by first | (simp [hcR, hcH, c_10, c_27_1, c_27_2, c_27_3, c_98]; done) | (simp_all [hcR, hcH]; done)
        exact W.zret (v := 0) hx hb hr rfl (fun t ht hW => ⟨⟨by rw [hq9], by rw [ht]; exact hP, by rw [hAe]; exact hD⟩, by rw [hAe]; exact hS.F ht⟩) hS.2.2 d_MON_hasChance_106
      · refine lv_iconst (v := 1) hx hb d_MON_hasChance_101 (by decide) ?_
        refine lv_goto (tgt := 106) hx hb d_MON_hasChance_102 (by decide) ?_
        have hw9 : ([(h0, .inr (4, [.int kd, .int cd, .int ru, .int ch, .int (hcH cd he cs), .int te]))] : va_W) = [(h0, .inr (4, [.int kd, .int cd, .int ru, .int ch, .int he, .int te]))] := by first | (simp [hcR, hcH, c_10, c_27_1, c_27_2, c_27_3, c_98]; done) | (simp_all [hcR, hcH]; done)
        rw [← hw9] at hP hD
        have hq9 : (.int (hcR kd cd he cs)) = (.int 1 : Value) := by first | (simp [hcR, hcH, c_10, c_27_1, c_27_2, c_27_3, c_98]; done) | (simp_all [hcR, hcH]; done)
        exact W.zret (v := 1) hx hb hr rfl (fun t ht hW => ⟨⟨by rw [hq9], by rw [ht]; exact hP, by rw [hAe]; exact hD⟩, by rw [hAe]; exact hS.F ht⟩) hS.2.2 d_MON_hasChance_106
    have hsw : kd.toInt < 1 ∨ 3 < kd.toInt := by
      have nc_27_1 := lv_neT (a := 1) c_27_1 (by decide)
      have nc_27_2 := lv_neT (a := 2) c_27_2 (by decide)
      have nc_27_3 := lv_neT (a := 3) c_27_3 (by decide)
      omega
    refine lv_tableOut (tgt := 107) hx hb d_MON_hasChance_27 hsw (by decide) ?_
    refine lv_iload_n hx hb d_MON_hasChance_107 rfl (lv_at hl 0 rfl) ?_
    have hw9 : ([(h0, .inr (4, [.int kd, .int cd, .int ru, .int ch, .int (hcH cd he cs), .int te]))] : va_W) = [(h0, .inr (4, [.int kd, .int cd, .int ru, .int ch, .int he, .int te]))] := by first | (simp [hcR, hcH, c_10, c_27_1, c_27_2, c_27_3]; done) | (simp_all [hcR, hcH]; done)
    rw [← hw9] at hP hD
    have hq9 : (.int (hcR kd cd he cs)) = (.int (bitF cs cd) : Value) := by first | (simp [hcR, hcH, c_10, c_27_1, c_27_2, c_27_3]; done) | (simp_all [hcR, hcH]; done)
    exact W.zret (v := bitF cs cd) hx hb hr (bitF_bz _ _).n (fun t ht hW => ⟨⟨by rw [hq9], by rw [ht]; exact hP, by rw [hAe]; exact hD⟩, by rw [hAe]; exact hS.F ht⟩) hS.2.2 d_MON_hasChance_108
  · refine lv_aload_n hx hb d_MON_hasChance_13 rfl (lv_at hl 1 rfl) ?_
    refine lv_dup hx hb d_MON_hasChance_14 rfl ?_
    refine va_get (D := G.1) (ci := 4) (v := .int he) (C := R_MON) (T := T_MON) (N := 6) hx hb hT in_MON hown hK hP 0 rfl rfl 4 (by decide) (hT _ wd_174) (fun _ h9 => h9) rfl d_MON_hasChance_15 ?_
    refine lv_iconst (v := 1) hx hb d_MON_hasChance_18 (by decide) ?_
    refine lv_iadd hx hb d_MON_hasChance_19 ?_
    refine va_put (D := G.1) (ci := 4) (v := .int (he + 1)) (ty := .int) (C := R_MON) (T := T_MON) (N := 6) hx hb hT in_MON t_MON tok_MON nok_MON hown hK hP hD hS 0 rfl rfl 4 (by decide) (hT _ wd_174) (fun _ h9 => h9) rfl (by decide +kernel) rfl rfl (Nat.le_of_ble_eq_true rfl) d_MON_hasChance_20 (fun H locs hP hD hS => ?_)
    have hP : va_P G.1 vwCl [(h0, .inr (4, [.int kd, .int cd, .int ru, .int ch, .int (he + 1), .int te]))] H := hP
    have hD : va_D A [(h0, .inr (4, [.int kd, .int cd, .int ru, .int ch, .int (he + 1), .int te]))] := hD
    refine lv_aload_n hx hb d_MON_hasChance_23 rfl (lv_at hl 1 rfl) ?_
    refine va_get (D := G.1) (ci := 4) (v := .int kd) (C := R_MON) (T := T_MON) (N := 6) hx hb hT in_MON hown hK hP 0 rfl rfl 0 (by decide) (hT _ wd_167) (fun _ h9 => h9) rfl d_MON_hasChance_24 ?_
    rcases Decidable.em (kd = 1) with c_27_1 | c_27_1
    · refine lv_tableIn (off := 25) (tgt := 52) hx hb d_MON_hasChance_27 (by rw [c_27_1]; decide) (by rw [c_27_1]; decide) (by rw [c_27_1]; decide) (by decide) ?_
      refine lv_iload_n hx hb d_MON_hasChance_52 rfl (lv_at hl 0 rfl) ?_
      refine lv_if_eq (tgt := 76) hx hb d_MON_hasChance_53 (by decide) (fun c_53 => ?_) (fun c_53 => ?_)
      · refine lv_iconst (v := 0) hx hb d_MON_hasChance_76 (by decide) ?_
        have hw9 : ([(h0, .inr (4, [.int kd, .int cd, .int ru, .int ch, .int (hcH cd he cs), .int te]))] : va_W) = [(h0, .inr (4, [.int kd, .int cd, .int ru, .int ch, .int (he + 1), .int te]))] := by first | (simp [hcR, hcH, c_10, c_27_1, c_53]; done) | (simp_all [hcR, hcH]; done)
        rw [← hw9] at hP hD
        have hq9 : (.int (hcR kd cd he cs)) = (.int 0 : Value) := by first | (simp [hcR, hcH, c_10, c_27_1, c_53]; done) | (simp_all [hcR, hcH]; done)
        exact W.zret (v := 0) hx hb hr rfl (fun t ht hW => ⟨⟨by rw [hq9], by rw [ht]; exact hP, by rw [hAe]; exact hD⟩, by rw [hAe]; exact hS.F ht⟩) hS.2.2 d_MON_hasChance_77
      · refine lv_iload_n hx hb d_MON_hasChance_56 rfl (lv_at hl 2 rfl) ?_
        refine lv_aload_n hx hb d_MON_hasChance_57 rfl (lv_at hl 1 rfl) ?_
        refine va_get (D := G.1) (ci := 4) (v := .int cd) (C := R_MON) (T := T_MON) (N := 6) hx hb hT in_MON hown hK hP 0 rfl rfl 1 (by decide) (hT _ wd_169) (fun _ h9 => h9) rfl d_MON_hasChance_58 ?_
        refine lv_iconst (v := 1) hx hb d_MON_hasChance_61 (by decide) ?_
        refine lv_iadd hx hb d_MON_hasChance_62 ?_
        refine lv_bipush (v := 8) hx hb d_MON_hasChance_63 (by decide) ?_
        refine lv_irem hx hb d_MON_hasChance_65 (by decide) ?_
        refine bx_callV ((va_runSN (As := [.int cs, .int ((cd + 1) - (cd + 1) / 8 * 8)]) (rest := []) ⟨hx, hb, hml, hown, hts⟩ (c_isBitSet l G cs ((cd + 1) - (cd + 1) / 8 * 8)) ⟨(va_cnB 2 hts (gi_all wd_271) rfl rfl rfl (hN (.methodLinkNest "EmissionRows$Monitor" 39 ⟨"EmissionRows", "isBitSet", "(II)Z"⟩ "EmissionRows") nw_280) (hT _ wd_45) (by decide +kernel) ⟨Nat.le_of_ble_eq_true rfl, Nat.le_of_ble_eq_true rfl⟩), (hT _ wd_270), trivial⟩ (psR bx_nil hGK) rfl rfl hl.1 rfl (lv_room (Nat.le_of_ble_eq_true rfl)) d_MON_hasChance_66 ⟨Nat.le_of_ble_eq_true rfl, Nat.le_of_ble_eq_true rfl⟩)).run ?_
        refine lv_if_eq (tgt := 76) hx hb d_MON_hasChance_69 (by decide) (fun c_69 => ?_) (fun c_69 => ?_)
        · refine lv_iconst (v := 0) hx hb d_MON_hasChance_76 (by decide) ?_
          have hw9 : ([(h0, .inr (4, [.int kd, .int cd, .int ru, .int ch, .int (hcH cd he cs), .int te]))] : va_W) = [(h0, .inr (4, [.int kd, .int cd, .int ru, .int ch, .int (he + 1), .int te]))] := by first | (simp [hcR, hcH, c_10, c_27_1, c_53, c_69]; done) | (simp_all [hcR, hcH]; done)
          rw [← hw9] at hP hD
          have hq9 : (.int (hcR kd cd he cs)) = (.int 0 : Value) := by first | (simp [hcR, hcH, c_10, c_27_1, c_53, c_69]; done) | (simp_all [hcR, hcH]; done)
          exact W.zret (v := 0) hx hb hr rfl (fun t ht hW => ⟨⟨by rw [hq9], by rw [ht]; exact hP, by rw [hAe]; exact hD⟩, by rw [hAe]; exact hS.F ht⟩) hS.2.2 d_MON_hasChance_77
        · refine lv_iconst (v := 1) hx hb d_MON_hasChance_72 (by decide) ?_
          refine lv_goto (tgt := 77) hx hb d_MON_hasChance_73 (by decide) ?_
          have hw9 : ([(h0, .inr (4, [.int kd, .int cd, .int ru, .int ch, .int (hcH cd he cs), .int te]))] : va_W) = [(h0, .inr (4, [.int kd, .int cd, .int ru, .int ch, .int (he + 1), .int te]))] := by first | (simp [hcR, hcH, c_10, c_27_1, c_53, c_69]; done) | (simp_all [hcR, hcH]; done)
          rw [← hw9] at hP hD
          have hq9 : (.int (hcR kd cd he cs)) = (.int 1 : Value) := by first | (simp [hcR, hcH, c_10, c_27_1, c_53, c_69]; done) | (simp_all [hcR, hcH]; done)
          exact W.zret (v := 1) hx hb hr rfl (fun t ht hW => ⟨⟨by rw [hq9], by rw [ht]; exact hP, by rw [hAe]; exact hD⟩, by rw [hAe]; exact hS.F ht⟩) hS.2.2 d_MON_hasChance_77
    rcases Decidable.em (kd = 2) with c_27_2 | c_27_2
    · refine lv_tableIn (off := 51) (tgt := 78) hx hb d_MON_hasChance_27 (by rw [c_27_2]; decide) (by rw [c_27_2]; decide) (by rw [c_27_2]; decide) (by decide) ?_
      refine lv_iload_n hx hb d_MON_hasChance_78 rfl (lv_at hl 0 rfl) ?_
      refine lv_if_eq (tgt := 95) hx hb d_MON_hasChance_79 (by decide) (fun c_79 => ?_) (fun c_79 => ?_)
      · refine lv_iconst (v := 0) hx hb d_MON_hasChance_95 (by decide) ?_
        have hw9 : ([(h0, .inr (4, [.int kd, .int cd, .int ru, .int ch, .int (hcH cd he cs), .int te]))] : va_W) = [(h0, .inr (4, [.int kd, .int cd, .int ru, .int ch, .int (he + 1), .int te]))] := by first | (simp [hcR, hcH, c_10, c_27_1, c_27_2, c_79]; done) | (simp_all [hcR, hcH]; done)
        rw [← hw9] at hP hD
        have hq9 : (.int (hcR kd cd he cs)) = (.int 0 : Value) := by first | (simp [hcR, hcH, c_10, c_27_1, c_27_2, c_79]; done) | (simp_all [hcR, hcH]; done)
        exact W.zret (v := 0) hx hb hr rfl (fun t ht hW => ⟨⟨by rw [hq9], by rw [ht]; exact hP, by rw [hAe]; exact hD⟩, by rw [hAe]; exact hS.F ht⟩) hS.2.2 d_MON_hasChance_96
      · refine lv_aload_n hx hb d_MON_hasChance_82 rfl (lv_at hl 1 rfl) ?_
        refine va_get (D := G.1) (ci := 4) (v := .int (he + 1)) (C := R_MON) (T := T_MON) (N := 6) hx hb hT in_MON hown hK hP 0 rfl rfl 4 (by decide) (hT _ wd_174) (fun _ h9 => h9) rfl d_MON_hasChance_83 ?_
        refine lv_iconst (v := 2) hx hb d_MON_hasChance_86 (by decide) ?_
        refine lv_irem hx hb d_MON_hasChance_87 (by decide) ?_
        refine lv_if_ne (tgt := 95) hx hb d_MON_hasChance_88 (by decide) (fun c_88 => ?_) (fun c_88 => ?_)
        · refine lv_iconst (v := 0) hx hb d_MON_hasChance_95 (by decide) ?_
          have hw9 : ([(h0, .inr (4, [.int kd, .int cd, .int ru, .int ch, .int (hcH cd he cs), .int te]))] : va_W) = [(h0, .inr (4, [.int kd, .int cd, .int ru, .int ch, .int (he + 1), .int te]))] := by first | (simp [hcR, hcH, c_10, c_27_1, c_27_2, c_79, c_88]; done) | (simp_all [hcR, hcH]; done)
          rw [← hw9] at hP hD
          have hq9 : (.int (hcR kd cd he cs)) = (.int 0 : Value) := by first | (simp [hcR, hcH, c_10, c_27_1, c_27_2, c_79, c_88]; done) | (simp_all [hcR, hcH]; done)
          exact W.zret (v := 0) hx hb hr rfl (fun t ht hW => ⟨⟨by rw [hq9], by rw [ht]; exact hP, by rw [hAe]; exact hD⟩, by rw [hAe]; exact hS.F ht⟩) hS.2.2 d_MON_hasChance_96
        · refine lv_iconst (v := 1) hx hb d_MON_hasChance_91 (by decide) ?_
          refine lv_goto (tgt := 96) hx hb d_MON_hasChance_92 (by decide) ?_
          have hw9 : ([(h0, .inr (4, [.int kd, .int cd, .int ru, .int ch, .int (hcH cd he cs), .int te]))] : va_W) = [(h0, .inr (4, [.int kd, .int cd, .int ru, .int ch, .int (he + 1), .int te]))] := by first | (simp [hcR, hcH, c_10, c_27_1, c_27_2, c_79, c_88]; done) | (simp_all [hcR, hcH]; done)
          rw [← hw9] at hP hD
          have hq9 : (.int (hcR kd cd he cs)) = (.int 1 : Value) := by first | (simp [hcR, hcH, c_10, c_27_1, c_27_2, c_79, c_88]; done) | (simp_all [hcR, hcH]; done)
          exact W.zret (v := 1) hx hb hr rfl (fun t ht hW => ⟨⟨by rw [hq9], by rw [ht]; exact hP, by rw [hAe]; exact hD⟩, by rw [hAe]; exact hS.F ht⟩) hS.2.2 d_MON_hasChance_96
    rcases Decidable.em (kd = 3) with c_27_3 | c_27_3
    · refine lv_tableIn (off := 70) (tgt := 97) hx hb d_MON_hasChance_27 (by rw [c_27_3]; decide) (by rw [c_27_3]; decide) (by rw [c_27_3]; decide) (by decide) ?_
      refine lv_iload_n hx hb d_MON_hasChance_97 rfl (lv_at hl 0 rfl) ?_
      refine lv_if_ne (tgt := 105) hx hb d_MON_hasChance_98 (by decide) (fun c_98 => ?_) (fun c_98 => ?_)
      · refine lv_iconst (v := 0) hx hb d_MON_hasChance_105 (by decide) ?_
        have hw9 : ([(h0, .inr (4, [.int kd, .int cd, .int ru, .int ch, .int (hcH cd he cs), .int te]))] : va_W) = [(h0, .inr (4, [.int kd, .int cd, .int ru, .int ch, .int (he + 1), .int te]))] := by first | (simp [hcR, hcH, c_10, c_27_1, c_27_2, c_27_3, c_98]; done) | (simp_all [hcR, hcH]; done)
        rw [← hw9] at hP hD
        have hq9 : (.int (hcR kd cd he cs)) = (.int 0 : Value) := by first | (simp [hcR, hcH, c_10, c_27_1, c_27_2, c_27_3, c_98]; done) | (simp_all [hcR, hcH]; done)
        exact W.zret (v := 0) hx hb hr rfl (fun t ht hW => ⟨⟨by rw [hq9], by rw [ht]; exact hP, by rw [hAe]; exact hD⟩, by rw [hAe]; exact hS.F ht⟩) hS.2.2 d_MON_hasChance_106
      · refine lv_iconst (v := 1) hx hb d_MON_hasChance_101 (by decide) ?_
        refine lv_goto (tgt := 106) hx hb d_MON_hasChance_102 (by decide) ?_
        have hw9 : ([(h0, .inr (4, [.int kd, .int cd, .int ru, .int ch, .int (hcH cd he cs), .int te]))] : va_W) = [(h0, .inr (4, [.int kd, .int cd, .int ru, .int ch, .int (he + 1), .int te]))] := by first | (simp [hcR, hcH, c_10, c_27_1, c_27_2, c_27_3, c_98]; done) | (simp_all [hcR, hcH]; done)
        rw [← hw9] at hP hD
        have hq9 : (.int (hcR kd cd he cs)) = (.int 1 : Value) := by first | (simp [hcR, hcH, c_10, c_27_1, c_27_2, c_27_3, c_98]; done) | (simp_all [hcR, hcH]; done)
        exact W.zret (v := 1) hx hb hr rfl (fun t ht hW => ⟨⟨by rw [hq9], by rw [ht]; exact hP, by rw [hAe]; exact hD⟩, by rw [hAe]; exact hS.F ht⟩) hS.2.2 d_MON_hasChance_106
    have hsw : kd.toInt < 1 ∨ 3 < kd.toInt := by
      have nc_27_1 := lv_neT (a := 1) c_27_1 (by decide)
      have nc_27_2 := lv_neT (a := 2) c_27_2 (by decide)
      have nc_27_3 := lv_neT (a := 3) c_27_3 (by decide)
      omega
    refine lv_tableOut (tgt := 107) hx hb d_MON_hasChance_27 hsw (by decide) ?_
    refine lv_iload_n hx hb d_MON_hasChance_107 rfl (lv_at hl 0 rfl) ?_
    have hw9 : ([(h0, .inr (4, [.int kd, .int cd, .int ru, .int ch, .int (hcH cd he cs), .int te]))] : va_W) = [(h0, .inr (4, [.int kd, .int cd, .int ru, .int ch, .int (he + 1), .int te]))] := by first | (simp [hcR, hcH, c_10, c_27_1, c_27_2, c_27_3]; done) | (simp_all [hcR, hcH]; done)
    rw [← hw9] at hP hD
    have hq9 : (.int (hcR kd cd he cs)) = (.int (bitF cs cd) : Value) := by first | (simp [hcR, hcH, c_10, c_27_1, c_27_2, c_27_3]; done) | (simp_all [hcR, hcH]; done)
    exact W.zret (v := bitF cs cd) hx hb hr (bitF_bz _ _).n (fun t ht hW => ⟨⟨by rw [hq9], by rw [ht]; exact hP, by rw [hAe]; exact hD⟩, by rw [hAe]; exact hS.F ht⟩) hS.2.2 d_MON_hasChance_108
set_option maxHeartbeats 4000000 in
set_option maxRecDepth 100000 in
theorem c_endCycle (l : Launch) (G : GG) (sz : Nat) (h0 : Nat) (kd : Int32) (cd : Int32) (ru : Int32) (ch : Int32) (he : Int32) (te : Int32) (cs : Int32) (tr : Int32)  : Met l y_MON_endCycle w_MON_endCycle ({ frames := 2, cells := 0, slots := 0, locals := 43 }) (va_Pc [.ref h0, .int cs, .int tr] (Pw G sz [(h0, .inr (4, [.int kd, .int cd, .int ru, .int ch, .int he, .int te]))])) (QW G (some (.int (hcR kd cd he cs))) [(h0, .inr (4, [.int kd, .int cd, .int ru, .int ch, .int he, .int te]))] [(h0, .inr (4, [.int kd, .int cd, .int (ecR kd cd ru ch he cs tr), .int (ecC kd cd ch he cs), .int (hcH cd he cs), .int (ecT te tr)]))] sz) 0 0 (va_A [(h0, .inr (4, [.int kd, .int cd, .int ru, .int ch, .int he, .int te]))] sz) := by
  refine Met.ofW (cc := b_MON_endCycle) (maxL := 4) (ret := (some .boolean)) (by decide) rfl ?_
  intro p e s m args below meth c s₁ B hml hv
  obtain ⟨rfl, hsz, hP, hGK, hD0⟩ := hv
  have hx := B.exec
  have hb := B.bytes
  have hr := B.returns
  have hts := atoms_spec (ws := w_MON_endCycle) B.pre
  have hT : ∀ w ∈ lwG, w.before _ s = true := fun w h => hts w (List.mem_cons_of_mem _ h)
  have hown : s.vm.findClass R_MON = some m.cls := findClass_of_methodNamed B.named
  have hlocks := B.notSynchronized
  have hK := hGK.1
  have hN := hGK.2
  subst hsz
  have hD := hD0.self (sz := s.heap.size)
  generalize hAe : va_A [(h0, .inr (4, [.int kd, .int cd, .int ru, .int ch, .int he, .int te]))] s.heap.size = A at hD ⊢
  have hA : ∀ q : Nat, s.heap.size ≤ q → A q := fun q h => by rw [← hAe]; exact Or.inr h
  have hS : va_S A s.heap s.heap [] := va_S.rf
  have hP : va_P G.1 vwCl [(h0, .inr (4, [.int kd, .int cd, .int ru, .int ch, .int he, .int te]))] s.heap := hP
  have hl := lv_entry ([.ref h0, .int cs, .int tr]) (n := 4) (Nat.le_of_ble_eq_true rfl)
  rw [lg_entry_eq]
  generalize (lg_sl ([.ref h0, .int cs, .int tr]) ++ List.replicate (4 - (lg_sl ([.ref h0, .int cs, .int tr])).length) Slot.unset).toArray = ls at hl ⊢
  have hl : lv_has ls 4 [(0, .ref h0), (1, .int cs), (2, .int tr)] := hl
  refine lv_aload_n hx hb d_MON_endCycle_0 rfl (lv_at hl 0 rfl) ?_
  refine lv_iload_n hx hb d_MON_endCycle_1 rfl (lv_at hl 1 rfl) ?_
  have hPc := hP.sub (ws' := [(h0, .inr (4, [.int kd, .int cd, .int ru, .int ch, .int he, .int te]))]) [0] rfl
  have hDc := hD.sub (ws' := [(h0, .inr (4, [.int kd, .int cd, .int ru, .int ch, .int he, .int te]))]) [0] (by decide) rfl
  refine bx_callKr [0] (va_runV (As := [.int cs]) (rest := []) ⟨hx, hb, hml, hown, hts⟩ (c_hasChance l G s.heap.size h0 kd cd ru ch he te cs) ⟨(callB_of 1 hts (gi_all wd_279) rfl rfl rfl (hT _ wd_52) (hT _ wd_276) (by decide +kernel) ⟨Nat.le_of_ble_eq_true rfl, Nat.le_of_ble_eq_true rfl⟩), (hT _ wd_278), (hT _ wd_5)⟩ (pvW hPc hGK hDc (va_recv hK hPc (ci := 4) (q0 := 0) rfl rfl)) rfl rfl hl.1 rfl (lv_room (Nat.le_of_ble_eq_true rfl)) d_MON_endCycle_2 ⟨Nat.le_of_ble_eq_true rfl, Nat.le_of_ble_eq_true rfl⟩) hP hD hS hA rfl rfl rfl (fun H locs hP hD hS => ?_)
  have hP : va_P G.1 vwCl [(h0, .inr (4, [.int kd, .int cd, .int ru, .int ch, .int (hcH cd he cs), .int te]))] H := hP
  have hD : va_D A [(h0, .inr (4, [.int kd, .int cd, .int ru, .int ch, .int (hcH cd he cs), .int te]))] := hD
  refine lv_istore_n (lv' := [(3, .int (hcR kd cd he cs)), (0, .ref h0), (1, .int cs), (2, .int tr)]) hx hb d_MON_endCycle_5 rfl hl (by decide) rfl (fun ls hl => ?_)
  refine lv_iload_n hx hb d_MON_endCycle_6 rfl (lv_at hl 0 rfl) ?_
  refine lv_if_eq (tgt := 15) hx hb d_MON_endCycle_7 (by decide) (fun c_7 => ?_) (fun c_7 => ?_)
  · refine lv_iload_n hx hb d_MON_endCycle_15 rfl (lv_at hl 3 rfl) ?_
    refine lv_if_eq (tgt := 24) hx hb d_MON_endCycle_16 (by decide) (fun c_16 => ?_) (fun c_16 => ?_)
    · refine lv_iload_n hx hb d_MON_endCycle_24 rfl (lv_at hl 0 rfl) ?_
      have hw9 : ([(h0, .inr (4, [.int kd, .int cd, .int (ecR kd cd ru ch he cs tr), .int (ecC kd cd ch he cs), .int (hcH cd he cs), .int (ecT te tr)]))] : va_W) = [(h0, .inr (4, [.int kd, .int cd, .int ru, .int ch, .int (hcH cd he cs), .int te]))] := by first | (simp [ecR, ecC, ecT, c_7, c_16]; done) | (simp_all [ecR, ecC, ecT]; done)
      rw [← hw9] at hP hD
      exact W.zret (v := hcR kd cd he cs) hx hb hr (hcR_bz _ _ _ _).n (fun t ht hW => ⟨⟨rfl, by rw [ht]; exact hP, by rw [hAe]; exact hD⟩, by rw [hAe]; exact hS.F ht⟩) hS.2.2 d_MON_endCycle_25
    · refine lv_aload_n hx hb d_MON_endCycle_19 rfl (lv_at hl 1 rfl) ?_
      refine lv_iconst (v := 1) hx hb d_MON_endCycle_20 (by decide) ?_
      refine va_put (D := G.1) (ci := 4) (v := .int 1) (ty := .boolean) (C := R_MON) (T := T_MON) (N := 6) hx hb hT in_MON t_MON tok_MON nok_MON hown hK hP hD hS 0 rfl rfl 5 (by decide) (hT _ wd_175) (fun _ h9 => h9) rfl (by decide +kernel) rfl rfl (Nat.le_of_ble_eq_true rfl) d_MON_endCycle_21 (fun H locs hP hD hS => ?_)
      have hP : va_P G.1 vwCl [(h0, .inr (4, [.int kd, .int cd, .int ru, .int ch, .int (hcH cd he cs), .int 1]))] H := hP
      have hD : va_D A [(h0, .inr (4, [.int kd, .int cd, .int ru, .int ch, .int (hcH cd he cs), .int 1]))] := hD
      refine lv_iload_n hx hb d_MON_endCycle_24 rfl (lv_at hl 0 rfl) ?_
      have hw9 : ([(h0, .inr (4, [.int kd, .int cd, .int (ecR kd cd ru ch he cs tr), .int (ecC kd cd ch he cs), .int (hcH cd he cs), .int (ecT te tr)]))] : va_W) = [(h0, .inr (4, [.int kd, .int cd, .int ru, .int ch, .int (hcH cd he cs), .int 1]))] := by first | (simp [ecR, ecC, ecT, c_7, c_16]; done) | (simp_all [ecR, ecC, ecT]; done)
      rw [← hw9] at hP hD
      exact W.zret (v := hcR kd cd he cs) hx hb hr (hcR_bz _ _ _ _).n (fun t ht hW => ⟨⟨rfl, by rw [ht]; exact hP, by rw [hAe]; exact hD⟩, by rw [hAe]; exact hS.F ht⟩) hS.2.2 d_MON_endCycle_25
  · refine lv_aload_n hx hb d_MON_endCycle_10 rfl (lv_at hl 1 rfl) ?_
    refine lv_iload_n hx hb d_MON_endCycle_11 rfl (lv_at hl 3 rfl) ?_
    have hPc := hP.sub (ws' := [(h0, .inr (4, [.int kd, .int cd, .int ru, .int ch, .int (hcH cd he cs), .int te]))]) [0] rfl
    have hDc := hD.sub (ws' := [(h0, .inr (4, [.int kd, .int cd, .int ru, .int ch, .int (hcH cd he cs), .int te]))]) [0] (by decide) rfl
    refine bx_callKv [0] (va_runV (As := [.int tr]) (rest := []) ⟨hx, hb, hml, hown, hts⟩ (c_countChance l G H.size h0 kd cd ru ch (hcH cd he cs) te tr) ⟨(callB_of 1 hts (gi_all wd_284) rfl rfl rfl (hT _ wd_52) (hT _ wd_281) (by decide +kernel) ⟨Nat.le_of_ble_eq_true rfl, Nat.le_of_ble_eq_true rfl⟩), (hT _ wd_283), (hT _ wd_6)⟩ (pvW hPc hGK hDc (va_recv hK hPc (ci := 4) (q0 := 0) rfl rfl)) rfl rfl hl.1 rfl (lv_room (Nat.le_of_ble_eq_true rfl)) d_MON_endCycle_12 ⟨Nat.le_of_ble_eq_true rfl, Nat.le_of_ble_eq_true rfl⟩) hP hD hS hA rfl rfl rfl (fun H locs hP hD hS => ?_)
    have hP : va_P G.1 vwCl [(h0, .inr (4, [.int kd, .int cd, .int (ccR ru ch tr), .int (ccC ch), .int (hcH cd he cs), .int te]))] H := hP
    have hD : va_D A [(h0, .inr (4, [.int kd, .int cd, .int (ccR ru ch tr), .int (ccC ch), .int (hcH cd he cs), .int te]))] := hD
    refine lv_iload_n hx hb d_MON_endCycle_15 rfl (lv_at hl 3 rfl) ?_
    refine lv_if_eq (tgt := 24) hx hb d_MON_endCycle_16 (by decide) (fun c_16 => ?_) (fun c_16 => ?_)
    · refine lv_iload_n hx hb d_MON_endCycle_24 rfl (lv_at hl 0 rfl) ?_
      have hw9 : ([(h0, .inr (4, [.int kd, .int cd, .int (ecR kd cd ru ch he cs tr), .int (ecC kd cd ch he cs), .int (hcH cd he cs), .int (ecT te tr)]))] : va_W) = [(h0, .inr (4, [.int kd, .int cd, .int (ccR ru ch tr), .int (ccC ch), .int (hcH cd he cs), .int te]))] := by first | (simp [ecR, ecC, ecT, c_7, c_16]; done) | (simp_all [ecR, ecC, ecT]; done)
      rw [← hw9] at hP hD
      exact W.zret (v := hcR kd cd he cs) hx hb hr (hcR_bz _ _ _ _).n (fun t ht hW => ⟨⟨rfl, by rw [ht]; exact hP, by rw [hAe]; exact hD⟩, by rw [hAe]; exact hS.F ht⟩) hS.2.2 d_MON_endCycle_25
    · refine lv_aload_n hx hb d_MON_endCycle_19 rfl (lv_at hl 1 rfl) ?_
      refine lv_iconst (v := 1) hx hb d_MON_endCycle_20 (by decide) ?_
      refine va_put (D := G.1) (ci := 4) (v := .int 1) (ty := .boolean) (C := R_MON) (T := T_MON) (N := 6) hx hb hT in_MON t_MON tok_MON nok_MON hown hK hP hD hS 0 rfl rfl 5 (by decide) (hT _ wd_175) (fun _ h9 => h9) rfl (by decide +kernel) rfl rfl (Nat.le_of_ble_eq_true rfl) d_MON_endCycle_21 (fun H locs hP hD hS => ?_)
      have hP : va_P G.1 vwCl [(h0, .inr (4, [.int kd, .int cd, .int (ccR ru ch tr), .int (ccC ch), .int (hcH cd he cs), .int 1]))] H := hP
      have hD : va_D A [(h0, .inr (4, [.int kd, .int cd, .int (ccR ru ch tr), .int (ccC ch), .int (hcH cd he cs), .int 1]))] := hD
      refine lv_iload_n hx hb d_MON_endCycle_24 rfl (lv_at hl 0 rfl) ?_
      have hw9 : ([(h0, .inr (4, [.int kd, .int cd, .int (ecR kd cd ru ch he cs tr), .int (ecC kd cd ch he cs), .int (hcH cd he cs), .int (ecT te tr)]))] : va_W) = [(h0, .inr (4, [.int kd, .int cd, .int (ccR ru ch tr), .int (ccC ch), .int (hcH cd he cs), .int 1]))] := by first | (simp [ecR, ecC, ecT, c_7, c_16]; done) | (simp_all [ecR, ecC, ecT]; done)
      rw [← hw9] at hP hD
      exact W.zret (v := hcR kd cd he cs) hx hb hr (hcR_bz _ _ _ _).n (fun t ht hW => ⟨⟨rfl, by rw [ht]; exact hP, by rw [hAe]; exact hD⟩, by rw [hAe]; exact hS.F ht⟩) hS.2.2 d_MON_endCycle_25
set_option maxHeartbeats 4000000 in
set_option maxRecDepth 100000 in
theorem c_Code_init (l : Launch) (G : GG) (sz : Nat) (h0 : Nat) (nu : Int32) (onn : Int32) (pe : Int32) (co : Int32) (la : Int32) (ofr : Int32) (oz : Int32) (fc : Int32) (fd : Int32) (na : Int32) (oa : Int32) (hoa : bz oa) : Met l y_COD_init w_COD_init ({ frames := 1, cells := 0, slots := 0, locals := 12 }) (va_Pc [.ref h0, .int na, .int oa] (Pw G sz [(h0, .inr (5, [.int nu, .int onn, .int pe, .int co, .int la, .int ofr, .int oz, .int fc, .int fd]))])) (QW G none [(h0, .inr (5, [.int nu, .int onn, .int pe, .int co, .int la, .int ofr, .int oz, .int fc, .int fd]))] [(h0, .inr (5, [.int na, .int oa, .int 0, .int 0, .int 0, .int 0, .int 0, .int 0, .int 0]))] sz) 0 0 (va_A [(h0, .inr (5, [.int nu, .int onn, .int pe, .int co, .int la, .int ofr, .int oz, .int fc, .int fd]))] sz) := by
  refine Met.ofW (cc := b_COD_init) (maxL := 3) (ret := none) (by decide) rfl ?_
  intro p e s m args below meth c s₁ B hml hv
  obtain ⟨rfl, hsz, hP, hGK, hD0⟩ := hv
  have hx := B.exec
  have hb := B.bytes
  have hr := B.returns
  have hts := atoms_spec (ws := w_COD_init) B.pre
  have hT : ∀ w ∈ lwG, w.before _ s = true := fun w h => hts w (List.mem_cons_of_mem _ h)
  have hown : s.vm.findClass R_COD = some m.cls := findClass_of_methodNamed B.named
  have hlocks := B.notSynchronized
  have hK := hGK.1
  have hN := hGK.2
  have hin : meth.name = "<init>" := (name_of_methodNamed B.named B.method).1
  subst hsz
  have hD := hD0.self (sz := s.heap.size)
  generalize hAe : va_A [(h0, .inr (5, [.int nu, .int onn, .int pe, .int co, .int la, .int ofr, .int oz, .int fc, .int fd]))] s.heap.size = A at hD ⊢
  have hA : ∀ q : Nat, s.heap.size ≤ q → A q := fun q h => by rw [← hAe]; exact Or.inr h
  have hS : va_S A s.heap s.heap [] := va_S.rf
  have hP : va_P G.1 vwCl [(h0, .inr (5, [.int nu, .int onn, .int pe, .int co, .int la, .int ofr, .int oz, .int fc, .int fd]))] s.heap := hP
  have hl := lv_entry ([.ref h0, .int na, .int oa]) (n := 3) (Nat.le_of_ble_eq_true rfl)
  rw [lg_entry_eq]
  generalize (lg_sl ([.ref h0, .int na, .int oa]) ++ List.replicate (3 - (lg_sl ([.ref h0, .int na, .int oa])).length) Slot.unset).toArray = ls at hl ⊢
  have hl : lv_has ls 3 [(0, .ref h0), (1, .int na), (2, .int oa)] := hl
  refine lv_aload_n hx hb d_COD_init_0 rfl (lv_at hl 0 rfl) ?_
  refine W.objInit hx hb hown (hT _ wd_343) (hT _ wd_71) (hT _ wd_72) rfl (by rw [hml]; exact hl.1) rfl d_COD_init_1 (Nat.le_of_ble_eq_true rfl) (Nat.le_of_ble_eq_true rfl) ?_
  refine W.eq (g2 := F0 m 4 ls []) rfl ?_
  refine lv_aload_n hx hb d_COD_init_4 rfl (lv_at hl 0 rfl) ?_
  refine lv_iconst (v := 0) hx hb d_COD_init_5 (by decide) ?_
  refine va_put (D := G.1) (ci := 5) (v := .int 0) (ty := .boolean) (C := R_COD) (T := T_COD) (N := 9) hx hb hT in_COD t_COD tok_COD nok_COD hown hK hP hD hS 0 rfl rfl 2 (by decide) (hT _ wd_348) (fun _ h9 => h9) rfl (by decide +kernel) rfl rfl (Nat.le_of_ble_eq_true rfl) d_COD_init_6 (fun H locs hP hD hS => ?_)
  have hP : va_P G.1 vwCl [(h0, .inr (5, [.int nu, .int onn, .int 0, .int co, .int la, .int ofr, .int oz, .int fc, .int fd]))] H := hP
  have hD : va_D A [(h0, .inr (5, [.int nu, .int onn, .int 0, .int co, .int la, .int ofr, .int oz, .int fc, .int fd]))] := hD
  refine lv_aload_n hx hb d_COD_init_9 rfl (lv_at hl 0 rfl) ?_
  refine lv_iconst (v := 0) hx hb d_COD_init_10 (by decide) ?_
  refine va_put (D := G.1) (ci := 5) (v := .int 0) (ty := .boolean) (C := R_COD) (T := T_COD) (N := 9) hx hb hT in_COD t_COD tok_COD nok_COD hown hK hP hD hS 0 rfl rfl 3 (by decide) (hT _ wd_349) (fun _ h9 => h9) rfl (by decide +kernel) rfl rfl (Nat.le_of_ble_eq_true rfl) d_COD_init_11 (fun H locs hP hD hS => ?_)
  have hP : va_P G.1 vwCl [(h0, .inr (5, [.int nu, .int onn, .int 0, .int 0, .int la, .int ofr, .int oz, .int fc, .int fd]))] H := hP
  have hD : va_D A [(h0, .inr (5, [.int nu, .int onn, .int 0, .int 0, .int la, .int ofr, .int oz, .int fc, .int fd]))] := hD
  refine lv_aload_n hx hb d_COD_init_14 rfl (lv_at hl 0 rfl) ?_
  refine lv_iconst (v := 0) hx hb d_COD_init_15 (by decide) ?_
  refine va_put (D := G.1) (ci := 5) (v := .int 0) (ty := .boolean) (C := R_COD) (T := T_COD) (N := 9) hx hb hT in_COD t_COD tok_COD nok_COD hown hK hP hD hS 0 rfl rfl 4 (by decide) (hT _ wd_351) (fun _ h9 => h9) rfl (by decide +kernel) rfl rfl (Nat.le_of_ble_eq_true rfl) d_COD_init_16 (fun H locs hP hD hS => ?_)
  have hP : va_P G.1 vwCl [(h0, .inr (5, [.int nu, .int onn, .int 0, .int 0, .int 0, .int ofr, .int oz, .int fc, .int fd]))] H := hP
  have hD : va_D A [(h0, .inr (5, [.int nu, .int onn, .int 0, .int 0, .int 0, .int ofr, .int oz, .int fc, .int fd]))] := hD
  refine lv_aload_n hx hb d_COD_init_19 rfl (lv_at hl 0 rfl) ?_
  refine lv_iconst (v := 0) hx hb d_COD_init_20 (by decide) ?_
  refine va_put (D := G.1) (ci := 5) (v := .int 0) (ty := .int) (C := R_COD) (T := T_COD) (N := 9) hx hb hT in_COD t_COD tok_COD nok_COD hown hK hP hD hS 0 rfl rfl 5 (by decide) (hT _ wd_353) (fun _ h9 => h9) rfl (by decide +kernel) rfl rfl (Nat.le_of_ble_eq_true rfl) d_COD_init_21 (fun H locs hP hD hS => ?_)
  have hP : va_P G.1 vwCl [(h0, .inr (5, [.int nu, .int onn, .int 0, .int 0, .int 0, .int 0, .int oz, .int fc, .int fd]))] H := hP
  have hD : va_D A [(h0, .inr (5, [.int nu, .int onn, .int 0, .int 0, .int 0, .int 0, .int oz, .int fc, .int fd]))] := hD
  refine lv_aload_n hx hb d_COD_init_24 rfl (lv_at hl 0 rfl) ?_
  refine lv_iconst (v := 0) hx hb d_COD_init_25 (by decide) ?_
  refine va_put (D := G.1) (ci := 5) (v := .int 0) (ty := .int) (C := R_COD) (T := T_COD) (N := 9) hx hb hT in_COD t_COD tok_COD nok_COD hown hK hP hD hS 0 rfl rfl 6 (by decide) (hT _ wd_354) (fun _ h9 => h9) rfl (by decide +kernel) rfl rfl (Nat.le_of_ble_eq_true rfl) d_COD_init_26 (fun H locs hP hD hS => ?_)
  have hP : va_P G.1 vwCl [(h0, .inr (5, [.int nu, .int onn, .int 0, .int 0, .int 0, .int 0, .int 0, .int fc, .int fd]))] H := hP
  have hD : va_D A [(h0, .inr (5, [.int nu, .int onn, .int 0, .int 0, .int 0, .int 0, .int 0, .int fc, .int fd]))] := hD
  refine lv_aload_n hx hb d_COD_init_29 rfl (lv_at hl 0 rfl) ?_
  refine lv_iconst (v := 0) hx hb d_COD_init_30 (by decide) ?_
  refine va_put (D := G.1) (ci := 5) (v := .int 0) (ty := .int) (C := R_COD) (T := T_COD) (N := 9) hx hb hT in_COD t_COD tok_COD nok_COD hown hK hP hD hS 0 rfl rfl 7 (by decide) (hT _ wd_355) (fun _ h9 => h9) rfl (by decide +kernel) rfl rfl (Nat.le_of_ble_eq_true rfl) d_COD_init_31 (fun H locs hP hD hS => ?_)
  have hP : va_P G.1 vwCl [(h0, .inr (5, [.int nu, .int onn, .int 0, .int 0, .int 0, .int 0, .int 0, .int 0, .int fd]))] H := hP
  have hD : va_D A [(h0, .inr (5, [.int nu, .int onn, .int 0, .int 0, .int 0, .int 0, .int 0, .int 0, .int fd]))] := hD
  refine lv_aload_n hx hb d_COD_init_34 rfl (lv_at hl 0 rfl) ?_
  refine lv_iconst (v := 0) hx hb d_COD_init_35 (by decide) ?_
  refine va_put (D := G.1) (ci := 5) (v := .int 0) (ty := .int) (C := R_COD) (T := T_COD) (N := 9) hx hb hT in_COD t_COD tok_COD nok_COD hown hK hP hD hS 0 rfl rfl 8 (by decide) (hT _ wd_357) (fun _ h9 => h9) rfl (by decide +kernel) rfl rfl (Nat.le_of_ble_eq_true rfl) d_COD_init_36 (fun H locs hP hD hS => ?_)
  have hP : va_P G.1 vwCl [(h0, .inr (5, [.int nu, .int onn, .int 0, .int 0, .int 0, .int 0, .int 0, .int 0, .int 0]))] H := hP
  have hD : va_D A [(h0, .inr (5, [.int nu, .int onn, .int 0, .int 0, .int 0, .int 0, .int 0, .int 0, .int 0]))] := hD
  refine lv_aload_n hx hb d_COD_init_39 rfl (lv_at hl 0 rfl) ?_
  refine lv_iload_n hx hb d_COD_init_40 rfl (lv_at hl 1 rfl) ?_
  refine va_putF (D := G.1) (ci := 5) (v := .int na) (ty := .int) (C := R_COD) (T := T_COD) (N := 9) hx hb hT in_COD t_COD tok_COD nok_COD hown hK hP hD hS 0 rfl rfl 0 (by decide) (hT _ wd_344) (fun _ h9 => h9) rfl hin rfl (by decide +kernel) rfl rfl (Nat.le_of_ble_eq_true rfl) d_COD_init_41 (fun H locs hP hD hS => ?_)
  have hP : va_P G.1 vwCl [(h0, .inr (5, [.int na, .int onn, .int 0, .int 0, .int 0, .int 0, .int 0, .int 0, .int 0]))] H := hP
  have hD : va_D A [(h0, .inr (5, [.int na, .int onn, .int 0, .int 0, .int 0, .int 0, .int 0, .int 0, .int 0]))] := hD
  refine lv_aload_n hx hb d_COD_init_44 rfl (lv_at hl 0 rfl) ?_
  refine lv_iload_n hx hb d_COD_init_45 rfl (lv_at hl 2 rfl) ?_
  refine va_put (D := G.1) (ci := 5) (v := .int oa) (ty := .boolean) (C := R_COD) (T := T_COD) (N := 9) hx hb hT in_COD t_COD tok_COD nok_COD hown hK hP hD hS 0 rfl rfl 1 (by decide) (hT _ wd_346) (fun _ h9 => h9) rfl (by decide +kernel) (bz.n (by assumption)) (bz.f (by assumption)) (Nat.le_of_ble_eq_true rfl) d_COD_init_46 (fun H locs hP hD hS => ?_)
  have hP : va_P G.1 vwCl [(h0, .inr (5, [.int na, .int oa, .int 0, .int 0, .int 0, .int 0, .int 0, .int 0, .int 0]))] H := hP
  have hD : va_D A [(h0, .inr (5, [.int na, .int oa, .int 0, .int 0, .int 0, .int 0, .int 0, .int 0, .int 0]))] := hD
  exact W.vret hx hb hr (fun t ht hW => ⟨⟨rfl, by rw [ht]; exact hP, by rw [hAe]; exact hD⟩, by rw [hAe]; exact hS.F ht⟩) hS.2.2 d_COD_init_49
set_option maxHeartbeats 4000000 in
set_option maxRecDepth 100000 in
theorem c_endCycleOn (l : Launch) (G : GG) (sz : Nat) (h0 : Nat) (nu : Int32) (onn : Int32) (pe : Int32) (co : Int32) (la : Int32) (ofr : Int32) (oz : Int32) (fc : Int32) (fd : Int32) (cy : Int32) (cs : Int32)  : Met l y_COD_endCycleOn w_COD_endCycleOn ({ frames := 0, cells := 0, slots := 0, locals := 0 }) (va_Pc [.ref h0, .int cy, .int cs] (Pw G sz [(h0, .inr (5, [.int nu, .int onn, .int pe, .int co, .int la, .int ofr, .int oz, .int fc, .int fd]))])) (QW G none [(h0, .inr (5, [.int nu, .int onn, .int pe, .int co, .int la, .int ofr, .int oz, .int fc, .int fd]))] [(h0, .inr (5, [.int nu, .int onn, .int (onP pe co), .int (onK pe co), .int (onK pe la), .int 0, .int 0, .int (onF pe co fc cy), .int (onF pe co fd cs)]))] sz) 0 0 (va_A [(h0, .inr (5, [.int nu, .int onn, .int pe, .int co, .int la, .int ofr, .int oz, .int fc, .int fd]))] sz) := by
  refine Met.ofW (cc := b_COD_endCycleOn) (maxL := 3) (ret := none) (by decide) rfl ?_
  intro p e s m args below meth c s₁ B hml hv
  obtain ⟨rfl, hsz, hP, hGK, hD0⟩ := hv
  have hx := B.exec
  have hb := B.bytes
  have hr := B.returns
  have hts := atoms_spec (ws := w_COD_endCycleOn) B.pre
  have hT : ∀ w ∈ lwG, w.before _ s = true := fun w h => hts w (List.mem_cons_of_mem _ h)
  have hown : s.vm.findClass R_COD = some m.cls := findClass_of_methodNamed B.named
  have hlocks := B.notSynchronized
  have hK := hGK.1
  have hN := hGK.2
  subst hsz
  have hD := hD0.self (sz := s.heap.size)
  generalize hAe : va_A [(h0, .inr (5, [.int nu, .int onn, .int pe, .int co, .int la, .int ofr, .int oz, .int fc, .int fd]))] s.heap.size = A at hD ⊢
  have hA : ∀ q : Nat, s.heap.size ≤ q → A q := fun q h => by rw [← hAe]; exact Or.inr h
  have hS : va_S A s.heap s.heap [] := va_S.rf
  have hP : va_P G.1 vwCl [(h0, .inr (5, [.int nu, .int onn, .int pe, .int co, .int la, .int ofr, .int oz, .int fc, .int fd]))] s.heap := hP
  have hl := lv_entry ([.ref h0, .int cy, .int cs]) (n := 3) (Nat.le_of_ble_eq_true rfl)
  rw [lg_entry_eq]
  generalize (lg_sl ([.ref h0, .int cy, .int cs]) ++ List.replicate (3 - (lg_sl ([.ref h0, .int cy, .int cs])).length) Slot.unset).toArray = ls at hl ⊢
  have hl : lv_has ls 3 [(0, .ref h0), (1, .int cy), (2, .int cs)] := hl
  refine lv_aload_n hx hb d_COD_endCycleOn_0 rfl (lv_at hl 0 rfl) ?_
  refine lv_iconst (v := 0) hx hb d_COD_endCycleOn_1 (by decide) ?_
  refine va_put (D := G.1) (ci := 5) (v := .int 0) (ty := .int) (C := R_COD) (T := T_COD) (N := 9) hx hb hT in_COD t_COD tok_COD nok_COD hown hK hP hD hS 0 rfl rfl 5 (by decide) (hT _ wd_353) (fun _ h9 => h9) rfl (by decide +kernel) rfl rfl (Nat.le_of_ble_eq_true rfl) d_COD_endCycleOn_2 (fun H locs hP hD hS => ?_)
  have hP : va_P G.1 vwCl [(h0, .inr (5, [.int nu, .int onn, .int pe, .int co, .int la, .int 0, .int oz, .int fc, .int fd]))] H := hP
  have hD : va_D A [(h0, .inr (5, [.int nu, .int onn, .int pe, .int co, .int la, .int 0, .int oz, .int fc, .int fd]))] := hD
  refine lv_aload_n hx hb d_COD_endCycleOn_5 rfl (lv_at hl 0 rfl) ?_
  refine lv_iconst (v := 0) hx hb d_COD_endCycleOn_6 (by decide) ?_
  refine va_put (D := G.1) (ci := 5) (v := .int 0) (ty := .int) (C := R_COD) (T := T_COD) (N := 9) hx hb hT in_COD t_COD tok_COD nok_COD hown hK hP hD hS 0 rfl rfl 6 (by decide) (hT _ wd_354) (fun _ h9 => h9) rfl (by decide +kernel) rfl rfl (Nat.le_of_ble_eq_true rfl) d_COD_endCycleOn_7 (fun H locs hP hD hS => ?_)
  have hP : va_P G.1 vwCl [(h0, .inr (5, [.int nu, .int onn, .int pe, .int co, .int la, .int 0, .int 0, .int fc, .int fd]))] H := hP
  have hD : va_D A [(h0, .inr (5, [.int nu, .int onn, .int pe, .int co, .int la, .int 0, .int 0, .int fc, .int fd]))] := hD
  refine lv_aload_n hx hb d_COD_endCycleOn_10 rfl (lv_at hl 0 rfl) ?_
  refine va_get (D := G.1) (ci := 5) (v := .int pe) (C := R_COD) (T := T_COD) (N := 9) hx hb hT in_COD hown hK hP 0 rfl rfl 2 (by decide) (hT _ wd_348) (fun _ h9 => h9) rfl d_COD_endCycleOn_11 ?_
  refine lv_if_eq (tgt := 35) hx hb d_COD_endCycleOn_14 (by decide) (fun c_14 => ?_) (fun c_14 => ?_)
  · refine lv_aload_n hx hb d_COD_endCycleOn_35 rfl (lv_at hl 0 rfl) ?_
    refine va_get (D := G.1) (ci := 5) (v := .int co) (C := R_COD) (T := T_COD) (N := 9) hx hb hT in_COD hown hK hP 0 rfl rfl 3 (by decide) (hT _ wd_349) (fun _ h9 => h9) rfl d_COD_endCycleOn_36 ?_
    refine lv_if_ne (tgt := 57) hx hb d_COD_endCycleOn_39 (by decide) (fun c_39 => ?_) (fun c_39 => ?_)
    · have hw9 : ([(h0, .inr (5, [.int nu, .int onn, .int (onP pe co), .int (onK pe co), .int (onK pe la), .int 0, .int 0, .int (onF pe co fc cy), .int (onF pe co fd cs)]))] : va_W) = [(h0, .inr (5, [.int nu, .int onn, .int pe, .int co, .int la, .int 0, .int 0, .int fc, .int fd]))] := by first | (simp [onP, onK, onF, c_14, c_39]; done) | (simp_all [onP, onK, onF]; done)
      rw [← hw9] at hP hD
      exact W.vret hx hb hr (fun t ht hW => ⟨⟨rfl, by rw [ht]; exact hP, by rw [hAe]; exact hD⟩, by rw [hAe]; exact hS.F ht⟩) hS.2.2 d_COD_endCycleOn_57
    · refine lv_aload_n hx hb d_COD_endCycleOn_42 rfl (lv_at hl 0 rfl) ?_
      refine lv_iconst (v := 1) hx hb d_COD_endCycleOn_43 (by decide) ?_
      refine va_put (D := G.1) (ci := 5) (v := .int 1) (ty := .boolean) (C := R_COD) (T := T_COD) (N := 9) hx hb hT in_COD t_COD tok_COD nok_COD hown hK hP hD hS 0 rfl rfl 2 (by decide) (hT _ wd_348) (fun _ h9 => h9) rfl (by decide +kernel) rfl rfl (Nat.le_of_ble_eq_true rfl) d_COD_endCycleOn_44 (fun H locs hP hD hS => ?_)
      have hP : va_P G.1 vwCl [(h0, .inr (5, [.int nu, .int onn, .int 1, .int co, .int la, .int 0, .int 0, .int fc, .int fd]))] H := hP
      have hD : va_D A [(h0, .inr (5, [.int nu, .int onn, .int 1, .int co, .int la, .int 0, .int 0, .int fc, .int fd]))] := hD
      refine lv_aload_n hx hb d_COD_endCycleOn_47 rfl (lv_at hl 0 rfl) ?_
      refine lv_iload_n hx hb d_COD_endCycleOn_48 rfl (lv_at hl 1 rfl) ?_
      refine va_put (D := G.1) (ci := 5) (v := .int cy) (ty := .int) (C := R_COD) (T := T_COD) (N := 9) hx hb hT in_COD t_COD tok_COD nok_COD hown hK hP hD hS 0 rfl rfl 7 (by decide) (hT _ wd_355) (fun _ h9 => h9) rfl (by decide +kernel) rfl rfl (Nat.le_of_ble_eq_true rfl) d_COD_endCycleOn_49 (fun H locs hP hD hS => ?_)
      have hP : va_P G.1 vwCl [(h0, .inr (5, [.int nu, .int onn, .int 1, .int co, .int la, .int 0, .int 0, .int cy, .int fd]))] H := hP
      have hD : va_D A [(h0, .inr (5, [.int nu, .int onn, .int 1, .int co, .int la, .int 0, .int 0, .int cy, .int fd]))] := hD
      refine lv_aload_n hx hb d_COD_endCycleOn_52 rfl (lv_at hl 0 rfl) ?_
      refine lv_iload_n hx hb d_COD_endCycleOn_53 rfl (lv_at hl 2 rfl) ?_
      refine va_put (D := G.1) (ci := 5) (v := .int cs) (ty := .int) (C := R_COD) (T := T_COD) (N := 9) hx hb hT in_COD t_COD tok_COD nok_COD hown hK hP hD hS 0 rfl rfl 8 (by decide) (hT _ wd_357) (fun _ h9 => h9) rfl (by decide +kernel) rfl rfl (Nat.le_of_ble_eq_true rfl) d_COD_endCycleOn_54 (fun H locs hP hD hS => ?_)
      have hP : va_P G.1 vwCl [(h0, .inr (5, [.int nu, .int onn, .int 1, .int co, .int la, .int 0, .int 0, .int cy, .int cs]))] H := hP
      have hD : va_D A [(h0, .inr (5, [.int nu, .int onn, .int 1, .int co, .int la, .int 0, .int 0, .int cy, .int cs]))] := hD
      have hw9 : ([(h0, .inr (5, [.int nu, .int onn, .int (onP pe co), .int (onK pe co), .int (onK pe la), .int 0, .int 0, .int (onF pe co fc cy), .int (onF pe co fd cs)]))] : va_W) = [(h0, .inr (5, [.int nu, .int onn, .int 1, .int co, .int la, .int 0, .int 0, .int cy, .int cs]))] := by first | (simp [onP, onK, onF, c_14, c_39]; done) | (simp_all [onP, onK, onF]; done)
      rw [← hw9] at hP hD
      exact W.vret hx hb hr (fun t ht hW => ⟨⟨rfl, by rw [ht]; exact hP, by rw [hAe]; exact hD⟩, by rw [hAe]; exact hS.F ht⟩) hS.2.2 d_COD_endCycleOn_57
  · refine lv_aload_n hx hb d_COD_endCycleOn_17 rfl (lv_at hl 0 rfl) ?_
    refine lv_iconst (v := 0) hx hb d_COD_endCycleOn_18 (by decide) ?_
    refine va_put (D := G.1) (ci := 5) (v := .int 0) (ty := .boolean) (C := R_COD) (T := T_COD) (N := 9) hx hb hT in_COD t_COD tok_COD nok_COD hown hK hP hD hS 0 rfl rfl 2 (by decide) (hT _ wd_348) (fun _ h9 => h9) rfl (by decide +kernel) rfl rfl (Nat.le_of_ble_eq_true rfl) d_COD_endCycleOn_19 (fun H locs hP hD hS => ?_)
    have hP : va_P G.1 vwCl [(h0, .inr (5, [.int nu, .int onn, .int 0, .int co, .int la, .int 0, .int 0, .int fc, .int fd]))] H := hP
    have hD : va_D A [(h0, .inr (5, [.int nu, .int onn, .int 0, .int co, .int la, .int 0, .int 0, .int fc, .int fd]))] := hD
    refine lv_aload_n hx hb d_COD_endCycleOn_22 rfl (lv_at hl 0 rfl) ?_
    refine lv_iconst (v := 1) hx hb d_COD_endCycleOn_23 (by decide) ?_
    refine va_put (D := G.1) (ci := 5) (v := .int 1) (ty := .boolean) (C := R_COD) (T := T_COD) (N := 9) hx hb hT in_COD t_COD tok_COD nok_COD hown hK hP hD hS 0 rfl rfl 3 (by decide) (hT _ wd_349) (fun _ h9 => h9) rfl (by decide +kernel) rfl rfl (Nat.le_of_ble_eq_true rfl) d_COD_endCycleOn_24 (fun H locs hP hD hS => ?_)
    have hP : va_P G.1 vwCl [(h0, .inr (5, [.int nu, .int onn, .int 0, .int 1, .int la, .int 0, .int 0, .int fc, .int fd]))] H := hP
    have hD : va_D A [(h0, .inr (5, [.int nu, .int onn, .int 0, .int 1, .int la, .int 0, .int 0, .int fc, .int fd]))] := hD
    refine lv_aload_n hx hb d_COD_endCycleOn_27 rfl (lv_at hl 0 rfl) ?_
    refine lv_iconst (v := 1) hx hb d_COD_endCycleOn_28 (by decide) ?_
    refine va_put (D := G.1) (ci := 5) (v := .int 1) (ty := .boolean) (C := R_COD) (T := T_COD) (N := 9) hx hb hT in_COD t_COD tok_COD nok_COD hown hK hP hD hS 0 rfl rfl 4 (by decide) (hT _ wd_351) (fun _ h9 => h9) rfl (by decide +kernel) rfl rfl (Nat.le_of_ble_eq_true rfl) d_COD_endCycleOn_29 (fun H locs hP hD hS => ?_)
    have hP : va_P G.1 vwCl [(h0, .inr (5, [.int nu, .int onn, .int 0, .int 1, .int 1, .int 0, .int 0, .int fc, .int fd]))] H := hP
    have hD : va_D A [(h0, .inr (5, [.int nu, .int onn, .int 0, .int 1, .int 1, .int 0, .int 0, .int fc, .int fd]))] := hD
    refine lv_goto (tgt := 57) hx hb d_COD_endCycleOn_32 (by decide) ?_
    have hw9 : ([(h0, .inr (5, [.int nu, .int onn, .int (onP pe co), .int (onK pe co), .int (onK pe la), .int 0, .int 0, .int (onF pe co fc cy), .int (onF pe co fd cs)]))] : va_W) = [(h0, .inr (5, [.int nu, .int onn, .int 0, .int 1, .int 1, .int 0, .int 0, .int fc, .int fd]))] := by first | (simp [onP, onK, onF, c_14]; done) | (simp_all [onP, onK, onF]; done)
    rw [← hw9] at hP hD
    exact W.vret hx hb hr (fun t ht hW => ⟨⟨rfl, by rw [ht]; exact hP, by rw [hAe]; exact hD⟩, by rw [hAe]; exact hS.F ht⟩) hS.2.2 d_COD_endCycleOn_57
set_option maxHeartbeats 4000000 in
set_option maxRecDepth 100000 in
theorem c_forgetFault (l : Launch) (G : GG) (sz : Nat) (h0 : Nat) (nu : Int32) (onn : Int32) (pe : Int32) (co : Int32) (la : Int32) (ofr : Int32) (oz : Int32) (fc : Int32) (fd : Int32)  : Met l y_COD_forgetFault w_COD_forgetFault ({ frames := 0, cells := 0, slots := 0, locals := 0 }) (va_Pc [.ref h0] (Pw G sz [(h0, .inr (5, [.int nu, .int onn, .int pe, .int co, .int la, .int ofr, .int oz, .int fc, .int fd]))])) (QW G none [(h0, .inr (5, [.int nu, .int onn, .int pe, .int co, .int la, .int ofr, .int oz, .int fc, .int fd]))] [(h0, .inr (5, [.int nu, .int onn, .int 0, .int 0, .int la, .int 0, .int oz, .int 0, .int 0]))] sz) 0 0 (va_A [(h0, .inr (5, [.int nu, .int onn, .int pe, .int co, .int la, .int ofr, .int oz, .int fc, .int fd]))] sz) := by
  refine Met.ofW (cc := b_COD_forgetFault) (maxL := 1) (ret := none) (by decide) rfl ?_
  intro p e s m args below meth c s₁ B hml hv
  obtain ⟨rfl, hsz, hP, hGK, hD0⟩ := hv
  have hx := B.exec
  have hb := B.bytes
  have hr := B.returns
  have hts := atoms_spec (ws := w_COD_forgetFault) B.pre
  have hT : ∀ w ∈ lwG, w.before _ s = true := fun w h => hts w (List.mem_cons_of_mem _ h)
  have hown : s.vm.findClass R_COD = some m.cls := findClass_of_methodNamed B.named
  have hlocks := B.notSynchronized
  have hK := hGK.1
  have hN := hGK.2
  subst hsz
  have hD := hD0.self (sz := s.heap.size)
  generalize hAe : va_A [(h0, .inr (5, [.int nu, .int onn, .int pe, .int co, .int la, .int ofr, .int oz, .int fc, .int fd]))] s.heap.size = A at hD ⊢
  have hA : ∀ q : Nat, s.heap.size ≤ q → A q := fun q h => by rw [← hAe]; exact Or.inr h
  have hS : va_S A s.heap s.heap [] := va_S.rf
  have hP : va_P G.1 vwCl [(h0, .inr (5, [.int nu, .int onn, .int pe, .int co, .int la, .int ofr, .int oz, .int fc, .int fd]))] s.heap := hP
  have hl := lv_entry ([.ref h0]) (n := 1) (Nat.le_of_ble_eq_true rfl)
  rw [lg_entry_eq]
  generalize (lg_sl ([.ref h0]) ++ List.replicate (1 - (lg_sl ([.ref h0])).length) Slot.unset).toArray = ls at hl ⊢
  have hl : lv_has ls 1 [(0, .ref h0)] := hl
  refine lv_aload_n hx hb d_COD_forgetFault_0 rfl (lv_at hl 0 rfl) ?_
  refine lv_iconst (v := 0) hx hb d_COD_forgetFault_1 (by decide) ?_
  refine va_put (D := G.1) (ci := 5) (v := .int 0) (ty := .boolean) (C := R_COD) (T := T_COD) (N := 9) hx hb hT in_COD t_COD tok_COD nok_COD hown hK hP hD hS 0 rfl rfl 2 (by decide) (hT _ wd_348) (fun _ h9 => h9) rfl (by decide +kernel) rfl rfl (Nat.le_of_ble_eq_true rfl) d_COD_forgetFault_2 (fun H locs hP hD hS => ?_)
  have hP : va_P G.1 vwCl [(h0, .inr (5, [.int nu, .int onn, .int 0, .int co, .int la, .int ofr, .int oz, .int fc, .int fd]))] H := hP
  have hD : va_D A [(h0, .inr (5, [.int nu, .int onn, .int 0, .int co, .int la, .int ofr, .int oz, .int fc, .int fd]))] := hD
  refine lv_aload_n hx hb d_COD_forgetFault_5 rfl (lv_at hl 0 rfl) ?_
  refine lv_iconst (v := 0) hx hb d_COD_forgetFault_6 (by decide) ?_
  refine va_put (D := G.1) (ci := 5) (v := .int 0) (ty := .boolean) (C := R_COD) (T := T_COD) (N := 9) hx hb hT in_COD t_COD tok_COD nok_COD hown hK hP hD hS 0 rfl rfl 3 (by decide) (hT _ wd_349) (fun _ h9 => h9) rfl (by decide +kernel) rfl rfl (Nat.le_of_ble_eq_true rfl) d_COD_forgetFault_7 (fun H locs hP hD hS => ?_)
  have hP : va_P G.1 vwCl [(h0, .inr (5, [.int nu, .int onn, .int 0, .int 0, .int la, .int ofr, .int oz, .int fc, .int fd]))] H := hP
  have hD : va_D A [(h0, .inr (5, [.int nu, .int onn, .int 0, .int 0, .int la, .int ofr, .int oz, .int fc, .int fd]))] := hD
  refine lv_aload_n hx hb d_COD_forgetFault_10 rfl (lv_at hl 0 rfl) ?_
  refine lv_iconst (v := 0) hx hb d_COD_forgetFault_11 (by decide) ?_
  refine va_put (D := G.1) (ci := 5) (v := .int 0) (ty := .int) (C := R_COD) (T := T_COD) (N := 9) hx hb hT in_COD t_COD tok_COD nok_COD hown hK hP hD hS 0 rfl rfl 5 (by decide) (hT _ wd_353) (fun _ h9 => h9) rfl (by decide +kernel) rfl rfl (Nat.le_of_ble_eq_true rfl) d_COD_forgetFault_12 (fun H locs hP hD hS => ?_)
  have hP : va_P G.1 vwCl [(h0, .inr (5, [.int nu, .int onn, .int 0, .int 0, .int la, .int 0, .int oz, .int fc, .int fd]))] H := hP
  have hD : va_D A [(h0, .inr (5, [.int nu, .int onn, .int 0, .int 0, .int la, .int 0, .int oz, .int fc, .int fd]))] := hD
  refine lv_aload_n hx hb d_COD_forgetFault_15 rfl (lv_at hl 0 rfl) ?_
  refine lv_iconst (v := 0) hx hb d_COD_forgetFault_16 (by decide) ?_
  refine va_put (D := G.1) (ci := 5) (v := .int 0) (ty := .int) (C := R_COD) (T := T_COD) (N := 9) hx hb hT in_COD t_COD tok_COD nok_COD hown hK hP hD hS 0 rfl rfl 7 (by decide) (hT _ wd_355) (fun _ h9 => h9) rfl (by decide +kernel) rfl rfl (Nat.le_of_ble_eq_true rfl) d_COD_forgetFault_17 (fun H locs hP hD hS => ?_)
  have hP : va_P G.1 vwCl [(h0, .inr (5, [.int nu, .int onn, .int 0, .int 0, .int la, .int 0, .int oz, .int 0, .int fd]))] H := hP
  have hD : va_D A [(h0, .inr (5, [.int nu, .int onn, .int 0, .int 0, .int la, .int 0, .int oz, .int 0, .int fd]))] := hD
  refine lv_aload_n hx hb d_COD_forgetFault_20 rfl (lv_at hl 0 rfl) ?_
  refine lv_iconst (v := 0) hx hb d_COD_forgetFault_21 (by decide) ?_
  refine va_put (D := G.1) (ci := 5) (v := .int 0) (ty := .int) (C := R_COD) (T := T_COD) (N := 9) hx hb hT in_COD t_COD tok_COD nok_COD hown hK hP hD hS 0 rfl rfl 8 (by decide) (hT _ wd_357) (fun _ h9 => h9) rfl (by decide +kernel) rfl rfl (Nat.le_of_ble_eq_true rfl) d_COD_forgetFault_22 (fun H locs hP hD hS => ?_)
  have hP : va_P G.1 vwCl [(h0, .inr (5, [.int nu, .int onn, .int 0, .int 0, .int la, .int 0, .int oz, .int 0, .int 0]))] H := hP
  have hD : va_D A [(h0, .inr (5, [.int nu, .int onn, .int 0, .int 0, .int la, .int 0, .int oz, .int 0, .int 0]))] := hD
  exact W.vret hx hb hr (fun t ht hW => ⟨⟨rfl, by rw [ht]; exact hP, by rw [hAe]; exact hD⟩, by rw [hAe]; exact hS.F ht⟩) hS.2.2 d_COD_forgetFault_25
set_option maxHeartbeats 4000000 in
set_option maxRecDepth 100000 in
theorem c_endCycleOff (l : Launch) (G : GG) (sz : Nat) (h0 : Nat) (nu : Int32) (onn : Int32) (pe : Int32) (co : Int32) (la : Int32) (ofr : Int32) (oz : Int32) (fc : Int32) (fd : Int32) (cs : Int32)  : Met l y_COD_endCycleOff w_COD_endCycleOff ({ frames := 1, cells := 0, slots := 0, locals := 21 }) (va_Pc [.ref h0, .int cs] (Pw G sz [(h0, .inr (5, [.int nu, .int onn, .int pe, .int co, .int la, .int ofr, .int oz, .int fc, .int fd]))])) (QW G none [(h0, .inr (5, [.int nu, .int onn, .int pe, .int co, .int la, .int ofr, .int oz, .int fc, .int fd]))] [(h0, .inr (5, [.int nu, .int onn, .int (ofK pe ofr pe), .int (ofK pe ofr co), .int (ofL la oz cs), .int (ofK pe ofr (ofr + 1)), .int (ofZ oz cs), .int (ofK pe ofr fc), .int (ofK pe ofr fd)]))] sz) 0 0 (va_A [(h0, .inr (5, [.int nu, .int onn, .int pe, .int co, .int la, .int ofr, .int oz, .int fc, .int fd]))] sz) := by
  refine Met.ofW (cc := b_COD_endCycleOff) (maxL := 2) (ret := none) (by decide) rfl ?_
  intro p e s m args below meth c s₁ B hml hv
  obtain ⟨rfl, hsz, hP, hGK, hD0⟩ := hv
  have hx := B.exec
  have hb := B.bytes
  have hr := B.returns
  have hts := atoms_spec (ws := w_COD_endCycleOff) B.pre
  have hT : ∀ w ∈ lwG, w.before _ s = true := fun w h => hts w (List.mem_cons_of_mem _ h)
  have hown : s.vm.findClass R_COD = some m.cls := findClass_of_methodNamed B.named
  have hlocks := B.notSynchronized
  have hK := hGK.1
  have hN := hGK.2
  subst hsz
  have hD := hD0.self (sz := s.heap.size)
  generalize hAe : va_A [(h0, .inr (5, [.int nu, .int onn, .int pe, .int co, .int la, .int ofr, .int oz, .int fc, .int fd]))] s.heap.size = A at hD ⊢
  have hA : ∀ q : Nat, s.heap.size ≤ q → A q := fun q h => by rw [← hAe]; exact Or.inr h
  have hS : va_S A s.heap s.heap [] := va_S.rf
  have hP : va_P G.1 vwCl [(h0, .inr (5, [.int nu, .int onn, .int pe, .int co, .int la, .int ofr, .int oz, .int fc, .int fd]))] s.heap := hP
  have hl := lv_entry ([.ref h0, .int cs]) (n := 2) (Nat.le_of_ble_eq_true rfl)
  rw [lg_entry_eq]
  generalize (lg_sl ([.ref h0, .int cs]) ++ List.replicate (2 - (lg_sl ([.ref h0, .int cs])).length) Slot.unset).toArray = ls at hl ⊢
  have hl : lv_has ls 2 [(0, .ref h0), (1, .int cs)] := hl
  refine lv_aload_n hx hb d_COD_endCycleOff_0 rfl (lv_at hl 0 rfl) ?_
  refine lv_dup hx hb d_COD_endCycleOff_1 rfl ?_
  refine va_get (D := G.1) (ci := 5) (v := .int ofr) (C := R_COD) (T := T_COD) (N := 9) hx hb hT in_COD hown hK hP 0 rfl rfl 5 (by decide) (hT _ wd_353) (fun _ h9 => h9) rfl d_COD_endCycleOff_2 ?_
  refine lv_iconst (v := 1) hx hb d_COD_endCycleOff_5 (by decide) ?_
  refine lv_iadd hx hb d_COD_endCycleOff_6 ?_
  refine va_put (D := G.1) (ci := 5) (v := .int (ofr + 1)) (ty := .int) (C := R_COD) (T := T_COD) (N := 9) hx hb hT in_COD t_COD tok_COD nok_COD hown hK hP hD hS 0 rfl rfl 5 (by decide) (hT _ wd_353) (fun _ h9 => h9) rfl (by decide +kernel) rfl rfl (Nat.le_of_ble_eq_true rfl) d_COD_endCycleOff_7 (fun H locs hP hD hS => ?_)
  have hP : va_P G.1 vwCl [(h0, .inr (5, [.int nu, .int onn, .int pe, .int co, .int la, .int (ofr + 1), .int oz, .int fc, .int fd]))] H := hP
  have hD : va_D A [(h0, .inr (5, [.int nu, .int onn, .int pe, .int co, .int la, .int (ofr + 1), .int oz, .int fc, .int fd]))] := hD
  refine lv_iload_n hx hb d_COD_endCycleOff_10 rfl (lv_at hl 1 rfl) ?_
  refine lv_iconst (v := 0) hx hb d_COD_endCycleOff_11 (by decide) ?_
  refine bx_callV ((va_runSN (As := [.int cs, .int 0]) (rest := []) ⟨hx, hb, hml, hown, hts⟩ (c_isBitSet l G cs 0) ⟨(va_cnB 2 hts (gi_all wd_271) rfl rfl rfl (hN (.methodLinkNest "EmissionRows$Code" 40 ⟨"EmissionRows", "isBitSet", "(II)Z"⟩ "EmissionRows") nw_299) (hT _ wd_45) (by decide +kernel) ⟨Nat.le_of_ble_eq_true rfl, Nat.le_of_ble_eq_true rfl⟩), (hT _ wd_270), trivial⟩ (psR bx_nil hGK) rfl rfl hl.1 rfl (lv_room (Nat.le_of_ble_eq_true rfl)) d_COD_endCycleOff_12 ⟨Nat.le_of_ble_eq_true rfl, Nat.le_of_ble_eq_true rfl⟩)).run ?_
  refine lv_if_eq (tgt := 28) hx hb d_COD_endCycleOff_15 (by decide) (fun c_15 => ?_) (fun c_15 => ?_)
  · refine lv_aload_n hx hb d_COD_endCycleOff_28 rfl (lv_at hl 0 rfl) ?_
    refine va_get (D := G.1) (ci := 5) (v := .int pe) (C := R_COD) (T := T_COD) (N := 9) hx hb hT in_COD hown hK hP 0 rfl rfl 2 (by decide) (hT _ wd_348) (fun _ h9 => h9) rfl d_COD_endCycleOff_29 ?_
    refine lv_if_ne (tgt := 43) hx hb d_COD_endCycleOff_32 (by decide) (fun c_32 => ?_) (fun c_32 => ?_)
    · refine lv_aload_n hx hb d_COD_endCycleOff_43 rfl (lv_at hl 0 rfl) ?_
      have hPc := hP.sub (ws' := [(h0, .inr (5, [.int nu, .int onn, .int pe, .int co, .int la, .int (ofr + 1), .int oz, .int fc, .int fd]))]) [0] rfl
      have hDc := hD.sub (ws' := [(h0, .inr (5, [.int nu, .int onn, .int pe, .int co, .int la, .int (ofr + 1), .int oz, .int fc, .int fd]))]) [0] (by decide) rfl
      refine bx_callKv [0] (va_runV (As := []) (rest := []) ⟨hx, hb, hml, hown, hts⟩ (c_forgetFault l G H.size h0 nu onn pe co la (ofr + 1) oz fc fd) ⟨(callB_of 0 hts (gi_all wd_303) rfl rfl rfl (hT _ wd_63) (hT _ wd_300) (by decide +kernel) ⟨Nat.le_of_ble_eq_true rfl, Nat.le_of_ble_eq_true rfl⟩), (hT _ wd_302), (hT _ wd_10)⟩ (pvW hPc hGK hDc (va_recv hK hPc (ci := 5) (q0 := 0) rfl rfl)) rfl rfl hl.1 rfl (lv_room (Nat.le_of_ble_eq_true rfl)) d_COD_endCycleOff_44 ⟨Nat.le_of_ble_eq_true rfl, Nat.le_of_ble_eq_true rfl⟩) hP hD hS hA rfl rfl rfl (fun H locs hP hD hS => ?_)
      have hP : va_P G.1 vwCl [(h0, .inr (5, [.int nu, .int onn, .int 0, .int 0, .int la, .int 0, .int oz, .int 0, .int 0]))] H := hP
      have hD : va_D A [(h0, .inr (5, [.int nu, .int onn, .int 0, .int 0, .int la, .int 0, .int oz, .int 0, .int 0]))] := hD
      refine lv_aload_n hx hb d_COD_endCycleOff_47 rfl (lv_at hl 0 rfl) ?_
      refine va_get (D := G.1) (ci := 5) (v := .int oz) (C := R_COD) (T := T_COD) (N := 9) hx hb hT in_COD hown hK hP 0 rfl rfl 6 (by decide) (hT _ wd_354) (fun _ h9 => h9) rfl d_COD_endCycleOff_48 ?_
      refine lv_iconst (v := 3) hx hb d_COD_endCycleOff_51 (by decide) ?_
      refine lv_icmp_lt (tgt := 60) hx hb d_COD_endCycleOff_52 (by decide) (fun c_52 => ?_) (fun c_52 => ?_)
      · have hw9 : ([(h0, .inr (5, [.int nu, .int onn, .int (ofK pe ofr pe), .int (ofK pe ofr co), .int (ofL la oz cs), .int (ofK pe ofr (ofr + 1)), .int (ofZ oz cs), .int (ofK pe ofr fc), .int (ofK pe ofr fd)]))] : va_W) = [(h0, .inr (5, [.int nu, .int onn, .int 0, .int 0, .int la, .int 0, .int oz, .int 0, .int 0]))] := by first | (simp [ofK, ofL, ofZ, ofG, c_15, c_32, c_52]; done) | (simp_all [ofK, ofL, ofZ, ofG]; done)
        rw [← hw9] at hP hD
        exact W.vret hx hb hr (fun t ht hW => ⟨⟨rfl, by rw [ht]; exact hP, by rw [hAe]; exact hD⟩, by rw [hAe]; exact hS.F ht⟩) hS.2.2 d_COD_endCycleOff_60
      · refine lv_aload_n hx hb d_COD_endCycleOff_55 rfl (lv_at hl 0 rfl) ?_
        refine lv_iconst (v := 0) hx hb d_COD_endCycleOff_56 (by decide) ?_
        refine va_put (D := G.1) (ci := 5) (v := .int 0) (ty := .boolean) (C := R_COD) (T := T_COD) (N := 9) hx hb hT in_COD t_COD tok_COD nok_COD hown hK hP hD hS 0 rfl rfl 4 (by decide) (hT _ wd_351) (fun _ h9 => h9) rfl (by decide +kernel) rfl rfl (Nat.le_of_ble_eq_true rfl) d_COD_endCycleOff_57 (fun H locs hP hD hS => ?_)
        have hP : va_P G.1 vwCl [(h0, .inr (5, [.int nu, .int onn, .int 0, .int 0, .int 0, .int 0, .int oz, .int 0, .int 0]))] H := hP
        have hD : va_D A [(h0, .inr (5, [.int nu, .int onn, .int 0, .int 0, .int 0, .int 0, .int oz, .int 0, .int 0]))] := hD
        have hw9 : ([(h0, .inr (5, [.int nu, .int onn, .int (ofK pe ofr pe), .int (ofK pe ofr co), .int (ofL la oz cs), .int (ofK pe ofr (ofr + 1)), .int (ofZ oz cs), .int (ofK pe ofr fc), .int (ofK pe ofr fd)]))] : va_W) = [(h0, .inr (5, [.int nu, .int onn, .int 0, .int 0, .int 0, .int 0, .int oz, .int 0, .int 0]))] := by first | (simp [ofK, ofL, ofZ, ofG, c_15, c_32, c_52]; done) | (simp_all [ofK, ofL, ofZ, ofG]; done)
        rw [← hw9] at hP hD
        exact W.vret hx hb hr (fun t ht hW => ⟨⟨rfl, by rw [ht]; exact hP, by rw [hAe]; exact hD⟩, by rw [hAe]; exact hS.F ht⟩) hS.2.2 d_COD_endCycleOff_60
    · refine lv_aload_n hx hb d_COD_endCycleOff_35 rfl (lv_at hl 0 rfl) ?_
      refine va_get (D := G.1) (ci := 5) (v := .int (ofr + 1)) (C := R_COD) (T := T_COD) (N := 9) hx hb hT in_COD hown hK hP 0 rfl rfl 5 (by decide) (hT _ wd_353) (fun _ h9 => h9) rfl d_COD_endCycleOff_36 ?_
      refine lv_iconst (v := 3) hx hb d_COD_endCycleOff_39 (by decide) ?_
      refine lv_icmp_lt (tgt := 47) hx hb d_COD_endCycleOff_40 (by decide) (fun c_40 => ?_) (fun c_40 => ?_)
      · refine lv_aload_n hx hb d_COD_endCycleOff_47 rfl (lv_at hl 0 rfl) ?_
        refine va_get (D := G.1) (ci := 5) (v := .int oz) (C := R_COD) (T := T_COD) (N := 9) hx hb hT in_COD hown hK hP 0 rfl rfl 6 (by decide) (hT _ wd_354) (fun _ h9 => h9) rfl d_COD_endCycleOff_48 ?_
        refine lv_iconst (v := 3) hx hb d_COD_endCycleOff_51 (by decide) ?_
        refine lv_icmp_lt (tgt := 60) hx hb d_COD_endCycleOff_52 (by decide) (fun c_52 => ?_) (fun c_52 => ?_)
        · have hw9 : ([(h0, .inr (5, [.int nu, .int onn, .int (ofK pe ofr pe), .int (ofK pe ofr co), .int (ofL la oz cs), .int (ofK pe ofr (ofr + 1)), .int (ofZ oz cs), .int (ofK pe ofr fc), .int (ofK pe ofr fd)]))] : va_W) = [(h0, .inr (5, [.int nu, .int onn, .int pe, .int co, .int la, .int (ofr + 1), .int oz, .int fc, .int fd]))] := by first | (simp [ofK, ofL, ofZ, ofG, c_15, c_32, c_40, c_52]; done) | (simp_all [ofK, ofL, ofZ, ofG]; done)
          rw [← hw9] at hP hD
          exact W.vret hx hb hr (fun t ht hW => ⟨⟨rfl, by rw [ht]; exact hP, by rw [hAe]; exact hD⟩, by rw [hAe]; exact hS.F ht⟩) hS.2.2 d_COD_endCycleOff_60
        · refine lv_aload_n hx hb d_COD_endCycleOff_55 rfl (lv_at hl 0 rfl) ?_
          refine lv_iconst (v := 0) hx hb d_COD_endCycleOff_56 (by decide) ?_
          refine va_put (D := G.1) (ci := 5) (v := .int 0) (ty := .boolean) (C := R_COD) (T := T_COD) (N := 9) hx hb hT in_COD t_COD tok_COD nok_COD hown hK hP hD hS 0 rfl rfl 4 (by decide) (hT _ wd_351) (fun _ h9 => h9) rfl (by decide +kernel) rfl rfl (Nat.le_of_ble_eq_true rfl) d_COD_endCycleOff_57 (fun H locs hP hD hS => ?_)
          have hP : va_P G.1 vwCl [(h0, .inr (5, [.int nu, .int onn, .int pe, .int co, .int 0, .int (ofr + 1), .int oz, .int fc, .int fd]))] H := hP
          have hD : va_D A [(h0, .inr (5, [.int nu, .int onn, .int pe, .int co, .int 0, .int (ofr + 1), .int oz, .int fc, .int fd]))] := hD
          have hw9 : ([(h0, .inr (5, [.int nu, .int onn, .int (ofK pe ofr pe), .int (ofK pe ofr co), .int (ofL la oz cs), .int (ofK pe ofr (ofr + 1)), .int (ofZ oz cs), .int (ofK pe ofr fc), .int (ofK pe ofr fd)]))] : va_W) = [(h0, .inr (5, [.int nu, .int onn, .int pe, .int co, .int 0, .int (ofr + 1), .int oz, .int fc, .int fd]))] := by first | (simp [ofK, ofL, ofZ, ofG, c_15, c_32, c_40, c_52]; done) | (simp_all [ofK, ofL, ofZ, ofG]; done)
          rw [← hw9] at hP hD
          exact W.vret hx hb hr (fun t ht hW => ⟨⟨rfl, by rw [ht]; exact hP, by rw [hAe]; exact hD⟩, by rw [hAe]; exact hS.F ht⟩) hS.2.2 d_COD_endCycleOff_60
      · refine lv_aload_n hx hb d_COD_endCycleOff_43 rfl (lv_at hl 0 rfl) ?_
        have hPc := hP.sub (ws' := [(h0, .inr (5, [.int nu, .int onn, .int pe, .int co, .int la, .int (ofr + 1), .int oz, .int fc, .int fd]))]) [0] rfl
        have hDc := hD.sub (ws' := [(h0, .inr (5, [.int nu, .int onn, .int pe, .int co, .int la, .int (ofr + 1), .int oz, .int fc, .int fd]))]) [0] (by decide) rfl
        refine bx_callKv [0] (va_runV (As := []) (rest := []) ⟨hx, hb, hml, hown, hts⟩ (c_forgetFault l G H.size h0 nu onn pe co la (ofr + 1) oz fc fd) ⟨(callB_of 0 hts (gi_all wd_303) rfl rfl rfl (hT _ wd_63) (hT _ wd_300) (by decide +kernel) ⟨Nat.le_of_ble_eq_true rfl, Nat.le_of_ble_eq_true rfl⟩), (hT _ wd_302), (hT _ wd_10)⟩ (pvW hPc hGK hDc (va_recv hK hPc (ci := 5) (q0 := 0) rfl rfl)) rfl rfl hl.1 rfl (lv_room (Nat.le_of_ble_eq_true rfl)) d_COD_endCycleOff_44 ⟨Nat.le_of_ble_eq_true rfl, Nat.le_of_ble_eq_true rfl⟩) hP hD hS hA rfl rfl rfl (fun H locs hP hD hS => ?_)
        have hP : va_P G.1 vwCl [(h0, .inr (5, [.int nu, .int onn, .int 0, .int 0, .int la, .int 0, .int oz, .int 0, .int 0]))] H := hP
        have hD : va_D A [(h0, .inr (5, [.int nu, .int onn, .int 0, .int 0, .int la, .int 0, .int oz, .int 0, .int 0]))] := hD
        refine lv_aload_n hx hb d_COD_endCycleOff_47 rfl (lv_at hl 0 rfl) ?_
        refine va_get (D := G.1) (ci := 5) (v := .int oz) (C := R_COD) (T := T_COD) (N := 9) hx hb hT in_COD hown hK hP 0 rfl rfl 6 (by decide) (hT _ wd_354) (fun _ h9 => h9) rfl d_COD_endCycleOff_48 ?_
        refine lv_iconst (v := 3) hx hb d_COD_endCycleOff_51 (by decide) ?_
        refine lv_icmp_lt (tgt := 60) hx hb d_COD_endCycleOff_52 (by decide) (fun c_52 => ?_) (fun c_52 => ?_)
        · have hw9 : ([(h0, .inr (5, [.int nu, .int onn, .int (ofK pe ofr pe), .int (ofK pe ofr co), .int (ofL la oz cs), .int (ofK pe ofr (ofr + 1)), .int (ofZ oz cs), .int (ofK pe ofr fc), .int (ofK pe ofr fd)]))] : va_W) = [(h0, .inr (5, [.int nu, .int onn, .int 0, .int 0, .int la, .int 0, .int oz, .int 0, .int 0]))] := by first | (simp [ofK, ofL, ofZ, ofG, c_15, c_32, c_40, c_52]; done) | (simp_all [ofK, ofL, ofZ, ofG]; done)
          rw [← hw9] at hP hD
          exact W.vret hx hb hr (fun t ht hW => ⟨⟨rfl, by rw [ht]; exact hP, by rw [hAe]; exact hD⟩, by rw [hAe]; exact hS.F ht⟩) hS.2.2 d_COD_endCycleOff_60
        · refine lv_aload_n hx hb d_COD_endCycleOff_55 rfl (lv_at hl 0 rfl) ?_
          refine lv_iconst (v := 0) hx hb d_COD_endCycleOff_56 (by decide) ?_
          refine va_put (D := G.1) (ci := 5) (v := .int 0) (ty := .boolean) (C := R_COD) (T := T_COD) (N := 9) hx hb hT in_COD t_COD tok_COD nok_COD hown hK hP hD hS 0 rfl rfl 4 (by decide) (hT _ wd_351) (fun _ h9 => h9) rfl (by decide +kernel) rfl rfl (Nat.le_of_ble_eq_true rfl) d_COD_endCycleOff_57 (fun H locs hP hD hS => ?_)
          have hP : va_P G.1 vwCl [(h0, .inr (5, [.int nu, .int onn, .int 0, .int 0, .int 0, .int 0, .int oz, .int 0, .int 0]))] H := hP
          have hD : va_D A [(h0, .inr (5, [.int nu, .int onn, .int 0, .int 0, .int 0, .int 0, .int oz, .int 0, .int 0]))] := hD
          have hw9 : ([(h0, .inr (5, [.int nu, .int onn, .int (ofK pe ofr pe), .int (ofK pe ofr co), .int (ofL la oz cs), .int (ofK pe ofr (ofr + 1)), .int (ofZ oz cs), .int (ofK pe ofr fc), .int (ofK pe ofr fd)]))] : va_W) = [(h0, .inr (5, [.int nu, .int onn, .int 0, .int 0, .int 0, .int 0, .int oz, .int 0, .int 0]))] := by first | (simp [ofK, ofL, ofZ, ofG, c_15, c_32, c_40, c_52]; done) | (simp_all [ofK, ofL, ofZ, ofG]; done)
          rw [← hw9] at hP hD
          exact W.vret hx hb hr (fun t ht hW => ⟨⟨rfl, by rw [ht]; exact hP, by rw [hAe]; exact hD⟩, by rw [hAe]; exact hS.F ht⟩) hS.2.2 d_COD_endCycleOff_60
  · refine lv_aload_n hx hb d_COD_endCycleOff_18 rfl (lv_at hl 0 rfl) ?_
    refine lv_dup hx hb d_COD_endCycleOff_19 rfl ?_
    refine va_get (D := G.1) (ci := 5) (v := .int oz) (C := R_COD) (T := T_COD) (N := 9) hx hb hT in_COD hown hK hP 0 rfl rfl 6 (by decide) (hT _ wd_354) (fun _ h9 => h9) rfl d_COD_endCycleOff_20 ?_
    refine lv_iconst (v := 1) hx hb d_COD_endCycleOff_23 (by decide) ?_
    refine lv_iadd hx hb d_COD_endCycleOff_24 ?_
    refine va_put (D := G.1) (ci := 5) (v := .int (oz + 1)) (ty := .int) (C := R_COD) (T := T_COD) (N := 9) hx hb hT in_COD t_COD tok_COD nok_COD hown hK hP hD hS 0 rfl rfl 6 (by decide) (hT _ wd_354) (fun _ h9 => h9) rfl (by decide +kernel) rfl rfl (Nat.le_of_ble_eq_true rfl) d_COD_endCycleOff_25 (fun H locs hP hD hS => ?_)
    have hP : va_P G.1 vwCl [(h0, .inr (5, [.int nu, .int onn, .int pe, .int co, .int la, .int (ofr + 1), .int (oz + 1), .int fc, .int fd]))] H := hP
    have hD : va_D A [(h0, .inr (5, [.int nu, .int onn, .int pe, .int co, .int la, .int (ofr + 1), .int (oz + 1), .int fc, .int fd]))] := hD
    refine lv_aload_n hx hb d_COD_endCycleOff_28 rfl (lv_at hl 0 rfl) ?_
    refine va_get (D := G.1) (ci := 5) (v := .int pe) (C := R_COD) (T := T_COD) (N := 9) hx hb hT in_COD hown hK hP 0 rfl rfl 2 (by decide) (hT _ wd_348) (fun _ h9 => h9) rfl d_COD_endCycleOff_29 ?_
    refine lv_if_ne (tgt := 43) hx hb d_COD_endCycleOff_32 (by decide) (fun c_32 => ?_) (fun c_32 => ?_)
    · refine lv_aload_n hx hb d_COD_endCycleOff_43 rfl (lv_at hl 0 rfl) ?_
      have hPc := hP.sub (ws' := [(h0, .inr (5, [.int nu, .int onn, .int pe, .int co, .int la, .int (ofr + 1), .int (oz + 1), .int fc, .int fd]))]) [0] rfl
      have hDc := hD.sub (ws' := [(h0, .inr (5, [.int nu, .int onn, .int pe, .int co, .int la, .int (ofr + 1), .int (oz + 1), .int fc, .int fd]))]) [0] (by decide) rfl
      refine bx_callKv [0] (va_runV (As := []) (rest := []) ⟨hx, hb, hml, hown, hts⟩ (c_forgetFault l G H.size h0 nu onn pe co la (ofr + 1) (oz + 1) fc fd) ⟨(callB_of 0 hts (gi_all wd_303) rfl rfl rfl (hT _ wd_63) (hT _ wd_300) (by decide +kernel) ⟨Nat.le_of_ble_eq_true rfl, Nat.le_of_ble_eq_true rfl⟩), (hT _ wd_302), (hT _ wd_10)⟩ (pvW hPc hGK hDc (va_recv hK hPc (ci := 5) (q0 := 0) rfl rfl)) rfl rfl hl.1 rfl (lv_room (Nat.le_of_ble_eq_true rfl)) d_COD_endCycleOff_44 ⟨Nat.le_of_ble_eq_true rfl, Nat.le_of_ble_eq_true rfl⟩) hP hD hS hA rfl rfl rfl (fun H locs hP hD hS => ?_)
      have hP : va_P G.1 vwCl [(h0, .inr (5, [.int nu, .int onn, .int 0, .int 0, .int la, .int 0, .int (oz + 1), .int 0, .int 0]))] H := hP
      have hD : va_D A [(h0, .inr (5, [.int nu, .int onn, .int 0, .int 0, .int la, .int 0, .int (oz + 1), .int 0, .int 0]))] := hD
      refine lv_aload_n hx hb d_COD_endCycleOff_47 rfl (lv_at hl 0 rfl) ?_
      refine va_get (D := G.1) (ci := 5) (v := .int (oz + 1)) (C := R_COD) (T := T_COD) (N := 9) hx hb hT in_COD hown hK hP 0 rfl rfl 6 (by decide) (hT _ wd_354) (fun _ h9 => h9) rfl d_COD_endCycleOff_48 ?_
      refine lv_iconst (v := 3) hx hb d_COD_endCycleOff_51 (by decide) ?_
      refine lv_icmp_lt (tgt := 60) hx hb d_COD_endCycleOff_52 (by decide) (fun c_52 => ?_) (fun c_52 => ?_)
      · have hw9 : ([(h0, .inr (5, [.int nu, .int onn, .int (ofK pe ofr pe), .int (ofK pe ofr co), .int (ofL la oz cs), .int (ofK pe ofr (ofr + 1)), .int (ofZ oz cs), .int (ofK pe ofr fc), .int (ofK pe ofr fd)]))] : va_W) = [(h0, .inr (5, [.int nu, .int onn, .int 0, .int 0, .int la, .int 0, .int (oz + 1), .int 0, .int 0]))] := by first | (simp [ofK, ofL, ofZ, ofG, c_15, c_32, c_52]; done) | (simp_all [ofK, ofL, ofZ, ofG]; done)
        rw [← hw9] at hP hD
        exact W.vret hx hb hr (fun t ht hW => ⟨⟨rfl, by rw [ht]; exact hP, by rw [hAe]; exact hD⟩, by rw [hAe]; exact hS.F ht⟩) hS.2.2 d_COD_endCycleOff_60
      · refine lv_aload_n hx hb d_COD_endCycleOff_55 rfl (lv_at hl 0 rfl) ?_
        refine lv_iconst (v := 0) hx hb d_COD_endCycleOff_56 (by decide) ?_
        refine va_put (D := G.1) (ci := 5) (v := .int 0) (ty := .boolean) (C := R_COD) (T := T_COD) (N := 9) hx hb hT in_COD t_COD tok_COD nok_COD hown hK hP hD hS 0 rfl rfl 4 (by decide) (hT _ wd_351) (fun _ h9 => h9) rfl (by decide +kernel) rfl rfl (Nat.le_of_ble_eq_true rfl) d_COD_endCycleOff_57 (fun H locs hP hD hS => ?_)
        have hP : va_P G.1 vwCl [(h0, .inr (5, [.int nu, .int onn, .int 0, .int 0, .int 0, .int 0, .int (oz + 1), .int 0, .int 0]))] H := hP
        have hD : va_D A [(h0, .inr (5, [.int nu, .int onn, .int 0, .int 0, .int 0, .int 0, .int (oz + 1), .int 0, .int 0]))] := hD
        have hw9 : ([(h0, .inr (5, [.int nu, .int onn, .int (ofK pe ofr pe), .int (ofK pe ofr co), .int (ofL la oz cs), .int (ofK pe ofr (ofr + 1)), .int (ofZ oz cs), .int (ofK pe ofr fc), .int (ofK pe ofr fd)]))] : va_W) = [(h0, .inr (5, [.int nu, .int onn, .int 0, .int 0, .int 0, .int 0, .int (oz + 1), .int 0, .int 0]))] := by first | (simp [ofK, ofL, ofZ, ofG, c_15, c_32, c_52]; done) | (simp_all [ofK, ofL, ofZ, ofG]; done)
        rw [← hw9] at hP hD
        exact W.vret hx hb hr (fun t ht hW => ⟨⟨rfl, by rw [ht]; exact hP, by rw [hAe]; exact hD⟩, by rw [hAe]; exact hS.F ht⟩) hS.2.2 d_COD_endCycleOff_60
    · refine lv_aload_n hx hb d_COD_endCycleOff_35 rfl (lv_at hl 0 rfl) ?_
      refine va_get (D := G.1) (ci := 5) (v := .int (ofr + 1)) (C := R_COD) (T := T_COD) (N := 9) hx hb hT in_COD hown hK hP 0 rfl rfl 5 (by decide) (hT _ wd_353) (fun _ h9 => h9) rfl d_COD_endCycleOff_36 ?_
      refine lv_iconst (v := 3) hx hb d_COD_endCycleOff_39 (by decide) ?_
      refine lv_icmp_lt (tgt := 47) hx hb d_COD_endCycleOff_40 (by decide) (fun c_40 => ?_) (fun c_40 => ?_)
      · refine lv_aload_n hx hb d_COD_endCycleOff_47 rfl (lv_at hl 0 rfl) ?_
        refine va_get (D := G.1) (ci := 5) (v := .int (oz + 1)) (C := R_COD) (T := T_COD) (N := 9) hx hb hT in_COD hown hK hP 0 rfl rfl 6 (by decide) (hT _ wd_354) (fun _ h9 => h9) rfl d_COD_endCycleOff_48 ?_
        refine lv_iconst (v := 3) hx hb d_COD_endCycleOff_51 (by decide) ?_
        refine lv_icmp_lt (tgt := 60) hx hb d_COD_endCycleOff_52 (by decide) (fun c_52 => ?_) (fun c_52 => ?_)
        · have hw9 : ([(h0, .inr (5, [.int nu, .int onn, .int (ofK pe ofr pe), .int (ofK pe ofr co), .int (ofL la oz cs), .int (ofK pe ofr (ofr + 1)), .int (ofZ oz cs), .int (ofK pe ofr fc), .int (ofK pe ofr fd)]))] : va_W) = [(h0, .inr (5, [.int nu, .int onn, .int pe, .int co, .int la, .int (ofr + 1), .int (oz + 1), .int fc, .int fd]))] := by first | (simp [ofK, ofL, ofZ, ofG, c_15, c_32, c_40, c_52]; done) | (simp_all [ofK, ofL, ofZ, ofG]; done)
          rw [← hw9] at hP hD
          exact W.vret hx hb hr (fun t ht hW => ⟨⟨rfl, by rw [ht]; exact hP, by rw [hAe]; exact hD⟩, by rw [hAe]; exact hS.F ht⟩) hS.2.2 d_COD_endCycleOff_60
        · refine lv_aload_n hx hb d_COD_endCycleOff_55 rfl (lv_at hl 0 rfl) ?_
          refine lv_iconst (v := 0) hx hb d_COD_endCycleOff_56 (by decide) ?_
          refine va_put (D := G.1) (ci := 5) (v := .int 0) (ty := .boolean) (C := R_COD) (T := T_COD) (N := 9) hx hb hT in_COD t_COD tok_COD nok_COD hown hK hP hD hS 0 rfl rfl 4 (by decide) (hT _ wd_351) (fun _ h9 => h9) rfl (by decide +kernel) rfl rfl (Nat.le_of_ble_eq_true rfl) d_COD_endCycleOff_57 (fun H locs hP hD hS => ?_)
          have hP : va_P G.1 vwCl [(h0, .inr (5, [.int nu, .int onn, .int pe, .int co, .int 0, .int (ofr + 1), .int (oz + 1), .int fc, .int fd]))] H := hP
          have hD : va_D A [(h0, .inr (5, [.int nu, .int onn, .int pe, .int co, .int 0, .int (ofr + 1), .int (oz + 1), .int fc, .int fd]))] := hD
          have hw9 : ([(h0, .inr (5, [.int nu, .int onn, .int (ofK pe ofr pe), .int (ofK pe ofr co), .int (ofL la oz cs), .int (ofK pe ofr (ofr + 1)), .int (ofZ oz cs), .int (ofK pe ofr fc), .int (ofK pe ofr fd)]))] : va_W) = [(h0, .inr (5, [.int nu, .int onn, .int pe, .int co, .int 0, .int (ofr + 1), .int (oz + 1), .int fc, .int fd]))] := by first | (simp [ofK, ofL, ofZ, ofG, c_15, c_32, c_40, c_52]; done) | (simp_all [ofK, ofL, ofZ, ofG]; done)
          rw [← hw9] at hP hD
          exact W.vret hx hb hr (fun t ht hW => ⟨⟨rfl, by rw [ht]; exact hP, by rw [hAe]; exact hD⟩, by rw [hAe]; exact hS.F ht⟩) hS.2.2 d_COD_endCycleOff_60
      · refine lv_aload_n hx hb d_COD_endCycleOff_43 rfl (lv_at hl 0 rfl) ?_
        have hPc := hP.sub (ws' := [(h0, .inr (5, [.int nu, .int onn, .int pe, .int co, .int la, .int (ofr + 1), .int (oz + 1), .int fc, .int fd]))]) [0] rfl
        have hDc := hD.sub (ws' := [(h0, .inr (5, [.int nu, .int onn, .int pe, .int co, .int la, .int (ofr + 1), .int (oz + 1), .int fc, .int fd]))]) [0] (by decide) rfl
        refine bx_callKv [0] (va_runV (As := []) (rest := []) ⟨hx, hb, hml, hown, hts⟩ (c_forgetFault l G H.size h0 nu onn pe co la (ofr + 1) (oz + 1) fc fd) ⟨(callB_of 0 hts (gi_all wd_303) rfl rfl rfl (hT _ wd_63) (hT _ wd_300) (by decide +kernel) ⟨Nat.le_of_ble_eq_true rfl, Nat.le_of_ble_eq_true rfl⟩), (hT _ wd_302), (hT _ wd_10)⟩ (pvW hPc hGK hDc (va_recv hK hPc (ci := 5) (q0 := 0) rfl rfl)) rfl rfl hl.1 rfl (lv_room (Nat.le_of_ble_eq_true rfl)) d_COD_endCycleOff_44 ⟨Nat.le_of_ble_eq_true rfl, Nat.le_of_ble_eq_true rfl⟩) hP hD hS hA rfl rfl rfl (fun H locs hP hD hS => ?_)
        have hP : va_P G.1 vwCl [(h0, .inr (5, [.int nu, .int onn, .int 0, .int 0, .int la, .int 0, .int (oz + 1), .int 0, .int 0]))] H := hP
        have hD : va_D A [(h0, .inr (5, [.int nu, .int onn, .int 0, .int 0, .int la, .int 0, .int (oz + 1), .int 0, .int 0]))] := hD
        refine lv_aload_n hx hb d_COD_endCycleOff_47 rfl (lv_at hl 0 rfl) ?_
        refine va_get (D := G.1) (ci := 5) (v := .int (oz + 1)) (C := R_COD) (T := T_COD) (N := 9) hx hb hT in_COD hown hK hP 0 rfl rfl 6 (by decide) (hT _ wd_354) (fun _ h9 => h9) rfl d_COD_endCycleOff_48 ?_
        refine lv_iconst (v := 3) hx hb d_COD_endCycleOff_51 (by decide) ?_
        refine lv_icmp_lt (tgt := 60) hx hb d_COD_endCycleOff_52 (by decide) (fun c_52 => ?_) (fun c_52 => ?_)
        · have hw9 : ([(h0, .inr (5, [.int nu, .int onn, .int (ofK pe ofr pe), .int (ofK pe ofr co), .int (ofL la oz cs), .int (ofK pe ofr (ofr + 1)), .int (ofZ oz cs), .int (ofK pe ofr fc), .int (ofK pe ofr fd)]))] : va_W) = [(h0, .inr (5, [.int nu, .int onn, .int 0, .int 0, .int la, .int 0, .int (oz + 1), .int 0, .int 0]))] := by first | (simp [ofK, ofL, ofZ, ofG, c_15, c_32, c_40, c_52]; done) | (simp_all [ofK, ofL, ofZ, ofG]; done)
          rw [← hw9] at hP hD
          exact W.vret hx hb hr (fun t ht hW => ⟨⟨rfl, by rw [ht]; exact hP, by rw [hAe]; exact hD⟩, by rw [hAe]; exact hS.F ht⟩) hS.2.2 d_COD_endCycleOff_60
        · refine lv_aload_n hx hb d_COD_endCycleOff_55 rfl (lv_at hl 0 rfl) ?_
          refine lv_iconst (v := 0) hx hb d_COD_endCycleOff_56 (by decide) ?_
          refine va_put (D := G.1) (ci := 5) (v := .int 0) (ty := .boolean) (C := R_COD) (T := T_COD) (N := 9) hx hb hT in_COD t_COD tok_COD nok_COD hown hK hP hD hS 0 rfl rfl 4 (by decide) (hT _ wd_351) (fun _ h9 => h9) rfl (by decide +kernel) rfl rfl (Nat.le_of_ble_eq_true rfl) d_COD_endCycleOff_57 (fun H locs hP hD hS => ?_)
          have hP : va_P G.1 vwCl [(h0, .inr (5, [.int nu, .int onn, .int 0, .int 0, .int 0, .int 0, .int (oz + 1), .int 0, .int 0]))] H := hP
          have hD : va_D A [(h0, .inr (5, [.int nu, .int onn, .int 0, .int 0, .int 0, .int 0, .int (oz + 1), .int 0, .int 0]))] := hD
          have hw9 : ([(h0, .inr (5, [.int nu, .int onn, .int (ofK pe ofr pe), .int (ofK pe ofr co), .int (ofL la oz cs), .int (ofK pe ofr (ofr + 1)), .int (ofZ oz cs), .int (ofK pe ofr fc), .int (ofK pe ofr fd)]))] : va_W) = [(h0, .inr (5, [.int nu, .int onn, .int 0, .int 0, .int 0, .int 0, .int (oz + 1), .int 0, .int 0]))] := by first | (simp [ofK, ofL, ofZ, ofG, c_15, c_32, c_40, c_52]; done) | (simp_all [ofK, ofL, ofZ, ofG]; done)
          rw [← hw9] at hP hD
          exact W.vret hx hb hr (fun t ht hW => ⟨⟨rfl, by rw [ht]; exact hP, by rw [hAe]; exact hD⟩, by rw [hAe]; exact hS.F ht⟩) hS.2.2 d_COD_endCycleOff_60
set_option maxHeartbeats 4000000 in
set_option maxRecDepth 100000 in
theorem c_hasFrozenRow (l : Launch) (G : GG) (h0 : Nat) (nu : Int32) (onn : Int32) (pe : Int32) (co : Int32) (la : Int32) (ofr : Int32) (oz : Int32) (fc : Int32) (fd : Int32)  : Met l y_COD_hasFrozenRow w_COD_hasFrozenRow ({ frames := 0, cells := 0, slots := 0, locals := 0 }) (va_Pc [.ref h0] (Rw G [(h0, .inr (5, [.int nu, .int onn, .int pe, .int co, .int la, .int ofr, .int oz, .int fc, .int fd]))])) (k2_QcV (.int (frF fc))) 0 0 (fun _ => False) := by
  refine Met.ofW (cc := b_COD_hasFrozenRow) (maxL := 1) (ret := (some .boolean)) (by decide) rfl ?_
  intro p e s m args below meth c s₁ B hml hv
  obtain ⟨rfl, hP, hGK⟩ := hv
  have hx := B.exec
  have hb := B.bytes
  have hr := B.returns
  have hts := atoms_spec (ws := w_COD_hasFrozenRow) B.pre
  have hT : ∀ w ∈ lwG, w.before _ s = true := fun w h => hts w (List.mem_cons_of_mem _ h)
  have hown : s.vm.findClass R_COD = some m.cls := findClass_of_methodNamed B.named
  have hlocks := B.notSynchronized
  have hK := hGK.1
  have hN := hGK.2
  have hP : va_P G.1 vwCl [(h0, .inr (5, [.int nu, .int onn, .int pe, .int co, .int la, .int ofr, .int oz, .int fc, .int fd]))] s.heap := hP
  have hl := lv_entry ([.ref h0]) (n := 1) (Nat.le_of_ble_eq_true rfl)
  rw [lg_entry_eq]
  generalize (lg_sl ([.ref h0]) ++ List.replicate (1 - (lg_sl ([.ref h0])).length) Slot.unset).toArray = ls at hl ⊢
  have hl : lv_has ls 1 [(0, .ref h0)] := hl
  generalize hHe : s.heap = H at hP ⊢
  refine lv_aload_n hx hb d_COD_hasFrozenRow_0 rfl (lv_at hl 0 rfl) ?_
  refine va_get (D := G.1) (ci := 5) (v := .int fc) (C := R_COD) (T := T_COD) (N := 9) hx hb hT in_COD hown hK hP 0 rfl rfl 7 (by decide) (hT _ wd_355) (fun _ h9 => h9) rfl d_COD_hasFrozenRow_1 ?_
  refine lv_if_eq (tgt := 11) hx hb d_COD_hasFrozenRow_4 (by decide) (fun c_4 => ?_) (fun c_4 => ?_)
  · refine lv_iconst (v := 0) hx hb d_COD_hasFrozenRow_11 (by decide) ?_
    have hq9 : (.int (frF fc)) = (.int 0 : Value) := by first | (simp [frF, c_4]; done) | (simp_all [frF]; done)
    exact W.zret (v := 0) hx hb hr rfl (fun t ht _ => ⟨by rw [hq9], ht.trans hHe.symm⟩) (fun _ h => by cases h) d_COD_hasFrozenRow_12
  · refine lv_iconst (v := 1) hx hb d_COD_hasFrozenRow_7 (by decide) ?_
    refine lv_goto (tgt := 12) hx hb d_COD_hasFrozenRow_8 (by decide) ?_
    have hq9 : (.int (frF fc)) = (.int 1 : Value) := by first | (simp [frF, c_4]; done) | (simp_all [frF]; done)
    exact W.zret (v := 1) hx hb hr rfl (fun t ht _ => ⟨by rw [hq9], ht.trans hHe.symm⟩) (fun _ h => by cases h) d_COD_hasFrozenRow_12
set_option maxHeartbeats 4000000 in
set_option maxRecDepth 100000 in
theorem c_isToldIn (l : Launch) (G : GG) (h0 : Nat) (nu : Int32) (onn : Int32) (pe : Int32) (co : Int32) (la : Int32) (ofr : Int32) (oz : Int32) (fc : Int32) (fd : Int32) (md : Int32) (hpe : bz pe) (hco : bz co) (hla : bz la) : Met l y_COD_isToldIn w_COD_isToldIn ({ frames := 0, cells := 0, slots := 0, locals := 0 }) (va_Pc [.ref h0, .int md] (Rw G [(h0, .inr (5, [.int nu, .int onn, .int pe, .int co, .int la, .int ofr, .int oz, .int fc, .int fd]))])) (k2_QcV (.int (toldF md pe co la))) 0 0 (fun _ => False) := by
  refine Met.ofW (cc := b_COD_isToldIn) (maxL := 2) (ret := (some .boolean)) (by decide) rfl ?_
  intro p e s m args below meth c s₁ B hml hv
  obtain ⟨rfl, hP, hGK⟩ := hv
  have hx := B.exec
  have hb := B.bytes
  have hr := B.returns
  have hts := atoms_spec (ws := w_COD_isToldIn) B.pre
  have hT : ∀ w ∈ lwG, w.before _ s = true := fun w h => hts w (List.mem_cons_of_mem _ h)
  have hown : s.vm.findClass R_COD = some m.cls := findClass_of_methodNamed B.named
  have hlocks := B.notSynchronized
  have hK := hGK.1
  have hN := hGK.2
  have hP : va_P G.1 vwCl [(h0, .inr (5, [.int nu, .int onn, .int pe, .int co, .int la, .int ofr, .int oz, .int fc, .int fd]))] s.heap := hP
  have hl := lv_entry ([.ref h0, .int md]) (n := 2) (Nat.le_of_ble_eq_true rfl)
  rw [lg_entry_eq]
  generalize (lg_sl ([.ref h0, .int md]) ++ List.replicate (2 - (lg_sl ([.ref h0, .int md])).length) Slot.unset).toArray = ls at hl ⊢
  have hl : lv_has ls 2 [(0, .ref h0), (1, .int md)] := hl
  generalize hHe : s.heap = H at hP ⊢
  refine lv_iload_n hx hb d_COD_isToldIn_0 rfl (lv_at hl 1 rfl) ?_
  rcases Decidable.em (md = 3) with c_1_3 | c_1_3
  · refine lv_lookup (off := 35) (tgt := 36) hx hb d_COD_isToldIn_1 (by decide) (by rw [c_1_3]; decide) (by decide) ?_
    refine lv_aload_n hx hb d_COD_isToldIn_36 rfl (lv_at hl 0 rfl) ?_
    refine va_get (D := G.1) (ci := 5) (v := .int co) (C := R_COD) (T := T_COD) (N := 9) hx hb hT in_COD hown hK hP 0 rfl rfl 3 (by decide) (hT _ wd_349) (fun _ h9 => h9) rfl d_COD_isToldIn_37 ?_
    have hq9 : (.int (toldF md pe co la)) = (.int co : Value) := by first | (simp [toldF, c_1_3]; done) | (simp_all [toldF]; done)
    exact W.zret (v := co) hx hb hr (bz.n (by assumption)) (fun t ht _ => ⟨by rw [hq9], ht.trans hHe.symm⟩) (fun _ h => by cases h) d_COD_isToldIn_40
  rcases Decidable.em (md = 7) with c_1_7 | c_1_7
  · refine lv_lookup (off := 40) (tgt := 41) hx hb d_COD_isToldIn_1 (by decide) (by rw [c_1_7]; decide) (by decide) ?_
    refine lv_aload_n hx hb d_COD_isToldIn_41 rfl (lv_at hl 0 rfl) ?_
    refine va_get (D := G.1) (ci := 5) (v := .int pe) (C := R_COD) (T := T_COD) (N := 9) hx hb hT in_COD hown hK hP 0 rfl rfl 2 (by decide) (hT _ wd_348) (fun _ h9 => h9) rfl d_COD_isToldIn_42 ?_
    have hq9 : (.int (toldF md pe co la)) = (.int pe : Value) := by first | (simp [toldF, c_1_3, c_1_7]; done) | (simp_all [toldF]; done)
    exact W.zret (v := pe) hx hb hr (bz.n (by assumption)) (fun t ht _ => ⟨by rw [hq9], ht.trans hHe.symm⟩) (fun _ h => by cases h) d_COD_isToldIn_45
  rcases Decidable.em (md = 10) with c_1_10 | c_1_10
  · refine lv_lookup (off := 45) (tgt := 46) hx hb d_COD_isToldIn_1 (by decide) (by rw [c_1_10]; decide) (by decide) ?_
    refine lv_aload_n hx hb d_COD_isToldIn_46 rfl (lv_at hl 0 rfl) ?_
    refine va_get (D := G.1) (ci := 5) (v := .int la) (C := R_COD) (T := T_COD) (N := 9) hx hb hT in_COD hown hK hP 0 rfl rfl 4 (by decide) (hT _ wd_351) (fun _ h9 => h9) rfl d_COD_isToldIn_47 ?_
    have hq9 : (.int (toldF md pe co la)) = (.int la : Value) := by first | (simp [toldF, c_1_3, c_1_7, c_1_10]; done) | (simp_all [toldF]; done)
    exact W.zret (v := la) hx hb hr (bz.n (by assumption)) (fun t ht _ => ⟨by rw [hq9], ht.trans hHe.symm⟩) (fun _ h => by cases h) d_COD_isToldIn_50
  refine lv_lookup (off := 50) (tgt := 51) hx hb d_COD_isToldIn_1 (by decide) (by rw [lv_osw c_1_3 (by decide)]; rw [lv_osw c_1_7 (by decide)]; rw [lv_osw c_1_10 (by decide)]; rfl) (by decide) ?_
  refine lv_iconst (v := 0) hx hb d_COD_isToldIn_51 (by decide) ?_
  have hq9 : (.int (toldF md pe co la)) = (.int 0 : Value) := by first | (simp [toldF, c_1_3, c_1_7, c_1_10]; done) | (simp_all [toldF]; done)
  exact W.zret (v := 0) hx hb hr rfl (fun t ht _ => ⟨by rw [hq9], ht.trans hHe.symm⟩) (fun _ h => by cases h) d_COD_isToldIn_52
set_option maxHeartbeats 4000000 in
set_option maxRecDepth 100000 in
theorem c_Lamp_init (l : Launch) (G : GG) (sz : Nat) (h0 : Nat) (li : Int32) (me : Int64) (mi : Int64)  : Met l y_LAMP_init w_LAMP_init ({ frames := 1, cells := 0, slots := 0, locals := 12 }) (va_Pc [.ref h0] (Pw G sz [(h0, .inr (2, [.int li, .long me, .long mi]))])) (QW G none [(h0, .inr (2, [.int li, .long me, .long mi]))] [(h0, .inr (2, [.int 0, .long 0, .long 0]))] sz) 0 0 (va_A [(h0, .inr (2, [.int li, .long me, .long mi]))] sz) := by
  refine Met.ofW (cc := b_LAMP_init) (maxL := 1) (ret := none) (by decide) rfl ?_
  intro p e s m args below meth c s₁ B hml hv
  obtain ⟨rfl, hsz, hP, hGK, hD0⟩ := hv
  have hx := B.exec
  have hb := B.bytes
  have hr := B.returns
  have hts := atoms_spec (ws := w_LAMP_init) B.pre
  have hT : ∀ w ∈ lwG, w.before _ s = true := fun w h => hts w (List.mem_cons_of_mem _ h)
  have hown : s.vm.findClass R_LAMP = some m.cls := findClass_of_methodNamed B.named
  have hlocks := B.notSynchronized
  have hK := hGK.1
  have hN := hGK.2
  have hin : meth.name = "<init>" := (name_of_methodNamed B.named B.method).1
  subst hsz
  have hD := hD0.self (sz := s.heap.size)
  generalize hAe : va_A [(h0, .inr (2, [.int li, .long me, .long mi]))] s.heap.size = A at hD ⊢
  have hA : ∀ q : Nat, s.heap.size ≤ q → A q := fun q h => by rw [← hAe]; exact Or.inr h
  have hS : va_S A s.heap s.heap [] := va_S.rf
  have hP : va_P G.1 vwCl [(h0, .inr (2, [.int li, .long me, .long mi]))] s.heap := hP
  have hl := lv_entry ([.ref h0]) (n := 1) (Nat.le_of_ble_eq_true rfl)
  rw [lg_entry_eq]
  generalize (lg_sl ([.ref h0]) ++ List.replicate (1 - (lg_sl ([.ref h0])).length) Slot.unset).toArray = ls at hl ⊢
  have hl : lv_has ls 1 [(0, .ref h0)] := hl
  refine lv_aload_n hx hb d_LAMP_init_0 rfl (lv_at hl 0 rfl) ?_
  refine W.objInit hx hb hown (hT _ wd_104) (hT _ wd_71) (hT _ wd_72) rfl (by rw [hml]; exact hl.1) rfl d_LAMP_init_1 (Nat.le_of_ble_eq_true rfl) (Nat.le_of_ble_eq_true rfl) ?_
  refine W.eq (g2 := F0 m 4 ls []) rfl ?_
  refine lv_aload_n hx hb d_LAMP_init_4 rfl (lv_at hl 0 rfl) ?_
  refine lv_iconst (v := 0) hx hb d_LAMP_init_5 (by decide) ?_
  refine va_put (D := G.1) (ci := 2) (v := .int 0) (ty := .boolean) (C := R_LAMP) (T := T_LAMP) (N := 3) hx hb hT in_LAMP t_LAMP tok_LAMP nok_LAMP hown hK hP hD hS 0 rfl rfl 0 (by decide) (hT _ wd_105) (fun _ h9 => h9) rfl (by decide +kernel) rfl rfl (Nat.le_of_ble_eq_true rfl) d_LAMP_init_6 (fun H locs hP hD hS => ?_)
  have hP : va_P G.1 vwCl [(h0, .inr (2, [.int 0, .long me, .long mi]))] H := hP
  have hD : va_D A [(h0, .inr (2, [.int 0, .long me, .long mi]))] := hD
  refine lv_aload_n hx hb d_LAMP_init_9 rfl (lv_at hl 0 rfl) ?_
  refine lv_lconst (v := 0) hx hb d_LAMP_init_10 (by decide) ?_
  refine va_put (D := G.1) (ci := 2) (v := .long 0) (ty := .long) (C := R_LAMP) (T := T_LAMP) (N := 3) hx hb hT in_LAMP t_LAMP tok_LAMP nok_LAMP hown hK hP hD hS 0 rfl rfl 1 (by decide) (hT _ wd_107) (fun _ h9 => h9) rfl (by decide +kernel) rfl rfl (Nat.le_of_ble_eq_true rfl) d_LAMP_init_11 (fun H locs hP hD hS => ?_)
  have hP : va_P G.1 vwCl [(h0, .inr (2, [.int 0, .long 0, .long mi]))] H := hP
  have hD : va_D A [(h0, .inr (2, [.int 0, .long 0, .long mi]))] := hD
  refine lv_aload_n hx hb d_LAMP_init_14 rfl (lv_at hl 0 rfl) ?_
  refine lv_lconst (v := 0) hx hb d_LAMP_init_15 (by decide) ?_
  refine va_put (D := G.1) (ci := 2) (v := .long 0) (ty := .long) (C := R_LAMP) (T := T_LAMP) (N := 3) hx hb hT in_LAMP t_LAMP tok_LAMP nok_LAMP hown hK hP hD hS 0 rfl rfl 2 (by decide) (hT _ wd_109) (fun _ h9 => h9) rfl (by decide +kernel) rfl rfl (Nat.le_of_ble_eq_true rfl) d_LAMP_init_16 (fun H locs hP hD hS => ?_)
  have hP : va_P G.1 vwCl [(h0, .inr (2, [.int 0, .long 0, .long 0]))] H := hP
  have hD : va_D A [(h0, .inr (2, [.int 0, .long 0, .long 0]))] := hD
  exact W.vret hx hb hr (fun t ht hW => ⟨⟨rfl, by rw [ht]; exact hP, by rw [hAe]; exact hD⟩, by rw [hAe]; exact hS.F ht⟩) hS.2.2 d_LAMP_init_19
set_option maxHeartbeats 4000000 in
set_option maxRecDepth 100000 in
theorem c_Lamp_reset (l : Launch) (G : GG) (sz : Nat) (h0 : Nat) (li : Int32) (me : Int64) (mi : Int64)  : Met l y_LAMP_reset w_LAMP_reset ({ frames := 0, cells := 0, slots := 0, locals := 0 }) (va_Pc [.ref h0] (Pw G sz [(h0, .inr (2, [.int li, .long me, .long mi]))])) (QW G none [(h0, .inr (2, [.int li, .long me, .long mi]))] [(h0, .inr (2, [.int 0, .long 0, .long 0]))] sz) 0 0 (va_A [(h0, .inr (2, [.int li, .long me, .long mi]))] sz) := by
  refine Met.ofW (cc := b_LAMP_reset) (maxL := 1) (ret := none) (by decide) rfl ?_
  intro p e s m args below meth c s₁ B hml hv
  obtain ⟨rfl, hsz, hP, hGK, hD0⟩ := hv
  have hx := B.exec
  have hb := B.bytes
  have hr := B.returns
  have hts := atoms_spec (ws := w_LAMP_reset) B.pre
  have hT : ∀ w ∈ lwG, w.before _ s = true := fun w h => hts w (List.mem_cons_of_mem _ h)
  have hown : s.vm.findClass R_LAMP = some m.cls := findClass_of_methodNamed B.named
  have hlocks := B.notSynchronized
  have hK := hGK.1
  have hN := hGK.2
  subst hsz
  have hD := hD0.self (sz := s.heap.size)
  generalize hAe : va_A [(h0, .inr (2, [.int li, .long me, .long mi]))] s.heap.size = A at hD ⊢
  have hA : ∀ q : Nat, s.heap.size ≤ q → A q := fun q h => by rw [← hAe]; exact Or.inr h
  have hS : va_S A s.heap s.heap [] := va_S.rf
  have hP : va_P G.1 vwCl [(h0, .inr (2, [.int li, .long me, .long mi]))] s.heap := hP
  have hl := lv_entry ([.ref h0]) (n := 1) (Nat.le_of_ble_eq_true rfl)
  rw [lg_entry_eq]
  generalize (lg_sl ([.ref h0]) ++ List.replicate (1 - (lg_sl ([.ref h0])).length) Slot.unset).toArray = ls at hl ⊢
  have hl : lv_has ls 1 [(0, .ref h0)] := hl
  refine lv_aload_n hx hb d_LAMP_reset_0 rfl (lv_at hl 0 rfl) ?_
  refine lv_iconst (v := 0) hx hb d_LAMP_reset_1 (by decide) ?_
  refine va_put (D := G.1) (ci := 2) (v := .int 0) (ty := .boolean) (C := R_LAMP) (T := T_LAMP) (N := 3) hx hb hT in_LAMP t_LAMP tok_LAMP nok_LAMP hown hK hP hD hS 0 rfl rfl 0 (by decide) (hT _ wd_105) (fun _ h9 => h9) rfl (by decide +kernel) rfl rfl (Nat.le_of_ble_eq_true rfl) d_LAMP_reset_2 (fun H locs hP hD hS => ?_)
  have hP : va_P G.1 vwCl [(h0, .inr (2, [.int 0, .long me, .long mi]))] H := hP
  have hD : va_D A [(h0, .inr (2, [.int 0, .long me, .long mi]))] := hD
  refine lv_aload_n hx hb d_LAMP_reset_5 rfl (lv_at hl 0 rfl) ?_
  refine lv_lconst (v := 0) hx hb d_LAMP_reset_6 (by decide) ?_
  refine va_put (D := G.1) (ci := 2) (v := .long 0) (ty := .long) (C := R_LAMP) (T := T_LAMP) (N := 3) hx hb hT in_LAMP t_LAMP tok_LAMP nok_LAMP hown hK hP hD hS 0 rfl rfl 1 (by decide) (hT _ wd_107) (fun _ h9 => h9) rfl (by decide +kernel) rfl rfl (Nat.le_of_ble_eq_true rfl) d_LAMP_reset_7 (fun H locs hP hD hS => ?_)
  have hP : va_P G.1 vwCl [(h0, .inr (2, [.int 0, .long 0, .long mi]))] H := hP
  have hD : va_D A [(h0, .inr (2, [.int 0, .long 0, .long mi]))] := hD
  refine lv_aload_n hx hb d_LAMP_reset_10 rfl (lv_at hl 0 rfl) ?_
  refine lv_lconst (v := 0) hx hb d_LAMP_reset_11 (by decide) ?_
  refine va_put (D := G.1) (ci := 2) (v := .long 0) (ty := .long) (C := R_LAMP) (T := T_LAMP) (N := 3) hx hb hT in_LAMP t_LAMP tok_LAMP nok_LAMP hown hK hP hD hS 0 rfl rfl 2 (by decide) (hT _ wd_109) (fun _ h9 => h9) rfl (by decide +kernel) rfl rfl (Nat.le_of_ble_eq_true rfl) d_LAMP_reset_12 (fun H locs hP hD hS => ?_)
  have hP : va_P G.1 vwCl [(h0, .inr (2, [.int 0, .long 0, .long 0]))] H := hP
  have hD : va_D A [(h0, .inr (2, [.int 0, .long 0, .long 0]))] := hD
  exact W.vret hx hb hr (fun t ht hW => ⟨⟨rfl, by rw [ht]; exact hP, by rw [hAe]; exact hD⟩, by rw [hAe]; exact hS.F ht⟩) hS.2.2 d_LAMP_reset_15
set_option maxHeartbeats 4000000 in
set_option maxRecDepth 100000 in
theorem c_follow (l : Launch) (G : GG) (sz : Nat) (h0 : Nat) (li : Int32) (me : Int64) (mi : Int64) (sb : Int32) (hsb : bz sb) : Met l y_LAMP_follow w_LAMP_follow ({ frames := 1, cells := 0, slots := 0, locals := 20 }) (va_Pc [.ref h0, .int sb] (Pw G sz [(h0, .inr (2, [.int li, .long me, .long mi]))])) (QW G none [(h0, .inr (2, [.int li, .long me, .long mi]))] [(h0, .inr (2, [.int sb, .long (foZ sb li me), .long (foZ sb li mi)]))] sz) 0 0 (va_A [(h0, .inr (2, [.int li, .long me, .long mi]))] sz) := by
  refine Met.ofW (cc := b_LAMP_follow) (maxL := 2) (ret := none) (by decide) rfl ?_
  intro p e s m args below meth c s₁ B hml hv
  obtain ⟨rfl, hsz, hP, hGK, hD0⟩ := hv
  have hx := B.exec
  have hb := B.bytes
  have hr := B.returns
  have hts := atoms_spec (ws := w_LAMP_follow) B.pre
  have hT : ∀ w ∈ lwG, w.before _ s = true := fun w h => hts w (List.mem_cons_of_mem _ h)
  have hown : s.vm.findClass R_LAMP = some m.cls := findClass_of_methodNamed B.named
  have hlocks := B.notSynchronized
  have hK := hGK.1
  have hN := hGK.2
  subst hsz
  have hD := hD0.self (sz := s.heap.size)
  generalize hAe : va_A [(h0, .inr (2, [.int li, .long me, .long mi]))] s.heap.size = A at hD ⊢
  have hA : ∀ q : Nat, s.heap.size ≤ q → A q := fun q h => by rw [← hAe]; exact Or.inr h
  have hS : va_S A s.heap s.heap [] := va_S.rf
  have hP : va_P G.1 vwCl [(h0, .inr (2, [.int li, .long me, .long mi]))] s.heap := hP
  have hl := lv_entry ([.ref h0, .int sb]) (n := 2) (Nat.le_of_ble_eq_true rfl)
  rw [lg_entry_eq]
  generalize (lg_sl ([.ref h0, .int sb]) ++ List.replicate (2 - (lg_sl ([.ref h0, .int sb])).length) Slot.unset).toArray = ls at hl ⊢
  have hl : lv_has ls 2 [(0, .ref h0), (1, .int sb)] := hl
  refine lv_iload_n hx hb d_LAMP_follow_0 rfl (lv_at hl 1 rfl) ?_
  refine lv_if_eq (tgt := 15) hx hb d_LAMP_follow_1 (by decide) (fun c_1 => ?_) (fun c_1 => ?_)
  · refine lv_aload_n hx hb d_LAMP_follow_15 rfl (lv_at hl 0 rfl) ?_
    refine lv_iload_n hx hb d_LAMP_follow_16 rfl (lv_at hl 1 rfl) ?_
    refine va_put (D := G.1) (ci := 2) (v := .int sb) (ty := .boolean) (C := R_LAMP) (T := T_LAMP) (N := 3) hx hb hT in_LAMP t_LAMP tok_LAMP nok_LAMP hown hK hP hD hS 0 rfl rfl 0 (by decide) (hT _ wd_105) (fun _ h9 => h9) rfl (by decide +kernel) (bz.n (by assumption)) (bz.f (by assumption)) (Nat.le_of_ble_eq_true rfl) d_LAMP_follow_17 (fun H locs hP hD hS => ?_)
    have hP : va_P G.1 vwCl [(h0, .inr (2, [.int sb, .long me, .long mi]))] H := hP
    have hD : va_D A [(h0, .inr (2, [.int sb, .long me, .long mi]))] := hD
    have hw9 : ([(h0, .inr (2, [.int sb, .long (foZ sb li me), .long (foZ sb li mi)]))] : va_W) = [(h0, .inr (2, [.int sb, .long me, .long mi]))] := by first | (simp [foZ, c_1]; done) | (simp_all [foZ]; done)
    rw [← hw9] at hP hD
    exact W.vret hx hb hr (fun t ht hW => ⟨⟨rfl, by rw [ht]; exact hP, by rw [hAe]; exact hD⟩, by rw [hAe]; exact hS.F ht⟩) hS.2.2 d_LAMP_follow_20
  · refine lv_aload_n hx hb d_LAMP_follow_4 rfl (lv_at hl 0 rfl) ?_
    refine va_get (D := G.1) (ci := 2) (v := .int li) (C := R_LAMP) (T := T_LAMP) (N := 3) hx hb hT in_LAMP hown hK hP 0 rfl rfl 0 (by decide) (hT _ wd_105) (fun _ h9 => h9) rfl d_LAMP_follow_5 ?_
    refine lv_if_ne (tgt := 15) hx hb d_LAMP_follow_8 (by decide) (fun c_8 => ?_) (fun c_8 => ?_)
    · refine lv_aload_n hx hb d_LAMP_follow_15 rfl (lv_at hl 0 rfl) ?_
      refine lv_iload_n hx hb d_LAMP_follow_16 rfl (lv_at hl 1 rfl) ?_
      refine va_put (D := G.1) (ci := 2) (v := .int sb) (ty := .boolean) (C := R_LAMP) (T := T_LAMP) (N := 3) hx hb hT in_LAMP t_LAMP tok_LAMP nok_LAMP hown hK hP hD hS 0 rfl rfl 0 (by decide) (hT _ wd_105) (fun _ h9 => h9) rfl (by decide +kernel) (bz.n (by assumption)) (bz.f (by assumption)) (Nat.le_of_ble_eq_true rfl) d_LAMP_follow_17 (fun H locs hP hD hS => ?_)
      have hP : va_P G.1 vwCl [(h0, .inr (2, [.int sb, .long me, .long mi]))] H := hP
      have hD : va_D A [(h0, .inr (2, [.int sb, .long me, .long mi]))] := hD
      have hw9 : ([(h0, .inr (2, [.int sb, .long (foZ sb li me), .long (foZ sb li mi)]))] : va_W) = [(h0, .inr (2, [.int sb, .long me, .long mi]))] := by first | (simp [foZ, c_1, c_8]; done) | (simp_all [foZ]; done)
      rw [← hw9] at hP hD
      exact W.vret hx hb hr (fun t ht hW => ⟨⟨rfl, by rw [ht]; exact hP, by rw [hAe]; exact hD⟩, by rw [hAe]; exact hS.F ht⟩) hS.2.2 d_LAMP_follow_20
    · refine lv_aload_n hx hb d_LAMP_follow_11 rfl (lv_at hl 0 rfl) ?_
      have hPc := hP.sub (ws' := [(h0, .inr (2, [.int li, .long me, .long mi]))]) [0] rfl
      have hDc := hD.sub (ws' := [(h0, .inr (2, [.int li, .long me, .long mi]))]) [0] (by decide) rfl
      refine bx_callKv [0] (va_runV (As := []) (rest := []) ⟨hx, hb, hml, hown, hts⟩ (c_Lamp_reset l G s.heap.size h0 li me mi) ⟨(callB_of 0 hts (gi_all wd_315) rfl rfl rfl (hT _ wd_49) (hT _ wd_312) (by decide +kernel) ⟨Nat.le_of_ble_eq_true rfl, Nat.le_of_ble_eq_true rfl⟩), (hT _ wd_314), (hT _ wd_13)⟩ (pvW hPc hGK hDc (va_recv hK hPc (ci := 2) (q0 := 0) rfl rfl)) rfl rfl hl.1 rfl (lv_room (Nat.le_of_ble_eq_true rfl)) d_LAMP_follow_12 ⟨Nat.le_of_ble_eq_true rfl, Nat.le_of_ble_eq_true rfl⟩) hP hD hS hA rfl rfl rfl (fun H locs hP hD hS => ?_)
      have hP : va_P G.1 vwCl [(h0, .inr (2, [.int 0, .long 0, .long 0]))] H := hP
      have hD : va_D A [(h0, .inr (2, [.int 0, .long 0, .long 0]))] := hD
      refine lv_aload_n hx hb d_LAMP_follow_15 rfl (lv_at hl 0 rfl) ?_
      refine lv_iload_n hx hb d_LAMP_follow_16 rfl (lv_at hl 1 rfl) ?_
      refine va_put (D := G.1) (ci := 2) (v := .int sb) (ty := .boolean) (C := R_LAMP) (T := T_LAMP) (N := 3) hx hb hT in_LAMP t_LAMP tok_LAMP nok_LAMP hown hK hP hD hS 0 rfl rfl 0 (by decide) (hT _ wd_105) (fun _ h9 => h9) rfl (by decide +kernel) (bz.n (by assumption)) (bz.f (by assumption)) (Nat.le_of_ble_eq_true rfl) d_LAMP_follow_17 (fun H locs hP hD hS => ?_)
      have hP : va_P G.1 vwCl [(h0, .inr (2, [.int sb, .long 0, .long 0]))] H := hP
      have hD : va_D A [(h0, .inr (2, [.int sb, .long 0, .long 0]))] := hD
      have hw9 : ([(h0, .inr (2, [.int sb, .long (foZ sb li me), .long (foZ sb li mi)]))] : va_W) = [(h0, .inr (2, [.int sb, .long 0, .long 0]))] := by first | (simp [foZ, c_1, c_8]; done) | (simp_all [foZ]; done)
      rw [← hw9] at hP hD
      exact W.vret hx hb hr (fun t ht hW => ⟨⟨rfl, by rw [ht]; exact hP, by rw [hAe]; exact hD⟩, by rw [hAe]; exact hS.F ht⟩) hS.2.2 d_LAMP_follow_20
set_option maxHeartbeats 4000000 in
set_option maxRecDepth 100000 in
theorem c_goOn (l : Launch) (G : GG) (sz : Nat) (h0 : Nat) (li : Int32) (me : Int64) (mi : Int64) (xm : Int64) (xi : Int64) (hli : bz li) : Met l y_LAMP_goOn w_LAMP_goOn ({ frames := 0, cells := 0, slots := 0, locals := 0 }) (va_Pc [.ref h0, .long xm, .long xi] (Pw G sz [(h0, .inr (2, [.int li, .long me, .long mi]))])) (QW G (some (.int li)) [(h0, .inr (2, [.int li, .long me, .long mi]))] [(h0, .inr (2, [.int li, .long (goM li me xm), .long (goM li mi xi)]))] sz) 0 0 (va_A [(h0, .inr (2, [.int li, .long me, .long mi]))] sz) := by
  refine Met.ofW (cc := b_LAMP_goOn) (maxL := 5) (ret := (some .boolean)) (by decide) rfl ?_
  intro p e s m args below meth c s₁ B hml hv
  obtain ⟨rfl, hsz, hP, hGK, hD0⟩ := hv
  have hx := B.exec
  have hb := B.bytes
  have hr := B.returns
  have hts := atoms_spec (ws := w_LAMP_goOn) B.pre
  have hT : ∀ w ∈ lwG, w.before _ s = true := fun w h => hts w (List.mem_cons_of_mem _ h)
  have hown : s.vm.findClass R_LAMP = some m.cls := findClass_of_methodNamed B.named
  have hlocks := B.notSynchronized
  have hK := hGK.1
  have hN := hGK.2
  subst hsz
  have hD := hD0.self (sz := s.heap.size)
  generalize hAe : va_A [(h0, .inr (2, [.int li, .long me, .long mi]))] s.heap.size = A at hD ⊢
  have hA : ∀ q : Nat, s.heap.size ≤ q → A q := fun q h => by rw [← hAe]; exact Or.inr h
  have hS : va_S A s.heap s.heap [] := va_S.rf
  have hP : va_P G.1 vwCl [(h0, .inr (2, [.int li, .long me, .long mi]))] s.heap := hP
  have hl := lv_entry ([.ref h0, .long xm, .long xi]) (n := 5) (Nat.le_of_ble_eq_true rfl)
  rw [lg_entry_eq]
  generalize (lg_sl ([.ref h0, .long xm, .long xi]) ++ List.replicate (5 - (lg_sl ([.ref h0, .long xm, .long xi])).length) Slot.unset).toArray = ls at hl ⊢
  have hl : lv_has ls 5 [(0, .ref h0), (1, .long xm), (3, .long xi)] := hl
  refine lv_aload_n hx hb d_LAMP_goOn_0 rfl (lv_at hl 0 rfl) ?_
  refine va_get (D := G.1) (ci := 2) (v := .int li) (C := R_LAMP) (T := T_LAMP) (N := 3) hx hb hT in_LAMP hown hK hP 0 rfl rfl 0 (by decide) (hT _ wd_105) (fun _ h9 => h9) rfl d_LAMP_goOn_1 ?_
  refine lv_if_eq (tgt := 27) hx hb d_LAMP_goOn_4 (by decide) (fun c_4 => ?_) (fun c_4 => ?_)
  · refine lv_aload_n hx hb d_LAMP_goOn_27 rfl (lv_at hl 0 rfl) ?_
    refine va_get (D := G.1) (ci := 2) (v := .int li) (C := R_LAMP) (T := T_LAMP) (N := 3) hx hb hT in_LAMP hown hK hP 0 rfl rfl 0 (by decide) (hT _ wd_105) (fun _ h9 => h9) rfl d_LAMP_goOn_28 ?_
    have hw9 : ([(h0, .inr (2, [.int li, .long (goM li me xm), .long (goM li mi xi)]))] : va_W) = [(h0, .inr (2, [.int li, .long me, .long mi]))] := by first | (simp [goM, c_4]; done) | (simp_all [goM]; done)
    rw [← hw9] at hP hD
    exact W.zret (v := li) hx hb hr (bz.n (by assumption)) (fun t ht hW => ⟨⟨rfl, by rw [ht]; exact hP, by rw [hAe]; exact hD⟩, by rw [hAe]; exact hS.F ht⟩) hS.2.2 d_LAMP_goOn_31
  · refine lv_aload_n hx hb d_LAMP_goOn_7 rfl (lv_at hl 0 rfl) ?_
    refine lv_dup hx hb d_LAMP_goOn_8 rfl ?_
    refine va_get (D := G.1) (ci := 2) (v := .long me) (C := R_LAMP) (T := T_LAMP) (N := 3) hx hb hT in_LAMP hown hK hP 0 rfl rfl 1 (by decide) (hT _ wd_107) (fun _ h9 => h9) rfl d_LAMP_goOn_9 ?_
    refine lv_lload_n hx hb d_LAMP_goOn_12 rfl (lv_at hl 1 rfl) ?_
    refine lv_ladd hx hb d_LAMP_goOn_13 ?_
    refine va_put (D := G.1) (ci := 2) (v := .long (me + xm)) (ty := .long) (C := R_LAMP) (T := T_LAMP) (N := 3) hx hb hT in_LAMP t_LAMP tok_LAMP nok_LAMP hown hK hP hD hS 0 rfl rfl 1 (by decide) (hT _ wd_107) (fun _ h9 => h9) rfl (by decide +kernel) rfl rfl (Nat.le_of_ble_eq_true rfl) d_LAMP_goOn_14 (fun H locs hP hD hS => ?_)
    have hP : va_P G.1 vwCl [(h0, .inr (2, [.int li, .long (me + xm), .long mi]))] H := hP
    have hD : va_D A [(h0, .inr (2, [.int li, .long (me + xm), .long mi]))] := hD
    refine lv_aload_n hx hb d_LAMP_goOn_17 rfl (lv_at hl 0 rfl) ?_
    refine lv_dup hx hb d_LAMP_goOn_18 rfl ?_
    refine va_get (D := G.1) (ci := 2) (v := .long mi) (C := R_LAMP) (T := T_LAMP) (N := 3) hx hb hT in_LAMP hown hK hP 0 rfl rfl 2 (by decide) (hT _ wd_109) (fun _ h9 => h9) rfl d_LAMP_goOn_19 ?_
    refine lv_lload_n hx hb d_LAMP_goOn_22 rfl (lv_at hl 2 rfl) ?_
    refine lv_ladd hx hb d_LAMP_goOn_23 ?_
    refine va_put (D := G.1) (ci := 2) (v := .long (mi + xi)) (ty := .long) (C := R_LAMP) (T := T_LAMP) (N := 3) hx hb hT in_LAMP t_LAMP tok_LAMP nok_LAMP hown hK hP hD hS 0 rfl rfl 2 (by decide) (hT _ wd_109) (fun _ h9 => h9) rfl (by decide +kernel) rfl rfl (Nat.le_of_ble_eq_true rfl) d_LAMP_goOn_24 (fun H locs hP hD hS => ?_)
    have hP : va_P G.1 vwCl [(h0, .inr (2, [.int li, .long (me + xm), .long (mi + xi)]))] H := hP
    have hD : va_D A [(h0, .inr (2, [.int li, .long (me + xm), .long (mi + xi)]))] := hD
    refine lv_aload_n hx hb d_LAMP_goOn_27 rfl (lv_at hl 0 rfl) ?_
    refine va_get (D := G.1) (ci := 2) (v := .int li) (C := R_LAMP) (T := T_LAMP) (N := 3) hx hb hT in_LAMP hown hK hP 0 rfl rfl 0 (by decide) (hT _ wd_105) (fun _ h9 => h9) rfl d_LAMP_goOn_28 ?_
    have hw9 : ([(h0, .inr (2, [.int li, .long (goM li me xm), .long (goM li mi xi)]))] : va_W) = [(h0, .inr (2, [.int li, .long (me + xm), .long (mi + xi)]))] := by first | (simp [goM, c_4]; done) | (simp_all [goM]; done)
    rw [← hw9] at hP hD
    exact W.zret (v := li) hx hb hr (bz.n (by assumption)) (fun t ht hW => ⟨⟨rfl, by rw [ht]; exact hP, by rw [hAe]; exact hD⟩, by rw [hAe]; exact hS.F ht⟩) hS.2.2 d_LAMP_goOn_31
