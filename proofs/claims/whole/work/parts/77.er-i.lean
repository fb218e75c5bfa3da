set_option maxHeartbeats 4000000 in
set_option maxRecDepth 100000 in
theorem c_ER_init (l : Launch) (G : GG) (sz : Nat) (e0 mi0 : Nat) (x0 : Nat)  : Met l y_ER_init w_ER_init ({ frames := 4, cells := 5, slots := 52, locals := 72 }) (va_Pc [.ref x0] (PwX G sz e0 mi0 ([] : List Nat) [(x0, .inr (0, [.null, .null, .null, .null, .int 0]))])) (QA (S := Nat × Nat × Nat × Nat × Nat) G (fun _ => none) [(x0, .inr (0, [.null, .null, .null, .null, .int 0]))] (fun u => [(x0, .inr (0, [.ref u.1, .ref u.2.1, .ref u.2.2.1, .ref u.2.2.2.1, .int 0])), (u.1, .inr (1, [.int 0, .ref e0, .int 0])), (u.2.1, .inr (1, [.int 0, .ref e0, .int 0])), (u.2.2.1, .inr (2, [.int 0, .long 0, .long 0])), (u.2.2.2.1, .inr (3, [.ref u.2.2.2.2, .int 0])), (u.2.2.2.2, .inl (G.2 1, 41, .inl (fun _ => 0)))]) (fun _ => True) sz) 5 52 (va_A [(x0, .inr (0, [.null, .null, .null, .null, .int 0]))] sz) := by
  refine Met.ofW (cc := b_ER_init) (maxL := 1) (ret := none) (by decide) rfl ?_
  intro p e s m args below meth c s₁ B hml hv
  obtain ⟨rfl, ⟨hsz, hP, hGK, hD0⟩, hX⟩ := hv
  have hx := B.exec
  have hb := B.bytes
  have hr := B.returns
  have hts := atoms_spec (ws := w_ER_init) B.pre
  have hT : ∀ w ∈ lwG, w.before _ s = true := fun w h => hts w (List.mem_cons_of_mem _ h)
  have hown : s.vm.findClass R_ER = some m.cls := findClass_of_methodNamed B.named
  have hlocks := B.notSynchronized
  have hK := hGK.1
  have hN := hGK.2
  have hin : meth.name = "<init>" := (name_of_methodNamed B.named B.method).1
  subst hsz
  have hD := hD0.self (sz := s.heap.size)
  generalize hAe : va_A [(x0, .inr (0, [.null, .null, .null, .null, .int 0]))] s.heap.size = A at hD hX ⊢
  have hA : ∀ q : Nat, s.heap.size ≤ q → A q := fun q h => by rw [← hAe]; exact Or.inr h
  have hS : va_S A s.heap s.heap [] := va_S.rf
  have hP : va_P G.1 vwCl [(x0, .inr (0, [.null, .null, .null, .null, .int 0]))] s.heap := hP
  have hl := lv_entry ([.ref x0]) (n := 1) (Nat.le_of_ble_eq_true rfl)
  rw [lg_entry_eq]
  generalize (lg_sl ([.ref x0]) ++ List.replicate (1 - (lg_sl ([.ref x0])).length) Slot.unset).toArray = ls at hl ⊢
  have hl : lv_has ls 1 [(0, .ref x0)] := hl
  refine lv_aload_n hx hb d_ER_init_0 rfl (lv_at hl 0 rfl) ?_
  refine W.objInit hx hb hown (hT _ wd_70) (hT _ wd_71) (hT _ wd_72) rfl (by rw [hml]; exact hl.1) rfl d_ER_init_1 (Nat.le_of_ble_eq_true rfl) (Nat.le_of_ble_eq_true rfl) ?_
  refine W.eq (g2 := F0 m 4 ls []) rfl ?_
  refine lv_aload_n hx hb d_ER_init_4 rfl (lv_at hl 0 rfl) ?_
  refine va_new (ci := 1) (fs := [.int 0, .null, .int 0]) (C := R_AL) (T := T_AL) (N := 3) hx hb hT in_AL t_AL tok_AL hown (hT _ wd_73) (hT _ wd_74) (hT _ wd_48) hK hP hD hS hA rfl (fun j hj => by rcases (show j = 0 ∨ j = 1 ∨ j = 2 by omega) with rfl | rfl | rfl <;> rfl) (Nat.le_of_ble_eq_true rfl) (Nat.le_of_ble_eq_true rfl) d_ER_init_5 (fun q_5 H hP hD hS => ?_)
  have hP : va_P G.1 vwCl [(x0, .inr (0, [.null, .null, .null, .null, .int 0])), (q_5, .inr (1, [.int 0, .null, .int 0]))] H := hP
  have hD : va_D A [(x0, .inr (0, [.null, .null, .null, .null, .int 0])), (q_5, .inr (1, [.int 0, .null, .int 0]))] := hD
  refine lv_dup hx hb d_ER_init_8 rfl ?_
  have hpm : ([(x0, .inr (0, [.null, .null, .null, .null, .int 0])), (q_5, .inr (1, [.int 0, .null, .int 0]))] : va_W).Perm ([(q_5, .inr (1, [.int 0, .null, .int 0]))] ++ [(x0, .inr (0, [.null, .null, .null, .null, .int 0]))]) := List.Perm.swap _ _ _
  have hPc := bx_PR hpm hP
  have hDc := bx_DR hpm hD
  have hXc := bx_XA hX hpm hP hD hS hA [] (fun y hy => absurd hy List.not_mem_nil)
  refine bx_callA (va_runI (As := []) (rest := [.ref q_5, .ref x0]) ⟨hx, hb, hml, hown, hts⟩ (c_AL_init l G H.size e0 mi0 q_5 0 0) ⟨(callB_of 0 hts (gi_all wd_77) rfl rfl rfl (hT _ wd_48) (hT _ wd_75) (by decide +kernel) ⟨Nat.le_of_ble_eq_true rfl, Nat.le_of_ble_eq_true rfl⟩), rfl, (hT _ wd_76)⟩ (psX hPc hGK hDc hXc) rfl rfl hl.1 rfl (lv_room (Nat.le_of_ble_eq_true rfl)) d_ER_init_9 ⟨Nat.le_of_ble_eq_true rfl, Nat.le_of_ble_eq_true rfl⟩) hpm hP hD hS hA (fun u9 H locs hu hP hD hS => ?_)
  have hP : va_P G.1 vwCl [(q_5, .inr (1, [.int 0, .ref e0, .int 0])), (x0, .inr (0, [.null, .null, .null, .null, .int 0]))] H := hP
  have hD : va_D A [(q_5, .inr (1, [.int 0, .ref e0, .int 0])), (x0, .inr (0, [.null, .null, .null, .null, .int 0]))] := hD
  refine W.eq (g2 := F0 m 12 ls [.ref q_5, .ref x0]) rfl ?_
  refine va_putF (D := G.1) (ci := 0) (v := .ref q_5) (ty := .object "java/util/ArrayList") (C := R_ER) (T := T_ER) (N := 5) hx hb hT in_ER t_ER tok_ER nok_ER hown hK hP hD hS 1 rfl rfl 0 (by decide) (hT _ wd_134) (fun _ h9 => h9) rfl hin rfl (by decide +kernel) rfl rfl (Nat.le_of_ble_eq_true rfl) d_ER_init_12 (fun H locs hP hD hS => ?_)
  have hP : va_P G.1 vwCl [(q_5, .inr (1, [.int 0, .ref e0, .int 0])), (x0, .inr (0, [.ref q_5, .null, .null, .null, .int 0]))] H := hP
  have hD : va_D A [(q_5, .inr (1, [.int 0, .ref e0, .int 0])), (x0, .inr (0, [.ref q_5, .null, .null, .null, .int 0]))] := hD
  refine lv_aload_n hx hb d_ER_init_15 rfl (lv_at hl 0 rfl) ?_
  refine va_new (ci := 1) (fs := [.int 0, .null, .int 0]) (C := R_AL) (T := T_AL) (N := 3) hx hb hT in_AL t_AL tok_AL hown (hT _ wd_73) (hT _ wd_74) (hT _ wd_48) hK hP hD hS hA rfl (fun j hj => by rcases (show j = 0 ∨ j = 1 ∨ j = 2 by omega) with rfl | rfl | rfl <;> rfl) (Nat.le_of_ble_eq_true rfl) (Nat.le_of_ble_eq_true rfl) d_ER_init_16 (fun q_16 H hP hD hS => ?_)
  have hP : va_P G.1 vwCl [(q_5, .inr (1, [.int 0, .ref e0, .int 0])), (x0, .inr (0, [.ref q_5, .null, .null, .null, .int 0])), (q_16, .inr (1, [.int 0, .null, .int 0]))] H := hP
  have hD : va_D A [(q_5, .inr (1, [.int 0, .ref e0, .int 0])), (x0, .inr (0, [.ref q_5, .null, .null, .null, .int 0])), (q_16, .inr (1, [.int 0, .null, .int 0]))] := hD
  refine lv_dup hx hb d_ER_init_19 rfl ?_
  have hpm : ([(q_5, .inr (1, [.int 0, .ref e0, .int 0])), (x0, .inr (0, [.ref q_5, .null, .null, .null, .int 0])), (q_16, .inr (1, [.int 0, .null, .int 0]))] : va_W).Perm ([(q_16, .inr (1, [.int 0, .null, .int 0]))] ++ [(q_5, .inr (1, [.int 0, .ref e0, .int 0])), (x0, .inr (0, [.ref q_5, .null, .null, .null, .int 0]))]) := bx_p3
  have hPc := bx_PR hpm hP
  have hDc := bx_DR hpm hD
  have hXc := bx_XA hX hpm hP hD hS hA [] (fun y hy => absurd hy List.not_mem_nil)
  refine bx_callA (va_runI (As := []) (rest := [.ref q_16, .ref x0]) ⟨hx, hb, hml, hown, hts⟩ (c_AL_init l G H.size e0 mi0 q_16 0 0) ⟨(callB_of 0 hts (gi_all wd_77) rfl rfl rfl (hT _ wd_48) (hT _ wd_75) (by decide +kernel) ⟨Nat.le_of_ble_eq_true rfl, Nat.le_of_ble_eq_true rfl⟩), rfl, (hT _ wd_76)⟩ (psX hPc hGK hDc hXc) rfl rfl hl.1 rfl (lv_room (Nat.le_of_ble_eq_true rfl)) d_ER_init_20 ⟨Nat.le_of_ble_eq_true rfl, Nat.le_of_ble_eq_true rfl⟩) hpm hP hD hS hA (fun u20 H locs hu hP hD hS => ?_)
  have hP : va_P G.1 vwCl [(q_16, .inr (1, [.int 0, .ref e0, .int 0])), (q_5, .inr (1, [.int 0, .ref e0, .int 0])), (x0, .inr (0, [.ref q_5, .null, .null, .null, .int 0]))] H := hP
  have hD : va_D A [(q_16, .inr (1, [.int 0, .ref e0, .int 0])), (q_5, .inr (1, [.int 0, .ref e0, .int 0])), (x0, .inr (0, [.ref q_5, .null, .null, .null, .int 0]))] := hD
  refine W.eq (g2 := F0 m 23 ls [.ref q_16, .ref x0]) rfl ?_
  refine va_putF (D := G.1) (ci := 0) (v := .ref q_16) (ty := .object "java/util/ArrayList") (C := R_ER) (T := T_ER) (N := 5) hx hb hT in_ER t_ER tok_ER nok_ER hown hK hP hD hS 2 rfl rfl 1 (by decide) (hT _ wd_135) (fun _ h9 => h9) rfl hin rfl (by decide +kernel) rfl rfl (Nat.le_of_ble_eq_true rfl) d_ER_init_23 (fun H locs hP hD hS => ?_)
  have hP : va_P G.1 vwCl [(q_16, .inr (1, [.int 0, .ref e0, .int 0])), (q_5, .inr (1, [.int 0, .ref e0, .int 0])), (x0, .inr (0, [.ref q_5, .ref q_16, .null, .null, .int 0]))] H := hP
  have hD : va_D A [(q_16, .inr (1, [.int 0, .ref e0, .int 0])), (q_5, .inr (1, [.int 0, .ref e0, .int 0])), (x0, .inr (0, [.ref q_5, .ref q_16, .null, .null, .int 0]))] := hD
  refine lv_aload_n hx hb d_ER_init_26 rfl (lv_at hl 0 rfl) ?_
  refine va_new (ci := 2) (fs := [.int 0, .long 0, .long 0]) (C := R_LAMP) (T := T_LAMP) (N := 3) hx hb hT in_LAMP t_LAMP tok_LAMP hown (hT _ wd_99) (hT _ wd_100) (hT _ wd_49) hK hP hD hS hA rfl (fun j hj => by rcases (show j = 0 ∨ j = 1 ∨ j = 2 by omega) with rfl | rfl | rfl <;> rfl) (Nat.le_of_ble_eq_true rfl) (Nat.le_of_ble_eq_true rfl) d_ER_init_27 (fun q_27 H hP hD hS => ?_)
  have hP : va_P G.1 vwCl [(q_16, .inr (1, [.int 0, .ref e0, .int 0])), (q_5, .inr (1, [.int 0, .ref e0, .int 0])), (x0, .inr (0, [.ref q_5, .ref q_16, .null, .null, .int 0])), (q_27, .inr (2, [.int 0, .long 0, .long 0]))] H := hP
  have hD : va_D A [(q_16, .inr (1, [.int 0, .ref e0, .int 0])), (q_5, .inr (1, [.int 0, .ref e0, .int 0])), (x0, .inr (0, [.ref q_5, .ref q_16, .null, .null, .int 0])), (q_27, .inr (2, [.int 0, .long 0, .long 0]))] := hD
  refine lv_dup hx hb d_ER_init_30 rfl ?_
  have hPc := hP.sub (ws' := [(q_27, .inr (2, [.int 0, .long 0, .long 0]))]) [3] rfl
  have hDc := hD.sub (ws' := [(q_27, .inr (2, [.int 0, .long 0, .long 0]))]) [3] (by decide) rfl
  refine bx_callKv [3] (va_runIN (As := []) (rest := [.ref q_27, .ref x0]) ⟨hx, hb, hml, hown, hts⟩ (c_Lamp_init l G H.size q_27 0 0 0) ⟨(va_cnB 0 hts (gi_all wd_103) rfl rfl rfl (hN (.methodLinkNest "EmissionRows" 21 ⟨"EmissionRows$Lamp", "<init>", "()V"⟩ "EmissionRows") nw_101) (hT _ wd_49) (by decide +kernel) ⟨Nat.le_of_ble_eq_true rfl, Nat.le_of_ble_eq_true rfl⟩), rfl, (hT _ wd_102)⟩ (psW hPc hGK hDc) rfl rfl hl.1 rfl (lv_room (Nat.le_of_ble_eq_true rfl)) d_ER_init_31 ⟨Nat.le_of_ble_eq_true rfl, Nat.le_of_ble_eq_true rfl⟩) hP hD hS hA rfl rfl rfl (fun H locs hP hD hS => ?_)
  have hP : va_P G.1 vwCl [(q_16, .inr (1, [.int 0, .ref e0, .int 0])), (q_5, .inr (1, [.int 0, .ref e0, .int 0])), (x0, .inr (0, [.ref q_5, .ref q_16, .null, .null, .int 0])), (q_27, .inr (2, [.int 0, .long 0, .long 0]))] H := hP
  have hD : va_D A [(q_16, .inr (1, [.int 0, .ref e0, .int 0])), (q_5, .inr (1, [.int 0, .ref e0, .int 0])), (x0, .inr (0, [.ref q_5, .ref q_16, .null, .null, .int 0])), (q_27, .inr (2, [.int 0, .long 0, .long 0]))] := hD
  refine va_putF (D := G.1) (ci := 0) (v := .ref q_27) (ty := .object "EmissionRows$Lamp") (C := R_ER) (T := T_ER) (N := 5) hx hb hT in_ER t_ER tok_ER nok_ER hown hK hP hD hS 2 rfl rfl 2 (by decide) (hT _ wd_136) (fun _ h9 => h9) rfl hin rfl (by decide +kernel) rfl rfl (Nat.le_of_ble_eq_true rfl) d_ER_init_34 (fun H locs hP hD hS => ?_)
  have hP : va_P G.1 vwCl [(q_16, .inr (1, [.int 0, .ref e0, .int 0])), (q_5, .inr (1, [.int 0, .ref e0, .int 0])), (x0, .inr (0, [.ref q_5, .ref q_16, .ref q_27, .null, .int 0])), (q_27, .inr (2, [.int 0, .long 0, .long 0]))] H := hP
  have hD : va_D A [(q_16, .inr (1, [.int 0, .ref e0, .int 0])), (q_5, .inr (1, [.int 0, .ref e0, .int 0])), (x0, .inr (0, [.ref q_5, .ref q_16, .ref q_27, .null, .int 0])), (q_27, .inr (2, [.int 0, .long 0, .long 0]))] := hD
  refine lv_aload_n hx hb d_ER_init_37 rfl (lv_at hl 0 rfl) ?_
  refine va_new (ci := 3) (fs := [.null, .int 0]) (C := R_OCT) (T := T_OCT) (N := 2) hx hb hT in_OCT t_OCT tok_OCT hown (hT _ wd_118) (hT _ wd_119) (hT _ wd_50) hK hP hD hS hA rfl (fun j hj => by rcases (show j = 0 ∨ j = 1 by omega) with rfl | rfl <;> rfl) (Nat.le_of_ble_eq_true rfl) (Nat.le_of_ble_eq_true rfl) d_ER_init_38 (fun q_38 H hP hD hS => ?_)
  have hP : va_P G.1 vwCl [(q_16, .inr (1, [.int 0, .ref e0, .int 0])), (q_5, .inr (1, [.int 0, .ref e0, .int 0])), (x0, .inr (0, [.ref q_5, .ref q_16, .ref q_27, .null, .int 0])), (q_27, .inr (2, [.int 0, .long 0, .long 0])), (q_38, .inr (3, [.null, .int 0]))] H := hP
  have hD : va_D A [(q_16, .inr (1, [.int 0, .ref e0, .int 0])), (q_5, .inr (1, [.int 0, .ref e0, .int 0])), (x0, .inr (0, [.ref q_5, .ref q_16, .ref q_27, .null, .int 0])), (q_27, .inr (2, [.int 0, .long 0, .long 0])), (q_38, .inr (3, [.null, .int 0]))] := hD
  refine lv_dup hx hb d_ER_init_41 rfl ?_
  have hpm : ([(q_16, .inr (1, [.int 0, .ref e0, .int 0])), (q_5, .inr (1, [.int 0, .ref e0, .int 0])), (x0, .inr (0, [.ref q_5, .ref q_16, .ref q_27, .null, .int 0])), (q_27, .inr (2, [.int 0, .long 0, .long 0])), (q_38, .inr (3, [.null, .int 0]))] : va_W).Perm ([(q_38, .inr (3, [.null, .int 0]))] ++ [(q_16, .inr (1, [.int 0, .ref e0, .int 0])), (q_5, .inr (1, [.int 0, .ref e0, .int 0])), (x0, .inr (0, [.ref q_5, .ref q_16, .ref q_27, .null, .int 0])), (q_27, .inr (2, [.int 0, .long 0, .long 0]))]) := bx_p5
  have hPc := bx_PR hpm hP
  have hDc := bx_DR hpm hD
  refine bx_callA (va_runIN (As := []) (rest := [.ref q_38, .ref x0]) ⟨hx, hb, hml, hown, hts⟩ (c_Octets_init l G H.size q_38 0) ⟨(va_cnB 0 hts (gi_all wd_122) rfl rfl rfl (hN (.methodLinkNest "EmissionRows" 28 ⟨"EmissionRows$Octets", "<init>", "()V"⟩ "EmissionRows") nw_120) (hT _ wd_50) (by decide +kernel) ⟨Nat.le_of_ble_eq_true rfl, Nat.le_of_ble_eq_true rfl⟩), rfl, (hT _ wd_121)⟩ (psW hPc hGK hDc) rfl rfl hl.1 rfl (lv_room (Nat.le_of_ble_eq_true rfl)) d_ER_init_42 ⟨Nat.le_of_ble_eq_true rfl, Nat.le_of_ble_eq_true rfl⟩) hpm hP hD hS hA (fun u42 H locs hu hP hD hS => ?_)
  have hP : va_P G.1 vwCl [(q_38, .inr (3, [.ref u42, .int 0])), (u42, .inl (G.2 1, 41, .inl (fun _ => 0))), (q_16, .inr (1, [.int 0, .ref e0, .int 0])), (q_5, .inr (1, [.int 0, .ref e0, .int 0])), (x0, .inr (0, [.ref q_5, .ref q_16, .ref q_27, .null, .int 0])), (q_27, .inr (2, [.int 0, .long 0, .long 0]))] H := hP
  have hD : va_D A [(q_38, .inr (3, [.ref u42, .int 0])), (u42, .inl (G.2 1, 41, .inl (fun _ => 0))), (q_16, .inr (1, [.int 0, .ref e0, .int 0])), (q_5, .inr (1, [.int 0, .ref e0, .int 0])), (x0, .inr (0, [.ref q_5, .ref q_16, .ref q_27, .null, .int 0])), (q_27, .inr (2, [.int 0, .long 0, .long 0]))] := hD
  refine W.eq (g2 := F0 m 45 ls [.ref q_38, .ref x0]) rfl ?_
  refine va_putF (D := G.1) (ci := 0) (v := .ref q_38) (ty := .object "EmissionRows$Octets") (C := R_ER) (T := T_ER) (N := 5) hx hb hT in_ER t_ER tok_ER nok_ER hown hK hP hD hS 4 rfl rfl 3 (by decide) (hT _ wd_137) (fun _ h9 => h9) rfl hin rfl (by decide +kernel) rfl rfl (Nat.le_of_ble_eq_true rfl) d_ER_init_45 (fun H locs hP hD hS => ?_)
  have hP : va_P G.1 vwCl [(q_38, .inr (3, [.ref u42, .int 0])), (u42, .inl (G.2 1, 41, .inl (fun _ => 0))), (q_16, .inr (1, [.int 0, .ref e0, .int 0])), (q_5, .inr (1, [.int 0, .ref e0, .int 0])), (x0, .inr (0, [.ref q_5, .ref q_16, .ref q_27, .ref q_38, .int 0])), (q_27, .inr (2, [.int 0, .long 0, .long 0]))] H := hP
  have hD : va_D A [(q_38, .inr (3, [.ref u42, .int 0])), (u42, .inl (G.2 1, 41, .inl (fun _ => 0))), (q_16, .inr (1, [.int 0, .ref e0, .int 0])), (q_5, .inr (1, [.int 0, .ref e0, .int 0])), (x0, .inr (0, [.ref q_5, .ref q_16, .ref q_27, .ref q_38, .int 0])), (q_27, .inr (2, [.int 0, .long 0, .long 0]))] := hD
  refine lv_aload_n hx hb d_ER_init_48 rfl (lv_at hl 0 rfl) ?_
  refine lv_iconst (v := 0) hx hb d_ER_init_49 (by decide) ?_
  refine va_put (D := G.1) (ci := 0) (v := .int 0) (ty := .int) (C := R_ER) (T := T_ER) (N := 5) hx hb hT in_ER t_ER tok_ER nok_ER hown hK hP hD hS 4 rfl rfl 4 (by decide) (hT _ wd_138) (fun _ h9 => h9) rfl (by decide +kernel) rfl rfl (Nat.le_of_ble_eq_true rfl) d_ER_init_50 (fun H locs hP hD hS => ?_)
  have hP : va_P G.1 vwCl [(q_38, .inr (3, [.ref u42, .int 0])), (u42, .inl (G.2 1, 41, .inl (fun _ => 0))), (q_16, .inr (1, [.int 0, .ref e0, .int 0])), (q_5, .inr (1, [.int 0, .ref e0, .int 0])), (x0, .inr (0, [.ref q_5, .ref q_16, .ref q_27, .ref q_38, .int 0])), (q_27, .inr (2, [.int 0, .long 0, .long 0]))] H := hP
  have hD : va_D A [(q_38, .inr (3, [.ref u42, .int 0])), (u42, .inl (G.2 1, 41, .inl (fun _ => 0))), (q_16, .inr (1, [.int 0, .ref e0, .int 0])), (q_5, .inr (1, [.int 0, .ref e0, .int 0])), (x0, .inr (0, [.ref q_5, .ref q_16, .ref q_27, .ref q_38, .int 0])), (q_27, .inr (2, [.int 0, .long 0, .long 0]))] := hD
  have hP := hP.sub (ws' := [(x0, .inr (0, [.ref q_5, .ref q_16, .ref q_27, .ref q_38, .int 0])), (q_5, .inr (1, [.int 0, .ref e0, .int 0])), (q_16, .inr (1, [.int 0, .ref e0, .int 0])), (q_27, .inr (2, [.int 0, .long 0, .long 0])), (q_38, .inr (3, [.ref u42, .int 0])), (u42, .inl (G.2 1, 41, .inl (fun _ => 0)))]) [4, 3, 2, 5, 0, 1] rfl
  have hD := hD.sub (ws' := [(x0, .inr (0, [.ref q_5, .ref q_16, .ref q_27, .ref q_38, .int 0])), (q_5, .inr (1, [.int 0, .ref e0, .int 0])), (q_16, .inr (1, [.int 0, .ref e0, .int 0])), (q_27, .inr (2, [.int 0, .long 0, .long 0])), (q_38, .inr (3, [.ref u42, .int 0])), (u42, .inl (G.2 1, 41, .inl (fun _ => 0)))]) [4, 3, 2, 5, 0, 1] (by decide) rfl
  refine W.widen (k := 5) (n := 52) (Nat.le_of_ble_eq_true rfl) (Nat.le_of_ble_eq_true rfl) ?_
  exact W.vret hx hb hr (fun t ht hW => ⟨⟨(q_5, q_16, q_27, q_38, u42), rfl, by rw [ht]; exact hP, by rw [hAe]; exact hD, trivial⟩, by rw [hAe]; exact hS.F ht⟩) hS.2.2 d_ER_init_53
