set_option maxHeartbeats 4000000 in
set_option maxRecDepth 100000 in
theorem c_kindsNotReady (l : Launch) (G : GG) (x0 : Nat) (x1 : Nat) (x2 : Nat) (x3 : Nat) (x4 : Nat) (x5 : Nat) (cyc : Int32) (mM : Int32) (mC : Int32) (li : Int32) (eM : Nat) (eC : Nat) (nM : Nat) (nC : Nat) (me : Int64) (mi : Int64) (b : OB) (bM : va_W) (bC : va_W) (am : Nat → Nat) (ac : Nat → Nat) (mon : Nat → Mon) (cod : Nat → Cod) (hM : LB G bM eM nM am) : Met l y_ER_kindsNotReady w_ER_kindsNotReady ({ frames := 4, cells := 0, slots := 0, locals := 88 }) (va_Pc [.ref x0] (Rw G ([(x0, .inr (0, [.ref x1, .ref x2, .ref x3, .ref x4, .int cyc])), (x1, .inr (1, [.int mM, .ref eM, .int (nI nM)])), (x2, .inr (1, [.int mC, .ref eC, .int (nI nC)])), (x3, .inr (2, [.int li, .long me, .long mi])), (x4, .inr (3, [.ref x5, .int b.1])), (x5, .inl (G.2 1, 41, .inl b.2))] ++ tlW bM bC nM am mon nC ac cod))) (k2_QcV (.int (knF mon nM 4 0))) 0 0 (fun _ => False) := by
  refine Met.ofW (cc := b_ER_kindsNotReady) (maxL := 3) (ret := (some .int)) (by decide) rfl ?_
  intro p e s m args below meth c s₁ B hml hv
  obtain ⟨rfl, hP, hGK⟩ := hv
  have hx := B.exec
  have hb := B.bytes
  have hr := B.returns
  have hts := atoms_spec (ws := w_ER_kindsNotReady) B.pre
  have hT : ∀ w ∈ lwG, w.before _ s = true := fun w h => hts w (List.mem_cons_of_mem _ h)
  have hown : s.vm.findClass R_ER = some m.cls := findClass_of_methodNamed B.named
  have hlocks := B.notSynchronized
  have hK := hGK.1
  have hN := hGK.2
  have hP : va_P G.1 vwCl ([(x0, .inr (0, [.ref x1, .ref x2, .ref x3, .ref x4, .int cyc])), (x1, .inr (1, [.int mM, .ref eM, .int (nI nM)])), (x2, .inr (1, [.int mC, .ref eC, .int (nI nC)])), (x3, .inr (2, [.int li, .long me, .long mi])), (x4, .inr (3, [.ref x5, .int b.1])), (x5, .inl (G.2 1, 41, .inl b.2))] ++ tlW bM bC nM am mon nC ac cod) s.heap := hP
  have hl := lv_entry ([.ref x0]) (n := 3) (Nat.le_of_ble_eq_true rfl)
  rw [lg_entry_eq]
  generalize (lg_sl ([.ref x0]) ++ List.replicate (3 - (lg_sl ([.ref x0])).length) Slot.unset).toArray = ls at hl ⊢
  have hl : lv_has ls 3 [(0, .ref x0)] := hl
  generalize hHe : s.heap = H at hP ⊢
  refine lv_iconst (v := 0) hx hb d_ER_kindsNotReady_0 (by decide) ?_
  refine lv_istore_n (lv' := [(1, .int 0), (0, .ref x0)]) hx hb d_ER_kindsNotReady_1 rfl hl (by decide) rfl (fun ls hl => ?_)
  refine lv_iconst (v := 0) hx hb d_ER_kindsNotReady_2 (by decide) ?_
  refine lv_istore_n (lv' := [(2, .int 0), (1, .int 0), (0, .ref x0)]) hx hb d_ER_kindsNotReady_3 rfl hl (by decide) rfl (fun ls hl => ?_)
  refine bx_loopR (σ := Nat × Int32) (fun q ls => q.1 ≤ 4 ∧ knF mon nM (4 - q.1) q.2 = knF mon nM 4 0 ∧ lv_has ls 3 [(0, .ref x0), (1, .int q.2), (2, .int (nI q.1))]) (fun q => 4 - q.1) _ (fun q ls hI ih => ?_) (0, 0) ls ⟨by omega, rfl, lv_sub hl [2, 1, 0] rfl⟩
  obtain ⟨k, bi⟩ := q
  obtain ⟨hkn, hkn2, hl⟩ := hI
  have hkn : k ≤ 4 := hkn
  have hkn2 : knF mon nM (4 - k) bi = knF mon nM 4 0 := hkn2
  have hl : lv_has ls 3 [(0, .ref x0), (1, .int bi), (2, .int (nI k))] := hl
  refine lv_iload_n hx hb d_ER_kindsNotReady_4 rfl (lv_at hl 2 rfl) ?_
  refine lv_iconst (v := 4) hx hb d_ER_kindsNotReady_5 (by decide) ?_
  refine lv_icmp_ge (tgt := 29) hx hb d_ER_kindsNotReady_6 (by decide) (fun c_6 => ?_) (fun c_6 => ?_)
  · have e4 : (4 : Int32) = nI 4 := by decide
    have hge : 4 ≤ k := (nI_leI (by omega) (by omega)).mp (e4 ▸ c_6)
    have hke : k = 4 := by omega
    refine lv_iload_n hx hb d_ER_kindsNotReady_29 rfl (lv_at hl 1 rfl) ?_
    have hq9 : (.int (knF mon nM 4 0)) = (.int bi : Value) := by rw [← hkn2, hke, Nat.sub_self]; rfl
    exact W.iret (v := bi) hx hb hr (fun t ht _ => ⟨by rw [hq9], ht.trans hHe.symm⟩) (fun _ h => by cases h) d_ER_kindsNotReady_30
  · have e4 : (4 : Int32) = nI 4 := by decide
    have hk : k < 4 := Nat.not_le.mp (fun z => c_6 (e4 ▸ nI_le z (by omega)))
    refine lv_aload_n hx hb d_ER_kindsNotReady_9 rfl (lv_at hl 0 rfl) ?_
    refine lv_iload_n hx hb d_ER_kindsNotReady_10 rfl (lv_at hl 2 rfl) ?_
    refine bx_callV (W.runV (As := [.int (nI k)]) (rest := []) ⟨hx, hb, hml, hown, hts⟩ (c_readinessOf l G x0 x1 x2 x3 x4 x5 cyc mM mC li eM eC nM nC me mi b bM bC am ac mon cod (nI k) (by assumption)) ⟨(callB_of 1 hts (gi_all wd_331) rfl rfl rfl (hT _ wd_45) (hT _ wd_328) (by decide +kernel) ⟨Nat.le_of_ble_eq_true rfl, Nat.le_of_ble_eq_true rfl⟩), (hT _ wd_330), (hT _ wd_15)⟩ (pvR hP hGK (va_recv hK hP (ci := 0) (q0 := 0) rfl rfl)) rfl rfl hl.1 rfl (lv_room (Nat.le_of_ble_eq_true rfl)) d_ER_kindsNotReady_11 ⟨Nat.le_of_ble_eq_true rfl, Nat.le_of_ble_eq_true rfl⟩) ?_
    refine lv_if_ne (tgt := 23) hx hb d_ER_kindsNotReady_14 (by decide) (fun c_14 => ?_) (fun c_14 => ?_)
    · refine lv_iinc (v := nI (k + 1)) (lv' := [(2, .int (nI (k + 1))), (0, .ref x0), (1, .int bi)]) hx hb d_ER_kindsNotReady_23 hl (k := 2) rfl (nI_succ _).symm (by decide) rfl (fun ls hl => ?_)
      refine lv_goto (tgt := 4) hx hb d_ER_kindsNotReady_26 (by decide) ?_
      exact ih ((k + 1), bi) _ ⟨hk, by rw [← hkn2, knF_step _ hk]; simp [c_6, c_14], lv_sub hl [1, 2, 0] rfl⟩ (by show 4 - (k + 1) < 4 - k; omega)
    · refine lv_iload_n hx hb d_ER_kindsNotReady_17 rfl (lv_at hl 1 rfl) ?_
      refine lv_iconst (v := 1) hx hb d_ER_kindsNotReady_18 (by decide) ?_
      refine lv_iload_n hx hb d_ER_kindsNotReady_19 rfl (lv_at hl 2 rfl) ?_
      refine lv_ishl hx hb d_ER_kindsNotReady_20 ?_
      refine lv_ior hx hb d_ER_kindsNotReady_21 ?_
      refine lv_istore_n (lv' := [(1, .int (bi ||| ((1 : Int32) <<< ((nI k) &&& 31)))), (0, .ref x0), (2, .int (nI k))]) hx hb d_ER_kindsNotReady_22 rfl hl (by decide) rfl (fun ls hl => ?_)
      refine lv_iinc (v := nI (k + 1)) (lv' := [(2, .int (nI (k + 1))), (1, .int (bi ||| ((1 : Int32) <<< ((nI k) &&& 31)))), (0, .ref x0)]) hx hb d_ER_kindsNotReady_23 hl (k := 2) rfl (nI_succ _).symm (by decide) rfl (fun ls hl => ?_)
      refine lv_goto (tgt := 4) hx hb d_ER_kindsNotReady_26 (by decide) ?_
      exact ih ((k + 1), bi ||| ((1 : Int32) <<< ((nI k) &&& 31))) _ ⟨hk, by rw [← hkn2, knF_step _ hk]; simp [c_6, c_14], lv_sub hl [2, 1, 0] rfl⟩ (by show 4 - (k + 1) < 4 - k; omega)
set_option maxHeartbeats 4000000 in
set_option maxRecDepth 100000 in
theorem c_inTwoOctets (l : Launch) (G : GG) (vv : Int64)  : Met l y_ER_inTwoOctets w_ER_inTwoOctets ({ frames := 1, cells := 0, slots := 0, locals := 15 }) (va_Pc [.long vv] (Rw G [])) (k2_QcV (.int (twoF vv))) 0 0 (fun _ => False) := by
  refine Met.ofW (cc := b_ER_inTwoOctets) (maxL := 2) (ret := (some .int)) (by decide) rfl ?_
  intro p e s m args below meth c s₁ B hml hv
  obtain ⟨rfl, hP, hGK⟩ := hv
  have hx := B.exec
  have hb := B.bytes
  have hr := B.returns
  have hts := atoms_spec (ws := w_ER_inTwoOctets) B.pre
  have hT : ∀ w ∈ lwG, w.before _ s = true := fun w h => hts w (List.mem_cons_of_mem _ h)
  have hown : s.vm.findClass R_ER = some m.cls := findClass_of_methodNamed B.named
  have hlocks := B.notSynchronized
  have hK := hGK.1
  have hN := hGK.2
  have hP : va_P G.1 vwCl [] s.heap := hP
  have hl := lv_entry ([.long vv]) (n := 2) (Nat.le_of_ble_eq_true rfl)
  rw [lg_entry_eq]
  generalize (lg_sl ([.long vv]) ++ List.replicate (2 - (lg_sl ([.long vv])).length) Slot.unset).toArray = ls at hl ⊢
  have hl : lv_has ls 2 [(0, .long vv)] := hl
  generalize hHe : s.heap = H at hP ⊢
  refine lv_lload_n hx hb d_ER_inTwoOctets_0 rfl (lv_at hl 0 rfl) ?_
  refine lv_ldc2 (v := 65535) hx hb hown (hT _ wd_404) d_ER_inTwoOctets_1 ?_
  refine va_mmin_long hx hb (hml.trans hl.1.symm) hown (hT _ wd_405) (hT _ wd_406) (hT _ wd_54) (hT _ wd_407) (Nat.le_of_ble_eq_true rfl) (Nat.le_of_ble_eq_true rfl) (Nat.zero_le _) (Nat.zero_le _) d_ER_inTwoOctets_4 ?_
  refine lv_l2i (v := (if 65535 < vv then 65535 else vv).toInt32) hx hb d_ER_inTwoOctets_7 rfl ?_
  have hq9 : (.int (twoF vv)) = (.int ((if 65535 < vv then 65535 else vv).toInt32) : Value) := by rfl
  exact W.iret (v := (if 65535 < vv then 65535 else vv).toInt32) hx hb hr (fun t ht _ => ⟨by rw [hq9], ht.trans hHe.symm⟩) (fun _ h => by cases h) d_ER_inTwoOctets_8
set_option maxHeartbeats 4000000 in
set_option maxRecDepth 100000 in
theorem c_inLowestTerms (l : Launch) (G : GG) (pt : Int32) (ru : Int32) (k0 : Nat) (hk9 : k0 < 1000) : Met l y_ER_inLowestTerms w_ER_inLowestTerms ({ frames := 0, cells := 0, slots := 0, locals := 0 }) (va_Pc [.int pt, .int ru, .int (nI k0)] (Rw G [])) (k2_QcV (.int (ilF pt ru (nI k0) k0))) 0 0 (fun _ => False) := by
  refine Met.ofW (cc := b_ER_inLowestTerms) (maxL := 4) (ret := (some .int)) (by decide) rfl ?_
  intro p e s m args below meth c s₁ B hml hv
  obtain ⟨rfl, hP, hGK⟩ := hv
  have hx := B.exec
  have hb := B.bytes
  have hr := B.returns
  have hts := atoms_spec (ws := w_ER_inLowestTerms) B.pre
  have hT : ∀ w ∈ lwG, w.before _ s = true := fun w h => hts w (List.mem_cons_of_mem _ h)
  have hown : s.vm.findClass R_ER = some m.cls := findClass_of_methodNamed B.named
  have hlocks := B.notSynchronized
  have hK := hGK.1
  have hN := hGK.2
  have hP : va_P G.1 vwCl [] s.heap := hP
  have hl := lv_entry ([.int pt, .int ru, .int (nI k0)]) (n := 4) (Nat.le_of_ble_eq_true rfl)
  rw [lg_entry_eq]
  generalize (lg_sl ([.int pt, .int ru, .int (nI k0)]) ++ List.replicate (4 - (lg_sl ([.int pt, .int ru, .int (nI k0)])).length) Slot.unset).toArray = ls at hl ⊢
  have hl : lv_has ls 4 [(0, .int pt), (1, .int ru), (2, .int (nI k0))] := hl
  generalize hHe : s.heap = H at hP ⊢
  refine lv_iload_n hx hb d_ER_inLowestTerms_0 rfl (lv_at hl 2 rfl) ?_
  refine lv_istore_n (lv' := [(3, .int (nI k0)), (0, .int pt), (1, .int ru), (2, .int (nI k0))]) hx hb d_ER_inLowestTerms_1 rfl hl (by decide) rfl (fun ls hl => ?_)
  refine bx_loopR (σ := Nat) (fun q ls => ilF pt ru (nI k0) q = ilF pt ru (nI k0) k0 ∧ q ≤ k0 ∧ lv_has ls 4 [(0, .int pt), (1, .int ru), (2, .int (nI k0)), (3, .int (nI q))]) (fun q => q) _ (fun q ls hI ih => ?_) k0 ls ⟨rfl, Nat.le_refl _, lv_sub hl [1, 2, 3, 0] rfl⟩
  revert hI ih; generalize q = k; intro hI ih
  obtain ⟨hil, hkk, hl⟩ := hI
  have hil : ilF pt ru (nI k0) k = ilF pt ru (nI k0) k0 := hil
  have hkk : k ≤ k0 := hkk
  have hl : lv_has ls 4 [(0, .int pt), (1, .int ru), (2, .int (nI k0)), (3, .int (nI k))] := hl
  refine lv_iload_n hx hb d_ER_inLowestTerms_2 rfl (lv_at hl 3 rfl) ?_
  refine lv_iconst (v := 1) hx hb d_ER_inLowestTerms_3 (by decide) ?_
  refine lv_icmp_le (tgt := 29) hx hb d_ER_inLowestTerms_4 (by decide) (fun c_4 => ?_) (fun c_4 => ?_)
  · refine lv_iload_n hx hb d_ER_inLowestTerms_29 rfl (lv_at hl 0 rfl) ?_
    have hq9 : (.int (ilF pt ru (nI k0) k0)) = (.int pt : Value) := by rw [← hil, ilF_stop c_4]
    exact W.iret (v := pt) hx hb hr (fun t ht _ => ⟨by rw [hq9], ht.trans hHe.symm⟩) (fun _ h => by cases h) d_ER_inLowestTerms_30
  · have hk0 : 0 < k := Nat.pos_of_ne_zero (fun z => c_4 (by rw [z]; decide))
    have hnz : ¬ nI k = 0 := fun z => c_4 (by rw [z]; decide)
    refine lv_iload_n hx hb d_ER_inLowestTerms_7 rfl (lv_at hl 1 rfl) ?_
    refine lv_iload_n hx hb d_ER_inLowestTerms_8 rfl (lv_at hl 3 rfl) ?_
    refine lv_irem hx hb d_ER_inLowestTerms_9 hnz ?_
    refine lv_if_ne (tgt := 23) hx hb d_ER_inLowestTerms_10 (by decide) (fun c_10 => ?_) (fun c_10 => ?_)
    · refine lv_iinc (v := nI (k - 1)) (lv' := [(3, .int (nI (k - 1))), (0, .int pt), (1, .int ru), (2, .int (nI k0))]) hx hb d_ER_inLowestTerms_23 hl (k := 3) rfl (sb_m1 hk0) (by decide) rfl (fun ls hl => ?_)
      refine lv_goto (tgt := 2) hx hb d_ER_inLowestTerms_26 (by decide) ?_
      exact ih (k - 1) _ ⟨by rw [← hil, ilF_step hk0]; simp [c_4, c_10], by omega, lv_sub hl [1, 2, 3, 0] rfl⟩ (by show k - 1 < k; omega)
    · refine lv_iload_n hx hb d_ER_inLowestTerms_13 rfl (lv_at hl 2 rfl) ?_
      refine lv_iload_n hx hb d_ER_inLowestTerms_14 rfl (lv_at hl 3 rfl) ?_
      refine lv_irem hx hb d_ER_inLowestTerms_15 hnz ?_
      refine lv_if_ne (tgt := 23) hx hb d_ER_inLowestTerms_16 (by decide) (fun c_16 => ?_) (fun c_16 => ?_)
      · refine lv_iinc (v := nI (k - 1)) (lv' := [(3, .int (nI (k - 1))), (0, .int pt), (1, .int ru), (2, .int (nI k0))]) hx hb d_ER_inLowestTerms_23 hl (k := 3) rfl (sb_m1 hk0) (by decide) rfl (fun ls hl => ?_)
        refine lv_goto (tgt := 2) hx hb d_ER_inLowestTerms_26 (by decide) ?_
        exact ih (k - 1) _ ⟨by rw [← hil, ilF_step hk0]; simp [c_4, c_10, c_16], by omega, lv_sub hl [1, 2, 3, 0] rfl⟩ (by show k - 1 < k; omega)
      · refine lv_iload_n hx hb d_ER_inLowestTerms_19 rfl (lv_at hl 0 rfl) ?_
        refine lv_iload_n hx hb d_ER_inLowestTerms_20 rfl (lv_at hl 3 rfl) ?_
        refine lv_idiv hx hb d_ER_inLowestTerms_21 hnz ?_
        have hq9 : (.int (ilF pt ru (nI k0) k0)) = (.int (pt / (nI k)) : Value) := by rw [← hil, ilF_step hk0]; simp [c_4, c_10, c_16]
        exact W.iret (v := pt / (nI k)) hx hb hr (fun t ht _ => ⟨by rw [hq9], ht.trans hHe.symm⟩) (fun _ h => by cases h) d_ER_inLowestTerms_22
set_option maxHeartbeats 4000000 in
set_option maxRecDepth 100000 in
theorem c_count (l : Launch) (G : GG) (x0 : Nat) (x1 : Nat) (x2 : Nat) (x3 : Nat) (x4 : Nat) (x5 : Nat) (cyc : Int32) (mM : Int32) (mC : Int32) (li : Int32) (eM : Nat) (eC : Nat) (nM : Nat) (nC : Nat) (me : Int64) (mi : Int64) (b : OB) (bM : va_W) (bC : va_W) (am : Nat → Nat) (ac : Nat → Nat) (mon : Nat → Mon) (cod : Nat → Cod) (mo : Int32) (wh : Int32) (hM : LB G bM eM nM am) : Met l y_ER_count w_ER_count ({ frames := 3, cells := 0, slots := 0, locals := 64 }) (va_Pc [.ref x0, .int mo, .int wh] (Rw G ([(x0, .inr (0, [.ref x1, .ref x2, .ref x3, .ref x4, .int cyc])), (x1, .inr (1, [.int mM, .ref eM, .int (nI nM)])), (x2, .inr (1, [.int mC, .ref eC, .int (nI nC)])), (x3, .inr (2, [.int li, .long me, .long mi])), (x4, .inr (3, [.ref x5, .int b.1])), (x5, .inl (G.2 1, 41, .inl b.2))] ++ tlW bM bC nM am mon nC ac cod))) (k2_QcV (.int (cnF mon nM mo wh))) 0 0 (fun _ => False) := by
  refine Met.ofW (cc := b_ER_count) (maxL := 4) (ret := (some .int)) (by decide) rfl ?_
  intro p e s m args below meth c s₁ B hml hv
  obtain ⟨rfl, hP, hGK⟩ := hv
  have hx := B.exec
  have hb := B.bytes
  have hr := B.returns
  have hts := atoms_spec (ws := w_ER_count) B.pre
  have hT : ∀ w ∈ lwG, w.before _ s = true := fun w h => hts w (List.mem_cons_of_mem _ h)
  have hown : s.vm.findClass R_ER = some m.cls := findClass_of_methodNamed B.named
  have hlocks := B.notSynchronized
  have hK := hGK.1
  have hN := hGK.2
  have hP : va_P G.1 vwCl ([(x0, .inr (0, [.ref x1, .ref x2, .ref x3, .ref x4, .int cyc])), (x1, .inr (1, [.int mM, .ref eM, .int (nI nM)])), (x2, .inr (1, [.int mC, .ref eC, .int (nI nC)])), (x3, .inr (2, [.int li, .long me, .long mi])), (x4, .inr (3, [.ref x5, .int b.1])), (x5, .inl (G.2 1, 41, .inl b.2))] ++ tlW bM bC nM am mon nC ac cod) s.heap := hP
  have hl := lv_entry ([.ref x0, .int mo, .int wh]) (n := 4) (Nat.le_of_ble_eq_true rfl)
  rw [lg_entry_eq]
  generalize (lg_sl ([.ref x0, .int mo, .int wh]) ++ List.replicate (4 - (lg_sl ([.ref x0, .int mo, .int wh])).length) Slot.unset).toArray = ls at hl ⊢
  have hl : lv_has ls 4 [(0, .ref x0), (1, .int mo), (2, .int wh)] := hl
  generalize hHe : s.heap = H at hP ⊢
  refine lv_aload_n hx hb d_ER_count_0 rfl (lv_at hl 0 rfl) ?_
  refine lv_iload_n hx hb d_ER_count_1 rfl (lv_at hl 1 rfl) ?_
  refine bx_callV (W.runV (As := [.int mo]) (rest := []) ⟨hx, hb, hml, hown, hts⟩ (c_isMonitor l G x0 x1 x2 x3 x4 x5 cyc mM mC li eM eC nM nC me mi b bM bC am ac mon cod mo) ⟨(callB_of 1 hts (gi_all wd_323) rfl rfl rfl (hT _ wd_45) (hT _ wd_320) (by decide +kernel) ⟨Nat.le_of_ble_eq_true rfl, Nat.le_of_ble_eq_true rfl⟩), (hT _ wd_322), (hT _ wd_14)⟩ (pvR hP hGK (va_recv hK hP (ci := 0) (q0 := 0) rfl rfl)) rfl rfl hl.1 rfl (lv_room (Nat.le_of_ble_eq_true rfl)) d_ER_count_2 ⟨Nat.le_of_ble_eq_true rfl, Nat.le_of_ble_eq_true rfl⟩) ?_
  refine lv_if_ne (tgt := 10) hx hb d_ER_count_5 (by decide) (fun c_5 => ?_) (fun c_5 => ?_)
  · obtain ⟨k, hk, hmo⟩ := isM_some c_5 hM.1
    have e9 : mo - 1 = nI k := by rw [hmo]; exact nI_pred k
    have ex9 : ixM mo = k := by rw [hmo]; exact ixM_at (by have := hM.1; omega)
    refine lv_aload_n hx hb d_ER_count_10 rfl (lv_at hl 0 rfl) ?_
    refine va_get (D := G.1) (ci := 0) (v := .ref x1) (C := R_ER) (T := T_ER) (N := 5) hx hb hT in_ER hown hK hP 0 rfl rfl 0 (by decide) (hT _ wd_134) (fun _ h9 => h9) rfl d_ER_count_11 ?_
    refine lv_iload_n hx hb d_ER_count_14 rfl (lv_at hl 1 rfl) ?_
    refine lv_iconst (v := 1) hx hb d_ER_count_15 (by decide) ?_
    refine lv_isub hx hb d_ER_count_16 ?_
    rw [e9]
    obtain ⟨cap, fa, hbk, hcap, hcap2, hfa⟩ := hM.some hk
    have hPc : va_P G.1 vwCl [(x1, .inr (1, [.int mM, .ref eM, .int (nI nM)])), (eM, .inl (G.2 0, cap, .inr (.inr (.inr (.inr fa)))))] H := (hP.sub (ws' := [(x1, .inr (1, [.int mM, .ref eM, .int (nI nM)]))]) [1] rfl).app (bx_sub hP (fun q9 hq9 => tl_inM (by rw [hbk]; exact hq9)))
    refine bx_callV (W.runV (As := [.int (nI k)]) (rest := []) ⟨hx, hb, hml, hown, hts⟩ (c_get l G x1 eM mM nM k cap fa (am k) hk hcap (by omega) (hfa k hk)) ⟨(callB_of 1 hts (gi_all wd_258) rfl rfl rfl (hT _ wd_48) (hT _ wd_255) (by decide +kernel) ⟨Nat.le_of_ble_eq_true rfl, Nat.le_of_ble_eq_true rfl⟩), (hT _ wd_256), (hT _ wd_257)⟩ (pvR hPc hGK (va_recv hK hPc (ci := 1) (q0 := 0) rfl rfl)) rfl rfl hl.1 rfl (lv_room (Nat.le_of_ble_eq_true rfl)) d_ER_count_17 ⟨Nat.le_of_ble_eq_true rfl, Nat.le_of_ble_eq_true rfl⟩) ?_
    refine va_castS hx hb hown (hT _ wd_161) (hK.1 4 _ rfl).2 (va_recv hK hP (ci := 4) rfl (tl_mon hk)) d_ER_count_20 ?_
    refine lv_astore_n (lv' := [(3, .ref (am k)), (0, .ref x0), (1, .int mo), (2, .int wh)]) hx hb d_ER_count_23 rfl hl (by decide) rfl (fun ls hl => ?_)
    refine lv_iload_n hx hb d_ER_count_24 rfl (lv_at hl 3 rfl) ?_
    refine lv_if_ne (tgt := 35) hx hb d_ER_count_25 (by decide) (fun c_25 => ?_) (fun c_25 => ?_)
    · refine lv_aload_n hx hb d_ER_count_35 rfl (lv_at hl 0 rfl) ?_
      refine va_getN (D := G.1) (ci := 4) (v := .int ((mon k).2.2.2.1)) (C := R_MON) (T := T_MON) (N := 6) hx hb hT in_MON hown hK hP _ (tl_mon hk) rfl 3 (by decide) (va_Nw.use rfl (hN (.fieldLinkNest "EmissionRows" 80 "EmissionRows$Monitor" "chances" "I" "EmissionRows") nw_173)) (fun _ h9 => h9) rfl d_ER_count_36 ?_
      have hq9 : (.int (cnF mon nM mo wh)) = (.int ((mon k).2.2.2.1) : Value) := by simp only [cnF, ex9, if_neg c_5]; simp [c_25]
      exact W.iret (v := (mon k).2.2.2.1) hx hb hr (fun t ht _ => ⟨by rw [hq9], ht.trans hHe.symm⟩) (fun _ h => by cases h) d_ER_count_39
    · refine lv_aload_n hx hb d_ER_count_28 rfl (lv_at hl 0 rfl) ?_
      refine va_getN (D := G.1) (ci := 4) (v := .int ((mon k).2.2.1)) (C := R_MON) (T := T_MON) (N := 6) hx hb hT in_MON hown hK hP _ (tl_mon hk) rfl 2 (by decide) (va_Nw.use rfl (hN (.fieldLinkNest "EmissionRows" 77 "EmissionRows$Monitor" "runs" "I" "EmissionRows") nw_171)) (fun _ h9 => h9) rfl d_ER_count_29 ?_
      refine lv_goto (tgt := 39) hx hb d_ER_count_32 (by decide) ?_
      have hq9 : (.int (cnF mon nM mo wh)) = (.int ((mon k).2.2.1) : Value) := by simp only [cnF, ex9, if_neg c_5]; simp [c_25]
      exact W.iret (v := (mon k).2.2.1) hx hb hr (fun t ht _ => ⟨by rw [hq9], ht.trans hHe.symm⟩) (fun _ h => by cases h) d_ER_count_39
  · refine lv_iconst (v := (-1)) hx hb d_ER_count_8 (by decide) ?_
    have hq9 : (.int (cnF mon nM mo wh)) = (.int (-1) : Value) := by first | (simp [cnF, c_5]; done) | (simp_all [cnF]; done)
    exact W.iret (v := (-1)) hx hb hr (fun t ht _ => ⟨by rw [hq9], ht.trans hHe.symm⟩) (fun _ h => by cases h) d_ER_count_9
set_option maxHeartbeats 4000000 in
set_option maxRecDepth 100000 in
theorem c_freeze (l : Launch) (G : GG) (x0 : Nat) (x1 : Nat) (x2 : Nat) (x3 : Nat) (x4 : Nat) (x5 : Nat) (cyc : Int32) (mM : Int32) (mC : Int32) (li : Int32) (eM : Nat) (eC : Nat) (nM : Nat) (nC : Nat) (me : Int64) (mi : Int64) (b : OB) (bM : va_W) (bC : va_W) (am : Nat → Nat) (ac : Nat → Nat) (mon : Nat → Mon) (cod : Nat → Cod) (fi : Int32) (hC : LB G bC eC nC ac) : Met l y_ER_freeze w_ER_freeze ({ frames := 4, cells := 0, slots := 0, locals := 86 }) (va_Pc [.ref x0, .int fi] (Rw G ([(x0, .inr (0, [.ref x1, .ref x2, .ref x3, .ref x4, .int cyc])), (x1, .inr (1, [.int mM, .ref eM, .int (nI nM)])), (x2, .inr (1, [.int mC, .ref eC, .int (nI nC)])), (x3, .inr (2, [.int li, .long me, .long mi])), (x4, .inr (3, [.ref x5, .int b.1])), (x5, .inl (G.2 1, 41, .inl b.2))] ++ tlW bM bC nM am mon nC ac cod))) (k2_QcV (.int (frzF cod nC mi fi))) 0 0 (fun _ => False) := by
  refine Met.ofW (cc := b_ER_freeze) (maxL := 3) (ret := (some .int)) (by decide) rfl ?_
  intro p e s m args below meth c s₁ B hml hv
  obtain ⟨rfl, hP, hGK⟩ := hv
  have hx := B.exec
  have hb := B.bytes
  have hr := B.returns
  have hts := atoms_spec (ws := w_ER_freeze) B.pre
  have hT : ∀ w ∈ lwG, w.before _ s = true := fun w h => hts w (List.mem_cons_of_mem _ h)
  have hown : s.vm.findClass R_ER = some m.cls := findClass_of_methodNamed B.named
  have hlocks := B.notSynchronized
  have hK := hGK.1
  have hN := hGK.2
  have hP : va_P G.1 vwCl ([(x0, .inr (0, [.ref x1, .ref x2, .ref x3, .ref x4, .int cyc])), (x1, .inr (1, [.int mM, .ref eM, .int (nI nM)])), (x2, .inr (1, [.int mC, .ref eC, .int (nI nC)])), (x3, .inr (2, [.int li, .long me, .long mi])), (x4, .inr (3, [.ref x5, .int b.1])), (x5, .inl (G.2 1, 41, .inl b.2))] ++ tlW bM bC nM am mon nC ac cod) s.heap := hP
  have hl := lv_entry ([.ref x0, .int fi]) (n := 3) (Nat.le_of_ble_eq_true rfl)
  rw [lg_entry_eq]
  generalize (lg_sl ([.ref x0, .int fi]) ++ List.replicate (3 - (lg_sl ([.ref x0, .int fi])).length) Slot.unset).toArray = ls at hl ⊢
  have hl : lv_has ls 3 [(0, .ref x0), (1, .int fi)] := hl
  generalize hHe : s.heap = H at hP ⊢
  refine lv_iload_n hx hb d_ER_freeze_0 rfl (lv_at hl 1 rfl) ?_
  refine lv_if_lt (tgt := 9) hx hb d_ER_freeze_1 (by decide) (fun c_1 => ?_) (fun c_1 => ?_)
  · refine lv_bipush (v := (-2)) hx hb d_ER_freeze_9 (by decide) ?_
    have hq9 : (.int (frzF cod nC mi fi)) = (.int (-2) : Value) := by first | (simp [frzF, c_1]; done) | (simp_all [frzF]; done)
    exact W.iret (v := (-2)) hx hb hr (fun t ht _ => ⟨by rw [hq9], ht.trans hHe.symm⟩) (fun _ h => by cases h) d_ER_freeze_11
  · refine lv_iload_n hx hb d_ER_freeze_4 rfl (lv_at hl 1 rfl) ?_
    refine lv_iconst (v := 3) hx hb d_ER_freeze_5 (by decide) ?_
    refine lv_icmp_le (tgt := 12) hx hb d_ER_freeze_6 (by decide) (fun c_6 => ?_) (fun c_6 => ?_)
    · refine lv_iload_n hx hb d_ER_freeze_12 rfl (lv_at hl 1 rfl) ?_
      refine lv_iconst (v := 3) hx hb d_ER_freeze_13 (by decide) ?_
      refine lv_icmp_ne (tgt := 28) hx hb d_ER_freeze_14 (by decide) (fun c_14 => ?_) (fun c_14 => ?_)
      · refine lv_aload_n hx hb d_ER_freeze_28 rfl (lv_at hl 0 rfl) ?_
        refine bx_callV (W.runV (As := []) (rest := []) ⟨hx, hb, hml, hown, hts⟩ (c_firstFrozen l G x0 x1 x2 x3 x4 x5 cyc mM mC li eM eC nM nC me mi b bM bC am ac mon cod (by assumption)) ⟨(callB_of 0 hts (gi_all wd_411) rfl rfl rfl (hT _ wd_45) (hT _ wd_408) (by decide +kernel) ⟨Nat.le_of_ble_eq_true rfl, Nat.le_of_ble_eq_true rfl⟩), (hT _ wd_410), (hT _ wd_18)⟩ (pvR hP hGK (va_recv hK hP (ci := 0) (q0 := 0) rfl rfl)) rfl rfl hl.1 rfl (lv_room (Nat.le_of_ble_eq_true rfl)) d_ER_freeze_29 ⟨Nat.le_of_ble_eq_true rfl, Nat.le_of_ble_eq_true rfl⟩) ?_
        rcases hff : ffF cod nC nC with _ | j
        · refine lv_astore_nN (lv' := [(2, .null), (0, .ref x0), (1, .int fi)]) hx hb d_ER_freeze_32 rfl hl (by decide) rfl (fun ls hl => ?_)
          refine lv_aload_nN hx hb d_ER_freeze_33 rfl (lv_at hl 0 rfl) ?_
          refine lv_ifnonnullN hx hb d_ER_freeze_34 ?_
          refine lv_iconst (v := 0) hx hb d_ER_freeze_37 (by decide) ?_
          have hq9 : (.int (frzF cod nC mi fi)) = (.int 0 : Value) := by first | (simp [frzF, c_1, c_6, c_14, hff]; done) | (simp_all [frzF]; done)
          exact W.iret (v := 0) hx hb hr (fun t ht _ => ⟨by rw [hq9], ht.trans hHe.symm⟩) (fun _ h => by cases h) d_ER_freeze_38
        · have hj : j < nC := ffF_lt (Nat.le_refl _) hff
          refine lv_astore_n (lv' := [(2, .ref (ac j)), (0, .ref x0), (1, .int fi)]) hx hb d_ER_freeze_32 rfl hl (by decide) rfl (fun ls hl => ?_)
          refine lv_aload_n hx hb d_ER_freeze_33 rfl (lv_at hl 0 rfl) ?_
          refine lv_ifnonnull (tgt := 39) hx hb d_ER_freeze_34 (by decide) ?_
          refine lv_iload_n hx hb d_ER_freeze_39 rfl (lv_at hl 2 rfl) ?_
          refine lv_if_ne (tgt := 48) hx hb d_ER_freeze_40 (by decide) (fun c_40 => ?_) (fun c_40 => ?_)
          · refine lv_iload_n hx hb d_ER_freeze_48 rfl (lv_at hl 2 rfl) ?_
            refine lv_iconst (v := 1) hx hb d_ER_freeze_49 (by decide) ?_
            refine lv_icmp_ne (tgt := 60) hx hb d_ER_freeze_50 (by decide) (fun c_50 => ?_) (fun c_50 => ?_)
            · refine lv_aload_n hx hb d_ER_freeze_60 rfl (lv_at hl 0 rfl) ?_
              refine va_getN (D := G.1) (ci := 5) (v := .int ((cod j).2.2.2.2.2.2.2.2)) (C := R_COD) (T := T_COD) (N := 9) hx hb hT in_COD hown hK hP _ (tl_cod hj) rfl 8 (by decide) (va_Nw.use rfl (hN (.fieldLinkNest "EmissionRows" 149 "EmissionRows$Code" "frozenConditions" "I" "EmissionRows") nw_358)) (fun _ h9 => h9) rfl d_ER_freeze_61 ?_
              have hq9 : (.int (frzF cod nC mi fi)) = (.int ((cod j).2.2.2.2.2.2.2.2) : Value) := by first | (simp [frzF, c_1, c_6, c_14, hff, c_40, c_50]; done) | (simp_all [frzF]; done)
              exact W.iret (v := (cod j).2.2.2.2.2.2.2.2) hx hb hr (fun t ht _ => ⟨by rw [hq9], ht.trans hHe.symm⟩) (fun _ h => by cases h) d_ER_freeze_64
            · refine lv_aload_n hx hb d_ER_freeze_53 rfl (lv_at hl 0 rfl) ?_
              refine va_getN (D := G.1) (ci := 5) (v := .int ((cod j).2.2.2.2.2.2.2.1)) (C := R_COD) (T := T_COD) (N := 9) hx hb hT in_COD hown hK hP _ (tl_cod hj) rfl 7 (by decide) (va_Nw.use rfl (hN (.fieldLinkNest "EmissionRows" 146 "EmissionRows$Code" "frozenCycle" "I" "EmissionRows") nw_356)) (fun _ h9 => h9) rfl d_ER_freeze_54 ?_
              refine lv_goto (tgt := 64) hx hb d_ER_freeze_57 (by decide) ?_
              have hq9 : (.int (frzF cod nC mi fi)) = (.int ((cod j).2.2.2.2.2.2.2.1) : Value) := by first | (simp [frzF, c_1, c_6, c_14, hff, c_40, c_50]; done) | (simp_all [frzF]; done)
              exact W.iret (v := (cod j).2.2.2.2.2.2.2.1) hx hb hr (fun t ht _ => ⟨by rw [hq9], ht.trans hHe.symm⟩) (fun _ h => by cases h) d_ER_freeze_64
          · refine lv_aload_n hx hb d_ER_freeze_43 rfl (lv_at hl 0 rfl) ?_
            refine va_getN (D := G.1) (ci := 5) (v := .int ((cod j).1)) (C := R_COD) (T := T_COD) (N := 9) hx hb hT in_COD hown hK hP _ (tl_cod hj) rfl 0 (by decide) (va_Nw.use rfl (hN (.fieldLinkNest "EmissionRows" 116 "EmissionRows$Code" "number" "I" "EmissionRows") nw_345)) (fun _ h9 => h9) rfl d_ER_freeze_44 ?_
            have hq9 : (.int (frzF cod nC mi fi)) = (.int ((cod j).1) : Value) := by first | (simp [frzF, c_1, c_6, c_14, hff, c_40]; done) | (simp_all [frzF]; done)
            exact W.iret (v := (cod j).1) hx hb hr (fun t ht _ => ⟨by rw [hq9], ht.trans hHe.symm⟩) (fun _ h => by cases h) d_ER_freeze_47
      · refine lv_aload_n hx hb d_ER_freeze_17 rfl (lv_at hl 0 rfl) ?_
        refine va_get (D := G.1) (ci := 0) (v := .ref x3) (C := R_ER) (T := T_ER) (N := 5) hx hb hT in_ER hown hK hP 0 rfl rfl 2 (by decide) (hT _ wd_136) (fun _ h9 => h9) rfl d_ER_freeze_18 ?_
        refine va_getN (D := G.1) (ci := 2) (v := .long mi) (C := R_LAMP) (T := T_LAMP) (N := 3) hx hb hT in_LAMP hown hK hP 3 rfl rfl 2 (by decide) (va_Nw.use rfl (hN (.fieldLinkNest "EmissionRows" 134 "EmissionRows$Lamp" "minutes" "J" "EmissionRows") nw_110)) (fun _ h9 => h9) rfl d_ER_freeze_21 ?_
        refine bx_callV (W.runS (As := [.long mi]) (rest := []) ⟨hx, hb, hml, hown, hts⟩ (c_inTwoOctets l G mi) ⟨(callB_of 1 hts (gi_all wd_403) rfl rfl rfl (hT _ wd_45) (hT _ wd_401) (by decide +kernel) ⟨Nat.le_of_ble_eq_true rfl, Nat.le_of_ble_eq_true rfl⟩), (hT _ wd_402)⟩ (psR bx_nil hGK) rfl rfl hl.1 rfl (lv_room (Nat.le_of_ble_eq_true rfl)) d_ER_freeze_24 ⟨Nat.le_of_ble_eq_true rfl, Nat.le_of_ble_eq_true rfl⟩) ?_
        have hq9 : (.int (frzF cod nC mi fi)) = (.int (twoF mi) : Value) := by first | (simp [frzF, c_1, c_6, c_14]; done) | (simp_all [frzF]; done)
        exact W.iret (v := twoF mi) hx hb hr (fun t ht _ => ⟨by rw [hq9], ht.trans hHe.symm⟩) (fun _ h => by cases h) d_ER_freeze_27
    · refine lv_bipush (v := (-2)) hx hb d_ER_freeze_9 (by decide) ?_
      have hq9 : (.int (frzF cod nC mi fi)) = (.int (-2) : Value) := by first | (simp [frzF, c_1, c_6]; done) | (simp_all [frzF]; done)
      exact W.iret (v := (-2)) hx hb hr (fun t ht _ => ⟨by rw [hq9], ht.trans hHe.symm⟩) (fun _ h => by cases h) d_ER_freeze_11
set_option maxHeartbeats 4000000 in
set_option maxRecDepth 100000 in
theorem c_sum (l : Launch) (G : GG) (x0 : Nat) (x1 : Nat) (x2 : Nat) (x3 : Nat) (x4 : Nat) (x5 : Nat) (cyc : Int32) (mM : Int32) (mC : Int32) (li : Int32) (eM : Nat) (eC : Nat) (nM : Nat) (nC : Nat) (me : Int64) (mi : Int64) (b : OB) (bM : va_W) (bC : va_W) (am : Nat → Nat) (ac : Nat → Nat) (mon : Nat → Mon) (cod : Nat → Cod)  : Met l y_ER_sum w_ER_sum ({ frames := 1, cells := 0, slots := 0, locals := 22 }) (va_Pc [.ref x0] (Rw G ([(x0, .inr (0, [.ref x1, .ref x2, .ref x3, .ref x4, .int cyc])), (x1, .inr (1, [.int mM, .ref eM, .int (nI nM)])), (x2, .inr (1, [.int mC, .ref eC, .int (nI nC)])), (x3, .inr (2, [.int li, .long me, .long mi])), (x4, .inr (3, [.ref x5, .int b.1])), (x5, .inl (G.2 1, 41, .inl b.2))] ++ tlW bM bC nM am mon nC ac cod))) (k2_QcV (.int (totF b.1 b.2 41 0))) 0 0 (fun _ => False) := by
  refine Met.ofW (cc := b_ER_sum) (maxL := 1) (ret := (some .int)) (by decide) rfl ?_
  intro p e s m args below meth c s₁ B hml hv
  obtain ⟨rfl, hP, hGK⟩ := hv
  have hx := B.exec
  have hb := B.bytes
  have hr := B.returns
  have hts := atoms_spec (ws := w_ER_sum) B.pre
  have hT : ∀ w ∈ lwG, w.before _ s = true := fun w h => hts w (List.mem_cons_of_mem _ h)
  have hown : s.vm.findClass R_ER = some m.cls := findClass_of_methodNamed B.named
  have hlocks := B.notSynchronized
  have hK := hGK.1
  have hN := hGK.2
  have hP : va_P G.1 vwCl ([(x0, .inr (0, [.ref x1, .ref x2, .ref x3, .ref x4, .int cyc])), (x1, .inr (1, [.int mM, .ref eM, .int (nI nM)])), (x2, .inr (1, [.int mC, .ref eC, .int (nI nC)])), (x3, .inr (2, [.int li, .long me, .long mi])), (x4, .inr (3, [.ref x5, .int b.1])), (x5, .inl (G.2 1, 41, .inl b.2))] ++ tlW bM bC nM am mon nC ac cod) s.heap := hP
  have hl := lv_entry ([.ref x0]) (n := 1) (Nat.le_of_ble_eq_true rfl)
  rw [lg_entry_eq]
  generalize (lg_sl ([.ref x0]) ++ List.replicate (1 - (lg_sl ([.ref x0])).length) Slot.unset).toArray = ls at hl ⊢
  have hl : lv_has ls 1 [(0, .ref x0)] := hl
  generalize hHe : s.heap = H at hP ⊢
  refine lv_aload_n hx hb d_ER_sum_0 rfl (lv_at hl 0 rfl) ?_
  refine va_get (D := G.1) (ci := 0) (v := .ref x4) (C := R_ER) (T := T_ER) (N := 5) hx hb hT in_ER hown hK hP 0 rfl rfl 3 (by decide) (hT _ wd_137) (fun _ h9 => h9) rfl d_ER_sum_1 ?_
  have hPc := hP.sub (ws' := [(x4, .inr (3, [.ref x5, .int b.1])), (x5, .inl (G.2 1, 41, .inl b.2))]) [4, 5] rfl
  refine bx_callV ((va_runVN (As := []) (rest := []) ⟨hx, hb, hml, hown, hts⟩ (c_ototal l G x4 x5 b) ⟨(va_cnB 0 hts (gi_all wd_469) rfl rfl rfl (hN (.methodLinkNest "EmissionRows" 182 ⟨"EmissionRows$Octets", "total", "()I"⟩ "EmissionRows") nw_466) (hT _ wd_50) (by decide +kernel) ⟨Nat.le_of_ble_eq_true rfl, Nat.le_of_ble_eq_true rfl⟩), (hT _ wd_468), (hT _ wd_30)⟩ (pvR hPc hGK (va_recv hK hPc (ci := 3) (q0 := 0) rfl rfl)) rfl rfl hl.1 rfl (lv_room (Nat.le_of_ble_eq_true rfl)) d_ER_sum_4 ⟨Nat.le_of_ble_eq_true rfl, Nat.le_of_ble_eq_true rfl⟩)).run ?_
  exact W.iret (v := totF b.1 b.2 41 0) hx hb hr (fun t ht _ => ⟨rfl, ht.trans hHe.symm⟩) (fun _ h => by cases h) d_ER_sum_7
