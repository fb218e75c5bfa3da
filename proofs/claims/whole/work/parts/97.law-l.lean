theorem sc_5 (a : Nat) : nI a + 5 = nI (a + 5) := by rw [← nI_add]; rfl
theorem lw_cmp {a L : Nat} (hL : L ≤ 2560) (ha : a ≤ 10000) : Int32.ofNat L - 5 < nI a ↔ L < a + 5 := by
  have h : (Int32.ofNat L - 5).toInt = (L : Int) - 5 := by
    rw [show Int32.ofNat L = nI L from rfl, Int32.toInt_sub, nI_toInt (by omega), show (5 : Int32).toInt = 5 by decide]
    rw [Int.bmod_def]
    split <;> omega
  rw [Int32.lt_iff_toInt_lt, h, nI_toInt (by omega)]
  omega
theorem LINV.up {G : GG} {s : State} {A : Nat → Prop} {e0 x0 x1 x2 x3 x4 x5 z0 z1 z2 z3 z4 z5 z6 z7 z8 z9 z10 z11 z12 z13 z14 z15 z16 z17 ox k : Nat} {H : Heap} {locs : List Loc} (h : LINV G s A e0 x0 x1 x2 x3 x4 x5 z0 z1 z2 z3 z4 z5 z6 z7 z8 z9 z10 z11 z12 z13 z14 z15 z16 z17 ox k H locs) : LINV G s A e0 x0 x1 x2 x3 x4 x5 z0 z1 z2 z3 z4 z5 z6 z7 z8 z9 z10 z11 z12 z13 z14 z15 z16 z17 ox (k + 1) H locs := by
  obtain ⟨cyc, mM, mC, li, cdv, eM, eC, nM, nC, me, mi, b, bM, bC, am, ac, mon, cod, mm, cc, mb, of, hLM, hLC, rM, rC, rO, hli, hcy, hP, hD, hS⟩ := h
  exact ⟨cyc, mM, mC, li, cdv, eM, eC, nM, nC, me, mi, b, bM, bC, am, ac, mon, cod, mm, cc, mb, of, hLM, hLC, rM, rC, rO, hli, cy_up hcy, hP, hD, hS⟩
theorem LINV.st {G : GG} {s : State} {A : Nat → Prop} {e0 x0 x1 x2 x3 x4 x5 z0 z1 z2 z3 z4 z5 z6 z7 z8 z9 z10 z11 z12 z13 z14 z15 z16 z17 ox k : Nat} {H : Heap} {locs : List Loc} (h : LINV G s A e0 x0 x1 x2 x3 x4 x5 z0 z1 z2 z3 z4 z5 z6 z7 z8 z9 z10 z11 z12 z13 z14 z15 z16 z17 ox k H locs) : va_S A s.heap H locs := by
  obtain ⟨cyc, mM, mC, li, cdv, eM, eC, nM, nC, me, mi, b, bM, bC, am, ac, mon, cod, mm, cc, mb, of, hLM, hLC, rM, rC, rO, hli, hcy, hP, hD, hS⟩ := h
  exact hS
set_option maxHeartbeats 8000000 in
set_option maxRecDepth 100000 in
theorem lw_loop {p : Program} {e : Env} {s : State} {m : MethodId} {below : List Frame} {meth : Method} {c : Code} {l : Launch} {sb L : Nat} {xs : Nat → Int32} {A : Nat → Prop} {G : GG} {e0 mi0 sa1 sa2 : Nat} (hC : LC l p s m meth c sb L xs A G e0 mi0 sa1 sa2) (hAr : ∀ q, A q → s.heap.size ≤ q) {x0 x1 x2 x3 x4 x5 z0 z1 z2 z3 z4 z5 z6 z7 z8 z9 z10 z11 z12 z13 z14 z15 z16 z17 ox : Nat} (hL : L ≤ 2560) :
    ∀ (n k : Nat) (H : Heap) (locs : List Loc) (ls : Array Slot) (cn sn : Nat), L + 5 ≤ 5 * (k + n) → k ≤ 1000 → cn + 2 * n ≤ 601024 → sn + 31 * n ≤ 7293034 → LINV G s A e0 x0 x1 x2 x3 x4 x5 z0 z1 z2 z3 z4 z5 z6 z7 z8 z9 z10 z11 z12 z13 z14 z15 z16 z17 ox k H locs → lv_has ls 8 [(0, .ref sb), (1, .ref x0), (2, .ref z0), (3, .ref ox), (4, .int (nI (5 * k)))] → W p l e room_1 s m #[Value.ref sb] below meth c H locs cn sn (lw_Z below #[Value.ref sb] s) (F0 m 23 ls []) := by
  obtain ⟨⟨hx, hb, hr, hml, hown, hts, hXs, hbl, hlocks, hgv⟩, hGK, hX0, hZ0, hR1, hR2, hl9, hA, hbA⟩ := id hC
  intro n
  induction n with
  | zero =>
    intro k H locs ls cn sn hn hk9 hcn hsn hI hl
    have hS := hI.st
    refine lv_iload hx hb d_law_23 (lv_at hl 4 rfl) ?_
    refine lv_aload_n hx hb d_law_25 rfl (lv_at hl 0 rfl) ?_
    refine va_slen hx hb hXs hbl hbA hS d_law_26 ?_
    refine lv_iconst (v := 5) hx hb d_law_27 (by decide) ?_
    refine lv_isub hx hb d_law_28 ?_
    refine lv_icmp_gt (tgt := 636) hx hb d_law_29 (by decide) (fun c_29 => ?_) (fun c_29 => ?_)
    · refine lv_iconst (v := 1) hx hb d_law_636 (by decide) ?_
      refine va_forget (fun q hq => hAr _ (hS.2.2 q hq)) ?_
      refine W.widen (k := 601024) (n := 7293034) (by omega) (by omega) ?_
      exact lw_ret hx hb hr hlocks d_law_637
    · exact absurd ((lw_cmp hL (by omega)).mpr (by omega)) c_29
  | succ n ih =>
    intro k H locs ls cn sn hn hk9 hcn hsn hI hl
    have hS := hI.st
    refine lv_iload hx hb d_law_23 (lv_at hl 4 rfl) ?_
    refine lv_aload_n hx hb d_law_25 rfl (lv_at hl 0 rfl) ?_
    refine va_slen hx hb hXs hbl hbA hS d_law_26 ?_
    refine lv_iconst (v := 5) hx hb d_law_27 (by decide) ?_
    refine lv_isub hx hb d_law_28 ?_
    refine lv_icmp_gt (tgt := 636) hx hb d_law_29 (by decide) (fun c_29 => ?_) (fun c_29 => ?_)
    · refine lv_iconst (v := 1) hx hb d_law_636 (by decide) ?_
      refine va_forget (fun q hq => hAr _ (hS.2.2 q hq)) ?_
      refine W.widen (k := 601024) (n := 7293034) (by omega) (by omega) ?_
      exact lw_ret hx hb hr hlocks d_law_637
    · have hk : 5 * k + 5 ≤ L := by
        have h9 : ¬ L < 5 * k + 5 := fun z => c_29 ((lw_cmp (a := 5 * k) hL (by omega)).mpr z)
        omega
      have K : ∀ (H : Heap) (locs : List Loc) (ls : Array Slot), LINV G s A e0 x0 x1 x2 x3 x4 x5 z0 z1 z2 z3 z4 z5 z6 z7 z8 z9 z10 z11 z12 z13 z14 z15 z16 z17 ox (k + 1) H locs → lv_has ls 8 [(0, .ref sb), (1, .ref x0), (2, .ref z0), (3, .ref ox), (4, .int (nI (5 * k)))] → W p l e room_1 s m #[Value.ref sb] below meth c H locs (cn + 2) (sn + 31) (lw_Z below #[Value.ref sb] s) (F0 m 630 ls []) := by
        intro H locs ls hI hl
        refine lv_iinc (v := nI (5 * (k + 1))) (lv' := [(4, .int (nI (5 * (k + 1)))), (0, .ref sb), (1, .ref x0), (2, .ref z0), (3, .ref ox)]) hx hb d_law_630 hl (k := 4) rfl (show nI (5 * k) + 5 = nI (5 * (k + 1)) by rw [sc_5, show 5 * k + 5 = 5 * (k + 1) by omega]) (by decide) rfl (fun ls hl => ?_)
        refine lv_goto (tgt := 23) hx hb d_law_633 (by decide) ?_
        exact ih (k + 1) H locs ls (cn + 2) (sn + 31) (by omega) (by omega) (by omega) (by omega) hI (lv_sub hl [1, 2, 3, 4, 0] rfl)
      refine lv_aload_n hx hb d_law_32 rfl (lv_at hl 0 rfl) ?_
      refine lv_iload hx hb d_law_33 (lv_at hl 4 rfl) ?_
      refine va_sld hx hb hXs hbl hbA hS (vp_in_nI (by omega) (by omega)) d_law_35 ?_
      refine W.eq (g2 := F0 m 36 ls [.int (xs (5 * k))]) (by rw [nI_clamp (by omega)]) ?_
      refine lv_bipush (v := 15) hx hb d_law_36 (by decide) ?_
      refine lv_iand hx hb d_law_38 ?_
      rcases Decidable.em (xs (5 * k) &&& 15 = 0) with c_0 | c_0
      · refine lv_tableIn (off := 65) (tgt := 104) hx hb d_law_39 (by rw [c_0]; decide) (by rw [c_0]; decide) (by rw [c_0]; decide) (by decide) ?_
        exact lw_c0 hC hk hL (by omega) (by omega) hI hl K
      rcases Decidable.em (xs (5 * k) &&& 15 = 1) with c_1 | c_1
      · refine lv_tableIn (off := 102) (tgt := 141) hx hb d_law_39 (by rw [c_1]; decide) (by rw [c_1]; decide) (by rw [c_1]; decide) (by decide) ?_
        exact lw_c1 hC hk hL (by omega) (by omega) hI hl K
      rcases Decidable.em (xs (5 * k) &&& 15 = 2) with c_2 | c_2
      · refine lv_tableIn (off := 139) (tgt := 178) hx hb d_law_39 (by rw [c_2]; decide) (by rw [c_2]; decide) (by rw [c_2]; decide) (by decide) ?_
        exact lw_c2 hC hk hL (by omega) (by omega) hI hl K
      rcases Decidable.em (xs (5 * k) &&& 15 = 3) with c_3 | c_3
      · refine lv_tableIn (off := 176) (tgt := 215) hx hb d_law_39 (by rw [c_3]; decide) (by rw [c_3]; decide) (by rw [c_3]; decide) (by decide) ?_
        exact lw_c3 hC hk hL (by omega) (by omega) hI hl K
      rcases Decidable.em (xs (5 * k) &&& 15 = 4) with c_4 | c_4
      · refine lv_tableIn (off := 243) (tgt := 282) hx hb d_law_39 (by rw [c_4]; decide) (by rw [c_4]; decide) (by rw [c_4]; decide) (by decide) ?_
        exact lw_c4 hC hk hL (by omega) (by omega) hI hl K
      rcases Decidable.em (xs (5 * k) &&& 15 = 5) with c_5 | c_5
      · refine lv_tableIn (off := 268) (tgt := 307) hx hb d_law_39 (by rw [c_5]; decide) (by rw [c_5]; decide) (by rw [c_5]; decide) (by decide) ?_
        exact lw_c5 hC hk hL (by omega) (by omega) hI hl K
      rcases Decidable.em (xs (5 * k) &&& 15 = 6) with c_6 | c_6
      · refine lv_tableIn (off := 321) (tgt := 360) hx hb d_law_39 (by rw [c_6]; decide) (by rw [c_6]; decide) (by rw [c_6]; decide) (by decide) ?_
        exact lw_c6 hC hk hL (by omega) (by omega) hI hl K
      rcases Decidable.em (xs (5 * k) &&& 15 = 7) with c_7 | c_7
      · refine lv_tableIn (off := 346) (tgt := 385) hx hb d_law_39 (by rw [c_7]; decide) (by rw [c_7]; decide) (by rw [c_7]; decide) (by decide) ?_
        exact lw_c7 hC hk hL (by omega) (by omega) hI hl K
      rcases Decidable.em (xs (5 * k) &&& 15 = 8) with c_8 | c_8
      · refine lv_tableIn (off := 359) (tgt := 398) hx hb d_law_39 (by rw [c_8]; decide) (by rw [c_8]; decide) (by rw [c_8]; decide) (by decide) ?_
        exact lw_c8 hC hk hL (by omega) (by omega) hI hl K
      rcases Decidable.em (xs (5 * k) &&& 15 = 9) with c_9 | c_9
      · refine lv_tableIn (off := 460) (tgt := 499) hx hb d_law_39 (by rw [c_9]; decide) (by rw [c_9]; decide) (by rw [c_9]; decide) (by decide) ?_
        exact lw_c9 hC hk hL (by omega) (by omega) hI hl K
      rcases Decidable.em (xs (5 * k) &&& 15 = 10) with c_10 | c_10
      · refine lv_tableIn (off := 485) (tgt := 524) hx hb d_law_39 (by rw [c_10]; decide) (by rw [c_10]; decide) (by rw [c_10]; decide) (by decide) ?_
        exact lw_c10 hC hk hL (by omega) (by omega) hI hl K
      rcases Decidable.em (xs (5 * k) &&& 15 = 11) with c_11 | c_11
      · refine lv_tableIn (off := 522) (tgt := 561) hx hb d_law_39 (by rw [c_11]; decide) (by rw [c_11]; decide) (by rw [c_11]; decide) (by decide) ?_
        exact lw_c11 hC hk hL (by omega) (by omega) hI hl K
      rcases Decidable.em (xs (5 * k) &&& 15 = 12) with c_12 | c_12
      · refine lv_tableIn (off := 578) (tgt := 617) hx hb d_law_39 (by rw [c_12]; decide) (by rw [c_12]; decide) (by rw [c_12]; decide) (by decide) ?_
        exact lw_c12 hC hk hL (by omega) (by omega) hI hl K
      have hsw : (xs (5 * k) &&& 15).toInt < 0 ∨ 12 < (xs (5 * k) &&& 15).toInt := by
        have n0 := lv_neT (a := 0) c_0 (by decide)
        have n1 := lv_neT (a := 1) c_1 (by decide)
        have n2 := lv_neT (a := 2) c_2 (by decide)
        have n3 := lv_neT (a := 3) c_3 (by decide)
        have n4 := lv_neT (a := 4) c_4 (by decide)
        have n5 := lv_neT (a := 5) c_5 (by decide)
        have n6 := lv_neT (a := 6) c_6 (by decide)
        have n7 := lv_neT (a := 7) c_7 (by decide)
        have n8 := lv_neT (a := 8) c_8 (by decide)
        have n9 := lv_neT (a := 9) c_9 (by decide)
        have n10 := lv_neT (a := 10) c_10 (by decide)
        have n11 := lv_neT (a := 11) c_11 (by decide)
        have n12 := lv_neT (a := 12) c_12 (by decide)
        omega
      refine lv_tableOut (tgt := 630) hx hb d_law_39 hsw (by decide) ?_
      refine W.widen (k := cn + 2) (n := sn + 31) (by omega) (by omega) ?_
      exact K H locs ls hI.up hl
