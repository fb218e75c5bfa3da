/-! each call, beside the reference's -/
section RL3
variable {mon mm : Nat → Mon} {cod : Nat → Cod} {cc : Nat → Cdm} {nM nC : Nat}
theorem tc_eq (h : RelC cod cc nC) (md : Int32) : ∀ j, j ≤ nC → ∀ (b : OB) (mb : MB), OR b mb (41 - 2 * j) → OR (tcF cod md nC j b) (mtcF (pj q0 cc) (pj q2 cc) (pj q3 cc) (pj q4 cc) md nC j mb) 41
  | 0, _, b, mb, ho => ho
  | j + 1, hj, b, mb, ho => by
    have hn := h.1
    obtain ⟨e0, -, e2, e3, e4, -, -, b2, b3, b4, -⟩ := h.2.1 (nC - (j + 1)) (by omega)
    rw [tcF, mtcF, pj_k, pj_k, pj_k, pj_k, e0, e2, e3, e4]
    refine tc_eq h md j (by omega) _ _ ?_
    have et : mtold md (cod (nC - (j + 1))).2.2.1 (cod (nC - (j + 1))).2.2.2.1 (cod (nC - (j + 1))).2.2.2.2.1 = toldF md (cod (nC - (j + 1))).2.2.1 (cod (nC - (j + 1))).2.2.2.1 (cod (nC - (j + 1))).2.2.2.2.1 := by
      unfold mtold toldF
      rcases b2 with z2 | z2 <;> rcases b3 with z3 | z3 <;> rcases b4 with z4 | z4 <;> simp [z2, z3, z4, t10]
    rw [et]
    split
    · exact ho.up (by omega)
    · have h2 := ho.two (by omega) (cod (nC - (j + 1))).1
      exact h2.up (by omega)
theorem tn_eq (h : RelM mon mm nM) : ∀ j, j ≤ nM → ∀ (b : OB) (mb : MB), OR b mb (34 - 2 * j) → OR (tnF mon nM j b) (mtnF (pj m2 mm) (pj m3 mm) nM j mb) 34
  | 0, _, b, mb, ho => ho
  | j + 1, hj, b, mb, ho => by
    have hn := h.1
    obtain ⟨-, -, e2, e3, -⟩ := h.2.1 (nM - (j + 1)) (by omega)
    rw [tnF, mtnF, pj_k, pj_k, e2, e3]
    refine tn_eq h j (by omega) _ _ ?_
    have h2 := (ho.add (by omega) (mon (nM - (j + 1))).2.2.1).add (by omega) (mon (nM - (j + 1))).2.2.2.1
    exact h2.up (by omega)
theorem ans_eq (hM : RelM mon mm nM) (hC : RelC cod cc nC) (md id : Int32) (b : OB) (rw : Nat → Int32) (li : Int32) (me : Int64) :
    OR (ansF md id b cod nC mon nM li me) (mansF md id ((0 : Nat), rw) (pj q3 cc) (pj q2 cc) (pj q4 cc) (pj q0 cc) (pj q7 cc) (pj q8 cc) (pj q9 cc) (pj m0 mm) (pj m5 mm) (pj m2 mm) (pj m3 mm) nC nM li me) 41 := by
  have h0 := OR.nil b rw
  have hnC := hC.1
  have hnM := hM.1
  unfold ansF mansF
  by_cases c1 : md = 1
  · subst c1
    simp only [if_true]
    unfold tnow
    by_cases i1 : id = 1
    · subst i1
      rw [if_pos rfl, if_pos rfl]
      unfold mtS
      rw [cntC_eq hC nC (Nat.le_refl _), bits_eq hM]
      have e : oBeg ((0 : Int32), b.2) 1 = oAdd ((0 : Int32), b.2) 65 := by unfold oBeg; rw [show (64 + 1 : Int32) = 65 by decide]
      rw [e]
      exact ((((h0.add (by omega) _).add (by omega) _).add (by omega) _).add (by omega) _).up (by omega)
    · rw [if_neg i1, if_neg i1]
      by_cases i2 : id = 33
      · subst i2
        rw [if_pos rfl, if_pos rfl, two_eq]
        have e : oBeg ((0 : Int32), b.2) 1 = oAdd ((0 : Int32), b.2) 65 := by unfold oBeg; rw [show (64 + 1 : Int32) = 65 by decide]
        rw [e]
        exact (((h0.add (by omega) _).add (by omega) _).two (by omega) _).up (by omega)
      · rw [if_neg i2, if_neg i2]
        exact h0.up (by omega)
  · rw [if_neg c1, if_neg c1]
    by_cases c2 : md = 2
    · subst c2
      simp only [if_true]
      unfold tfro mtF
      rw [in_7, ff_eq hC nC (Nat.le_refl _)]
      rcases e : ffF cod nC nC with _ | j
      · rw [Option.getD_none, if_pos (nI_le (Nat.le_refl _) (by omega))]
        have e9 : (if (if id < 0 then (0 : Int32) else if 7 < id then 0 else 1) = 0 then (((0 : Nat), rw) : MB) else (((0 : Nat), rw) : MB)) = ((0 : Nat), rw) := ite_self _
        rw [e9]
        exact h0.up (by omega)
      · have hj := ffF_lt (Nat.le_refl _) e
        have hf := ff_some nC (Nat.le_refl _) e
        obtain ⟨g1, g2⟩ := (hC.2.1 j hj).fr hf
        obtain ⟨e0, -⟩ := hC.2.1 j hj
        rw [Option.getD_some, if_neg (nI_ge hj (by omega)), pj_k, pj_k, pj_k, e0, g1, g2]
        show OR (if id < 0 then _ else if 8 ≤ id then _ else _) _ 41
        by_cases i1 : id < 0
        · simp only [if_pos i1, if_true]
          exact h0.up (by omega)
        · by_cases i2 : id < 8
          · have i3 : ¬ 8 ≤ id := Int32.not_le.mpr i2
            have i4 : ¬ 7 < id := fun z => (lt_7 id).mp z i2
            rw [if_neg i1, if_neg i3, if_neg i1, if_neg i4, if_neg (show ¬ (1 : Int32) = 0 by decide)]
            have e : oBeg ((0 : Int32), b.2) 2 = oAdd ((0 : Int32), b.2) 66 := by unfold oBeg; rw [show (64 + 2 : Int32) = 66 by decide]
            rw [e]
            exact (((((h0.add (by omega) _).add (by omega) _).two (by omega) _).two (by omega) _).add (by omega) _).up (by omega)
          · have i3 : 8 ≤ id := Int32.not_lt.mp i2
            have i4 : 7 < id := (lt_7 id).mpr i2
            rw [if_neg i1, if_pos i3, if_neg i1, if_pos i4, if_pos rfl]
            exact h0.up (by omega)
    · rw [if_neg c2, if_neg c2]
      have ht : ∀ m : Int32, OR (tcod ((0 : Int32), b.2) m cod nC) (mtcF (pj q0 cc) (pj q2 cc) (pj q3 cc) (pj q4 cc) m nC nC (mPut ((0 : Nat), rw) (64 + m))) 41 := fun m => tc_eq hC m nC (Nat.le_refl _) _ _ ((h0.add (by omega) _).up (by omega))
      by_cases c3 : md = 3
      · rw [if_pos c3, if_pos c3]
        exact ht md
      · rw [if_neg c3, if_neg c3]
        by_cases c7 : md = 7
        · subst c7
          simp only [eq_false (show ¬ (7 : Int32) = 4 by decide), eq_false (show ¬ (7 : Int32) = 5 by decide), eq_false (show ¬ (7 : Int32) = 6 by decide), if_true, if_false]
          exact ht 7
        · by_cases c10 : md = 10
          · subst c10
            simp only [eq_false (show ¬ (10 : Int32) = 4 by decide), eq_false (show ¬ (10 : Int32) = 5 by decide), eq_false (show ¬ (10 : Int32) = 6 by decide), eq_false (show ¬ (10 : Int32) = 7 by decide), eq_false (show ¬ (10 : Int32) = 8 by decide), eq_false (show ¬ (10 : Int32) = 9 by decide), if_true, if_false]
            exact ht 10
          · by_cases c9 : md = 9
            · subst c9
              simp only [eq_false (show ¬ (9 : Int32) = 4 by decide), eq_false (show ¬ (9 : Int32) = 5 by decide), eq_false (show ¬ (9 : Int32) = 6 by decide), eq_false (show ¬ (9 : Int32) = 7 by decide), eq_false (show ¬ (9 : Int32) = 8 by decide), eq_false (show ¬ (9 : Int32) = 10 by decide), if_true, if_false]
              unfold tcnt
              by_cases i8 : id = 8
              · subst i8
                rw [if_pos rfl, if_pos rfl]
                have e : oBeg ((0 : Int32), b.2) 9 = oAdd ((0 : Int32), b.2) 73 := by unfold oBeg; rw [show (64 + 9 : Int32) = 73 by decide]
                rw [e]
                exact (tn_eq hM nM (Nat.le_refl _) _ _ (((h0.add (by omega) _).add (by omega) _).up (by omega))).up (by omega)
              · rw [if_neg i8, if_neg i8]
                exact h0.up (by omega)
            · have e : (if md = 4 then (((0 : Int32), b.2) : OB) else if md = 5 then ((0 : Int32), b.2) else if md = 6 then ((0 : Int32), b.2) else if md = 7 then tcod ((0 : Int32), b.2) md cod nC else if md = 8 then ((0 : Int32), b.2) else if md = 9 then tcnt ((0 : Int32), b.2) id mon nM else if md = 10 then tcod ((0 : Int32), b.2) md cod nC else ((0 : Int32), b.2)) = ((0 : Int32), b.2) := by
                simp only [c7, c9, c10, if_false, ite_self]
              rw [e, if_neg c7, if_neg c10, if_neg c9]
              exact h0.up (by omega)
theorem sum_eq {b : OB} {mb : MB} (h : OR b mb 41) : totF b.1 b.2 41 0 = msF mb.2 mb.1 := by
  obtain ⟨h1, h2, h3⟩ := h
  have key : ∀ d k, k + d = mb.1 → totF (nI mb.1) b.2 (41 - k) (msF mb.2 k) = msF mb.2 mb.1 := by
    intro d
    induction d with
    | zero =>
      intro k hk
      have hk : k = mb.1 := by omega
      subst hk
      exact totF_stop (nI_le (Nat.le_refl _) (by omega)) (by omega)
    | succ d ih =>
      intro k hk
      obtain ⟨v, v1, v2⟩ := h3 k (by omega)
      rw [totF_step _ (show k < 41 by omega), if_neg (nI_ge (show k < mb.1 by omega) (by omega)), v1, bp_b, ← v2]
      exact ih (k + 1) (by omega)
  rw [h1]
  exact key mb.1 0 (by omega)
-- ratio
def raV (mon : Nat → Mon) (nM : Nat) (mo sd : Int32) : Int64 := if isM mo nM = 0 then (-1) else (ilF (if sd = 0 then (mon (ixM mo)).2.2.1 else (mon (ixM mo)).2.2.2.1) (mon (ixM mo)).2.2.1 (mon (ixM mo)).2.2.2.1 (mon (ixM mo)).2.2.2.1.toNatClampNeg).toInt64
theorem il_eq (pt ru lo : Int32) : ∀ k, 0 < k → k < 1000 → ilF pt ru lo k = pt / nI (mrl ru lo k)
  | 0, h, _ => absurd h (Nat.lt_irrefl 0)
  | 1, _, _ => by
    rw [ilF_stop (show nI 1 ≤ 1 by decide), mrl_step (by omega), if_pos (rem1 _), if_pos (rem1 _), show nI 1 = 1 by decide]
    simp
  | k + 2, _, hk => by
    have h1 : ¬ nI (k + 2) ≤ 1 := by
      rw [show (1 : Int32) = nI 1 by decide]
      exact nI_ge (by omega) (by omega)
    rw [ilF_step (by omega), mrl_step (by omega), if_neg h1, show k + 2 - 1 = k + 1 by omega]
    split
    · split
      · rfl
      · exact il_eq pt ru lo (k + 1) (by omega) (by omega)
    · exact il_eq pt ru lo (k + 1) (by omega) (by omega)
/-- does ratio throw? -/
def raT (mon : Nat → Mon) (nM : Nat) (mo : Int32) : Prop := ¬ isM mo nM = 0 ∧ (mon (ixM mo)).2.2.2.1 = 0
theorem raC_eq (h : RelM mon mm nM) (mo : Int32) : (raT mon nM mo → mraC (pj m3 mm) nM mo = 1) ∧ (¬ raT mon nM mo → mraC (pj m3 mm) nM mo = 0) := by
  have hn := h.1
  unfold mraC raT
  rw [inF_isM mo (by omega)]
  by_cases h1 : isM mo nM = 0
  · simp [h1]
  · obtain ⟨k, hk, e⟩ := isM_some h1 (by omega)
    obtain ⟨-, -, -, e3, -⟩ := h.2.1 k hk
    have ex : ixM mo = k := by rw [e]; exact ixM_at (by omega)
    rw [ex, pj_k, e3]
    by_cases h2 : (mon k).2.2.2.1 = 0
    · simp [h1, h2]
    · simp [h1, h2]
theorem ra_eq (h : RelM mon mm nM) (mo sd : Int32) (ht : ¬ raT mon nM mo) : mraV (pj m2 mm) (pj m3 mm) nM mo sd = raV mon nM mo sd := by
  have hn := h.1
  unfold mraV raV
  rw [inF_isM mo (by omega)]
  by_cases h1 : isM mo nM = 0
  · rw [if_pos h1, if_pos h1]
  · rw [if_neg h1, if_neg h1]
    obtain ⟨k, hk, e⟩ := isM_some h1 (by omega)
    obtain ⟨-, -, e2, e3, -, -, -, -, ⟨c, hc, ec⟩, -⟩ := h.2.1 k hk
    have ex : ixM mo = k := by rw [e]; exact ixM_at (by omega)
    have h2 : ¬ (mon k).2.2.2.1 = 0 := fun z => ht ⟨h1, by rw [ex]; exact z⟩
    have hc0 : 0 < c := Nat.pos_of_ne_zero (fun z => h2 (by rw [ec, z]; exact nI_0))
    rw [ex, pj_k, pj_k, e2, e3, if_neg h2, ec, nI_clamp (by omega)]
    by_cases h3 : sd = 0
    · rw [if_pos h3, if_pos h3, il_eq _ _ _ c hc0 (by omega)]
    · rw [if_neg h3, if_neg h3, il_eq _ _ _ c hc0 (by omega)]
theorem cn_eq (h : RelM mon mm nM) (mo wh : Int32) : mcnF (pj m2 mm) (pj m3 mm) nM mo wh = cnF mon nM mo wh := by
  have hn := h.1
  unfold mcnF cnF
  rw [inF_isM mo (by omega)]
  by_cases h1 : isM mo nM = 0
  · rw [if_pos h1, if_pos h1]
  · obtain ⟨k, hk, e⟩ := isM_some h1 (by omega)
    obtain ⟨-, -, e2, e3, -⟩ := h.2.1 k hk
    have ex : ixM mo = k := by rw [e]; exact ixM_at (by omega)
    rw [if_neg h1, if_neg h1, ex, pj_k, pj_k, e2, e3]
-- at
theorem atC_eq {b : OB} {mb : MB} (h : OR b mb 41) (i : Int32) : (hasF i b.1 = 0 → matC i mb.1 = 1) ∧ (¬ hasF i b.1 = 0 → matC i mb.1 = 0 ∧ matV mb.2 mb.1 i = b.2 i.toNatClampNeg ∧ ∃ v : Int32, b.2 i.toNatClampNeg = v.toInt8.toInt32) := by
  obtain ⟨h1, h2, h3⟩ := h
  have ha := at_eq (i := i) h2
  rw [h1]
  unfold matC matV
  constructor
  · intro z
    rw [if_pos (ha.mp z)]
  · intro z
    have z2 : ¬ inF i.toInt64 0 ((nI mb.1).toInt64 - 1) = 0 := fun y => z (ha.mpr y)
    obtain ⟨k, hk, e⟩ := inF_ix (by omega) z2
    obtain ⟨v, v1, v2⟩ := h3 k hk
    rw [if_neg z2, if_neg z2, e, nI_clamp (by omega), v2, v1, rb_b]
    exact ⟨rfl, rfl, v, rfl⟩
-- lamp
theorem lm_x (xm xi : Int64) (li : Int32) (x d : Int64) : mlX xm xi li x d = lmpX xm xi li x d := by
  unfold mlX lmpX goM
  rw [lm_eq]
theorem lm_r (xm xi : Int64) (li : Int32) : mlR xm xi li = lmpR xm xi li := by
  unfold mlR lmpR
  rw [lm_eq]
-- cycle
theorem RelM.cycle (h : RelM mon mm nM) (cs ts : Int32) : RelM (cyM cs ts nM mon) (mcM cs ts nM mm) nM := by
  unfold cyM mcM
  rw [cy_eq]
  split
  · exact h
  · refine ⟨h.1, fun i hi => ?_, fun i hi => ?_⟩
    · simp only [upto, if_pos hi]
      exact (h.2.1 i hi).step cs ts i
    · simp only [upto, if_neg (show ¬ i < nM by omega)]
      exact h.2.2 i hi
theorem RelC.cycle (h : RelC cod cc nC) (cs ts cyc : Int32) (hc : ¬ cyc + 1 = 0) : RelC (cyC cs ts cyc nC cod) (mcD cs ts cyc nC cc) nC := by
  unfold cyC mcD
  rw [cy_eq]
  split
  · exact h
  · refine ⟨h.1, fun i hi => ?_, fun i hi => ?_⟩
    · simp only [upto, if_pos hi]
      exact (h.2.1 i hi).step (cyc + 1) cs i hc
    · simp only [upto, if_neg (show ¬ i < nC by omega)]
      exact h.2.2 i hi
theorem cyV_eq (h : RelM mon mm nM) (cs ts : Int32) : mcV cs ts nM mm = cyR cs ts nM mon := by
  unfold mcV cyR
  rw [cy_eq, cntM_eq h cs nM (Nat.le_refl _)]
theorem cyS_eq (h : RelC cod cc nC) (cs cyc : Int32) (hc : ¬ cyc + 1 = 0) : mcS cs cyc nC cc = cyS cs cyc nC cod := by
  have h1 : RelC (upto (gCy (cyc + 1) cs) cod nC) (upto (gMc (cyc + 1) cs) cc nC) nC := by
    refine ⟨h.1, fun i hi => ?_, fun i hi => ?_⟩
    · simp only [upto, if_pos hi]
      exact (h.2.1 i hi).step (cyc + 1) cs i hc
    · simp only [upto, if_neg (show ¬ i < nC by omega)]
      exact h.2.2 i hi
  unfold mcS cyS
  rw [cntC_eq h1 nC (Nat.le_refl _)]
theorem cyL_eq (h : RelC cod cc nC) (cs ts cyc li : Int32) (hc : ¬ cyc + 1 = 0) : mcL cs ts cyc nC cc li = cyL cs ts cyc nC cod li := by
  unfold mcL cyL
  rw [cy_eq, cyS_eq h cs cyc hc]
theorem cyZ_eq (h : RelC cod cc nC) (cs ts cyc li : Int32) (x : Int64) (hc : ¬ cyc + 1 = 0) : mcX cs ts cyc nC cc li x = cyZ cs ts cyc nC cod li x := by
  unfold mcX cyZ
  rw [cy_eq, cyS_eq h cs cyc hc]
theorem cyN_eq (cs ts cyc : Int32) : mcN cs ts cyc = cyN cs ts cyc := by
  unfold mcN cyN
  rw [cy_eq]
theorem cyL_bz {li : Int32} (h : bz li) (cs ts cyc : Int32) (cod : Nat → Cod) (nC : Nat) : bz (cyL cs ts cyc nC cod li) := bz_if h (cyS_bz _ _ _ _)
theorem cyN_up {cyc : Int32} {n : Nat} (h : ∃ c, c ≤ n ∧ cyc = nI c) (cs ts : Int32) : ∃ c, c ≤ n + 1 ∧ cyN cs ts cyc = nI c := by
  obtain ⟨c, hc, e⟩ := h
  unfold cyN
  split
  · exact ⟨c, by omega, e⟩
  · exact ⟨c + 1, by omega, by rw [e, nI_1]⟩
-- clear
def gZ1 (_ : Nat) (w : Mon) : Mon := (m0 w, m1 w, m2 w, m3 w, m4 w, 0)
def gZ2 (_ : Nat) (w : Cdm) : Cdm := (q0 w, q1 w, 0, 0, q4 w, 0, q6 w, 0, q8 w, q9 w)
theorem zk_pj {α : Type} {π : α → Int32} {g : Nat → α → α} {f : Nat → α} {k : Nat} (h : ∀ i w, π (g i w) = 0) : pj π (upto g f k) = zk (pj π f) k := by
  funext i
  unfold pj upto zk
  split
  · exact h i (f i)
  · rfl
theorem sm_pj {α : Type} {π : α → Int32} {g : Nat → α → α} {f : Nat → α} {k : Nat} (h : ∀ i w, π (g i w) = π w) : pj π (upto g f k) = pj π f := by
  funext i
  unfold pj upto
  split
  · exact h i (f i)
  · rfl
theorem RelM.clear (h : RelM mon mm nM) : RelM (upto gNt mon nM) (upto gZ1 mm nM) nM := by
  refine ⟨h.1, fun i hi => ?_, fun i hi => ?_⟩
  · simp only [upto, if_pos hi]
    obtain ⟨h0, h1, h2, h3, h4, h5, h6, h7, h8, h9⟩ := h.2.1 i hi
    exact ⟨h0, h1, h2, h3, h4, rfl, h6, h7, h8, bz0⟩
  · simp only [upto, if_neg (show ¬ i < nM by omega)]
    exact h.2.2 i hi
theorem RelC.clear (h : RelC cod cc nC) : RelC (upto gFg cod nC) (upto gZ2 cc nC) nC := by
  refine ⟨h.1, fun i hi => ?_, fun i hi => ?_⟩
  · simp only [upto, if_pos hi]
    obtain ⟨h0, h1, h2, h3, h4, h6, b1, b2, b3, b4, hx, h5, ho, hA, hB⟩ := h.2.1 i hi
    exact ⟨h0, h1, rfl, rfl, h4, h6, b1, bz0, bz0, b4, fun _ => rfl, fun z => absurd (show (0 : Int32) = 1 from z) (by decide), Or.inl rfl, fun z => by rcases z with z | z <;> exact absurd (show (0 : Int32) = 1 from z) (by decide), fun _ _ => ⟨rfl, rfl, rfl⟩⟩
  · simp only [upto, if_neg (show ¬ i < nC by omega)]
    exact h.2.2 i hi
-- monitor
def mmM (ka ca : Int32) (nM : Nat) (mm : Nat → Mon) : Nat → Mon := if mnB ka ca = 0 then mm else if nI nM < 16 then va_up mm nM (ka, ca, m2 (mm nM), m3 (mm nM), m4 (mm nM), m5 (mm nM)) else mm
theorem n16 {n : Nat} (h : n ≤ 16) : nI n = 16 ↔ ¬ nI n < 16 := by
  have : ∀ n, n ≤ 16 → (nI n = 16 ↔ ¬ nI n < 16) := by decide +kernel
  exact this n h
theorem n20 {n : Nat} (h : n ≤ 20) : nI n = 20 ↔ ¬ nI n < 20 := by
  have : ∀ n, n ≤ 20 → (nI n = 20 ↔ ¬ nI n < 20) := by decide +kernel
  exact this n h
theorem mnR_eq (h : RelM mon mm nM) (ka ca : Int32) : mmR ka ca nM = mnR ka ca nM := by
  unfold mmR mnR
  rw [mm_eq]
  by_cases h1 : nI nM < 16
  · rw [if_neg (fun z => (n16 h.1).mp z h1), if_pos h1]
  · rw [if_pos ((n16 h.1).mpr h1), if_neg h1]
theorem mnN_eq (h : RelM mon mm nM) (ka ca : Int32) : mmN ka ca nM = mnN ka ca nM := by
  unfold mmN mnN
  rw [mm_eq]
  by_cases h1 : nI nM < 16
  · rw [if_neg (fun z => (n16 h.1).mp z h1), if_pos h1]
  · rw [if_pos ((n16 h.1).mpr h1), if_neg h1]
theorem mmA_0 (h : RelM mon mm nM) (ka ca : Int32) : pj m0 (mmM ka ca nM mm) = mmA ka ca nM (pj m0 mm) ka := by
  unfold mmM mmA
  rw [mm_eq]
  split
  · rfl
  · by_cases h1 : nI nM < 16
    · rw [if_pos h1, if_neg (fun z => (n16 h.1).mp z h1)]
      funext i
      unfold pj va_up upd
      split <;> rfl
    · rw [if_neg h1, if_pos ((n16 h.1).mpr h1)]
theorem mmA_1 (h : RelM mon mm nM) (ka ca : Int32) : pj m1 (mmM ka ca nM mm) = mmA ka ca nM (pj m1 mm) ca := by
  unfold mmM mmA
  rw [mm_eq]
  split
  · rfl
  · by_cases h1 : nI nM < 16
    · rw [if_pos h1, if_neg (fun z => (n16 h.1).mp z h1)]
      funext i
      unfold pj va_up upd
      split <;> rfl
    · rw [if_neg h1, if_pos ((n16 h.1).mpr h1)]
theorem mmM_s {π : Mon → Int32} (hp : ∀ (a b : Int32) (w : Mon), π (a, b, m2 w, m3 w, m4 w, m5 w) = π w) (ka ca : Int32) : pj π (mmM ka ca nM mm) = pj π mm := by
  unfold mmM
  split
  · rfl
  · split
    · funext i
      unfold pj va_up
      split
      · next e => rw [e]; exact hp _ _ _
      · rfl
    · rfl
theorem kind_n {ka : Int32} (h : ¬ kindF ka = 0) : ∃ k, k < 4 ∧ ka = nI k := by
  unfold kindF at h
  by_cases h1 : ka < 0
  · simp [h1] at h
  · by_cases h2 : 4 ≤ ka
    · simp [h1, h2] at h
    · obtain ⟨j, hj, e⟩ := nI_of h1
      subst e
      rw [show (4 : Int32) = nI 4 by decide, nI_leI (by omega) hj] at h2
      exact ⟨j, by omega, rfl⟩
theorem RelM.monitor (h : RelM mon mm nM) (ka ca : Int32) : RelM (mnM ka ca nM mon) (mmM ka ca nM mm) (mnN ka ca nM) := by
  unfold mnM mmM mnN
  by_cases h1 : mnB ka ca = 0
  · rw [if_pos h1, if_pos h1, if_pos h1]
    exact h
  · rw [if_neg h1, if_neg h1, if_neg h1]
    by_cases h2 : nI nM < 16
    · rw [if_pos h2, if_pos h2, if_pos h2]
      have hn := h.1
      have hlt : nM < 16 := nI_16 hn (fun z => (n16 hn).mp z h2)
      unfold mnB at h1
      have k1 : ¬ kindF ka = 0 := fun z => h1 (by rw [if_pos z])
      rw [if_neg k1] at h1
      have k2 : ¬ ca < 0 := fun z => h1 (by rw [if_pos z])
      rw [if_neg k2] at h1
      have k3 : ca < 8 := Classical.byContradiction (fun z => h1 (by rw [if_neg z]))
      obtain ⟨j, hj, e⟩ := nI_of k2
      subst e
      rw [show (8 : Int32) = nI 8 by decide, nI_ltI hj (by omega)] at k3
      obtain ⟨z2, z3, z4, z5⟩ := h.2.2 nM (Nat.le_refl _)
      refine ⟨by omega, fun i hi => ?_, fun i hi => ?_⟩
      · by_cases e : i = nM
        · subst e
          rw [va_up_self, va_up_self]
          refine ⟨rfl, rfl, ?_, ?_, fun _ => ?_, ?_, kind_n k1, ⟨j, k3, rfl⟩, ⟨0, by omega, by show (0 : Int32) = nI 0; decide⟩, bz0⟩
          · exact z2
          · exact z3
          · exact z4
          · exact z5
        · rw [va_up_ne _ _ e, va_up_ne _ _ e]
          exact h.2.1 i (by omega)
      · rw [va_up_ne _ _ (show i ≠ nM by omega)]
        exact h.2.2 i (by omega)
    · rw [if_neg h2, if_neg h2, if_neg h2]
      exact h
-- fault
def ccF (nu oo : Int32) (nC : Nat) (cod : Nat → Cod) (cc : Nat → Cdm) : Nat → Cdm := if ftB nu = 0 then cc else match kcF cod nu nC nC with
  | some j => va_up cc j (q0 (cc j), oo, q2 (cc j), q3 (cc j), q4 (cc j), q5 (cc j), q6 (cc j), q7 (cc j), q8 (cc j), q9 (cc j))
  | none => if nI nC < 20 then va_up cc nC (nu, oo, q2 (cc nC), q3 (cc nC), q4 (cc nC), q5 (cc nC), q6 (cc nC), q7 (cc nC), q8 (cc nC), q9 (cc nC)) else cc
theorem k20 {k n : Nat} (h : k < n) (hn : n ≤ 20) : ¬ nI k = 20 := by
  rw [show (20 : Int32) = nI 20 by decide, nI_eq (by omega) (by omega)]
  omega
theorem kcF_is {nu : Int32} {n : Nat} : ∀ {m j : Nat}, kcF cod nu n m = some j → (cod j).1 = nu
  | 0, j, z => by simp [kcF] at z
  | m + 1, j, z => by
    rw [kcF] at z
    by_cases h1 : (cod (n - (m + 1))).1 = nu
    · rw [if_pos h1] at z
      cases z
      exact h1
    · rw [if_neg h1] at z
      exact kcF_is z
theorem ftN_eq (h : RelC cod cc nC) (nu : Int32) : mfN (pj q0 cc) nu nC = ftN nu nC cod := by
  have hn := h.1
  unfold mfN ftN
  rw [ft_eq, kc_eq h nu nC (Nat.le_refl _)]
  split
  · rfl
  · rcases e : kcF cod nu nC nC with _ | j
    · rw [Option.getD_none]
      by_cases h1 : nI nC < 20
      · rw [if_neg (fun z => (n20 hn).mp z h1), if_pos rfl]
        exact (if_pos h1).symm
      · rw [if_pos ((n20 hn).mpr h1)]
        exact (if_neg h1).symm
    · have hj := kcF_lt (Nat.le_refl _) e
      rw [Option.getD_some, if_neg (k20 hj hn), if_neg (fun z => by have := (nI_eq (by omega) (by omega)).mp z; omega)]
theorem ftR_eq (h : RelC cod cc nC) (nu : Int32) : mfR (pj q0 cc) nu nC = ftR nu nC cod := by
  have hn := h.1
  unfold mfR
  rw [ftN_eq h]
  unfold ftR ftN
  rw [ft_eq, kc_eq h nu nC (Nat.le_refl _)]
  by_cases h0 : ftB nu = 0
  · rw [if_pos h0, if_pos h0]
  · rw [if_neg h0, if_neg h0, if_neg h0]
    rcases e : kcF cod nu nC nC with _ | j
    · rw [Option.getD_none]
      show (if nI nC = 20 then (-4) else nI (if nI nC < 20 then nC + 1 else nC)) = (if nI nC < 20 then nI (nC + 1) else (-4))
      by_cases h1 : nI nC < 20
      · rw [if_neg (fun z => (n20 hn).mp z h1), if_pos h1, if_pos h1]
      · rw [if_pos ((n20 hn).mpr h1), if_neg h1]
    · have hj := kcF_lt (Nat.le_refl _) e
      rw [Option.getD_some, if_neg (k20 hj hn)]
theorem ccF_0 (h : RelC cod cc nC) (nu oo : Int32) : pj q0 (ccF nu oo nC cod cc) = mfA (pj q0 cc) nu nC := by
  have hn := h.1
  unfold ccF mfA
  rw [ft_eq, kc_eq h nu nC (Nat.le_refl _)]
  split
  · rfl
  · rcases e : kcF cod nu nC nC with _ | j
    · rw [Option.getD_none]
      show pj q0 (if nI nC < 20 then _ else cc) = _
      by_cases h1 : nI nC < 20
      · rw [if_neg (fun z => (n20 hn).mp z h1), if_pos rfl, if_pos h1]
        funext i
        unfold pj va_up upd
        split <;> rfl
      · rw [if_pos ((n20 hn).mpr h1), if_neg h1]
    · have hj := kcF_lt (Nat.le_refl _) e
      rw [Option.getD_some, if_neg (k20 hj hn), if_neg (show ¬ nI j = nI nC from fun z => by have := (nI_eq (by omega) (by omega)).mp z; omega)]
      funext i
      unfold pj va_up
      dsimp only
      split
      · next e9 => rw [e9]; rfl
      · rfl
theorem ccF_1 (h : RelC cod cc nC) (nu oo : Int32) : pj q1 (ccF nu oo nC cod cc) = mfO (pj q0 cc) (pj q1 cc) nu oo nC := by
  have hn := h.1
  unfold ccF mfO
  rw [ft_eq, kc_eq h nu nC (Nat.le_refl _)]
  split
  · rfl
  · rcases e : kcF cod nu nC nC with _ | j
    · rw [Option.getD_none]
      show pj q1 (if nI nC < 20 then _ else cc) = _
      by_cases h1 : nI nC < 20
      · rw [if_neg (fun z => (n20 hn).mp z h1), if_pos h1]
        funext i
        unfold pj va_up upd
        split <;> rfl
      · rw [if_pos ((n20 hn).mpr h1), if_neg h1]
    · have hj := kcF_lt (Nat.le_refl _) e
      rw [Option.getD_some, if_neg (k20 hj hn)]
      funext i
      unfold pj va_up upd
      dsimp only
      split <;> rfl
theorem ccF_s {π : Cdm → Int32} (hp : ∀ (a b : Int32) (w : Cdm), π (a, b, q2 w, q3 w, q4 w, q5 w, q6 w, q7 w, q8 w, q9 w) = π w) (nu oo : Int32) : pj π (ccF nu oo nC cod cc) = pj π cc := by
  unfold ccF
  split
  · rfl
  · split
    · funext i
      unfold pj va_up
      split
      · next e => rw [e]; exact hp _ _ _
      · rfl
    · split
      · funext i
        unfold pj va_up
        split
        · next e => rw [e]; exact hp _ _ _
        · rfl
      · rfl
theorem RelC.fault (h : RelC cod cc nC) (nu oo : Int32) (ho : bz oo) : RelC (ftC nu oo nC cod) (ccF nu oo nC cod cc) (ftN nu nC cod) := by
  have hn := h.1
  unfold ftC ccF ftN
  by_cases h0 : ftB nu = 0
  · rw [if_pos h0, if_pos h0, if_pos h0]
    exact h
  · rw [if_neg h0, if_neg h0, if_neg h0]
    rcases e : kcF cod nu nC nC with _ | j
    · show RelC (if nI nC < 20 then _ else cod) (if nI nC < 20 then _ else cc) (if nI nC < 20 then nC + 1 else nC)
      by_cases h1 : nI nC < 20
      · rw [if_pos h1, if_pos h1, if_pos h1]
        have hlt : nC < 20 := nI_20 hn (fun z => (n20 hn).mp z h1)
        obtain ⟨z2, z3, z4, z5, z6, z7, z8, z9⟩ := h.2.2 nC (Nat.le_refl _)
        refine ⟨by omega, fun i hi => ?_, fun i hi => ?_⟩
        · by_cases e : i = nC
          · subst e
            rw [va_up_self, va_up_self]
            exact ⟨rfl, rfl, z2, z3, z4, z6, ho, bz0, bz0, bz0, fun _ => rfl, fun _ => z5, Or.inl rfl, fun z => by rcases z with z | z <;> exact absurd (show (0 : Int32) = 1 from z) (by decide), fun _ _ => ⟨z7, rfl, rfl⟩⟩
          · rw [va_up_ne _ _ e, va_up_ne _ _ e]
            exact h.2.1 i (by omega)
        · rw [va_up_ne _ _ (show i ≠ nC by omega)]
          exact h.2.2 i (by omega)
      · rw [if_neg h1, if_neg h1, if_neg h1]
        exact h
    · have hj := kcF_lt (Nat.le_refl _) e
      refine ⟨hn, fun i hi => ?_, fun i hi => ?_⟩
      · by_cases e : i = j
        · subst e
          dsimp only
          rw [va_up_self, va_up_self]
          obtain ⟨h0, h1, h2, h3, h4, h6, b1, b2, b3, b4, hx, h5, ho2, hA, hB⟩ := h.2.1 i hi
          exact ⟨h0, rfl, h2, h3, h4, h6, ho, b2, b3, b4, hx, h5, ho2, hA, hB⟩
        · dsimp only
          rw [va_up_ne _ _ e, va_up_ne _ _ e]
          exact h.2.1 i hi
      · have hi : nC ≤ i := hi
        dsimp only
        rw [va_up_ne _ _ (show i ≠ j by omega)]
        exact h.2.2 i hi
theorem RelM.zero : RelM mon (fun _ => (0, 0, 0, 0, 0, 0)) 0 := ⟨by omega, fun i hi => absurd hi (Nat.not_lt_zero i), fun _ _ => ⟨rfl, rfl, rfl, rfl⟩⟩
theorem RelC.zero : RelC cod (fun _ => (0, 0, 0, 0, 0, 0, 0, 0, 0, 0)) 0 := ⟨by omega, fun i hi => absurd hi (Nat.not_lt_zero i), fun _ _ => ⟨rfl, rfl, rfl, rfl, rfl, rfl, rfl, rfl⟩⟩
end RL3
