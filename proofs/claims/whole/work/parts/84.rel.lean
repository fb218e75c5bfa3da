/-! the class's state beside the reference's: what is common -/
section RL
theorem bp_b (x : Int32) : x.toInt8.toInt32 &&& 255 = x &&& 255 := by
  apply Int32.toBitVec_inj.mp
  rw [Int32.toBitVec_and, Int32.toBitVec_and, Int8.toBitVec_toInt32, Int32.toBitVec_toInt8]
  apply BitVec.eq_of_getLsbD_eq
  intro i hi
  rw [BitVec.getLsbD_and, BitVec.getLsbD_and]
  have hm : ∀ i < 32, 8 ≤ i → (255 : Int32).toBitVec.getLsbD i = false := by decide
  rcases Nat.lt_or_ge i 8 with z | z
  · rw [BitVec.getLsbD_signExtend, BitVec.getLsbD_signExtend, if_pos z, if_pos hi]
    simp only [z, hi, decide_true, Bool.true_and]
  · rw [hm i hi z]; simp
theorem rb_b (x : Int32) : (x &&& 255).toInt8.toInt32 = x.toInt8.toInt32 := by
  have h : (x &&& 255).toInt8 = x.toInt8 := by
    apply Int8.toBitVec_inj.mp
    rw [Int32.toBitVec_toInt8, Int32.toBitVec_toInt8, Int32.toBitVec_and]
    apply BitVec.eq_of_getLsbD_eq
    intro i hi
    have hm : ∀ i < 8, (255 : Int32).toBitVec.getLsbD i = true := by decide
    rw [BitVec.getLsbD_signExtend, BitVec.getLsbD_signExtend, if_pos (show i < 32 by omega), if_pos (show i < 32 by omega), BitVec.getLsbD_and, hm i hi, Bool.and_true]
  rw [h]
/-- the told octets -/
def OR (b : OB) (mb : MB) (n : Nat) : Prop := b.1 = nI mb.1 ∧ mb.1 ≤ n ∧ ∀ i, i < mb.1 → ∃ v : Int32, b.2 i = v.toInt8.toInt32 ∧ mb.2 i = v &&& 255
theorem OR.up {b : OB} {mb : MB} {n n' : Nat} (h : OR b mb n) (hn : n ≤ n') : OR b mb n' := ⟨h.1, Nat.le_trans h.2.1 hn, h.2.2⟩
theorem OR.add {b : OB} {mb : MB} {n : Nat} (h : OR b mb n) (hn : n ≤ 40) (v : Int32) : OR (oAdd b v) (mPut mb v) (n + 1) := by
  obtain ⟨h1, h2, h3⟩ := h
  have g1 : ¬ b.1 < 0 := by rw [h1]; exact nI_pos (by omega)
  have g2 : ¬ (41 : Int32) ≤ b.1 := by
    rw [h1, show (41 : Int32) = nI 41 by decide]
    exact nI_ge (by omega) (by omega)
  unfold oAdd mPut
  rw [if_neg g1, if_neg g2]
  refine ⟨?_, ?_, fun i hi => ?_⟩
  · show b.1 + 1 = nI (mb.1 + 1)
    rw [h1, nI_1]
  · show mb.1 + 1 ≤ n + 1
    omega
  · have hi' : i < mb.1 + 1 := hi
    show ∃ w : Int32, upd b.2 b.1.toNatClampNeg v.toInt8.toInt32 i = w.toInt8.toInt32 ∧ upd mb.2 mb.1 (v &&& 255) i = w &&& 255
    rw [h1, nI_clamp (by omega)]
    by_cases e : i = mb.1
    · subst e
      exact ⟨v, pk_us, pk_us⟩
    · obtain ⟨w, w1, w2⟩ := h3 i (by omega)
      exact ⟨w, by rw [pk_un e]; exact w1, by rw [pk_un e]; exact w2⟩
theorem OR.two {b : OB} {mb : MB} {n : Nat} (h : OR b mb n) (hn : n ≤ 39) (v : Int32) : OR (oTwo b v) (mTwo mb v) (n + 2) := (h.add (by omega) _).add (by omega) _
theorem OR.nil (b : OB) (f : Nat → Int32) : OR ((0 : Int32), b.2) ((0 : Nat), f) 0 := ⟨by show (0 : Int32) = nI 0; decide, Nat.le_refl _, fun i hi => absurd hi (Nat.not_lt_zero i)⟩
-- ranges
theorem in_i (v lo hi : Int32) : inF v.toInt64 lo.toInt64 hi.toInt64 = if v < lo then 0 else if hi < v then 0 else 1 := by
  unfold inF
  simp only [lg_cmp_lt, lg_cmp_gt, Int64.lt_iff_toInt_lt, Int32.toInt_toInt64, ← Int32.lt_iff_toInt_lt]
theorem in_3 (v : Int32) : inF v.toInt64 0 3 = if v < 0 then 0 else if 3 < v then 0 else 1 := by
  have h := in_i v 0 3
  rwa [show (0 : Int32).toInt64 = 0 by decide, show (3 : Int32).toInt64 = 3 by decide] at h
theorem in_7 (v : Int32) : inF v.toInt64 0 7 = if v < 0 then 0 else if 7 < v then 0 else 1 := by
  have h := in_i v 0 7
  rwa [show (0 : Int32).toInt64 = 0 by decide, show (7 : Int32).toInt64 = 7 by decide] at h
theorem in_255 (v : Int32) : inF v.toInt64 0 255 = if v < 0 then 0 else if 255 < v then 0 else 1 := by
  have h := in_i v 0 255
  rwa [show (0 : Int32).toInt64 = 0 by decide, show (255 : Int32).toInt64 = 255 by decide] at h
theorem in_64k (v : Int32) : inF v.toInt64 0 65535 = if v < 0 then 0 else if 65535 < v then 0 else 1 := by
  have h := in_i v 0 65535
  rwa [show (0 : Int32).toInt64 = 0 by decide, show (65535 : Int32).toInt64 = 65535 by decide] at h
theorem in_1k (v : Int32) : inF v.toInt64 1 65535 = if v < 1 then 0 else if 65535 < v then 0 else 1 := by
  have h := in_i v 1 65535
  rwa [show (1 : Int32).toInt64 = 1 by decide, show (65535 : Int32).toInt64 = 65535 by decide] at h
theorem lt_3 (v : Int32) : 3 < v ↔ 4 ≤ v := by
  rw [Int32.lt_iff_toInt_lt, Int32.le_iff_toInt_le, show (3 : Int32).toInt = 3 by decide, show (4 : Int32).toInt = 4 by decide]
  omega
theorem lt_7 (v : Int32) : 7 < v ↔ ¬ v < 8 := by
  rw [Int32.lt_iff_toInt_lt, Int32.lt_iff_toInt_lt, show (7 : Int32).toInt = 7 by decide, show (8 : Int32).toInt = 8 by decide]
  omega
theorem kind_eq (v : Int32) : inF v.toInt64 0 3 = kindF v := by
  rw [in_3, kindF]
  simp only [lt_3]
theorem mm_eq (ka ca : Int32) : mmOk ka ca = mnB ka ca := by
  unfold mmOk mnB
  rw [kind_eq, in_7]
  by_cases h1 : kindF ka = 0
  · simp [h1]
  · by_cases h2 : ca < 0
    · simp [h1, h2]
    · by_cases h3 : ca < 8
      · simp [h1, h2, h3, lt_7]
      · simp [h1, h2, h3, lt_7]
theorem cy_eq (cs ts : Int32) : mcB cs ts = cyB cs ts := by
  unfold mcB cyB
  rw [in_255, in_64k]
  by_cases h1 : cs < 0
  · simp [h1]
  · by_cases h2 : 255 < cs
    · simp [h1, h2]
    · by_cases h3 : ts < 0
      · simp [h1, h2, h3]
      · by_cases h4 : 65535 < ts
        · have h5 : ¬ ts ≤ 65535 := Int32.not_le.mpr h4
          simp [h1, h2, h3, h4, h5]
        · have h5 : ts ≤ 65535 := Int32.not_lt.mp h4
          simp [h1, h2, h3, h4, h5]
theorem ft_eq (nu : Int32) : mfOk nu = ftB nu := by
  unfold mfOk ftB
  rw [in_1k]
  by_cases h1 : nu < 1
  · simp [h1]
  · by_cases h4 : 65535 < nu
    · have h5 : ¬ nu ≤ 65535 := Int32.not_le.mpr h4
      simp [h1, h4, h5]
    · have h5 : nu ≤ 65535 := Int32.not_lt.mp h4
      simp [h1, h4, h5]
theorem lm_eq (xm xi : Int64) : mlB xm xi = lmpB xm xi := by
  unfold mlB lmpB inF
  by_cases h1 : lg_cmp xm 0 < 0
  · simp [h1]
  · by_cases h2 : 0 < lg_cmp xm 1000000000
    · simp [h1, h2]
    · by_cases h3 : lg_cmp xi 0 < 0
      · simp [h1, h2, h3]
      · by_cases h4 : 0 < lg_cmp xi 1000000000
        · have h5 : ¬ lg_cmp xi 1000000000 ≤ 0 := Int32.not_le.mpr h4
          simp [h1, h2, h3, h4, h5]
        · have h5 : lg_cmp xi 1000000000 ≤ 0 := Int32.not_lt.mp h4
          simp [h1, h2, h3, h4, h5]
theorem two_eq (v : Int64) : mostF v = twoF v := by
  unfold mostF twoF
  by_cases h : (65535 : Int64) < v
  · have h1 : ¬ lg_cmp v 65535 ≤ 0 := by rw [lg_cmp_le]; exact Int64.not_le.mpr h
    rw [if_neg h1, if_pos h]
    decide
  · have h1 : lg_cmp v 65535 ≤ 0 := by rw [lg_cmp_le]; exact Int64.not_lt.mp h
    rw [if_pos h1, if_neg h]
theorem at_eq {i : Int32} {n : Nat} (hn : n ≤ 41) : hasF i (nI n) = 0 ↔ inF i.toInt64 0 ((nI n).toInt64 - 1) = 0 := by
  have e2 : ((nI n).toInt64 - 1).toInt = (n : Int) - 1 := by
    have h3 := lg_i2l_sub (nI n) 1
    rw [show (1 : Int32).toInt64 = 1 by decide, show (1 : Int32).toInt = 1 by decide, nI_toInt (by omega)] at h3
    exact h3
  have a1 : lg_cmp i.toInt64 0 < 0 ↔ i.toInt < 0 := by
    rw [lg_cmp_lt, Int64.lt_iff_toInt_lt, Int32.toInt_toInt64, show (0 : Int64).toInt = 0 by decide]
  have a2 : 0 < lg_cmp i.toInt64 ((nI n).toInt64 - 1) ↔ (n : Int) - 1 < i.toInt := by rw [lg_cmp_gt, Int64.lt_iff_toInt_lt, Int32.toInt_toInt64, e2]
  have a3 : i < 0 ↔ i.toInt < 0 := by rw [Int32.lt_iff_toInt_lt, show (0 : Int32).toInt = 0 by decide]
  have a4 : nI n ≤ i ↔ (n : Int) ≤ i.toInt := by rw [Int32.le_iff_toInt_le, nI_toInt (by omega)]
  have a5 : 41 ≤ i ↔ (41 : Int) ≤ i.toInt := by rw [Int32.le_iff_toInt_le, show (41 : Int32).toInt = 41 by decide]
  unfold hasF inF
  simp only [a1, a2, a3, a4, a5]
  by_cases h1 : i.toInt < 0
  · simp [h1]
  · by_cases h2 : (n : Int) ≤ i.toInt
    · simp [h1, h2, show (n : Int) - 1 < i.toInt by omega]
    · simp [h1, h2, show ¬ (n : Int) - 1 < i.toInt by omega, show ¬ (41 : Int) ≤ i.toInt by omega]
-- a monitor
def RM (m w : Mon) : Prop := m0 w = m.1 ∧ m1 w = m.2.1 ∧ m2 w = m.2.2.1 ∧ m3 w = m.2.2.2.1 ∧ (m.1 = 2 → m4 w = m.2.2.2.2.1) ∧ m5 w = m.2.2.2.2.2 ∧ (∃ k, k < 4 ∧ m.1 = nI k) ∧ (∃ k, k < 8 ∧ m.2.1 = nI k) ∧ (∃ c, c ≤ 100 ∧ m.2.2.2.1 = nI c) ∧ bz m.2.2.2.2.2
theorem cd_eq : ∀ c, c < 8 → (nI c + 1 - (nI c + 1) / 8 * 8) = (if nI c = 7 then 0 else nI c + 1) := by decide +kernel
theorem hc_eq {k c : Nat} (hk : k < 4) (hc : c < 8) (he he' cs : Int32) (h2 : nI k = 2 → he' = he) : mhR (nI k) (nI c) he' cs = hcR (nI k) (nI c) he cs := by
  unfold hcR mhR
  rw [cd_eq c hc]
  rcases (show k = 0 ∨ k = 1 ∨ k = 2 ∨ k = 3 by omega) with rfl | rfl | rfl | rfl
  · simp only [eq_false (show ¬ nI 0 = 1 by decide), eq_false (show ¬ nI 0 = 2 by decide), eq_false (show ¬ nI 0 = 3 by decide), eq_true (show nI 0 = 0 by decide), if_true, if_false]
  · simp only [eq_true (show nI 1 = 1 by decide), if_true]
  · have h3 := h2 (by decide)
    subst h3
    simp only [eq_false (show ¬ nI 2 = 1 by decide), eq_true (show nI 2 = 2 by decide), eq_false (show ¬ nI 2 = 0 by decide), if_true, if_false]
  · simp only [eq_false (show ¬ nI 3 = 1 by decide), eq_false (show ¬ nI 3 = 2 by decide), eq_true (show nI 3 = 3 by decide), eq_false (show ¬ nI 3 = 0 by decide), if_true, if_false]
theorem RM.hc {m w : Mon} (h : RM m w) (cs : Int32) : mhC w cs = hcM m cs := by
  obtain ⟨h0, h1, h2, h3, h4, h5, ⟨k, hk, ek⟩, ⟨c, hc, ec⟩, h8, h9⟩ := h
  unfold mhC hcM
  rw [h0, h1, ek, ec]
  exact hc_eq hk hc _ _ _ (fun z => h4 (by rw [ek]; exact z))
theorem cc_eq {c : Nat} (hc : c ≤ 100) : mcC (nI c) = ccC (nI c) ∧ ∃ d, d ≤ 100 ∧ ccC (nI c) = nI d := by
  have h : ∀ c, c ≤ 100 → mcC (nI c) = ccC (nI c) ∧ ccC (nI c) = nI (if c = 100 then 51 else c + 1) := by decide +kernel
  refine ⟨(h c hc).1, _, ?_, (h c hc).2⟩
  split <;> omega
theorem cr_eq {c : Nat} (hc : c ≤ 100) (ru tr : Int32) : mcR ru (nI c) tr = ccR ru (nI c) tr := by
  have h1 : ∀ c, c ≤ 100 → (nI c = 100 ↔ ¬ nI c < 100) := by decide +kernel
  unfold mcR ccR
  by_cases h2 : nI c < 100
  · have h3 : ¬ nI c = 100 := fun z => (h1 c hc).mp z h2
    by_cases h4 : tr = 0
    · simp [h2, h3, h4]
    · simp [h2, h3, h4]
  · have h3 : nI c = 100 := (h1 c hc).mpr h2
    by_cases h4 : tr = 0
    · simp [h2, h3, h4]
    · simp [h2, h3, h4]
theorem RM.step {m w : Mon} (h : RM m w) (cs ts : Int32) (i : Nat) : RM (gEc cs ts i m) (gMo cs ts i w) := by
  have hh := h.hc cs
  obtain ⟨h0, h1, h2, h3, h4, h5, h6, h7, ⟨c, hc, ec⟩, h9⟩ := h
  have hh2 : hcR m.1 m.2.1 m.2.2.2.2.1 cs = hcM m cs := rfl
  refine ⟨h0, h1, ?_, ?_, ?_, ?_, h6, h7, ?_, ?_⟩
  · show (if mhC w cs = 0 then m2 w else mcR (m2 w) (m3 w) (bitF ts (nI i))) = ecR m.1 m.2.1 m.2.2.1 m.2.2.2.1 m.2.2.2.2.1 cs (bitF ts (nI i))
    unfold ecR
    rw [hh, hh2, h2, h3, ec, cr_eq hc]
  · show (if mhC w cs = 0 then m3 w else mcC (m3 w)) = ecC m.1 m.2.1 m.2.2.2.1 m.2.2.2.2.1 cs
    unfold ecC
    rw [hh, hh2, h3, ec, (cc_eq hc).1]
  · intro z
    have z : m.1 = 2 := z
    show mhH (m0 w) (m1 w) (m4 w) cs = hcH m.2.1 m.2.2.2.2.1 cs
    unfold mhH hcH
    rw [h0, h1, h4 z, if_pos z]
  · show (if m5 w = 0 then bitF ts (nI i) else 1) = ecT m.2.2.2.2.2 (bitF ts (nI i))
    unfold ecT
    rw [h5]
    rcases h9 with z | z
    · rcases bitF_bz ts (nI i) with y | y <;> simp [z, y]
    · rcases bitF_bz ts (nI i) with y | y <;> simp [z, y]
  · show ∃ c, c ≤ 100 ∧ ecC m.1 m.2.1 m.2.2.2.1 m.2.2.2.2.1 cs = nI c
    unfold ecC
    split
    · exact ⟨c, hc, ec⟩
    · rw [ec]
      exact (cc_eq hc).2
  · show bz (ecT m.2.2.2.2.2 (bitF ts (nI i)))
    exact bz_if h9 bz1
-- a code
def RC (q : Cod) (w : Cdm) : Prop := q0 w = q.1 ∧ q1 w = q.2.1 ∧ q2 w = q.2.2.1 ∧ q3 w = q.2.2.2.1 ∧ q4 w = q.2.2.2.2.1 ∧ q6 w = q.2.2.2.2.2.2.1 ∧ bz q.2.1 ∧ bz q.2.2.1 ∧ bz q.2.2.2.1 ∧ bz q.2.2.2.2.1 ∧ (q.2.2.1 = 1 → q.2.2.2.1 = 0) ∧ (q.2.2.2.1 = 1 → q5 w = q.2.2.2.2.2.1) ∧ (q.2.2.2.2.2.1 = 0 ∨ q.2.2.2.2.2.1 = 1 ∨ q.2.2.2.2.2.1 = 2)
  ∧ (q.2.2.1 = 1 ∨ q.2.2.2.1 = 1 → q7 w = 1 ∧ q8 w = q.2.2.2.2.2.2.2.1 ∧ q9 w = q.2.2.2.2.2.2.2.2 ∧ ¬ q.2.2.2.2.2.2.2.1 = 0) ∧ (q.2.2.1 = 0 → q.2.2.2.1 = 0 → q7 w = 0 ∧ q.2.2.2.2.2.2.2.1 = 0 ∧ q.2.2.2.2.2.2.2.2 = 0)
theorem t10 : ((1 : Int32) = 0) = False := eq_false (by decide)
theorem t01 : ((0 : Int32) = 1) = False := eq_false (by decide)
theorem t1_ : ((0 : Int32) + 1 < 3) = True := eq_true (by decide)
theorem t2_ : ((1 : Int32) + 1 < 3) = True := eq_true (by decide)
theorem t3_ : ((2 : Int32) + 1 < 3) = False := eq_false (by decide)
theorem la_eq {la : Int32} (h : bz la) (oz cs : Int32) : mfL la oz cs = ofL la oz cs := by
  unfold mfL ofL mfZ ofZ
  have e1 : oz + (if bitF cs 0 = 0 then 0 else 1) = (if bitF cs 0 = 0 then oz else oz + 1) := by
    split
    · exact Int32.add_zero _
    · rfl
  rw [e1]
  generalize (if bitF cs 0 = 0 then oz else oz + 1) = y
  by_cases h1 : y < 3
  · have h2 : ¬ 3 ≤ y := Int32.not_le.mpr h1
    rcases h with rfl | rfl <;> simp [h1, h2]
  · have h2 : 3 ≤ y := Int32.not_lt.mp h1
    rcases h with rfl | rfl <;> simp [h1, h2]
theorem oz_eq (oz cs : Int32) : mfZ oz cs = ofZ oz cs := by
  unfold mfZ ofZ
  split
  · exact Int32.add_zero _
  · rfl
theorem ofL_bz {la : Int32} (h : bz la) (oz cs : Int32) : bz (ofL la oz cs) := bz_if h bz0
theorem RC.step {q : Cod} {w : Cdm} (h : RC q w) (cy cs : Int32) (i : Nat) (hcy : ¬ cy = 0) : RC (gCy cy cs i q) (gMc cy cs i w) := by
  obtain ⟨nu, on, pe, co, la, ofr, oz, fc, fd⟩ := q
  obtain ⟨a0, a1, a2, a3, a4, a5, a6, a7, a8, a9⟩ := w
  obtain ⟨h0, h1, h2, h3, h4, h6, b1, b2, b3, b4, hx, h5, ho, hA, hB⟩ := h
  simp only [q0, q1, q2, q3, q4, q5, q6, q7, q8, q9] at h0 h1 h2 h3 h4 h5 h6 b1 b2 b3 b4 hx ho hA hB
  subst h0; subst h1; subst h2; subst h3; subst h4; subst h6
  have l1 := la_eq b4 a6 cs
  have l2 := oz_eq a6 cs
  have l3 := ofL_bz b4 a6 cs
  rcases b1 with rfl | rfl
  · -- off
    rcases b2 with rfl | rfl
    · rcases b3 with rfl | rfl
      · obtain ⟨rfl, rfl, rfl⟩ := hB rfl rfl
        rcases ho with rfl | rfl | rfl <;>
          simp [RC, gCy, codCy, codOff, gMc, q0, q1, q2, q3, q4, q5, q6, q7, q8, q9, ofK, ofG, mfP, mfQ, mfW, mfW1, l1, l2, l3, t10, t01, t1_, t2_, t3_, bz0, bz]
        all_goals first | exact l3 | decide
      · have h5' := h5 rfl
        subst h5'
        obtain ⟨rfl, rfl, rfl, hf⟩ := hA (Or.inr rfl)
        rcases ho with rfl | rfl | rfl <;>
          simp [RC, gCy, codCy, codOff, gMc, q0, q1, q2, q3, q4, q5, q6, q7, q8, q9, ofK, ofG, mfP, mfQ, mfW, mfW1, l1, l2, l3, t10, t01, t1_, t2_, t3_, bz0, bz, hf]
        all_goals first | exact l3 | decide
    · obtain rfl := hx rfl
      obtain ⟨rfl, rfl, rfl, hf⟩ := hA (Or.inl rfl)
      simp [RC, gCy, codCy, codOff, gMc, q0, q1, q2, q3, q4, q5, q6, q7, q8, q9, ofK, ofG, mfP, mfQ, mfW, mfW1, l1, l2, l3, t10, t01, bz0, bz]
      exact l3
  · rcases b2 with rfl | rfl
    · rcases b3 with rfl | rfl
      · simp [RC, gCy, codCy, codOn, gMc, q0, q1, q2, q3, q4, q5, q6, q7, q8, q9, onP, onK, onF, moP, moK, moF, t10, t01, bz0, bz1, bz, hcy]
        exact b4
      · obtain ⟨rfl, rfl, rfl, hf⟩ := hA (Or.inr rfl)
        simp [RC, gCy, codCy, codOn, gMc, q0, q1, q2, q3, q4, q5, q6, q7, q8, q9, onP, onK, onF, moP, moK, moF, t10, t01, bz0, bz1, bz, hf]
        exact b4
    · obtain rfl := hx rfl
      obtain ⟨rfl, rfl, rfl, hf⟩ := hA (Or.inl rfl)
      simp [RC, gCy, codCy, codOn, gMc, q0, q1, q2, q3, q4, q5, q6, q7, q8, q9, onP, onK, onF, moP, moK, moF, t10, t01, bz0, bz1, bz, hf]
end RL
