/-! the rows of monitors and codes, beside the reference's -/
section RL2
def RelM (mon mm : Nat → Mon) (nM : Nat) : Prop := nM ≤ 16 ∧ (∀ i, i < nM → RM (mon i) (mm i)) ∧ ∀ i, nM ≤ i → m2 (mm i) = 0 ∧ m3 (mm i) = 0 ∧ m4 (mm i) = 0 ∧ m5 (mm i) = 0
def RelC (cod : Nat → Cod) (cc : Nat → Cdm) (nC : Nat) : Prop := nC ≤ 20 ∧ (∀ i, i < nC → RC (cod i) (cc i)) ∧ ∀ i, nC ≤ i → q2 (cc i) = 0 ∧ q3 (cc i) = 0 ∧ q4 (cc i) = 0 ∧ q5 (cc i) = 0 ∧ q6 (cc i) = 0 ∧ q7 (cc i) = 0 ∧ q8 (cc i) = 0 ∧ q9 (cc i) = 0
variable {mon mm : Nat → Mon} {cod : Nat → Cod} {cc : Nat → Cdm} {nM nC : Nat}
theorem RelC.bzC (h : RelC cod cc nC) : bzC cod nC := fun i hi => by
  obtain ⟨-, -, -, -, -, -, b1, b2, b3, b4, -⟩ := h.2.1 i hi
  exact ⟨b1, b2, b3, b4⟩
-- counting
theorem cntM_eq (h : RelM mon mm nM) (cs : Int32) : ∀ k, k ≤ nM → mcntM mm cs k = cntM mon cs k
  | 0, _ => rfl
  | k + 1, hk => by rw [mcntM, cntM, cntM_eq h cs k (by omega), (h.2.1 k (by omega)).hc cs]
theorem cntC_eq (h : RelC cod cc nC) : ∀ k, k ≤ nC → mcnt (pj q3 cc) k = cntC cod k
  | 0, _ => rfl
  | k + 1, hk => by
    obtain ⟨-, -, -, e3, -⟩ := h.2.1 k (by omega)
    rw [mcnt, cntC, cntC_eq h k (by omega), pj_k, e3]
    split
    · exact Int32.add_zero _
    · rfl
-- readiness
theorem mrF_zero {fK fY : Nat → Int32} (kd : Int32) (n : Nat) : ∀ j, mrF fK fY kd n j 0 = 0
  | 0 => rfl
  | j + 1 => by
    rw [mrF]
    have e : (if fK (n - (j + 1)) = kd then (if fY (n - (j + 1)) = 0 then (0 : Int32) else if (0 : Int32) = 0 then 0 else 1) else 0) = 0 := by
      split
      · split
        · rfl
        · rfl
      · rfl
    rw [e]
    exact mrF_zero kd n j
theorem rd_eq (h : RelM mon mm nM) (kd : Int32) : ∀ j, j ≤ nM → ∀ acc : Int32, ¬ acc = 0 → mrF (pj m0 mm) (pj m5 mm) kd nM j acc = rdF mon kd nM j acc
  | 0, _, acc, _ => rfl
  | j + 1, hj, acc, ha => by
    obtain ⟨e0, -, -, -, -, e5, -⟩ := h.2.1 (nM - (j + 1)) (by omega)
    rw [mrF, rdF, pj_k, pj_k, e0, e5]
    by_cases h1 : (mon (nM - (j + 1))).1 = kd
    · by_cases h2 : (mon (nM - (j + 1))).2.2.2.2.2 = 0
      · rw [if_pos h1, if_pos h1, if_pos h2, if_pos h2]
        exact mrF_zero kd nM j
      · rw [if_pos h1, if_pos h1, if_neg h2, if_neg h2, if_neg ha]
        exact rd_eq h kd j (by omega) 1 (by decide)
    · rw [if_neg h1, if_neg h1]
      exact rd_eq h kd j (by omega) acc ha
theorem rdy_eq (h : RelM mon mm nM) (kd : Int32) : mrdy (pj m0 mm) (pj m5 mm) nM kd = rdyF mon nM kd := by
  unfold mrdy rdyF
  rw [kind_eq, rd_eq h kd nM (Nat.le_refl _) 2 (by decide)]
-- the kinds that are not ready
def nrB (mon : Nat → Mon) (kd : Int32) : Nat → Bool
  | 0 => false
  | k + 1 => nrB mon kd k || (decide ((mon k).1 = kd) && decide ((mon k).2.2.2.2.2 = 0))
theorem rd_nr (kd : Int32) (n : Nat) : ∀ j, j ≤ n → ∀ acc : Int32, ¬ acc = 0 → (rdF mon kd n j acc = 0 ↔ ∃ i, n - j ≤ i ∧ i < n ∧ (mon i).1 = kd ∧ (mon i).2.2.2.2.2 = 0)
  | 0, _, acc, ha => ⟨fun z => absurd z ha, fun ⟨i, h1, h2, _⟩ => by omega⟩
  | j + 1, hj, acc, ha => by
    rw [rdF]
    by_cases h1 : (mon (n - (j + 1))).1 = kd
    · by_cases h2 : (mon (n - (j + 1))).2.2.2.2.2 = 0
      · rw [if_pos h1, if_pos h2]
        exact ⟨fun _ => ⟨n - (j + 1), Nat.le_refl _, by omega, h1, h2⟩, fun _ => rfl⟩
      · rw [if_pos h1, if_neg h2, rd_nr kd n j (by omega) 1 (by decide)]
        constructor
        · rintro ⟨i, g1, g2, g3⟩
          exact ⟨i, by omega, g2, g3⟩
        · rintro ⟨i, g1, g2, g3, g4⟩
          by_cases e : i = n - (j + 1)
          · subst e
            exact absurd g4 h2
          · exact ⟨i, by omega, g2, g3, g4⟩
    · rw [if_neg h1, rd_nr kd n j (by omega) acc ha]
      constructor
      · rintro ⟨i, g1, g2, g3⟩
        exact ⟨i, by omega, g2, g3⟩
      · rintro ⟨i, g1, g2, g3, g4⟩
        by_cases e : i = n - (j + 1)
        · subst e
          exact absurd g3 h1
        · exact ⟨i, by omega, g2, g3, g4⟩
theorem nrB_iff (kd : Int32) : ∀ n, nrB mon kd n = true ↔ ∃ i, i < n ∧ (mon i).1 = kd ∧ (mon i).2.2.2.2.2 = 0
  | 0 => ⟨fun z => by simp [nrB] at z, fun ⟨i, h, _⟩ => absurd h (Nat.not_lt_zero i)⟩
  | n + 1 => by
    rw [nrB, Bool.or_eq_true, nrB_iff kd n, Bool.and_eq_true, decide_eq_true_eq, decide_eq_true_eq]
    constructor
    · rintro (⟨i, g1, g2⟩ | ⟨g1, g2⟩)
      · exact ⟨i, by omega, g2⟩
      · exact ⟨n, by omega, g1, g2⟩
    · rintro ⟨i, g1, g2, g3⟩
      by_cases e : i = n
      · subst e
        exact Or.inr ⟨g2, g3⟩
      · exact Or.inl ⟨i, by omega, g2, g3⟩
theorem rd_nrB (kd : Int32) (n : Nat) : rdF mon kd n n 2 = 0 ↔ nrB mon kd n = true := by
  rw [rd_nr kd n n (Nat.le_refl _) 2 (by decide), nrB_iff]
  constructor
  · rintro ⟨i, -, h⟩
    exact ⟨i, h⟩
  · rintro ⟨i, h⟩
    exact ⟨i, by omega, h⟩
def b4 (a b c d : Bool) : Int32 := (((if a then 1 else 0) ||| (if b then 2 else 0)) ||| (if c then 4 else 0)) ||| (if d then 8 else 0)
theorem kn_b4 (n : Nat) : knF mon n 4 0 = b4 (nrB mon (nI 0) n) (nrB mon (nI 1) n) (nrB mon (nI 2) n) (nrB mon (nI 3) n) := by
  have hb : ∀ a b c d : Bool, ((if d then (if c then (if b then (if a then ((0 : Int32) ||| ((1 : Int32) <<< (nI 0 &&& 31))) else 0) ||| ((1 : Int32) <<< (nI 1 &&& 31)) else (if a then ((0 : Int32) ||| ((1 : Int32) <<< (nI 0 &&& 31))) else 0)) ||| ((1 : Int32) <<< (nI 2 &&& 31)) else (if b then (if a then ((0 : Int32) ||| ((1 : Int32) <<< (nI 0 &&& 31))) else 0) ||| ((1 : Int32) <<< (nI 1 &&& 31)) else (if a then ((0 : Int32) ||| ((1 : Int32) <<< (nI 0 &&& 31))) else 0))) ||| ((1 : Int32) <<< (nI 3 &&& 31)) else (if c then (if b then (if a then ((0 : Int32) ||| ((1 : Int32) <<< (nI 0 &&& 31))) else 0) ||| ((1 : Int32) <<< (nI 1 &&& 31)) else (if a then ((0 : Int32) ||| ((1 : Int32) <<< (nI 0 &&& 31))) else 0)) ||| ((1 : Int32) <<< (nI 2 &&& 31)) else (if b then (if a then ((0 : Int32) ||| ((1 : Int32) <<< (nI 0 &&& 31))) else 0) ||| ((1 : Int32) <<< (nI 1 &&& 31)) else (if a then ((0 : Int32) ||| ((1 : Int32) <<< (nI 0 &&& 31))) else 0))))) = b4 a b c d := by decide +kernel
  rw [← hb]
  simp only [knF, show 4 - (3 + 1) = 0 from rfl, show 4 - (2 + 1) = 1 from rfl, show 4 - (1 + 1) = 2 from rfl, show 4 - (0 + 1) = 3 from rfl, rd_nrB]
theorem b4_step : ∀ a b c d : Bool, ∀ k, k < 4 → ∀ t : Bool, (b4 a b c d ||| (if t then (1 : Int32) <<< (nI k &&& 31) else 0)) = b4 (a || (decide (k = 0) && t)) (b || (decide (k = 1) && t)) (c || (decide (k = 2) && t)) (d || (decide (k = 3) && t)) := by decide +kernel
theorem mb_b4 (h : RelM mon mm nM) : ∀ n, n ≤ nM → mbF (pj m0 mm) (pj m5 mm) n = b4 (nrB mon (nI 0) n) (nrB mon (nI 1) n) (nrB mon (nI 2) n) (nrB mon (nI 3) n)
  | 0, _ => by simp [mbF, nrB, b4]
  | n + 1, hn => by
    obtain ⟨e0, -, -, -, -, e5, ⟨k, hk, ek⟩, -⟩ := h.2.1 n (by omega)
    rw [mbF, mb_b4 h n (by omega), pj_k, pj_k, e0, e5, ek]
    have h1 := b4_step (nrB mon (nI 0) n) (nrB mon (nI 1) n) (nrB mon (nI 2) n) (nrB mon (nI 3) n) k hk (decide ((mon n).2.2.2.2.2 = 0))
    have h2 : (if (mon n).2.2.2.2.2 = 0 then (1 : Int32) <<< (nI k &&& 31) else 0) = (if decide ((mon n).2.2.2.2.2 = 0) = true then (1 : Int32) <<< (nI k &&& 31) else 0) := by simp only [decide_eq_true_eq]
    rw [h2, h1]
    simp only [nrB, ek]
    have hd : ∀ k, k < 4 → ∀ j, j < 4 → decide (nI k = nI j) = decide (k = j) := by decide +kernel
    rw [hd k hk 0 (by omega), hd k hk 1 (by omega), hd k hk 2 (by omega), hd k hk 3 (by omega)]
theorem bits_eq (h : RelM mon mm nM) : mbF (pj m0 mm) (pj m5 mm) nM = knF mon nM 4 0 := by rw [mb_b4 h nM (Nat.le_refl _), kn_b4]
-- the permanent codes
theorem pm_eq (h : RelC cod cc nC) (i : Int32) : ∀ j, j ≤ nC → ∀ bf, mpF (pj q0 cc) (pj q4 cc) i nC j bf = pmF cod i nC j bf
  | 0, _, _ => rfl
  | j + 1, hj, bf => by
    obtain ⟨e0, -, -, -, e4, -⟩ := h.2.1 (nC - (j + 1)) (by omega)
    rw [mpF, pmF, pj_k, pj_k, e0, e4, pm_eq h i j (by omega) bf, pm_eq h i j (by omega) (bf + 1)]
-- searching
theorem RC.fz {q : Cod} {w : Cdm} (h : RC q w) : q7 w = 0 ↔ frF q.2.2.2.2.2.2.2.1 = 0 := by
  obtain ⟨-, -, -, -, -, -, -, b2, b3, -, hx, -, -, hA, hB⟩ := h
  unfold frF
  by_cases h1 : q.2.2.1 = 1 ∨ q.2.2.2.1 = 1
  · obtain ⟨g1, -, -, g4⟩ := hA h1
    rw [g1, if_neg g4]
  · have p0 : q.2.2.1 = 0 := by rcases b2 with z | z; exact z; exact absurd (Or.inl z) h1
    have c0 : q.2.2.2.1 = 0 := by rcases b3 with z | z; exact z; exact absurd (Or.inr z) h1
    obtain ⟨g1, g2, -⟩ := hB p0 c0
    rw [g1, g2, if_pos rfl]
theorem ff_eq (h : RelC cod cc nC) : ∀ j, j ≤ nC → fzF (pj q7 cc) nC j = (ffF cod nC j).getD nC
  | 0, _ => rfl
  | j + 1, hj => by
    have e := (h.2.1 (nC - (j + 1)) (by omega)).fz
    rw [fzF, ffF, pj_k, ff_eq h j (by omega)]
    by_cases h1 : frF (cod (nC - (j + 1))).2.2.2.2.2.2.2.1 = 0
    · rw [if_pos (e.mpr h1), if_pos h1]
    · rw [if_neg (fun z => h1 (e.mp z)), if_neg h1]
      rfl
theorem kc_eq (h : RelC cod cc nC) (nu : Int32) : ∀ j, j ≤ nC → mkF (pj q0 cc) nu nC j = (kcF cod nu nC j).getD nC
  | 0, _ => rfl
  | j + 1, hj => by
    obtain ⟨e0, -⟩ := h.2.1 (nC - (j + 1)) (by omega)
    rw [mkF, kcF, pj_k, e0, kc_eq h nu j (by omega)]
    by_cases h1 : (cod (nC - (j + 1))).1 = nu
    · rw [if_pos h1, if_pos h1]
      rfl
    · rw [if_neg h1, if_neg h1]
theorem ff_some {j : Nat} : ∀ m, m ≤ nC → ffF cod nC m = some j → ¬ frF (cod j).2.2.2.2.2.2.2.1 = 0
  | 0, _, z => by simp [ffF] at z
  | m + 1, hm, z => by
    rw [ffF] at z
    by_cases h1 : frF (cod (nC - (m + 1))).2.2.2.2.2.2.2.1 = 0
    · rw [if_pos h1] at z
      exact ff_some m (by omega) z
    · rw [if_neg h1] at z
      cases z
      exact h1
theorem RC.fr {q : Cod} {w : Cdm} (h : RC q w) (hf : ¬ frF q.2.2.2.2.2.2.2.1 = 0) : q8 w = q.2.2.2.2.2.2.2.1 ∧ q9 w = q.2.2.2.2.2.2.2.2 := by
  have hz := h.fz
  obtain ⟨-, -, -, -, -, -, -, b2, b3, -, hx, -, -, hA, hB⟩ := h
  by_cases h1 : q.2.2.1 = 1 ∨ q.2.2.2.1 = 1
  · obtain ⟨-, g2, g3, -⟩ := hA h1
    exact ⟨g2, g3⟩
  · have p0 : q.2.2.1 = 0 := by rcases b2 with z | z; exact z; exact absurd (Or.inl z) h1
    have c0 : q.2.2.2.1 = 0 := by rcases b3 with z | z; exact z; exact absurd (Or.inr z) h1
    exact absurd (hz.mp (hB p0 c0).1) hf
theorem frz_eq (h : RelC cod cc nC) (mi : Int64) (i : Int32) : mfz (pj q0 cc) (pj q7 cc) (pj q8 cc) (pj q9 cc) nC mi i = frzF cod nC mi i := by
  unfold mfz frzF
  rw [in_3, two_eq]
  by_cases h1 : i < 0
  · simp [h1]
  · by_cases h2 : 3 < i
    · have h3 : ¬ i ≤ 3 := Int32.not_le.mpr h2
      simp [h1, h2, h3]
    · have h3 : i ≤ 3 := Int32.not_lt.mp h2
      rw [if_neg h1, if_neg h2, if_neg h1, if_pos h3, if_neg (show ¬ (1 : Int32) = 0 by decide)]
      by_cases h4 : i = 3
      · rw [if_pos h4, if_pos h4]
      · rw [if_neg h4, if_neg h4, ff_eq h nC (Nat.le_refl _)]
        have hn := h.1
        rcases e : ffF cod nC nC with _ | j
        · rw [Option.getD_none, if_pos rfl]
        · have hj := ffF_lt (Nat.le_refl _) e
          have hf := ff_some nC (Nat.le_refl _) e
          obtain ⟨g1, g2⟩ := (h.2.1 j hj).fr hf
          obtain ⟨e0, -⟩ := h.2.1 j hj
          rw [Option.getD_some, if_neg (fun z => by have := (nI_eq (by omega) (by omega)).mp z; omega), pj_k, pj_k, pj_k, e0, g1, g2]
end RL2
