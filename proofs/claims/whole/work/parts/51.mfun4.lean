/-! the reference's telling methods, as functions -/
section MF4
def mansF (md id : Int32) (b : MB) (gQ gP gL gN gW gC gD fK fY fR fH : Nat → Int32) (nC nM : Nat) (li : Int32) (me : Int64) : MB :=
  if md = 1 then (if id = 1 then mtS b gQ fK fY nC nM li else if id = 33 then mTwo (mPut (mPut b 65) 33) (mostF (me / 1000)) else b)
  else if md = 2 then (if inF id.toInt64 0 7 = 0 then b else mtF b id gN gW gC gD nC)
  else if md = 3 then mtcF gN gP gQ gL md nC nC (mPut b (64 + md)) else if md = 7 then mtcF gN gP gQ gL md nC nC (mPut b (64 + md)) else if md = 10 then mtcF gN gP gQ gL md nC nC (mPut b (64 + md))
  else if md = 9 then (if id = 8 then mtnF fR fH nM nM (mPut (mPut b 73) 8) else b) else b
def matC (i : Int32) (sn : Nat) : Int32 := if inF i.toInt64 0 ((nI sn).toInt64 - 1) = 0 then 1 else 0
def matV (rw : Nat → Int32) (sn : Nat) (i : Int32) : Int32 := if inF i.toInt64 0 ((nI sn).toInt64 - 1) = 0 then 0 else (rw i.toNatClampNeg).toInt8.toInt32
theorem inF_ix {i : Int32} {n : Nat} (hn : n ≤ 64) (h : ¬ inF i.toInt64 0 ((nI n).toInt64 - 1) = 0) : ∃ k, k < n ∧ i = nI k := by
  unfold inF at h
  by_cases h1 : lg_cmp i.toInt64 0 < 0
  · simp [h1] at h
  · by_cases h2 : 0 < lg_cmp i.toInt64 ((nI n).toInt64 - 1)
    · simp [h1, h2] at h
    · rw [lg_cmp_lt, Int64.lt_iff_toInt_lt, Int32.toInt_toInt64] at h1
      rw [lg_cmp_gt, Int64.lt_iff_toInt_lt, Int32.toInt_toInt64] at h2
      have e0 : (0 : Int64).toInt = 0 := by decide
      rw [e0] at h1
      obtain ⟨j, hj, ej⟩ := nI_of (x := i) (fun z => by
        rw [Int32.lt_iff_toInt_lt] at z
        have e0 : (0 : Int32).toInt = 0 := by decide
        omega)
      subst ej
      have e2 : ((nI n).toInt64 - 1).toInt = (n : Int) - 1 := by
        have h3 := lg_i2l_sub (nI n) 1
        have h4 : (1 : Int32).toInt64 = 1 := by decide
        have h5 : (1 : Int32).toInt = 1 := by decide
        rw [h4, h5, nI_toInt (by omega)] at h3
        exact h3
      rw [e2, nI_toInt hj] at h2
      exact ⟨j, by omega, rfl⟩
theorem mTwo_1 (b : MB) (v : Int32) : (mTwo b v).1 = b.1 + 2 := rfl
theorem mPut_1 (b : MB) (v : Int32) : (mPut b v).1 = b.1 + 1 := rfl
def mrl (up lo : Int32) : Nat → Nat
  | 0 => 0
  | d + 1 => if up - up / nI (d + 1) * nI (d + 1) = 0 then (if lo - lo / nI (d + 1) * nI (d + 1) = 0 then d + 1 else mrl up lo d) else mrl up lo d
theorem mrl_step {up lo : Int32} {d : Nat} (h : 0 < d) : mrl up lo d = if up - up / nI d * nI d = 0 then (if lo - lo / nI d * nI d = 0 then d else mrl up lo (d - 1)) else mrl up lo (d - 1) := by
  obtain ⟨j, rfl⟩ : ∃ j, d = j + 1 := ⟨d - 1, by omega⟩
  rw [mrl, Nat.add_sub_cancel]
theorem rem1 (x : Int32) : x - x / nI 1 * nI 1 = 0 := by
  have e : nI 1 = 1 := by decide
  rw [e]
  simp
def mraC (fH : Nat → Int32) (nM : Nat) (mo : Int32) : Int32 := if inF mo.toInt64 1 (nI nM).toInt64 = 0 then 0 else if fH (ixM mo) = 0 then 1 else 0
def mraV (fR fH : Nat → Int32) (nM : Nat) (mo sd : Int32) : Int64 :=
  if inF mo.toInt64 1 (nI nM).toInt64 = 0 then (-1) else if fH (ixM mo) = 0 then 0 else
    if sd = 0 then (fR (ixM mo) / nI (mrl (fR (ixM mo)) (fH (ixM mo)) (fH (ixM mo)).toNatClampNeg)).toInt64 else (fH (ixM mo) / nI (mrl (fR (ixM mo)) (fH (ixM mo)) (fH (ixM mo)).toNatClampNeg)).toInt64
end MF4
