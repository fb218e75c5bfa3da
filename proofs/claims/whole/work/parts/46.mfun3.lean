/-! the reference's writing methods, as functions -/
section MF3
def pj {α : Type} (π : α → Int32) (f : Nat → α) : Nat → Int32 := fun i => π (f i)
theorem pj_k {α : Type} (π : α → Int32) (f : Nat → α) (k : Nat) : pj π f k = π (f k) := rfl
theorem pj_up {α : Type} {π : α → Int32} {g : Nat → α → α} {f : Nat → α} {k : Nat} (h : π (f k) = π (g k (f k))) : pj π (upto g f k) = pj π (upto g f (k + 1)) := by
  funext i
  unfold pj upto
  by_cases h1 : i = k
  · subst h1
    simp [h]
  · by_cases h2 : i < k
    · simp [h2, Nat.lt_succ_of_lt h2]
    · simp [h2, show ¬ i < k + 1 by omega]
theorem pj_upd {α : Type} {π : α → Int32} {g : Nat → α → α} {f : Nat → α} {k : Nat} {v : Int32} (h : v = π (g k (f k))) : upd (pj π (upto g f k)) k v = pj π (upto g f (k + 1)) := by
  funext i
  unfold upd pj upto
  by_cases h1 : i = k
  · subst h1
    simp [h]
  · by_cases h2 : i < k
    · simp [h1, h2, Nat.lt_succ_of_lt h2]
    · simp [h1, h2, show ¬ i < k + 1 by omega]
def m0 (m : Mon) : Int32 := m.1
def m1 (m : Mon) : Int32 := m.2.1
def m2 (m : Mon) : Int32 := m.2.2.1
def m3 (m : Mon) : Int32 := m.2.2.2.1
def m4 (m : Mon) : Int32 := m.2.2.2.2.1
def m5 (m : Mon) : Int32 := m.2.2.2.2.2
abbrev Cdm : Type := Int32 × Int32 × Int32 × Int32 × Int32 × Int32 × Int32 × Int32 × Int32 × Int32
def q0 (q : Cdm) : Int32 := q.1
def q1 (q : Cdm) : Int32 := q.2.1
def q2 (q : Cdm) : Int32 := q.2.2.1
def q3 (q : Cdm) : Int32 := q.2.2.2.1
def q4 (q : Cdm) : Int32 := q.2.2.2.2.1
def q5 (q : Cdm) : Int32 := q.2.2.2.2.2.1
def q6 (q : Cdm) : Int32 := q.2.2.2.2.2.2.1
def q7 (q : Cdm) : Int32 := q.2.2.2.2.2.2.2.1
def q8 (q : Cdm) : Int32 := q.2.2.2.2.2.2.2.2.1
def q9 (q : Cdm) : Int32 := q.2.2.2.2.2.2.2.2.2
def mhC (m : Mon) (cs : Int32) : Int32 := mhR (m0 m) (m1 m) (m4 m) cs
def gMo (cs ts : Int32) (i : Nat) (m : Mon) : Mon :=
  (m0 m, m1 m, if mhC m cs = 0 then m2 m else mcR (m2 m) (m3 m) (bitF ts (nI i)), if mhC m cs = 0 then m3 m else mcC (m3 m), mhH (m0 m) (m1 m) (m4 m) cs, if m5 m = 0 then bitF ts (nI i) else 1)
def gMc (cy cs : Int32) (_ : Nat) (q : Cdm) : Cdm :=
  if q1 q = 0 then (q0 q, q1 q, mfP (q2 q), mfQ (q3 q) (q5 q), mfL (q4 q) (q6 q) cs, q5 q + 1, mfZ (q6 q) cs, mfW (q2 q) (q7 q) (q3 q) (q5 q), q8 q, q9 q)
  else (q0 q, q1 q, moP (q2 q) (q3 q), moK (q2 q) (q3 q), moK (q2 q) (q4 q), 0, 0, moF (q2 q) (q3 q) (q7 q) 1, moF (q2 q) (q3 q) (q8 q) cy, moF (q2 q) (q3 q) (q9 q) cs)
def mcntM (mm : Nat → Mon) (cs : Int32) : Nat → Int32
  | 0 => 0
  | k + 1 => if mhC (mm k) cs = 0 then mcntM mm cs k else mcntM mm cs k + 1
def mcB (cs ts : Int32) : Int32 := if inF cs.toInt64 0 255 = 0 then 0 else if inF ts.toInt64 0 65535 = 0 then 0 else 1
def mcM (cs ts : Int32) (nM : Nat) (mm : Nat → Mon) : Nat → Mon := if mcB cs ts = 0 then mm else upto (gMo cs ts) mm nM
def mcD (cs ts cyc : Int32) (nC : Nat) (cc : Nat → Cdm) : Nat → Cdm := if mcB cs ts = 0 then cc else upto (gMc (cyc + 1) cs) cc nC
def mcN (cs ts cyc : Int32) : Int32 := if mcB cs ts = 0 then cyc else cyc + 1
def mcS (cs cyc : Int32) (nC : Nat) (cc : Nat → Cdm) : Int32 := if mcnt (pj q3 (upto (gMc (cyc + 1) cs) cc nC)) nC ≤ 0 then 0 else 1
def mcL (cs ts cyc : Int32) (nC : Nat) (cc : Nat → Cdm) (li : Int32) : Int32 := if mcB cs ts = 0 then li else mcS cs cyc nC cc
def mcX (cs ts cyc : Int32) (nC : Nat) (cc : Nat → Cdm) (li : Int32) (x : Int64) : Int64 := if mcB cs ts = 0 then x else foZ (mcS cs cyc nC cc) li x
def mcV (cs ts : Int32) (nM : Nat) (mm : Nat → Mon) : Int32 := if mcB cs ts = 0 then (-2) else mcntM mm cs nM
def mmOk (ka ca : Int32) : Int32 := if inF ka.toInt64 0 3 = 0 then 0 else if inF ca.toInt64 0 7 = 0 then 0 else 1
def mmN (ka ca : Int32) (nM : Nat) : Nat := if mmOk ka ca = 0 then nM else if nI nM = 16 then nM else nM + 1
def mmR (ka ca : Int32) (nM : Nat) : Int32 := if mmOk ka ca = 0 then (-2) else if nI nM = 16 then (-4) else nI (nM + 1)
def mmA (ka ca : Int32) (nM : Nat) (f : Nat → Int32) (v : Int32) : Nat → Int32 := if mmOk ka ca = 0 then f else if nI nM = 16 then f else upd f nM v
def mfOk (nu : Int32) : Int32 := inF nu.toInt64 1 65535
def mfN (gN : Nat → Int32) (nu : Int32) (nC : Nat) : Nat := if mfOk nu = 0 then nC else if nI (mkF gN nu nC nC) = 20 then nC else if nI (mkF gN nu nC nC) = nI nC then nC + 1 else nC
def mfR (gN : Nat → Int32) (nu : Int32) (nC : Nat) : Int32 := if mfOk nu = 0 then (-2) else if nI (mkF gN nu nC nC) = 20 then (-4) else nI (mfN gN nu nC)
def mfA (gN : Nat → Int32) (nu : Int32) (nC : Nat) : Nat → Int32 := if mfOk nu = 0 then gN else if nI (mkF gN nu nC nC) = 20 then gN else if nI (mkF gN nu nC nC) = nI nC then upd gN (mkF gN nu nC nC) nu else gN
def mfO (gN gO : Nat → Int32) (nu on : Int32) (nC : Nat) : Nat → Int32 := if mfOk nu = 0 then gO else if nI (mkF gN nu nC nC) = 20 then gO else upd gO (mkF gN nu nC nC) on
theorem nI_20 {k : Nat} (h : k ≤ 20) (hn : ¬ nI k = 20) : k < 20 := by
  rcases Nat.lt_or_ge k 20 with h1 | h1
  · exact h1
  · exact absurd (by rw [show k = 20 by omega]; decide) hn
theorem nI_16 {k : Nat} (h : k ≤ 16) (hn : ¬ nI k = 16) : k < 16 := by
  rcases Nat.lt_or_ge k 16 with h1 | h1
  · exact h1
  · exact absurd (by rw [show k = 16 by omega]; decide) hn
end MF3
