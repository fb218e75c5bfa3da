/-! the reference's larger methods, as functions -/
section MF2
theorem pj_at {α : Type} (π : α → Int32) (f : Nat → α) (k : Nat) : (fun i => π (f i)) k = π (f k) := rfl
def fzF (gW : Nat → Int32) (n : Nat) : Nat → Nat
  | 0 => n
  | j + 1 => if gW (n - (j + 1)) = 0 then fzF gW n j else n - (j + 1)
theorem fzF_step {gW : Nat → Int32} {n k : Nat} (h : k < n) : fzF gW n (n - k) = if gW k = 0 then fzF gW n (n - (k + 1)) else k := by
  obtain ⟨h1, h2⟩ := fu_ix h
  rw [h1, fzF, h2]
def mostF (v : Int64) : Int32 := if lg_cmp v 65535 ≤ 0 then v.toInt32 else 65535
theorem inF_isM (mo : Int32) {n : Nat} (hn : n ≤ 20) : inF mo.toInt64 1 (nI n).toInt64 = isM mo n := by
  unfold inF isM
  have e1 : lg_cmp mo.toInt64 1 < 0 ↔ mo < 1 := by
    rw [lg_cmp_lt, Int64.lt_iff_toInt_lt, Int32.lt_iff_toInt_lt, Int32.toInt_toInt64]
    exact Iff.rfl
  have e2 : 0 < lg_cmp mo.toInt64 (nI n).toInt64 ↔ nI n < mo := by
    rw [lg_cmp_gt, Int64.lt_iff_toInt_lt, Int32.lt_iff_toInt_lt, Int32.toInt_toInt64, Int32.toInt_toInt64]
  simp only [e1, e2]
def mcnF (fR fH : Nat → Int32) (nM : Nat) (mo wh : Int32) : Int32 := if inF mo.toInt64 1 (nI nM).toInt64 = 0 then (-1) else if wh = 0 then fR (ixM mo) else fH (ixM mo)
def mrF (fK fY : Nat → Int32) (kd : Int32) (n : Nat) : Nat → Int32 → Int32
  | 0, acc => acc
  | j + 1, acc => mrF fK fY kd n j (if fK (n - (j + 1)) = kd then (if fY (n - (j + 1)) = 0 then 0 else if acc = 0 then 0 else 1) else acc)
theorem mrF_step {fK fY : Nat → Int32} (kd acc : Int32) {n k : Nat} (h : k < n) : mrF fK fY kd n (n - k) acc = mrF fK fY kd n (n - (k + 1)) (if fK k = kd then (if fY k = 0 then 0 else if acc = 0 then 0 else 1) else acc) := by
  obtain ⟨h1, h2⟩ := fu_ix h
  rw [h1, mrF, h2]
def mrdy (fK fY : Nat → Int32) (nM : Nat) (kd : Int32) : Int32 := if inF kd.toInt64 0 3 = 0 then (-2) else mrF fK fY kd nM nM 2
def mpF (gN gL : Nat → Int32) (i : Int32) (n : Nat) : Nat → Int32 → Int32
  | 0, _ => 0
  | j + 1, bf => if gL (n - (j + 1)) = 0 then mpF gN gL i n j bf else if bf = i then gN (n - (j + 1)) else mpF gN gL i n j (bf + 1)
theorem mpF_step {gN gL : Nat → Int32} (i bf : Int32) {n k : Nat} (h : k < n) : mpF gN gL i n (n - k) bf = if gL k = 0 then mpF gN gL i n (n - (k + 1)) bf else if bf = i then gN k else mpF gN gL i n (n - (k + 1)) (bf + 1) := by
  obtain ⟨h1, h2⟩ := fu_ix h
  rw [h1, mpF, h2]
def mkF (gN : Nat → Int32) (nu : Int32) (n : Nat) : Nat → Nat
  | 0 => n
  | j + 1 => if gN (n - (j + 1)) = nu then n - (j + 1) else mkF gN nu n j
theorem mkF_step {gN : Nat → Int32} (nu : Int32) {n k : Nat} (h : k < n) : mkF gN nu n (n - k) = if gN k = nu then k else mkF gN nu n (n - (k + 1)) := by
  obtain ⟨h1, h2⟩ := fu_ix h
  rw [h1, mkF, h2]
def zk (f : Nat → Int32) (k : Nat) : Nat → Int32 := fun i => if i < k then 0 else f i
theorem zk_zero (f : Nat → Int32) : zk f 0 = f := by funext i; simp [zk]
theorem zk_succ (f : Nat → Int32) (k : Nat) : upd (zk f k) k 0 = zk f (k + 1) := by
  funext i
  unfold upd zk
  by_cases h1 : i = k
  · subst h1
    simp
  · by_cases h2 : i < k
    · simp [h1, h2, Nat.lt_succ_of_lt h2]
    · simp [h1, h2, show ¬ i < k + 1 by omega]
def mlB (xm xi : Int64) : Int32 := if inF xm 0 1000000000 = 0 then 0 else if inF xi 0 1000000000 = 0 then 0 else 1
def mlX (xm xi : Int64) (li : Int32) (x d : Int64) : Int64 := if mlB xm xi = 0 then x else if li = 0 then x else x + d
def mlR (xm xi : Int64) (li : Int32) : Int32 := if mlB xm xi = 0 then (-2) else if li = 0 then 0 else 1
def mfz (gN gW gC gD : Nat → Int32) (nC : Nat) (mi : Int64) (i : Int32) : Int32 :=
  if inF i.toInt64 0 3 = 0 then (-2) else if i = 3 then mostF mi else if nI (fzF gW nC nC) = nI nC then 0 else if i = 0 then gN (fzF gW nC nC) else if i = 1 then gC (fzF gW nC nC) else gD (fzF gW nC nC)
theorem fzF_le {gW : Nat → Int32} {n : Nat} : ∀ m, fzF gW n m ≤ n
  | 0 => Nat.le_refl _
  | m + 1 => by
    rw [fzF]
    split
    · exact fzF_le m
    · omega
abbrev MB : Type := Nat × (Nat → Int32)
def mPut (b : MB) (v : Int32) : MB := (b.1 + 1, upd b.2 b.1 (v &&& 255))
def mTwo (b : MB) (v : Int32) : MB := mPut (mPut b (v >>> ((8 : Int32) &&& 31))) v
def msF (f : Nat → Int32) : Nat → Int32
  | 0 => 0
  | k + 1 => msF f k + f k
def mbF (fK fY : Nat → Int32) : Nat → Int32
  | 0 => 0
  | k + 1 => mbF fK fY k ||| (if fY k = 0 then (1 : Int32) <<< (fK k &&& 31) else 0)
def mtS (b : MB) (gQ fK fY : Nat → Int32) (nC nM : Nat) (li : Int32) : MB := mPut (mPut (mPut (mPut b 65) 1) (mcnt gQ nC + (if li = 0 then 0 else 128))) (mbF fK fY nM)
def mtF (b : MB) (id : Int32) (gN gW gC gD : Nat → Int32) (nC : Nat) : MB := if nI nC ≤ nI (fzF gW nC nC) then b else mPut (mTwo (mTwo (mPut (mPut b 66) id) (gN (fzF gW nC nC))) (gC (fzF gW nC nC))) (if bitF (gD (fzF gW nC nC)) id = 0 then 0 else 1)
def mtold (md pe co la : Int32) : Int32 := if md = 3 then (if co = 0 then 0 else 1) else if md = 7 then (if pe = 0 then 0 else 1) else if md = 10 then (if la = 0 then 0 else 1) else 0
def mtcF (gN gP gQ gL : Nat → Int32) (md : Int32) (n : Nat) : Nat → MB → MB
  | 0, b => b
  | j + 1, b => mtcF gN gP gQ gL md n j (if mtold md (gP (n - (j + 1))) (gQ (n - (j + 1))) (gL (n - (j + 1))) = 0 then b else mTwo b (gN (n - (j + 1))))
theorem mtcF_step {gN gP gQ gL : Nat → Int32} (md : Int32) (b : MB) {n k : Nat} (h : k < n) : mtcF gN gP gQ gL md n (n - k) b = mtcF gN gP gQ gL md n (n - (k + 1)) (if mtold md (gP k) (gQ k) (gL k) = 0 then b else mTwo b (gN k)) := by
  obtain ⟨h1, h2⟩ := fu_ix h
  rw [h1, mtcF, h2]
def mtnF (fR fH : Nat → Int32) (n : Nat) : Nat → MB → MB
  | 0, b => b
  | j + 1, b => mtnF fR fH n j (mPut (mPut b (fR (n - (j + 1)))) (fH (n - (j + 1))))
theorem mtnF_step {fR fH : Nat → Int32} (b : MB) {n k : Nat} (h : k < n) : mtnF fR fH n (n - k) b = mtnF fR fH n (n - (k + 1)) (mPut (mPut b (fR k)) (fH k)) := by
  obtain ⟨h1, h2⟩ := fu_ix h
  rw [h1, mtnF, h2]
end MF2
