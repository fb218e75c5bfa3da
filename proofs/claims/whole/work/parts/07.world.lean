/-! the system's world: six cells that stand, the lists' rows, the monitors, the codes -/
section BW
abbrev Mon : Type := Int32 × Int32 × Int32 × Int32 × Int32 × Int32
abbrev Cod : Type := Int32 × Int32 × Int32 × Int32 × Int32 × Int32 × Int32 × Int32 × Int32
def monL (m : Mon) : List Value := [.int m.1, .int m.2.1, .int m.2.2.1, .int m.2.2.2.1, .int m.2.2.2.2.1, .int m.2.2.2.2.2]
def codL (q : Cod) : List Value := [.int q.1, .int q.2.1, .int q.2.2.1, .int q.2.2.2.1, .int q.2.2.2.2.1, .int q.2.2.2.2.2.1, .int q.2.2.2.2.2.2.1, .int q.2.2.2.2.2.2.2.1, .int q.2.2.2.2.2.2.2.2]
def monE (m : Mon) : va_E := .inr (4, monL m)
def codE (q : Cod) : va_E := .inr (5, codL q)
def tlW (bM bC : va_W) (nM : Nat) (am : Nat → Nat) (mon : Nat → Mon) (nC : Nat) (ac : Nat → Nat) (cod : Nat → Cod) : va_W := bM ++ (bC ++ (bx_pl nM am (fun i => monE (mon i)) ++ bx_pl nC ac (fun i => codE (cod i))))
variable {X bM bC : va_W} {nM nC k : Nat} {am ac : Nat → Nat} {mon : Nat → Mon} {cod : Nat → Cod}
theorem tl_mon (h : k < nM) : (X ++ tlW bM bC nM am mon nC ac cod)[X.length + (bM.length + (bC.length + k))]? = some (am k, monE (mon k)) := bx_at_r (bx_at_r (bx_at_r (bx_at_l (bx_pl_get (f := fun i => monE (mon i)) h))))
theorem tl_cod (h : k < nC) : (X ++ tlW bM bC nM am mon nC ac cod)[X.length + (bM.length + (bC.length + (nM + k)))]? = some (ac k, codE (cod k)) := by
  refine bx_at_r (bx_at_r (bx_at_r ?_))
  have h1 := bx_at_r (X := bx_pl nM am (fun i => monE (mon i))) (bx_pl_get (a := ac) (f := fun i => codE (cod i)) h)
  rwa [bx_pl_len] at h1
theorem tl_mon_set {m : Mon} (h : k < nM) : (X ++ tlW bM bC nM am mon nC ac cod).set (X.length + (bM.length + (bC.length + k))) (am k, monE m) = X ++ tlW bM bC nM am (va_up mon k m) nC ac cod := by
  unfold tlW
  rw [bx_set_r, bx_set_r, bx_set_r, List.set_append, if_pos (by rw [bx_pl_len]; exact h), bx_pl_set]
  congr 5
  funext i
  unfold va_up
  split <;> rfl
theorem tl_cod_set {q : Cod} : (X ++ tlW bM bC nM am mon nC ac cod).set (X.length + (bM.length + (bC.length + (nM + k)))) (ac k, codE q) = X ++ tlW bM bC nM am mon nC ac (va_up cod k q) := by
  unfold tlW
  have h1 := bx_set_r (X := bx_pl nM am (fun i => monE (mon i))) (Y := bx_pl nC ac (fun i => codE (cod i))) (k := k) (q := (ac k, codE q))
  rw [bx_pl_len] at h1
  rw [bx_set_r, bx_set_r, bx_set_r, h1, bx_pl_set]
  congr 5
  funext i
  unfold va_up
  split <;> rfl
theorem tl_inM {q : Nat × va_E} (h : q ∈ bM) : q ∈ X ++ tlW bM bC nM am mon nC ac cod := List.mem_append_right _ (List.mem_append_left _ h)
theorem tl_inC {q : Nat × va_E} (h : q ∈ bC) : q ∈ X ++ tlW bM bC nM am mon nC ac cod := List.mem_append_right _ (List.mem_append_right _ (List.mem_append_left _ h))
/-- a list of n elements whose row is bk, at e; the elements lie at a 0, a 1 .. -/
def LB (G : GG) (bk : va_W) (e n : Nat) (a : Nat → Nat) : Prop := n ≤ 20 ∧ (n = 0 ∨ ∃ (cap : Nat) (f : Nat → Option Nat), bk = [(e, .inl (G.2 0, cap, .inr (.inr (.inr (.inr f)))))] ∧ n ≤ cap ∧ cap ≤ 22 ∧ ∀ i, i < n → f i = some (a i))
theorem LB.some {G : GG} {bk : va_W} {e n k : Nat} {a : Nat → Nat} (h : LB G bk e n a) (hk : k < n) : ∃ (cap : Nat) (f : Nat → Option Nat), bk = [(e, .inl (G.2 0, cap, .inr (.inr (.inr (.inr f)))))] ∧ n ≤ cap ∧ cap ≤ 22 ∧ ∀ i, i < n → f i = some (a i) := by
  rcases h.2 with h1 | h1
  · omega
  · exact h1
/-- the first k of a row have been changed -/
def upto {α : Type} (g : Nat → α → α) (f : Nat → α) (k : Nat) : Nat → α := fun i => if i < k then g i (f i) else f i
theorem upto_self {α : Type} (g : Nat → α → α) (f : Nat → α) (k : Nat) : upto g f k k = f k := by simp [upto]
theorem upto_zero {α : Type} (g : Nat → α → α) (f : Nat → α) : upto g f 0 = f := by funext i; simp [upto]
theorem upto_succ {α : Type} (g : Nat → α → α) (f : Nat → α) (k : Nat) : va_up (upto g f k) k (g k (f k)) = upto g f (k + 1) := by
  funext i
  unfold va_up upto
  by_cases h1 : i = k
  · subst h1
    simp
  · by_cases h2 : i < k
    · simp [h1, h2, Nat.lt_succ_of_lt h2]
    · simp [h1, h2, show ¬ i < k + 1 by omega]
end BW
/-! what the system's methods answer and do, as functions of its state -/
section EF
abbrev OB : Type := Int32 × (Nat → Int32)
def oAdd (b : OB) (o : Int32) : OB := if b.1 < 0 then b else if 41 ≤ b.1 then b else (b.1 + 1, upd b.2 b.1.toNatClampNeg o.toInt8.toInt32)
def oTwo (b : OB) (x : Int32) : OB := oAdd (oAdd b (x >>> ((8 : Int32) &&& 31))) x
def oBeg (b : OB) (md : Int32) : OB := oAdd b (64 + md)
def totF (n : Int32) (f : Nat → Int32) : Nat → Int32 → Int32
  | 0, acc => acc
  | j + 1, acc => if n ≤ nI (41 - (j + 1)) then acc else totF n f j (acc + (f (41 - (j + 1)) &&& 255))
theorem in41 {n : Int32} (h1 : ¬ n < 0) (h2 : ¬ (41 : Int32) ≤ n) : vp_in n 41 := by
  rw [vp_in_iff]
  rw [Int32.lt_iff_toInt_lt] at h1
  rw [Int32.le_iff_toInt_le] at h2
  have e0 : (0 : Int32).toInt = 0 := by decide
  have e1 : (41 : Int32).toInt = 41 := by decide
  omega
def hcM (m : Mon) (cs : Int32) : Int32 := hcR m.1 m.2.1 m.2.2.2.2.1 cs
def ecM (m : Mon) (cs tr : Int32) : Mon := (m.1, m.2.1, ecR m.1 m.2.1 m.2.2.1 m.2.2.2.1 m.2.2.2.2.1 cs tr, ecC m.1 m.2.1 m.2.2.2.1 m.2.2.2.2.1 cs, hcH m.2.1 m.2.2.2.2.1 cs, ecT m.2.2.2.2.2 tr)
def cntM (mon : Nat → Mon) (cs : Int32) : Nat → Int32
  | 0 => 0
  | k + 1 => if hcM (mon k) cs = 0 then cntM mon cs k else cntM mon cs k + 1
def codOn (q : Cod) (cy cs : Int32) : Cod := (q.1, q.2.1, onP q.2.2.1 q.2.2.2.1, onK q.2.2.1 q.2.2.2.1, onK q.2.2.1 q.2.2.2.2.1, 0, 0, onF q.2.2.1 q.2.2.2.1 q.2.2.2.2.2.2.2.1 cy, onF q.2.2.1 q.2.2.2.1 q.2.2.2.2.2.2.2.2 cs)
def codOff (q : Cod) (cs : Int32) : Cod := (q.1, q.2.1, ofK q.2.2.1 q.2.2.2.2.2.1 q.2.2.1, ofK q.2.2.1 q.2.2.2.2.2.1 q.2.2.2.1, ofL q.2.2.2.2.1 q.2.2.2.2.2.2.1 cs, ofK q.2.2.1 q.2.2.2.2.2.1 (q.2.2.2.2.2.1 + 1), ofZ q.2.2.2.2.2.2.1 cs, ofK q.2.2.1 q.2.2.2.2.2.1 q.2.2.2.2.2.2.2.1, ofK q.2.2.1 q.2.2.2.2.2.1 q.2.2.2.2.2.2.2.2)
def codCy (cy cs : Int32) (q : Cod) : Cod := if q.2.1 = 0 then codOff q cs else codOn q cy cs
def codFg (q : Cod) : Cod := (q.1, q.2.1, 0, 0, q.2.2.2.2.1, 0, q.2.2.2.2.2.2.1, 0, 0)
def monNt (m : Mon) : Mon := (m.1, m.2.1, m.2.2.1, m.2.2.2.1, m.2.2.2.2.1, 0)
def cntC (cod : Nat → Cod) : Nat → Int32
  | 0 => 0
  | k + 1 => if (cod k).2.2.2.1 = 0 then cntC cod k else cntC cod k + 1
def rdF (mon : Nat → Mon) (kd : Int32) (n : Nat) : Nat → Int32 → Int32
  | 0, acc => acc
  | j + 1, acc => if (mon (n - (j + 1))).1 = kd then (if (mon (n - (j + 1))).2.2.2.2.2 = 0 then 0 else rdF mon kd n j 1) else rdF mon kd n j acc
def kcF (cod : Nat → Cod) (nu : Int32) (n : Nat) : Nat → Option Nat
  | 0 => none
  | j + 1 => if (cod (n - (j + 1))).1 = nu then some (n - (j + 1)) else kcF cod nu n j
def ffF (cod : Nat → Cod) (n : Nat) : Nat → Option Nat
  | 0 => none
  | j + 1 => if frF (cod (n - (j + 1))).2.2.2.2.2.2.2.1 = 0 then ffF cod n j else some (n - (j + 1))
def pmF (cod : Nat → Cod) (i : Int32) (n : Nat) : Nat → Int32 → Int32
  | 0, _ => 0
  | j + 1, bf => if (cod (n - (j + 1))).2.2.2.2.1 = 0 then pmF cod i n j bf else if bf = i then (cod (n - (j + 1))).1 else pmF cod i n j (bf + 1)
def knF (mon : Nat → Mon) (nM : Nat) : Nat → Int32 → Int32
  | 0, b => b
  | j + 1, b => knF mon nM j (if rdF mon (nI (4 - (j + 1))) nM nM 2 = 0 then b ||| ((1 : Int32) <<< (nI (4 - (j + 1)) &&& 31)) else b)
def tcF (cod : Nat → Cod) (md : Int32) (n : Nat) : Nat → OB → OB
  | 0, b => b
  | j + 1, b => tcF cod md n j (if toldF md (cod (n - (j + 1))).2.2.1 (cod (n - (j + 1))).2.2.2.1 (cod (n - (j + 1))).2.2.2.2.1 = 0 then b else oTwo b (cod (n - (j + 1))).1)
def tnF (mon : Nat → Mon) (n : Nat) : Nat → OB → OB
  | 0, b => b
  | j + 1, b => tnF mon n j (oAdd (oAdd b (mon (n - (j + 1))).2.2.1) (mon (n - (j + 1))).2.2.2.1)
def ilF (pt ru ch : Int32) : Nat → Int32
  | 0 => pt
  | d + 1 => if nI (d + 1) ≤ 1 then pt else if ru - ru / nI (d + 1) * nI (d + 1) = 0 then (if ch - ch / nI (d + 1) * nI (d + 1) = 0 then pt / nI (d + 1) else ilF pt ru ch d) else ilF pt ru ch d
def isM (nn : Int32) (nM : Nat) : Int32 := if nn < 1 then 0 else if nI nM < nn then 0 else 1
theorem isM_bz (nn : Int32) (nM : Nat) : bz (isM nn nM) := bz_if bz0 (bz_if bz0 bz1)
def rdyF (mon : Nat → Mon) (nM : Nat) (kd : Int32) : Int32 := if kindF kd = 0 then (-2) else rdF mon kd nM nM 2
theorem fu_ix {n k : Nat} (h : k < n) : n - k = (n - (k + 1)) + 1 ∧ n - ((n - (k + 1)) + 1) = k := by omega
theorem rdF_step {mon : Nat → Mon} (kd acc : Int32) {n k : Nat} (h : k < n) : rdF mon kd n (n - k) acc = if (mon k).1 = kd then (if (mon k).2.2.2.2.2 = 0 then 0 else rdF mon kd n (n - (k + 1)) 1) else rdF mon kd n (n - (k + 1)) acc := by
  obtain ⟨h1, h2⟩ := fu_ix h
  rw [h1, rdF, h2]
theorem kcF_step {cod : Nat → Cod} (nu : Int32) {n k : Nat} (h : k < n) : kcF cod nu n (n - k) = if (cod k).1 = nu then some k else kcF cod nu n (n - (k + 1)) := by
  obtain ⟨h1, h2⟩ := fu_ix h
  rw [h1, kcF, h2]
theorem ffF_step {cod : Nat → Cod} {n k : Nat} (h : k < n) : ffF cod n (n - k) = if frF (cod k).2.2.2.2.2.2.2.1 = 0 then ffF cod n (n - (k + 1)) else some k := by
  obtain ⟨h1, h2⟩ := fu_ix h
  rw [h1, ffF, h2]
theorem pmF_step {cod : Nat → Cod} (i bf : Int32) {n k : Nat} (h : k < n) : pmF cod i n (n - k) bf = if (cod k).2.2.2.2.1 = 0 then pmF cod i n (n - (k + 1)) bf else if bf = i then (cod k).1 else pmF cod i n (n - (k + 1)) (bf + 1) := by
  obtain ⟨h1, h2⟩ := fu_ix h
  rw [h1, pmF, h2]
theorem knF_step {mon : Nat → Mon} {nM : Nat} (b : Int32) {k : Nat} (h : k < 4) : knF mon nM (4 - k) b = knF mon nM (4 - (k + 1)) (if rdF mon (nI k) nM nM 2 = 0 then b ||| ((1 : Int32) <<< (nI k &&& 31)) else b) := by
  obtain ⟨h1, h2⟩ := fu_ix h
  rw [h1, knF, h2]
theorem tcF_step {cod : Nat → Cod} (md : Int32) {n : Nat} (b : OB) {k : Nat} (h : k < n) : tcF cod md n (n - k) b = tcF cod md n (n - (k + 1)) (if toldF md (cod k).2.2.1 (cod k).2.2.2.1 (cod k).2.2.2.2.1 = 0 then b else oTwo b (cod k).1) := by
  obtain ⟨h1, h2⟩ := fu_ix h
  rw [h1, tcF, h2]
theorem tnF_step {mon : Nat → Mon} {n : Nat} (b : OB) {k : Nat} (h : k < n) : tnF mon n (n - k) b = tnF mon n (n - (k + 1)) (oAdd (oAdd b (mon k).2.2.1) (mon k).2.2.2.1) := by
  obtain ⟨h1, h2⟩ := fu_ix h
  rw [h1, tnF, h2]
theorem totF_step {n : Int32} {f : Nat → Int32} (acc : Int32) {k : Nat} (h : k < 41) : totF n f (41 - k) acc = if n ≤ nI k then acc else totF n f (41 - (k + 1)) (acc + (f k &&& 255)) := by
  obtain ⟨h1, h2⟩ := fu_ix h
  rw [h1, totF, h2]
theorem totF_stop {n : Int32} {f : Nat → Int32} {acc : Int32} {k : Nat} (h : n ≤ nI k) (hk : k ≤ 41) : totF n f (41 - k) acc = acc := by
  rcases Nat.lt_or_ge k 41 with h1 | h1
  · rw [totF_step _ h1, if_pos h]
  · rw [show 41 - k = 0 by omega]
    rfl
end EF
