/-! further functions of the system's methods -/
section EF2
theorem bx_nd1 {p : Nat} : va_nd [p] = true := by simp [va_nd]
def twoF (v : Int64) : Int32 := (if (65535 : Int64) < v then (65535 : Int64) else v).toInt32
theorem ilF_step {pt ru ch : Int32} {k : Nat} (h : 0 < k) : ilF pt ru ch k = if nI k ≤ 1 then pt else if ru - ru / nI k * nI k = 0 then (if ch - ch / nI k * nI k = 0 then pt / nI k else ilF pt ru ch (k - 1)) else ilF pt ru ch (k - 1) := by
  obtain ⟨j, rfl⟩ : ∃ j, k = j + 1 := ⟨k - 1, by omega⟩
  rw [ilF, Nat.add_sub_cancel]
theorem ilF_stop {pt ru ch : Int32} {k : Nat} (h : nI k ≤ 1) : ilF pt ru ch k = pt := by
  rcases Nat.eq_zero_or_pos k with h0 | h0
  · subst h0
    rfl
  · rw [ilF_step h0, if_pos h]
theorem isM_some {nn : Int32} {nM : Nat} (h : ¬ isM nn nM = 0) (hn : nM ≤ 20) : ∃ k, k < nM ∧ nn = nI (k + 1) := by
  unfold isM at h
  by_cases h1 : nn < 1
  · simp [h1] at h
  · by_cases h2 : nI nM < nn
    · simp [h1, h2] at h
    · have e1 : (1 : Int32).toInt = 1 := by decide
      rw [Int32.lt_iff_toInt_lt, e1] at h1
      rw [Int32.lt_iff_toInt_lt, nI_toInt (by omega)] at h2
      obtain ⟨j, hj, ej⟩ := nI_of (x := nn) (fun z => by
        rw [Int32.lt_iff_toInt_lt] at z
        have e0 : (0 : Int32).toInt = 0 := by decide
        omega)
      subst ej
      rw [nI_toInt hj] at h1 h2
      exact ⟨j - 1, by omega, by rw [show j - 1 + 1 = j by omega]⟩
def ixM (nn : Int32) : Nat := (nn - 1).toNatClampNeg
theorem ixM_at {k : Nat} (h : k < 100) : ixM (nI (k + 1)) = k := by
  unfold ixM
  rw [nI_pred, nI_clamp (by omega)]
def cnF (mon : Nat → Mon) (nM : Nat) (mo wh : Int32) : Int32 := if isM mo nM = 0 then (-1) else if wh = 0 then (mon (ixM mo)).2.2.1 else (mon (ixM mo)).2.2.2.1
theorem ffF_lt {cod : Nat → Cod} {n : Nat} : ∀ {m j : Nat}, m ≤ n → ffF cod n m = some j → j < n
  | 0, j, _, h => by simp [ffF] at h
  | m + 1, j, hm, h => by
    rw [ffF] at h
    split at h
    · exact ffF_lt (by omega) h
    · cases h
      omega
theorem kcF_lt {cod : Nat → Cod} {nu : Int32} {n : Nat} : ∀ {m j : Nat}, m ≤ n → kcF cod nu n m = some j → j < n
  | 0, j, _, h => by simp [kcF] at h
  | m + 1, j, hm, h => by
    rw [kcF] at h
    split at h
    · cases h
      omega
    · exact kcF_lt (by omega) h
def frzF (cod : Nat → Cod) (nC : Nat) (mi : Int64) (i : Int32) : Int32 :=
  if i < 0 then (-2) else if i ≤ 3 then (if i = 3 then twoF mi else
    match ffF cod nC nC with
    | none => 0
    | some j => if i = 0 then (cod j).1 else if i = 1 then (cod j).2.2.2.2.2.2.2.1 else (cod j).2.2.2.2.2.2.2.2) else (-2)
def lmpB (xm xi : Int64) : Int32 := if lg_cmp xm 0 < 0 then 0 else if 0 < lg_cmp xm 1000000000 then 0 else if lg_cmp xi 0 < 0 then 0 else if lg_cmp xi 1000000000 ≤ 0 then 1 else 0
def lmpX (xm xi : Int64) (li : Int32) (x d : Int64) : Int64 := if lmpB xm xi = 0 then x else goM li x d
def lmpR (xm xi : Int64) (li : Int32) : Int32 := if lmpB xm xi = 0 then (-2) else if li = 0 then 0 else 1
def gEc (cs ts : Int32) (i : Nat) (m : Mon) : Mon := ecM m cs (bitF ts (nI i))
def gCy (cy cs : Int32) (_ : Nat) (q : Cod) : Cod := codCy cy cs q
def gFg (_ : Nat) (q : Cod) : Cod := codFg q
def gNt (_ : Nat) (m : Mon) : Mon := monNt m
def cyB (cs ts : Int32) : Int32 := if cs < 0 then 0 else if 255 < cs then 0 else if ts < 0 then 0 else if ts ≤ 65535 then 1 else 0
def cyM (cs ts : Int32) (nM : Nat) (mon : Nat → Mon) : Nat → Mon := if cyB cs ts = 0 then mon else upto (gEc cs ts) mon nM
def cyC (cs ts cyc : Int32) (nC : Nat) (cod : Nat → Cod) : Nat → Cod := if cyB cs ts = 0 then cod else upto (gCy (cyc + 1) cs) cod nC
def cyN (cs ts cyc : Int32) : Int32 := if cyB cs ts = 0 then cyc else cyc + 1
def cyS (cs cyc : Int32) (nC : Nat) (cod : Nat → Cod) : Int32 := if cntC (upto (gCy (cyc + 1) cs) cod nC) nC ≤ 0 then 0 else 1
theorem cyS_bz (cs cyc : Int32) (nC : Nat) (cod : Nat → Cod) : bz (cyS cs cyc nC cod) := bz_if bz0 bz1
def cyL (cs ts cyc : Int32) (nC : Nat) (cod : Nat → Cod) (li : Int32) : Int32 := if cyB cs ts = 0 then li else cyS cs cyc nC cod
def cyZ (cs ts cyc : Int32) (nC : Nat) (cod : Nat → Cod) (li : Int32) (x : Int64) : Int64 := if cyB cs ts = 0 then x else foZ (cyS cs cyc nC cod) li x
def cyR (cs ts : Int32) (nM : Nat) (mon : Nat → Mon) : Int32 := if cyB cs ts = 0 then (-2) else cntM mon cs nM
def tnow (b : OB) (id : Int32) (cod : Nat → Cod) (nC : Nat) (mon : Nat → Mon) (nM : Nat) (li : Int32) (me : Int64) : OB :=
  if id = 1 then oAdd (oAdd (oAdd (oBeg b 1) id) (cntC cod nC + (if li = 0 then 0 else 128))) (knF mon nM 4 0)
  else if id = 33 then oTwo (oAdd (oBeg b 1) id) (twoF (me / 1000)) else b
def tfro (b : OB) (id : Int32) (cod : Nat → Cod) (nC : Nat) : OB :=
  match ffF cod nC nC with
  | none => b
  | some j => if id < 0 then b else if 8 ≤ id then b else oAdd (oTwo (oTwo (oAdd (oBeg b 2) id) (cod j).1) (cod j).2.2.2.2.2.2.2.1) (if bitF (cod j).2.2.2.2.2.2.2.2 id = 0 then 0 else 1)
def tcnt (b : OB) (id : Int32) (mon : Nat → Mon) (nM : Nat) : OB := if id = 8 then tnF mon nM nM (oAdd (oBeg b 9) id) else b
def tcod (b : OB) (md : Int32) (cod : Nat → Cod) (nC : Nat) : OB := tcF cod md nC nC (oBeg b md)
def bzC (cod : Nat → Cod) (nC : Nat) : Prop := ∀ i, i < nC → bz (cod i).2.1 ∧ bz (cod i).2.2.1 ∧ bz (cod i).2.2.2.1 ∧ bz (cod i).2.2.2.2.1
def ansF (md id : Int32) (b : OB) (cod : Nat → Cod) (nC : Nat) (mon : Nat → Mon) (nM : Nat) (li : Int32) (me : Int64) : OB :=
  if md = 1 then tnow ((0 : Int32), b.2) id cod nC mon nM li me else if md = 2 then tfro ((0 : Int32), b.2) id cod nC
  else if md = 3 then tcod ((0 : Int32), b.2) md cod nC else if md = 4 then ((0 : Int32), b.2) else if md = 5 then ((0 : Int32), b.2) else if md = 6 then ((0 : Int32), b.2)
  else if md = 7 then tcod ((0 : Int32), b.2) md cod nC else if md = 8 then ((0 : Int32), b.2) else if md = 9 then tcnt ((0 : Int32), b.2) id mon nM
  else if md = 10 then tcod ((0 : Int32), b.2) md cod nC else ((0 : Int32), b.2)
theorem tl_mon_u {X bM bC : va_W} {nM nC k : Nat} {am ac : Nat → Nat} {mon : Nat → Mon} {cod : Nat → Cod} {g : Nat → Mon → Mon} (h : k < nM) : (X ++ tlW bM bC nM am (upto g mon k) nC ac cod)[X.length + (bM.length + (bC.length + k))]? = some (am k, monE (mon k)) := by rw [tl_mon h, upto_self]
theorem tl_cod_u {X bM bC : va_W} {nM nC k : Nat} {am ac : Nat → Nat} {mon : Nat → Mon} {cod : Nat → Cod} {g : Nat → Cod → Cod} (h : k < nC) : (X ++ tlW bM bC nM am mon nC ac (upto g cod k))[X.length + (bM.length + (bC.length + (nM + k)))]? = some (ac k, codE (cod k)) := by rw [tl_cod h, upto_self]
end EF2
