/-! the reference's methods, as functions -/
section MF
theorem vn1 : vp_nar .boolean 1 = 1 := by decide
theorem vn0 : vp_nar .boolean 0 = 0 := by decide
theorem bz.v {x : Int32} (h : bz x) : vp_nar .boolean x = x := by rcases h with rfl | rfl <;> decide
theorem upd_upd (f : Nat → Int32) (k : Nat) (a b : Int32) : upd (upd f k a) k b = upd f k b := by
  funext j
  unfold upd
  split <;> rfl
theorem upd_id (f : Nat → Int32) (k : Nat) : upd f k (f k) = f := by
  funext j
  unfold upd
  split
  · next h => rw [h]
  · rfl
theorem upd_idv {f : Nat → Int32} {k : Nat} {v : Int32} (h : f k = v) : upd f k v = f := by rw [← h]; exact upd_id f k
def inF (v a b : Int64) : Int32 := if lg_cmp v a < 0 then 0 else if 0 < lg_cmp v b then 0 else 1
theorem inF_bz (v a b : Int64) : bz (inF v a b) := bz_if bz0 (bz_if bz0 bz1)
def mhH (kd cd he cs : Int32) : Int32 := if kd = 2 then (if bitF cs cd = 0 then he else he + 1) else he
def mhR (kd cd he cs : Int32) : Int32 :=
  if kd = 1 then (if bitF cs cd = 0 then 0 else if bitF cs (if cd = 7 then 0 else cd + 1) = 0 then 0 else 1)
  else if kd = 0 then bitF cs cd else if kd = 2 then (if bitF cs cd = 0 then 0 else if (he + 1) - (he + 1) / 2 * 2 = 0 then 1 else 0)
  else if bitF cs cd = 0 then 1 else 0
theorem mhR_bz (kd cd he cs : Int32) : bz (mhR kd cd he cs) := by
  unfold mhR
  exact bz_if (bz_if bz0 (bz_if bz0 bz1)) (bz_if (bitF_bz _ _) (bz_if (bz_if bz0 (bz_if bz1 bz0)) (bz_if bz1 bz0)))
def mcC (ch : Int32) : Int32 := (if ch = 100 then ch / 2 else ch) + 1
def mcR (ru ch tr : Int32) : Int32 := (if ch = 100 then ru / 2 else ru) + (if tr = 0 then 0 else 1)
def moP (pe co : Int32) : Int32 := if pe = 0 then (if co = 0 then 1 else pe) else 0
def moK (pe x : Int32) : Int32 := if pe = 0 then x else 1
def moF (pe co x y : Int32) : Int32 := if pe = 0 then (if co = 0 then y else x) else x
def mfP (pe : Int32) : Int32 := if pe = 0 then pe else 0
def mfW1 (pe fz : Int32) : Int32 := if pe = 0 then fz else 0
def mfZ (ps cs : Int32) : Int32 := ps + (if bitF cs 0 = 0 then 0 else 1)
def mfQ (co fo : Int32) : Int32 := if co = 0 then co else if fo + 1 < 3 then co else 0
def mfW (pe fz co fo : Int32) : Int32 := if co = 0 then mfW1 pe fz else if fo + 1 < 3 then mfW1 pe fz else 0
def mfL (la ps cs : Int32) : Int32 := if la = 0 then 0 else if 3 ≤ mfZ ps cs then 0 else 1
def mcnt (gQ : Nat → Int32) : Nat → Int32
  | 0 => 0
  | k + 1 => mcnt gQ k + (if gQ k = 0 then 0 else 1)
end MF
