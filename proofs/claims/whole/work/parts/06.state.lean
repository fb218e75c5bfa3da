/-! what the small methods answer and do, as functions of numbers -/
section SF
def bitF (a b : Int32) : Int32 := if (a >>> (b &&& 31)) &&& 1 = 1 then 1 else 0
theorem bitF_bz (a b : Int32) : bz (bitF a b) := bz_if bz1 bz0
-- a monitor: kind, condition, runs, chances, cycles held, tested
def ccR (ru ch tr : Int32) : Int32 := if tr = 0 then (if ch < 100 then ru else ru / 2) else (if ch < 100 then ru else ru / 2) + 1
def ccC (ch : Int32) : Int32 := (if ch < 100 then ch else ch / 2) + 1
def hcH (cd he cs : Int32) : Int32 := if bitF cs cd = 0 then he else he + 1
def hcR (kd cd he cs : Int32) : Int32 :=
  if kd = 1 then (if bitF cs cd = 0 then 0 else if bitF cs (cd + 1 - (cd + 1) / 8 * 8) = 0 then 0 else 1)
  else if kd = 2 then (if bitF cs cd = 0 then 0 else if (he + 1) - (he + 1) / 2 * 2 = 0 then 1 else 0)
  else if kd = 3 then (if bitF cs cd = 0 then 1 else 0) else bitF cs cd
theorem hcR_bz (kd cd he cs : Int32) : bz (hcR kd cd he cs) := by
  unfold hcR
  refine bz_if (bz_if bz0 (bz_if bz0 bz1)) (bz_if (bz_if bz0 (bz_if bz1 bz0)) (bz_if (bz_if bz1 bz0) (bitF_bz _ _)))
def ecR (kd cd ru ch he cs tr : Int32) : Int32 := if hcR kd cd he cs = 0 then ru else ccR ru ch tr
def ecC (kd cd ch he cs : Int32) : Int32 := if hcR kd cd he cs = 0 then ch else ccC ch
def ecT (te tr : Int32) : Int32 := if tr = 0 then te else 1
-- a code: number, on, pending, confirmed, lasting, off in a row, off with condition 0, frozen cycle, frozen conditions
def onP (pe co : Int32) : Int32 := if pe = 0 then (if co = 0 then 1 else 0) else 0
def onK (pe x : Int32) : Int32 := if pe = 0 then x else 1
def onF (pe co x y : Int32) : Int32 := if pe = 0 then (if co = 0 then y else x) else x
def ofG (pe ofr : Int32) : Int32 := if pe = 0 then (if ofr + 1 < 3 then 0 else 1) else 1
def ofZ (oz cs : Int32) : Int32 := if bitF cs 0 = 0 then oz else oz + 1
def ofK (pe ofr x : Int32) : Int32 := if ofG pe ofr = 0 then x else 0
def ofL (la oz cs : Int32) : Int32 := if ofZ oz cs < 3 then la else 0
def frF (fc : Int32) : Int32 := if fc = 0 then 0 else 1
def toldF (md pe co la : Int32) : Int32 := if md = 3 then co else if md = 7 then pe else if md = 10 then la else 0
-- the lamp: lit, metres, minutes
def foZ (b li : Int32) (x : Int64) : Int64 := if b = 0 then x else if li = 0 then 0 else x
def goM (li : Int32) (x y : Int64) : Int64 := if li = 0 then x else x + y
def kindF (k : Int32) : Int32 := if k < 0 then 0 else if 4 ≤ k then 0 else 1
theorem kindF_bz (k : Int32) : bz (kindF k) := bz_if bz0 (bz_if bz0 bz1)
def hasF (i n : Int32) : Int32 := if i < 0 then 0 else if n ≤ i then 0 else if 41 ≤ i then 0 else 1
end SF
