/-! worlds, calls, loops: general rows of my own -/
section BX
/-- part of a world, by membership -/
theorem bx_sub {D : va_G} {cl : List vw_C} {ws ws' : va_W} {H : Heap} (h : va_P D cl ws H) (hm : ∀ q ∈ ws', q ∈ ws) : va_P D cl ws' H := by
  intro k q hk
  obtain ⟨i, hi⟩ := List.getElem?_of_mem (hm q (List.mem_of_getElem? hk))
  exact h i q hi
theorem bx_one {D : va_G} {cl : List vw_C} {ws : va_W} {H : Heap} {k : Nat} {q : Nat × va_E} (h : va_P D cl ws H) (hk : ws[k]? = some q) : va_P D cl [q] H :=
  bx_sub h (fun z hz => by rw [List.mem_singleton.mp hz]; exact List.mem_of_getElem? hk)
theorem bx_d1 {A : Nat → Prop} {q : Nat × va_E} (h : A q.1) : va_D A [q] := by
  refine ⟨fun i j x y hi hj _ => ?_, fun k x hk => ?_⟩
  · have h1 : i < 1 := (List.getElem?_eq_some_iff.mp hi).1
    have h2 : j < 1 := (List.getElem?_eq_some_iff.mp hj).1
    omega
  · rw [List.mem_singleton.mp (List.mem_of_getElem? hk)]
    exact h
/-- one cell of a world, at place k, was changed by a call -/
theorem bx_put {D : va_G} {cl : List vw_C} {A0 : Nat → Prop} {ws : va_W} {H H1 : Heap} {k a : Nat} {e e' : va_E} (hP : va_P D cl ws H) (hD : va_D A0 ws) (hk : ws[k]? = some (a, e))
    (hkeep : ∀ q : Nat, q < H.size → ¬ va_A [(a, e)] H.size q → H1[q]? = H[q]?) (hP1 : va_P D cl [(a, e')] H1) : va_P D cl (ws.set k (a, e')) H1 ∧ va_D A0 (ws.set k (a, e')) := by
  have hl := (List.getElem?_eq_some_iff.mp hk).1
  refine ⟨fun i q hi => ?_, hD.set hk⟩
  by_cases hik : i = k
  · subst hik
    rw [List.getElem?_set_self hl] at hi
    cases hi
    exact hP1 0 _ rfl
  · rw [List.getElem?_set_ne (Ne.symm hik)] at hi
    have hlt := (hP i q hi).lt
    refine (hP i q hi).kept (hkeep q.1 hlt ?_)
    rintro (⟨j, e9, hj⟩ | h9)
    · have hm := List.mem_singleton.mp (List.mem_of_getElem? hj)
      have ha : q.1 = a := congrArg Prod.fst hm
      exact hik (hD.1 i k q (a, e) hi hk ha)
    · omega
/-- some places of a world take new cells -/
def bx_sets (ws : va_W) (ks : List Nat) (w : va_W) : va_W := (ks.zip w).foldl (fun z q => z.set q.1 q.2) ws
theorem bx_sets_at : ∀ (ks : List Nat) (w ws : va_W), va_nd ks = true → ks.length = w.length → ∀ (i : Nat) (q : Nat × va_E), (bx_sets ws ks w)[i]? = some q → (∃ j : Nat, ks[j]? = some i ∧ w[j]? = some q) ∨ (i ∉ ks ∧ ws[i]? = some q)
  | [], w, ws, _, _, i, q, h => Or.inr ⟨List.not_mem_nil, h⟩
  | k :: ks, [], ws, _, hl, i, q, h => by simp at hl
  | k :: ks, z :: w, ws, hn, hl, i, q, h => by
    simp only [va_nd, Bool.and_eq_true, decide_eq_true_eq] at hn
    have hl' : ks.length = w.length := by simpa using hl
    rcases bx_sets_at ks w (ws.set k z) hn.2 hl' i q h with ⟨j, h1, h2⟩ | ⟨h1, h2⟩
    · exact Or.inl ⟨j + 1, by simpa using h1, by simpa using h2⟩
    · by_cases hik : i = k
      · subst hik
        rw [List.getElem?_set] at h2
        simp only [if_true] at h2
        split at h2
        · cases h2
          exact Or.inl ⟨0, rfl, rfl⟩
        · cases h2
      · rw [List.getElem?_set_ne (Ne.symm hik)] at h2
        exact Or.inr ⟨by simp [hik, h1], h2⟩
theorem bx_sets_D {A : Nat → Prop} : ∀ (ks : List Nat) (wc w ws : va_W), va_nd ks = true → ks.map (fun i => ws[i]?) = wc.map some → w.map (·.1) = wc.map (·.1) → va_D A ws → va_D A (bx_sets ws ks w)
  | [], wc, w, ws, _, _, _, hD => hD
  | k :: ks, [], w, ws, _, hc, _, hD => by simp at hc
  | k :: ks, z :: wc, [], ws, _, _, ha, hD => by simp at ha
  | k :: ks, z :: wc, y :: w, ws, hn, hc, ha, hD => by
    simp only [va_nd, Bool.and_eq_true, decide_eq_true_eq] at hn
    simp only [List.map_cons, List.cons.injEq] at hc ha
    obtain ⟨y1, y2⟩ := y
    obtain ⟨z1, z2⟩ := z
    have hyz : y1 = z1 := ha.1
    subst hyz
    refine bx_sets_D ks wc w (ws.set k (y1, y2)) hn.2 ?_ ha.2 (hD.set hc.1)
    rw [← hc.2]
    apply List.map_congr_left
    intro i hi
    have hki : k ≠ i := fun q => hn.1 (by rw [q]; exact hi)
    exact List.getElem?_set_ne hki
theorem bx_puts {D : va_G} {cl : List vw_C} {A0 : Nat → Prop} {ws wc w1 : va_W} {H H1 : Heap} (hP : va_P D cl ws H) (hD : va_D A0 ws) (ks : List Nat) (hn : va_nd ks = true) (hc : ks.map (fun i => ws[i]?) = wc.map some) (ha : w1.map (·.1) = wc.map (·.1))
    (hkeep : ∀ q : Nat, q < H.size → ¬ va_A wc H.size q → H1[q]? = H[q]?) (hP1 : va_P D cl w1 H1) : va_P D cl (bx_sets ws ks w1) H1 ∧ va_D A0 (bx_sets ws ks w1) := by
  have hlen : ks.length = w1.length := by
    have h1 := congrArg List.length hc
    have h2 := congrArg List.length ha
    simp at h1 h2
    omega
  refine ⟨fun i q hi => ?_, bx_sets_D ks wc w1 ws hn hc ha hD⟩
  rcases bx_sets_at ks w1 ws hn hlen i q hi with ⟨j, h1, h2⟩ | ⟨h1, h2⟩
  · exact hP1 j q h2
  · have hlt := (hP i q h2).lt
    refine (hP i q h2).kept (hkeep q.1 hlt ?_)
    rintro (⟨j, e9, hj⟩ | h9)
    · obtain ⟨i2, h3, h4⟩ := va_in_of ks hc hj
      have he := hD.1 i i2 q (q.1, e9) h2 h4 rfl
      subst he
      exact h1 (List.mem_of_getElem? h3)
    · omega
/-- apart: no address twice, all of a kind -/
theorem bx_D_iff {A : Nat → Prop} {ws : va_W} : va_D A ws ↔ (ws.map (·.1)).Nodup ∧ ∀ q ∈ ws, A q.1 := by
  constructor
  · intro h
    refine ⟨?_, fun q hq => ?_⟩
    · unfold List.Nodup
      rw [List.pairwise_iff_getElem]
      intro i j hi hj hij he
      have hj' : j < ws.length := by simpa using hj
      have hi' : i < ws.length := by simpa using hi
      rw [List.getElem_map, List.getElem_map] at he
      have := h.1 i j _ _ (List.getElem?_eq_getElem hi') (List.getElem?_eq_getElem hj') he
      omega
    · obtain ⟨k, hk⟩ := List.getElem?_of_mem hq
      exact h.2 k q hk
  · rintro ⟨h1, h2⟩
    refine ⟨fun i j x y hi hj hxy => ?_, fun k q hk => h2 q (List.mem_of_getElem? hk)⟩
    obtain ⟨li, ei⟩ := List.getElem?_eq_some_iff.mp hi
    obtain ⟨lj, ej⟩ := List.getElem?_eq_some_iff.mp hj
    unfold List.Nodup at h1
    rw [List.pairwise_iff_getElem] at h1
    rcases Nat.lt_trichotomy i j with h | h | h
    · refine absurd ?_ (h1 i j (by simpa using li) (by simpa using lj) h)
      rw [List.getElem_map, List.getElem_map, ei, ej]
      exact hxy
    · exact h
    · refine absurd ?_ (h1 j i (by simpa using lj) (by simpa using li) h)
      rw [List.getElem_map, List.getElem_map, ei, ej]
      exact hxy.symm
theorem bx_D_perm {A : Nat → Prop} {ws ws' : va_W} (h : va_D A ws) (hp : ws'.Perm ws) : va_D A ws' := by
  rw [bx_D_iff] at h ⊢
  exact ⟨((hp.map (·.1)).nodup_iff).mpr h.1, fun q hq => h.2 q (hp.mem_iff.mp hq)⟩
theorem bx_P_perm {D : va_G} {cl : List vw_C} {ws ws' : va_W} {H : Heap} (h : va_P D cl ws H) (hp : ws'.Perm ws) : va_P D cl ws' H := bx_sub h (fun _ hq => hp.mem_iff.mp hq)
/-- rows of objects: n cells at the addresses a 0, a 1 .. -/
def bx_pl (n : Nat) (a : Nat → Nat) (f : Nat → va_E) : va_W := (List.range n).map (fun i => (a i, f i))
theorem bx_pl_get {n i : Nat} {a : Nat → Nat} {f : Nat → va_E} (h : i < n) : (bx_pl n a f)[i]? = some (a i, f i) := by
  simp [bx_pl, h]
theorem bx_pl_len {n : Nat} {a : Nat → Nat} {f : Nat → va_E} : (bx_pl n a f).length = n := by simp [bx_pl]
theorem bx_pl_set {n i : Nat} {a : Nat → Nat} {f : Nat → va_E} {e : va_E} : (bx_pl n a f).set i (a i, e) = bx_pl n a (va_up f i e) := by
  apply List.ext_getElem?
  intro j
  by_cases hj : j < n
  · by_cases hij : i = j
    · subst hij
      rw [List.getElem?_set_self (by rw [bx_pl_len]; exact hj), bx_pl_get hj, va_up_self]
    · rw [List.getElem?_set_ne hij, bx_pl_get hj, bx_pl_get hj, va_up_ne _ _ (Ne.symm hij)]
  · rw [List.getElem?_eq_none (by rw [List.length_set, bx_pl_len]; omega), List.getElem?_eq_none (by rw [bx_pl_len]; omega)]
theorem bx_pl_succ {n : Nat} {a : Nat → Nat} {f : Nat → va_E} : bx_pl (n + 1) a f = bx_pl n a f ++ [(a n, f n)] := by simp [bx_pl, List.range_succ]
theorem bx_pl_congr {n : Nat} {a a' : Nat → Nat} {f f' : Nat → va_E} (h : ∀ i, i < n → a i = a' i ∧ f i = f' i) : bx_pl n a f = bx_pl n a' f' := by
  apply List.map_congr_left
  intro i hi
  have := h i (List.mem_range.mp hi)
  rw [this.1, this.2]
theorem bx_at_r {α : Type} {X Y : List α} {k : Nat} {q : α} (h : Y[k]? = some q) : (X ++ Y)[X.length + k]? = some q := by
  rw [List.getElem?_append_right (by omega), Nat.add_sub_cancel_left]
  exact h
theorem bx_set_r {α : Type} {X Y : List α} {k : Nat} {q : α} : (X ++ Y).set (X.length + k) q = X ++ Y.set k q := by
  rw [List.set_append, if_neg (by omega), Nat.add_sub_cancel_left]
theorem bx_at_l {α : Type} {X Y : List α} {k : Nat} {q : α} (h : X[k]? = some q) : (X ++ Y)[k]? = some q := by
  rw [List.getElem?_append_left (List.getElem?_eq_some_iff.mp h).1]
  exact h
theorem bx_up2 {α : Type} (f : Nat → α) (g : α → α) (k : Nat) : va_up (fun i => if i < k then g (f i) else f i) k (g (f k)) = fun i => if i < k + 1 then g (f i) else f i := by
  funext i
  unfold va_up
  by_cases h1 : i = k
  · subst h1
    simp
  · by_cases h2 : i < k
    · simp [h1, h2, Nat.lt_succ_of_lt h2]
    · simp [h1, h2, show ¬ i < k + 1 by omega]
/-- 0 or 1 -/
def bz (v : Int32) : Prop := v = 0 ∨ v = 1
theorem bz.n {v : Int32} (h : bz v) : narrow .boolean (.int v) = .int v := by rcases h with rfl | rfl <;> rfl
theorem bz.f {v : Int32} (h : bz v) : fits .boolean (.int v) = true := by rcases h with rfl | rfl <;> rfl
theorem bz0 : bz 0 := Or.inl rfl
theorem bz1 : bz 1 := Or.inr rfl
theorem bz_if {c : Prop} [Decidable c] {a b : Int32} (ha : bz a) (hb : bz b) : bz (if c then a else b) := by split <;> assumption
end BX
section BL
variable {p : Program} {l : Launch} {e : Env} {R : Room} {s : State} {m : MethodId} {args : Array Value} {below : List Frame} {meth : Method} {c : Code} {H : Heap} {locs : List Loc} {cells slots : Nat} {Q : State → Prop}
/-- several roads meet: the rest is walked once -/
theorem bx_join {σ : Type} {P : σ → Prop} {g0 : JFrame} (g : σ → JFrame) (kj : ∀ v, P v → W p l e R s m args below meth c H locs cells slots Q (g v)) (kk : (∀ v, P v → W p l e R s m args below meth c H locs cells slots Q (g v)) → W p l e R s m args below meth c H locs cells slots Q g0) : W p l e R s m args below meth c H locs cells slots Q g0 := kk kj
/-- a loop in which the heap may change -/
theorem bx_loop {σ : Type} (I : σ → Heap → List Loc → Array Slot → Prop) (μ : σ → Nat) (pc : Nat)
    (hs : ∀ (a : σ) (H : Heap) (locs : List Loc) (ls : Array Slot), I a H locs ls → (∀ (b : σ) (H' : Heap) (locs' : List Loc) (ls' : Array Slot), I b H' locs' ls' → μ b < μ a → W p l e R s m args below meth c H' locs' cells slots Q (F0 m pc ls' [])) → W p l e R s m args below meth c H locs cells slots Q (F0 m pc ls []))
    (a : σ) (ls : Array Slot) (h : I a H locs ls) : W p l e R s m args below meth c H locs cells slots Q (F0 m pc ls []) := by
  suffices h9 : ∀ (n : Nat) (a : σ) (H : Heap) (locs : List Loc) (ls : Array Slot), μ a < n → I a H locs ls → W p l e R s m args below meth c H locs cells slots Q (F0 m pc ls []) from h9 (μ a + 1) a H locs ls (Nat.lt_succ_self _) h
  intro n
  induction n with
  | zero => intro a H locs ls h1; exact absurd h1 (Nat.not_lt_zero _)
  | succ n ih =>
    intro a H locs ls h1 h2
    exact hs a H locs ls h2 (fun b H' locs' ls' h3 h4 => ih b H' locs' ls' (by omega) h3)
/-- a loop that writes nothing -/
theorem bx_loopR {σ : Type} (I : σ → Array Slot → Prop) (μ : σ → Nat) (pc : Nat)
    (hs : ∀ (a : σ) (ls : Array Slot), I a ls → (∀ (b : σ) (ls' : Array Slot), I b ls' → μ b < μ a → W p l e R s m args below meth c H locs cells slots Q (F0 m pc ls' [])) → W p l e R s m args below meth c H locs cells slots Q (F0 m pc ls []))
    (a : σ) (ls : Array Slot) (h : I a ls) : W p l e R s m args below meth c H locs cells slots Q (F0 m pc ls []) := by
  suffices h9 : ∀ (n : Nat) (a : σ) (ls : Array Slot), μ a < n → I a ls → W p l e R s m args below meth c H locs cells slots Q (F0 m pc ls []) from h9 (μ a + 1) a ls (Nat.lt_succ_self _) h
  intro n
  induction n with
  | zero => intro a ls h1; exact absurd h1 (Nat.not_lt_zero _)
  | succ n ih =>
    intro a ls h1 h2
    exact hs a ls h2 (fun b ls' h3 h4 => ih b ls' (by omega) h3)
variable {pc : Nat} {ls : Array Slot} {rest st0 : List Value} {a : Array Value} {A0 : Nat → Prop} {H0 : Heap} {mc ms : Nat}
/-- a call that writes nothing and answers r -/
theorem bx_callV {r : Value} (hr : CallRun p l e R s m args below meth c H locs cells slots 0 0 (F0 m pc ls st0) rest (k2_QcV r a) (fun _ => False)) (kk : W p l e R s m args below meth c H locs cells slots Q (F0 m (pc + 3) ls (r :: rest))) : W p l e R s m args below meth c H locs cells slots Q (F0 m pc ls st0) := W.callV hr kk
end BL
