/-! a table that grew -/
def xt (S S' : xS) : Prop := sN S ≤ sN S' ∧ ∀ j, j < sN S → sSg S' j = sSg S j ∧ sFs S' j = sFs S j ∧ sSn S' j = sSn S j ∧ sWt S' j = sWt S j ∧ sPl S' j = sPl S j ∧ sDp S' j = sDp S j ∧ sHo S' j = sHo S j
theorem xt_refl (S : xS) : xt S S := ⟨Nat.le_refl _, fun _ _ => ⟨rfl, rfl, rfl, rfl, rfl, rfl, rfl⟩⟩
theorem xt_trans {S S1 S2 : xS} (h : xt S S1) (h2 : xt S1 S2) : xt S S2 := by
  have hN := h.1
  refine ⟨Nat.le_trans h.1 h2.1, fun j hj => ?_⟩
  obtain ⟨a1, a2, a3, a4, a5, a6, a7⟩ := h.2 j hj
  obtain ⟨b1, b2, b3, b4, b5, b6, b7⟩ := h2.2 j (by omega)
  exact ⟨b1.trans a1, b2.trans a2, b3.trans a3, b4.trans a4, b5.trans a5, b6.trans a6, b7.trans a7⟩
theorem mkT_xt {S S' : xS} {s a b z : Int} (h : (z, S') = mkT S s a b) : xt S S' := by
  unfold mkT at h
  split at h
  · cases h; exact xt_refl S
  · split at h
    · cases h; exact xt_refl S
    · cases h
      exact ⟨by show sN S ≤ sN S + 1; omega, fun j hj => psh_old j hj⟩
section Xt
variable {S S' : xS}
theorem xt_ly (hx : xt S S') {j : Nat} (hj : j < sN S) : lyS S' j = lyS S j := ly_same (t := sN S) (fun i hi => (hx.2 i hi).2.1) (fun i hi => (hx.2 i hi).2.2.1) j hj
theorem xt_cnt (hx : xt S S') {j : Nat} (hj : j < sN S) (h : Nat) : cnt S' j h = cnt S j h := by
  have e := xt_ly hx hj
  unfold cnt
  rw [show ly (sFs S') (sSn S') j = ly (sFs S) (sSn S) j from e]
  congr 1
  congr 1
  refine List.filter_congr (fun i hi => ?_)
  have := ly_lt j i hi
  rw [(hx.2 i (by omega)).1]
theorem xt_fit (hT : Tb S) (hx : xt S S') : ∀ (p t : Nat) (β : Nat → Int), p < sN S → t < sN S → fitS S' p t β = fitS S p t β := by
  intro p
  induction p using Nat.strongRecOn with
  | ind p ih =>
    intro t β hp ht
    obtain ⟨a1, a2, a3, -⟩ := hx.2 p hp
    obtain ⟨b1, b2, b3, -⟩ := hx.2 t ht
    have sp := (hT.2.1 p hp).1
    have st := (hT.2.1 t ht).1
    by_cases hh : 200 ≤ sSg S p
    · rw [fit_h hh, fit_h (by omega), a1]
    · by_cases hsg : sSg S p = sSg S t
      · by_cases hlf : 100 ≤ sSg S p
        · rw [fit_0 (by omega) hsg hlf, fit_0 (by omega) (by omega) (by omega)]
        · unfold shp at sp st
          rcases Int.lt_or_le (sSg S p) 6 with h6 | h6
          · rw [fit_1 hsg h6 (by omega), fit_1 (S := S') (by omega) (by omega) (by rw [a2]; omega), a2, b2]
            exact ih _ (by omega) _ β (by omega) (by omega)
          · rw [fit_2 hsg h6 (by omega) (by omega) (by omega), fit_2 (S := S') (by omega) (by omega) (by omega) (by rw [a2]; omega) (by rw [a3]; omega), a2, b2, a3, b3, ih (sFs S p).toNat (by omega) _ β (by omega) (by omega)]
            congr 1
            funext b
            exact ih _ (by omega) _ b (by omega) (by omega)
      · rw [fit_ne (by omega) hsg, fit_ne (by omega) (by omega)]
theorem xt_hit (hT : Tb S) (hx : xt S S') {rl : Nat → Int} {us : Nat → Bool} {t r : Nat} (hr : 0 ≤ rl r ∧ rl r < sN S) (ht : t < sN S) : hit S' rl us t r = hit S rl us t r := by
  unfold hit mtS
  rw [xt_fit hT hx _ _ _ (by omega) ht]
theorem lw_congr {n : Nat} {p q : Nat → Bool} (h : ∀ j, j < n → p j = q j) : lw n p = lw n q := by
  rcases lw_cases n p with ⟨a, b⟩ | ⟨r, h1, h2, h3⟩
  · rw [a, lw_none (fun j hj => (h j hj).symm.trans (b j hj))]
  · unfold lw
    have : (List.range n).find? p = (List.range n).find? q := by
      have : ∀ l : List Nat, (∀ j ∈ l, p j = q j) → l.find? p = l.find? q := by
        intro l
        induction l with
        | nil => intro _; rfl
        | cons x l ih =>
          intro hl
          rw [List.find?_cons, List.find?_cons, hl x List.mem_cons_self, ih (fun j hj => hl j (List.mem_cons_of_mem _ hj))]
      exact this _ (fun j hj => h j (List.mem_range.mp hj))
    rw [this]
theorem xt_low (hT : Tb S) (hx : xt S S') {n : Nat} {rl : Nat → Int} {us : Nat → Bool} (hrl : ∀ r, r < n → 0 ≤ rl r ∧ rl r < sN S) {t : Nat} (ht : t < sN S) : lowR S' n rl us t = lowR S n rl us t := lw_congr (fun r hr => xt_hit hT hx (hrl r hr) ht)
theorem lowR_in (S : xS) (n : Nat) (rl : Nat → Int) (us : Nat → Bool) (t : Nat) : -1 ≤ lowR S n rl us t ∧ lowR S n rl us t < n ∨ lowR S n rl us t = -1 := by
  rcases lw_cases n (hit S rl us t) with ⟨a, -⟩ | ⟨r, h1, h2, -⟩
  · exact Or.inr a
  · refine Or.inl ?_
    unfold lowR
    omega
theorem xt_abv (hT : Tb S) (hx : xt S S') : ∀ (x y : Nat), x < sN S → y < sN S → abv S' x y = abv S x y := by
  intro x
  induction x using Nat.strongRecOn with
  | ind x ih =>
    intro y hxN hyN
    obtain ⟨a1, a2, a3, a4, -⟩ := hx.2 x hxN
    obtain ⟨b1, b2, b3, b4, -⟩ := hx.2 y hyN
    have sx := (hT.2.1 x hxN).1
    have sy := (hT.2.1 y hyN).1
    have hho : hoS S' x y = hoS S x y := by
      unfold hoS
      congr 1
      funext h
      rw [xt_cnt hx hxN, xt_cnt hx hyN]
    by_cases e : x = y
    · rw [abv_same e, abv_same e]
    · cases h1 : hoS S x y with
      | false => rw [abv_ho e h1, abv_ho e (hho.trans h1)]
      | true =>
        have h1' := hho.trans h1
        by_cases h2 : sWt S x = sWt S y
        · by_cases h3 : 200 ≤ sSg S x ∨ 200 ≤ sSg S y
          · rw [abv_hole e h1 h2 h3, abv_hole e h1' (by omega) (by omega)]
          · by_cases h4 : 100 ≤ sSg S x ∨ 100 ≤ sSg S y
            · rw [abv_leaf e h1 h2 h3 h4, abv_leaf e h1' (by omega) (by omega) (by omega), a1, b1]
            · by_cases h5 : sSg S x = sSg S y
              · by_cases h6 : sFs S x = sFs S y
                · unfold shp at sx sy
                  rcases Int.lt_or_le (sSg S x) 6 with q | q
                  · exact absurd (hT.2.2 x y hxN hyN h5 h6 (by omega)) e
                  · rw [abv_snd e h1 h2 (by omega) (by omega) h5 h6 (by omega), abv_snd e h1' (by omega) (by omega) (by omega) (by omega) (by omega) (by rw [a3]; omega), a3, b3]
                    exact ih _ (by omega) _ (by omega) (by omega)
                · unfold shp at sx sy
                  rw [abv_fst e h1 h2 (by omega) (by omega) h5 h6 (by omega), abv_fst e h1' (by omega) (by omega) (by omega) (by omega) (by omega) (by rw [a2]; omega), a2, b2]
                  exact ih _ (by omega) _ (by omega) (by omega)
              · rw [abv_head e h1 h2 (by omega) (by omega) h5, abv_head e h1' (by omega) (by omega) (by omega) (by omega), a1, b1]
        · rw [abv_wt e h1 h2, abv_wt e h1' (by omega), a4, b4]
end Xt
/-! what is found of a tree: -2 something within its parts, else its own rule -/
def fnS (S : xS) (low : Nat → Int) (t : Nat) : Int :=
  if (if h : 0 ≤ sFs S t ∧ sFs S t < t then decide (fnS S low (sFs S t).toNat ≠ -1) else false) = true ∨ (if h : 0 ≤ sSn S t ∧ sSn S t < t then decide (fnS S low (sSn S t).toNat ≠ -1) else false) = true then -2 else low t
termination_by t
decreasing_by all_goals omega
def fnI (S : xS) (low : Nat → Int) (x : Int) : Int := if x < 0 then -1 else fnS S low x.toNat
theorem fnI_n {S : xS} {low : Nat → Int} {x : Nat} : fnI S low (x : Int) = fnS S low x := by unfold fnI; rw [if_neg (by omega)]; rfl
theorem fnI_p {S : xS} {low : Nat → Int} {x : Int} (h : 0 ≤ x) : fnI S low x = fnS S low x.toNat := by unfold fnI; rw [if_neg (by omega)]
theorem fn_eq {S : xS} {low : Nat → Int} {t : Nat} (h : shp (sSg S t) (sFs S t) (sSn S t) t) : fnS S low t = if fnI S low (sFs S t) ≠ -1 ∨ fnI S low (sSn S t) ≠ -1 then -2 else low t := by
  have ha := shp_a h
  rw [fnS]
  have e : ∀ x : Int, -1 ≤ x → x < t → ((if h : 0 ≤ x ∧ x < t then decide (fnS S low x.toNat ≠ -1) else false) = true ↔ fnI S low x ≠ -1) := by
    intro x h1 h2
    unfold fnI
    by_cases q : x < 0
    · rw [if_pos q, dif_neg (by omega)]; simp
    · rw [if_neg q, dif_pos (by omega)]; simp
  have e1 := e (sFs S t) (by omega) (by omega)
  have e2 := e (sSn S t) (by omega) (by omega)
  by_cases q : fnI S low (sFs S t) ≠ -1 ∨ fnI S low (sSn S t) ≠ -1
  · rw [if_pos q, if_pos]
    exact q.elim (fun a => Or.inl (e1.mpr a)) (fun a => Or.inr (e2.mpr a))
  · rw [if_neg q, if_neg]
    exact fun a => q (a.elim (fun b => Or.inl (e1.mp b)) (fun b => Or.inr (e2.mp b)))
theorem ly_n {S : xS} {t : Nat} (h : shp (sSg S t) (sFs S t) (sSn S t) t) : lyS S t = t :: ((if sFs S t < 0 then [] else lyS S (sFs S t).toNat) ++ (if sSn S t < 0 then [] else lyS S (sSn S t).toNat)) := by
  have ha := shp_a h
  unfold lyS
  rw [ly_eq]
  congr 1
  congr 1
  · by_cases q : sFs S t < 0
    · rw [if_neg (by omega), if_pos q]
    · rw [if_pos (by omega), if_neg q]
  · by_cases q : sSn S t < 0
    · rw [if_neg (by omega), if_pos q]
    · rw [if_pos (by omega), if_neg q]
section Fn
variable {S : xS} {low : Nat → Int}
theorem fn_none (hT : Tb S) (hl : ∀ t, -1 ≤ low t) : ∀ t, t < sN S → (fnS S low t = -1 ↔ ∀ y ∈ lyS S t, low y = -1) := by
  intro t
  induction t using Nat.strongRecOn with
  | ind t ih =>
    intro ht
    have hs := (hT.2.1 t ht).1
    have ha := shp_a hs
    rw [fn_eq hs, ly_n hs]
    have e : ∀ x : Int, -1 ≤ x → x < t → (fnI S low x = -1 ↔ ∀ y ∈ (if x < 0 then [] else lyS S x.toNat), low y = -1) := by
      intro x h1 h2
      by_cases q : x < 0
      · unfold fnI; rw [if_pos q, if_pos q]; simp
      · rw [fnI_p (by omega), if_neg q]
        exact ih _ (by omega) (by omega)
    have e1 := e (sFs S t) (by omega) (by omega)
    have e2 := e (sSn S t) (by omega) (by omega)
    constructor
    · intro h y hy
      split at h
      · omega
      · rename_i hq
        rcases List.mem_cons.mp hy with rfl | hy
        · exact h
        · rcases List.mem_append.mp hy with hy | hy
          · exact e1.mp (by by_cases q : fnI S low (sFs S t) = -1; exact q; exact absurd (Or.inl q) hq) y hy
          · exact e2.mp (by by_cases q : fnI S low (sSn S t) = -1; exact q; exact absurd (Or.inr q) hq) y hy
    · intro h
      rw [if_neg]
      · exact h t List.mem_cons_self
      · intro q
        rcases q with q | q
        · exact q (e1.mpr (fun y hy => h y (List.mem_cons_of_mem _ (List.mem_append_left _ hy))))
        · exact q (e2.mpr (fun y hy => h y (List.mem_cons_of_mem _ (List.mem_append_right _ hy))))
theorem ly_sub (hT : Tb S) : ∀ t, t < sN S → ∀ (i y : Nat), (lyS S t)[i]? = some y → ∃ rest, (lyS S t).drop i = lyS S y ++ rest := by
  intro t
  induction t using Nat.strongRecOn with
  | ind t ih =>
    intro ht i y hy
    have hs := (hT.2.1 t ht).1
    have ha := shp_a hs
    match i, hy with
    | 0, hy =>
      rw [ly_n hs] at hy
      cases hy
      exact ⟨[], by simp⟩
    | i + 1, hy =>
      rw [ly_n hs, List.getElem?_cons_succ] at hy
      rw [ly_n hs, List.drop_succ_cons]
      by_cases hi : i < (if sFs S t < 0 then [] else lyS S (sFs S t).toNat).length
      · rw [List.getElem?_append_left hi] at hy
        by_cases q : sFs S t < 0
        · rw [if_pos q] at hi; simp at hi
        · rw [if_neg q] at hy hi ⊢
          obtain ⟨r, hr⟩ := ih _ (by omega) (by omega) i y hy
          rw [List.drop_append_of_le_length (by omega), hr]
          exact ⟨r ++ (if sSn S t < 0 then [] else lyS S (sSn S t).toNat), by rw [List.append_assoc]⟩
      · rw [List.getElem?_append_right (by omega)] at hy
        by_cases q : sSn S t < 0
        · rw [if_pos q] at hy; simp at hy
        · rw [if_neg q] at hy ⊢
          obtain ⟨r, hr⟩ := ih _ (by omega) (by omega) _ y hy
          rw [List.drop_append, List.drop_of_length_le (by omega), List.nil_append, hr]
          exact ⟨r, rfl⟩
theorem ly_in (hT : Tb S) {t y : Nat} (ht : t < sN S) (hy : y ∈ lyS S t) : ∀ z ∈ lyS S y, z ∈ lyS S t := by
  intro z hz
  obtain ⟨i, hi⟩ := List.mem_iff_getElem?.mp hy
  obtain ⟨r, hr⟩ := ly_sub hT t ht i y hi
  exact List.mem_of_mem_drop (i := i) (by rw [hr]; exact List.mem_append_left _ hz)
theorem fn_all (hT : Tb S) (hl : ∀ t, -1 ≤ low t) {t : Nat} (ht : t < sN S) (h : fnS S low t = -1) : ∀ y ∈ lyS S t, fnS S low y = -1 := by
  intro y hy
  have hyl := ly_lt t y hy
  refine (fn_none hT hl y (by omega)).mpr (fun z hz => ?_)
  exact (fn_none hT hl t ht).mp h z (ly_in hT ht hy z hz)
/-- a place of the first kind: a match, and none within -/
theorem fn_ge (hT : Tb S) (hl : ∀ t, -1 ≤ low t) {t : Nat} (ht : t < sN S) : 0 ≤ fnS S low t ↔ low t ≠ -1 ∧ ∀ y ∈ (lyS S t).tail, low y = -1 := by
  have hs := (hT.2.1 t ht).1
  have ha := shp_a hs
  have e : ∀ x : Int, -1 ≤ x → x < t → (fnI S low x = -1 ↔ ∀ y ∈ (if x < 0 then [] else lyS S x.toNat), low y = -1) := by
    intro x h1 h2
    by_cases q : x < 0
    · unfold fnI; rw [if_pos q, if_pos q]; simp
    · rw [fnI_p (by omega), if_neg q]
      exact fn_none hT hl _ (by omega)
  have e1 := e (sFs S t) (by omega) (by omega)
  have e2 := e (sSn S t) (by omega) (by omega)
  rw [fn_eq hs, ly_n hs, List.tail_cons]
  have hlt := hl t
  constructor
  · intro h
    split at h
    · omega
    · rename_i hq
      refine ⟨by omega, fun y hy => ?_⟩
      rcases List.mem_append.mp hy with hy | hy
      · exact e1.mp (by by_cases q : fnI S low (sFs S t) = -1; exact q; exact absurd (Or.inl q) hq) y hy
      · exact e2.mp (by by_cases q : fnI S low (sSn S t) = -1; exact q; exact absurd (Or.inr q) hq) y hy
  · intro ⟨h1, h2⟩
    rw [if_neg]
    · omega
    · intro q
      rcases q with q | q
      · exact q (e1.mpr (fun y hy => h2 y (List.mem_append_left _ hy)))
      · exact q (e2.mpr (fun y hy => h2 y (List.mem_append_right _ hy)))
end Fn
theorem xt_fn {S S' : xS} {low low' : Nat → Int} (hT : Tb S) (hx : xt S S') (hl : ∀ t, t < sN S → low' t = low t) : ∀ t, t < sN S → fnS S' low' t = fnS S low t := by
  intro t
  induction t using Nat.strongRecOn with
  | ind t ih =>
    intro ht
    have hs := (hT.2.1 t ht).1
    have ha := shp_a hs
    obtain ⟨a1, a2, a3, -⟩ := hx.2 t ht
    have hs' : shp (sSg S' t) (sFs S' t) (sSn S' t) t := by rw [a1, a2, a3]; exact hs
    rw [fn_eq hs, fn_eq hs', a2, a3, hl t ht]
    have e : ∀ x : Int, -1 ≤ x → x < t → fnI S' low' x = fnI S low x := by
      intro x h1 h2
      unfold fnI
      split
      · rfl
      · exact ih _ (by omega) (by omega)
    rw [e _ (by omega) (by omega), e _ (by omega) (by omega)]
/-! the way down to the first place from within -/
def PT (S : xS) (r : Nat) : List (Nat × Bool × Nat) → Nat → Nat → Prop
  | [], x, pos => x = r ∧ pos = 0
  | (y, b, k) :: p, x, pos => PT S r p y k ∧ sSg S y < 100 ∧ ((b = false ∧ x = (sFs S y).toNat ∧ pos = k + 1) ∨ (b = true ∧ 6 ≤ sSg S y ∧ x = (sSn S y).toNat ∧ pos = k + 1 + (lyS S (sFs S y).toNat).length))
def sk (S : xS) (fn : Nat → Int) (p : List (Nat × Bool × Nat)) (x pos : Nat) : List (Nat × Bool × Nat) × Nat × Nat :=
  if fn x = -2 then
    (if fn (sFs S x).toNat ≠ -1 then (if h : (sFs S x).toNat < x then sk S fn ((x, false, pos) :: p) (sFs S x).toNat (pos + 1) else (p, x, pos))
    else (if h : (sSn S x).toNat < x then sk S fn ((x, true, pos) :: p) (sSn S x).toNat (pos + 1 + (lyS S (sFs S x).toNat).length) else (p, x, pos)))
  else (p, x, pos)
termination_by x
decreasing_by all_goals exact h
section Sk
variable {S : xS} {fn : Nat → Int} {p : List (Nat × Bool × Nat)} {x pos : Nat}
theorem sk_end (h : fn x ≠ -2) : sk S fn p x pos = (p, x, pos) := by rw [sk, if_neg h]
theorem sk_fst (h : fn x = -2) (h1 : fn (sFs S x).toNat ≠ -1) (h2 : (sFs S x).toNat < x) : sk S fn p x pos = sk S fn ((x, false, pos) :: p) (sFs S x).toNat (pos + 1) := by rw [sk, if_pos h, if_pos h1, dif_pos h2]
theorem sk_snd (h : fn x = -2) (h1 : fn (sFs S x).toNat = -1) (h2 : (sSn S x).toNat < x) : sk S fn p x pos = sk S fn ((x, true, pos) :: p) (sSn S x).toNat (pos + 1 + (lyS S (sFs S x).toNat).length) := by rw [sk, if_pos h, if_neg (by simp [h1]), dif_pos h2]
end Sk
theorem PT_lt {S : xS} (hT : Tb S) {r : Nat} (hr : r < sN S) : ∀ (p : List (Nat × Bool × Nat)) (x pos : Nat), PT S r p x pos → x < sN S ∧ (p.length : Int) + sDp S x ≤ sDp S r := by
  intro p
  induction p with
  | nil =>
    intro x pos h
    rw [h.1]
    exact ⟨hr, by simp⟩
  | cons a p ih =>
    intro x pos h
    obtain ⟨y, b, k⟩ := a
    obtain ⟨h1, h2, h3⟩ := h
    obtain ⟨i1, i2⟩ := ih y k h1
    have hs := (hT.2.1 y i1).1
    have hd := dp_child hT i1
    unfold shp at hs
    rw [List.length_cons]
    rcases h3 with ⟨-, rfl, -⟩ | ⟨-, h6, rfl, -⟩
    · exact ⟨by omega, by omega⟩
    · exact ⟨by omega, by omega⟩
theorem PT_seg {S : xS} (hT : Tb S) {r : Nat} (hr : r < sN S) : ∀ (p : List (Nat × Bool × Nat)) (x pos : Nat), PT S r p x pos → ∃ rest, (lyS S r).drop pos = lyS S x ++ rest := by
  intro p
  induction p with
  | nil =>
    intro x pos h
    rw [h.1, h.2]
    exact ⟨[], by simp⟩
  | cons a p ih =>
    intro x pos h
    obtain ⟨y, b, k⟩ := a
    obtain ⟨h1, h2, h3⟩ := h
    obtain ⟨rest, hr9⟩ := ih y k h1
    have hy := (PT_lt hT hr p y k h1).1
    have hs := (hT.2.1 y hy).1
    rw [ly_n hs] at hr9
    unfold shp at hs
    rw [if_neg (by omega)] at hr9
    rcases h3 with ⟨-, rfl, rfl⟩ | ⟨-, h6, rfl, rfl⟩
    · rw [← List.drop_drop, hr9]
      exact ⟨(if sSn S y < 0 then [] else lyS S (sSn S y).toNat) ++ rest, by simp only [List.cons_append, List.drop_succ_cons, List.drop_zero, List.append_assoc]⟩
    · rw [if_neg (by omega)] at hr9
      rw [Nat.add_assoc, ← List.drop_drop, hr9, Nat.add_comm 1, List.cons_append, List.drop_succ_cons, List.append_assoc, List.drop_append, List.drop_length, Nat.sub_self, List.drop_zero, List.nil_append]
      exact ⟨rest, rfl⟩
theorem PT_at {S : xS} (hT : Tb S) {r : Nat} (hr : r < sN S) {p : List (Nat × Bool × Nat)} {x pos : Nat} (h : PT S r p x pos) : (lyS S r)[pos]? = some x := by
  obtain ⟨rest, h1⟩ := PT_seg hT hr p x pos h
  have hx := (PT_lt hT hr p x pos h).1
  have : ((lyS S r).drop pos)[0]? = some x := by
    rw [h1, ly_n (hT.2.1 x hx).1]
    rfl
  rw [List.getElem?_drop] at this
  exact this
theorem sk_spec {S : xS} {low : Nat → Int} (hT : Tb S) (hl : ∀ t, -1 ≤ low t) {r : Nat} (hr : r < sN S) : ∀ (x : Nat) (p : List (Nat × Bool × Nat)) (pos : Nat), fnS S low x ≠ -1 → PT S r p x pos → (∀ q y, q < pos → (lyS S r)[q]? = some y → fnS S low y < 0) →
    PT S r (sk S (fnS S low) p x pos).1 (sk S (fnS S low) p x pos).2.1 (sk S (fnS S low) p x pos).2.2 ∧ 0 ≤ fnS S low (sk S (fnS S low) p x pos).2.1 ∧ ∀ q y, q < (sk S (fnS S low) p x pos).2.2 → (lyS S r)[q]? = some y → fnS S low y < 0 := by
  intro x
  induction x using Nat.strongRecOn with
  | ind x ih =>
    intro p pos hne hPT hbe
    have hxN := (PT_lt hT hr p x pos hPT).1
    have hs := (hT.2.1 x hxN).1
    have hfe := fn_eq (low := low) hs
    by_cases h2 : fnS S low x = -2
    · have hlx := hl x
      have hch : fnI S low (sFs S x) ≠ -1 ∨ fnI S low (sSn S x) ≠ -1 := by
        by_cases q : fnI S low (sFs S x) ≠ -1 ∨ fnI S low (sSn S x) ≠ -1
        · exact q
        · rw [if_neg q] at hfe; omega
      have hnode : sSg S x < 100 := by
        rcases Int.lt_or_le (sSg S x) 100 with q | q
        · exact q
        · unfold shp at hs
          have e1 : fnI S low (sFs S x) = -1 := by unfold fnI; rw [if_pos (by omega)]
          have e2 : fnI S low (sSn S x) = -1 := by unfold fnI; rw [if_pos (by omega)]
          rcases hch with a | a
          · exact absurd e1 a
          · exact absurd e2 a
      unfold shp at hs
      rw [fnI_p (by omega)] at hch
      have hx9 := PT_at hT hr hPT
      by_cases h3 : fnS S low (sFs S x).toNat ≠ -1
      · rw [sk_fst h2 h3 (by omega)]
        refine ih _ (by omega) _ _ h3 ⟨hPT, hnode, Or.inl ⟨rfl, rfl, rfl⟩⟩ (fun q y hq hy => ?_)
        by_cases e : q = pos
        · subst e
          rw [hx9] at hy
          cases hy
          omega
        · exact hbe q y (by omega) hy
      · have h3 : fnS S low (sFs S x).toNat = -1 := by simpa using h3
        have h4 : fnI S low (sSn S x) ≠ -1 := by
          rcases hch with a | a
          · exact absurd h3 a
          · exact a
        have h6 : 6 ≤ sSg S x := by
          rcases Int.lt_or_le (sSg S x) 6 with q | q
          · exfalso
            apply h4
            unfold fnI
            rw [if_pos (by omega)]
          · exact q
        rw [fnI_p (by omega)] at h4
        rw [sk_snd h2 h3 (by omega)]
        refine ih _ (by omega) _ _ h4 ⟨hPT, hnode, Or.inr ⟨rfl, h6, rfl, rfl⟩⟩ (fun q y hq hy => ?_)
        by_cases e : q < pos
        · exact hbe q y e hy
        · by_cases e2 : q = pos
          · subst e2
            rw [hx9] at hy
            cases hy
            omega
          · obtain ⟨rest, hseg⟩ := PT_seg hT hr _ _ _ (show PT S r ((x, false, pos) :: p) (sFs S x).toNat (pos + 1) from ⟨hPT, hnode, Or.inl ⟨rfl, rfl, rfl⟩⟩)
            have hy2 : ((lyS S r).drop (pos + 1))[q - (pos + 1)]? = some y := by
              rw [List.getElem?_drop, show pos + 1 + (q - (pos + 1)) = q by omega]
              exact hy
            rw [hseg, List.getElem?_append_left (by omega)] at hy2
            have := fn_all hT hl (t := (sFs S x).toNat) (by omega) h3 y (List.mem_of_getElem? hy2)
            omega
    · rw [sk_end h2]
      refine ⟨hPT, ?_, hbe⟩
      have hlx := hl x
      rw [hfe] at h2 hne ⊢
      split at h2
      · exact absurd rfl h2
      · rename_i hq
        rw [if_neg hq] at hne ⊢
        omega
