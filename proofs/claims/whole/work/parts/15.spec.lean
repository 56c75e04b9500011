/-! the table of trees as mathematics: how many, their signs, first and second parts, weights, places, depths, masks of holes -/
abbrev xS := Nat × (Nat → Int) × (Nat → Int) × (Nat → Int) × (Nat → Int) × (Nat → Int) × (Nat → Int) × (Nat → Int)
abbrev sN (S : xS) : Nat := S.1
abbrev sSg (S : xS) : Nat → Int := S.2.1
abbrev sFs (S : xS) : Nat → Int := S.2.2.1
abbrev sSn (S : xS) : Nat → Int := S.2.2.2.1
abbrev sWt (S : xS) : Nat → Int := S.2.2.2.2.1
abbrev sPl (S : xS) : Nat → Int := S.2.2.2.2.2.1
abbrev sDp (S : xS) : Nat → Int := S.2.2.2.2.2.2.1
abbrev sHo (S : xS) : Nat → Int := S.2.2.2.2.2.2.2
/-- a leaf's sign is 100 and its name, a hole's 200 and its name, a node's its head; what head() answers of it -/
def um (s : Int) : Int := if 200 ≤ s then s - 100 else if 100 ≤ s then 99 - s else s
/-- sign and parts of a tree below j go together -/
def shp (s a b : Int) (j : Nat) : Prop := (100 ≤ s ∧ s < 120 ∧ a = -1 ∧ b = -1) ∨ (200 ≤ s ∧ s < 206 ∧ a = -1 ∧ b = -1) ∨ (0 ≤ s ∧ s < 6 ∧ 0 ≤ a ∧ a < j ∧ b = -1) ∨ (6 ≤ s ∧ s < 12 ∧ 0 ≤ a ∧ a < j ∧ 0 ≤ b ∧ b < j)
/-- all trees within, itself first, then those of its first part, then those of its second one -/
def ly (fs sn : Nat → Int) (j : Nat) : List Nat :=
  j :: ((if h : 0 ≤ fs j ∧ fs j < j then ly fs sn (fs j).toNat else []) ++ (if h : 0 ≤ sn j ∧ sn j < j then ly fs sn (sn j).toNat else []))
termination_by j
decreasing_by all_goals omega
theorem ly_eq (fs sn : Nat → Int) (j : Nat) : ly fs sn j = j :: ((if 0 ≤ fs j ∧ fs j < j then ly fs sn (fs j).toNat else []) ++ (if 0 ≤ sn j ∧ sn j < j then ly fs sn (sn j).toNat else [])) := by
  rw [ly]
  congr 1
theorem ly_same {fs sn fs' sn' : Nat → Int} {t : Nat} (hf : ∀ j, j < t → fs' j = fs j) (hs : ∀ j, j < t → sn' j = sn j) : ∀ j, j < t → ly fs' sn' j = ly fs sn j := by
  intro j
  induction j using Nat.strongRecOn with
  | ind j ih =>
    intro hj
    rw [ly_eq fs' sn' j, ly_eq fs sn j, hf j hj, hs j hj]
    congr 1
    congr 1
    · split
      · exact ih _ (by omega) (by omega)
      · rfl
    · split
      · exact ih _ (by omega) (by omega)
      · rfl
theorem ly_lt {fs sn : Nat → Int} : ∀ j, ∀ i ∈ ly fs sn j, i ≤ j := by
  intro j
  induction j using Nat.strongRecOn with
  | ind j ih =>
    intro i hi
    rw [ly_eq] at hi
    rcases List.mem_cons.mp hi with rfl | hi
    · exact Nat.le_refl _
    · rcases List.mem_append.mp hi with hi | hi
      · split at hi
        · have := ih _ (by omega) i hi
          omega
        · simp at hi
      · split at hi
        · have := ih _ (by omega) i hi
          omega
        · simp at hi
/-- how often the hole h stands in the tree j -/
def cnt (S : xS) (j h : Nat) : Int := ((((ly (sFs S) (sSn S) j).filter (fun i => decide (sSg S i = 200 + (h : Int)))).length : Nat) : Int)
def cntN (S : xS) (s a b : Int) (h : Nat) : Int := (if s = 200 + (h : Int) then 1 else 0) + (if a < 0 then 0 else cnt S a.toNat h) + (if b < 0 then 0 else cnt S b.toNat h)
def c3 (s : Int) : Int := if s % 3 = 2 then 1 else 0
theorem c3_in (s : Int) : 0 ≤ c3 s ∧ c3 s ≤ 1 := by unfold c3; split <;> omega
def nWt (f : Nat → Int) (s a b : Int) : Int := if 100 ≤ s then 1 else 1 + c3 s + f a.toNat + (if 6 ≤ s then f b.toNat else 0)
theorem nWt_0 {f : Nat → Int} {s a b : Int} (h : 100 ≤ s) : nWt f s a b = 1 := if_pos h
theorem nWt_1 {f : Nat → Int} {s a b : Int} (h : s < 6) : nWt f s a b = 1 + c3 s + f a.toNat := by unfold nWt; rw [if_neg (by omega : ¬ 100 ≤ s), if_neg (by omega : ¬ 6 ≤ s), Int.add_zero]
theorem nWt_2 {f : Nat → Int} {s a b : Int} (h : 6 ≤ s) (h2 : s < 100) : nWt f s a b = 1 + c3 s + f a.toNat + f b.toNat := by unfold nWt; rw [if_neg (by omega : ¬ 100 ≤ s), if_pos h]
def nPl (f : Nat → Int) (s a b : Int) : Int := if 100 ≤ s then 1 else 1 + f a.toNat + (if 6 ≤ s then f b.toNat else 0)
theorem nPl_0 {f : Nat → Int} {s a b : Int} (h : 100 ≤ s) : nPl f s a b = 1 := if_pos h
theorem nPl_1 {f : Nat → Int} {s a b : Int} (h : s < 6) : nPl f s a b = 1 + f a.toNat := by unfold nPl; rw [if_neg (by omega : ¬ 100 ≤ s), if_neg (by omega : ¬ 6 ≤ s), Int.add_zero]
theorem nPl_2 {f : Nat → Int} {s a b : Int} (h : 6 ≤ s) (h2 : s < 100) : nPl f s a b = 1 + f a.toNat + f b.toNat := by unfold nPl; rw [if_neg (by omega : ¬ 100 ≤ s), if_pos h]
def nDp (f : Nat → Int) (s a b : Int) : Int := if 100 ≤ s then 0 else 1 + (if 6 ≤ s then max (f a.toNat) (f b.toNat) else f a.toNat)
theorem nDp_0 {f : Nat → Int} {s a b : Int} (h : 100 ≤ s) : nDp f s a b = 0 := if_pos h
theorem nDp_1 {f : Nat → Int} {s a b : Int} (h : s < 6) : nDp f s a b = 1 + f a.toNat := by unfold nDp; rw [if_neg (by omega : ¬ 100 ≤ s), if_neg (by omega : ¬ 6 ≤ s)]
theorem nDp_2 {f : Nat → Int} {s a b : Int} (h : 6 ≤ s) (h2 : s < 100) : nDp f s a b = 1 + max (f a.toNat) (f b.toNat) := by unfold nDp; rw [if_neg (by omega : ¬ 100 ≤ s), if_pos h]
def nHo (S : xS) (s a b : Int) : Int := hbS (fun h => decide (0 < cntN S s a b h)) 6
def okN (S : xS) (j : Nat) : Prop := shp (sSg S j) (sFs S j) (sSn S j) j ∧ sWt S j = nWt (sWt S) (sSg S j) (sFs S j) (sSn S j) ∧ sPl S j = nPl (sPl S) (sSg S j) (sFs S j) (sSn S j) ∧ sDp S j = nDp (sDp S) (sSg S j) (sFs S j) (sSn S j) ∧ sHo S j = hbS (fun h => decide (0 < cnt S j h)) 6 ∧ (1 ≤ sPl S j ∧ sPl S j ≤ sWt S j ∧ sWt S j ≤ 1000 ∧ 0 ≤ sDp S j ∧ sDp S j ≤ 30)
/-- a good table -/
def Tb (S : xS) : Prop := sN S ≤ 300 ∧ (∀ j, j < sN S → okN S j) ∧ ∀ i j, i < sN S → j < sN S → sSg S i = sSg S j → sFs S i = sFs S j → sSn S i = sSn S j → i = j
def isT (S : xS) (s a b : Int) (j : Nat) : Prop := sSg S j = s ∧ sFs S j = a ∧ sSn S j = b
def fnd (S : xS) (s a b : Int) : Option Nat := (List.range (sN S)).find? (fun j => decide (sSg S j = s ∧ sFs S j = a ∧ sSn S j = b))
def psh (S : xS) (s a b : Int) : xS := (sN S + 1, va_up (sSg S) (sN S) s, va_up (sFs S) (sN S) a, va_up (sSn S) (sN S) b, va_up (sWt S) (sN S) (nWt (sWt S) s a b), va_up (sPl S) (sN S) (nPl (sPl S) s a b), va_up (sDp S) (sN S) (nDp (sDp S) s a b), va_up (sHo S) (sN S) (nHo S s a b))
def lim (S : xS) (s a b : Int) : Prop := 300 ≤ sN S ∨ 1000 < nWt (sWt S) s a b ∨ 30 < nDp (sDp S) s a b
/-- the tree with this sign and these parts, made if it isn't there; -1 if it may not be -/
def mkT (S : xS) (s a b : Int) : Int × xS := match fnd S s a b with
  | some j => ((j : Int), S)
  | none => if 300 ≤ sN S ∨ 1000 < nWt (sWt S) s a b ∨ 30 < nDp (sDp S) s a b then (-1, S) else ((sN S : Int), psh S s a b)
theorem fnd_some {S : xS} {s a b : Int} {j : Nat} (h : fnd S s a b = some j) : j < sN S ∧ isT S s a b j := by
  have h1 := List.find?_some h
  have h2 := List.mem_of_find?_eq_some h
  simp at h1 h2
  exact ⟨h2, h1⟩
theorem fnd_none {S : xS} {s a b : Int} (h : fnd S s a b = none) : ∀ j, j < sN S → ¬ isT S s a b j := by
  intro j hj hT
  have := List.find?_eq_none.mp h j (List.mem_range.mpr hj)
  simp at this
  exact this hT.1 hT.2.1 hT.2.2
theorem fnd_of {S : xS} {s a b : Int} {j : Nat} (hT : Tb S) (hj : j < sN S) (h : isT S s a b j) : fnd S s a b = some j := by
  cases e : fnd S s a b with
  | none => exact absurd h (fnd_none e j hj)
  | some i =>
    obtain ⟨h1, h2⟩ := fnd_some e
    rw [hT.2.2 i j h1 hj (h2.1.trans h.1.symm) (h2.2.1.trans h.2.1.symm) (h2.2.2.trans h.2.2.symm)]
theorem fnd_not {S : xS} {s a b : Int} (h : ∀ j, j < sN S → ¬ isT S s a b j) : fnd S s a b = none := by
  cases e : fnd S s a b with
  | none => rfl
  | some i => exact absurd (fnd_some e).2 (h i (fnd_some e).1)
theorem shp_a {s a b : Int} {j : Nat} (h : shp s a b j) : (-1 ≤ a ∧ a < j) ∧ (-1 ≤ b ∧ b < j) := by
  unfold shp at h
  omega
theorem um_in {s a b : Int} {j : Nat} (h : shp s a b j) : -20 ≤ um s ∧ um s ≤ 105 := by
  unfold shp at h
  unfold um
  split
  · omega
  · split <;> omega
theorem um_inj {s a b s' a' b' : Int} {j j' : Nat} (h : shp s a b j) (h' : shp s' a' b' j') (e : um s = um s') : s = s' := by
  unfold shp at h h'
  unfold um at e
  split at e <;> split at e <;> (try split at e) <;> (try split at e) <;> omega
theorem cnt_same {S S' : xS} {t : Nat} (hg : ∀ j, j < t → sSg S' j = sSg S j) (hf : ∀ j, j < t → sFs S' j = sFs S j) (hs : ∀ j, j < t → sSn S' j = sSn S j) (j h : Nat) (hj : j < t) : cnt S' j h = cnt S j h := by
  unfold cnt
  rw [ly_same hf hs j hj]
  congr 2
  apply List.filter_congr
  intro i hi
  have := ly_lt j i hi
  rw [hg i (by omega)]
theorem cnt_eq {S : xS} {j : Nat} (h : shp (sSg S j) (sFs S j) (sSn S j) j) (i : Nat) : cnt S j i = cntN S (sSg S j) (sFs S j) (sSn S j) i := by
  have ha := shp_a h
  unfold cntN
  have e : cnt S j i = ((((ly (sFs S) (sSn S) j).filter (fun q => decide (sSg S q = 200 + (i : Int)))).length : Nat) : Int) := rfl
  rw [e, ly_eq, List.filter_cons, List.filter_append]
  have e1 : (((if 0 ≤ sFs S j ∧ sFs S j < j then ly (sFs S) (sSn S) (sFs S j).toNat else []).filter (fun q => decide (sSg S q = 200 + (i : Int)))).length : Int) = (if sFs S j < 0 then 0 else cnt S (sFs S j).toNat i) := by
    by_cases hc : sFs S j < 0
    · rw [if_pos hc, if_neg (by omega)]; rfl
    · rw [if_neg hc, if_pos (by omega)]; rfl
  have e2 : (((if 0 ≤ sSn S j ∧ sSn S j < j then ly (sFs S) (sSn S) (sSn S j).toNat else []).filter (fun q => decide (sSg S q = 200 + (i : Int)))).length : Int) = (if sSn S j < 0 then 0 else cnt S (sSn S j).toNat i) := by
    by_cases hc : sSn S j < 0
    · rw [if_pos hc, if_neg (by omega)]; rfl
    · rw [if_neg hc, if_pos (by omega)]; rfl
  rw [← e1, ← e2]
  by_cases hc : sSg S j = 200 + (i : Int)
  · rw [if_pos hc]
    simp [hc]
    omega
  · rw [if_neg hc]
    simp [hc]
theorem ly_len {S : xS} (hT : Tb S) : ∀ j, j < sN S → ((ly (sFs S) (sSn S) j).length : Int) = sPl S j := by
  intro j
  induction j using Nat.strongRecOn with
  | ind j ih =>
    intro hj
    obtain ⟨h1, -, h3, -⟩ := hT.2.1 j hj
    rw [h3, ly_eq, List.length_cons, List.length_append]
    unfold nPl
    unfold shp at h1
    rcases h1 with h | h | h | h
    · rw [if_neg (by omega), if_neg (by omega), if_pos (by omega)]; simp
    · rw [if_neg (by omega), if_neg (by omega), if_pos (by omega)]; simp
    · rw [if_pos (by omega), if_neg (by omega), if_neg (by omega), if_neg (by omega)]
      have := ih (sFs S j).toNat (by omega) (by omega)
      simp
      omega
    · rw [if_pos (by omega), if_pos (by omega), if_neg (by omega), if_pos (by omega)]
      have a1 := ih (sFs S j).toNat (by omega) (by omega)
      have a2 := ih (sSn S j).toNat (by omega) (by omega)
      simp
      omega
theorem cnt_in {S : xS} (hT : Tb S) {j : Nat} (hj : j < sN S) (h : Nat) : 0 ≤ cnt S j h ∧ cnt S j h ≤ 1000 := by
  have h1 := ly_len hT j hj
  obtain ⟨-, -, -, -, -, h2⟩ := hT.2.1 j hj
  have h3 : ((ly (sFs S) (sSn S) j).filter (fun i => decide (sSg S i = 200 + (h : Int)))).length ≤ (ly (sFs S) (sSn S) j).length := List.length_filter_le _ _
  unfold cnt
  omega
