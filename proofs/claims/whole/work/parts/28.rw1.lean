/-! matching: what trees the holes stand for, -1 where nothing stands yet -/
def fitS (S : xS) (p t : Nat) (β : Nat → Int) : Option (Nat → Int) :=
  if 200 ≤ sSg S p then
    (if β (sSg S p - 200).toNat = -1 then some (va_up β (sSg S p - 200).toNat (t : Int)) else if β (sSg S p - 200).toNat = (t : Int) then some β else none)
  else if sSg S p ≠ sSg S t then none
  else if 100 ≤ sSg S p then some β
  else if h : (sFs S p).toNat < p then
    (fitS S (sFs S p).toNat (sFs S t).toNat β).bind (fun β1 => if sSg S p < 6 then some β1 else if h2 : (sSn S p).toNat < p then fitS S (sSn S p).toNat (sSn S t).toNat β1 else none)
  else none
termination_by p
decreasing_by
  · exact h
  · exact h2
def mtS (S : xS) (l t : Nat) : Option (Nat → Int) := fitS S l t (fun _ => -1)
section Fit
variable {S : xS} {p t : Nat} {β : Nat → Int}
theorem fit_h (h : 200 ≤ sSg S p) : fitS S p t β = if β (sSg S p - 200).toNat = -1 then some (va_up β (sSg S p - 200).toNat (t : Int)) else if β (sSg S p - 200).toNat = (t : Int) then some β else none := by rw [fitS, if_pos h]
theorem fit_ne (h : sSg S p < 200) (h1 : sSg S p ≠ sSg S t) : fitS S p t β = none := by rw [fitS, if_neg (by omega), if_pos h1]
theorem fit_0 (h : sSg S p < 200) (h1 : sSg S p = sSg S t) (h2 : 100 ≤ sSg S p) : fitS S p t β = some β := by rw [fitS, if_neg (by omega), if_neg (by simp [h1]), if_pos h2]
theorem fit_1 (h1 : sSg S p = sSg S t) (h2 : sSg S p < 6) (h3 : (sFs S p).toNat < p) : fitS S p t β = fitS S (sFs S p).toNat (sFs S t).toNat β := by
  rw [fitS, if_neg (by omega), if_neg (by simp [h1]), if_neg (by omega), dif_pos h3]
  cases fitS S (sFs S p).toNat (sFs S t).toNat β with
  | none => rfl
  | some b =>
    show (if sSg S p < 6 then some b else _) = some b
    rw [if_pos h2]
theorem fit_2 (h1 : sSg S p = sSg S t) (h2 : 6 ≤ sSg S p) (h4 : sSg S p < 100) (h3 : (sFs S p).toNat < p) (h5 : (sSn S p).toNat < p) : fitS S p t β = (fitS S (sFs S p).toNat (sFs S t).toNat β).bind (fun β1 => fitS S (sSn S p).toNat (sSn S t).toNat β1) := by
  rw [fitS, if_neg (by omega), if_neg (by simp [h1]), if_neg (by omega), dif_pos h3]
  congr 1
  funext b
  rw [if_neg (by omega), dif_pos h5]
end Fit
/-- a row of pairs, one after the other -/
def fitL (S : xS) : List (Nat × Nat) → (Nat → Int) → Option (Nat → Int)
  | [], β => some β
  | (p, t) :: r, β => (fitS S p t β).bind (fitL S r)
/-! plain trees -/
theorem hbS_all0 {f : Nat → Bool} (h : hbS f 6 = 0) : ∀ i, i < 6 → f i = false := by
  have : ∀ f0 f1 f2 f3 f4 f5 : Bool, (0 + (if f0 then 2 ^ 0 else 0) + (if f1 then 2 ^ 1 else 0) + (if f2 then 2 ^ 2 else 0) + (if f3 then 2 ^ 3 else 0) + (if f4 then 2 ^ 4 else 0) + (if f5 then 2 ^ 5 else 0) : Int) = 0 → f0 = false ∧ f1 = false ∧ f2 = false ∧ f3 = false ∧ f4 = false ∧ f5 = false := by decide
  obtain ⟨h0, h1, h2, h3, h4, h5⟩ := this (f 0) (f 1) (f 2) (f 3) (f 4) (f 5) h
  intro i hi
  match i, hi with
  | 0, _ => exact h0
  | 1, _ => exact h1
  | 2, _ => exact h2
  | 3, _ => exact h3
  | 4, _ => exact h4
  | 5, _ => exact h5
theorem pln_iff {S : xS} (hT : Tb S) {p : Nat} (hp : p < sN S) : sHo S p = 0 ↔ ∀ h, h < 6 → cnt S p h = 0 := by
  obtain ⟨-, -, -, -, h5, -⟩ := hT.2.1 p hp
  constructor
  · intro h i hi
    have := hbS_all0 (h5.symm.trans h) i hi
    have := of_decide_eq_false this
    have := cnt_in hT hp i
    omega
  · intro h
    rw [h5]
    exact hbS_0 (fun i hi => decide_eq_false (by rw [h i hi]; omega))
theorem cnt_hole {S : xS} (hT : Tb S) {p : Nat} (hp : p < sN S) {h : Nat} (hh : sSg S p = 200 + (h : Int)) : 1 ≤ cnt S p h := by
  have hs := (hT.2.1 p hp).1
  have ha := shp_a hs
  rw [cnt_eq hs]
  unfold cntN
  rw [if_pos hh]
  split <;> split
  · omega
  · have := cnt_in hT (j := (sSn S p).toNat) (by omega) h; omega
  · have := cnt_in hT (j := (sFs S p).toNat) (by omega) h; omega
  · have := cnt_in hT (j := (sFs S p).toNat) (by omega) h
    have := cnt_in hT (j := (sSn S p).toNat) (by omega) h; omega
theorem cnt_node {S : xS} (hT : Tb S) {p : Nat} (hp : p < sN S) (hn : sSg S p < 100) (h : Nat) : cnt S p h = cnt S (sFs S p).toNat h + (if 6 ≤ sSg S p then cnt S (sSn S p).toNat h else 0) := by
  have hs := (hT.2.1 p hp).1
  rw [cnt_eq hs]
  unfold cntN
  rw [if_neg (by omega : ¬ sSg S p = 200 + (h : Int)), Int.zero_add]
  unfold shp at hs
  rw [if_neg (by omega)]
  congr 1
  split
  · rw [if_neg (by omega)]
  · rw [if_pos (by omega)]
/-- a plain tree fits itself alone -/
theorem fit_plain {S : xS} (hT : Tb S) : ∀ (p t : Nat) (β : Nat → Int), p < sN S → t < sN S → sHo S p = 0 → fitS S p t β = if p = t then some β else none := by
  intro p
  induction p using Nat.strongRecOn with
  | ind p ih =>
    intro t β hp ht hpl
    have h0 := (pln_iff hT hp).mp hpl
    have sp := (hT.2.1 p hp).1
    have st := (hT.2.1 t ht).1
    have hnh : sSg S p < 200 := by
      rcases Int.lt_or_le (sSg S p) 200 with q | q
      · exact q
      · have := cnt_hole hT hp (h := (sSg S p - 200).toNat) (by unfold shp at sp; omega)
        have := h0 (sSg S p - 200).toNat (by unfold shp at sp; omega)
        omega
    by_cases hsg : sSg S p = sSg S t
    · by_cases hlf : 100 ≤ sSg S p
      · rw [fit_0 hnh hsg hlf]
        unfold shp at sp st
        rw [if_pos (hT.2.2 p t hp ht hsg (by omega) (by omega))]
      · have hc := cnt_node hT hp (by omega)
        have cf : ∀ h, 0 ≤ cnt S (sFs S p).toNat h := fun h => (cnt_in hT (by unfold shp at sp; omega) h).1
        have pf : sHo S (sFs S p).toNat = 0 := (pln_iff hT (by unfold shp at sp; omega)).mpr (fun h hh => by
          have := hc h
          have := h0 h hh
          have := cf h
          split at *
          · have := (cnt_in hT (j := (sSn S p).toNat) (by unfold shp at sp; omega) h).1
            omega
          · omega)
        rcases Int.lt_or_le (sSg S p) 6 with h6 | h6
        · unfold shp at sp st
          rw [fit_1 hsg h6 (by omega), ih (sFs S p).toNat (by omega) (sFs S t).toNat β (by omega) (by omega) pf]
          by_cases e : p = t
          · subst e; rw [if_pos rfl, if_pos rfl]
          · rw [if_neg e, if_neg]
            intro e2
            exact e (hT.2.2 p t hp ht hsg (by omega) (by omega))
        · have ps : sHo S (sSn S p).toNat = 0 := (pln_iff hT (by unfold shp at sp; omega)).mpr (fun h hh => by
            have := hc h
            have := h0 h hh
            have := cf h
            rw [if_pos h6] at *
            have := (cnt_in hT (j := (sSn S p).toNat) (by unfold shp at sp; omega) h).1
            omega)
          unfold shp at sp st
          rw [fit_2 hsg h6 (by omega) (by omega) (by omega), ih (sFs S p).toNat (by omega) (sFs S t).toNat β (by omega) (by omega) pf]
          by_cases e : p = t
          · subst e
            rw [if_pos rfl, if_pos rfl]
            show fitS S _ _ β = _
            rw [ih (sSn S p).toNat (by omega) _ β (by omega) (by omega) ps, if_pos rfl]
          · rw [if_neg e]
            by_cases e2 : (sFs S p).toNat = (sFs S t).toNat
            · rw [if_pos e2]
              show fitS S _ _ β = _
              rw [ih (sSn S p).toNat (by omega) _ β (by omega) (by omega) ps, if_neg]
              intro e3
              exact e (hT.2.2 p t hp ht hsg (by omega) (by omega))
            · rw [if_neg e2]
              rfl
    · rw [fit_ne hnh hsg, if_neg]
      intro e
      subst e
      exact hsg rfl
/-- what fits is no lighter -/
theorem fit_wt {S : xS} (hT : Tb S) : ∀ (p t : Nat) (β β' : Nat → Int), p < sN S → t < sN S → fitS S p t β = some β' → sWt S p ≤ sWt S t := by
  intro p
  induction p using Nat.strongRecOn with
  | ind p ih =>
    intro t β β' hp ht hf
    obtain ⟨sp, wp, -⟩ := hT.2.1 p hp
    obtain ⟨st, wt, -, -, -, bt⟩ := hT.2.1 t ht
    by_cases hh : 200 ≤ sSg S p
    · rw [nWt_0 (by omega)] at wp
      omega
    · by_cases hsg : sSg S p = sSg S t
      · by_cases hlf : 100 ≤ sSg S p
        · rw [nWt_0 (by omega)] at wp
          omega
        · unfold shp at sp st
          rcases Int.lt_or_le (sSg S p) 6 with h6 | h6
          · rw [fit_1 hsg h6 (by omega)] at hf
            have := ih (sFs S p).toNat (by omega) (sFs S t).toNat β β' (by omega) (by omega) hf
            rw [nWt_1 (by omega)] at wp wt
            rw [hsg] at wp
            omega
          · rw [fit_2 hsg h6 (by omega) (by omega) (by omega)] at hf
            cases e : fitS S (sFs S p).toNat (sFs S t).toNat β with
            | none => rw [e] at hf; cases hf
            | some b =>
              rw [e] at hf
              have a1 := ih (sFs S p).toNat (by omega) (sFs S t).toNat β b (by omega) (by omega) e
              have a2 := ih (sSn S p).toNat (by omega) (sSn S t).toNat b β' (by omega) (by omega) hf
              rw [nWt_2 (by omega) (by omega)] at wp wt
              rw [hsg] at wp
              omega
      · rw [fit_ne (by omega) hsg] at hf
        cases hf
/-- holes bound stay bound, each hole of p is bound, all that is bound is a tree -/
theorem fit_bd {S : xS} (hT : Tb S) : ∀ (p t : Nat) (β β' : Nat → Int), p < sN S → t < sN S → (∀ h, -1 ≤ β h ∧ β h < sN S) → fitS S p t β = some β' → (∀ h, -1 ≤ β' h ∧ β' h < sN S) ∧ (∀ h, β h ≠ -1 → β' h = β h) ∧ ∀ h, h < 6 → 0 < cnt S p h → β' h ≠ -1 := by
  intro p
  induction p using Nat.strongRecOn with
  | ind p ih =>
    intro t β β' hp ht hβ hf
    have sp := (hT.2.1 p hp).1
    have st := (hT.2.1 t ht).1
    by_cases hh : 200 ≤ sSg S p
    · rw [fit_h hh] at hf
      have hone : ∀ h, h < 6 → 0 < cnt S p h → h = (sSg S p - 200).toNat := by
        intro h h6 hc
        rw [cnt_eq sp] at hc
        unfold cntN at hc
        unfold shp at sp
        rw [if_pos (by omega : sFs S p < 0), if_pos (by omega : sSn S p < 0)] at hc
        split at hc
        · omega
        · omega
      split at hf
      · cases hf
        rename_i hb
        refine ⟨fun h => ?_, fun h h1 => ?_, fun h h6 hc => ?_⟩
        · by_cases e : h = (sSg S p - 200).toNat
          · rw [e, va_eq]; omega
          · rw [va_ne e]; exact hβ h
        · by_cases e : h = (sSg S p - 200).toNat
          · rw [e] at h1; exact absurd hb h1
          · rw [va_ne e]
        · rw [hone h h6 hc, va_eq]; omega
      · rename_i hb
        split at hf
        · cases hf
          exact ⟨hβ, fun _ _ => rfl, fun h h6 hc => by rw [hone h h6 hc]; exact hb⟩
        · cases hf
    · by_cases hsg : sSg S p = sSg S t
      · by_cases hlf : 100 ≤ sSg S p
        · rw [fit_0 (by omega) hsg hlf] at hf
          cases hf
          refine ⟨hβ, fun _ _ => rfl, fun h h6 hc => ?_⟩
          rw [cnt_eq sp] at hc
          unfold cntN at hc
          unfold shp at sp
          rw [if_pos (by omega : sFs S p < 0), if_pos (by omega : sSn S p < 0), if_neg (by omega)] at hc
          omega
        · have hc := cnt_node hT hp (by omega)
          unfold shp at sp st
          rcases Int.lt_or_le (sSg S p) 6 with h6 | h6
          · rw [fit_1 hsg h6 (by omega)] at hf
            obtain ⟨a1, a2, a3⟩ := ih (sFs S p).toNat (by omega) (sFs S t).toNat β β' (by omega) (by omega) hβ hf
            refine ⟨a1, a2, fun h hh6 hcc => a3 h hh6 ?_⟩
            rw [hc h, if_neg (by omega)] at hcc
            omega
          · rw [fit_2 hsg h6 (by omega) (by omega) (by omega)] at hf
            cases e : fitS S (sFs S p).toNat (sFs S t).toNat β with
            | none => rw [e] at hf; cases hf
            | some b =>
              rw [e] at hf
              obtain ⟨a1, a2, a3⟩ := ih (sFs S p).toNat (by omega) (sFs S t).toNat β b (by omega) (by omega) hβ e
              obtain ⟨b1, b2, b3⟩ := ih (sSn S p).toNat (by omega) (sSn S t).toNat b β' (by omega) (by omega) a1 hf
              refine ⟨b1, fun h h1 => ?_, fun h hh6 hcc => ?_⟩
              · have := a2 h h1
                rw [b2 h (by rw [this]; exact h1), this]
              · rw [hc h, if_pos h6] at hcc
                by_cases q : 0 < cnt S (sFs S p).toNat h
                · have := a3 h hh6 q
                  rw [b2 h this]
                  exact this
                · exact b3 h hh6 (by omega)
      · rw [fit_ne (by omega) hsg] at hf
        cases hf
/-- only the six holes count -/
theorem fit_6 {S : xS} (hT : Tb S) : ∀ (p t : Nat) (β γ : Nat → Int), p < sN S → (∀ h, h < 6 → γ h = β h) → (fitS S p t β = none ∧ fitS S p t γ = none) ∨ ∃ β' γ', fitS S p t β = some β' ∧ fitS S p t γ = some γ' ∧ ∀ h, h < 6 → γ' h = β' h := by
  intro p
  induction p using Nat.strongRecOn with
  | ind p ih =>
    intro t β γ hp hg
    have sp := (hT.2.1 p hp).1
    by_cases hh : 200 ≤ sSg S p
    · have h9 : (sSg S p - 200).toNat < 6 := by unfold shp at sp; omega
      rw [fit_h hh, fit_h hh, hg _ h9]
      split
      · refine Or.inr ⟨_, _, rfl, rfl, fun h h6 => ?_⟩
        unfold va_up
        split
        · rfl
        · exact hg h h6
      · split
        · exact Or.inr ⟨_, _, rfl, rfl, hg⟩
        · exact Or.inl ⟨rfl, rfl⟩
    · by_cases hsg : sSg S p = sSg S t
      · by_cases hlf : 100 ≤ sSg S p
        · rw [fit_0 (by omega) hsg hlf, fit_0 (by omega) hsg hlf]
          exact Or.inr ⟨_, _, rfl, rfl, hg⟩
        · unfold shp at sp
          rcases Int.lt_or_le (sSg S p) 6 with h6 | h6
          · rw [fit_1 hsg h6 (by omega), fit_1 hsg h6 (by omega)]
            exact ih _ (by omega) _ β γ (by omega) hg
          · rw [fit_2 hsg h6 (by omega) (by omega) (by omega), fit_2 hsg h6 (by omega) (by omega) (by omega)]
            rcases ih (sFs S p).toNat (by omega) (sFs S t).toNat β γ (by omega) hg with ⟨e1, e2⟩ | ⟨b, c, e1, e2, e3⟩
            · rw [e1, e2]; exact Or.inl ⟨rfl, rfl⟩
            · rw [e1, e2]
              exact ih (sSn S p).toNat (by omega) _ b c (by omega) e3
      · rw [fit_ne (by omega) hsg, fit_ne (by omega) hsg]
        exact Or.inl ⟨rfl, rfl⟩
