/-! a right tree with the trees of its holes; S0 tells its shape, S is the table that grows -/
def bld (S0 : xS) (β : Nat → Int) (p : Nat) (S : xS) : Int × xS :=
  if 200 ≤ sSg S0 p then (β (sSg S0 p - 200).toNat, S)
  else if 100 ≤ sSg S0 p then ((p : Int), S)
  else if h : (sFs S0 p).toNat < p then
    (if (bld S0 β (sFs S0 p).toNat S).1 < 0 then (-1, (bld S0 β (sFs S0 p).toNat S).2)
     else if sSg S0 p < 6 then mkT (bld S0 β (sFs S0 p).toNat S).2 (sSg S0 p) (bld S0 β (sFs S0 p).toNat S).1 (-1)
     else if h2 : (sSn S0 p).toNat < p then
       (if (bld S0 β (sSn S0 p).toNat (bld S0 β (sFs S0 p).toNat S).2).1 < 0 then (-1, (bld S0 β (sSn S0 p).toNat (bld S0 β (sFs S0 p).toNat S).2).2)
        else mkT (bld S0 β (sSn S0 p).toNat (bld S0 β (sFs S0 p).toNat S).2).2 (sSg S0 p) (bld S0 β (sFs S0 p).toNat S).1 (bld S0 β (sSn S0 p).toNat (bld S0 β (sFs S0 p).toNat S).2).1)
     else (-1, S))
  else (-1, S)
termination_by p
decreasing_by
  all_goals first | exact h | exact h2
section Bld
variable {S0 S S1 S2 : xS} {β : Nat → Int} {p : Nat} {a b : Int}
theorem bld_h (h : 200 ≤ sSg S0 p) : bld S0 β p S = (β (sSg S0 p - 200).toNat, S) := by rw [bld, if_pos h]
theorem bld_0 (h : 100 ≤ sSg S0 p) (h2 : sSg S0 p < 200) : bld S0 β p S = ((p : Int), S) := by rw [bld, if_neg (by omega), if_pos h]
theorem bld_f (h : sSg S0 p < 100) (h1 : (sFs S0 p).toNat < p) (e : (a, S1) = bld S0 β (sFs S0 p).toNat S) (ha : a < 0) : bld S0 β p S = (-1, S1) := by
  rw [bld, if_neg (by omega), if_neg (by omega), dif_pos h1, ← e, if_pos ha]
theorem bld_1 (h : sSg S0 p < 6) (h1 : (sFs S0 p).toNat < p) (e : (a, S1) = bld S0 β (sFs S0 p).toNat S) (ha : ¬ a < 0) : bld S0 β p S = mkT S1 (sSg S0 p) a (-1) := by
  rw [bld, if_neg (by omega), if_neg (by omega), dif_pos h1, ← e, if_neg ha, if_pos h]
theorem bld_2f (h : 6 ≤ sSg S0 p) (h0 : sSg S0 p < 100) (h1 : (sFs S0 p).toNat < p) (h2 : (sSn S0 p).toNat < p) (e : (a, S1) = bld S0 β (sFs S0 p).toNat S) (ha : ¬ a < 0) (e2 : (b, S2) = bld S0 β (sSn S0 p).toNat S1) (hb : b < 0) : bld S0 β p S = (-1, S2) := by
  rw [bld, if_neg (by omega), if_neg (by omega), dif_pos h1, ← e, if_neg ha, if_neg (by omega), dif_pos h2, ← e2, if_pos hb]
theorem bld_2 (h : 6 ≤ sSg S0 p) (h0 : sSg S0 p < 100) (h1 : (sFs S0 p).toNat < p) (h2 : (sSn S0 p).toNat < p) (e : (a, S1) = bld S0 β (sFs S0 p).toNat S) (ha : ¬ a < 0) (e2 : (b, S2) = bld S0 β (sSn S0 p).toNat S1) (hb : ¬ b < 0) : bld S0 β p S = mkT S2 (sSg S0 p) a b := by
  rw [bld, if_neg (by omega), if_neg (by omega), dif_pos h1, ← e, if_neg ha, if_neg (by omega), dif_pos h2, ← e2, if_neg hb]
end Bld
theorem bld_ok {S0 : xS} {β : Nat → Int} (hT0 : Tb S0) : ∀ (p : Nat) (S : xS) (z : Int) (S' : xS), p < sN S0 → Tb S → xt S0 S → (∀ h, h < 6 → 0 < cnt S0 p h → 0 ≤ β h ∧ β h < sN S0) → (z, S') = bld S0 β p S → Tb S' ∧ xt S S' ∧ -1 ≤ z ∧ z < sN S' := by
  intro p
  induction p using Nat.strongRecOn with
  | ind p ih =>
    intro S z S' hp hT hx hβ e
    have hN := hx.1
    have hN9 := hT.1
    have sp := (hT0.2.1 p hp).1
    by_cases hh : 200 ≤ sSg S0 p
    · rw [bld_h hh] at e
      cases e
      have := hβ (sSg S0 p - 200).toNat (by unfold shp at sp; omega) (by have := cnt_hole hT0 hp (h := (sSg S0 p - 200).toNat) (by omega); omega)
      exact ⟨hT, xt_refl S, by omega, by omega⟩
    · by_cases hlf : 100 ≤ sSg S0 p
      · rw [bld_0 hlf (by omega)] at e
        cases e
        exact ⟨hT, xt_refl S, by omega, by omega⟩
      · have hc := cnt_node hT0 hp (by omega)
        unfold shp at sp
        obtain ⟨⟨a, S1⟩, e1⟩ : ∃ r, r = bld S0 β (sFs S0 p).toNat S := ⟨_, rfl⟩
        obtain ⟨t1, x1, r1, r2⟩ := ih (sFs S0 p).toNat (by omega) S a S1 (by omega) hT hx (fun h h6 hcc => hβ h h6 (by
          rw [hc h]
          split
          · have := (cnt_in hT0 (j := (sSn S0 p).toNat) (by omega) h).1
            omega
          · omega)) e1
        have hN1 := x1.1
        by_cases ha : a < 0
        · rw [bld_f (by omega) (by omega) e1 ha] at e
          cases e
          exact ⟨t1, x1, by omega, by omega⟩
        · rcases Int.lt_or_le (sSg S0 p) 6 with h6 | h6
          · rw [bld_1 h6 (by omega) e1 ha] at e
            obtain ⟨g1, g2, g3, g4⟩ := mkT_pos t1 (by unfold shp; omega) e
            exact ⟨g1, xt_trans x1 (mkT_xt e), g2, g3⟩
          · obtain ⟨⟨b, S2⟩, e2⟩ : ∃ r, r = bld S0 β (sSn S0 p).toNat S1 := ⟨_, rfl⟩
            obtain ⟨t2, x2, q1, q2⟩ := ih (sSn S0 p).toNat (by omega) S1 b S2 (by omega) t1 (xt_trans hx x1) (fun h h6' hcc => hβ h h6' (by
              rw [hc h, if_pos h6]
              have := (cnt_in hT0 (j := (sFs S0 p).toNat) (by omega) h).1
              omega)) e2
            have hN2 := x2.1
            by_cases hb : b < 0
            · rw [bld_2f h6 (by omega) (by omega) (by omega) e1 ha e2 hb] at e
              cases e
              exact ⟨t2, xt_trans x1 x2, by omega, by omega⟩
            · rw [bld_2 h6 (by omega) (by omega) (by omega) e1 ha e2 hb] at e
              obtain ⟨g1, g2, g3, g4⟩ := mkT_pos t2 (by unfold shp; omega) e
              exact ⟨g1, xt_trans x1 (xt_trans x2 (mkT_xt e)), g2, g3⟩
theorem pln_f {S : xS} (hT : Tb S) {p : Nat} (hp : p < sN S) (hn : sSg S p < 100) (h : sHo S p = 0) : sHo S (sFs S p).toNat = 0 ∧ (6 ≤ sSg S p → sHo S (sSn S p).toNat = 0) := by
  have h0 := (pln_iff hT hp).mp h
  have hc := cnt_node hT hp hn
  have sp := (hT.2.1 p hp).1
  unfold shp at sp
  have cf : ∀ h, 0 ≤ cnt S (sFs S p).toNat h := fun h => (cnt_in hT (by omega) h).1
  refine ⟨(pln_iff hT (by omega)).mpr (fun i hi => ?_), fun h6 => (pln_iff hT (by omega)).mpr (fun i hi => ?_)⟩
  · have a := hc i
    have b := h0 i hi
    have c := cf i
    by_cases h6 : 6 ≤ sSg S p
    · rw [if_pos h6] at a
      have := (cnt_in hT (j := (sSn S p).toNat) (by omega) i).1
      omega
    · rw [if_neg h6] at a
      omega
  · have a := hc i
    have b := h0 i hi
    have c := cf i
    rw [if_pos h6] at a
    have := (cnt_in hT (j := (sSn S p).toNat) (by omega) i).1
    omega
theorem bld_plain {S0 : xS} {β : Nat → Int} (hT0 : Tb S0) : ∀ (p : Nat) (S : xS), p < sN S0 → Tb S → xt S0 S → sHo S0 p = 0 → bld S0 β p S = ((p : Int), S) := by
  intro p
  induction p using Nat.strongRecOn with
  | ind p ih =>
    intro S hp hT hx hpl
    have sp := (hT0.2.1 p hp).1
    have hN := hx.1
    by_cases hh : 200 ≤ sSg S0 p
    · exfalso
      have := cnt_hole hT0 hp (h := (sSg S0 p - 200).toNat) (by omega)
      have := (pln_iff hT0 hp).mp hpl (sSg S0 p - 200).toNat (by unfold shp at sp; omega)
      omega
    · by_cases hlf : 100 ≤ sSg S0 p
      · rw [bld_0 hlf (by omega)]
      · obtain ⟨pf, ps⟩ := pln_f hT0 hp (by omega) hpl
        unfold shp at sp
        have e1 := ih (sFs S0 p).toNat (by omega) S (by omega) hT hx pf
        obtain ⟨x1, x2, x3, -⟩ := hx.2 p hp
        rcases Int.lt_or_le (sSg S0 p) 6 with h6 | h6
        · rw [bld_1 h6 (by omega) e1.symm (by omega), mkT_some (fnd_of hT (j := p) (by omega) ⟨x1, by rw [x2]; omega, by rw [x3]; omega⟩)]
        · have e2 := ih (sSn S0 p).toNat (by omega) S (by omega) hT hx (ps h6)
          rw [bld_2 h6 (by omega) (by omega) (by omega) e1.symm (by omega) e2.symm (by omega), mkT_some (fnd_of hT (j := p) (by omega) ⟨x1, by rw [x2]; omega, by rw [x3]; omega⟩)]
/-- as the system asks it -/
def bldI (S0 : xS) (β : Nat → Int) (x : Int) (S : xS) : Int × xS := if x < 0 then (-1, S) else bld S0 β x.toNat S
/-! the trees around a place, made anew, the innermost first -/
def upP (S0 : xS) : List (Nat × Bool × Nat) → Int → xS → Int × xS
  | [], t, S => (t, S)
  | (y, b, _) :: p, t, S => if (mkT S (sSg S0 y) (if b then sFs S0 y else t) (if b then t else sSn S0 y)).1 < 0 then (-1, (mkT S (sSg S0 y) (if b then sFs S0 y else t) (if b then t else sSn S0 y)).2) else upP S0 p (mkT S (sSg S0 y) (if b then sFs S0 y else t) (if b then t else sSn S0 y)).1 (mkT S (sSg S0 y) (if b then sFs S0 y else t) (if b then t else sSn S0 y)).2
theorem up_f {S0 S S1 : xS} {y k : Nat} {b : Bool} {p : List (Nat × Bool × Nat)} {t z : Int} (e : (z, S1) = mkT S (sSg S0 y) (if b then sFs S0 y else t) (if b then t else sSn S0 y)) (h : z < 0) : upP S0 ((y, b, k) :: p) t S = (-1, S1) := by
  unfold upP
  rw [← e, if_pos h]
theorem up_g {S0 S S1 : xS} {y k : Nat} {b : Bool} {p : List (Nat × Bool × Nat)} {t z : Int} (e : (z, S1) = mkT S (sSg S0 y) (if b then sFs S0 y else t) (if b then t else sSn S0 y)) (h : ¬ z < 0) : upP S0 ((y, b, k) :: p) t S = upP S0 p z S1 := by
  rw [upP, ← e, if_neg h]
theorem PT_shp {S0 S : xS} (hT : Tb S0) (hx : xt S0 S) {r : Nat} (hr : r < sN S0) {y k : Nat} {b : Bool} {p : List (Nat × Bool × Nat)} {x pos : Nat} {t : Int} (h : PT S0 r ((y, b, k) :: p) x pos) (ht : 0 ≤ t ∧ t < sN S) : shp (sSg S0 y) (if b then sFs S0 y else t) (if b then t else sSn S0 y) (sN S) := by
  obtain ⟨h1, h2, h3⟩ := h
  have hy := (PT_lt hT hr p y k h1).1
  have hN := hx.1
  have sy := (hT.2.1 y hy).1
  unfold shp at sy ⊢
  rcases h3 with ⟨rfl, -⟩ | ⟨rfl, h6, -⟩
  · simp only [Bool.false_eq_true, if_false]
    omega
  · simp only [if_true]
    omega
theorem up_ok {S0 : xS} (hT0 : Tb S0) {r : Nat} (hr : r < sN S0) : ∀ (p : List (Nat × Bool × Nat)) (x pos : Nat) (t : Int) (S : xS) (z : Int) (S' : xS), PT S0 r p x pos → Tb S → xt S0 S → 0 ≤ t ∧ t < sN S → (z, S') = upP S0 p t S → Tb S' ∧ xt S S' ∧ -1 ≤ z ∧ z < sN S' := by
  intro p
  induction p with
  | nil =>
    intro x pos t S z S' _ hT _ ht e
    cases e
    exact ⟨hT, xt_refl _, by omega, by omega⟩
  | cons a p ih =>
    intro x pos t S z S' hPT hT hx ht e
    obtain ⟨y, b, k⟩ := a
    have hs := PT_shp hT0 hx hr hPT ht
    obtain ⟨⟨v, S1⟩, e1⟩ : ∃ q, q = mkT S (sSg S0 y) (if b then sFs S0 y else t) (if b then t else sSn S0 y) := ⟨_, rfl⟩
    obtain ⟨g1, g2, g3, g4⟩ := mkT_pos hT hs e1
    by_cases h : v < 0
    · rw [up_f e1 h] at e
      cases e
      exact ⟨g1, mkT_xt e1, by omega, by omega⟩
    · rw [up_g e1 h] at e
      obtain ⟨i1, i2, i3, i4⟩ := ih y k v S1 z S' hPT.1 g1 (xt_trans hx (mkT_xt e1)) (by omega) e
      exact ⟨i1, xt_trans (mkT_xt e1) i2, i3, i4⟩
/-! one step -/
def skT (S : xS) (n : Nat) (rl : Nat → Int) (us : Nat → Bool) (t : Nat) : List (Nat × Bool × Nat) × Nat × Nat := sk S (fnS S (lowR S n rl us)) [] t 0
def ruT (S : xS) (n : Nat) (rl : Nat → Int) (us : Nat → Bool) (t : Nat) : Nat := (fnS S (lowR S n rl us) (skT S n rl us t).2.1).toNat
def bdT (S : xS) (n : Nat) (rl : Nat → Int) (us : Nat → Bool) (t : Nat) : Nat → Int := (mtS S (rl (ruT S n rl us t)).toNat (skT S n rl us t).2.1).getD (fun _ => -1)
def byT (S : xS) (n : Nat) (rl rr : Nat → Int) (us : Nat → Bool) (t : Nat) : Int × xS := bld S (bdT S n rl us t) (rr (ruT S n rl us t)).toNat S
def stp (S : xS) (n : Nat) (rl rr : Nat → Int) (us : Nat → Bool) (t : Nat) : Int × xS := if (byT S n rl rr us t).1 < 0 then (-1, (byT S n rl rr us t).2) else upP S (skT S n rl us t).1 (byT S n rl rr us t).1 (byT S n rl rr us t).2
/-- rules are good: both trees are there, the left one is a node that has all holes of the right one -/
def RG (S : xS) (n : Nat) (rl rr : Nat → Int) : Prop := ∀ r, r < n → (0 ≤ rl r ∧ rl r < sN S ∧ sSg S (rl r).toNat < 100) ∧ (0 ≤ rr r ∧ rr r < sN S) ∧ ∀ h, h < 6 → 0 < cnt S (rr r).toNat h → 0 < cnt S (rl r).toNat h
theorem rg_xt {S S' : xS} (hx : xt S S') {n : Nat} {rl rr : Nat → Int} (h : RG S n rl rr) : RG S' n rl rr := by
  intro r hr
  obtain ⟨⟨a1, a2, a3⟩, ⟨b1, b2⟩, c⟩ := h r hr
  have hN := hx.1
  refine ⟨⟨a1, by omega, by rw [(hx.2 _ (by omega)).1]; exact a3⟩, ⟨b1, by omega⟩, fun i hi hc => ?_⟩
  rw [xt_cnt hx (by omega)] at hc ⊢
  exact c i hi hc
/-- where a step is: the way, the rule, what its holes stand for -/
theorem stp_at {S : xS} {n : Nat} {rl rr : Nat → Int} {us : Nat → Bool} (hT : Tb S) (hR : RG S n rl rr) {t : Nat} (ht : t < sN S) (hc : fnS S (lowR S n rl us) t ≠ -1) :
    PT S t (skT S n rl us t).1 (skT S n rl us t).2.1 (skT S n rl us t).2.2 ∧ (skT S n rl us t).2.1 < sN S ∧ fnS S (lowR S n rl us) (skT S n rl us t).2.1 = (ruT S n rl us t : Int) ∧ lowR S n rl us (skT S n rl us t).2.1 = (ruT S n rl us t : Int) ∧ ruT S n rl us t < n ∧ us (ruT S n rl us t) = true ∧ mtS S (rl (ruT S n rl us t)).toNat (skT S n rl us t).2.1 = some (bdT S n rl us t) ∧ (∀ h, h < 6 → 0 < cnt S (rr (ruT S n rl us t)).toNat h → 0 ≤ bdT S n rl us t h ∧ bdT S n rl us t h < sN S) ∧ ∀ q y, q < (skT S n rl us t).2.2 → (lyS S t)[q]? = some y → fnS S (lowR S n rl us) y < 0 := by
  have hl := lowR_ge S n rl us
  obtain ⟨h1, h2, h3⟩ := sk_spec hT hl ht t [] 0 hc ⟨rfl, rfl⟩ (fun q y hq => by omega)
  have hx := (PT_lt hT ht _ _ _ h1).1
  have h4 : fnS S (lowR S n rl us) (skT S n rl us t).2.1 = (ruT S n rl us t : Int) := by
    have h2 : 0 ≤ fnS S (lowR S n rl us) (skT S n rl us t).2.1 := h2
    unfold ruT
    omega
  have h5 : lowR S n rl us (skT S n rl us t).2.1 = (ruT S n rl us t : Int) := by
    have e := fn_eq (low := lowR S n rl us) (hT.2.1 _ hx).1
    have h2 : 0 ≤ fnS S (lowR S n rl us) (sk S (fnS S (lowR S n rl us)) [] t 0).2.1 := h2
    rw [e] at h2
    split at h2
    · omega
    · rename_i hq
      rw [if_neg hq] at e
      exact e.symm.trans h4
  have h6 : ruT S n rl us t < n ∧ hit S rl us (skT S n rl us t).2.1 (ruT S n rl us t) = true := by
    rcases lw_cases n (hit S rl us (skT S n rl us t).2.1) with ⟨a, -⟩ | ⟨r, r1, r2, r3⟩
    · unfold lowR at h5; omega
    · have : r = ruT S n rl us t := by unfold lowR at h5; omega
      subst this
      exact ⟨r1, r3⟩
  have h7 : us (ruT S n rl us t) = true ∧ (mtS S (rl (ruT S n rl us t)).toNat (skT S n rl us t).2.1).isSome = true := by
    have := h6.2
    unfold hit at this
    simpa using this
  have h8 : mtS S (rl (ruT S n rl us t)).toNat (skT S n rl us t).2.1 = some (bdT S n rl us t) := by
    obtain ⟨b, hb⟩ := Option.isSome_iff_exists.mp h7.2
    unfold bdT
    rw [hb]
    rfl
  obtain ⟨⟨a1, a2, a3⟩, ⟨b1, b2⟩, c⟩ := hR _ h6.1
  obtain ⟨g1, -, g3⟩ := fit_bd hT _ _ _ _ (by omega) hx (fun h => ⟨by omega, by omega⟩) h8
  refine ⟨h1, hx, h4, h5, h6.1, h7.1, h8, fun h h6' hcc => ?_, h3⟩
  have := g3 h h6' (c h h6' hcc)
  have := g1 h
  omega
theorem stp_ok {S : xS} {n : Nat} {rl rr : Nat → Int} {us : Nat → Bool} (hT : Tb S) (hR : RG S n rl rr) {t : Nat} (ht : t < sN S) (hc : fnS S (lowR S n rl us) t ≠ -1) {z : Int} {S' : xS} (e : (z, S') = stp S n rl rr us t) : Tb S' ∧ xt S S' ∧ -1 ≤ z ∧ z < sN S' := by
  obtain ⟨h1, h2, h3, h4, h5, h6, h7, h8, h9⟩ := stp_at hT hR ht hc
  obtain ⟨⟨a1, a2, a3⟩, ⟨b1, b2⟩, c⟩ := hR _ h5
  obtain ⟨⟨b, S1⟩, eb⟩ : ∃ r, r = byT S n rl rr us t := ⟨_, rfl⟩
  obtain ⟨k1, k2, k3, k4⟩ := bld_ok hT _ S b S1 (by omega) hT (xt_refl S) h8 eb
  unfold stp at e
  rw [← eb] at e
  by_cases q : b < 0
  · rw [if_pos q] at e
    cases e
    exact ⟨k1, k2, by omega, by omega⟩
  · rw [if_neg q] at e
    obtain ⟨i1, i2, i3, i4⟩ := up_ok hT ht _ _ _ b S1 z S' h1 k1 k2 (by omega) e
    exact ⟨i1, xt_trans k2 i2, i3, i4⟩
/-! a run of at most so many steps -/
def runS (n : Nat) (rl rr : Nat → Int) (us : Nat → Bool) : Nat → xS → Nat → List (Nat × Nat × Nat × Nat) → Int × xS × List (Nat × Nat × Nat × Nat)
  | 0, S, t, acc => ((t : Int), S, acc)
  | m + 1, S, t, acc => if fnS S (lowR S n rl us) t = -1 then ((t : Int), S, acc) else if (stp S n rl rr us t).1 < 0 then (-1, (stp S n rl rr us t).2, acc) else runS n rl rr us m (stp S n rl rr us t).2 (stp S n rl rr us t).1.toNat (acc ++ [(ruT S n rl us t, (skT S n rl us t).2.2, t, (stp S n rl rr us t).1.toNat)])
/-- the first two hundred rows, as they lie in an array -/
def RWS (f : Nat → Int) (acc : List (Nat × Nat × Nat × Nat)) : Prop := ∀ (i r p a b : Nat), i < 200 → acc[i]? = some (r, p, a, b) → f (i * 4) = (r : Int) ∧ f (i * 4 + 1) = (p : Int) ∧ f (i * 4 + 2) = (a : Int) ∧ f (i * 4 + 3) = (b : Int)
theorem RWS_add {f : Nat → Int} {acc : List (Nat × Nat × Nat × Nat)} {r p a b : Nat} (h : RWS f acc) (hl : acc.length < 200) : RWS (va_up (va_up (va_up (va_up f (acc.length * 4) (r : Int)) (acc.length * 4 + 1) (p : Int)) (acc.length * 4 + 2) (a : Int)) (acc.length * 4 + 3) (b : Int)) (acc ++ [(r, p, a, b)]) := by
  intro i r' p' a' b' hi hg
  by_cases e : i < acc.length
  · rw [List.getElem?_append_left e] at hg
    obtain ⟨h1, h2, h3, h4⟩ := h i r' p' a' b' hi hg
    refine ⟨?_, ?_, ?_, ?_⟩
    · rw [va_ne (by omega), va_ne (by omega), va_ne (by omega), va_ne (by omega)]; exact h1
    · rw [va_ne (by omega), va_ne (by omega), va_ne (by omega), va_ne (by omega)]; exact h2
    · rw [va_ne (by omega), va_ne (by omega), va_ne (by omega), va_ne (by omega)]; exact h3
    · rw [va_ne (by omega), va_ne (by omega), va_ne (by omega), va_ne (by omega)]; exact h4
  · rw [List.getElem?_append_right (by omega)] at hg
    have hz : i - acc.length < 1 := (List.getElem?_eq_some_iff.mp hg).1
    have e9 : i = acc.length := by omega
    subst e9
    rw [Nat.sub_self] at hg
    cases hg
    refine ⟨?_, ?_, ?_, ?_⟩
    · rw [va_ne (by omega), va_ne (by omega), va_ne (by omega), va_eq]
    · rw [va_ne (by omega), va_ne (by omega), va_eq]
    · rw [va_ne (by omega), va_eq]
    · rw [va_eq]
theorem RWS_full {f : Nat → Int} {acc : List (Nat × Nat × Nat × Nat)} {r : Nat × Nat × Nat × Nat} (h : RWS f acc) (hl : ¬ acc.length < 200) : RWS f (acc ++ [r]) := by
  intro i r' p' a' b' hi hg
  rw [List.getElem?_append_left (by omega)] at hg
  exact h i r' p' a' b' hi hg
