/-! the order as rows of numbers: a step by a rule that lessens comes to a lower row -/
def gtL : List Int → List Int → Prop
  | x :: xs, y :: ys => y < x ∨ (x = y ∧ gtL xs ys)
  | [], _ => False
  | _ :: _, [] => False
theorem gtL_irr : ∀ xs : List Int, ¬ gtL xs xs := by
  intro xs
  induction xs with
  | nil => intro h; exact h
  | cons x xs ih =>
    intro h
    rcases h with h | h
    · omega
    · exact ih h.2
theorem gtL_tr : ∀ xs ys zs : List Int, gtL xs ys → gtL ys zs → gtL xs zs := by
  intro xs
  induction xs with
  | nil => intro ys zs h; exact h.elim
  | cons x xs ih =>
    intro ys zs h1 h2
    cases ys with
    | nil => exact h1.elim
    | cons y ys =>
      cases zs with
      | nil => exact h2.elim
      | cons z zs =>
        rcases h1 with h1 | ⟨h1, h1'⟩
        · rcases h2 with h2 | ⟨h2, h2'⟩
          · exact Or.inl (by omega)
          · exact Or.inl (by omega)
        · rcases h2 with h2 | ⟨h2, h2'⟩
          · exact Or.inl (by omega)
          · exact Or.inr ⟨by omega, ih ys zs h1' h2'⟩
theorem gtL_r : ∀ (xs ys a b : List Int), gtL xs ys → gtL (xs ++ a) (ys ++ b) := by
  intro xs
  induction xs with
  | nil => intro ys a b h; exact h.elim
  | cons x xs ih =>
    intro ys a b h
    cases ys with
    | nil => exact h.elim
    | cons y ys =>
      rcases h with h | ⟨h, h'⟩
      · exact Or.inl h
      · exact Or.inr ⟨h, ih ys a b h'⟩
theorem gtL_l : ∀ (c xs ys : List Int), gtL xs ys → gtL (c ++ xs) (c ++ ys) := by
  intro c
  induction c with
  | nil => intro xs ys h; exact h
  | cons x c ih => intro xs ys h; exact Or.inr ⟨rfl, ih xs ys h⟩
def rk (s : Int) : Int := if s < 100 then s else s - 1000
/-- a tree's row -/
def KS (S : xS) (t : Nat) : List Int :=
  sWt S t :: rk (sSg S t) :: ((if h : 0 ≤ sFs S t ∧ sFs S t < t then KS S (sFs S t).toNat else []) ++ (if h : 0 ≤ sSn S t ∧ sSn S t < t then KS S (sSn S t).toNat else []))
termination_by t
decreasing_by all_goals omega
section K
variable {S : xS}
theorem KS_0 {t : Nat} (h : sFs S t < 0) (h2 : sSn S t < 0) : KS S t = [sWt S t, rk (sSg S t)] := by
  rw [KS, dif_neg (by omega), dif_neg (by omega)]
  rfl
theorem KS_1 {t : Nat} (h : 0 ≤ sFs S t ∧ sFs S t < t) (h2 : sSn S t < 0) : KS S t = sWt S t :: rk (sSg S t) :: KS S (sFs S t).toNat := by
  rw [KS, dif_pos h, dif_neg (by omega), List.append_nil]
theorem KS_2 {t : Nat} (h : 0 ≤ sFs S t ∧ sFs S t < t) (h2 : 0 ≤ sSn S t ∧ sSn S t < t) : KS S t = sWt S t :: rk (sSg S t) :: (KS S (sFs S t).toNat ++ KS S (sSn S t).toNat) := by
  rw [KS, dif_pos h, dif_pos h2]
theorem KS_hd (t : Nat) : ∃ r, KS S t = sWt S t :: r := by
  rw [KS]
  exact ⟨_, rfl⟩
theorem xt_KS {S' : xS} (hT : Tb S) (hx : xt S S') : ∀ t, t < sN S → KS S' t = KS S t := by
  intro t
  induction t using Nat.strongRecOn with
  | ind t ih =>
    intro ht
    obtain ⟨a1, a2, a3, a4, -⟩ := hx.2 t ht
    have hs := (hT.2.1 t ht).1
    unfold shp at hs
    rcases hs with q | q | q | q
    · rw [KS_0 (by omega) (by omega), KS_0 (by omega) (by omega), a4, a1]
    · rw [KS_0 (by omega) (by omega), KS_0 (by omega) (by omega), a4, a1]
    · rw [KS_1 (S := S') (by omega) (by omega), KS_1 (S := S) (by omega) (by omega), a4, a1, a2, ih _ (by omega) (by omega)]
    · rw [KS_2 (S := S') (by omega) (by omega), KS_2 (S := S) (by omega) (by omega), a4, a1, a2, a3, ih _ (by omega) (by omega), ih (sSn S t).toNat (by omega) (by omega)]
def s6 (f : Nat → Int) : Int := f 0 + f 1 + f 2 + f 3 + f 4 + f 5
/-- the weight that a tree has when its holes stand for trees -/
def wsg (S : xS) (β : Nat → Int) (p : Nat) : Int := sWt S p + s6 (fun h => cnt S p h * (sWt S (β h).toNat - 1))
theorem wsg_leaf (hT : Tb S) {β : Nat → Int} {p : Nat} (hp : p < sN S) (h : 100 ≤ sSg S p) (h2 : sSg S p < 200) : wsg S β p = 1 := by
  have h0 := (pln_iff hT hp).mp (leaf_plain hT hp h h2)
  unfold wsg s6
  simp only [h0 0 (by decide), h0 1 (by decide), h0 2 (by decide), h0 3 (by decide), h0 4 (by decide), h0 5 (by decide), Int.zero_mul]
  rw [(hT.2.1 p hp).2.1, nWt_0 h]
  rfl
theorem wsg_hole (hT : Tb S) {β : Nat → Int} {p : Nat} (hp : p < sN S) (h : 200 ≤ sSg S p) : wsg S β p = sWt S (β (sSg S p - 200).toNat).toNat := by
  have hs := (hT.2.1 p hp).1
  have hc : ∀ i : Nat, cnt S p i = if i = (sSg S p - 200).toNat then 1 else 0 := by
    intro i
    rw [cnt_eq hs]
    unfold cntN
    unfold shp at hs
    rw [if_pos (by omega : sFs S p < 0), if_pos (by omega : sSn S p < 0)]
    by_cases e : i = (sSg S p - 200).toNat
    · rw [if_pos e, if_pos (by omega)]; rfl
    · rw [if_neg e, if_neg (by omega)]; rfl
  have h6 : (sSg S p - 200).toNat < 6 := by unfold shp at hs; omega
  unfold wsg s6
  rw [(hT.2.1 p hp).2.1, nWt_0 (by omega)]
  simp only [hc]
  generalize (sSg S p - 200).toNat = k at h6
  match k, h6 with
  | 0, _ => simp; omega
  | 1, _ => simp; omega
  | 2, _ => simp; omega
  | 3, _ => simp; omega
  | 4, _ => simp; omega
  | 5, _ => simp; omega
theorem wsg_node (hT : Tb S) {β : Nat → Int} {p : Nat} (hp : p < sN S) (h : sSg S p < 100) : wsg S β p = 1 + c3 (sSg S p) + wsg S β (sFs S p).toNat + (if 6 ≤ sSg S p then wsg S β (sSn S p).toNat else 0) := by
  have hc := cnt_node hT hp h
  unfold wsg s6
  simp only [hc]
  rw [(hT.2.1 p hp).2.1]
  by_cases h6 : 6 ≤ sSg S p
  · rw [nWt_2 h6 h]
    simp only [if_pos h6, Int.add_mul]
    omega
  · rw [nWt_1 (by omega)]
    simp only [if_neg h6, Int.add_zero]
    omega
/-- a tree's row when its holes stand for trees -/
def Ksg (S : xS) (β : Nat → Int) (p : Nat) : List Int :=
  if 200 ≤ sSg S p then KS S (β (sSg S p - 200).toNat).toNat
  else wsg S β p :: rk (sSg S p) :: ((if h : 0 ≤ sFs S p ∧ sFs S p < p then Ksg S β (sFs S p).toNat else []) ++ (if h : 0 ≤ sSn S p ∧ sSn S p < p then Ksg S β (sSn S p).toNat else []))
termination_by p
decreasing_by all_goals omega
theorem Ksg_h {β : Nat → Int} {p : Nat} (h : 200 ≤ sSg S p) : Ksg S β p = KS S (β (sSg S p - 200).toNat).toNat := by rw [Ksg, if_pos h]
theorem Ksg_0 {β : Nat → Int} {t : Nat} (h9 : sSg S t < 200) (h : sFs S t < 0) (h2 : sSn S t < 0) : Ksg S β t = [wsg S β t, rk (sSg S t)] := by
  rw [Ksg, if_neg (by omega), dif_neg (by omega), dif_neg (by omega)]
  rfl
theorem Ksg_1 {β : Nat → Int} {t : Nat} (h9 : sSg S t < 200) (h : 0 ≤ sFs S t ∧ sFs S t < t) (h2 : sSn S t < 0) : Ksg S β t = wsg S β t :: rk (sSg S t) :: Ksg S β (sFs S t).toNat := by
  rw [Ksg, if_neg (by omega), dif_pos h, dif_neg (by omega), List.append_nil]
theorem Ksg_2 {β : Nat → Int} {t : Nat} (h9 : sSg S t < 200) (h : 0 ≤ sFs S t ∧ sFs S t < t) (h2 : 0 ≤ sSn S t ∧ sSn S t < t) : Ksg S β t = wsg S β t :: rk (sSg S t) :: (Ksg S β (sFs S t).toNat ++ Ksg S β (sSn S t).toNat) := by
  rw [Ksg, if_neg (by omega), dif_pos h, dif_pos h2]
theorem Ksg_hd (hT : Tb S) {β : Nat → Int} {p : Nat} (hp : p < sN S) : ∃ r, Ksg S β p = wsg S β p :: r := by
  by_cases h : 200 ≤ sSg S p
  · rw [Ksg_h h, wsg_hole hT hp h]
    exact KS_hd _
  · rw [Ksg, if_neg h]
    exact ⟨_, rfl⟩
theorem Ksg_hd2 {β : Nat → Int} {p : Nat} (h : sSg S p < 200) : ∃ r, Ksg S β p = wsg S β p :: rk (sSg S p) :: r := by
  rw [Ksg, if_neg (by omega)]
  exact ⟨_, rfl⟩
theorem gtL_wt {a b : Int} {x y : List Int} (h : b < a) : gtL (a :: x) (b :: y) := Or.inl h
/-- what is above stays above when holes stand for trees -/
theorem abv_stable (hT : Tb S) {β : Nat → Int} : ∀ (x y : Nat), x < sN S → y < sN S → (∀ h, h < 6 → 0 < cnt S x h → 1 ≤ sWt S (β h).toNat) → abv S x y = true → gtL (Ksg S β x) (Ksg S β y) := by
  intro x
  induction x using Nat.strongRecOn with
  | ind x ih =>
    intro y hx hy hβ hab
    have sx := (hT.2.1 x hx).1
    have sy := (hT.2.1 y hy).1
    have hne : ¬ x = y := fun e => by rw [abv_same e] at hab; cases hab
    have hho : hoS S x y = true := by
      cases e : hoS S x y with
      | true => rfl
      | false => rw [abv_ho hne e] at hab; cases hab
    have hle := hoS_of hho
    have hterm : ∀ h, h < 6 → cnt S y h * (sWt S (β h).toNat - 1) ≤ cnt S x h * (sWt S (β h).toNat - 1) := by
      intro h h6
      have a := hle h h6
      have b := (cnt_in hT hy h).1
      by_cases q : 0 < cnt S x h
      · have := hβ h h6 q
        exact Int.mul_le_mul_of_nonneg_right a (by omega)
      · have e1 : cnt S x h = 0 := by have := (cnt_in hT hx h).1; omega
        have e2 : cnt S y h = 0 := by omega
        rw [e1, e2]
        exact Int.le_refl _
    have hw : sWt S x - sWt S y ≤ wsg S β x - wsg S β y := by
      unfold wsg s6
      have t0 := hterm 0 (by decide)
      have t1 := hterm 1 (by decide)
      have t2 := hterm 2 (by decide)
      have t3 := hterm 3 (by decide)
      have t4 := hterm 4 (by decide)
      have t5 := hterm 5 (by decide)
      show sWt S x - sWt S y ≤ sWt S x + (cnt S x 0 * (sWt S (β 0).toNat - 1) + cnt S x 1 * (sWt S (β 1).toNat - 1) + cnt S x 2 * (sWt S (β 2).toNat - 1) + cnt S x 3 * (sWt S (β 3).toNat - 1) + cnt S x 4 * (sWt S (β 4).toNat - 1) + cnt S x 5 * (sWt S (β 5).toNat - 1)) - (sWt S y + (cnt S y 0 * (sWt S (β 0).toNat - 1) + cnt S y 1 * (sWt S (β 1).toNat - 1) + cnt S y 2 * (sWt S (β 2).toNat - 1) + cnt S y 3 * (sWt S (β 3).toNat - 1) + cnt S y 4 * (sWt S (β 4).toNat - 1) + cnt S y 5 * (sWt S (β 5).toNat - 1)))
      omega
    by_cases hgt : wsg S β y < wsg S β x
    · obtain ⟨r1, e1⟩ := Ksg_hd (β := β) hT hx
      obtain ⟨r2, e2⟩ := Ksg_hd (β := β) hT hy
      rw [e1, e2]
      exact Or.inl hgt
    · by_cases h2 : sWt S x = sWt S y
      · have heq : wsg S β x = wsg S β y := by omega
        by_cases h3 : 200 ≤ sSg S x ∨ 200 ≤ sSg S y
        · rw [abv_hole hne hho h2 h3] at hab; cases hab
        · by_cases h4 : 100 ≤ sSg S x ∨ 100 ≤ sSg S y
          · rw [abv_leaf hne hho h2 h3 h4] at hab
            have hab := of_decide_eq_true hab
            have hr : rk (sSg S y) < rk (sSg S x) := by
              unfold rk
              unfold shp at sx sy
              split <;> split <;> omega
            obtain ⟨ra, ea⟩ := Ksg_hd2 (S := S) (β := β) (p := x) (by omega)
            obtain ⟨rb, eb⟩ := Ksg_hd2 (S := S) (β := β) (p := y) (by omega)
            rw [ea, eb, heq]
            exact Or.inr ⟨rfl, Or.inl hr⟩
          · by_cases h5 : sSg S x = sSg S y
            · unfold shp at sx sy
              have hcx := cnt_node hT hx (by omega)
              by_cases h6 : sFs S x = sFs S y
              · rcases Int.lt_or_le (sSg S x) 6 with q | q
                · exact absurd (hT.2.2 x y hx hy h5 h6 (by omega)) hne
                · rw [abv_snd hne hho h2 (by omega) (by omega) h5 h6 (by omega)] at hab
                  have := ih (sSn S x).toNat (by omega) (sSn S y).toNat (by omega) (by omega) (fun h h6' hc => hβ h h6' (by
                    rw [hcx h, if_pos q]
                    have := (cnt_in hT (j := (sFs S x).toNat) (by omega) h).1
                    omega)) hab
                  rw [Ksg_2 (t := x) (by omega) (by omega) (by omega), Ksg_2 (t := y) (by omega) (by omega) (by omega), heq, h5, h6]
                  exact Or.inr ⟨rfl, Or.inr ⟨rfl, gtL_l _ _ _ this⟩⟩
              · rw [abv_fst hne hho h2 (by omega) (by omega) h5 h6 (by omega)] at hab
                have := ih (sFs S x).toNat (by omega) (sFs S y).toNat (by omega) (by omega) (fun h h6' hc => hβ h h6' (by
                    rw [hcx h]
                    split
                    · have := (cnt_in hT (j := (sSn S x).toNat) (by omega) h).1
                      omega
                    · omega)) hab
                rcases Int.lt_or_le (sSg S x) 6 with q | q
                · rw [Ksg_1 (t := x) (by omega) (by omega) (by omega), Ksg_1 (t := y) (by omega) (by omega) (by omega), heq, h5]
                  exact Or.inr ⟨rfl, Or.inr ⟨rfl, this⟩⟩
                · rw [Ksg_2 (t := x) (by omega) (by omega) (by omega), Ksg_2 (t := y) (by omega) (by omega) (by omega), heq, h5]
                  exact Or.inr ⟨rfl, Or.inr ⟨rfl, gtL_r _ _ _ _ this⟩⟩
            · rw [abv_head hne hho h2 (by omega) (by omega) h5] at hab
              have hab := of_decide_eq_true hab
              have hr : rk (sSg S y) < rk (sSg S x) := by
                unfold rk
                rw [if_pos (by omega), if_pos (by omega)]
                exact hab
              obtain ⟨ra, ea⟩ := Ksg_hd2 (S := S) (β := β) (p := x) (by omega)
              obtain ⟨rb, eb⟩ := Ksg_hd2 (S := S) (β := β) (p := y) (by omega)
              rw [ea, eb, heq]
              exact Or.inr ⟨rfl, Or.inl hr⟩
      · rw [abv_wt hne hho h2] at hab
        have := of_decide_eq_true hab
        omega
/-- a tree that a pattern fits has its row -/
theorem fit_K (hT : Tb S) : ∀ (p t : Nat) (β β' δ : Nat → Int), p < sN S → t < sN S → (∀ h, -1 ≤ β h ∧ β h < sN S) → fitS S p t β = some β' → (∀ h, h < 6 → β' h ≠ -1 → δ h = β' h) → Ksg S δ p = KS S t ∧ wsg S δ p = sWt S t := by
  intro p
  induction p using Nat.strongRecOn with
  | ind p ih =>
    intro t β β' δ hp ht hβ hf hδ
    have sp := (hT.2.1 p hp).1
    have st := (hT.2.1 t ht).1
    by_cases hh : 200 ≤ sSg S p
    · rw [fit_h hh] at hf
      have h6 : (sSg S p - 200).toNat < 6 := by unfold shp at sp; omega
      have e : δ (sSg S p - 200).toNat = (t : Int) := by
        split at hf
        · cases hf
          have := hδ (sSg S p - 200).toNat h6 (by rw [va_eq]; omega)
          rw [this, va_eq]
        · split at hf
          · cases hf
            rename_i a b
            rw [hδ _ h6 a]
            exact b
          · cases hf
      rw [Ksg_h hh, wsg_hole hT hp hh, e, Int.toNat_natCast]
      exact ⟨rfl, rfl⟩
    · by_cases hsg : sSg S p = sSg S t
      · by_cases hlf : 100 ≤ sSg S p
        · have w1 := wsg_leaf (β := δ) hT hp hlf (by omega)
          have w2 := (hT.2.1 t ht).2.1
          rw [nWt_0 (by omega)] at w2
          unfold shp at sp st
          rw [Ksg_0 (by omega) (by omega) (by omega), KS_0 (by omega) (by omega), w1, w2, hsg]
          exact ⟨rfl, rfl⟩
        · have wn := wsg_node (β := δ) hT hp (by omega)
          have wt := (hT.2.1 t ht).2.1
          unfold shp at sp st
          rcases Int.lt_or_le (sSg S p) 6 with h6 | h6
          · rw [fit_1 hsg h6 (by omega)] at hf
            obtain ⟨i1, i2⟩ := ih (sFs S p).toNat (by omega) (sFs S t).toNat β β' δ (by omega) (by omega) hβ hf hδ
            rw [if_neg (by omega), i2] at wn
            rw [nWt_1 (by omega), ← hsg] at wt
            have e : wsg S δ p = sWt S t := by omega
            exact ⟨by rw [Ksg_1 (t := p) (by omega) (by omega) (by omega), KS_1 (t := t) (by omega) (by omega), i1, e, hsg], e⟩
          · rw [fit_2 hsg h6 (by omega) (by omega) (by omega)] at hf
            cases e : fitS S (sFs S p).toNat (sFs S t).toNat β with
            | none => rw [e] at hf; cases hf
            | some b =>
              rw [e] at hf
              obtain ⟨a1, a2, -⟩ := fit_bd hT (sFs S p).toNat (sFs S t).toNat β b (by omega) (by omega) hβ e
              obtain ⟨-, b2, -⟩ := fit_bd hT (sSn S p).toNat (sSn S t).toNat b β' (by omega) (by omega) a1 hf
              obtain ⟨i1, i2⟩ := ih (sFs S p).toNat (by omega) (sFs S t).toNat β b δ (by omega) (by omega) hβ e (fun h h9 hb => by
                have := b2 h hb
                rw [hδ h h9 (by rw [this]; exact hb), this])
              obtain ⟨j1, j2⟩ := ih (sSn S p).toNat (by omega) (sSn S t).toNat b β' δ (by omega) (by omega) a1 hf hδ
              rw [if_pos h6, i2, j2] at wn
              rw [nWt_2 (by omega) (by omega), ← hsg] at wt
              have e : wsg S δ p = sWt S t := by omega
              exact ⟨by rw [Ksg_2 (t := p) (by omega) (by omega) (by omega), KS_2 (t := t) (by omega) (by omega), i1, j1, e, hsg], e⟩
      · rw [fit_ne (by omega) hsg] at hf
        cases hf
end K
theorem mkT_is {S S' : xS} {s a b z : Int} (h : (z, S') = mkT S s a b) (hz : 0 ≤ z) : isT S' s a b z.toNat := by
  unfold mkT at h
  split at h
  · rename_i j hj
    cases h
    exact (fnd_some hj).2
  · split at h
    · cases h; omega
    · cases h
      obtain ⟨n1, n2, n3, -⟩ := psh_new (S := S) (s := s) (a := a) (b := b)
      exact ⟨by rw [Int.toNat_natCast]; exact n1, by rw [Int.toNat_natCast]; exact n2, by rw [Int.toNat_natCast]; exact n3⟩
/-- a tree that was made anew has the row of its parts -/
theorem mk_K {S S' : xS} {s a b z : Int} (hT : Tb S) (hs : shp s a b (sN S)) (h : (z, S') = mkT S s a b) (hz : 0 ≤ z) (hn : s < 100) : Tb S' ∧ (s < 6 → KS S' z.toNat = (1 + c3 s + sWt S a.toNat) :: rk s :: KS S a.toNat) ∧ (6 ≤ s → KS S' z.toNat = (1 + c3 s + sWt S a.toNat + sWt S b.toNat) :: rk s :: (KS S a.toNat ++ KS S b.toNat)) := by
  obtain ⟨g1, g2, g3, g4⟩ := mkT_pos hT hs h
  obtain ⟨i1, i2, i3⟩ := mkT_is h hz
  have hx := mkT_xt h
  have hw := (g1.2.1 z.toNat (by omega)).2.1
  have sz := (g1.2.1 z.toNat (by omega)).1
  rw [i1, i2, i3] at hw sz
  unfold shp at hs sz
  refine ⟨g1, fun q => ?_, fun q => ?_⟩
  · rw [nWt_1 q, (hx.2 a.toNat (by omega)).2.2.2.1] at hw
    rw [KS_1 (by rw [i2]; omega) (by rw [i3]; omega), hw, i1, i2, xt_KS hT hx _ (by omega)]
  · rw [nWt_2 q hn, (hx.2 a.toNat (by omega)).2.2.2.1, (hx.2 b.toNat (by omega)).2.2.2.1] at hw
    rw [KS_2 (by rw [i2]; omega) (by rw [i3]; omega), hw, i1, i2, i3, xt_KS hT hx _ (by omega), xt_KS hT hx _ (by omega)]
theorem bld_K {S0 : xS} {β : Nat → Int} (hT0 : Tb S0) : ∀ (p : Nat) (S : xS) (z : Int) (S' : xS), p < sN S0 → Tb S → xt S0 S → (∀ h, h < 6 → 0 < cnt S0 p h → 0 ≤ β h ∧ β h < sN S0) → (z, S') = bld S0 β p S → 0 ≤ z → KS S' z.toNat = Ksg S0 β p ∧ sWt S' z.toNat = wsg S0 β p := by
  intro p
  induction p using Nat.strongRecOn with
  | ind p ih =>
    intro S z S' hp hT hx hβ e hz
    have hN := hx.1
    have sp := (hT0.2.1 p hp).1
    by_cases hh : 200 ≤ sSg S0 p
    · rw [bld_h hh] at e
      cases e
      have := hβ (sSg S0 p - 200).toNat (by unfold shp at sp; omega) (by have := cnt_hole hT0 hp (h := (sSg S0 p - 200).toNat) (by omega); omega)
      rw [Ksg_h hh, wsg_hole hT0 hp hh]
      exact ⟨xt_KS hT0 hx _ (by omega), (hx.2 _ (by omega)).2.2.2.1⟩
    · by_cases hlf : 100 ≤ sSg S0 p
      · rw [bld_0 hlf (by omega)] at e
        cases e
        have w1 := wsg_leaf (β := β) hT0 hp hlf (by omega)
        have w2 := (hT0.2.1 p hp).2.1
        rw [nWt_0 (by omega)] at w2
        unfold shp at sp
        rw [Int.toNat_natCast, xt_KS hT0 hx p hp, Ksg_0 (by omega) (by omega) (by omega), KS_0 (by omega) (by omega), w1, w2, (hx.2 p hp).2.2.2.1, w2]
        exact ⟨rfl, rfl⟩
      · have hc := cnt_node hT0 hp (by omega)
        have wn := wsg_node (β := β) hT0 hp (by omega)
        unfold shp at sp
        have hbf : ∀ h, h < 6 → 0 < cnt S0 (sFs S0 p).toNat h → 0 ≤ β h ∧ β h < sN S0 := fun h h6 hcc => hβ h h6 (by
          rw [hc h]
          split
          · have := (cnt_in hT0 (j := (sSn S0 p).toNat) (by omega) h).1
            omega
          · omega)
        obtain ⟨⟨a, S1⟩, e1⟩ : ∃ r, r = bld S0 β (sFs S0 p).toNat S := ⟨_, rfl⟩
        obtain ⟨t1, x1, r1, r2⟩ := bld_ok hT0 (sFs S0 p).toNat S a S1 (by omega) hT hx hbf e1
        have hN1 := x1.1
        by_cases ha : a < 0
        · rw [bld_f (by omega) (by omega) e1 ha] at e
          cases e
          omega
        · obtain ⟨i1, i2⟩ := ih (sFs S0 p).toNat (by omega) S a S1 (by omega) hT hx hbf e1 (by omega)
          rcases Int.lt_or_le (sSg S0 p) 6 with h6 | h6
          · rw [bld_1 h6 (by omega) e1 ha] at e
            obtain ⟨-, k1, -⟩ := mk_K t1 (by unfold shp; omega) e hz (by omega)
            have k1 := k1 h6
            rw [if_neg (by omega), Int.add_zero] at wn
            have e9 : KS S' z.toNat = Ksg S0 β p := by rw [k1, Ksg_1 (t := p) (by omega) (by omega) (by omega), i1, i2, wn]
            refine ⟨e9, ?_⟩
            obtain ⟨r, hr⟩ := KS_hd (S := S') z.toNat
            rw [k1] at hr
            have := (List.cons.inj hr).1
            omega
          · have hbs : ∀ h, h < 6 → 0 < cnt S0 (sSn S0 p).toNat h → 0 ≤ β h ∧ β h < sN S0 := fun h h6' hcc => hβ h h6' (by
              rw [hc h, if_pos h6]
              have := (cnt_in hT0 (j := (sFs S0 p).toNat) (by omega) h).1
              omega)
            obtain ⟨⟨b, S2⟩, e2⟩ : ∃ r, r = bld S0 β (sSn S0 p).toNat S1 := ⟨_, rfl⟩
            obtain ⟨t2, x2, q1, q2⟩ := bld_ok hT0 (sSn S0 p).toNat S1 b S2 (by omega) t1 (xt_trans hx x1) hbs e2
            have hN2 := x2.1
            by_cases hb : b < 0
            · rw [bld_2f h6 (by omega) (by omega) (by omega) e1 ha e2 hb] at e
              cases e
              omega
            · obtain ⟨j1, j2⟩ := ih (sSn S0 p).toNat (by omega) S1 b S2 (by omega) t1 (xt_trans hx x1) hbs e2 (by omega)
              rw [bld_2 h6 (by omega) (by omega) (by omega) e1 ha e2 hb] at e
              obtain ⟨-, -, k1⟩ := mk_K t2 (by unfold shp; omega) e hz (by omega)
              have k1 := k1 h6
              rw [if_pos h6] at wn
              have ea := xt_KS t1 x2 a.toNat (by omega)
              have ew := (x2.2 a.toNat (by omega)).2.2.2.1
              have e9 : KS S' z.toNat = Ksg S0 β p := by rw [k1, Ksg_2 (t := p) (by omega) (by omega) (by omega), ea, ew, i1, i2, j1, j2, wn]
              refine ⟨e9, ?_⟩
              obtain ⟨r, hr⟩ := KS_hd (S := S') z.toNat
              rw [k1] at hr
              have := (List.cons.inj hr).1
              omega
theorem gtL_hd {S S' : xS} {x y : Nat} (h : gtL (KS S x) (KS S' y)) : sWt S' y ≤ sWt S x := by
  obtain ⟨r1, e1⟩ := KS_hd (S := S) x
  obtain ⟨r2, e2⟩ := KS_hd (S := S') y
  rw [e1, e2] at h
  rcases h with h | ⟨h, -⟩ <;> omega
theorem up_K {S0 : xS} (hT0 : Tb S0) {r : Nat} (hr : r < sN S0) : ∀ (p : List (Nat × Bool × Nat)) (x pos : Nat) (t : Int) (S : xS) (z : Int) (S' : xS), PT S0 r p x pos → Tb S → xt S0 S → 0 ≤ t ∧ t < sN S → gtL (KS S0 x) (KS S t.toNat) → (z, S') = upP S0 p t S → 0 ≤ z → gtL (KS S0 r) (KS S' z.toNat) := by
  intro p
  induction p with
  | nil =>
    intro x pos t S z S' hPT hT _ ht hg e hz
    cases e
    rw [← hPT.1]
    exact hg
  | cons a p ih =>
    intro x pos t S z S' hPT hT hx ht hg e hz
    obtain ⟨y, b, k⟩ := a
    have hs := PT_shp hT0 hx hr hPT ht
    obtain ⟨⟨v, S1⟩, e1⟩ : ∃ q, q = mkT S (sSg S0 y) (if b then sFs S0 y else t) (if b then t else sSn S0 y) := ⟨_, rfl⟩
    obtain ⟨g1, g2, g3, g4⟩ := mkT_pos hT hs e1
    have hy := (PT_lt hT0 hr p y k hPT.1).1
    have hNN := hx.1
    have sy := (hT0.2.1 y hy).1
    have wy := (hT0.2.1 y hy).2.1
    have hwle := gtL_hd hg
    by_cases h : v < 0
    · rw [up_f e1 h] at e
      cases e
      omega
    · rw [up_g e1 h] at e
      refine ih y k v S1 z S' hPT.1 g1 (xt_trans hx (mkT_xt e1)) (by omega) ?_ e hz
      obtain ⟨-, k1, k2⟩ := mk_K hT hs e1 (by omega) hPT.2.1
      have hn := hPT.2.1
      unfold shp at sy
      rcases hPT.2.2 with ⟨rfl, rfl, -⟩ | ⟨rfl, h6, rfl, -⟩
      · simp only [Bool.false_eq_true, if_false] at k1 k2
        rcases Int.lt_or_le (sSg S0 y) 6 with q | q
        · rw [k1 q, KS_1 (t := y) (by omega) (by omega)]
          rw [nWt_1 q] at wy
          by_cases e9 : sWt S t.toNat = sWt S0 (sFs S0 y).toNat
          · exact Or.inr ⟨by omega, Or.inr ⟨rfl, hg⟩⟩
          · exact Or.inl (by omega)
        · rw [k2 q, KS_2 (t := y) (by omega) (by omega)]
          rw [nWt_2 q hn] at wy
          have ew := (hx.2 (sSn S0 y).toNat (by omega)).2.2.2.1
          by_cases e9 : sWt S t.toNat = sWt S0 (sFs S0 y).toNat
          · exact Or.inr ⟨by omega, Or.inr ⟨rfl, gtL_r _ _ _ _ hg⟩⟩
          · exact Or.inl (by omega)
      · simp only [if_true] at k1 k2
        rw [k2 h6, KS_2 (t := y) (by omega) (by omega)]
        rw [nWt_2 h6 hn] at wy
        have ew := (hx.2 (sFs S0 y).toNat (by omega)).2.2.2.1
        rw [xt_KS hT0 hx _ (by omega)]
        by_cases e9 : sWt S t.toNat = sWt S0 (sSn S0 y).toNat
        · exact Or.inr ⟨by omega, Or.inr ⟨rfl, gtL_l _ _ _ hg⟩⟩
        · exact Or.inl (by omega)
theorem stp_K {S : xS} {n : Nat} {rl rr : Nat → Int} {us : Nat → Bool} (hT : Tb S) (hR : RG S n rl rr) (hus : ∀ r, r < n → us r = true → abv S (rl r).toNat (rr r).toNat = true) {t : Nat} (ht : t < sN S) (hc : fnS S (lowR S n rl us) t ≠ -1) {z : Int} {S' : xS} (e : (z, S') = stp S n rl rr us t) (hz : 0 ≤ z) : gtL (KS S t) (KS S' z.toNat) := by
  obtain ⟨h1, h2, h3, h4, h5, h6, h7, h8, h9⟩ := stp_at hT hR ht hc
  obtain ⟨⟨a1, a2, a3⟩, ⟨b1, b2⟩, c⟩ := hR _ h5
  obtain ⟨⟨b, S1⟩, eb⟩ : ∃ r, r = byT S n rl rr us t := ⟨_, rfl⟩
  obtain ⟨k1, k2, k3, k4⟩ := bld_ok hT _ S b S1 (by omega) hT (xt_refl S) h8 eb
  obtain ⟨c1, c2, c3⟩ := fit_bd hT _ _ _ _ (by omega) h2 (fun h => ⟨by omega, by omega⟩) h7
  unfold stp at e
  rw [← eb] at e
  by_cases q : b < 0
  · rw [if_pos q] at e
    cases e
    omega
  · rw [if_neg q] at e
    have hK := bld_K hT _ S b S1 (by omega) hT (xt_refl S) h8 eb (by omega)
    have hL := fit_K hT _ _ _ _ (bdT S n rl us t) (by omega) h2 (fun h => ⟨by omega, by omega⟩) h7 (fun h _ _ => rfl)
    have hst := abv_stable (β := bdT S n rl us t) hT _ _ (by omega) (by omega) (fun h h6' hcc => by
      have d1 := c3 h h6' hcc
      have d2 := c1 h
      have := (hT.2.1 (bdT S n rl us t h).toNat (by omega)).2.2.2.2.2
      omega) (hus _ h5 h6)
    rw [hL.1, ← hK.1] at hst
    exact up_K hT ht _ _ _ b S1 z S' h1 k1 k2 (by omega) hst e hz
/-! so a run by such rules never comes to a tree twice -/
theorem pig : ∀ (N : Nat) (l : List Nat), l.Nodup → (∀ x ∈ l, x < N) → l.length ≤ N := by
  intro N
  induction N with
  | zero =>
    intro l _ h
    cases l with
    | nil => exact Nat.le_refl _
    | cons x l => have := h x List.mem_cons_self; omega
  | succ N ih =>
    intro l hn h
    have h1 := ih (l.filter (fun x => decide (x ≠ N))) (hn.filter _) (fun x hx => by
      have a := List.mem_filter.mp hx
      have := h x a.1
      have := of_decide_eq_true a.2
      omega)
    have h2 : l.length ≤ (l.filter (fun x => decide (x ≠ N))).length + 1 := by
      clear h1 h ih
      induction l with
      | nil => simp
      | cons x l ih =>
        have hn' := List.nodup_cons.mp hn
        by_cases e : x = N
        · subst e
          have : l.filter (fun y => decide (y ≠ x)) = l := List.filter_eq_self.mpr (fun y hy => decide_eq_true (fun e => hn'.1 (by rw [← e]; exact hy)))
          rw [List.filter_cons, if_neg (by simp), this, List.length_cons]
          exact Nat.le_refl _
        · have := ih hn'.2
          rw [List.filter_cons, if_pos (by simp [e]), List.length_cons, List.length_cons]
          omega
    omega
def CHN (S : xS) (t : Nat) (acc : List (Nat × Nat × Nat × Nat)) : Prop := (acc.map (fun q => q.2.2.1)).Nodup ∧ ∀ a ∈ acc.map (fun q => q.2.2.1), a < sN S ∧ gtL (KS S a) (KS S t)
theorem chn_len {S : xS} (hT : Tb S) {t : Nat} {acc : List (Nat × Nat × Nat × Nat)} (h : CHN S t acc) : acc.length ≤ 300 := by
  have := pig (sN S) _ h.1 (fun x hx => (h.2 x hx).1)
  have := hT.1
  rw [List.length_map] at *
  omega
theorem chn_add {S S' : xS} (hT : Tb S) (hx : xt S S') {t z : Nat} (ht : t < sN S) {acc : List (Nat × Nat × Nat × Nat)} (h : CHN S t acc) (hg : gtL (KS S t) (KS S' z)) {r p b : Nat} : CHN S' z (acc ++ [(r, p, t, b)]) := by
  have hN := hx.1
  unfold CHN
  rw [List.map_append]
  refine ⟨?_, fun a ha => ?_⟩
  · rw [List.nodup_append]
    refine ⟨h.1, List.nodup_cons.mpr ⟨by simp, List.nodup_nil⟩, fun a ha b hb e => ?_⟩
    have hb' : b = t := by simpa using hb
    subst hb'
    subst e
    exact gtL_irr _ (h.2 a ha).2
  · rcases List.mem_append.mp ha with ha | ha
    · obtain ⟨a1, a2⟩ := h.2 a ha
      exact ⟨by omega, gtL_tr _ _ _ (by rw [xt_KS hT hx a a1]; exact a2) hg⟩
    · have : a = t := by simpa using ha
      subst this
      exact ⟨by omega, by rw [xt_KS hT hx a ht]; exact hg⟩
