/-! how the system holds the table -/
def slot (s a b : Int) : Int := ((um s * 31 + a) * 31 + b) % 512
def slS (S : xS) (j : Nat) : Int := slot (sSg S j) (sFs S j) (sSn S j)
/-- v is the greatest tree below t of the slot q, or -1 -/
def hdS (S : xS) (q : Int) (t : Nat) (v : Int) : Prop := (v = -1 ∧ ∀ i, i < t → slS S i ≠ q) ∨ (0 ≤ v ∧ v < t ∧ slS S v.toNat = q ∧ ∀ i : Nat, v < i → i < t → slS S i ≠ q)
def TC (S : xS) (mk fs sn wt pl dp ho hc nw od : Nat → Int) : Prop :=
  (∀ j, j < sN S → mk j = um (sSg S j) ∧ fs j = sFs S j ∧ sn j = sSn S j ∧ wt j = sWt S j ∧ pl j = sPl S j ∧ dp j = sDp S j ∧ ho j = sHo S j) ∧
  (∀ j h, j < sN S → h < 6 → hc (j * 6 + h) = cnt S j h) ∧
  (∀ j, (-200 ≤ mk j ∧ mk j ≤ 200) ∧ (-1 ≤ fs j ∧ fs j < 300) ∧ (-1 ≤ sn j ∧ sn j < 300) ∧ (0 ≤ wt j ∧ wt j ≤ 1000) ∧ (0 ≤ pl j ∧ pl j ≤ 1000) ∧ (0 ≤ dp j ∧ dp j ≤ 30) ∧ (0 ≤ ho j ∧ ho j < 64) ∧ (0 ≤ hc j ∧ hc j ≤ 1000) ∧ (-1 ≤ nw j ∧ nw j < 300) ∧ (-1 ≤ od j ∧ od j < 300)) ∧
  (∀ q : Nat, q < 512 → hdS S q (sN S) (nw q)) ∧ (∀ j, j < sN S → hdS S (slS S j) j (od j))
def CT (ad : Nat → Nat) (cA : Nat → ClassId) (w : Nat → va_E) (S : xS) : Prop := ∃ mk fs sn wt pl dp ho hc nw od : Nat → Int, w 1 = trO ad (sN S : Int) ∧ w 2 = xIA (cA 0) 300 mk ∧ w 3 = xIA (cA 0) 300 fs ∧ w 4 = xIA (cA 0) 300 sn ∧ w 5 = xIA (cA 0) 300 wt ∧ w 6 = xIA (cA 0) 300 pl ∧ w 7 = xIA (cA 0) 300 dp ∧ w 8 = xIA (cA 0) 300 ho ∧ w 9 = xIA (cA 0) 1800 hc ∧ w 10 = xIA (cA 0) 512 nw ∧ w 11 = xIA (cA 0) 300 od ∧ TC S mk fs sn wt pl dp ho hc nw od
theorem nWt_same {f f' : Nat → Int} {s a b : Int} {j : Nat} (h : ∀ i, i < j → f' i = f i) (hs : shp s a b j) : nWt f' s a b = nWt f s a b := by
  unfold shp at hs
  rcases hs with q | q | q | q
  · rw [nWt_0 (by omega), nWt_0 (by omega)]
  · rw [nWt_0 (by omega), nWt_0 (by omega)]
  · rw [nWt_1 (by omega), nWt_1 (by omega), h a.toNat (by omega)]
  · rw [nWt_2 (by omega) (by omega), nWt_2 (by omega) (by omega), h a.toNat (by omega), h b.toNat (by omega)]
theorem nPl_same {f f' : Nat → Int} {s a b : Int} {j : Nat} (h : ∀ i, i < j → f' i = f i) (hs : shp s a b j) : nPl f' s a b = nPl f s a b := by
  unfold shp at hs
  rcases hs with q | q | q | q
  · rw [nPl_0 (by omega), nPl_0 (by omega)]
  · rw [nPl_0 (by omega), nPl_0 (by omega)]
  · rw [nPl_1 (by omega), nPl_1 (by omega), h a.toNat (by omega)]
  · rw [nPl_2 (by omega) (by omega), nPl_2 (by omega) (by omega), h a.toNat (by omega), h b.toNat (by omega)]
theorem nDp_same {f f' : Nat → Int} {s a b : Int} {j : Nat} (h : ∀ i, i < j → f' i = f i) (hs : shp s a b j) : nDp f' s a b = nDp f s a b := by
  unfold shp at hs
  rcases hs with q | q | q | q
  · rw [nDp_0 (by omega), nDp_0 (by omega)]
  · rw [nDp_0 (by omega), nDp_0 (by omega)]
  · rw [nDp_1 (by omega), nDp_1 (by omega), h a.toNat (by omega)]
  · rw [nDp_2 (by omega) (by omega), nDp_2 (by omega) (by omega), h a.toNat (by omega), h b.toNat (by omega)]
theorem shp_mono {s a b : Int} {j k : Nat} (h : shp s a b j) (hk : j ≤ k) : shp s a b k := by
  unfold shp at *
  omega
theorem va_ne {α : Type} {f : Nat → α} {k j : Nat} {v : α} (h : j ≠ k) : va_up f k v j = f j := by simp [va_up, h]
theorem va_eq {α : Type} {f : Nat → α} {k : Nat} {v : α} : va_up f k v k = v := by simp [va_up]
section Push
variable {S : xS} {s a b : Int}
theorem psh_old (j : Nat) (hj : j < sN S) : sSg (psh S s a b) j = sSg S j ∧ sFs (psh S s a b) j = sFs S j ∧ sSn (psh S s a b) j = sSn S j ∧ sWt (psh S s a b) j = sWt S j ∧ sPl (psh S s a b) j = sPl S j ∧ sDp (psh S s a b) j = sDp S j ∧ sHo (psh S s a b) j = sHo S j := by
  have : j ≠ sN S := by omega
  exact ⟨va_ne this, va_ne this, va_ne this, va_ne this, va_ne this, va_ne this, va_ne this⟩
theorem psh_new : sSg (psh S s a b) (sN S) = s ∧ sFs (psh S s a b) (sN S) = a ∧ sSn (psh S s a b) (sN S) = b ∧ sWt (psh S s a b) (sN S) = nWt (sWt S) s a b ∧ sPl (psh S s a b) (sN S) = nPl (sPl S) s a b ∧ sDp (psh S s a b) (sN S) = nDp (sDp S) s a b ∧ sHo (psh S s a b) (sN S) = nHo S s a b :=
  ⟨va_eq, va_eq, va_eq, va_eq, va_eq, va_eq, va_eq⟩
theorem psh_cnt (j h : Nat) (hj : j < sN S) : cnt (psh S s a b) j h = cnt S j h := cnt_same (fun i hi => (psh_old i hi).1) (fun i hi => (psh_old i hi).2.1) (fun i hi => (psh_old i hi).2.2.1) j h hj
theorem psh_cntN (hs : shp s a b (sN S)) (h : Nat) : cnt (psh S s a b) (sN S) h = cntN S s a b h := by
  obtain ⟨e1, e2, e3, -⟩ := psh_new (S := S) (s := s) (a := a) (b := b)
  have ha := shp_a hs
  rw [cnt_eq (by rw [e1, e2, e3]; exact hs), e1, e2, e3]
  unfold cntN
  congr 1
  · congr 1
    split
    · rfl
    · exact psh_cnt _ _ (by omega)
  · split
    · rfl
    · exact psh_cnt _ _ (by omega)
theorem tb_push (hT : Tb S) (hs : shp s a b (sN S)) (hf : fnd S s a b = none) (hl : ¬ (300 ≤ sN S ∨ 1000 < nWt (sWt S) s a b ∨ 30 < nDp (sDp S) s a b)) : Tb (psh S s a b) := by
  obtain ⟨h1, h2, h3⟩ := hT
  refine ⟨by show sN S + 1 ≤ 300; omega, fun j hj => ?_, fun i j hi hj e1 e2 e3 => ?_⟩
  · by_cases hjt : j = sN S
    · subst hjt
      obtain ⟨n1, n2, n3, n4, n5, n6, n7⟩ := psh_new (S := S) (s := s) (a := a) (b := b)
      have W : ∀ i, i < sN S → sWt (psh S s a b) i = sWt S i := fun i hi => (psh_old i hi).2.2.2.1
      have P : ∀ i, i < sN S → sPl (psh S s a b) i = sPl S i := fun i hi => (psh_old i hi).2.2.2.2.1
      have Dd : ∀ i, i < sN S → sDp (psh S s a b) i = sDp S i := fun i hi => (psh_old i hi).2.2.2.2.2.1
      refine ⟨by rw [n1, n2, n3]; exact hs, by rw [n1, n2, n3, n4, nWt_same W hs], by rw [n1, n2, n3, n5, nPl_same P hs], by rw [n1, n2, n3, n6, nDp_same Dd hs], ?_, ?_⟩
      · rw [n7]
        unfold nHo
        congr 1
        funext h
        rw [psh_cntN hs]
      · rw [n4, n5, n6]
        have hl1 : ¬ 1000 < nWt (sWt S) s a b := fun q => hl (Or.inr (Or.inl q))
        have hl2 : ¬ 30 < nDp (sDp S) s a b := fun q => hl (Or.inr (Or.inr q))
        have h3s := c3_in s
        unfold shp at hs
        rcases hs with q | q | q | q
        · rw [nWt_0 (by omega), nPl_0 (by omega), nDp_0 (by omega)]; omega
        · rw [nWt_0 (by omega), nPl_0 (by omega), nDp_0 (by omega)]; omega
        · obtain ⟨-, -, -, -, -, b1⟩ := h2 a.toNat (by omega)
          rw [nWt_1 (by omega)] at hl1 ⊢
          rw [nDp_1 (by omega)] at hl2 ⊢
          rw [nPl_1 (by omega)]
          omega
        · obtain ⟨-, -, -, -, -, b1⟩ := h2 a.toNat (by omega)
          obtain ⟨-, -, -, -, -, b2⟩ := h2 b.toNat (by omega)
          rw [nWt_2 (by omega) (by omega)] at hl1 ⊢
          rw [nDp_2 (by omega) (by omega)] at hl2 ⊢
          rw [nPl_2 (by omega) (by omega)]
          omega
    · have hj : j < sN S := by have : j < sN S + 1 := hj; omega
      obtain ⟨o1, o2, o3, o4, o5, o6, o7⟩ := psh_old (S := S) (s := s) (a := a) (b := b) j hj
      obtain ⟨k1, k2, k3, k4, k5, k6⟩ := h2 j hj
      have W : ∀ i, i < j → sWt (psh S s a b) i = sWt S i := fun i hi => (psh_old i (by omega)).2.2.2.1
      have P : ∀ i, i < j → sPl (psh S s a b) i = sPl S i := fun i hi => (psh_old i (by omega)).2.2.2.2.1
      have Dd : ∀ i, i < j → sDp (psh S s a b) i = sDp S i := fun i hi => (psh_old i (by omega)).2.2.2.2.2.1
      refine ⟨by rw [o1, o2, o3]; exact k1, by rw [o1, o2, o3, o4, nWt_same W k1]; exact k2, by rw [o1, o2, o3, o5, nPl_same P k1]; exact k3, by rw [o1, o2, o3, o6, nDp_same Dd k1]; exact k4, ?_, by rw [o4, o5, o6]; exact k6⟩
      rw [o7, k5]
      congr 1
      funext h
      rw [psh_cnt _ _ hj]
  · have hi : i < sN S + 1 := hi
    have hj : j < sN S + 1 := hj
    obtain ⟨n1, n2, n3, -⟩ := psh_new (S := S) (s := s) (a := a) (b := b)
    by_cases hit : i = sN S
    · by_cases hjt : j = sN S
      · omega
      · obtain ⟨o1, o2, o3, -⟩ := psh_old (S := S) (s := s) (a := a) (b := b) j (by omega)
        rw [hit, n1, o1] at e1
        rw [hit, n2, o2] at e2
        rw [hit, n3, o3] at e3
        exact absurd ⟨e1.symm, e2.symm, e3.symm⟩ (fnd_none hf j (by omega))
    · obtain ⟨p1, p2, p3, -⟩ := psh_old (S := S) (s := s) (a := a) (b := b) i (by omega)
      by_cases hjt : j = sN S
      · rw [hjt, n1, p1] at e1
        rw [hjt, n2, p2] at e2
        rw [hjt, n3, p3] at e3
        exact absurd ⟨e1, e2, e3⟩ (fnd_none hf i (by omega))
      · obtain ⟨o1, o2, o3, -⟩ := psh_old (S := S) (s := s) (a := a) (b := b) j (by omega)
        exact h3 i j (by omega) (by omega) (by rw [← p1, ← o1]; exact e1) (by rw [← p2, ← o2]; exact e2) (by rw [← p3, ← o3]; exact e3)
end Push
theorem slot_in (s a b : Int) : 0 ≤ slot s a b ∧ slot s a b < 512 := by
  unfold slot
  omega
theorem hbS_64 (f : Nat → Bool) : 0 ≤ hbS f 6 ∧ hbS f 6 < 64 := hbS_in f 6
theorem tc_push {S : xS} {s a b : Int} {mk fs sn wt pl dp ho hc nw od hc' : Nat → Int} (h : TC S mk fs sn wt pl dp ho hc nw od) (hT : Tb S) (hs : shp s a b (sN S)) (hf : fnd S s a b = none) (hl : ¬ (300 ≤ sN S ∨ 1000 < nWt (sWt S) s a b ∨ 30 < nDp (sDp S) s a b))
    (hn : ∀ i, i < 6 → hc' (sN S * 6 + i) = cntN S s a b i) (ho' : ∀ j, (j < sN S * 6 ∨ sN S * 6 + 6 ≤ j) → hc' j = hc j) :
    TC (psh S s a b) (va_up mk (sN S) (um s)) (va_up fs (sN S) a) (va_up sn (sN S) b) (va_up wt (sN S) (nWt (sWt S) s a b)) (va_up pl (sN S) (nPl (sPl S) s a b)) (va_up dp (sN S) (nDp (sDp S) s a b)) (va_up ho (sN S) (nHo S s a b)) hc' (va_up nw (slot s a b).toNat (sN S : Int)) (va_up od (sN S) (nw (slot s a b).toNat)) := by
  have hT' := tb_push hT hs hf hl
  obtain ⟨h1, h2, h3, h4, h5⟩ := h
  have hsl := slot_in s a b
  obtain ⟨n1, n2, n3, n4, n5, n6, n7⟩ := psh_new (S := S) (s := s) (a := a) (b := b)
  have slN : slS (psh S s a b) (sN S) = slot s a b := by unfold slS; rw [n1, n2, n3]
  have slO : ∀ i, i < sN S → slS (psh S s a b) i = slS S i := fun i hi => by
    obtain ⟨o1, o2, o3, -⟩ := psh_old (S := S) (s := s) (a := a) (b := b) i hi
    unfold slS
    rw [o1, o2, o3]
  have hdO : ∀ (q : Int) (t : Nat) (v : Int), t ≤ sN S → hdS S q t v → hdS (psh S s a b) q t v := by
    intro q t v ht hv
    rcases hv with ⟨e, hv⟩ | ⟨e1, e2, e3, e4⟩
    · exact Or.inl ⟨e, fun i hi => by rw [slO i (by omega)]; exact hv i hi⟩
    · exact Or.inr ⟨e1, e2, by rw [slO _ (by omega)]; exact e3, fun i g1 g2 => by rw [slO i (by omega)]; exact e4 i g1 g2⟩
  refine ⟨fun j hj => ?_, fun j i hj hi => ?_, fun j => ?_, fun q hq => ?_, fun j hj => ?_⟩
  · by_cases hjt : j = sN S
    · subst hjt
      exact ⟨by rw [va_eq, n1], by rw [va_eq, n2], by rw [va_eq, n3], by rw [va_eq, n4], by rw [va_eq, n5], by rw [va_eq, n6], by rw [va_eq, n7]⟩
    · have hj : j < sN S := by have : j < sN S + 1 := hj; omega
      obtain ⟨o1, o2, o3, o4, o5, o6, o7⟩ := psh_old (S := S) (s := s) (a := a) (b := b) j hj
      obtain ⟨k1, k2, k3, k4, k5, k6, k7⟩ := h1 j hj
      exact ⟨by rw [va_ne hjt, o1, k1], by rw [va_ne hjt, o2, k2], by rw [va_ne hjt, o3, k3], by rw [va_ne hjt, o4, k4], by rw [va_ne hjt, o5, k5], by rw [va_ne hjt, o6, k6], by rw [va_ne hjt, o7, k7]⟩
  · by_cases hjt : j = sN S
    · subst hjt
      rw [hn i hi, psh_cntN hs]
    · have hj : j < sN S := by have : j < sN S + 1 := hj; omega
      rw [ho' _ (Or.inl (by omega)), psh_cnt _ _ hj]
      exact h2 j i hj hi
  · obtain ⟨r1, r2, r3, r4, r5, r6, r7, r8, r9, r10⟩ := h3 j
    have hum := um_in hs
    have hab := shp_a hs
    obtain ⟨-, -, -, -, -, bb⟩ := hT'.2.1 (sN S) (by show sN S < sN S + 1; omega)
    rw [n4, n5, n6] at bb
    have hh := hbS_64 (fun h => decide (0 < cntN S s a b h))
    have r9' := (h3 (slot s a b).toNat).2.2.2.2.2.2.2.2.1
    have hc1 : 0 ≤ hc' j ∧ hc' j ≤ 1000 := by
      by_cases hj : j < sN S * 6 ∨ sN S * 6 + 6 ≤ j
      · rw [ho' j hj]; exact r8
      · have hx := hn (j - sN S * 6) (by omega)
        rw [show sN S * 6 + (j - sN S * 6) = j by omega] at hx
        rw [hx, ← psh_cntN hs]
        exact cnt_in hT' (by show sN S < sN S + 1; omega) _
    refine ⟨?_, ?_, ?_, ?_, ?_, ?_, ?_, hc1, ?_, ?_⟩
    · unfold va_up; split <;> omega
    · unfold va_up; split <;> omega
    · unfold va_up; split <;> omega
    · unfold va_up; split <;> omega
    · unfold va_up; split <;> omega
    · unfold va_up; split <;> omega
    · unfold va_up nHo; split <;> omega
    · unfold va_up; split <;> omega
    · unfold va_up; split <;> omega
  · show hdS (psh S s a b) q (sN S + 1) _
    by_cases hqs : q = (slot s a b).toNat
    · subst hqs
      rw [va_eq]
      refine Or.inr ⟨by omega, by omega, ?_, fun i g1 g2 => by omega⟩
      rw [show ((sN S : Int)).toNat = sN S by omega, slN]
      omega
    · rw [va_ne hqs]
      rcases h4 q hq with ⟨e, hv⟩ | ⟨e1, e2, e3, e4⟩
      · refine Or.inl ⟨e, fun i hi => ?_⟩
        by_cases hit : i = sN S
        · rw [hit, slN]; omega
        · rw [slO i (by omega)]; exact hv i (by omega)
      · refine Or.inr ⟨e1, by omega, by rw [slO _ (by omega)]; exact e3, fun i g1 g2 => ?_⟩
        by_cases hit : i = sN S
        · rw [hit, slN]; omega
        · rw [slO i (by omega)]; exact e4 i g1 (by omega)
  · by_cases hjt : j = sN S
    · subst hjt
      rw [va_eq, slN]
      have := h4 (slot s a b).toNat (by omega)
      rw [show (((slot s a b).toNat : Nat) : Int) = slot s a b by omega] at this
      exact hdO _ _ _ (Nat.le_refl _) this
    · have hj : j < sN S := by have : j < sN S + 1 := hj; omega
      rw [va_ne hjt, slO j hj]
      exact hdO _ _ _ (by omega) (h5 j hj)
