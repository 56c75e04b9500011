theorem ly_end {S : xS} (hT : Tb S) {t : Nat} (ht : t < sN S) {k y : Nat} (h : (lyS S t)[k]? = some y) : k + (lyS S y).length ≤ (lyS S t).length := by
  obtain ⟨r, hr⟩ := ly_sub hT t ht k y h
  have h1 := congrArg List.length hr
  have h2 := (List.getElem?_eq_some_iff.mp h).1
  rw [List.length_drop, List.length_append] at h1
  omega
theorem ly_kid {S : xS} (hT : Tb S) {t : Nat} (ht : t < sN S) {k y : Nat} (h : (lyS S t)[k]? = some y) (hn : sSg S y < 100) : ∀ i, i < (lyS S (sFs S y).toNat).length → (lyS S t)[k + 1 + i]? = (lyS S (sFs S y).toNat)[i]? := by
  intro i hi
  obtain ⟨r, hr⟩ := ly_sub hT t ht k y h
  have hy := ly_mem hT ht h
  have hs := (hT.2.1 y hy).1
  rw [ly_n hs] at hr
  unfold shp at hs
  rw [if_neg (by omega)] at hr
  rw [show k + 1 + i = k + (1 + i) by omega, ← List.getElem?_drop, hr, Nat.add_comm 1 i, List.cons_append, List.getElem?_cons_succ, List.append_assoc, List.getElem?_append_left hi]
theorem ly_span {S : xS} (hT : Tb S) {t : Nat} (ht : t < sN S) {k k2 y y2 : Nat} (h : (lyS S t)[k]? = some y) (hn : sSg S y < 100) (h1 : k < k2) (h2 : k2 < k + 1 + (lyS S (sFs S y).toNat).length) (h3 : (lyS S t)[k2]? = some y2) : k2 + (lyS S y2).length ≤ k + 1 + (lyS S (sFs S y).toNat).length := by
  have hy := ly_mem hT ht h
  have hs := (hT.2.1 y hy).1
  have e := ly_kid hT ht h hn (k2 - (k + 1)) (by omega)
  rw [show k + 1 + (k2 - (k + 1)) = k2 by omega, h3] at e
  have := ly_end hT (t := (sFs S y).toNat) (by unfold shp at hs; omega) e.symm
  omega
theorem ly_node {S : xS} (hT : Tb S) {y : Nat} (hy : y < sN S) (hn : sSg S y < 100) : 2 ≤ (lyS S y).length ∧ (sSg S y < 6 → (lyS S y).length = 1 + (lyS S (sFs S y).toNat).length) ∧ (6 ≤ sSg S y → (lyS S y).length = 1 + (lyS S (sFs S y).toNat).length + (lyS S (sSn S y).toNat).length) := by
  have hs := (hT.2.1 y hy).1
  have h1 := ly_pos S (sFs S y).toNat
  have e := congrArg List.length (ly_n hs)
  unfold shp at hs
  rw [if_neg (by omega), List.length_cons, List.length_append] at e
  refine ⟨by omega, fun q => ?_, fun q => ?_⟩
  · rw [if_pos (by omega), List.length_nil] at e; omega
  · rw [if_neg (by omega)] at e; omega
/-- around each place of the first k the place it is a part of -/
def ARD (S : xS) (t : Nat) (g : Nat → Int) (k : Nat) : Prop := g 0 = -1 ∧ ∀ i y, i < k → (lyS S t)[i]? = some y → (sSg S y < 100 → g (i + 1) = (i : Int)) ∧ (6 ≤ sSg S y → sSg S y < 100 → g (i + 1 + (lyS S (sFs S y).toNat).length) = (i : Int))
theorem ard_far {S : xS} (hT : Tb S) {t : Nat} (ht : t < sN S) {k x i y : Nat} (hx : (lyS S t)[k]? = some x) (hn : sSg S x < 100) (hi : i < k) (hy : (lyS S t)[i]? = some y) (hny : sSg S y < 100) : i + 1 ≠ k + 1 ∧ i + 1 ≠ k + 1 + (lyS S (sFs S x).toNat).length ∧ i + 1 + (lyS S (sFs S y).toNat).length ≠ k + 1 ∧ (6 ≤ sSg S x → i + 1 + (lyS S (sFs S y).toNat).length ≠ k + 1 + (lyS S (sFs S x).toNat).length) := by
  have hxN := ly_mem hT ht hx
  obtain ⟨l1, l2, l3⟩ := ly_node hT hxN hn
  have l4 := ly_pos S (sSn S x).toNat
  by_cases q : k < i + 1 + (lyS S (sFs S y).toNat).length
  · have := ly_span hT ht hy hny hi q hx
    refine ⟨by omega, by omega, by omega, fun h6 => ?_⟩
    have := l3 h6
    omega
  · exact ⟨by omega, by omega, by omega, fun h6 => by omega⟩
theorem ard_0 {S : xS} {t : Nat} {g : Nat → Int} {k x : Nat} (h : ARD S t g k) (hx : (lyS S t)[k]? = some x) (hn : ¬ sSg S x < 100) : ARD S t g (k + 1) := by
  refine ⟨h.1, fun i y hi hy => ?_⟩
  by_cases e : i = k
  · subst e
    rw [hx] at hy
    cases hy
    exact ⟨fun q => absurd q hn, fun _ q => absurd q hn⟩
  · exact h.2 i y (by omega) hy
theorem ard_1 {S : xS} (hT : Tb S) {t : Nat} (ht : t < sN S) {g : Nat → Int} {k x : Nat} (h : ARD S t g k) (hx : (lyS S t)[k]? = some x) (hn : sSg S x < 6) : ARD S t (va_up g (k + 1) (k : Int)) (k + 1) := by
  refine ⟨by rw [va_ne (by omega)]; exact h.1, fun i y hi hy => ?_⟩
  by_cases e : i = k
  · subst e
    rw [hx] at hy
    cases hy
    exact ⟨fun _ => va_eq, fun q => by omega⟩
  · obtain ⟨a, b⟩ := h.2 i y (by omega) hy
    refine ⟨fun q => ?_, fun q q2 => ?_⟩
    · rw [va_ne (by omega)]; exact a q
    · rw [va_ne (ard_far hT ht hx (by omega) (by omega) hy q2).2.2.1]; exact b q q2
theorem ard_2 {S : xS} (hT : Tb S) {t : Nat} (ht : t < sN S) {g : Nat → Int} {k x : Nat} (h : ARD S t g k) (hx : (lyS S t)[k]? = some x) (hn : 6 ≤ sSg S x) (hn2 : sSg S x < 100) : ARD S t (va_up (va_up g (k + 1) (k : Int)) (k + 1 + (lyS S (sFs S x).toNat).length) (k : Int)) (k + 1) := by
  have hl := ly_pos S (sFs S x).toNat
  refine ⟨by rw [va_ne (by omega), va_ne (by omega)]; exact h.1, fun i y hi hy => ?_⟩
  by_cases e : i = k
  · subst e
    rw [hx] at hy
    cases hy
    exact ⟨fun _ => by rw [va_ne (by omega)]; exact va_eq, fun _ _ => va_eq⟩
  · obtain ⟨a, b⟩ := h.2 i y (by omega) hy
    refine ⟨fun q => ?_, fun q q2 => ?_⟩
    · obtain ⟨f1, f2, f3, f4⟩ := ard_far hT ht hx hn2 (by omega) hy q
      rw [va_ne f2, va_ne f1]; exact a q
    · obtain ⟨f1, f2, f3, f4⟩ := ard_far hT ht hx hn2 (by omega) hy q2
      rw [va_ne (f4 hn), va_ne f3]; exact b q q2
/-- so the way up is known at each place -/
theorem ard_pt {S : xS} (hT : Tb S) {t : Nat} (ht : t < sN S) {g : Nat → Int} (h : ARD S t g (lyS S t).length) {y k x pos : Nat} {b : Bool} {p : List (Nat × Bool × Nat)} (hP : PT S t ((y, b, k) :: p) x pos) : g pos = (k : Int) := by
  have hy := PT_at hT ht hP.1
  have hk := (List.getElem?_eq_some_iff.mp hy).1
  obtain ⟨a1, a2⟩ := h.2 k y hk hy
  rcases hP.2.2 with ⟨-, -, rfl⟩ | ⟨-, h6, -, rfl⟩
  · exact a1 hP.2.1
  · exact a2 h6 hP.2.1
set_option maxHeartbeats 4000000 in
set_option maxRecDepth 100000 in
theorem m_Md_findAround {L : Launch} {D : va_G} {cA : Nat → ClassId} {base : Nat} {ad : Nat → Nat} {w : Nat → va_E} {S : xS} {ru ro sp nr ns th : Int} {se fa so : Bool} (hMT : MT ad cA w S ru ro sp nr ns th se fa so) (hT : Tb S) {t : Nat} (ht : t < sN S) {f g0 : Nat → Int} (hw44 : w 44 = xIA (cA 0) 1001 f) (hDN : DN f (lyS S t)) (hw45 : w 45 = xIA (cA 0) 1001 g0) : XM L D cA base y_Md_findAround c_Md_findAround 4 none (xrm 1 0 0) [.ref (ad 29), .int (zI ((lyS S t).length : Int))] 56 ad w (xVoid 56 ad (fun w' => ∃ g : Nat → Int, w' 45 = xIA (cA 0) 1001 g ∧ ARD S t g (lyS S t).length ∧ ∀ j, j ≠ 45 → w' j = w j)) xF := by
  refine xm_of (by decide +kernel) (by simp [Value.category]) (Nat.le_of_ble_eq_true rfl) (fun G C E _ => ?_)
  obtain ⟨sg, fs, sn, wt, pl, dp, ho, hw29, hw30, hw31, hw32, hw33, hw34, hw35, hw36, hA⟩ := id hMT
  have hlen := lyS_len hT ht
  have hpl := (hT.2.1 t ht).2.2.2.2.2
  have hN := hT.1
  have lp : ∀ (m k : Nat) (w1 : Nat → va_E) (g : Nat → Int) (lv : Nat → Option Value), (lyS S t).length + 1 ≤ k + m → k ≤ (lyS S t).length → w1 45 = xIA (cA 0) 1001 g → ARD S t g k → (∀ j, j ≠ 45 → w1 j = w j) → lv 0 = some (.ref (ad 29)) → lv 1 = some (.int (zI ((lyS S t).length : Int))) → lv 2 = some (.int (zI (k : Int))) → XW G 56 ad w1 0 0 9 lv [] := by
    intro m
    induction m with
    | zero => intro k w1 g lv h1 h2; exact absurd h1 (by omega)
    | succ m ih =>
      intro k w1 g lv h1 h2 hw45 hAR hfr hq0 hq1 hq2
      have hw29 := (hfr 29 (by decide)).trans hw29
      have hw30 := (hfr 30 (by decide)).trans hw30
      have hw31 := (hfr 31 (by decide)).trans hw31
      have hw34 := (hfr 34 (by decide)).trans hw34
      have hw44 := (hfr 44 (by decide)).trans hw44
      by_cases hend : (lyS S t).length ≤ k
      · skip
        refine xr_iload_n C 2 d_Md_findAround_9 rfl hq2 ?_
        refine xr_iload_n C 1 d_Md_findAround_10 rfl hq1 ?_
        refine xz_icmp_ge (tgt := 82) C d_Md_findAround_11 (by decide) (by omega) (by omega) (fun c11 => ?_) (fun c11 => by exfalso; omega)
        exact xr_vret C E ⟨rfl, rfl, rfl, g, hw45, by rw [show (lyS S t).length = k by omega]; exact hAR, hfr⟩ (by decide) (by decide) d_Md_findAround_82
      · skip
        have hx9 : k < (lyS S t).length := by omega
        obtain ⟨x, hx⟩ : ∃ x, (lyS S t)[k]? = some x := ⟨_, List.getElem?_eq_getElem hx9⟩
        have hxN := ly_mem hT ht hx
        obtain ⟨q1, q2, q3, -⟩ := hA.1 x hxN
        have qs := (hT.2.1 x hxN).1
        have hen := ly_end hT ht hx
        unfold shp at qs
        rcases qs with q | q | q | q
        · skip
          refine xr_iload_n C 2 d_Md_findAround_9 rfl hq2 ?_
          refine xr_iload_n C 1 d_Md_findAround_10 rfl hq1 ?_
          refine xz_icmp_ge (tgt := 82) C d_Md_findAround_11 (by decide) (by omega) (by omega) (fun c11 => by exfalso; omega) (fun c11 => ?_)
          refine xr_aload_n C 0 d_Md_findAround_14 rfl hq0 ?_
          refine xr_get (k := 29) C xg_Md_53 hw29 (by decide) rfl d_Md_findAround_15 ?_
          refine xr_iload_n C 2 d_Md_findAround_18 rfl hq2 ?_
          refine xj_iald (k := 44) C (k) (by omega) hw44 (by decide) (by omega) (by decide) d_Md_findAround_19 ?_
          refine xr_eqz (y := (x : Int)) (hDN k x hx) ?_
          refine xr_istore_n C 3 d_Md_findAround_20 rfl (by decide) ?_
          refine xr_aload_n C 0 d_Md_findAround_21 rfl hq0 ?_
          refine xr_get (k := 29) C xg_Md_7 hw29 (by decide) rfl d_Md_findAround_22 ?_
          refine xr_iload_n C 3 d_Md_findAround_25 rfl rfl ?_
          refine xj_iald (k := 30) C (x) (by omega) hw30 (by decide) (by omega) (by decide) d_Md_findAround_26 ?_
          refine xr_callS C (m_Md_parts (x := sg x) (by have := hA.2 x; omega)) xm_Md_93 x2_Md_parts (by decide) (by decide) (Nat.le_of_ble_eq_true rfl) rfl d_Md_findAround_27 (fun En n9 ad9 w9 hx9 => hx9.elim) (fun v n9 ad9 w9 hp => ?_)
          obtain ⟨rfl, rfl, rfl, rfl⟩ := hp
          show XW _ _ _ _ _ _ 30 _ (_ :: _)
          refine xr_eqz (y := 0) (by unfold prt; rw [if_pos (by omega)]) ?_
          refine xz_if_le (tgt := 42) C d_Md_findAround_30 (by decide) (by omega) (fun c30 => ?_) (fun c30 => by exfalso; omega)
          refine xr_aload_n C 0 d_Md_findAround_42 rfl hq0 ?_
          refine xr_get (k := 29) C xg_Md_7 hw29 (by decide) rfl d_Md_findAround_43 ?_
          refine xr_iload_n C 3 d_Md_findAround_46 rfl rfl ?_
          refine xj_iald (k := 30) C (x) (by omega) hw30 (by decide) (by omega) (by decide) d_Md_findAround_47 ?_
          refine xr_callS C (m_Md_parts (x := sg x) (by have := hA.2 x; omega)) xm_Md_93 x2_Md_parts (by decide) (by decide) (Nat.le_of_ble_eq_true rfl) rfl d_Md_findAround_48 (fun En n9 ad9 w9 hx9 => hx9.elim) (fun v n9 ad9 w9 hp => ?_)
          obtain ⟨rfl, rfl, rfl, rfl⟩ := hp
          show XW _ _ _ _ _ _ 51 _ (_ :: _)
          refine xr_eqz (y := 0) (by unfold prt; rw [if_pos (by omega)]) ?_
          refine xr_iconst C d_Md_findAround_51 ?_
          refine xz_icmp_ne (tgt := 76) C d_Md_findAround_52 (by decide) (by omega) (by omega) (fun c52 => ?_) (fun c52 => by exfalso; omega)
          refine xr_iinc C d_Md_findAround_76 (by decide) hq2 ?_
          refine xr_goto (tgt := 9) C d_Md_findAround_79 (by decide) ?_
          exact ih (k + 1) _ g _ (by omega) (by omega) hw45 (ard_0 hAR hx (by omega)) hfr hq0 hq1 rfl
        · skip
          refine xr_iload_n C 2 d_Md_findAround_9 rfl hq2 ?_
          refine xr_iload_n C 1 d_Md_findAround_10 rfl hq1 ?_
          refine xz_icmp_ge (tgt := 82) C d_Md_findAround_11 (by decide) (by omega) (by omega) (fun c11 => by exfalso; omega) (fun c11 => ?_)
          refine xr_aload_n C 0 d_Md_findAround_14 rfl hq0 ?_
          refine xr_get (k := 29) C xg_Md_53 hw29 (by decide) rfl d_Md_findAround_15 ?_
          refine xr_iload_n C 2 d_Md_findAround_18 rfl hq2 ?_
          refine xj_iald (k := 44) C (k) (by omega) hw44 (by decide) (by omega) (by decide) d_Md_findAround_19 ?_
          refine xr_eqz (y := (x : Int)) (hDN k x hx) ?_
          refine xr_istore_n C 3 d_Md_findAround_20 rfl (by decide) ?_
          refine xr_aload_n C 0 d_Md_findAround_21 rfl hq0 ?_
          refine xr_get (k := 29) C xg_Md_7 hw29 (by decide) rfl d_Md_findAround_22 ?_
          refine xr_iload_n C 3 d_Md_findAround_25 rfl rfl ?_
          refine xj_iald (k := 30) C (x) (by omega) hw30 (by decide) (by omega) (by decide) d_Md_findAround_26 ?_
          refine xr_callS C (m_Md_parts (x := sg x) (by have := hA.2 x; omega)) xm_Md_93 x2_Md_parts (by decide) (by decide) (Nat.le_of_ble_eq_true rfl) rfl d_Md_findAround_27 (fun En n9 ad9 w9 hx9 => hx9.elim) (fun v n9 ad9 w9 hp => ?_)
          obtain ⟨rfl, rfl, rfl, rfl⟩ := hp
          show XW _ _ _ _ _ _ 30 _ (_ :: _)
          refine xr_eqz (y := 0) (by unfold prt; rw [if_pos (by omega)]) ?_
          refine xz_if_le (tgt := 42) C d_Md_findAround_30 (by decide) (by omega) (fun c30 => ?_) (fun c30 => by exfalso; omega)
          refine xr_aload_n C 0 d_Md_findAround_42 rfl hq0 ?_
          refine xr_get (k := 29) C xg_Md_7 hw29 (by decide) rfl d_Md_findAround_43 ?_
          refine xr_iload_n C 3 d_Md_findAround_46 rfl rfl ?_
          refine xj_iald (k := 30) C (x) (by omega) hw30 (by decide) (by omega) (by decide) d_Md_findAround_47 ?_
          refine xr_callS C (m_Md_parts (x := sg x) (by have := hA.2 x; omega)) xm_Md_93 x2_Md_parts (by decide) (by decide) (Nat.le_of_ble_eq_true rfl) rfl d_Md_findAround_48 (fun En n9 ad9 w9 hx9 => hx9.elim) (fun v n9 ad9 w9 hp => ?_)
          obtain ⟨rfl, rfl, rfl, rfl⟩ := hp
          show XW _ _ _ _ _ _ 51 _ (_ :: _)
          refine xr_eqz (y := 0) (by unfold prt; rw [if_pos (by omega)]) ?_
          refine xr_iconst C d_Md_findAround_51 ?_
          refine xz_icmp_ne (tgt := 76) C d_Md_findAround_52 (by decide) (by omega) (by omega) (fun c52 => ?_) (fun c52 => by exfalso; omega)
          refine xr_iinc C d_Md_findAround_76 (by decide) hq2 ?_
          refine xr_goto (tgt := 9) C d_Md_findAround_79 (by decide) ?_
          exact ih (k + 1) _ g _ (by omega) (by omega) hw45 (ard_0 hAR hx (by omega)) hfr hq0 hq1 rfl
        · skip
          have hnd := ly_node hT hxN (by omega)
          have hlf := lyS_len hT (j := (sFs S x).toNat) (by omega)
          have hpf := (hA.1 (sFs S x).toNat (by omega)).2.2.2.2.1
          have hpr := (hA.2 (sFs S x).toNat).2.2.2.2.1
          have hl2 := ly_pos S (sSn S x).toNat
          refine xr_iload_n C 2 d_Md_findAround_9 rfl hq2 ?_
          refine xr_iload_n C 1 d_Md_findAround_10 rfl hq1 ?_
          refine xz_icmp_ge (tgt := 82) C d_Md_findAround_11 (by decide) (by omega) (by omega) (fun c11 => by exfalso; omega) (fun c11 => ?_)
          refine xr_aload_n C 0 d_Md_findAround_14 rfl hq0 ?_
          refine xr_get (k := 29) C xg_Md_53 hw29 (by decide) rfl d_Md_findAround_15 ?_
          refine xr_iload_n C 2 d_Md_findAround_18 rfl hq2 ?_
          refine xj_iald (k := 44) C (k) (by omega) hw44 (by decide) (by omega) (by decide) d_Md_findAround_19 ?_
          refine xr_eqz (y := (x : Int)) (hDN k x hx) ?_
          refine xr_istore_n C 3 d_Md_findAround_20 rfl (by decide) ?_
          refine xr_aload_n C 0 d_Md_findAround_21 rfl hq0 ?_
          refine xr_get (k := 29) C xg_Md_7 hw29 (by decide) rfl d_Md_findAround_22 ?_
          refine xr_iload_n C 3 d_Md_findAround_25 rfl rfl ?_
          refine xj_iald (k := 30) C (x) (by omega) hw30 (by decide) (by omega) (by decide) d_Md_findAround_26 ?_
          refine xr_callS C (m_Md_parts (x := sg x) (by have := hA.2 x; omega)) xm_Md_93 x2_Md_parts (by decide) (by decide) (Nat.le_of_ble_eq_true rfl) rfl d_Md_findAround_27 (fun En n9 ad9 w9 hx9 => hx9.elim) (fun v n9 ad9 w9 hp => ?_)
          obtain ⟨rfl, rfl, rfl, rfl⟩ := hp
          show XW _ _ _ _ _ _ 30 _ (_ :: _)
          refine xr_eqz (y := 1) (by unfold prt; rw [if_neg (by omega), if_pos (by omega)]) ?_
          refine xz_if_le (tgt := 42) C d_Md_findAround_30 (by decide) (by omega) (fun c30 => by exfalso; omega) (fun c30 => ?_)
          refine xr_aload_n C 0 d_Md_findAround_33 rfl hq0 ?_
          refine xr_get (k := 29) C xg_Md_56 hw29 (by decide) rfl d_Md_findAround_34 ?_
          refine xr_iload_n C 2 d_Md_findAround_37 rfl hq2 ?_
          refine xr_iconst C d_Md_findAround_38 ?_
          refine xz_iadd C d_Md_findAround_39 ?_
          refine xr_iload_n C 2 d_Md_findAround_40 rfl hq2 ?_
          refine xj_iast (k := 45) C (k + 1) (by omega) hw45 (by decide) (by omega) (by decide) d_Md_findAround_41 ?_
          refine xr_aload_n C 0 d_Md_findAround_42 rfl hq0 ?_
          refine xr_get (k := 29) C xg_Md_7 hw29 (by decide) rfl d_Md_findAround_43 ?_
          refine xr_iload_n C 3 d_Md_findAround_46 rfl rfl ?_
          refine xj_iald (k := 30) C (x) (by omega) hw30 (by decide) (by omega) (by decide) d_Md_findAround_47 ?_
          refine xr_callS C (m_Md_parts (x := sg x) (by have := hA.2 x; omega)) xm_Md_93 x2_Md_parts (by decide) (by decide) (Nat.le_of_ble_eq_true rfl) rfl d_Md_findAround_48 (fun En n9 ad9 w9 hx9 => hx9.elim) (fun v n9 ad9 w9 hp => ?_)
          obtain ⟨rfl, rfl, rfl, rfl⟩ := hp
          show XW _ _ _ _ _ _ 51 _ (_ :: _)
          refine xr_eqz (y := 1) (by unfold prt; rw [if_neg (by omega), if_pos (by omega)]) ?_
          refine xr_iconst C d_Md_findAround_51 ?_
          refine xz_icmp_ne (tgt := 76) C d_Md_findAround_52 (by decide) (by omega) (by omega) (fun c52 => ?_) (fun c52 => by exfalso; omega)
          refine xr_iinc C d_Md_findAround_76 (by decide) hq2 ?_
          refine xr_goto (tgt := 9) C d_Md_findAround_79 (by decide) ?_
          exact ih (k + 1) _ _ _ (by omega) (by omega) rfl (ard_1 hT ht hAR hx (by omega)) (fun j a => (va_ne a).trans (hfr j a)) hq0 hq1 rfl
        · skip
          have hnd := ly_node hT hxN (by omega)
          have hlf := lyS_len hT (j := (sFs S x).toNat) (by omega)
          have hpf := (hA.1 (sFs S x).toNat (by omega)).2.2.2.2.1
          have hpr := (hA.2 (sFs S x).toNat).2.2.2.2.1
          have hl2 := ly_pos S (sSn S x).toNat
          refine xr_iload_n C 2 d_Md_findAround_9 rfl hq2 ?_
          refine xr_iload_n C 1 d_Md_findAround_10 rfl hq1 ?_
          refine xz_icmp_ge (tgt := 82) C d_Md_findAround_11 (by decide) (by omega) (by omega) (fun c11 => by exfalso; omega) (fun c11 => ?_)
          refine xr_aload_n C 0 d_Md_findAround_14 rfl hq0 ?_
          refine xr_get (k := 29) C xg_Md_53 hw29 (by decide) rfl d_Md_findAround_15 ?_
          refine xr_iload_n C 2 d_Md_findAround_18 rfl hq2 ?_
          refine xj_iald (k := 44) C (k) (by omega) hw44 (by decide) (by omega) (by decide) d_Md_findAround_19 ?_
          refine xr_eqz (y := (x : Int)) (hDN k x hx) ?_
          refine xr_istore_n C 3 d_Md_findAround_20 rfl (by decide) ?_
          refine xr_aload_n C 0 d_Md_findAround_21 rfl hq0 ?_
          refine xr_get (k := 29) C xg_Md_7 hw29 (by decide) rfl d_Md_findAround_22 ?_
          refine xr_iload_n C 3 d_Md_findAround_25 rfl rfl ?_
          refine xj_iald (k := 30) C (x) (by omega) hw30 (by decide) (by omega) (by decide) d_Md_findAround_26 ?_
          refine xr_callS C (m_Md_parts (x := sg x) (by have := hA.2 x; omega)) xm_Md_93 x2_Md_parts (by decide) (by decide) (Nat.le_of_ble_eq_true rfl) rfl d_Md_findAround_27 (fun En n9 ad9 w9 hx9 => hx9.elim) (fun v n9 ad9 w9 hp => ?_)
          obtain ⟨rfl, rfl, rfl, rfl⟩ := hp
          show XW _ _ _ _ _ _ 30 _ (_ :: _)
          refine xr_eqz (y := 2) (by unfold prt; rw [if_neg (by omega), if_neg (by omega)]) ?_
          refine xz_if_le (tgt := 42) C d_Md_findAround_30 (by decide) (by omega) (fun c30 => by exfalso; omega) (fun c30 => ?_)
          refine xr_aload_n C 0 d_Md_findAround_33 rfl hq0 ?_
          refine xr_get (k := 29) C xg_Md_56 hw29 (by decide) rfl d_Md_findAround_34 ?_
          refine xr_iload_n C 2 d_Md_findAround_37 rfl hq2 ?_
          refine xr_iconst C d_Md_findAround_38 ?_
          refine xz_iadd C d_Md_findAround_39 ?_
          refine xr_iload_n C 2 d_Md_findAround_40 rfl hq2 ?_
          refine xj_iast (k := 45) C (k + 1) (by omega) hw45 (by decide) (by omega) (by decide) d_Md_findAround_41 ?_
          refine xr_aload_n C 0 d_Md_findAround_42 rfl hq0 ?_
          refine xr_get (k := 29) C xg_Md_7 hw29 (by decide) rfl d_Md_findAround_43 ?_
          refine xr_iload_n C 3 d_Md_findAround_46 rfl rfl ?_
          refine xj_iald (k := 30) C (x) (by omega) hw30 (by decide) (by omega) (by decide) d_Md_findAround_47 ?_
          refine xr_callS C (m_Md_parts (x := sg x) (by have := hA.2 x; omega)) xm_Md_93 x2_Md_parts (by decide) (by decide) (Nat.le_of_ble_eq_true rfl) rfl d_Md_findAround_48 (fun En n9 ad9 w9 hx9 => hx9.elim) (fun v n9 ad9 w9 hp => ?_)
          obtain ⟨rfl, rfl, rfl, rfl⟩ := hp
          show XW _ _ _ _ _ _ 51 _ (_ :: _)
          refine xr_eqz (y := 2) (by unfold prt; rw [if_neg (by omega), if_neg (by omega)]) ?_
          refine xr_iconst C d_Md_findAround_51 ?_
          refine xz_icmp_ne (tgt := 76) C d_Md_findAround_52 (by decide) (by omega) (by omega) (fun c52 => by exfalso; omega) (fun c52 => ?_)
          refine xr_aload_n C 0 d_Md_findAround_55 rfl hq0 ?_
          refine xr_get (k := 29) C xg_Md_56 hw29 (by decide) rfl d_Md_findAround_56 ?_
          refine xr_iload_n C 2 d_Md_findAround_59 rfl hq2 ?_
          refine xr_iconst C d_Md_findAround_60 ?_
          refine xz_iadd C d_Md_findAround_61 ?_
          refine xr_aload_n C 0 d_Md_findAround_62 rfl hq0 ?_
          refine xr_get (k := 29) C xg_Md_22 hw29 (by decide) rfl d_Md_findAround_63 ?_
          refine xr_aload_n C 0 d_Md_findAround_66 rfl hq0 ?_
          refine xr_get (k := 29) C xg_Md_13 hw29 (by decide) rfl d_Md_findAround_67 ?_
          refine xr_iload_n C 3 d_Md_findAround_70 rfl rfl ?_
          refine xj_iald (k := 31) C (x) (by omega) hw31 (by decide) (by omega) (by decide) d_Md_findAround_71 ?_
          refine xr_eqz (y := (((sFs S x).toNat : Nat) : Int)) (by omega) ?_
          refine xj_iald (k := 34) C ((sFs S x).toNat) (by omega) hw34 (by decide) (by omega) (by decide) d_Md_findAround_72 ?_
          refine xz_iadd C d_Md_findAround_73 ?_
          refine xr_iload_n C 2 d_Md_findAround_74 rfl hq2 ?_
          refine xj_iast (k := 45) C (k + 1 + (lyS S (sFs S x).toNat).length) (by omega) rfl (by decide) (by omega) (by decide) d_Md_findAround_75 ?_
          refine xr_iinc C d_Md_findAround_76 (by decide) hq2 ?_
          refine xr_goto (tgt := 9) C d_Md_findAround_79 (by decide) ?_
          exact ih (k + 1) _ _ _ (by omega) (by omega) rfl (ard_2 hT ht hAR hx (by omega) (by omega)) (fun j a => (va_ne a).trans ((va_ne a).trans (hfr j a))) hq0 hq1 rfl
  refine xr_aload_n C 0 d_Md_findAround_0 rfl rfl ?_
  refine xr_get (k := 29) C xg_Md_56 hw29 (by decide) rfl d_Md_findAround_1 ?_
  refine xr_iconst C d_Md_findAround_4 ?_
  refine xr_iconst C d_Md_findAround_5 ?_
  refine xj_iast (k := 45) C (0) (by omega) hw45 (by decide) (by omega) (by decide) d_Md_findAround_6 ?_
  refine xr_iconst C d_Md_findAround_7 ?_
  refine xr_istore_n C 2 d_Md_findAround_8 rfl (by decide) ?_
  exact lp ((lyS S t).length + 1) 0 _ _ _ (by omega) (by omega) rfl ⟨va_eq, fun i y hi => by omega⟩ (fun j a => va_ne a) rfl rfl rfl
set_option maxHeartbeats 4000000 in
set_option maxRecDepth 100000 in
theorem m_Md_layA {L : Launch} {D : va_G} {cA : Nat → ClassId} {base : Nat} {ad : Nat → Nat} {w : Nat → va_E} {S : xS} {ru ro sp nr ns th : Int} {se fa so : Bool} {t : Nat} {td0 f0 g0 : Nat → Int} (hMT : MT ad cA w S ru ro sp nr ns th se fa so) (hT : Tb S) (ht : t < sN S) (hw47 : w 47 = xIA (cA 0) 1100 td0) (hw44 : w 44 = xIA (cA 0) 1001 f0) (hw45 : w 45 = xIA (cA 0) 1001 g0) : XM L D cA base y_Md_lay c_Md_lay 7 (some .int) (xrm 2 0 0) [.ref (ad 29), .int (zI (t : Int)), .ref (ad 44), .int (zI (xb true))] 56 ad w (xRet 56 ad (fun z w' => z = ((lyS S t).length : Int) ∧ ∃ td f g : Nat → Int, w' 47 = xIA (cA 0) 1100 td ∧ w' 44 = xIA (cA 0) 1001 f ∧ w' 45 = xIA (cA 0) 1001 g ∧ (∀ k, k ≠ 47 → k ≠ 44 → k ≠ 45 → w' k = w k) ∧ DN f (lyS S t) ∧ ARD S t g (lyS S t).length)) xF := by
  refine xm_of (by decide +kernel) (by simp [Value.category]) (Nat.le_of_ble_eq_true rfl) (fun G C E _ => ?_)
  obtain ⟨sg, fs, sn, wt, pl, dp, ho, hw29, hw30, hw31, hw32, hw33, hw34, hw35, hw36, hA⟩ := id hMT
  have hlen : ((lyS S t).length : Int) = sPl S t := ly_len hT t ht
  have hpl := (hT.2.1 t ht).2.2.2.2.2
  have hN := hT.1
  have lp : ∀ (m : Nat) (w1 : Nat → va_E) (td f : Nat → Int) (stk dn : List Nat) (n h : Nat) (lv : Nat → Option Value), (stk.flatMap (lyS S)).length < m → w1 47 = xIA (cA 0) 1100 td → w1 44 = xIA (cA 0) 1001 f → (∀ k, k ≠ 47 → k ≠ 44 → w1 k = w k) → TD td stk → DN f dn → dn ++ stk.flatMap (lyS S) = lyS S t → (∀ y ∈ stk, y < sN S) → n = dn.length → h = stk.length → lv 0 = some (.ref (ad 29)) → lv 2 = some (.ref (ad 44)) → lv 3 = some (.int (zI (xb true))) → lv 4 = some (.int (zI (n : Int))) → lv 5 = some (.int (zI (h : Int))) → XW G 56 ad w1 0 0 13 lv [] := by
    intro m
    induction m with
    | zero => intro w1 td f stk dn n h lv hm; exact absurd hm (by omega)
    | succ m ih =>
      intro w1 td f stk dn n h lv hm hw47 hw44 hfr hTD hDN hcat hall hn hh hl0 hl2 hl3 hl4 hl5
      have hw29 := (hfr 29 (by decide) (by decide)).trans hw29
      have hw30 := (hfr 30 (by decide) (by decide)).trans hw30
      have hw31 := (hfr 31 (by decide) (by decide)).trans hw31
      have hw32 := (hfr 32 (by decide) (by decide)).trans hw32
      have htot : dn.length + (stk.flatMap (lyS S)).length ≤ 1000 := by
        have := congrArg List.length hcat
        rw [List.length_append] at this
        omega
      cases stk with
      | nil =>
        have hdt : dn = lyS S t := by rw [← hcat]; simp
        have hh : h = 0 := hh
        refine xr_iload C d_Md_lay_13 hl5 ?_
        refine xz_if_le (tgt := 103) C d_Md_lay_15 (by decide) (by omega) (fun c15 => ?_) (fun c15 => by exfalso; omega)
        refine xr_iload_n C 3 d_Md_lay_103 rfl hl3 ?_
        refine xb_if_eq (tgt := 113) C d_Md_lay_104 (by decide)  (fun c104 => by exfalso; exact absurd c104 (by decide)) (fun c104 => ?_)
        refine xr_aload_n C 0 d_Md_lay_107 rfl hl0 ?_
        refine xr_iload C d_Md_lay_108 hl4 ?_
        refine xr_eqz (y := ((lyS S t).length : Int)) (by rw [← hdt, hn]) ?_
        refine xr_callV (k9 := 29) C (m_Md_findAround (w := w1) (t := t) (mt_fr hMT (fun k a b => hfr k (by omega) (by omega))) hT ht hw44 (by rw [← hdt]; exact hDN) ((hfr 45 (by decide) (by decide)).trans hw45)) xm_Md_113 x2_Md_findAround hw29 (by decide) rfl (by decide) (by decide) (Nat.le_of_ble_eq_true rfl) rfl d_Md_lay_110 (fun En n9 ad9 w9 hx9 => hx9.elim) (fun v n9 ad9 w9 hp => ?_)
        obtain ⟨rfl, rfl, rfl, g, hw45', hARD, hfr'⟩ := hp
        refine xr_iload C d_Md_lay_113 hl4 ?_
        refine xr_eqz (y := ((lyS S t).length : Int)) (by rw [← hdt, hn]) ?_
        exact xr_iret C E ⟨rfl, rfl, _, rfl, rfl, td, f, g, (hfr' 47 (by decide)).trans hw47, (hfr' 44 (by decide)).trans hw44, hw45', (fun k a b c => (hfr' k c).trans (hfr k a b)), by rw [← hdt]; exact hDN, hARD⟩ (by decide) (by decide) d_Md_lay_115
      | cons x r =>
        have hxN := hall x List.mem_cons_self
        have hlx := ly_pos S x
        have hlr := fl_len S r
        have hlen9 : (lyS S x).length + (r.flatMap (lyS S)).length + dn.length ≤ 1000 := by
          rw [List.flatMap_cons, List.length_append] at htot
          omega
        have hh : h = r.length + 1 := hh
        obtain ⟨q1, q2, q3, -⟩ := hA.1 x hxN
        have qs := (hT.2.1 x hxN).1
        unfold shp at qs
        rcases qs with q | q | q | q
        · skip
          refine xr_iload C d_Md_lay_13 hl5 ?_
          refine xz_if_le (tgt := 103) C d_Md_lay_15 (by decide) (by omega) (fun c15 => by exfalso; omega) (fun c15 => ?_)
          refine xr_iinc C d_Md_lay_18 (by decide) hl5 ?_
          refine xr_aload_n C 0 d_Md_lay_21 rfl hl0 ?_
          refine xr_get (k := 29) C xg_Md_62 hw29 (by decide) rfl d_Md_lay_22 ?_
          refine xr_iload C d_Md_lay_25 rfl ?_
          refine xj_iald (k := 47) C (r.length) (by omega) hw47 (by decide) (by omega) (by decide) d_Md_lay_27 ?_
          refine xr_eqz (y := (x : Int)) hTD.1 ?_
          refine xr_istore C d_Md_lay_28 (by decide) ?_
          refine xr_aload_n C 2 d_Md_lay_30 rfl hl2 ?_
          refine xr_iload C d_Md_lay_31 hl4 ?_
          refine xr_iload C d_Md_lay_33 rfl ?_
          refine xj_iast (k := 44) C (n) (by omega) hw44 (by decide) (by omega) (by decide) d_Md_lay_35 ?_
          refine xr_iinc C d_Md_lay_36 (by decide) hl4 ?_
          refine xr_aload_n C 0 d_Md_lay_39 rfl hl0 ?_
          refine xr_get (k := 29) C xg_Md_7 hw29 (by decide) rfl d_Md_lay_40 ?_
          refine xr_iload C d_Md_lay_43 rfl ?_
          refine xj_iald (k := 30) C (x) (by omega) hw30 (by decide) (by omega) (by decide) d_Md_lay_45 ?_
          refine xr_callS C (m_Md_parts (x := sg x) (by have := hA.2 x; omega)) xm_Md_93 x2_Md_parts (by decide) (by decide) (Nat.le_of_ble_eq_true rfl) rfl d_Md_lay_46 (fun En n9 ad9 w9 hx9 => hx9.elim) (fun v n9 ad9 w9 hp => ?_)
          obtain ⟨rfl, rfl, rfl, rfl⟩ := hp
          show XW _ _ _ _ _ _ 49 _ (_ :: _)
          refine xr_eqz (y := 0) (by unfold prt; rw [if_pos (by omega)]) ?_
          refine xr_iconst C d_Md_lay_49 ?_
          refine xz_icmp_ne (tgt := 70) C d_Md_lay_50 (by decide) (by omega) (by omega) (fun c50 => ?_) (fun c50 => by exfalso; omega)
          refine xr_aload_n C 0 d_Md_lay_70 rfl hl0 ?_
          refine xr_get (k := 29) C xg_Md_7 hw29 (by decide) rfl d_Md_lay_71 ?_
          refine xr_iload C d_Md_lay_74 rfl ?_
          refine xj_iald (k := 30) C (x) (by omega) hw30 (by decide) (by omega) (by decide) d_Md_lay_76 ?_
          refine xr_callS C (m_Md_parts (x := sg x) (by have := hA.2 x; omega)) xm_Md_93 x2_Md_parts (by decide) (by decide) (Nat.le_of_ble_eq_true rfl) rfl d_Md_lay_77 (fun En n9 ad9 w9 hx9 => hx9.elim) (fun v n9 ad9 w9 hp => ?_)
          obtain ⟨rfl, rfl, rfl, rfl⟩ := hp
          show XW _ _ _ _ _ _ 80 _ (_ :: _)
          refine xr_eqz (y := 0) (by unfold prt; rw [if_pos (by omega)]) ?_
          refine xz_if_le (tgt := 100) C d_Md_lay_80 (by decide) (by omega) (fun c80 => ?_) (fun c80 => by exfalso; omega)
          refine xr_goto (tgt := 13) C d_Md_lay_100 (by decide) ?_
          refine ih _ _ _ r (dn ++ [x]) (n + 1) (h - 1) _ ?_ hw47 rfl (fun k h1 h2 => (va_ne h2).trans (hfr k h1 h2)) hTD.2 (by rw [hn]; exact DN_add hDN) ?_ (fun y hy => ?_) (by rw [List.length_append, hn]; rfl) (by first | omega | (simp only [List.length_cons]; omega)) hl0 hl2 hl3 rfl (by show some (Value.int (zI ((h : Int) + -1))) = _; rw [show ((h : Int) + -1) = ((h - 1 : Nat) : Int) by omega])
          · rw [List.flatMap_cons, ly_0 (S := S) (x := x) (by omega) (by omega)] at hm
            simp only [List.flatMap_cons, List.length_append, List.length_cons, List.length_nil] at hm ⊢
            omega
          · rw [← hcat, show (x :: r).flatMap (lyS S) = lyS S x ++ r.flatMap (lyS S) from List.flatMap_cons, ly_0 (S := S) (x := x) (by omega) (by omega)]
            simp
          · exact hall y (List.mem_cons_of_mem _ hy)
        · skip
          refine xr_iload C d_Md_lay_13 hl5 ?_
          refine xz_if_le (tgt := 103) C d_Md_lay_15 (by decide) (by omega) (fun c15 => by exfalso; omega) (fun c15 => ?_)
          refine xr_iinc C d_Md_lay_18 (by decide) hl5 ?_
          refine xr_aload_n C 0 d_Md_lay_21 rfl hl0 ?_
          refine xr_get (k := 29) C xg_Md_62 hw29 (by decide) rfl d_Md_lay_22 ?_
          refine xr_iload C d_Md_lay_25 rfl ?_
          refine xj_iald (k := 47) C (r.length) (by omega) hw47 (by decide) (by omega) (by decide) d_Md_lay_27 ?_
          refine xr_eqz (y := (x : Int)) hTD.1 ?_
          refine xr_istore C d_Md_lay_28 (by decide) ?_
          refine xr_aload_n C 2 d_Md_lay_30 rfl hl2 ?_
          refine xr_iload C d_Md_lay_31 hl4 ?_
          refine xr_iload C d_Md_lay_33 rfl ?_
          refine xj_iast (k := 44) C (n) (by omega) hw44 (by decide) (by omega) (by decide) d_Md_lay_35 ?_
          refine xr_iinc C d_Md_lay_36 (by decide) hl4 ?_
          refine xr_aload_n C 0 d_Md_lay_39 rfl hl0 ?_
          refine xr_get (k := 29) C xg_Md_7 hw29 (by decide) rfl d_Md_lay_40 ?_
          refine xr_iload C d_Md_lay_43 rfl ?_
          refine xj_iald (k := 30) C (x) (by omega) hw30 (by decide) (by omega) (by decide) d_Md_lay_45 ?_
          refine xr_callS C (m_Md_parts (x := sg x) (by have := hA.2 x; omega)) xm_Md_93 x2_Md_parts (by decide) (by decide) (Nat.le_of_ble_eq_true rfl) rfl d_Md_lay_46 (fun En n9 ad9 w9 hx9 => hx9.elim) (fun v n9 ad9 w9 hp => ?_)
          obtain ⟨rfl, rfl, rfl, rfl⟩ := hp
          show XW _ _ _ _ _ _ 49 _ (_ :: _)
          refine xr_eqz (y := 0) (by unfold prt; rw [if_pos (by omega)]) ?_
          refine xr_iconst C d_Md_lay_49 ?_
          refine xz_icmp_ne (tgt := 70) C d_Md_lay_50 (by decide) (by omega) (by omega) (fun c50 => ?_) (fun c50 => by exfalso; omega)
          refine xr_aload_n C 0 d_Md_lay_70 rfl hl0 ?_
          refine xr_get (k := 29) C xg_Md_7 hw29 (by decide) rfl d_Md_lay_71 ?_
          refine xr_iload C d_Md_lay_74 rfl ?_
          refine xj_iald (k := 30) C (x) (by omega) hw30 (by decide) (by omega) (by decide) d_Md_lay_76 ?_
          refine xr_callS C (m_Md_parts (x := sg x) (by have := hA.2 x; omega)) xm_Md_93 x2_Md_parts (by decide) (by decide) (Nat.le_of_ble_eq_true rfl) rfl d_Md_lay_77 (fun En n9 ad9 w9 hx9 => hx9.elim) (fun v n9 ad9 w9 hp => ?_)
          obtain ⟨rfl, rfl, rfl, rfl⟩ := hp
          show XW _ _ _ _ _ _ 80 _ (_ :: _)
          refine xr_eqz (y := 0) (by unfold prt; rw [if_pos (by omega)]) ?_
          refine xz_if_le (tgt := 100) C d_Md_lay_80 (by decide) (by omega) (fun c80 => ?_) (fun c80 => by exfalso; omega)
          refine xr_goto (tgt := 13) C d_Md_lay_100 (by decide) ?_
          refine ih _ _ _ r (dn ++ [x]) (n + 1) (h - 1) _ ?_ hw47 rfl (fun k h1 h2 => (va_ne h2).trans (hfr k h1 h2)) hTD.2 (by rw [hn]; exact DN_add hDN) ?_ (fun y hy => ?_) (by rw [List.length_append, hn]; rfl) (by first | omega | (simp only [List.length_cons]; omega)) hl0 hl2 hl3 rfl (by show some (Value.int (zI ((h : Int) + -1))) = _; rw [show ((h : Int) + -1) = ((h - 1 : Nat) : Int) by omega])
          · rw [List.flatMap_cons, ly_0 (S := S) (x := x) (by omega) (by omega)] at hm
            simp only [List.flatMap_cons, List.length_append, List.length_cons, List.length_nil] at hm ⊢
            omega
          · rw [← hcat, show (x :: r).flatMap (lyS S) = lyS S x ++ r.flatMap (lyS S) from List.flatMap_cons, ly_0 (S := S) (x := x) (by omega) (by omega)]
            simp
          · exact hall y (List.mem_cons_of_mem _ hy)
        · skip
          refine xr_iload C d_Md_lay_13 hl5 ?_
          refine xz_if_le (tgt := 103) C d_Md_lay_15 (by decide) (by omega) (fun c15 => by exfalso; omega) (fun c15 => ?_)
          refine xr_iinc C d_Md_lay_18 (by decide) hl5 ?_
          refine xr_aload_n C 0 d_Md_lay_21 rfl hl0 ?_
          refine xr_get (k := 29) C xg_Md_62 hw29 (by decide) rfl d_Md_lay_22 ?_
          refine xr_iload C d_Md_lay_25 rfl ?_
          refine xj_iald (k := 47) C (r.length) (by omega) hw47 (by decide) (by omega) (by decide) d_Md_lay_27 ?_
          refine xr_eqz (y := (x : Int)) hTD.1 ?_
          refine xr_istore C d_Md_lay_28 (by decide) ?_
          refine xr_aload_n C 2 d_Md_lay_30 rfl hl2 ?_
          refine xr_iload C d_Md_lay_31 hl4 ?_
          refine xr_iload C d_Md_lay_33 rfl ?_
          refine xj_iast (k := 44) C (n) (by omega) hw44 (by decide) (by omega) (by decide) d_Md_lay_35 ?_
          refine xr_iinc C d_Md_lay_36 (by decide) hl4 ?_
          refine xr_aload_n C 0 d_Md_lay_39 rfl hl0 ?_
          refine xr_get (k := 29) C xg_Md_7 hw29 (by decide) rfl d_Md_lay_40 ?_
          refine xr_iload C d_Md_lay_43 rfl ?_
          refine xj_iald (k := 30) C (x) (by omega) hw30 (by decide) (by omega) (by decide) d_Md_lay_45 ?_
          refine xr_callS C (m_Md_parts (x := sg x) (by have := hA.2 x; omega)) xm_Md_93 x2_Md_parts (by decide) (by decide) (Nat.le_of_ble_eq_true rfl) rfl d_Md_lay_46 (fun En n9 ad9 w9 hx9 => hx9.elim) (fun v n9 ad9 w9 hp => ?_)
          obtain ⟨rfl, rfl, rfl, rfl⟩ := hp
          show XW _ _ _ _ _ _ 49 _ (_ :: _)
          refine xr_eqz (y := 1) (by unfold prt; rw [if_neg (by omega), if_pos (by omega)]) ?_
          refine xr_iconst C d_Md_lay_49 ?_
          refine xz_icmp_ne (tgt := 70) C d_Md_lay_50 (by decide) (by omega) (by omega) (fun c50 => ?_) (fun c50 => by exfalso; omega)
          refine xr_aload_n C 0 d_Md_lay_70 rfl hl0 ?_
          refine xr_get (k := 29) C xg_Md_7 hw29 (by decide) rfl d_Md_lay_71 ?_
          refine xr_iload C d_Md_lay_74 rfl ?_
          refine xj_iald (k := 30) C (x) (by omega) hw30 (by decide) (by omega) (by decide) d_Md_lay_76 ?_
          refine xr_callS C (m_Md_parts (x := sg x) (by have := hA.2 x; omega)) xm_Md_93 x2_Md_parts (by decide) (by decide) (Nat.le_of_ble_eq_true rfl) rfl d_Md_lay_77 (fun En n9 ad9 w9 hx9 => hx9.elim) (fun v n9 ad9 w9 hp => ?_)
          obtain ⟨rfl, rfl, rfl, rfl⟩ := hp
          show XW _ _ _ _ _ _ 80 _ (_ :: _)
          refine xr_eqz (y := 1) (by unfold prt; rw [if_neg (by omega), if_pos (by omega)]) ?_
          refine xz_if_le (tgt := 100) C d_Md_lay_80 (by decide) (by omega) (fun c80 => by exfalso; omega) (fun c80 => ?_)
          refine xr_aload_n C 0 d_Md_lay_83 rfl hl0 ?_
          refine xr_get (k := 29) C xg_Md_62 hw29 (by decide) rfl d_Md_lay_84 ?_
          refine xr_iload C d_Md_lay_87 rfl ?_
          refine xr_aload_n C 0 d_Md_lay_89 rfl hl0 ?_
          refine xr_get (k := 29) C xg_Md_13 hw29 (by decide) rfl d_Md_lay_90 ?_
          refine xr_iload C d_Md_lay_93 rfl ?_
          refine xj_iald (k := 31) C (x) (by omega) hw31 (by decide) (by omega) (by decide) d_Md_lay_95 ?_
          refine xr_eqz (y := ((sFs S x).toNat : Int)) (by omega) ?_
          refine xj_iast (k := 47) C (r.length) (by omega) hw47 (by decide) (by omega) (by decide) d_Md_lay_96 ?_
          refine xr_iinc C d_Md_lay_97 (by decide) rfl ?_
          refine xr_goto (tgt := 13) C d_Md_lay_100 (by decide) ?_
          refine ih _ _ _ ((sFs S x).toNat :: r) (dn ++ [x]) (n + 1) h _ ?_ rfl rfl (fun k h1 h2 => (va_ne h1).trans ((va_ne h2).trans (hfr k h1 h2))) ⟨va_eq, TD_up hTD.2 (Nat.le_refl _)⟩ (by rw [hn]; exact DN_add hDN) ?_ (fun y hy => ?_) (by rw [List.length_append, hn]; rfl) (by first | omega | (simp only [List.length_cons]; omega)) hl0 hl2 hl3 rfl (by show some (Value.int (zI ((h : Int) + -1 + 1))) = _; rw [show ((h : Int) + -1 + 1) = (h : Int) by omega])
          · rw [List.flatMap_cons, ly_1 (S := S) (x := x) (by omega) (by omega)] at hm
            simp only [List.flatMap_cons, List.length_append, List.length_cons, List.length_nil] at hm ⊢
            omega
          · rw [← hcat, show (x :: r).flatMap (lyS S) = lyS S x ++ r.flatMap (lyS S) from List.flatMap_cons, ly_1 (S := S) (x := x) (by omega) (by omega)]
            simp
          · rcases List.mem_cons.mp hy with rfl | hy
            · omega
            · exact hall y (List.mem_cons_of_mem _ hy)
        · skip
          refine xr_iload C d_Md_lay_13 hl5 ?_
          refine xz_if_le (tgt := 103) C d_Md_lay_15 (by decide) (by omega) (fun c15 => by exfalso; omega) (fun c15 => ?_)
          refine xr_iinc C d_Md_lay_18 (by decide) hl5 ?_
          refine xr_aload_n C 0 d_Md_lay_21 rfl hl0 ?_
          refine xr_get (k := 29) C xg_Md_62 hw29 (by decide) rfl d_Md_lay_22 ?_
          refine xr_iload C d_Md_lay_25 rfl ?_
          refine xj_iald (k := 47) C (r.length) (by omega) hw47 (by decide) (by omega) (by decide) d_Md_lay_27 ?_
          refine xr_eqz (y := (x : Int)) hTD.1 ?_
          refine xr_istore C d_Md_lay_28 (by decide) ?_
          refine xr_aload_n C 2 d_Md_lay_30 rfl hl2 ?_
          refine xr_iload C d_Md_lay_31 hl4 ?_
          refine xr_iload C d_Md_lay_33 rfl ?_
          refine xj_iast (k := 44) C (n) (by omega) hw44 (by decide) (by omega) (by decide) d_Md_lay_35 ?_
          refine xr_iinc C d_Md_lay_36 (by decide) hl4 ?_
          refine xr_aload_n C 0 d_Md_lay_39 rfl hl0 ?_
          refine xr_get (k := 29) C xg_Md_7 hw29 (by decide) rfl d_Md_lay_40 ?_
          refine xr_iload C d_Md_lay_43 rfl ?_
          refine xj_iald (k := 30) C (x) (by omega) hw30 (by decide) (by omega) (by decide) d_Md_lay_45 ?_
          refine xr_callS C (m_Md_parts (x := sg x) (by have := hA.2 x; omega)) xm_Md_93 x2_Md_parts (by decide) (by decide) (Nat.le_of_ble_eq_true rfl) rfl d_Md_lay_46 (fun En n9 ad9 w9 hx9 => hx9.elim) (fun v n9 ad9 w9 hp => ?_)
          obtain ⟨rfl, rfl, rfl, rfl⟩ := hp
          show XW _ _ _ _ _ _ 49 _ (_ :: _)
          refine xr_eqz (y := 2) (by unfold prt; rw [if_neg (by omega), if_neg (by omega)]) ?_
          refine xr_iconst C d_Md_lay_49 ?_
          refine xz_icmp_ne (tgt := 70) C d_Md_lay_50 (by decide) (by omega) (by omega) (fun c50 => by exfalso; omega) (fun c50 => ?_)
          refine xr_aload_n C 0 d_Md_lay_53 rfl hl0 ?_
          refine xr_get (k := 29) C xg_Md_62 hw29 (by decide) rfl d_Md_lay_54 ?_
          refine xr_iload C d_Md_lay_57 rfl ?_
          refine xr_aload_n C 0 d_Md_lay_59 rfl hl0 ?_
          refine xr_get (k := 29) C xg_Md_16 hw29 (by decide) rfl d_Md_lay_60 ?_
          refine xr_iload C d_Md_lay_63 rfl ?_
          refine xj_iald (k := 32) C (x) (by omega) hw32 (by decide) (by omega) (by decide) d_Md_lay_65 ?_
          refine xr_eqz (y := ((sSn S x).toNat : Int)) (by omega) ?_
          refine xj_iast (k := 47) C (r.length) (by omega) hw47 (by decide) (by omega) (by decide) d_Md_lay_66 ?_
          refine xr_iinc C d_Md_lay_67 (by decide) rfl ?_
          refine xr_aload_n C 0 d_Md_lay_70 rfl hl0 ?_
          refine xr_get (k := 29) C xg_Md_7 hw29 (by decide) rfl d_Md_lay_71 ?_
          refine xr_iload C d_Md_lay_74 rfl ?_
          refine xj_iald (k := 30) C (x) (by omega) hw30 (by decide) (by omega) (by decide) d_Md_lay_76 ?_
          refine xr_callS C (m_Md_parts (x := sg x) (by have := hA.2 x; omega)) xm_Md_93 x2_Md_parts (by decide) (by decide) (Nat.le_of_ble_eq_true rfl) rfl d_Md_lay_77 (fun En n9 ad9 w9 hx9 => hx9.elim) (fun v n9 ad9 w9 hp => ?_)
          obtain ⟨rfl, rfl, rfl, rfl⟩ := hp
          show XW _ _ _ _ _ _ 80 _ (_ :: _)
          refine xr_eqz (y := 2) (by unfold prt; rw [if_neg (by omega), if_neg (by omega)]) ?_
          refine xz_if_le (tgt := 100) C d_Md_lay_80 (by decide) (by omega) (fun c80 => by exfalso; omega) (fun c80 => ?_)
          refine xr_aload_n C 0 d_Md_lay_83 rfl hl0 ?_
          refine xr_get (k := 29) C xg_Md_62 hw29 (by decide) rfl d_Md_lay_84 ?_
          refine xr_iload C d_Md_lay_87 rfl ?_
          refine xr_aload_n C 0 d_Md_lay_89 rfl hl0 ?_
          refine xr_get (k := 29) C xg_Md_13 hw29 (by decide) rfl d_Md_lay_90 ?_
          refine xr_iload C d_Md_lay_93 rfl ?_
          refine xj_iald (k := 31) C (x) (by omega) hw31 (by decide) (by omega) (by decide) d_Md_lay_95 ?_
          refine xr_eqz (y := ((sFs S x).toNat : Int)) (by omega) ?_
          refine xj_iast (k := 47) C (r.length + 1) (by omega) rfl (by decide) (by omega) (by decide) d_Md_lay_96 ?_
          refine xr_iinc C d_Md_lay_97 (by decide) rfl ?_
          refine xr_goto (tgt := 13) C d_Md_lay_100 (by decide) ?_
          refine ih _ _ _ ((sFs S x).toNat :: (sSn S x).toNat :: r) (dn ++ [x]) (n + 1) (h + 1) _ ?_ rfl rfl (fun k h1 h2 => (va_ne h1).trans ((va_ne h1).trans ((va_ne h2).trans (hfr k h1 h2)))) ⟨va_eq, (va_ne (by omega)).trans va_eq, TD_up (TD_up hTD.2 (Nat.le_refl _)) (by omega)⟩ (by rw [hn]; exact DN_add hDN) ?_ (fun y hy => ?_) (by rw [List.length_append, hn]; rfl) (by first | omega | (simp only [List.length_cons]; omega)) hl0 hl2 hl3 rfl (by show some (Value.int (zI ((h : Int) + -1 + 1 + 1))) = _; rw [show ((h : Int) + -1 + 1 + 1) = ((h + 1 : Nat) : Int) by omega])
          · rw [List.flatMap_cons, ly_2 (S := S) (x := x) (by omega) (by omega)] at hm
            simp only [List.flatMap_cons, List.length_append, List.length_cons, List.length_nil] at hm ⊢
            omega
          · rw [← hcat, show (x :: r).flatMap (lyS S) = lyS S x ++ r.flatMap (lyS S) from List.flatMap_cons, ly_2 (S := S) (x := x) (by omega) (by omega)]
            simp
          · rcases List.mem_cons.mp hy with rfl | hy
            · omega
            · rcases List.mem_cons.mp hy with rfl | hy
              · omega
              · exact hall y (List.mem_cons_of_mem _ hy)
  refine xr_iconst C d_Md_lay_0 ?_
  refine xr_istore C d_Md_lay_1 (by decide) ?_
  refine xr_iconst C d_Md_lay_3 ?_
  refine xr_istore C d_Md_lay_4 (by decide) ?_
  refine xr_aload_n C 0 d_Md_lay_6 rfl rfl ?_
  refine xr_get (k := 29) C xg_Md_62 hw29 (by decide) rfl d_Md_lay_7 ?_
  refine xr_iconst C d_Md_lay_10 ?_
  refine xr_iload_n C 1 d_Md_lay_11 rfl rfl ?_
  refine xj_iast (k := 47) C (0) (by omega) hw47 (by decide) (by omega) (by decide) d_Md_lay_12 ?_
  refine lp ((lyS S t).length + 1) _ (va_up td0 0 (t : Int)) f0 [t] [] 0 1 _ (by simp) rfl hw44 (fun k h1 h2 => va_ne h1) ⟨va_eq, trivial⟩ (fun i x hx => by simp at hx) (by simp) (fun y hy => by rw [List.mem_singleton.mp hy]; exact ht) rfl rfl rfl rfl rfl rfl rfl
