/-- how many of the first i places match -/
def mc (low : Nat → Int) (l : List Nat) (i : Nat) : Nat := ((l.take i).filter (fun y => decide (low y ≠ -1))).length
theorem mc_succ {low : Nat → Int} {l : List Nat} {i x : Nat} (hx : l[i]? = some x) : mc low l (i + 1) = mc low l i + (if low x ≠ -1 then 1 else 0) := by
  unfold mc
  rw [List.take_add_one, hx, List.filter_append, List.length_append]
  by_cases q : low x = -1
  · rw [if_neg (by simp [q])]; simp [q]
  · rw [if_pos q]; simp [q]
theorem mc_le (low : Nat → Int) (l : List Nat) (i : Nat) : mc low l i ≤ l.length := by
  unfold mc
  refine Nat.le_trans (List.length_filter_le _ _) ?_
  rw [List.length_take]
  omega
theorem mc_seg {S : xS} (hT : Tb S) {t : Nat} (ht : t < sN S) {low : Nat → Int} {k y : Nat} (h : (lyS S t)[k]? = some y) : mc low (lyS S t) (k + (lyS S y).length) = mc low (lyS S t) (k + 1) ↔ ∀ z ∈ (lyS S y).tail, low z = -1 := by
  obtain ⟨r, hr⟩ := ly_sub hT t ht k y h
  have hs := (hT.2.1 y (ly_mem hT ht h)).1
  have e1 : (lyS S t).take (k + (lyS S y).length) = (lyS S t).take k ++ lyS S y := by
    rw [List.take_add, hr, List.take_append_of_le_length (Nat.le_refl _), List.take_length]
  have e2 : (lyS S t).take (k + 1) = (lyS S t).take k ++ [y] := by rw [List.take_add_one, h]; rfl
  have e3 : lyS S y = y :: (lyS S y).tail := by rw [ly_n hs]; rfl
  unfold mc
  rw [e1, e2, e3, List.filter_append, List.filter_append, List.length_append, List.length_append, List.tail_cons]
  have e4 : ((y :: (lyS S y).tail).filter (fun y => decide (low y ≠ -1))).length = ([y].filter (fun y => decide (low y ≠ -1))).length + ((lyS S y).tail.filter (fun y => decide (low y ≠ -1))).length := by
    rw [← List.length_append, ← List.filter_append]
    rfl
  rw [e4]
  constructor
  · intro q z hz
    have : ((lyS S y).tail.filter (fun y => decide (low y ≠ -1))) = [] := List.eq_nil_of_length_eq_zero (by omega)
    have := List.filter_eq_nil_iff.mp this z hz
    simpa using this
  · intro q
    have : ((lyS S y).tail.filter (fun y => decide (low y ≠ -1))) = [] := List.filter_eq_nil_iff.mpr (fun z hz => by simp [q z hz])
    rw [this]
    simp
/-- the place of the next step, or -1 -/
def plS (S : xS) (n : Nat) (rl : Nat → Int) (us : Nat → Bool) (t : Nat) : Int := if fnS S (lowR S n rl us) t = -1 then -1 else ((skT S n rl us t).2.2 : Int)
theorem pl_none {S : xS} {n : Nat} {rl rr : Nat → Int} {us : Nat → Bool} (hT : Tb S) (hR : RG S n rl rr) {t : Nat} (ht : t < sN S) (h : ∀ q y : Nat, (lyS S t)[q]? = some y → fnS S (lowR S n rl us) y < 0) : plS S n rl us t = -1 := by
  unfold plS
  by_cases e : fnS S (lowR S n rl us) t = -1
  · rw [if_pos e]
  · exfalso
    obtain ⟨g1, g2, g3, -⟩ := stp_at hT hR ht e
    have := h _ _ (PT_at hT ht g1)
    omega
theorem pl_some {S : xS} {n : Nat} {rl rr : Nat → Int} {us : Nat → Bool} (hT : Tb S) (hR : RG S n rl rr) {t : Nat} (ht : t < sN S) {k y : Nat} (hy : (lyS S t)[k]? = some y) (h0 : 0 ≤ fnS S (lowR S n rl us) y) (h : ∀ q y, q < k → (lyS S t)[q]? = some y → fnS S (lowR S n rl us) y < 0) : plS S n rl us t = (k : Int) := by
  unfold plS
  by_cases e : fnS S (lowR S n rl us) t = -1
  · have := fn_all hT (lowR_ge S n rl us) ht e y (List.mem_of_getElem? hy)
    omega
  · rw [if_neg e]
    obtain ⟨g1, g2, g3, g4, g5, g6, g7, g8, g9⟩ := stp_at hT hR ht e
    have ha := PT_at hT ht g1
    by_cases q1 : k < (skT S n rl us t).2.2
    · have := g9 k y q1 hy
      omega
    · by_cases q2 : (skT S n rl us t).2.2 < k
      · have := h _ _ q2 ha
        omega
      · omega
set_option maxHeartbeats 4000000 in
set_option maxRecDepth 100000 in
theorem m_Md_placeOf {L : Launch} {D : va_G} {cA : Nat → ClassId} {base : Nat} {ad : Nat → Nat} {w : Nat → va_E} {S : xS} {n : Nat} {ro sp nr ns th : Int} {se fa so : Bool} (hMT : MT ad cA w S (n : Int) ro sp nr ns th se fa so) (hT : Tb S) {rl rr : Nat → Int} (hn : n ≤ 16) (hw37 : w 37 = xIA (cA 0) 16 rl) (hw38 : w 38 = xIA (cA 0) 16 rr) (hR : RG S n rl rr) {f : Nat → Int} {us : Nat → Bool} (hw54 : w 54 = xIA (cA 1) 16 f) (hus : ∀ r, r < n → f r = xb (us r)) {g4 g5 g6 g7 g8 m2 h3 : Nat → Int} (hw44 : w 44 = xIA (cA 0) 1001 g4) (hw45 : w 45 = xIA (cA 0) 1001 g5) (hw46 : w 46 = xIA (cA 0) 1001 g6) (hw47 : w 47 = xIA (cA 0) 1100 g7) (hw48 : w 48 = xIA (cA 0) 6 g8) (hw52 : w 52 = xIA (cA 1) 1001 m2) (hw53 : w 53 = xIA (cA 0) 1002 h3) {t : Nat} (ht : t < sN S) : XM L D cA base y_Md_placeOf c_Md_placeOf 4 (some .int) (xrm 4 0 0) [.ref (ad 29), .int (zI (t : Int))] 56 ad w (xRet 56 ad (fun z w' => z = plS S n rl us t ∧ ∃ Z g : Nat → Int, w' 44 = xIA (cA 0) 1001 Z ∧ DN Z (lyS S t) ∧ w' 45 = xIA (cA 0) 1001 g ∧ ARD S t g (lyS S t).length ∧ (∃ q, w' 46 = xIA (cA 0) 1001 q) ∧ (∃ q, w' 47 = xIA (cA 0) 1100 q) ∧ (∃ q, w' 48 = xIA (cA 0) 6 q) ∧ (∃ q, w' 52 = xIA (cA 1) 1001 q) ∧ (∃ q, w' 53 = xIA (cA 0) 1002 q) ∧ ∀ k, k ≠ 44 → k ≠ 45 → k ≠ 46 → k ≠ 47 → k ≠ 48 → k ≠ 52 → k ≠ 53 → w' k = w k)) xF := by
  refine xm_of (by decide +kernel) (by simp [Value.category]) (Nat.le_of_ble_eq_true rfl) (fun G C E _ => ?_)
  obtain ⟨sg, fs, sn, wt, pl, dp, ho, hw29, hw30, hw31, hw32, hw33, hw34, hw35, hw36, hA⟩ := id hMT
  have hN := hT.1
  have hlen := lyS_len hT ht
  have hpl := (hT.2.1 t ht).2.2.2.2.2
  have lp2 : ∀ (w1 : Nat → va_E) (Z g gg mt ah : Nat → Int), DN Z (lyS S t) → ARD S t g (lyS S t).length → w1 44 = xIA (cA 0) 1001 Z → w1 45 = xIA (cA 0) 1001 g → (∃ q, w1 46 = xIA (cA 0) 1001 q) → (∃ q, w1 47 = xIA (cA 0) 1100 q) → (∃ q, w1 48 = xIA (cA 0) 6 q) → w1 52 = xIA (cA 1) 1001 mt → w1 53 = xIA (cA 0) 1002 ah → (∀ i y, i < (lyS S t).length → (lyS S t)[i]? = some y → mt i = xb (decide (lowR S n rl us y ≠ -1))) → (∀ i, i ≤ (lyS S t).length → ah i = (mc (lowR S n rl us) (lyS S t) i : Int)) → (∀ k, k ≠ 44 → k ≠ 45 → k ≠ 46 → k ≠ 47 → k ≠ 48 → k ≠ 52 → k ≠ 53 → w1 k = w k) → ∀ (m k : Nat) (lv : Nat → Option Value), (lyS S t).length + 1 ≤ k + m → k ≤ (lyS S t).length → (∀ q y, q < k → (lyS S t)[q]? = some y → fnS S (lowR S n rl us) y < 0) → lv 0 = some (.ref (ad 29)) → lv 2 = some (.int (zI ((lyS S t).length : Int))) → lv 3 = some (.int (zI (k : Int))) → XW G 56 ad w1 0 0 82 lv [] := by
    intro w1 Z g gg mt ah hDZ hARD hw44 hw45 hw46 hw47 hw48 hw52 hw53 hmt hah hfr m
    have hw29 := (hfr 29 (by decide) (by decide) (by decide) (by decide) (by decide) (by decide) (by decide)).trans hw29
    have hw34 := (hfr 34 (by decide) (by decide) (by decide) (by decide) (by decide) (by decide) (by decide)).trans hw34
    induction m with
    | zero => intro k lv h1 h2; exact absurd h1 (by omega)
    | succ m ih =>
      intro k lv h1 h2 hbe hq0 hq2 hq3
      refine xr_iload_n C 3 d_Md_placeOf_82 rfl hq3 ?_
      refine xr_iload_n C 2 d_Md_placeOf_83 rfl hq2 ?_
      refine xz_icmp_ge (tgt := 133) C d_Md_placeOf_84 (by decide) (by omega) (by omega) (fun c84 => ?_) (fun c84 => ?_)
      · skip
        refine xr_iconst C d_Md_placeOf_133 ?_
        exact xr_iret C E ⟨rfl, rfl, _, rfl, (pl_none hT hR ht (fun q y hq => hbe q y (by have := (List.getElem?_eq_some_iff.mp hq).1; omega) hq)).symm, Z, g, hw44, hDZ, hw45, hARD, hw46, hw47, hw48, ⟨mt, hw52⟩, ⟨ah, hw53⟩, hfr⟩ (by decide) (by decide) d_Md_placeOf_134
      · skip
        have hx9 : k < (lyS S t).length := by omega
        obtain ⟨y, hy⟩ : ∃ x, (lyS S t)[k]? = some x := ⟨_, List.getElem?_eq_getElem hx9⟩
        have hyN := ly_mem hT ht hy
        have hm9 := hmt k y hx9 hy
        have hen := ly_end hT ht hy
        have hly := lyS_len hT hyN
        have q5 := (hA.1 y hyN).2.2.2.2.1
        have hge := fn_ge hT (lowR_ge S n rl us) hyN
        have hsg := mc_seg hT ht (low := lowR S n rl us) hy
        have ha1 := hah (k + 1) (by omega)
        have ha2 := hah (k + (lyS S y).length) (by omega)
        have hml1 := mc_le (lowR S n rl us) (lyS S t) (k + 1)
        have hml2 := mc_le (lowR S n rl us) (lyS S t) (k + (lyS S y).length)
        have hpy := ly_pos S y
        refine xr_aload_n C 0 d_Md_placeOf_87 rfl hq0 ?_
        refine xr_get (k := 29) C xg_Md_77 hw29 (by decide) rfl d_Md_placeOf_88 ?_
        refine xr_iload_n C 3 d_Md_placeOf_91 rfl hq3 ?_
        refine xj_zald (k := 52) C (k) (by omega) hw52 (by decide) (by omega) (by decide) d_Md_placeOf_92 ?_
        rw [hm9]
        refine xb_if_eq (tgt := 127) C d_Md_placeOf_93 (by decide)  (fun c93 => ?_) (fun c93 => ?_)
        · skip
          have hng : fnS S (lowR S n rl us) y < 0 := by
            rcases Int.lt_or_le (fnS S (lowR S n rl us) y) 0 with q | q
            · exact q
            · exact absurd (hge.mp q).1 (of_decide_eq_false c93)
          refine xr_iinc C d_Md_placeOf_127 (by decide) hq3 ?_
          refine xr_goto (tgt := 82) C d_Md_placeOf_130 (by decide) ?_
          exact ih (k + 1) _ (by omega) (by omega) (fun q y9 hq hy9 => by
            by_cases e : q = k
            · subst e
              rw [hy] at hy9
              cases hy9
              exact hng
            · exact hbe q y9 (by omega) hy9) hq0 hq2 rfl
        · skip
          refine xr_aload_n C 0 d_Md_placeOf_96 rfl hq0 ?_
          refine xr_get (k := 29) C xg_Md_80 hw29 (by decide) rfl d_Md_placeOf_97 ?_
          refine xr_iload_n C 3 d_Md_placeOf_100 rfl hq3 ?_
          refine xr_aload_n C 0 d_Md_placeOf_101 rfl hq0 ?_
          refine xr_get (k := 29) C xg_Md_22 hw29 (by decide) rfl d_Md_placeOf_102 ?_
          refine xr_aload_n C 0 d_Md_placeOf_105 rfl hq0 ?_
          refine xr_get (k := 29) C xg_Md_53 hw29 (by decide) rfl d_Md_placeOf_106 ?_
          refine xr_iload_n C 3 d_Md_placeOf_109 rfl hq3 ?_
          refine xj_iald (k := 44) C (k) (by omega) hw44 (by decide) (by omega) (by decide) d_Md_placeOf_110 ?_
          refine xr_eqz (y := (y : Int)) (hDZ k y hy) ?_
          refine xj_iald (k := 34) C (y) (by omega) hw34 (by decide) (by omega) (by decide) d_Md_placeOf_111 ?_
          refine xz_iadd C d_Md_placeOf_112 ?_
          refine xj_iald (k := 53) C (k + (lyS S y).length) (by omega) hw53 (by decide) (by omega) (by decide) d_Md_placeOf_113 ?_
          refine xr_aload_n C 0 d_Md_placeOf_114 rfl hq0 ?_
          refine xr_get (k := 29) C xg_Md_80 hw29 (by decide) rfl d_Md_placeOf_115 ?_
          refine xr_iload_n C 3 d_Md_placeOf_118 rfl hq3 ?_
          refine xr_iconst C d_Md_placeOf_119 ?_
          refine xz_iadd C d_Md_placeOf_120 ?_
          refine xj_iald (k := 53) C (k + 1) (by omega) hw53 (by decide) (by omega) (by decide) d_Md_placeOf_121 ?_
          refine xz_icmp_ne (tgt := 127) C d_Md_placeOf_122 (by decide) (by omega) (by omega) (fun c122 => ?_) (fun c122 => ?_)
          · skip
            have hng : fnS S (lowR S n rl us) y < 0 := by
              rcases Int.lt_or_le (fnS S (lowR S n rl us) y) 0 with q | q
              · exact q
              · exact absurd (hsg.mpr (hge.mp q).2) (by omega)
            refine xr_iinc C d_Md_placeOf_127 (by decide) hq3 ?_
            refine xr_goto (tgt := 82) C d_Md_placeOf_130 (by decide) ?_
            exact ih (k + 1) _ (by omega) (by omega) (fun q y9 hq hy9 => by
              by_cases e : q = k
              · subst e
                rw [hy] at hy9
                cases hy9
                exact hng
              · exact hbe q y9 (by omega) hy9) hq0 hq2 rfl
          · skip
            have hp0 : 0 ≤ fnS S (lowR S n rl us) y := hge.mpr ⟨of_decide_eq_true c93, hsg.mp (by omega)⟩
            refine xr_iload_n C 3 d_Md_placeOf_125 rfl hq3 ?_
            exact xr_iret C E ⟨rfl, rfl, _, rfl, (pl_some hT hR ht hy hp0 hbe).symm, Z, g, hw44, hDZ, hw45, hARD, hw46, hw47, hw48, ⟨mt, hw52⟩, ⟨ah, hw53⟩, hfr⟩ (by decide) (by decide) d_Md_placeOf_126
  have lp1 : ∀ (Z g : Nat → Int), DN Z (lyS S t) → ARD S t g (lyS S t).length → ∀ (m k : Nat) (w1 : Nat → va_E) (g6 g7 g8 mt ah : Nat → Int) (lv : Nat → Option Value), (lyS S t).length + 1 ≤ k + m → k ≤ (lyS S t).length → w1 44 = xIA (cA 0) 1001 Z → w1 45 = xIA (cA 0) 1001 g → w1 46 = xIA (cA 0) 1001 g6 → w1 47 = xIA (cA 0) 1100 g7 → w1 48 = xIA (cA 0) 6 g8 → w1 52 = xIA (cA 1) 1001 mt → w1 53 = xIA (cA 0) 1002 ah → (∀ i y, i < k → (lyS S t)[i]? = some y → mt i = xb (decide (lowR S n rl us y ≠ -1))) → (∀ i, i ≤ k → ah i = (mc (lowR S n rl us) (lyS S t) i : Int)) → (∀ k, k ≠ 44 → k ≠ 45 → k ≠ 46 → k ≠ 47 → k ≠ 48 → k ≠ 52 → k ≠ 53 → w1 k = w k) → lv 0 = some (.ref (ad 29)) → lv 2 = some (.int (zI ((lyS S t).length : Int))) → lv 3 = some (.int (zI (k : Int))) → XW G 56 ad w1 0 0 20 lv [] := by
    intro Z g hDZ hARD m
    induction m with
    | zero => intro k w1 g6 g7 g8 mt ah lv h1 h2; exact absurd h1 (by omega)
    | succ m ih =>
      intro k w1 g6 g7 g8 mt ah lv h1 h2 hw44 hw45 hw46 hw47 hw48 hw52 hw53 hmt hah hfr hq0 hq2 hq3
      have hw29 := (hfr 29 (by decide) (by decide) (by decide) (by decide) (by decide) (by decide) (by decide)).trans hw29
      have hw37 := (hfr 37 (by decide) (by decide) (by decide) (by decide) (by decide) (by decide) (by decide)).trans hw37
      have hw38 := (hfr 38 (by decide) (by decide) (by decide) (by decide) (by decide) (by decide) (by decide)).trans hw38
      have hw54 := (hfr 54 (by decide) (by decide) (by decide) (by decide) (by decide) (by decide) (by decide)).trans hw54
      refine xr_iload_n C 3 d_Md_placeOf_20 rfl hq3 ?_
      refine xr_iload_n C 2 d_Md_placeOf_21 rfl hq2 ?_
      refine xz_icmp_ge (tgt := 80) C d_Md_placeOf_22 (by decide) (by omega) (by omega) (fun c22 => ?_) (fun c22 => ?_)
      · skip
        refine xr_iconst C d_Md_placeOf_80 ?_
        refine xr_istore_n C 3 d_Md_placeOf_81 rfl (by decide) ?_
        exact lp2 _ Z g Z mt ah hDZ hARD hw44 hw45 ⟨g6, hw46⟩ ⟨g7, hw47⟩ ⟨g8, hw48⟩ hw52 hw53 (fun i y hi => hmt i y (by omega)) (fun i hi => hah i (by omega)) hfr ((lyS S t).length + 1) 0 _ (by omega) (by omega) (fun q y hq => by omega) hq0 hq2 rfl
      · skip
        have hx9 : k < (lyS S t).length := by omega
        obtain ⟨y, hy⟩ : ∃ x, (lyS S t)[k]? = some x := ⟨_, List.getElem?_eq_getElem hx9⟩
        have hak := hah k (by omega)
        have hmk := mc_succ (low := lowR S n rl us) hy
        have hml := mc_le (lowR S n rl us) (lyS S t) k
        have hli := lowR_in S n rl us y
        refine xr_aload_n C 0 d_Md_placeOf_25 rfl hq0 ?_
        refine xr_get (k := 29) C xg_Md_77 hw29 (by decide) rfl d_Md_placeOf_26 ?_
        refine xr_iload_n C 3 d_Md_placeOf_29 rfl hq3 ?_
        refine xr_aload_n C 0 d_Md_placeOf_30 rfl hq0 ?_
        refine xr_iload_n C 3 d_Md_placeOf_31 rfl hq3 ?_
        refine xr_callV (k9 := 29) C (m_Md_ruleAt (w := w1) (mt_fr hMT (fun k a b => hfr k (by omega) (by omega) (by omega) (by omega) (by omega) (by omega) (by omega))) hT hn hw37 hw38 hR ht hw44 hDZ (pos := k) hy hw46 hw47 hw48 hw54 hus) xm_Md_144 x2_Md_ruleAt hw29 (by decide) rfl (by decide) (by decide) (Nat.le_of_ble_eq_true rfl) rfl d_Md_placeOf_32 (fun En n9 ad9 w9 hx9 => hx9.elim) (fun v n9 ad9 w9 hp => ?_)
        obtain ⟨rfl, rfl, z, rfl, rfl, ⟨γ, hw48', -⟩, ⟨h6, hw46'⟩, ⟨h7, hw47'⟩, hfr'⟩ := hp
        have hw29 := (hfr' 29 (by decide) (by decide) (by decide)).trans hw29
        have hw44 := (hfr' 44 (by decide) (by decide) (by decide)).trans hw44
        have hw45 := (hfr' 45 (by decide) (by decide) (by decide)).trans hw45
        have hw52 := (hfr' 52 (by decide) (by decide) (by decide)).trans hw52
        have hw53 := (hfr' 53 (by decide) (by decide) (by decide)).trans hw53
        show XW _ _ _ _ _ _ 35 _ (_ :: _)
        refine xr_iconst C d_Md_placeOf_35 ?_
        refine xz_icmp_eq (tgt := 43) C d_Md_placeOf_36 (by decide) (by omega) (by omega) (fun c36 => ?_) (fun c36 => ?_)
        · skip
          have hd9 : decide (lowR S n rl us y ≠ -1) = false := decide_eq_false (by omega)
          rw [if_neg (by omega)] at hmk
          refine xr_iconst C d_Md_placeOf_43 ?_
          refine xj_zast (k := 52) C (k) (by omega) hw52 (by decide) (by omega) (by decide) (by omega) d_Md_placeOf_44 ?_
          refine xr_aload_n C 0 d_Md_placeOf_45 rfl hq0 ?_
          refine xr_get (k := 29) C xg_Md_80 hw29 (by decide) rfl d_Md_placeOf_46 ?_
          refine xr_iload_n C 3 d_Md_placeOf_49 rfl hq3 ?_
          refine xr_iconst C d_Md_placeOf_50 ?_
          refine xz_iadd C d_Md_placeOf_51 ?_
          refine xr_aload_n C 0 d_Md_placeOf_52 rfl hq0 ?_
          refine xr_get (k := 29) C xg_Md_80 hw29 (by decide) rfl d_Md_placeOf_53 ?_
          refine xr_iload_n C 3 d_Md_placeOf_56 rfl hq3 ?_
          refine xj_iald (k := 53) C (k) (by omega) hw53 (by decide) (by omega) (by decide) d_Md_placeOf_57 ?_
          refine xr_aload_n C 0 d_Md_placeOf_58 rfl hq0 ?_
          refine xr_get (k := 29) C xg_Md_77 hw29 (by decide) rfl d_Md_placeOf_59 ?_
          refine xr_iload_n C 3 d_Md_placeOf_62 rfl hq3 ?_
          refine xj_zald (k := 52) C (k) (by omega) rfl (by decide) (by omega) (by decide) d_Md_placeOf_63 ?_
          rw [va_eq]
          refine xz_if_eq (tgt := 71) C d_Md_placeOf_64 (by decide) (by omega) (fun c64 => ?_) (fun c64 => ?_)
          · skip
            refine xr_iconst C d_Md_placeOf_71 ?_
            refine xz_iadd C d_Md_placeOf_72 ?_
            refine xj_iast (k := 53) C (k + 1) (by omega) hw53 (by decide) (by omega) (by decide) d_Md_placeOf_73 ?_
            refine xr_iinc C d_Md_placeOf_74 (by decide) hq3 ?_
            refine xr_goto (tgt := 20) C d_Md_placeOf_77 (by decide) ?_
            exact ih (k + 1) _ h6 h7 γ _ _ _ (by omega) (by omega) hw44 hw45 hw46' hw47' hw48' rfl rfl (fun i y9 hi hy9 => by
              by_cases e : i = k
              · subst e
                rw [hy] at hy9
                cases hy9
                rw [va_eq, hd9]
                rfl
              · rw [va_ne e]; exact hmt i y9 (by omega) hy9) (fun i hi => by
              by_cases e : i = k + 1
              · rw [e, va_eq, hmk]
                omega
              · rw [va_ne e]; exact hah i (by omega)) (fun j a b c d e f g => (va_ne g).trans ((va_ne f).trans ((hfr' j c d e).trans (hfr j a b c d e f g)))) hq0 hq2 rfl
          · skip
            refine xr_iconst C d_Md_placeOf_67 ?_
            refine xr_goto (tgt := 72) C d_Md_placeOf_68 (by decide) ?_
            refine xz_iadd C d_Md_placeOf_72 ?_
            refine xj_iast (k := 53) C (k + 1) (by omega) hw53 (by decide) (by omega) (by decide) d_Md_placeOf_73 ?_
            refine xr_iinc C d_Md_placeOf_74 (by decide) hq3 ?_
            refine xr_goto (tgt := 20) C d_Md_placeOf_77 (by decide) ?_
            exact ih (k + 1) _ h6 h7 γ _ _ _ (by omega) (by omega) hw44 hw45 hw46' hw47' hw48' rfl rfl (fun i y9 hi hy9 => by
              by_cases e : i = k
              · subst e
                rw [hy] at hy9
                cases hy9
                rw [va_eq, hd9]
                rfl
              · rw [va_ne e]; exact hmt i y9 (by omega) hy9) (fun i hi => by
              by_cases e : i = k + 1
              · rw [e, va_eq, hmk]
                omega
              · rw [va_ne e]; exact hah i (by omega)) (fun j a b c d e f g => (va_ne g).trans ((va_ne f).trans ((hfr' j c d e).trans (hfr j a b c d e f g)))) hq0 hq2 rfl
        · skip
          have hd9 : decide (lowR S n rl us y ≠ -1) = true := decide_eq_true (by omega)
          rw [if_pos (by omega)] at hmk
          refine xr_iconst C d_Md_placeOf_39 ?_
          refine xr_goto (tgt := 44) C d_Md_placeOf_40 (by decide) ?_
          refine xj_zast (k := 52) C (k) (by omega) hw52 (by decide) (by omega) (by decide) (by omega) d_Md_placeOf_44 ?_
          refine xr_aload_n C 0 d_Md_placeOf_45 rfl hq0 ?_
          refine xr_get (k := 29) C xg_Md_80 hw29 (by decide) rfl d_Md_placeOf_46 ?_
          refine xr_iload_n C 3 d_Md_placeOf_49 rfl hq3 ?_
          refine xr_iconst C d_Md_placeOf_50 ?_
          refine xz_iadd C d_Md_placeOf_51 ?_
          refine xr_aload_n C 0 d_Md_placeOf_52 rfl hq0 ?_
          refine xr_get (k := 29) C xg_Md_80 hw29 (by decide) rfl d_Md_placeOf_53 ?_
          refine xr_iload_n C 3 d_Md_placeOf_56 rfl hq3 ?_
          refine xj_iald (k := 53) C (k) (by omega) hw53 (by decide) (by omega) (by decide) d_Md_placeOf_57 ?_
          refine xr_aload_n C 0 d_Md_placeOf_58 rfl hq0 ?_
          refine xr_get (k := 29) C xg_Md_77 hw29 (by decide) rfl d_Md_placeOf_59 ?_
          refine xr_iload_n C 3 d_Md_placeOf_62 rfl hq3 ?_
          refine xj_zald (k := 52) C (k) (by omega) rfl (by decide) (by omega) (by decide) d_Md_placeOf_63 ?_
          rw [va_eq]
          refine xz_if_eq (tgt := 71) C d_Md_placeOf_64 (by decide) (by omega) (fun c64 => ?_) (fun c64 => ?_)
          · skip
            refine xr_iconst C d_Md_placeOf_71 ?_
            refine xz_iadd C d_Md_placeOf_72 ?_
            refine xj_iast (k := 53) C (k + 1) (by omega) hw53 (by decide) (by omega) (by decide) d_Md_placeOf_73 ?_
            refine xr_iinc C d_Md_placeOf_74 (by decide) hq3 ?_
            refine xr_goto (tgt := 20) C d_Md_placeOf_77 (by decide) ?_
            exact ih (k + 1) _ h6 h7 γ _ _ _ (by omega) (by omega) hw44 hw45 hw46' hw47' hw48' rfl rfl (fun i y9 hi hy9 => by
              by_cases e : i = k
              · subst e
                rw [hy] at hy9
                cases hy9
                rw [va_eq, hd9]
                rfl
              · rw [va_ne e]; exact hmt i y9 (by omega) hy9) (fun i hi => by
              by_cases e : i = k + 1
              · rw [e, va_eq, hmk]
                omega
              · rw [va_ne e]; exact hah i (by omega)) (fun j a b c d e f g => (va_ne g).trans ((va_ne f).trans ((hfr' j c d e).trans (hfr j a b c d e f g)))) hq0 hq2 rfl
          · skip
            refine xr_iconst C d_Md_placeOf_67 ?_
            refine xr_goto (tgt := 72) C d_Md_placeOf_68 (by decide) ?_
            refine xz_iadd C d_Md_placeOf_72 ?_
            refine xj_iast (k := 53) C (k + 1) (by omega) hw53 (by decide) (by omega) (by decide) d_Md_placeOf_73 ?_
            refine xr_iinc C d_Md_placeOf_74 (by decide) hq3 ?_
            refine xr_goto (tgt := 20) C d_Md_placeOf_77 (by decide) ?_
            exact ih (k + 1) _ h6 h7 γ _ _ _ (by omega) (by omega) hw44 hw45 hw46' hw47' hw48' rfl rfl (fun i y9 hi hy9 => by
              by_cases e : i = k
              · subst e
                rw [hy] at hy9
                cases hy9
                rw [va_eq, hd9]
                rfl
              · rw [va_ne e]; exact hmt i y9 (by omega) hy9) (fun i hi => by
              by_cases e : i = k + 1
              · rw [e, va_eq, hmk]
                omega
              · rw [va_ne e]; exact hah i (by omega)) (fun j a b c d e f g => (va_ne g).trans ((va_ne f).trans ((hfr' j c d e).trans (hfr j a b c d e f g)))) hq0 hq2 rfl
  refine xr_aload_n C 0 d_Md_placeOf_0 rfl rfl ?_
  refine xr_iload_n C 1 d_Md_placeOf_1 rfl rfl ?_
  refine xr_aload_n C 0 d_Md_placeOf_2 rfl rfl ?_
  refine xr_get (k := 29) C xg_Md_53 hw29 (by decide) rfl d_Md_placeOf_3 ?_
  refine xr_iconst C d_Md_placeOf_6 ?_
  show XW _ _ _ _ _ _ _ _ (.int (zI (xb true)) :: _)
  refine xr_callV (k9 := 29) C (m_Md_layA (t := t) hMT hT ht hw47 hw44 hw45) xm_Md_117 x2_Md_lay hw29 (by decide) rfl (by decide) (by decide) (Nat.le_of_ble_eq_true rfl) rfl d_Md_placeOf_7 (fun En n9 ad9 w9 hx9 => hx9.elim) (fun v n9 ad9 w9 hp => ?_)
  obtain ⟨rfl, rfl, z, rfl, rfl, td, Z, g, hw47', hw44', hw45', hfr, hDZ, hARD⟩ := hp
  have hw29 := (hfr 29 (by decide) (by decide) (by decide)).trans hw29
  have hw53 := (hfr 53 (by decide) (by decide) (by decide)).trans hw53
  show XW _ _ _ _ _ _ 10 _ (_ :: _)
  refine xr_istore_n C 2 d_Md_placeOf_10 rfl (by decide) ?_
  refine xr_aload_n C 0 d_Md_placeOf_11 rfl rfl ?_
  refine xr_get (k := 29) C xg_Md_80 hw29 (by decide) rfl d_Md_placeOf_12 ?_
  refine xr_iconst C d_Md_placeOf_15 ?_
  refine xr_iconst C d_Md_placeOf_16 ?_
  refine xj_iast (k := 53) C (0) (by omega) hw53 (by decide) (by omega) (by decide) d_Md_placeOf_17 ?_
  refine xr_iconst C d_Md_placeOf_18 ?_
  refine xr_istore_n C 3 d_Md_placeOf_19 rfl (by decide) ?_
  exact lp1 Z g hDZ hARD ((lyS S t).length + 1) 0 _ g6 td g8 m2 _ _ (by omega) (by omega) hw44' hw45' ((hfr 46 (by decide) (by decide) (by decide)).trans hw46) hw47' ((hfr 48 (by decide) (by decide) (by decide)).trans hw48) ((hfr 52 (by decide) (by decide) (by decide)).trans hw52) rfl (fun i y hi => by omega) (fun i hi => by rw [show i = 0 by omega, va_eq]; rfl) (fun k a b c d e f g => (va_ne g).trans (hfr k d a b)) rfl rfl rfl
