theorem xk_RS_50 : Cond.classLink R_RS 50 "java/lang/IllegalArgumentException" ∈ xTs := xw_mem 229 (by decide +kernel) (by decide +kernel)
theorem xk_RS_171 : Cond.classLink R_RS 171 "java/lang/IllegalStateException" ∈ xTs := xw_mem 331 (by decide +kernel) (by decide +kernel)
theorem xk_RS_128 : Cond.classLink R_RS 128 "java/lang/IndexOutOfBoundsException" ∈ xTs := xw_mem 367 (by decide +kernel) (by decide +kernel)
theorem xi_IA : Cond.initialized "java/lang/IllegalArgumentException" ∈ xTs := xw_mem 11 (by decide +kernel) (by decide +kernel)
theorem xi_IS : Cond.initialized "java/lang/IllegalStateException" ∈ xTs := xw_mem 13 (by decide +kernel) (by decide +kernel)
theorem xi_IO : Cond.initialized "java/lang/IndexOutOfBoundsException" ∈ xTs := xw_mem 14 (by decide +kernel) (by decide +kernel)
theorem ct_1 {ad : Nat → Nat} {cA : Nat → ClassId} {w : Nat → va_E} {S : xS} (h : CT ad cA w S) : w 1 = trO ad (sN S : Int) := by
  obtain ⟨mk, fs, sn, wt, pl, dp, ho, hc, nw, od, h1, -⟩ := h
  exact h1
def xThr (n : Nat) (ad : Nat → Nat) (q : String → (Nat → va_E) → Prop) : xPosx := fun E n' ad' w' => n = n' ∧ ad = ad' ∧ q E w'
theorem mkT_neg {S S' : xS} {s a b z : Int} (h : (z, S') = mkT S s a b) (hz : z < 0) : S' = S := by
  unfold mkT at h
  split at h
  · cases h; omega
  · split at h
    · cases h; rfl
    · cases h; omega
theorem mkT_pos {S S' : xS} {s a b z : Int} (hT : Tb S) (hs : shp s a b (sN S)) (h : (z, S') = mkT S s a b) : Tb S' ∧ -1 ≤ z ∧ z < sN S' ∧ sN S ≤ sN S' := by
  have hN := hT.1
  unfold mkT at h
  split at h
  · rename_i j hj
    cases h
    have := (fnd_some hj).1
    exact ⟨hT, by omega, by omega, Nat.le_refl _⟩
  · rename_i hf
    split at h
    · cases h; exact ⟨hT, by omega, by omega, Nat.le_refl _⟩
    · rename_i hl
      cases h
      exact ⟨tb_push hT hs hf hl, by omega, by show (sN S : Int) < ((sN S + 1 : Nat) : Int); omega, by show sN S ≤ sN S + 1; omega⟩
set_option maxHeartbeats 4000000 in
set_option maxRecDepth 100000 in
theorem m_RS_needTree {L : Launch} {D : va_G} {cA : Nat → ClassId} {base : Nat} {ad : Nat → Nat} {w : Nat → va_E} (hLt : L.stackTraces = false) {kp sq : Nat} {ls : Int} {se : Bool} (hw0 : w 0 = rsO ad kp sq ls se) {t : Int} (hw1 : w 1 = trO ad t) (ht : 0 ≤ t ∧ t ≤ 300) {x : Int} (hx : -2147483648 ≤ x ∧ x < 2147483648) : XM L D cA base y_RS_needTree c_RS_needTree 2 none (xrm 8 1 6) [.ref (ad 0), .int (zI x)] 56 ad w (xVoid 56 ad (fun w' => w = w' ∧ 0 ≤ x ∧ x < t)) (xThr 56 ad (fun E w' => w = w' ∧ E = "java/lang/IndexOutOfBoundsException" ∧ ¬ (0 ≤ x ∧ x < t))) := by
  refine xm_of (by decide +kernel) (by simp [Value.category]) (Nat.le_of_ble_eq_true rfl) (fun G C E _ => ?_)
  refine xr_iload_n C 1 d_RS_needTree_0 rfl rfl ?_
  refine xz_if_lt (tgt := 15) C d_RS_needTree_1 (by decide) (by omega) (fun c1 => ?_) (fun c1 => ?_)
  · skip
    exact xr_throw C E hLt (cls := "java/lang/IndexOutOfBoundsException") (text := "no such tree") (names := ["java/lang/RuntimeException", "java/lang/Exception"]) rfl (by decide +kernel) (by decide +kernel) xk_RS_128 xi_IO (by decide +kernel) xat_IO (by decide +kernel) d_RS_needTree_15 d_RS_needTree_18 d_RS_needTree_19 d_RS_needTree_21 d_RS_needTree_24 (by decide) (by decide) ⟨rfl, rfl, rfl, rfl, by omega⟩ (by decide) (by decide)
  · skip
    refine xr_iload_n C 1 d_RS_needTree_4 rfl rfl ?_
    refine xr_aload_n C 0 d_RS_needTree_5 rfl rfl ?_
    refine xr_get (k := 0) C xg_RS_10 hw0 (by decide) rfl d_RS_needTree_6 ?_
    refine xr_get (k := 1) C xg_RS_110 hw1 (by decide) rfl d_RS_needTree_9 ?_
    refine xz_icmp_lt (tgt := 25) C d_RS_needTree_12 (by decide) (by omega) (by omega) (fun c12 => ?_) (fun c12 => ?_)
    · skip
      exact xr_vret C E ⟨rfl, rfl, rfl, rfl, by omega, by omega⟩ (by decide) (by decide) d_RS_needTree_25
    · skip
      exact xr_throw C E hLt (cls := "java/lang/IndexOutOfBoundsException") (text := "no such tree") (names := ["java/lang/RuntimeException", "java/lang/Exception"]) rfl (by decide +kernel) (by decide +kernel) xk_RS_128 xi_IO (by decide +kernel) xat_IO (by decide +kernel) d_RS_needTree_15 d_RS_needTree_18 d_RS_needTree_19 d_RS_needTree_21 d_RS_needTree_24 (by decide) (by decide) ⟨rfl, rfl, rfl, rfl, by omega⟩ (by decide) (by decide)
set_option maxHeartbeats 4000000 in
set_option maxRecDepth 100000 in
theorem m_RS_needRule {L : Launch} {D : va_G} {cA : Nat → ClassId} {base : Nat} {ad : Nat → Nat} {w : Nat → va_E} (hLt : L.stackTraces = false) {kp sq : Nat} {ls : Int} {se : Bool} (hw0 : w 0 = rsO ad kp sq ls se) {t : Int} (hw12 : w 12 = ruO ad t) (ht : 0 ≤ t ∧ t ≤ 16) {x : Int} (hx : -2147483648 ≤ x ∧ x < 2147483648) : XM L D cA base y_RS_needRule c_RS_needRule 2 none (xrm 8 1 6) [.ref (ad 0), .int (zI x)] 56 ad w (xVoid 56 ad (fun w' => w = w' ∧ 0 ≤ x ∧ x < t)) (xThr 56 ad (fun E w' => w = w' ∧ E = "java/lang/IndexOutOfBoundsException" ∧ ¬ (0 ≤ x ∧ x < t))) := by
  refine xm_of (by decide +kernel) (by simp [Value.category]) (Nat.le_of_ble_eq_true rfl) (fun G C E _ => ?_)
  refine xr_iload_n C 1 d_RS_needRule_0 rfl rfl ?_
  refine xz_if_lt (tgt := 15) C d_RS_needRule_1 (by decide) (by omega) (fun c1 => ?_) (fun c1 => ?_)
  · skip
    exact xr_throw C E hLt (cls := "java/lang/IndexOutOfBoundsException") (text := "no such rule") (names := ["java/lang/RuntimeException", "java/lang/Exception"]) rfl (by decide +kernel) (by decide +kernel) xk_RS_128 xi_IO (by decide +kernel) xat_IO (by decide +kernel) d_RS_needRule_15 d_RS_needRule_18 d_RS_needRule_19 d_RS_needRule_21 d_RS_needRule_24 (by decide) (by decide) ⟨rfl, rfl, rfl, rfl, by omega⟩ (by decide) (by decide)
  · skip
    refine xr_iload_n C 1 d_RS_needRule_4 rfl rfl ?_
    refine xr_aload_n C 0 d_RS_needRule_5 rfl rfl ?_
    refine xr_get (k := 0) C xg_RS_19 hw0 (by decide) rfl d_RS_needRule_6 ?_
    refine xr_get (k := 12) C xg_RS_164 hw12 (by decide) rfl d_RS_needRule_9 ?_
    refine xz_icmp_lt (tgt := 25) C d_RS_needRule_12 (by decide) (by omega) (by omega) (fun c12 => ?_) (fun c12 => ?_)
    · skip
      exact xr_vret C E ⟨rfl, rfl, rfl, rfl, by omega, by omega⟩ (by decide) (by decide) d_RS_needRule_25
    · skip
      exact xr_throw C E hLt (cls := "java/lang/IndexOutOfBoundsException") (text := "no such rule") (names := ["java/lang/RuntimeException", "java/lang/Exception"]) rfl (by decide +kernel) (by decide +kernel) xk_RS_128 xi_IO (by decide +kernel) xat_IO (by decide +kernel) d_RS_needRule_15 d_RS_needRule_18 d_RS_needRule_19 d_RS_needRule_21 d_RS_needRule_24 (by decide) (by decide) ⟨rfl, rfl, rfl, rfl, by omega⟩ (by decide) (by decide)
set_option maxHeartbeats 4000000 in
set_option maxRecDepth 100000 in
theorem m_RS_needPlain {L : Launch} {D : va_G} {cA : Nat → ClassId} {base : Nat} {ad : Nat → Nat} {w : Nat → va_E} (hLt : L.stackTraces = false) {kp sq : Nat} {ls : Int} {se : Bool} (hw0 : w 0 = rsO ad kp sq ls se) {t : Int} {ho : Nat → Int} (hw1 : w 1 = trO ad t) (hw8 : w 8 = xIA (cA 0) 300 ho) (hho : ∀ j, 0 ≤ ho j ∧ ho j < 64) {x : Int} (hx : 0 ≤ x ∧ x < 300) : XM L D cA base y_RS_needPlain c_RS_needPlain 2 none (xrm 8 1 6) [.ref (ad 0), .int (zI x)] 56 ad w (xVoid 56 ad (fun w' => w = w' ∧ ho x.toNat = 0)) (xThr 56 ad (fun E w' => w = w' ∧ E = "java/lang/IllegalArgumentException" ∧ ¬ ho x.toNat = 0)) := by
  refine xm_of (by decide +kernel) (by simp [Value.category]) (Nat.le_of_ble_eq_true rfl) (fun G C E _ => ?_)
  refine xr_aload_n C 0 d_RS_needPlain_0 rfl rfl ?_
  refine xr_get (k := 0) C xg_RS_10 hw0 (by decide) rfl d_RS_needPlain_1 ?_
  refine xr_get (k := 1) C xg_RS_77 hw1 (by decide) rfl d_RS_needPlain_4 ?_
  refine xr_iload_n C 1 d_RS_needPlain_7 rfl rfl ?_
  refine xz_iald (k := 8) C hw8 (by decide) (by omega) (by decide) d_RS_needPlain_8 ?_
  have := hho x.toNat
  refine xz_if_eq (tgt := 22) C d_RS_needPlain_9 (by decide) (by omega) (fun c9 => ?_) (fun c9 => ?_)
  · skip
    exact xr_vret C E ⟨rfl, rfl, rfl, rfl, by omega⟩ (by decide) (by decide) d_RS_needPlain_22
  · skip
    exact xr_throw C E hLt (cls := "java/lang/IllegalArgumentException") (text := "the tree isn't plain") (names := ["java/lang/RuntimeException", "java/lang/Exception"]) rfl (by decide +kernel) (by decide +kernel) xk_RS_50 xi_IA (by decide +kernel) xat_IA (by decide +kernel) d_RS_needPlain_12 d_RS_needPlain_15 d_RS_needPlain_16 d_RS_needPlain_18 d_RS_needPlain_21 (by decide) (by decide) ⟨rfl, rfl, rfl, rfl, by omega⟩ (by decide) (by decide)
set_option maxHeartbeats 4000000 in
set_option maxRecDepth 100000 in
theorem m_RS_needMade {L : Launch} {D : va_G} {cA : Nat → ClassId} {base : Nat} {ad : Nat → Nat} {w : Nat → va_E} (hLt : L.stackTraces = false) {x : Int} (hx : -2147483648 ≤ x ∧ x < 2147483648) : XM L D cA base y_RS_needMade c_RS_needMade 1 (some .int) (xrm 8 1 6) [.int (zI x)] 56 ad w (xRet 56 ad (fun z w' => w = w' ∧ z = x ∧ 0 ≤ x)) (xThr 56 ad (fun E w' => w = w' ∧ E = "java/lang/IllegalStateException" ∧ x < 0)) := by
  refine xm_of (by decide +kernel) (by simp [Value.category]) (Nat.le_of_ble_eq_true rfl) (fun G C E _ => ?_)
  refine xr_iload_n C 0 d_RS_needMade_0 rfl rfl ?_
  refine xz_if_ge (tgt := 14) C d_RS_needMade_1 (by decide) (by omega) (fun c1 => ?_) (fun c1 => ?_)
  · skip
    refine xr_iload_n C 0 d_RS_needMade_14 rfl rfl ?_
    exact xr_iret C E ⟨rfl, rfl, x, rfl, rfl, rfl, by omega⟩ (by decide) (by decide) d_RS_needMade_15
  · skip
    exact xr_throw C E hLt (cls := "java/lang/IllegalStateException") (text := "too many trees, or too deep or heavy a one") (names := ["java/lang/RuntimeException", "java/lang/Exception"]) rfl (by decide +kernel) (by decide +kernel) xk_RS_171 xi_IS (by decide +kernel) xat_IS (by decide +kernel) d_RS_needMade_4 d_RS_needMade_7 d_RS_needMade_8 d_RS_needMade_10 d_RS_needMade_13 (by decide) (by decide) ⟨rfl, rfl, rfl, rfl, by omega⟩ (by decide) (by decide)
set_option maxHeartbeats 4000000 in
set_option maxRecDepth 100000 in
theorem m_RS_leaf {L : Launch} {D : va_G} {cA : Nat → ClassId} {base : Nat} {ad : Nat → Nat} {w : Nat → va_E} (hLt : L.stackTraces = false) {kp sq : Nat} {ls : Int} {se : Bool} (hw0 : w 0 = rsO ad kp sq ls se) {S : xS} (hCT : CT ad cA w S) (hT : Tb S) {x : Int} (hx : -2147483648 ≤ x ∧ x < 2147483648) : XM L D cA base y_RS_leaf c_RS_leaf 2 (some .int) (xrm 9 1 6) [.ref (ad 0), .int (zI x)] 56 ad w (xRet 56 ad (fun z w' => (0 ≤ x ∧ x < 20) ∧ ∃ S' : xS, (z, S') = mkT S (100 + x) (-1) (-1) ∧ 0 ≤ z ∧ Tb S' ∧ CT ad cA w' S' ∧ (∀ k, (k < 1 ∨ 11 < k) → w' k = w k))) (xThr 56 ad (fun E w' => (E = "java/lang/IllegalArgumentException" ∧ ¬ (0 ≤ x ∧ x < 20) ∧ w = w') ∨ (E = "java/lang/IllegalStateException" ∧ (0 ≤ x ∧ x < 20) ∧ ∃ (S' : xS) (z : Int), (z, S') = mkT S (100 + x) (-1) (-1) ∧ z < 0 ∧ CT ad cA w' S ∧ (∀ k, (k < 1 ∨ 11 < k) → w' k = w k)))) := by
  refine xm_of (by decide +kernel) (by simp [Value.category]) (Nat.le_of_ble_eq_true rfl) (fun G C E _ => ?_)
  have hN := hT.1
  have hw1 := ct_1 hCT
  refine xr_iload_n C 1 d_RS_leaf_0 rfl rfl ?_
  refine xz_if_lt (tgt := 10) C d_RS_leaf_1 (by decide) (by omega) (fun c1 => ?_) (fun c1 => ?_)
  · skip
    exact xr_throw C E hLt (cls := "java/lang/IllegalArgumentException") (text := "no such name of a leaf") (names := ["java/lang/RuntimeException", "java/lang/Exception"]) rfl (by decide +kernel) (by decide +kernel) xk_RS_50 xi_IA (by decide +kernel) xat_IA (by decide +kernel) d_RS_leaf_10 d_RS_leaf_13 d_RS_leaf_14 d_RS_leaf_16 d_RS_leaf_19 (by decide) (by decide) ⟨rfl, rfl, Or.inl ⟨rfl, by omega, rfl⟩⟩ (by decide) (by decide)
  · skip
    refine xr_iload_n C 1 d_RS_leaf_4 rfl rfl ?_
    refine xr_bipush C d_RS_leaf_5 (by decide) ?_
    refine xz_icmp_lt (tgt := 20) C d_RS_leaf_7 (by decide) (by omega) (by omega) (fun c7 => ?_) (fun c7 => ?_)
    · skip
      refine xr_aload_n C 0 d_RS_leaf_20 rfl rfl ?_
      refine xr_get (k := 0) C xg_RS_10 hw0 (by decide) rfl d_RS_leaf_21 ?_
      refine xr_iconst C d_RS_leaf_24 ?_
      refine xr_iload_n C 1 d_RS_leaf_25 rfl rfl ?_
      refine xz_isub C d_RS_leaf_26 ?_
      refine xr_eqz (y := um (100 + x)) (by unfold um; rw [if_neg (by omega), if_pos (by omega)]; omega) ?_
      refine xr_iconst C d_RS_leaf_27 ?_
      refine xr_iconst C d_RS_leaf_28 ?_
      refine xr_callV (k9 := 1) C (m_Tr_numberOf (s := 100 + x) (a := -1) (b := -1) hCT hT (by unfold shp; omega)) xm_RS_57 x2_Tr_numberOf hw1 (by decide) rfl (by decide) (by decide) (Nat.le_of_ble_eq_true rfl) rfl d_RS_leaf_29 (fun En n9 ad9 w9 hx9 => hx9.elim) (fun v n9 ad9 w9 hp => ?_)
      obtain ⟨rfl, rfl, z, rfl, S', hz, hCT', hfr⟩ := hp
      obtain ⟨hT', hz1, hz2, hz3⟩ := mkT_pos hT (by unfold shp; omega) hz
      have hN' := hT'.1
      have hw0 := (hfr 0 (by omega)).trans hw0
      show XW _ _ _ _ _ _ 32 _ (_ :: _)
      refine xr_callS C (m_RS_needMade hLt (x := z) (by omega)) xm_RS_61 x2_RS_needMade (by decide) (by decide) (Nat.le_of_ble_eq_true rfl) rfl d_RS_leaf_32 (fun En n9 ad9 w9 hx9 => by
                  obtain ⟨rfl, rfl, rfl, rfl, hq⟩ := hx9
                  exact xx_out C E ⟨rfl, rfl, Or.inr ⟨rfl, by omega, S', z, hz, hq, by have := mkT_neg hz hq; subst this; exact hCT', hfr⟩⟩ (by decide) (by decide)) (fun v n9 ad9 w9 hp => ?_)
      obtain ⟨rfl, rfl, z9, rfl, rfl, rfl, hz0⟩ := hp
      show XW _ _ _ _ _ _ 35 _ (_ :: _)
      exact xr_iret C E ⟨rfl, rfl, _, rfl, by omega, S', hz, hz0, hT', hCT', hfr⟩ (by decide) (by decide) d_RS_leaf_35
    · skip
      exact xr_throw C E hLt (cls := "java/lang/IllegalArgumentException") (text := "no such name of a leaf") (names := ["java/lang/RuntimeException", "java/lang/Exception"]) rfl (by decide +kernel) (by decide +kernel) xk_RS_50 xi_IA (by decide +kernel) xat_IA (by decide +kernel) d_RS_leaf_10 d_RS_leaf_13 d_RS_leaf_14 d_RS_leaf_16 d_RS_leaf_19 (by decide) (by decide) ⟨rfl, rfl, Or.inl ⟨rfl, by omega, rfl⟩⟩ (by decide) (by decide)
set_option maxHeartbeats 4000000 in
set_option maxRecDepth 100000 in
theorem m_RS_hole {L : Launch} {D : va_G} {cA : Nat → ClassId} {base : Nat} {ad : Nat → Nat} {w : Nat → va_E} (hLt : L.stackTraces = false) {kp sq : Nat} {ls : Int} {se : Bool} (hw0 : w 0 = rsO ad kp sq ls se) {S : xS} (hCT : CT ad cA w S) (hT : Tb S) {x : Int} (hx : -2147483648 ≤ x ∧ x < 2147483648) : XM L D cA base y_RS_hole c_RS_hole 2 (some .int) (xrm 9 1 6) [.ref (ad 0), .int (zI x)] 56 ad w (xRet 56 ad (fun z w' => (0 ≤ x ∧ x < 6) ∧ ∃ S' : xS, (z, S') = mkT S (200 + x) (-1) (-1) ∧ 0 ≤ z ∧ Tb S' ∧ CT ad cA w' S' ∧ (∀ k, (k < 1 ∨ 11 < k) → w' k = w k))) (xThr 56 ad (fun E w' => (E = "java/lang/IllegalArgumentException" ∧ ¬ (0 ≤ x ∧ x < 6) ∧ w = w') ∨ (E = "java/lang/IllegalStateException" ∧ (0 ≤ x ∧ x < 6) ∧ ∃ (S' : xS) (z : Int), (z, S') = mkT S (200 + x) (-1) (-1) ∧ z < 0 ∧ CT ad cA w' S ∧ (∀ k, (k < 1 ∨ 11 < k) → w' k = w k)))) := by
  refine xm_of (by decide +kernel) (by simp [Value.category]) (Nat.le_of_ble_eq_true rfl) (fun G C E _ => ?_)
  have hN := hT.1
  have hw1 := ct_1 hCT
  refine xr_iload_n C 1 d_RS_hole_0 rfl rfl ?_
  refine xz_if_lt (tgt := 10) C d_RS_hole_1 (by decide) (by omega) (fun c1 => ?_) (fun c1 => ?_)
  · skip
    exact xr_throw C E hLt (cls := "java/lang/IllegalArgumentException") (text := "no such name of a hole") (names := ["java/lang/RuntimeException", "java/lang/Exception"]) rfl (by decide +kernel) (by decide +kernel) xk_RS_50 xi_IA (by decide +kernel) xat_IA (by decide +kernel) d_RS_hole_10 d_RS_hole_13 d_RS_hole_14 d_RS_hole_16 d_RS_hole_19 (by decide) (by decide) ⟨rfl, rfl, Or.inl ⟨rfl, by omega, rfl⟩⟩ (by decide) (by decide)
  · skip
    refine xr_iload_n C 1 d_RS_hole_4 rfl rfl ?_
    refine xr_bipush C d_RS_hole_5 (by decide) ?_
    refine xz_icmp_lt (tgt := 20) C d_RS_hole_7 (by decide) (by omega) (by omega) (fun c7 => ?_) (fun c7 => ?_)
    · skip
      refine xr_aload_n C 0 d_RS_hole_20 rfl rfl ?_
      refine xr_get (k := 0) C xg_RS_10 hw0 (by decide) rfl d_RS_hole_21 ?_
      refine xr_bipush C d_RS_hole_24 (by decide) ?_
      refine xr_iload_n C 1 d_RS_hole_26 rfl rfl ?_
      refine xz_iadd C d_RS_hole_27 ?_
      refine xr_eqz (y := um (200 + x)) (by unfold um; rw [if_pos (by omega)]; omega) ?_
      refine xr_iconst C d_RS_hole_28 ?_
      refine xr_iconst C d_RS_hole_29 ?_
      refine xr_callV (k9 := 1) C (m_Tr_numberOf (s := 200 + x) (a := -1) (b := -1) hCT hT (by unfold shp; omega)) xm_RS_57 x2_Tr_numberOf hw1 (by decide) rfl (by decide) (by decide) (Nat.le_of_ble_eq_true rfl) rfl d_RS_hole_30 (fun En n9 ad9 w9 hx9 => hx9.elim) (fun v n9 ad9 w9 hp => ?_)
      obtain ⟨rfl, rfl, z, rfl, S', hz, hCT', hfr⟩ := hp
      obtain ⟨hT', hz1, hz2, hz3⟩ := mkT_pos hT (by unfold shp; omega) hz
      have hN' := hT'.1
      have hw0 := (hfr 0 (by omega)).trans hw0
      show XW _ _ _ _ _ _ 33 _ (_ :: _)
      refine xr_callS C (m_RS_needMade hLt (x := z) (by omega)) xm_RS_61 x2_RS_needMade (by decide) (by decide) (Nat.le_of_ble_eq_true rfl) rfl d_RS_hole_33 (fun En n9 ad9 w9 hx9 => by
                  obtain ⟨rfl, rfl, rfl, rfl, hq⟩ := hx9
                  exact xx_out C E ⟨rfl, rfl, Or.inr ⟨rfl, by omega, S', z, hz, hq, by have := mkT_neg hz hq; subst this; exact hCT', hfr⟩⟩ (by decide) (by decide)) (fun v n9 ad9 w9 hp => ?_)
      obtain ⟨rfl, rfl, z9, rfl, rfl, rfl, hz0⟩ := hp
      show XW _ _ _ _ _ _ 36 _ (_ :: _)
      exact xr_iret C E ⟨rfl, rfl, _, rfl, by omega, S', hz, hz0, hT', hCT', hfr⟩ (by decide) (by decide) d_RS_hole_36
    · skip
      exact xr_throw C E hLt (cls := "java/lang/IllegalArgumentException") (text := "no such name of a hole") (names := ["java/lang/RuntimeException", "java/lang/Exception"]) rfl (by decide +kernel) (by decide +kernel) xk_RS_50 xi_IA (by decide +kernel) xat_IA (by decide +kernel) d_RS_hole_10 d_RS_hole_13 d_RS_hole_14 d_RS_hole_16 d_RS_hole_19 (by decide) (by decide) ⟨rfl, rfl, Or.inl ⟨rfl, by omega, rfl⟩⟩ (by decide) (by decide)
