set_option maxHeartbeats 4000000 in
set_option maxRecDepth 100000 in
theorem w_La_leaf {L : Launch} {D : va_G} {cA : Nat → ClassId} {base : Nat} {ad : Nat → Nat} {w : Nat → va_E} {x : Int} {fs : List Value} {g : Nat → Int64} {Q : Int → (Nat → va_E) → Prop} {X : String → (Nat → va_E) → Prop} (hM : XM L D cA base y_RS_leaf c_RS_leaf 2 (some .int) (xrm 9 1 6) [.ref (ad 0), .int (zI x)] 56 ad w (xRet 56 ad Q) (xThr 56 ad X)) (hw0 : w 0 = xOb 4 fs) (hQ : ∀ z w1, Q z w1 → w1 55 = xLA (cA 2) 1 g) (hX : ∀ E w1, X E w1 → E = "java/lang/IllegalArgumentException" ∨ E = "java/lang/IllegalStateException") : XMH L D cA base y_La_leaf c_La_leaf 4 (some .int) [(0, 9, 12, 13), (0, 9, 15, 15)] (xrm 10 1 6) [.ref (ad 0), .int (zI x), .ref (ad 55)] 56 ad w (xRet 56 ad (fun k w' => (k = 0 ∧ ∃ (z : Int) (w1 : Nat → va_E), Q z w1 ∧ w' = va_up w1 55 (xLA (cA 2) 1 (vp_updL g 0 (zI z).toInt64))) ∨ (k = 1 ∧ X "java/lang/IllegalArgumentException" w') ∨ (k = 2 ∧ X "java/lang/IllegalStateException" w'))) := by
  refine xm_ofH (by decide +kernel) (by simp [Value.category]) (Nat.le_of_ble_eq_true rfl) (fun G C E => ?_)
  refine xr_aload_n C 2 d_La_leaf_0 rfl rfl ?_
  refine xr_iconst C d_La_leaf_1 ?_
  refine xr_aload_n C 0 d_La_leaf_2 rfl rfl ?_
  refine xr_iload_n C 1 d_La_leaf_3 rfl rfl ?_
  refine xr_callV (k9 := 0) (As := [.int (zI x)]) (st := [.int (zI 0), .ref (ad 55)]) C hM xm_La_7 x2_RS_leaf hw0 (by decide) rfl (by decide) (by decide) (Nat.le_of_ble_eq_true rfl) rfl d_La_leaf_4 (fun En n9 ad9 w9 hx9 => ?_) (fun v n9 ad9 w9 hp => ?_)
  · obtain ⟨rfl, rfl, hx⟩ := hx9
    rcases hX _ _ hx with rfl | rfl
    · refine xr_catch C E [] ⟨0, 9, 12, 13⟩ [⟨0, 9, 15, 15⟩] rfl (fun z hz => by simp at hz) (by decide) (by decide) xkl_IA (by decide +kernel) (fun q => ?_)
      show XW G 56 ad w9 _ _ 12 _ _
      refine xr_astore_n C 3 d_La_leaf_12 rfl (by decide) ?_
      refine xr_iconst C d_La_leaf_13 ?_
      exact xr_iretH C E ⟨rfl, rfl, 1, rfl, Or.inr (Or.inl ⟨rfl, hx⟩)⟩ (by decide) (by decide) d_La_leaf_14
    · refine xr_catch C E [⟨0, 9, 12, 13⟩] ⟨0, 9, 15, 15⟩ [] rfl (fun z hz => by
        rcases List.mem_cons.mp hz with rfl | hz
        · exact ⟨by decide, _, xkl_IA, by decide +kernel⟩
        cases hz) (by decide) (by decide) xkl_IS (by decide +kernel) (fun q => ?_)
      show XW G 56 ad w9 _ _ 15 _ _
      refine xr_astore_n C 3 d_La_leaf_15 rfl (by decide) ?_
      refine xr_iconst C d_La_leaf_16 ?_
      exact xr_iretH C E ⟨rfl, rfl, 2, rfl, Or.inr (Or.inr (⟨rfl, hx⟩))⟩ (by decide) (by decide) d_La_leaf_17
  · obtain ⟨rfl, rfl, z, rfl, hq⟩ := hp
    show XW G 56 ad w9 _ _ 7 _ (_ :: _)
    refine xr_i2l C d_La_leaf_7 ?_
    refine xr_last (k := 55) C (hQ _ _ hq) (by decide) (by decide) (by decide) d_La_leaf_8 ?_
    refine xr_goto (tgt := 18) C d_La_leaf_9 (by decide) ?_
    refine xr_iconst C d_La_leaf_18 ?_
    exact xr_iretH C E ⟨rfl, rfl, 0, rfl, Or.inl ⟨rfl, z, w9, hq, rfl⟩⟩ (by decide) (by decide) d_La_leaf_19
set_option maxHeartbeats 4000000 in
set_option maxRecDepth 100000 in
theorem w_La_hole {L : Launch} {D : va_G} {cA : Nat → ClassId} {base : Nat} {ad : Nat → Nat} {w : Nat → va_E} {x : Int} {fs : List Value} {g : Nat → Int64} {Q : Int → (Nat → va_E) → Prop} {X : String → (Nat → va_E) → Prop} (hM : XM L D cA base y_RS_hole c_RS_hole 2 (some .int) (xrm 9 1 6) [.ref (ad 0), .int (zI x)] 56 ad w (xRet 56 ad Q) (xThr 56 ad X)) (hw0 : w 0 = xOb 4 fs) (hQ : ∀ z w1, Q z w1 → w1 55 = xLA (cA 2) 1 g) (hX : ∀ E w1, X E w1 → E = "java/lang/IllegalArgumentException" ∨ E = "java/lang/IllegalStateException") : XMH L D cA base y_La_hole c_La_hole 4 (some .int) [(0, 9, 12, 13), (0, 9, 15, 15)] (xrm 10 1 6) [.ref (ad 0), .int (zI x), .ref (ad 55)] 56 ad w (xRet 56 ad (fun k w' => (k = 0 ∧ ∃ (z : Int) (w1 : Nat → va_E), Q z w1 ∧ w' = va_up w1 55 (xLA (cA 2) 1 (vp_updL g 0 (zI z).toInt64))) ∨ (k = 1 ∧ X "java/lang/IllegalArgumentException" w') ∨ (k = 2 ∧ X "java/lang/IllegalStateException" w'))) := by
  refine xm_ofH (by decide +kernel) (by simp [Value.category]) (Nat.le_of_ble_eq_true rfl) (fun G C E => ?_)
  refine xr_aload_n C 2 d_La_hole_0 rfl rfl ?_
  refine xr_iconst C d_La_hole_1 ?_
  refine xr_aload_n C 0 d_La_hole_2 rfl rfl ?_
  refine xr_iload_n C 1 d_La_hole_3 rfl rfl ?_
  refine xr_callV (k9 := 0) (As := [.int (zI x)]) (st := [.int (zI 0), .ref (ad 55)]) C hM xm_La_17 x2_RS_hole hw0 (by decide) rfl (by decide) (by decide) (Nat.le_of_ble_eq_true rfl) rfl d_La_hole_4 (fun En n9 ad9 w9 hx9 => ?_) (fun v n9 ad9 w9 hp => ?_)
  · obtain ⟨rfl, rfl, hx⟩ := hx9
    rcases hX _ _ hx with rfl | rfl
    · refine xr_catch C E [] ⟨0, 9, 12, 13⟩ [⟨0, 9, 15, 15⟩] rfl (fun z hz => by simp at hz) (by decide) (by decide) xkl_IA (by decide +kernel) (fun q => ?_)
      show XW G 56 ad w9 _ _ 12 _ _
      refine xr_astore_n C 3 d_La_hole_12 rfl (by decide) ?_
      refine xr_iconst C d_La_hole_13 ?_
      exact xr_iretH C E ⟨rfl, rfl, 1, rfl, Or.inr (Or.inl ⟨rfl, hx⟩)⟩ (by decide) (by decide) d_La_hole_14
    · refine xr_catch C E [⟨0, 9, 12, 13⟩] ⟨0, 9, 15, 15⟩ [] rfl (fun z hz => by
        rcases List.mem_cons.mp hz with rfl | hz
        · exact ⟨by decide, _, xkl_IA, by decide +kernel⟩
        cases hz) (by decide) (by decide) xkl_IS (by decide +kernel) (fun q => ?_)
      show XW G 56 ad w9 _ _ 15 _ _
      refine xr_astore_n C 3 d_La_hole_15 rfl (by decide) ?_
      refine xr_iconst C d_La_hole_16 ?_
      exact xr_iretH C E ⟨rfl, rfl, 2, rfl, Or.inr (Or.inr (⟨rfl, hx⟩))⟩ (by decide) (by decide) d_La_hole_17
  · obtain ⟨rfl, rfl, z, rfl, hq⟩ := hp
    show XW G 56 ad w9 _ _ 7 _ (_ :: _)
    refine xr_i2l C d_La_hole_7 ?_
    refine xr_last (k := 55) C (hQ _ _ hq) (by decide) (by decide) (by decide) d_La_hole_8 ?_
    refine xr_goto (tgt := 18) C d_La_hole_9 (by decide) ?_
    refine xr_iconst C d_La_hole_18 ?_
    exact xr_iretH C E ⟨rfl, rfl, 0, rfl, Or.inl ⟨rfl, z, w9, hq, rfl⟩⟩ (by decide) (by decide) d_La_hole_19
set_option maxHeartbeats 4000000 in
set_option maxRecDepth 100000 in
theorem w_La_node {L : Launch} {D : va_G} {cA : Nat → ClassId} {base : Nat} {ad : Nat → Nat} {w : Nat → va_E} {x y u : Int} {fs : List Value} {g : Nat → Int64} {Q : Int → (Nat → va_E) → Prop} {X : String → (Nat → va_E) → Prop} (hM : XM L D cA base y_RS_node c_RS_node 5 (some .int) (xrm 9 3 18) [.ref (ad 0), .int (zI x), .int (zI y), .int (zI u)] 56 ad w (xRet 56 ad Q) (xThr 56 ad X)) (hw0 : w 0 = xOb 4 fs) (hQ : ∀ z w1, Q z w1 → w1 55 = xLA (cA 2) 1 g) (hX : ∀ E w1, X E w1 → E = "java/lang/IndexOutOfBoundsException" ∨ E = "java/lang/IllegalArgumentException" ∨ E = "java/lang/IllegalStateException") : XMH L D cA base y_La_node c_La_node 6 (some .int) [(0, 12, 15, 24), (0, 12, 19, 13), (0, 12, 23, 15)] (xrm 10 3 18) [.ref (ad 0), .int (zI x), .int (zI y), .int (zI u), .ref (ad 55)] 56 ad w (xRet 56 ad (fun k w' => (k = 0 ∧ ∃ (z : Int) (w1 : Nat → va_E), Q z w1 ∧ w' = va_up w1 55 (xLA (cA 2) 1 (vp_updL g 0 (zI z).toInt64))) ∨ (k = 1 ∧ X "java/lang/IndexOutOfBoundsException" w') ∨ (k = 2 ∧ X "java/lang/IllegalArgumentException" w') ∨ (k = 3 ∧ X "java/lang/IllegalStateException" w'))) := by
  refine xm_ofH (by decide +kernel) (by simp [Value.category]) (Nat.le_of_ble_eq_true rfl) (fun G C E => ?_)
  refine xr_aload C d_La_node_0 rfl ?_
  refine xr_iconst C d_La_node_2 ?_
  refine xr_aload_n C 0 d_La_node_3 rfl rfl ?_
  refine xr_iload_n C 1 d_La_node_4 rfl rfl ?_
  refine xr_iload_n C 2 d_La_node_5 rfl rfl ?_
  refine xr_iload_n C 3 d_La_node_6 rfl rfl ?_
  refine xr_callV (k9 := 0) (As := [.int (zI x), .int (zI y), .int (zI u)]) (st := [.int (zI 0), .ref (ad 55)]) C hM xm_La_20 x2_RS_node hw0 (by decide) rfl (by decide) (by decide) (Nat.le_of_ble_eq_true rfl) rfl d_La_node_7 (fun En n9 ad9 w9 hx9 => ?_) (fun v n9 ad9 w9 hp => ?_)
  · obtain ⟨rfl, rfl, hx⟩ := hx9
    rcases hX _ _ hx with rfl | rfl | rfl
    · refine xr_catch C E [] ⟨0, 12, 15, 24⟩ [⟨0, 12, 19, 13⟩, ⟨0, 12, 23, 15⟩] rfl (fun z hz => by simp at hz) (by decide) (by decide) xkl_IO (by decide +kernel) (fun q => ?_)
      show XW G 56 ad w9 _ _ 15 _ _
      refine xr_astore C d_La_node_15 (by decide) ?_
      refine xr_iconst C d_La_node_17 ?_
      exact xr_iretH C E ⟨rfl, rfl, 1, rfl, Or.inr (Or.inl ⟨rfl, hx⟩)⟩ (by decide) (by decide) d_La_node_18
    · refine xr_catch C E [⟨0, 12, 15, 24⟩] ⟨0, 12, 19, 13⟩ [⟨0, 12, 23, 15⟩] rfl (fun z hz => by
        rcases List.mem_cons.mp hz with rfl | hz
        · exact ⟨by decide, _, xkl_IO, by decide +kernel⟩
        cases hz) (by decide) (by decide) xkl_IA (by decide +kernel) (fun q => ?_)
      show XW G 56 ad w9 _ _ 19 _ _
      refine xr_astore C d_La_node_19 (by decide) ?_
      refine xr_iconst C d_La_node_21 ?_
      exact xr_iretH C E ⟨rfl, rfl, 2, rfl, Or.inr (Or.inr (Or.inl ⟨rfl, hx⟩))⟩ (by decide) (by decide) d_La_node_22
    · refine xr_catch C E [⟨0, 12, 15, 24⟩, ⟨0, 12, 19, 13⟩] ⟨0, 12, 23, 15⟩ [] rfl (fun z hz => by
        rcases List.mem_cons.mp hz with rfl | hz
        · exact ⟨by decide, _, xkl_IO, by decide +kernel⟩
        rcases List.mem_cons.mp hz with rfl | hz
        · exact ⟨by decide, _, xkl_IA, by decide +kernel⟩
        cases hz) (by decide) (by decide) xkl_IS (by decide +kernel) (fun q => ?_)
      show XW G 56 ad w9 _ _ 23 _ _
      refine xr_astore C d_La_node_23 (by decide) ?_
      refine xr_iconst C d_La_node_25 ?_
      exact xr_iretH C E ⟨rfl, rfl, 3, rfl, Or.inr (Or.inr (Or.inr (⟨rfl, hx⟩)))⟩ (by decide) (by decide) d_La_node_26
  · obtain ⟨rfl, rfl, z, rfl, hq⟩ := hp
    show XW G 56 ad w9 _ _ 10 _ (_ :: _)
    refine xr_i2l C d_La_node_10 ?_
    refine xr_last (k := 55) C (hQ _ _ hq) (by decide) (by decide) (by decide) d_La_node_11 ?_
    refine xr_goto (tgt := 27) C d_La_node_12 (by decide) ?_
    refine xr_iconst C d_La_node_27 ?_
    exact xr_iretH C E ⟨rfl, rfl, 0, rfl, Or.inl ⟨rfl, z, w9, hq, rfl⟩⟩ (by decide) (by decide) d_La_node_28
set_option maxHeartbeats 4000000 in
set_option maxRecDepth 100000 in
theorem w_La_rule {L : Launch} {D : va_G} {cA : Nat → ClassId} {base : Nat} {ad : Nat → Nat} {w : Nat → va_E} {x y u : Int} {fs : List Value} {g : Nat → Int64} {Q : Int → (Nat → va_E) → Prop} {X : String → (Nat → va_E) → Prop} (hM : XM L D cA base y_RS_rule c_RS_rule 4 (some .int) (xrm 9 3 18) [.ref (ad 0), .int (zI x), .int (zI y), .int (zI u)] 56 ad w (xRet 56 ad Q) (xThr 56 ad X)) (hw0 : w 0 = xOb 4 fs) (hQ : ∀ z w1, Q z w1 → w1 55 = xLA (cA 2) 1 g) (hX : ∀ E w1, X E w1 → E = "java/lang/IndexOutOfBoundsException" ∨ E = "java/lang/IllegalArgumentException") : XMH L D cA base y_La_rule c_La_rule 6 (some .int) [(0, 12, 15, 24), (0, 12, 19, 13)] (xrm 10 3 18) [.ref (ad 0), .int (zI x), .int (zI y), .int (zI u), .ref (ad 55)] 56 ad w (xRet 56 ad (fun k w' => (k = 0 ∧ ∃ (z : Int) (w1 : Nat → va_E), Q z w1 ∧ w' = va_up w1 55 (xLA (cA 2) 1 (vp_updL g 0 (zI z).toInt64))) ∨ (k = 1 ∧ X "java/lang/IndexOutOfBoundsException" w') ∨ (k = 2 ∧ X "java/lang/IllegalArgumentException" w'))) := by
  refine xm_ofH (by decide +kernel) (by simp [Value.category]) (Nat.le_of_ble_eq_true rfl) (fun G C E => ?_)
  refine xr_aload C d_La_rule_0 rfl ?_
  refine xr_iconst C d_La_rule_2 ?_
  refine xr_aload_n C 0 d_La_rule_3 rfl rfl ?_
  refine xr_iload_n C 1 d_La_rule_4 rfl rfl ?_
  refine xr_iload_n C 2 d_La_rule_5 rfl rfl ?_
  refine xr_iload_n C 3 d_La_rule_6 rfl rfl ?_
  refine xr_callV (k9 := 0) (As := [.int (zI x), .int (zI y), .int (zI u)]) (st := [.int (zI 0), .ref (ad 55)]) C hM xm_La_26 x2_RS_rule hw0 (by decide) rfl (by decide) (by decide) (Nat.le_of_ble_eq_true rfl) rfl d_La_rule_7 (fun En n9 ad9 w9 hx9 => ?_) (fun v n9 ad9 w9 hp => ?_)
  · obtain ⟨rfl, rfl, hx⟩ := hx9
    rcases hX _ _ hx with rfl | rfl
    · refine xr_catch C E [] ⟨0, 12, 15, 24⟩ [⟨0, 12, 19, 13⟩] rfl (fun z hz => by simp at hz) (by decide) (by decide) xkl_IO (by decide +kernel) (fun q => ?_)
      show XW G 56 ad w9 _ _ 15 _ _
      refine xr_astore C d_La_rule_15 (by decide) ?_
      refine xr_iconst C d_La_rule_17 ?_
      exact xr_iretH C E ⟨rfl, rfl, 1, rfl, Or.inr (Or.inl ⟨rfl, hx⟩)⟩ (by decide) (by decide) d_La_rule_18
    · refine xr_catch C E [⟨0, 12, 15, 24⟩] ⟨0, 12, 19, 13⟩ [] rfl (fun z hz => by
        rcases List.mem_cons.mp hz with rfl | hz
        · exact ⟨by decide, _, xkl_IO, by decide +kernel⟩
        cases hz) (by decide) (by decide) xkl_IA (by decide +kernel) (fun q => ?_)
      show XW G 56 ad w9 _ _ 19 _ _
      refine xr_astore C d_La_rule_19 (by decide) ?_
      refine xr_iconst C d_La_rule_21 ?_
      exact xr_iretH C E ⟨rfl, rfl, 2, rfl, Or.inr (Or.inr (⟨rfl, hx⟩))⟩ (by decide) (by decide) d_La_rule_22
  · obtain ⟨rfl, rfl, z, rfl, hq⟩ := hp
    show XW G 56 ad w9 _ _ 10 _ (_ :: _)
    refine xr_i2l C d_La_rule_10 ?_
    refine xr_last (k := 55) C (hQ _ _ hq) (by decide) (by decide) (by decide) d_La_rule_11 ?_
    refine xr_goto (tgt := 23) C d_La_rule_12 (by decide) ?_
    refine xr_iconst C d_La_rule_23 ?_
    exact xr_iretH C E ⟨rfl, rfl, 0, rfl, Or.inl ⟨rfl, z, w9, hq, rfl⟩⟩ (by decide) (by decide) d_La_rule_24
set_option maxHeartbeats 4000000 in
set_option maxRecDepth 100000 in
theorem w_La_holds {L : Launch} {D : va_G} {cA : Nat → ClassId} {base : Nat} {ad : Nat → Nat} {w : Nat → va_E} {x y : Int} {fs : List Value} {g : Nat → Int64} {Q : Int → (Nat → va_E) → Prop} {X : String → (Nat → va_E) → Prop} (hM : XM L D cA base y_RS_holds c_RS_holds 4 (some .boolean) (xrm 9 1 6) [.ref (ad 0), .int (zI x), .int (zI y)] 56 ad w (xRet 56 ad Q) (xThr 56 ad X)) (hw0 : w 0 = xOb 4 fs) (hQ : ∀ z w1, Q z w1 → w1 55 = xLA (cA 2) 1 g) (hz : ∀ z w1, Q z w1 → z = 0 ∨ z = 1) (hX : ∀ E w1, X E w1 → E = "java/lang/IllegalArgumentException") : XMH L D cA base y_La_holds c_La_holds 5 (some .int) [(0, 17, 20, 13)] (xrm 10 1 6) [.ref (ad 0), .int (zI x), .int (zI y), .ref (ad 55)] 56 ad w (xRet 56 ad (fun k w' => (k = 0 ∧ ∃ (z : Int) (w1 : Nat → va_E), Q z w1 ∧ w' = va_up w1 55 (xLA (cA 2) 1 (vp_updL g 0 (zI z).toInt64))) ∨ (k = 1 ∧ X "java/lang/IllegalArgumentException" w'))) := by
  refine xm_ofH (by decide +kernel) (by simp [Value.category]) (Nat.le_of_ble_eq_true rfl) (fun G C E => ?_)
  refine xr_aload_n C 3 d_La_holds_0 rfl rfl ?_
  refine xr_iconst C d_La_holds_1 ?_
  refine xr_aload_n C 0 d_La_holds_2 rfl rfl ?_
  refine xr_iload_n C 1 d_La_holds_3 rfl rfl ?_
  refine xr_iload_n C 2 d_La_holds_4 rfl rfl ?_
  refine xr_callV (k9 := 0) (As := [.int (zI x), .int (zI y)]) (st := [.int (zI 0), .ref (ad 55)]) C hM xm_La_29 x2_RS_holds hw0 (by decide) rfl (by decide) (by decide) (Nat.le_of_ble_eq_true rfl) rfl d_La_holds_5 (fun En n9 ad9 w9 hx9 => ?_) (fun v n9 ad9 w9 hp => ?_)
  · obtain ⟨rfl, rfl, hx⟩ := hx9
    rcases hX _ _ hx with rfl
    · refine xr_catch C E [] ⟨0, 17, 20, 13⟩ [] rfl (fun z hz => by simp at hz) (by decide) (by decide) xkl_IA (by decide +kernel) (fun q => ?_)
      show XW G 56 ad w9 _ _ 20 _ _
      refine xr_astore C d_La_holds_20 (by decide) ?_
      refine xr_iconst C d_La_holds_22 ?_
      exact xr_iretH C E ⟨rfl, rfl, 1, rfl, Or.inr (⟨rfl, hx⟩)⟩ (by decide) (by decide) d_La_holds_23
  · obtain ⟨rfl, rfl, z, rfl, hq⟩ := hp
    show XW G 56 ad w9 _ _ 8 _ (_ :: _)
    rcases hz _ _ hq with rfl | rfl
    · refine xz_if_eq (tgt := 15) C d_La_holds_8 (by decide) (by decide) (fun _ => ?_) (fun c => absurd rfl c)
      refine xr_lconst C d_La_holds_15 ?_
      refine xr_last (k := 55) C (hQ _ _ hq) (by decide) (by decide) (by decide) d_La_holds_16 ?_
      refine xr_goto (tgt := 24) C d_La_holds_17 (by decide) ?_
      refine xr_iconst C d_La_holds_24 ?_
      exact xr_iretH C E ⟨rfl, rfl, 0, rfl, Or.inl ⟨rfl, 0, w9, hq, congrArg (fun t => va_up w9 55 (xLA (cA 2) 1 (vp_updL g 0 t))) lz0⟩⟩ (by decide) (by decide) d_La_holds_25
    · refine xz_if_eq (tgt := 15) C d_La_holds_8 (by decide) (by decide) (fun c => absurd c (by decide)) (fun _ => ?_)
      refine xr_lconst C d_La_holds_11 ?_
      refine xr_goto (tgt := 16) C d_La_holds_12 (by decide) ?_
      refine xr_last (k := 55) C (hQ _ _ hq) (by decide) (by decide) (by decide) d_La_holds_16 ?_
      refine xr_goto (tgt := 24) C d_La_holds_17 (by decide) ?_
      refine xr_iconst C d_La_holds_24 ?_
      exact xr_iretH C E ⟨rfl, rfl, 0, rfl, Or.inl ⟨rfl, 1, w9, hq, congrArg (fun t => va_up w9 55 (xLA (cA 2) 1 (vp_updL g 0 t))) lz1⟩⟩ (by decide) (by decide) d_La_holds_25
set_option maxHeartbeats 4000000 in
set_option maxRecDepth 100000 in
theorem w_La_choose {L : Launch} {D : va_G} {cA : Nat → ClassId} {base : Nat} {ad : Nat → Nat} {w : Nat → va_E} {x : Int} {on : Bool} {fs : List Value} {g : Nat → Int64} {Q : Int → (Nat → va_E) → Prop} {X : String → (Nat → va_E) → Prop} (hM : XM L D cA base y_RS_choose c_RS_choose 4 (some .boolean) (xrm 9 1 6) [.ref (ad 0), .int (zI x), .int (zI (xb on))] 56 ad w (xRet 56 ad Q) (xThr 56 ad X)) (hw0 : w 0 = xOb 4 fs) (hQ : ∀ z w1, Q z w1 → w1 55 = xLA (cA 2) 1 g) (hz : ∀ z w1, Q z w1 → z = 0 ∨ z = 1) (hX : ∀ E w1, X E w1 → E = "java/lang/IndexOutOfBoundsException") : XMH L D cA base y_La_choose c_La_choose 5 (some .int) [(0, 17, 20, 24)] (xrm 10 1 6) [.ref (ad 0), .int (zI x), .int (zI (xb on)), .ref (ad 55)] 56 ad w (xRet 56 ad (fun k w' => (k = 0 ∧ ∃ (z : Int) (w1 : Nat → va_E), Q z w1 ∧ w' = va_up w1 55 (xLA (cA 2) 1 (vp_updL g 0 (zI z).toInt64))) ∨ (k = 1 ∧ X "java/lang/IndexOutOfBoundsException" w'))) := by
  refine xm_ofH (by decide +kernel) (by simp [Value.category]) (Nat.le_of_ble_eq_true rfl) (fun G C E => ?_)
  refine xr_aload_n C 3 d_La_choose_0 rfl rfl ?_
  refine xr_iconst C d_La_choose_1 ?_
  refine xr_aload_n C 0 d_La_choose_2 rfl rfl ?_
  refine xr_iload_n C 1 d_La_choose_3 rfl rfl ?_
  refine xr_iload_n C 2 d_La_choose_4 rfl rfl ?_
  refine xr_callV (k9 := 0) (As := [.int (zI x), .int (zI (xb on))]) (st := [.int (zI 0), .ref (ad 55)]) C hM xm_La_33 x2_RS_choose hw0 (by decide) rfl (by decide) (by decide) (Nat.le_of_ble_eq_true rfl) rfl d_La_choose_5 (fun En n9 ad9 w9 hx9 => ?_) (fun v n9 ad9 w9 hp => ?_)
  · obtain ⟨rfl, rfl, hx⟩ := hx9
    rcases hX _ _ hx with rfl
    · refine xr_catch C E [] ⟨0, 17, 20, 24⟩ [] rfl (fun z hz => by simp at hz) (by decide) (by decide) xkl_IO (by decide +kernel) (fun q => ?_)
      show XW G 56 ad w9 _ _ 20 _ _
      refine xr_astore C d_La_choose_20 (by decide) ?_
      refine xr_iconst C d_La_choose_22 ?_
      exact xr_iretH C E ⟨rfl, rfl, 1, rfl, Or.inr (⟨rfl, hx⟩)⟩ (by decide) (by decide) d_La_choose_23
  · obtain ⟨rfl, rfl, z, rfl, hq⟩ := hp
    show XW G 56 ad w9 _ _ 8 _ (_ :: _)
    rcases hz _ _ hq with rfl | rfl
    · refine xz_if_eq (tgt := 15) C d_La_choose_8 (by decide) (by decide) (fun _ => ?_) (fun c => absurd rfl c)
      refine xr_lconst C d_La_choose_15 ?_
      refine xr_last (k := 55) C (hQ _ _ hq) (by decide) (by decide) (by decide) d_La_choose_16 ?_
      refine xr_goto (tgt := 24) C d_La_choose_17 (by decide) ?_
      refine xr_iconst C d_La_choose_24 ?_
      exact xr_iretH C E ⟨rfl, rfl, 0, rfl, Or.inl ⟨rfl, 0, w9, hq, congrArg (fun t => va_up w9 55 (xLA (cA 2) 1 (vp_updL g 0 t))) lz0⟩⟩ (by decide) (by decide) d_La_choose_25
    · refine xz_if_eq (tgt := 15) C d_La_choose_8 (by decide) (by decide) (fun c => absurd c (by decide)) (fun _ => ?_)
      refine xr_lconst C d_La_choose_11 ?_
      refine xr_goto (tgt := 16) C d_La_choose_12 (by decide) ?_
      refine xr_last (k := 55) C (hQ _ _ hq) (by decide) (by decide) (by decide) d_La_choose_16 ?_
      refine xr_goto (tgt := 24) C d_La_choose_17 (by decide) ?_
      refine xr_iconst C d_La_choose_24 ?_
      exact xr_iretH C E ⟨rfl, rfl, 0, rfl, Or.inl ⟨rfl, 1, w9, hq, congrArg (fun t => va_up w9 55 (xLA (cA 2) 1 (vp_updL g 0 t))) lz1⟩⟩ (by decide) (by decide) d_La_choose_25
set_option maxHeartbeats 4000000 in
set_option maxRecDepth 100000 in
theorem w_La_rewrite {L : Launch} {D : va_G} {cA : Nat → ClassId} {base : Nat} {ad : Nat → Nat} {w : Nat → va_E} {x y : Int} {fs : List Value} {g : Nat → Int64} {Q : Int → (Nat → va_E) → Prop} {X : String → (Nat → va_E) → Prop} (hM : XM L D cA base y_RS_rewrite c_RS_rewrite 5 (some .int) (xrm 69 3 18) [.ref (ad 0), .int (zI x), .int (zI y)] 56 ad w (xRet 56 ad Q) (xThr 56 ad X)) (hw0 : w 0 = xOb 4 fs) (hQ : ∀ z w1, Q z w1 → w1 55 = xLA (cA 2) 1 g) (hX : ∀ E w1, X E w1 → E = "java/lang/IndexOutOfBoundsException" ∨ E = "java/lang/IllegalArgumentException" ∨ E = "java/lang/IllegalStateException") : XMH L D cA base y_La_rewrite c_La_rewrite 5 (some .int) [(0, 10, 13, 24), (0, 10, 17, 13), (0, 10, 21, 15)] (xrm 70 3 18) [.ref (ad 0), .int (zI x), .int (zI y), .ref (ad 55)] 56 ad w (xRet 56 ad (fun k w' => (k = 0 ∧ ∃ (z : Int) (w1 : Nat → va_E), Q z w1 ∧ w' = va_up w1 55 (xLA (cA 2) 1 (vp_updL g 0 (zI z).toInt64))) ∨ (k = 1 ∧ X "java/lang/IndexOutOfBoundsException" w') ∨ (k = 2 ∧ X "java/lang/IllegalArgumentException" w') ∨ (k = 3 ∧ X "java/lang/IllegalStateException" w'))) := by
  refine xm_ofH (by decide +kernel) (by simp [Value.category]) (Nat.le_of_ble_eq_true rfl) (fun G C E => ?_)
  refine xr_aload_n C 3 d_La_rewrite_0 rfl rfl ?_
  refine xr_iconst C d_La_rewrite_1 ?_
  refine xr_aload_n C 0 d_La_rewrite_2 rfl rfl ?_
  refine xr_iload_n C 1 d_La_rewrite_3 rfl rfl ?_
  refine xr_iload_n C 2 d_La_rewrite_4 rfl rfl ?_
  refine xr_callV (k9 := 0) (As := [.int (zI x), .int (zI y)]) (st := [.int (zI 0), .ref (ad 55)]) C hM xm_La_37 x2_RS_rewrite hw0 (by decide) rfl (by decide) (by decide) (Nat.le_of_ble_eq_true rfl) rfl d_La_rewrite_5 (fun En n9 ad9 w9 hx9 => ?_) (fun v n9 ad9 w9 hp => ?_)
  · obtain ⟨rfl, rfl, hx⟩ := hx9
    rcases hX _ _ hx with rfl | rfl | rfl
    · refine xr_catch C E [] ⟨0, 10, 13, 24⟩ [⟨0, 10, 17, 13⟩, ⟨0, 10, 21, 15⟩] rfl (fun z hz => by simp at hz) (by decide) (by decide) xkl_IO (by decide +kernel) (fun q => ?_)
      show XW G 56 ad w9 _ _ 13 _ _
      refine xr_astore C d_La_rewrite_13 (by decide) ?_
      refine xr_iconst C d_La_rewrite_15 ?_
      exact xr_iretH C E ⟨rfl, rfl, 1, rfl, Or.inr (Or.inl ⟨rfl, hx⟩)⟩ (by decide) (by decide) d_La_rewrite_16
    · refine xr_catch C E [⟨0, 10, 13, 24⟩] ⟨0, 10, 17, 13⟩ [⟨0, 10, 21, 15⟩] rfl (fun z hz => by
        rcases List.mem_cons.mp hz with rfl | hz
        · exact ⟨by decide, _, xkl_IO, by decide +kernel⟩
        cases hz) (by decide) (by decide) xkl_IA (by decide +kernel) (fun q => ?_)
      show XW G 56 ad w9 _ _ 17 _ _
      refine xr_astore C d_La_rewrite_17 (by decide) ?_
      refine xr_iconst C d_La_rewrite_19 ?_
      exact xr_iretH C E ⟨rfl, rfl, 2, rfl, Or.inr (Or.inr (Or.inl ⟨rfl, hx⟩))⟩ (by decide) (by decide) d_La_rewrite_20
    · refine xr_catch C E [⟨0, 10, 13, 24⟩, ⟨0, 10, 17, 13⟩] ⟨0, 10, 21, 15⟩ [] rfl (fun z hz => by
        rcases List.mem_cons.mp hz with rfl | hz
        · exact ⟨by decide, _, xkl_IO, by decide +kernel⟩
        rcases List.mem_cons.mp hz with rfl | hz
        · exact ⟨by decide, _, xkl_IA, by decide +kernel⟩
        cases hz) (by decide) (by decide) xkl_IS (by decide +kernel) (fun q => ?_)
      show XW G 56 ad w9 _ _ 21 _ _
      refine xr_astore C d_La_rewrite_21 (by decide) ?_
      refine xr_iconst C d_La_rewrite_23 ?_
      exact xr_iretH C E ⟨rfl, rfl, 3, rfl, Or.inr (Or.inr (Or.inr (⟨rfl, hx⟩)))⟩ (by decide) (by decide) d_La_rewrite_24
  · obtain ⟨rfl, rfl, z, rfl, hq⟩ := hp
    show XW G 56 ad w9 _ _ 8 _ (_ :: _)
    refine xr_i2l C d_La_rewrite_8 ?_
    refine xr_last (k := 55) C (hQ _ _ hq) (by decide) (by decide) (by decide) d_La_rewrite_9 ?_
    refine xr_goto (tgt := 25) C d_La_rewrite_10 (by decide) ?_
    refine xr_iconst C d_La_rewrite_25 ?_
    exact xr_iretH C E ⟨rfl, rfl, 0, rfl, Or.inl ⟨rfl, z, w9, hq, rfl⟩⟩ (by decide) (by decide) d_La_rewrite_26
set_option maxHeartbeats 4000000 in
set_option maxRecDepth 100000 in
theorem w_La_normal {L : Launch} {D : va_G} {cA : Nat → ClassId} {base : Nat} {ad : Nat → Nat} {w : Nat → va_E} {x : Int} {fs : List Value} {g : Nat → Int64} {Q : Int → (Nat → va_E) → Prop} {X : String → (Nat → va_E) → Prop} (hM : XM L D cA base y_RS_normal c_RS_normal 4 (some .int) (xrm 69 3 18) [.ref (ad 0), .int (zI x)] 56 ad w (xRet 56 ad Q) (xThr 56 ad X)) (hw0 : w 0 = xOb 4 fs) (hQ : ∀ z w1, Q z w1 → w1 55 = xLA (cA 2) 1 g) (hX : ∀ E w1, X E w1 → E = "java/lang/IndexOutOfBoundsException" ∨ E = "java/lang/IllegalArgumentException" ∨ E = "java/lang/IllegalStateException") : XMH L D cA base y_La_normal c_La_normal 4 (some .int) [(0, 9, 12, 24), (0, 9, 15, 13), (0, 9, 18, 15)] (xrm 70 3 18) [.ref (ad 0), .int (zI x), .ref (ad 55)] 56 ad w (xRet 56 ad (fun k w' => (k = 0 ∧ ∃ (z : Int) (w1 : Nat → va_E), Q z w1 ∧ w' = va_up w1 55 (xLA (cA 2) 1 (vp_updL g 0 (zI z).toInt64))) ∨ (k = 1 ∧ X "java/lang/IndexOutOfBoundsException" w') ∨ (k = 2 ∧ X "java/lang/IllegalArgumentException" w') ∨ (k = 3 ∧ X "java/lang/IllegalStateException" w'))) := by
  refine xm_ofH (by decide +kernel) (by simp [Value.category]) (Nat.le_of_ble_eq_true rfl) (fun G C E => ?_)
  refine xr_aload_n C 2 d_La_normal_0 rfl rfl ?_
  refine xr_iconst C d_La_normal_1 ?_
  refine xr_aload_n C 0 d_La_normal_2 rfl rfl ?_
  refine xr_iload_n C 1 d_La_normal_3 rfl rfl ?_
  refine xr_callV (k9 := 0) (As := [.int (zI x)]) (st := [.int (zI 0), .ref (ad 55)]) C hM xm_La_41 x2_RS_normal hw0 (by decide) rfl (by decide) (by decide) (Nat.le_of_ble_eq_true rfl) rfl d_La_normal_4 (fun En n9 ad9 w9 hx9 => ?_) (fun v n9 ad9 w9 hp => ?_)
  · obtain ⟨rfl, rfl, hx⟩ := hx9
    rcases hX _ _ hx with rfl | rfl | rfl
    · refine xr_catch C E [] ⟨0, 9, 12, 24⟩ [⟨0, 9, 15, 13⟩, ⟨0, 9, 18, 15⟩] rfl (fun z hz => by simp at hz) (by decide) (by decide) xkl_IO (by decide +kernel) (fun q => ?_)
      show XW G 56 ad w9 _ _ 12 _ _
      refine xr_astore_n C 3 d_La_normal_12 rfl (by decide) ?_
      refine xr_iconst C d_La_normal_13 ?_
      exact xr_iretH C E ⟨rfl, rfl, 1, rfl, Or.inr (Or.inl ⟨rfl, hx⟩)⟩ (by decide) (by decide) d_La_normal_14
    · refine xr_catch C E [⟨0, 9, 12, 24⟩] ⟨0, 9, 15, 13⟩ [⟨0, 9, 18, 15⟩] rfl (fun z hz => by
        rcases List.mem_cons.mp hz with rfl | hz
        · exact ⟨by decide, _, xkl_IO, by decide +kernel⟩
        cases hz) (by decide) (by decide) xkl_IA (by decide +kernel) (fun q => ?_)
      show XW G 56 ad w9 _ _ 15 _ _
      refine xr_astore_n C 3 d_La_normal_15 rfl (by decide) ?_
      refine xr_iconst C d_La_normal_16 ?_
      exact xr_iretH C E ⟨rfl, rfl, 2, rfl, Or.inr (Or.inr (Or.inl ⟨rfl, hx⟩))⟩ (by decide) (by decide) d_La_normal_17
    · refine xr_catch C E [⟨0, 9, 12, 24⟩, ⟨0, 9, 15, 13⟩] ⟨0, 9, 18, 15⟩ [] rfl (fun z hz => by
        rcases List.mem_cons.mp hz with rfl | hz
        · exact ⟨by decide, _, xkl_IO, by decide +kernel⟩
        rcases List.mem_cons.mp hz with rfl | hz
        · exact ⟨by decide, _, xkl_IA, by decide +kernel⟩
        cases hz) (by decide) (by decide) xkl_IS (by decide +kernel) (fun q => ?_)
      show XW G 56 ad w9 _ _ 18 _ _
      refine xr_astore_n C 3 d_La_normal_18 rfl (by decide) ?_
      refine xr_iconst C d_La_normal_19 ?_
      exact xr_iretH C E ⟨rfl, rfl, 3, rfl, Or.inr (Or.inr (Or.inr (⟨rfl, hx⟩)))⟩ (by decide) (by decide) d_La_normal_20
  · obtain ⟨rfl, rfl, z, rfl, hq⟩ := hp
    show XW G 56 ad w9 _ _ 7 _ (_ :: _)
    refine xr_i2l C d_La_normal_7 ?_
    refine xr_last (k := 55) C (hQ _ _ hq) (by decide) (by decide) (by decide) d_La_normal_8 ?_
    refine xr_goto (tgt := 21) C d_La_normal_9 (by decide) ?_
    refine xr_iconst C d_La_normal_21 ?_
    exact xr_iretH C E ⟨rfl, rfl, 0, rfl, Or.inl ⟨rfl, z, w9, hq, rfl⟩⟩ (by decide) (by decide) d_La_normal_22
set_option maxHeartbeats 4000000 in
set_option maxRecDepth 100000 in
theorem w_La_joins {L : Launch} {D : va_G} {cA : Nat → ClassId} {base : Nat} {ad : Nat → Nat} {w : Nat → va_E} {x y : Int} {fs : List Value} {g : Nat → Int64} {Q : Int → (Nat → va_E) → Prop} {X : String → (Nat → va_E) → Prop} (hM : XM L D cA base y_RS_joins c_RS_joins 6 (some .boolean) (xrm 69 6 36) [.ref (ad 0), .int (zI x), .int (zI y)] 56 ad w (xRet 56 ad Q) (xThr 56 ad X)) (hw0 : w 0 = xOb 4 fs) (hQ : ∀ z w1, Q z w1 → w1 55 = xLA (cA 2) 1 g) (hz : ∀ z w1, Q z w1 → z = 0 ∨ z = 1) (hX : ∀ E w1, X E w1 → E = "java/lang/IndexOutOfBoundsException" ∨ E = "java/lang/IllegalArgumentException" ∨ E = "java/lang/IllegalStateException") : XMH L D cA base y_La_joins c_La_joins 5 (some .int) [(0, 17, 20, 24), (0, 17, 24, 13), (0, 17, 28, 15)] (xrm 70 6 36) [.ref (ad 0), .int (zI x), .int (zI y), .ref (ad 55)] 56 ad w (xRet 56 ad (fun k w' => (k = 0 ∧ ∃ (z : Int) (w1 : Nat → va_E), Q z w1 ∧ w' = va_up w1 55 (xLA (cA 2) 1 (vp_updL g 0 (zI z).toInt64))) ∨ (k = 1 ∧ X "java/lang/IndexOutOfBoundsException" w') ∨ (k = 2 ∧ X "java/lang/IllegalArgumentException" w') ∨ (k = 3 ∧ X "java/lang/IllegalStateException" w'))) := by
  refine xm_ofH (by decide +kernel) (by simp [Value.category]) (Nat.le_of_ble_eq_true rfl) (fun G C E => ?_)
  refine xr_aload_n C 3 d_La_joins_0 rfl rfl ?_
  refine xr_iconst C d_La_joins_1 ?_
  refine xr_aload_n C 0 d_La_joins_2 rfl rfl ?_
  refine xr_iload_n C 1 d_La_joins_3 rfl rfl ?_
  refine xr_iload_n C 2 d_La_joins_4 rfl rfl ?_
  refine xr_callV (k9 := 0) (As := [.int (zI x), .int (zI y)]) (st := [.int (zI 0), .ref (ad 55)]) C hM xm_La_44 x2_RS_joins hw0 (by decide) rfl (by decide) (by decide) (Nat.le_of_ble_eq_true rfl) rfl d_La_joins_5 (fun En n9 ad9 w9 hx9 => ?_) (fun v n9 ad9 w9 hp => ?_)
  · obtain ⟨rfl, rfl, hx⟩ := hx9
    rcases hX _ _ hx with rfl | rfl | rfl
    · refine xr_catch C E [] ⟨0, 17, 20, 24⟩ [⟨0, 17, 24, 13⟩, ⟨0, 17, 28, 15⟩] rfl (fun z hz => by simp at hz) (by decide) (by decide) xkl_IO (by decide +kernel) (fun q => ?_)
      show XW G 56 ad w9 _ _ 20 _ _
      refine xr_astore C d_La_joins_20 (by decide) ?_
      refine xr_iconst C d_La_joins_22 ?_
      exact xr_iretH C E ⟨rfl, rfl, 1, rfl, Or.inr (Or.inl ⟨rfl, hx⟩)⟩ (by decide) (by decide) d_La_joins_23
    · refine xr_catch C E [⟨0, 17, 20, 24⟩] ⟨0, 17, 24, 13⟩ [⟨0, 17, 28, 15⟩] rfl (fun z hz => by
        rcases List.mem_cons.mp hz with rfl | hz
        · exact ⟨by decide, _, xkl_IO, by decide +kernel⟩
        cases hz) (by decide) (by decide) xkl_IA (by decide +kernel) (fun q => ?_)
      show XW G 56 ad w9 _ _ 24 _ _
      refine xr_astore C d_La_joins_24 (by decide) ?_
      refine xr_iconst C d_La_joins_26 ?_
      exact xr_iretH C E ⟨rfl, rfl, 2, rfl, Or.inr (Or.inr (Or.inl ⟨rfl, hx⟩))⟩ (by decide) (by decide) d_La_joins_27
    · refine xr_catch C E [⟨0, 17, 20, 24⟩, ⟨0, 17, 24, 13⟩] ⟨0, 17, 28, 15⟩ [] rfl (fun z hz => by
        rcases List.mem_cons.mp hz with rfl | hz
        · exact ⟨by decide, _, xkl_IO, by decide +kernel⟩
        rcases List.mem_cons.mp hz with rfl | hz
        · exact ⟨by decide, _, xkl_IA, by decide +kernel⟩
        cases hz) (by decide) (by decide) xkl_IS (by decide +kernel) (fun q => ?_)
      show XW G 56 ad w9 _ _ 28 _ _
      refine xr_astore C d_La_joins_28 (by decide) ?_
      refine xr_iconst C d_La_joins_30 ?_
      exact xr_iretH C E ⟨rfl, rfl, 3, rfl, Or.inr (Or.inr (Or.inr (⟨rfl, hx⟩)))⟩ (by decide) (by decide) d_La_joins_31
  · obtain ⟨rfl, rfl, z, rfl, hq⟩ := hp
    show XW G 56 ad w9 _ _ 8 _ (_ :: _)
    rcases hz _ _ hq with rfl | rfl
    · refine xz_if_eq (tgt := 15) C d_La_joins_8 (by decide) (by decide) (fun _ => ?_) (fun c => absurd rfl c)
      refine xr_lconst C d_La_joins_15 ?_
      refine xr_last (k := 55) C (hQ _ _ hq) (by decide) (by decide) (by decide) d_La_joins_16 ?_
      refine xr_goto (tgt := 32) C d_La_joins_17 (by decide) ?_
      refine xr_iconst C d_La_joins_32 ?_
      exact xr_iretH C E ⟨rfl, rfl, 0, rfl, Or.inl ⟨rfl, 0, w9, hq, congrArg (fun t => va_up w9 55 (xLA (cA 2) 1 (vp_updL g 0 t))) lz0⟩⟩ (by decide) (by decide) d_La_joins_33
    · refine xz_if_eq (tgt := 15) C d_La_joins_8 (by decide) (by decide) (fun c => absurd c (by decide)) (fun _ => ?_)
      refine xr_lconst C d_La_joins_11 ?_
      refine xr_goto (tgt := 16) C d_La_joins_12 (by decide) ?_
      refine xr_last (k := 55) C (hQ _ _ hq) (by decide) (by decide) (by decide) d_La_joins_16 ?_
      refine xr_goto (tgt := 32) C d_La_joins_17 (by decide) ?_
      refine xr_iconst C d_La_joins_32 ?_
      exact xr_iretH C E ⟨rfl, rfl, 0, rfl, Or.inl ⟨rfl, 1, w9, hq, congrArg (fun t => va_up w9 55 (xLA (cA 2) 1 (vp_updL g 0 t))) lz1⟩⟩ (by decide) (by decide) d_La_joins_33
set_option maxHeartbeats 4000000 in
set_option maxRecDepth 100000 in
theorem w_La_row {L : Launch} {D : va_G} {cA : Nat → ClassId} {base : Nat} {ad : Nat → Nat} {w : Nat → va_E} {x y : Int} {fs : List Value} {g : Nat → Int64} {Q : Int → (Nat → va_E) → Prop} {X : String → (Nat → va_E) → Prop} (hM : XM L D cA base y_RS_row c_RS_row 3 (some .int) (xrm 9 1 6) [.ref (ad 0), .int (zI x), .int (zI y)] 56 ad w (xRet 56 ad Q) (xThr 56 ad X)) (hw0 : w 0 = xOb 4 fs) (hQ : ∀ z w1, Q z w1 → w1 55 = xLA (cA 2) 1 g) (hX : ∀ E w1, X E w1 → E = "java/lang/IndexOutOfBoundsException" ∨ E = "java/lang/IllegalArgumentException") : XMH L D cA base y_La_row c_La_row 5 (some .int) [(0, 10, 13, 24), (0, 10, 17, 13)] (xrm 10 1 6) [.ref (ad 0), .int (zI x), .int (zI y), .ref (ad 55)] 56 ad w (xRet 56 ad (fun k w' => (k = 0 ∧ ∃ (z : Int) (w1 : Nat → va_E), Q z w1 ∧ w' = va_up w1 55 (xLA (cA 2) 1 (vp_updL g 0 (zI z).toInt64))) ∨ (k = 1 ∧ X "java/lang/IndexOutOfBoundsException" w') ∨ (k = 2 ∧ X "java/lang/IllegalArgumentException" w'))) := by
  refine xm_ofH (by decide +kernel) (by simp [Value.category]) (Nat.le_of_ble_eq_true rfl) (fun G C E => ?_)
  refine xr_aload_n C 3 d_La_row_0 rfl rfl ?_
  refine xr_iconst C d_La_row_1 ?_
  refine xr_aload_n C 0 d_La_row_2 rfl rfl ?_
  refine xr_iload_n C 1 d_La_row_3 rfl rfl ?_
  refine xr_iload_n C 2 d_La_row_4 rfl rfl ?_
  refine xr_callV (k9 := 0) (As := [.int (zI x), .int (zI y)]) (st := [.int (zI 0), .ref (ad 55)]) C hM xm_La_47 x2_RS_row hw0 (by decide) rfl (by decide) (by decide) (Nat.le_of_ble_eq_true rfl) rfl d_La_row_5 (fun En n9 ad9 w9 hx9 => ?_) (fun v n9 ad9 w9 hp => ?_)
  · obtain ⟨rfl, rfl, hx⟩ := hx9
    rcases hX _ _ hx with rfl | rfl
    · refine xr_catch C E [] ⟨0, 10, 13, 24⟩ [⟨0, 10, 17, 13⟩] rfl (fun z hz => by simp at hz) (by decide) (by decide) xkl_IO (by decide +kernel) (fun q => ?_)
      show XW G 56 ad w9 _ _ 13 _ _
      refine xr_astore C d_La_row_13 (by decide) ?_
      refine xr_iconst C d_La_row_15 ?_
      exact xr_iretH C E ⟨rfl, rfl, 1, rfl, Or.inr (Or.inl ⟨rfl, hx⟩)⟩ (by decide) (by decide) d_La_row_16
    · refine xr_catch C E [⟨0, 10, 13, 24⟩] ⟨0, 10, 17, 13⟩ [] rfl (fun z hz => by
        rcases List.mem_cons.mp hz with rfl | hz
        · exact ⟨by decide, _, xkl_IO, by decide +kernel⟩
        cases hz) (by decide) (by decide) xkl_IA (by decide +kernel) (fun q => ?_)
      show XW G 56 ad w9 _ _ 17 _ _
      refine xr_astore C d_La_row_17 (by decide) ?_
      refine xr_iconst C d_La_row_19 ?_
      exact xr_iretH C E ⟨rfl, rfl, 2, rfl, Or.inr (Or.inr (⟨rfl, hx⟩))⟩ (by decide) (by decide) d_La_row_20
  · obtain ⟨rfl, rfl, z, rfl, hq⟩ := hp
    show XW G 56 ad w9 _ _ 8 _ (_ :: _)
    refine xr_i2l C d_La_row_8 ?_
    refine xr_last (k := 55) C (hQ _ _ hq) (by decide) (by decide) (by decide) d_La_row_9 ?_
    refine xr_goto (tgt := 21) C d_La_row_10 (by decide) ?_
    refine xr_iconst C d_La_row_21 ?_
    exact xr_iretH C E ⟨rfl, rfl, 0, rfl, Or.inl ⟨rfl, z, w9, hq, rfl⟩⟩ (by decide) (by decide) d_La_row_22
set_option maxHeartbeats 4000000 in
set_option maxRecDepth 100000 in
theorem w_La_lessens {L : Launch} {D : va_G} {cA : Nat → ClassId} {base : Nat} {ad : Nat → Nat} {w : Nat → va_E} {x : Int} {fs : List Value} {g : Nat → Int64} {Q : Int → (Nat → va_E) → Prop} {X : String → (Nat → va_E) → Prop} (hM : XM L D cA base y_RS_lessens c_RS_lessens 2 (some .boolean) (xrm 9 1 6) [.ref (ad 0), .int (zI x)] 56 ad w (xRet 56 ad Q) (xThr 56 ad X)) (hw0 : w 0 = xOb 4 fs) (hQ : ∀ z w1, Q z w1 → w1 55 = xLA (cA 2) 1 g) (hz : ∀ z w1, Q z w1 → z = 0 ∨ z = 1) (hX : ∀ E w1, X E w1 → E = "java/lang/IndexOutOfBoundsException") : XMH L D cA base y_La_lessens c_La_lessens 4 (some .int) [(0, 16, 19, 24)] (xrm 10 1 6) [.ref (ad 0), .int (zI x), .ref (ad 55)] 56 ad w (xRet 56 ad (fun k w' => (k = 0 ∧ ∃ (z : Int) (w1 : Nat → va_E), Q z w1 ∧ w' = va_up w1 55 (xLA (cA 2) 1 (vp_updL g 0 (zI z).toInt64))) ∨ (k = 1 ∧ X "java/lang/IndexOutOfBoundsException" w'))) := by
  refine xm_ofH (by decide +kernel) (by simp [Value.category]) (Nat.le_of_ble_eq_true rfl) (fun G C E => ?_)
  refine xr_aload_n C 2 d_La_lessens_0 rfl rfl ?_
  refine xr_iconst C d_La_lessens_1 ?_
  refine xr_aload_n C 0 d_La_lessens_2 rfl rfl ?_
  refine xr_iload_n C 1 d_La_lessens_3 rfl rfl ?_
  refine xr_callV (k9 := 0) (As := [.int (zI x)]) (st := [.int (zI 0), .ref (ad 55)]) C hM xm_La_50 x2_RS_lessens hw0 (by decide) rfl (by decide) (by decide) (Nat.le_of_ble_eq_true rfl) rfl d_La_lessens_4 (fun En n9 ad9 w9 hx9 => ?_) (fun v n9 ad9 w9 hp => ?_)
  · obtain ⟨rfl, rfl, hx⟩ := hx9
    rcases hX _ _ hx with rfl
    · refine xr_catch C E [] ⟨0, 16, 19, 24⟩ [] rfl (fun z hz => by simp at hz) (by decide) (by decide) xkl_IO (by decide +kernel) (fun q => ?_)
      show XW G 56 ad w9 _ _ 19 _ _
      refine xr_astore_n C 3 d_La_lessens_19 rfl (by decide) ?_
      refine xr_iconst C d_La_lessens_20 ?_
      exact xr_iretH C E ⟨rfl, rfl, 1, rfl, Or.inr (⟨rfl, hx⟩)⟩ (by decide) (by decide) d_La_lessens_21
  · obtain ⟨rfl, rfl, z, rfl, hq⟩ := hp
    show XW G 56 ad w9 _ _ 7 _ (_ :: _)
    rcases hz _ _ hq with rfl | rfl
    · refine xz_if_eq (tgt := 14) C d_La_lessens_7 (by decide) (by decide) (fun _ => ?_) (fun c => absurd rfl c)
      refine xr_lconst C d_La_lessens_14 ?_
      refine xr_last (k := 55) C (hQ _ _ hq) (by decide) (by decide) (by decide) d_La_lessens_15 ?_
      refine xr_goto (tgt := 22) C d_La_lessens_16 (by decide) ?_
      refine xr_iconst C d_La_lessens_22 ?_
      exact xr_iretH C E ⟨rfl, rfl, 0, rfl, Or.inl ⟨rfl, 0, w9, hq, congrArg (fun t => va_up w9 55 (xLA (cA 2) 1 (vp_updL g 0 t))) lz0⟩⟩ (by decide) (by decide) d_La_lessens_23
    · refine xz_if_eq (tgt := 14) C d_La_lessens_7 (by decide) (by decide) (fun c => absurd c (by decide)) (fun _ => ?_)
      refine xr_lconst C d_La_lessens_10 ?_
      refine xr_goto (tgt := 15) C d_La_lessens_11 (by decide) ?_
      refine xr_last (k := 55) C (hQ _ _ hq) (by decide) (by decide) (by decide) d_La_lessens_15 ?_
      refine xr_goto (tgt := 22) C d_La_lessens_16 (by decide) ?_
      refine xr_iconst C d_La_lessens_22 ?_
      exact xr_iretH C E ⟨rfl, rfl, 0, rfl, Or.inl ⟨rfl, 1, w9, hq, congrArg (fun t => va_up w9 55 (xLA (cA 2) 1 (vp_updL g 0 t))) lz1⟩⟩ (by decide) (by decide) d_La_lessens_23
set_option maxHeartbeats 4000000 in
set_option maxRecDepth 100000 in
theorem w_La_usable {L : Launch} {D : va_G} {cA : Nat → ClassId} {base : Nat} {ad : Nat → Nat} {w : Nat → va_E} {x : Int} {fs : List Value} {g : Nat → Int64} {Q : Int → (Nat → va_E) → Prop} {X : String → (Nat → va_E) → Prop} (hM : XM L D cA base y_RS_usable c_RS_usable 2 (some .boolean) (xrm 9 1 6) [.ref (ad 0), .int (zI x)] 56 ad w (xRet 56 ad Q) (xThr 56 ad X)) (hw0 : w 0 = xOb 4 fs) (hQ : ∀ z w1, Q z w1 → w1 55 = xLA (cA 2) 1 g) (hz : ∀ z w1, Q z w1 → z = 0 ∨ z = 1) (hX : ∀ E w1, X E w1 → E = "java/lang/IndexOutOfBoundsException") : XMH L D cA base y_La_usable c_La_usable 4 (some .int) [(0, 16, 19, 24)] (xrm 10 1 6) [.ref (ad 0), .int (zI x), .ref (ad 55)] 56 ad w (xRet 56 ad (fun k w' => (k = 0 ∧ ∃ (z : Int) (w1 : Nat → va_E), Q z w1 ∧ w' = va_up w1 55 (xLA (cA 2) 1 (vp_updL g 0 (zI z).toInt64))) ∨ (k = 1 ∧ X "java/lang/IndexOutOfBoundsException" w'))) := by
  refine xm_ofH (by decide +kernel) (by simp [Value.category]) (Nat.le_of_ble_eq_true rfl) (fun G C E => ?_)
  refine xr_aload_n C 2 d_La_usable_0 rfl rfl ?_
  refine xr_iconst C d_La_usable_1 ?_
  refine xr_aload_n C 0 d_La_usable_2 rfl rfl ?_
  refine xr_iload_n C 1 d_La_usable_3 rfl rfl ?_
  refine xr_callV (k9 := 0) (As := [.int (zI x)]) (st := [.int (zI 0), .ref (ad 55)]) C hM xm_La_54 x2_RS_usable hw0 (by decide) rfl (by decide) (by decide) (Nat.le_of_ble_eq_true rfl) rfl d_La_usable_4 (fun En n9 ad9 w9 hx9 => ?_) (fun v n9 ad9 w9 hp => ?_)
  · obtain ⟨rfl, rfl, hx⟩ := hx9
    rcases hX _ _ hx with rfl
    · refine xr_catch C E [] ⟨0, 16, 19, 24⟩ [] rfl (fun z hz => by simp at hz) (by decide) (by decide) xkl_IO (by decide +kernel) (fun q => ?_)
      show XW G 56 ad w9 _ _ 19 _ _
      refine xr_astore_n C 3 d_La_usable_19 rfl (by decide) ?_
      refine xr_iconst C d_La_usable_20 ?_
      exact xr_iretH C E ⟨rfl, rfl, 1, rfl, Or.inr (⟨rfl, hx⟩)⟩ (by decide) (by decide) d_La_usable_21
  · obtain ⟨rfl, rfl, z, rfl, hq⟩ := hp
    show XW G 56 ad w9 _ _ 7 _ (_ :: _)
    rcases hz _ _ hq with rfl | rfl
    · refine xz_if_eq (tgt := 14) C d_La_usable_7 (by decide) (by decide) (fun _ => ?_) (fun c => absurd rfl c)
      refine xr_lconst C d_La_usable_14 ?_
      refine xr_last (k := 55) C (hQ _ _ hq) (by decide) (by decide) (by decide) d_La_usable_15 ?_
      refine xr_goto (tgt := 22) C d_La_usable_16 (by decide) ?_
      refine xr_iconst C d_La_usable_22 ?_
      exact xr_iretH C E ⟨rfl, rfl, 0, rfl, Or.inl ⟨rfl, 0, w9, hq, congrArg (fun t => va_up w9 55 (xLA (cA 2) 1 (vp_updL g 0 t))) lz0⟩⟩ (by decide) (by decide) d_La_usable_23
    · refine xz_if_eq (tgt := 14) C d_La_usable_7 (by decide) (by decide) (fun c => absurd c (by decide)) (fun _ => ?_)
      refine xr_lconst C d_La_usable_10 ?_
      refine xr_goto (tgt := 15) C d_La_usable_11 (by decide) ?_
      refine xr_last (k := 55) C (hQ _ _ hq) (by decide) (by decide) (by decide) d_La_usable_15 ?_
      refine xr_goto (tgt := 22) C d_La_usable_16 (by decide) ?_
      refine xr_iconst C d_La_usable_22 ?_
      exact xr_iretH C E ⟨rfl, rfl, 0, rfl, Or.inl ⟨rfl, 1, w9, hq, congrArg (fun t => va_up w9 55 (xLA (cA 2) 1 (vp_updL g 0 t))) lz1⟩⟩ (by decide) (by decide) d_La_usable_23
set_option maxHeartbeats 4000000 in
set_option maxRecDepth 100000 in
theorem w_La_above {L : Launch} {D : va_G} {cA : Nat → ClassId} {base : Nat} {ad : Nat → Nat} {w : Nat → va_E} {x y : Int} {fs : List Value} {g : Nat → Int64} {Q : Int → (Nat → va_E) → Prop} {X : String → (Nat → va_E) → Prop} (hM : XM L D cA base y_RS_above c_RS_above 3 (some .boolean) (xrm 9 2 12) [.ref (ad 0), .int (zI x), .int (zI y)] 56 ad w (xRet 56 ad Q) (xThr 56 ad X)) (hw0 : w 0 = xOb 4 fs) (hQ : ∀ z w1, Q z w1 → w1 55 = xLA (cA 2) 1 g) (hz : ∀ z w1, Q z w1 → z = 0 ∨ z = 1) (hX : ∀ E w1, X E w1 → E = "java/lang/IndexOutOfBoundsException") : XMH L D cA base y_La_above c_La_above 5 (some .int) [(0, 17, 20, 24)] (xrm 10 2 12) [.ref (ad 0), .int (zI x), .int (zI y), .ref (ad 55)] 56 ad w (xRet 56 ad (fun k w' => (k = 0 ∧ ∃ (z : Int) (w1 : Nat → va_E), Q z w1 ∧ w' = va_up w1 55 (xLA (cA 2) 1 (vp_updL g 0 (zI z).toInt64))) ∨ (k = 1 ∧ X "java/lang/IndexOutOfBoundsException" w'))) := by
  refine xm_ofH (by decide +kernel) (by simp [Value.category]) (Nat.le_of_ble_eq_true rfl) (fun G C E => ?_)
  refine xr_aload_n C 3 d_La_above_0 rfl rfl ?_
  refine xr_iconst C d_La_above_1 ?_
  refine xr_aload_n C 0 d_La_above_2 rfl rfl ?_
  refine xr_iload_n C 1 d_La_above_3 rfl rfl ?_
  refine xr_iload_n C 2 d_La_above_4 rfl rfl ?_
  refine xr_callV (k9 := 0) (As := [.int (zI x), .int (zI y)]) (st := [.int (zI 0), .ref (ad 55)]) C hM xm_La_57 x2_RS_above hw0 (by decide) rfl (by decide) (by decide) (Nat.le_of_ble_eq_true rfl) rfl d_La_above_5 (fun En n9 ad9 w9 hx9 => ?_) (fun v n9 ad9 w9 hp => ?_)
  · obtain ⟨rfl, rfl, hx⟩ := hx9
    rcases hX _ _ hx with rfl
    · refine xr_catch C E [] ⟨0, 17, 20, 24⟩ [] rfl (fun z hz => by simp at hz) (by decide) (by decide) xkl_IO (by decide +kernel) (fun q => ?_)
      show XW G 56 ad w9 _ _ 20 _ _
      refine xr_astore C d_La_above_20 (by decide) ?_
      refine xr_iconst C d_La_above_22 ?_
      exact xr_iretH C E ⟨rfl, rfl, 1, rfl, Or.inr (⟨rfl, hx⟩)⟩ (by decide) (by decide) d_La_above_23
  · obtain ⟨rfl, rfl, z, rfl, hq⟩ := hp
    show XW G 56 ad w9 _ _ 8 _ (_ :: _)
    rcases hz _ _ hq with rfl | rfl
    · refine xz_if_eq (tgt := 15) C d_La_above_8 (by decide) (by decide) (fun _ => ?_) (fun c => absurd rfl c)
      refine xr_lconst C d_La_above_15 ?_
      refine xr_last (k := 55) C (hQ _ _ hq) (by decide) (by decide) (by decide) d_La_above_16 ?_
      refine xr_goto (tgt := 24) C d_La_above_17 (by decide) ?_
      refine xr_iconst C d_La_above_24 ?_
      exact xr_iretH C E ⟨rfl, rfl, 0, rfl, Or.inl ⟨rfl, 0, w9, hq, congrArg (fun t => va_up w9 55 (xLA (cA 2) 1 (vp_updL g 0 t))) lz0⟩⟩ (by decide) (by decide) d_La_above_25
    · refine xz_if_eq (tgt := 15) C d_La_above_8 (by decide) (by decide) (fun c => absurd c (by decide)) (fun _ => ?_)
      refine xr_lconst C d_La_above_11 ?_
      refine xr_goto (tgt := 16) C d_La_above_12 (by decide) ?_
      refine xr_last (k := 55) C (hQ _ _ hq) (by decide) (by decide) (by decide) d_La_above_16 ?_
      refine xr_goto (tgt := 24) C d_La_above_17 (by decide) ?_
      refine xr_iconst C d_La_above_24 ?_
      exact xr_iretH C E ⟨rfl, rfl, 0, rfl, Or.inl ⟨rfl, 1, w9, hq, congrArg (fun t => va_up w9 55 (xLA (cA 2) 1 (vp_updL g 0 t))) lz1⟩⟩ (by decide) (by decide) d_La_above_25
set_option maxHeartbeats 4000000 in
set_option maxRecDepth 100000 in
theorem w_La_measure {L : Launch} {D : va_G} {cA : Nat → ClassId} {base : Nat} {ad : Nat → Nat} {w : Nat → va_E} {x y : Int} {fs : List Value} {g : Nat → Int64} {Q : Int → (Nat → va_E) → Prop} {X : String → (Nat → va_E) → Prop} (hM : XM L D cA base y_RS_measure c_RS_measure 3 (some .int) (xrm 9 2 12) [.ref (ad 0), .int (zI x), .int (zI y)] 56 ad w (xRet 56 ad Q) (xThr 56 ad X)) (hw0 : w 0 = xOb 4 fs) (hQ : ∀ z w1, Q z w1 → w1 55 = xLA (cA 2) 1 g) (hX : ∀ E w1, X E w1 → E = "java/lang/IndexOutOfBoundsException" ∨ E = "java/lang/IllegalArgumentException") : XMH L D cA base y_La_measure c_La_measure 5 (some .int) [(0, 10, 13, 24), (0, 10, 17, 13)] (xrm 10 2 12) [.ref (ad 0), .int (zI x), .int (zI y), .ref (ad 55)] 56 ad w (xRet 56 ad (fun k w' => (k = 0 ∧ ∃ (z : Int) (w1 : Nat → va_E), Q z w1 ∧ w' = va_up w1 55 (xLA (cA 2) 1 (vp_updL g 0 (zI z).toInt64))) ∨ (k = 1 ∧ X "java/lang/IndexOutOfBoundsException" w') ∨ (k = 2 ∧ X "java/lang/IllegalArgumentException" w'))) := by
  refine xm_ofH (by decide +kernel) (by simp [Value.category]) (Nat.le_of_ble_eq_true rfl) (fun G C E => ?_)
  refine xr_aload_n C 3 d_La_measure_0 rfl rfl ?_
  refine xr_iconst C d_La_measure_1 ?_
  refine xr_aload_n C 0 d_La_measure_2 rfl rfl ?_
  refine xr_iload_n C 1 d_La_measure_3 rfl rfl ?_
  refine xr_iload_n C 2 d_La_measure_4 rfl rfl ?_
  refine xr_callV (k9 := 0) (As := [.int (zI x), .int (zI y)]) (st := [.int (zI 0), .ref (ad 55)]) C hM xm_La_60 x2_RS_measure hw0 (by decide) rfl (by decide) (by decide) (Nat.le_of_ble_eq_true rfl) rfl d_La_measure_5 (fun En n9 ad9 w9 hx9 => ?_) (fun v n9 ad9 w9 hp => ?_)
  · obtain ⟨rfl, rfl, hx⟩ := hx9
    rcases hX _ _ hx with rfl | rfl
    · refine xr_catch C E [] ⟨0, 10, 13, 24⟩ [⟨0, 10, 17, 13⟩] rfl (fun z hz => by simp at hz) (by decide) (by decide) xkl_IO (by decide +kernel) (fun q => ?_)
      show XW G 56 ad w9 _ _ 13 _ _
      refine xr_astore C d_La_measure_13 (by decide) ?_
      refine xr_iconst C d_La_measure_15 ?_
      exact xr_iretH C E ⟨rfl, rfl, 1, rfl, Or.inr (Or.inl ⟨rfl, hx⟩)⟩ (by decide) (by decide) d_La_measure_16
    · refine xr_catch C E [⟨0, 10, 13, 24⟩] ⟨0, 10, 17, 13⟩ [] rfl (fun z hz => by
        rcases List.mem_cons.mp hz with rfl | hz
        · exact ⟨by decide, _, xkl_IO, by decide +kernel⟩
        cases hz) (by decide) (by decide) xkl_IA (by decide +kernel) (fun q => ?_)
      show XW G 56 ad w9 _ _ 17 _ _
      refine xr_astore C d_La_measure_17 (by decide) ?_
      refine xr_iconst C d_La_measure_19 ?_
      exact xr_iretH C E ⟨rfl, rfl, 2, rfl, Or.inr (Or.inr (⟨rfl, hx⟩))⟩ (by decide) (by decide) d_La_measure_20
  · obtain ⟨rfl, rfl, z, rfl, hq⟩ := hp
    show XW G 56 ad w9 _ _ 8 _ (_ :: _)
    refine xr_i2l C d_La_measure_8 ?_
    refine xr_last (k := 55) C (hQ _ _ hq) (by decide) (by decide) (by decide) d_La_measure_9 ?_
    refine xr_goto (tgt := 21) C d_La_measure_10 (by decide) ?_
    refine xr_iconst C d_La_measure_21 ?_
    exact xr_iretH C E ⟨rfl, rfl, 0, rfl, Or.inl ⟨rfl, z, w9, hq, rfl⟩⟩ (by decide) (by decide) d_La_measure_22
set_option maxHeartbeats 4000000 in
set_option maxRecDepth 100000 in
theorem w_La_at {L : Launch} {D : va_G} {cA : Nat → ClassId} {base : Nat} {ad : Nat → Nat} {w : Nat → va_E} {x y : Int} {fs : List Value} {g : Nat → Int64} {Q : Int → (Nat → va_E) → Prop} {X : String → (Nat → va_E) → Prop} (hM : XM L D cA base y_RS_at c_RS_at 3 (some .int) (xrm 9 1 6) [.ref (ad 0), .int (zI x), .int (zI y)] 56 ad w (xRet 56 ad Q) (xThr 56 ad X)) (hw0 : w 0 = xOb 4 fs) (hQ : ∀ z w1, Q z w1 → w1 55 = xLA (cA 2) 1 g) (hX : ∀ E w1, X E w1 → E = "java/lang/IndexOutOfBoundsException") : XMH L D cA base y_La_at c_La_at 5 (some .int) [(0, 10, 13, 24)] (xrm 10 1 6) [.ref (ad 0), .int (zI x), .int (zI y), .ref (ad 55)] 56 ad w (xRet 56 ad (fun k w' => (k = 0 ∧ ∃ (z : Int) (w1 : Nat → va_E), Q z w1 ∧ w' = va_up w1 55 (xLA (cA 2) 1 (vp_updL g 0 (zI z).toInt64))) ∨ (k = 1 ∧ X "java/lang/IndexOutOfBoundsException" w'))) := by
  refine xm_ofH (by decide +kernel) (by simp [Value.category]) (Nat.le_of_ble_eq_true rfl) (fun G C E => ?_)
  refine xr_aload_n C 3 d_La_at_0 rfl rfl ?_
  refine xr_iconst C d_La_at_1 ?_
  refine xr_aload_n C 0 d_La_at_2 rfl rfl ?_
  refine xr_iload_n C 1 d_La_at_3 rfl rfl ?_
  refine xr_iload_n C 2 d_La_at_4 rfl rfl ?_
  refine xr_callV (k9 := 0) (As := [.int (zI x), .int (zI y)]) (st := [.int (zI 0), .ref (ad 55)]) C hM xm_La_63 x2_RS_at hw0 (by decide) rfl (by decide) (by decide) (Nat.le_of_ble_eq_true rfl) rfl d_La_at_5 (fun En n9 ad9 w9 hx9 => ?_) (fun v n9 ad9 w9 hp => ?_)
  · obtain ⟨rfl, rfl, hx⟩ := hx9
    rcases hX _ _ hx with rfl
    · refine xr_catch C E [] ⟨0, 10, 13, 24⟩ [] rfl (fun z hz => by simp at hz) (by decide) (by decide) xkl_IO (by decide +kernel) (fun q => ?_)
      show XW G 56 ad w9 _ _ 13 _ _
      refine xr_astore C d_La_at_13 (by decide) ?_
      refine xr_iconst C d_La_at_15 ?_
      exact xr_iretH C E ⟨rfl, rfl, 1, rfl, Or.inr (⟨rfl, hx⟩)⟩ (by decide) (by decide) d_La_at_16
  · obtain ⟨rfl, rfl, z, rfl, hq⟩ := hp
    show XW G 56 ad w9 _ _ 8 _ (_ :: _)
    refine xr_i2l C d_La_at_8 ?_
    refine xr_last (k := 55) C (hQ _ _ hq) (by decide) (by decide) (by decide) d_La_at_9 ?_
    refine xr_goto (tgt := 17) C d_La_at_10 (by decide) ?_
    refine xr_iconst C d_La_at_17 ?_
    exact xr_iretH C E ⟨rfl, rfl, 0, rfl, Or.inl ⟨rfl, z, w9, hq, rfl⟩⟩ (by decide) (by decide) d_La_at_18
set_option maxHeartbeats 4000000 in
set_option maxRecDepth 100000 in
theorem w_La_head {L : Launch} {D : va_G} {cA : Nat → ClassId} {base : Nat} {ad : Nat → Nat} {w : Nat → va_E} {x : Int} {fs : List Value} {g : Nat → Int64} {Q : Int → (Nat → va_E) → Prop} {X : String → (Nat → va_E) → Prop} (hM : XM L D cA base y_RS_head c_RS_head 2 (some .int) (xrm 9 1 6) [.ref (ad 0), .int (zI x)] 56 ad w (xRet 56 ad Q) (xThr 56 ad X)) (hw0 : w 0 = xOb 4 fs) (hQ : ∀ z w1, Q z w1 → w1 55 = xLA (cA 2) 1 g) (hX : ∀ E w1, X E w1 → E = "java/lang/IndexOutOfBoundsException") : XMH L D cA base y_La_head c_La_head 4 (some .int) [(0, 9, 12, 24)] (xrm 10 1 6) [.ref (ad 0), .int (zI x), .ref (ad 55)] 56 ad w (xRet 56 ad (fun k w' => (k = 0 ∧ ∃ (z : Int) (w1 : Nat → va_E), Q z w1 ∧ w' = va_up w1 55 (xLA (cA 2) 1 (vp_updL g 0 (zI z).toInt64))) ∨ (k = 1 ∧ X "java/lang/IndexOutOfBoundsException" w'))) := by
  refine xm_ofH (by decide +kernel) (by simp [Value.category]) (Nat.le_of_ble_eq_true rfl) (fun G C E => ?_)
  refine xr_aload_n C 2 d_La_head_0 rfl rfl ?_
  refine xr_iconst C d_La_head_1 ?_
  refine xr_aload_n C 0 d_La_head_2 rfl rfl ?_
  refine xr_iload_n C 1 d_La_head_3 rfl rfl ?_
  refine xr_callV (k9 := 0) (As := [.int (zI x)]) (st := [.int (zI 0), .ref (ad 55)]) C hM xm_La_66 x2_RS_head hw0 (by decide) rfl (by decide) (by decide) (Nat.le_of_ble_eq_true rfl) rfl d_La_head_4 (fun En n9 ad9 w9 hx9 => ?_) (fun v n9 ad9 w9 hp => ?_)
  · obtain ⟨rfl, rfl, hx⟩ := hx9
    rcases hX _ _ hx with rfl
    · refine xr_catch C E [] ⟨0, 9, 12, 24⟩ [] rfl (fun z hz => by simp at hz) (by decide) (by decide) xkl_IO (by decide +kernel) (fun q => ?_)
      show XW G 56 ad w9 _ _ 12 _ _
      refine xr_astore_n C 3 d_La_head_12 rfl (by decide) ?_
      refine xr_iconst C d_La_head_13 ?_
      exact xr_iretH C E ⟨rfl, rfl, 1, rfl, Or.inr (⟨rfl, hx⟩)⟩ (by decide) (by decide) d_La_head_14
  · obtain ⟨rfl, rfl, z, rfl, hq⟩ := hp
    show XW G 56 ad w9 _ _ 7 _ (_ :: _)
    refine xr_i2l C d_La_head_7 ?_
    refine xr_last (k := 55) C (hQ _ _ hq) (by decide) (by decide) (by decide) d_La_head_8 ?_
    refine xr_goto (tgt := 15) C d_La_head_9 (by decide) ?_
    refine xr_iconst C d_La_head_15 ?_
    exact xr_iretH C E ⟨rfl, rfl, 0, rfl, Or.inl ⟨rfl, z, w9, hq, rfl⟩⟩ (by decide) (by decide) d_La_head_16
