set_option maxHeartbeats 4000000 in
set_option maxRecDepth 100000 in
theorem m_RS_spent {L : Launch} {D : va_G} {cA : Nat → ClassId} {base : Nat} {ad : Nat → Nat} {w : Nat → va_E} {kp sq : Nat} {ls : Int} {se : Bool} (hw0 : w 0 = rsO ad kp sq ls se) : XM L D cA base y_RS_spent c_RS_spent 1 (some .boolean) (xrm 0 0 0) [.ref (ad 0)] 56 ad w (xPure 56 ad w (.int (zI (xb se)))) xF := by
  refine xm_of (by decide +kernel) (by simp [Value.category]) (Nat.le_of_ble_eq_true rfl) (fun G C E _ => ?_)
  refine xr_aload_n C 0 d_RS_spent_0 rfl rfl ?_
  refine xr_get (k := 0) C xg_RS_46 hw0 (by decide) rfl d_RS_spent_1 ?_
  exact xr_zret C E xb_01 ⟨rfl, rfl, rfl, rfl⟩ (by decide) (by decide) d_RS_spent_4
set_option maxHeartbeats 4000000 in
set_option maxRecDepth 100000 in
theorem m_RS_steps {L : Launch} {D : va_G} {cA : Nat → ClassId} {base : Nat} {ad : Nat → Nat} {w : Nat → va_E} {kp sq : Nat} {ls : Int} {se : Bool} (hw0 : w 0 = rsO ad kp sq ls se) : XM L D cA base y_RS_steps c_RS_steps 1 (some .int) (xrm 0 0 0) [.ref (ad 0)] 56 ad w (xPure 56 ad w (.int (zI ls))) xF := by
  refine xm_of (by decide +kernel) (by simp [Value.category]) (Nat.le_of_ble_eq_true rfl) (fun G C E _ => ?_)
  refine xr_aload_n C 0 d_RS_steps_0 rfl rfl ?_
  refine xr_get (k := 0) C xg_RS_42 hw0 (by decide) rfl d_RS_steps_1 ?_
  exact xr_iret C E ⟨rfl, rfl, rfl, rfl⟩ (by decide) (by decide) d_RS_steps_4
set_option maxHeartbeats 4000000 in
set_option maxRecDepth 100000 in
theorem m_RS_count {L : Launch} {D : va_G} {cA : Nat → ClassId} {base : Nat} {ad : Nat → Nat} {w : Nat → va_E} {kp sq : Nat} {ls : Int} {se : Bool} (hw0 : w 0 = rsO ad kp sq ls se) {t : Int} (hw1 : w 1 = trO ad t) (ht : 0 ≤ t ∧ t ≤ 300) {r sz : Int} (hw12 : w 12 = ruO ad r) (hkp : kp = 25 ∨ kp = 27) (hwkp : w kp = roO ad kp sz) {x : Int} (hx : -2147483648 ≤ x ∧ x < 2147483648) : XM L D cA base y_RS_count c_RS_count 2 (some .int) (xrm 0 0 0) [.ref (ad 0), .int (zI x)] 56 ad w (xPure 56 ad w (.int (zI (if x = 0 then t else if x = 1 then r else if x = 2 then sz else -1)))) xF := by
  refine xm_of (by decide +kernel) (by simp [Value.category]) (Nat.le_of_ble_eq_true rfl) (fun G C E _ => ?_)
  refine xr_iload_n C 1 d_RS_count_0 rfl rfl ?_
  rcases (show x = 0 ∨ x = 1 ∨ x = 2 ∨ (x < 0 ∨ 2 < x) by omega) with q0 | q1 | q2 | qd
  · skip
    refine xr_eqz (y := 0) q0 ?_
    refine xr_tableIn (tgt := 28) C d_RS_count_1 (by decide) (by decide) rfl (by decide) ?_
    refine xr_aload_n C 0 d_RS_count_28 rfl rfl ?_
    refine xr_get (k := 0) C xg_RS_10 hw0 (by decide) rfl d_RS_count_29 ?_
    refine xr_get (k := 1) C xg_RS_110 hw1 (by decide) rfl d_RS_count_32 ?_
    exact xr_iret C E ⟨rfl, rfl, rfl, xv_eq (by repeat' split; all_goals omega)⟩ (by decide) (by decide) d_RS_count_35
  · skip
    refine xr_eqz (y := 1) q1 ?_
    refine xr_tableIn (tgt := 36) C d_RS_count_1 (by decide) (by decide) rfl (by decide) ?_
    refine xr_aload_n C 0 d_RS_count_36 rfl rfl ?_
    refine xr_get (k := 0) C xg_RS_19 hw0 (by decide) rfl d_RS_count_37 ?_
    refine xr_get (k := 12) C xg_RS_164 hw12 (by decide) rfl d_RS_count_40 ?_
    exact xr_iret C E ⟨rfl, rfl, rfl, xv_eq (by repeat' split; all_goals omega)⟩ (by decide) (by decide) d_RS_count_43
  · skip
    refine xr_eqz (y := 2) q2 ?_
    refine xr_tableIn (tgt := 44) C d_RS_count_1 (by decide) (by decide) rfl (by decide) ?_
    refine xr_aload_n C 0 d_RS_count_44 rfl rfl ?_
    refine xr_get (k := 0) C xg_RS_35 hw0 (by decide) rfl d_RS_count_45 ?_
    refine xr_get (k := kp) C xg_RS_127 hwkp (by omega) rfl d_RS_count_48 ?_
    exact xr_iret C E ⟨rfl, rfl, rfl, xv_eq (by repeat' split; all_goals omega)⟩ (by decide) (by decide) d_RS_count_51
  · skip
    refine xr_tableOut (tgt := 52) C d_RS_count_1 (by rw [zI_toInt (by omega)]; omega) (by decide) ?_
    refine xr_iconst C d_RS_count_52 ?_
    exact xr_iret C E ⟨rfl, rfl, rfl, xv_eq (by repeat' split; all_goals omega)⟩ (by decide) (by decide) d_RS_count_53
set_option maxHeartbeats 4000000 in
set_option maxRecDepth 100000 in
theorem m_RS_head {L : Launch} {D : va_G} {cA : Nat → ClassId} {base : Nat} {ad : Nat → Nat} {w : Nat → va_E} (hLt : L.stackTraces = false) {kp sq : Nat} {ls : Int} {se : Bool} (hw0 : w 0 = rsO ad kp sq ls se) {t : Int} (hw1 : w 1 = trO ad t) (ht : 0 ≤ t ∧ t ≤ 300) {mk : Nat → Int} (hw2 : w 2 = xIA (cA 0) 300 mk) {x : Int} (hx : -2147483648 ≤ x ∧ x < 2147483648) : XM L D cA base y_RS_head c_RS_head 2 (some .int) (xrm 9 1 6) [.ref (ad 0), .int (zI x)] 56 ad w (xRet 56 ad (fun z w' => w = w' ∧ z = mk x.toNat ∧ 0 ≤ x ∧ x < t)) (xThr 56 ad (fun E w' => w = w' ∧ E = "java/lang/IndexOutOfBoundsException" ∧ ¬ (0 ≤ x ∧ x < t))) := by
  refine xm_of (by decide +kernel) (by simp [Value.category]) (Nat.le_of_ble_eq_true rfl) (fun G C E _ => ?_)
  refine xr_aload_n C 0 d_RS_head_0 rfl rfl ?_
  refine xr_iload_n C 1 d_RS_head_1 rfl rfl ?_
  refine xr_callV (k9 := 0) C (m_RS_needTree hLt hw0 hw1 ht (x := x) (by omega)) xm_RS_67 x2_RS_needTree hw0 (by decide) rfl (by decide) (by decide) (Nat.le_of_ble_eq_true rfl) rfl d_RS_head_2 (fun En n9 ad9 w9 hx9 => by
        obtain ⟨rfl, rfl, rfl, rfl, hq⟩ := hx9
        exact xx_out C E ⟨rfl, rfl, rfl, rfl, by omega⟩ (by decide) (by decide)) (fun v n9 ad9 w9 hp => ?_)
  obtain ⟨rfl, rfl, rfl, rfl, hq0, hq1⟩ := hp
  refine xr_aload_n C 0 d_RS_head_5 rfl rfl ?_
  refine xr_get (k := 0) C xg_RS_10 hw0 (by decide) rfl d_RS_head_6 ?_
  refine xr_get (k := 1) C xg_RS_161 hw1 (by decide) rfl d_RS_head_9 ?_
  refine xr_iload_n C 1 d_RS_head_12 rfl rfl ?_
  refine xz_iald (k := 2) C hw2 (by decide) (by omega) (by decide) d_RS_head_13 ?_
  exact xr_iret C E ⟨rfl, rfl, _, rfl, rfl, rfl, by omega, by omega⟩ (by decide) (by decide) d_RS_head_14
set_option maxHeartbeats 4000000 in
set_option maxRecDepth 100000 in
theorem m_RS_measure {L : Launch} {D : va_G} {cA : Nat → ClassId} {base : Nat} {ad : Nat → Nat} {w : Nat → va_E} (hLt : L.stackTraces = false) {kp sq : Nat} {ls : Int} {se : Bool} (hw0 : w 0 = rsO ad kp sq ls se) {t : Int} (hw1 : w 1 = trO ad t) (ht : 0 ≤ t ∧ t ≤ 300) {wt pl dp ho : Nat → Int} (hw5 : w 5 = xIA (cA 0) 300 wt) (hw6 : w 6 = xIA (cA 0) 300 pl) (hw7 : w 7 = xIA (cA 0) 300 dp) (hw8 : w 8 = xIA (cA 0) 300 ho) {x : Int} (hx : -2147483648 ≤ x ∧ x < 2147483648) {y : Int} (hy : -2147483648 ≤ y ∧ y < 2147483648) : XM L D cA base y_RS_measure c_RS_measure 3 (some .int) (xrm 9 2 12) [.ref (ad 0), .int (zI x), .int (zI y)] 56 ad w (xRet 56 ad (fun z w' => w = w' ∧ z = (if y = 0 then wt x.toNat else if y = 1 then pl x.toNat else if y = 2 then dp x.toNat else ho x.toNat) ∧ (0 ≤ x ∧ x < t) ∧ (0 ≤ y ∧ y < 4))) (xThr 56 ad (fun E w' => w = w' ∧ ((E = "java/lang/IndexOutOfBoundsException" ∧ ¬ (0 ≤ x ∧ x < t)) ∨ (E = "java/lang/IllegalArgumentException" ∧ (0 ≤ x ∧ x < t) ∧ ¬ (0 ≤ y ∧ y < 4))))) := by
  refine xm_of (by decide +kernel) (by simp [Value.category]) (Nat.le_of_ble_eq_true rfl) (fun G C E _ => ?_)
  refine xr_aload_n C 0 d_RS_measure_0 rfl rfl ?_
  refine xr_iload_n C 1 d_RS_measure_1 rfl rfl ?_
  refine xr_callV (k9 := 0) C (m_RS_needTree hLt hw0 hw1 ht (x := x) (by omega)) xm_RS_67 x2_RS_needTree hw0 (by decide) rfl (by decide) (by decide) (Nat.le_of_ble_eq_true rfl) rfl d_RS_measure_2 (fun En n9 ad9 w9 hx9 => by
        obtain ⟨rfl, rfl, rfl, rfl, hq⟩ := hx9
        exact xx_out C E ⟨rfl, rfl, rfl, Or.inl ⟨rfl, by omega⟩⟩ (by decide) (by decide)) (fun v n9 ad9 w9 hp => ?_)
  obtain ⟨rfl, rfl, rfl, rfl, hq0, hq1⟩ := hp
  refine xr_iload_n C 2 d_RS_measure_5 rfl rfl ?_
  refine xz_if_lt (tgt := 14) C d_RS_measure_6 (by decide) (by omega) (fun c6 => ?_) (fun c6 => ?_)
  · skip
    exact xr_throw C E hLt (cls := "java/lang/IllegalArgumentException") (text := "no such measure") (names := ["java/lang/RuntimeException", "java/lang/Exception"]) rfl (by decide +kernel) (by decide +kernel) xk_RS_50 xi_IA (by decide +kernel) xat_IA (by decide +kernel) d_RS_measure_14 d_RS_measure_17 d_RS_measure_18 d_RS_measure_20 d_RS_measure_23 (by decide) (by decide) ⟨rfl, rfl, rfl, Or.inr ⟨rfl, by omega, by omega⟩⟩ (by decide) (by decide)
  · skip
    refine xr_iload_n C 2 d_RS_measure_9 rfl rfl ?_
    refine xr_iconst C d_RS_measure_10 ?_
    refine xz_icmp_lt (tgt := 24) C d_RS_measure_11 (by decide) (by omega) (by omega) (fun c11 => ?_) (fun c11 => ?_)
    · skip
      refine xr_iload_n C 2 d_RS_measure_24 rfl rfl ?_
      rcases (show y = 0 ∨ y = 1 ∨ y = 2 ∨ (y < 0 ∨ 2 < y) by omega) with q0 | q1 | q2 | qd
      · skip
        refine xr_eqz (y := 0) q0 ?_
        refine xr_tableIn (tgt := 52) C d_RS_measure_25 (by decide) (by decide) rfl (by decide) ?_
        refine xr_aload_n C 0 d_RS_measure_52 rfl rfl ?_
        refine xr_get (k := 0) C xg_RS_10 hw0 (by decide) rfl d_RS_measure_53 ?_
        refine xr_get (k := 1) C xg_RS_149 hw1 (by decide) rfl d_RS_measure_56 ?_
        refine xr_iload_n C 1 d_RS_measure_59 rfl rfl ?_
        refine xz_iald (k := 5) C hw5 (by decide) (by omega) (by decide) d_RS_measure_60 ?_
        exact xr_iret C E ⟨rfl, rfl, _, rfl, rfl, by repeat' split; all_goals first | rfl | omega, by omega, by omega⟩ (by decide) (by decide) d_RS_measure_61
      · skip
        refine xr_eqz (y := 1) q1 ?_
        refine xr_tableIn (tgt := 62) C d_RS_measure_25 (by decide) (by decide) rfl (by decide) ?_
        refine xr_aload_n C 0 d_RS_measure_62 rfl rfl ?_
        refine xr_get (k := 0) C xg_RS_10 hw0 (by decide) rfl d_RS_measure_63 ?_
        refine xr_get (k := 1) C xg_RS_152 hw1 (by decide) rfl d_RS_measure_66 ?_
        refine xr_iload_n C 1 d_RS_measure_69 rfl rfl ?_
        refine xz_iald (k := 6) C hw6 (by decide) (by omega) (by decide) d_RS_measure_70 ?_
        exact xr_iret C E ⟨rfl, rfl, _, rfl, rfl, by repeat' split; all_goals first | rfl | omega, by omega, by omega⟩ (by decide) (by decide) d_RS_measure_71
      · skip
        refine xr_eqz (y := 2) q2 ?_
        refine xr_tableIn (tgt := 72) C d_RS_measure_25 (by decide) (by decide) rfl (by decide) ?_
        refine xr_aload_n C 0 d_RS_measure_72 rfl rfl ?_
        refine xr_get (k := 0) C xg_RS_10 hw0 (by decide) rfl d_RS_measure_73 ?_
        refine xr_get (k := 1) C xg_RS_155 hw1 (by decide) rfl d_RS_measure_76 ?_
        refine xr_iload_n C 1 d_RS_measure_79 rfl rfl ?_
        refine xz_iald (k := 7) C hw7 (by decide) (by omega) (by decide) d_RS_measure_80 ?_
        exact xr_iret C E ⟨rfl, rfl, _, rfl, rfl, by repeat' split; all_goals first | rfl | omega, by omega, by omega⟩ (by decide) (by decide) d_RS_measure_81
      · skip
        refine xr_tableOut (tgt := 82) C d_RS_measure_25 (by rw [zI_toInt (by omega)]; omega) (by decide) ?_
        refine xr_aload_n C 0 d_RS_measure_82 rfl rfl ?_
        refine xr_get (k := 0) C xg_RS_10 hw0 (by decide) rfl d_RS_measure_83 ?_
        refine xr_get (k := 1) C xg_RS_77 hw1 (by decide) rfl d_RS_measure_86 ?_
        refine xr_iload_n C 1 d_RS_measure_89 rfl rfl ?_
        refine xz_iald (k := 8) C hw8 (by decide) (by omega) (by decide) d_RS_measure_90 ?_
        exact xr_iret C E ⟨rfl, rfl, _, rfl, rfl, by repeat' split; all_goals first | rfl | omega, by omega, by omega⟩ (by decide) (by decide) d_RS_measure_91
    · skip
      exact xr_throw C E hLt (cls := "java/lang/IllegalArgumentException") (text := "no such measure") (names := ["java/lang/RuntimeException", "java/lang/Exception"]) rfl (by decide +kernel) (by decide +kernel) xk_RS_50 xi_IA (by decide +kernel) xat_IA (by decide +kernel) d_RS_measure_14 d_RS_measure_17 d_RS_measure_18 d_RS_measure_20 d_RS_measure_23 (by decide) (by decide) ⟨rfl, rfl, rfl, Or.inr ⟨rfl, by omega, by omega⟩⟩ (by decide) (by decide)
set_option maxHeartbeats 4000000 in
set_option maxRecDepth 100000 in
theorem m_RS_lessens {L : Launch} {D : va_G} {cA : Nat → ClassId} {base : Nat} {ad : Nat → Nat} {w : Nat → va_E} (hLt : L.stackTraces = false) {kp sq : Nat} {ls : Int} {se : Bool} (hw0 : w 0 = rsO ad kp sq ls se) {t : Int} (hw12 : w 12 = ruO ad t) (ht : 0 ≤ t ∧ t ≤ 16) {le : Nat → Int} (hw16 : w 16 = xIA (cA 1) 16 le) (hle : ∀ j, le j = 0 ∨ le j = 1) {x : Int} (hx : -2147483648 ≤ x ∧ x < 2147483648) : XM L D cA base y_RS_lessens c_RS_lessens 2 (some .boolean) (xrm 9 1 6) [.ref (ad 0), .int (zI x)] 56 ad w (xRet 56 ad (fun z w' => w = w' ∧ z = le x.toNat ∧ 0 ≤ x ∧ x < t)) (xThr 56 ad (fun E w' => w = w' ∧ E = "java/lang/IndexOutOfBoundsException" ∧ ¬ (0 ≤ x ∧ x < t))) := by
  refine xm_of (by decide +kernel) (by simp [Value.category]) (Nat.le_of_ble_eq_true rfl) (fun G C E _ => ?_)
  refine xr_aload_n C 0 d_RS_lessens_0 rfl rfl ?_
  refine xr_iload_n C 1 d_RS_lessens_1 rfl rfl ?_
  refine xr_callV (k9 := 0) C (m_RS_needRule hLt hw0 hw12 ht (x := x) (by omega)) xm_RS_98 x2_RS_needRule hw0 (by decide) rfl (by decide) (by decide) (Nat.le_of_ble_eq_true rfl) rfl d_RS_lessens_2 (fun En n9 ad9 w9 hx9 => by
        obtain ⟨rfl, rfl, rfl, rfl, hq⟩ := hx9
        exact xx_out C E ⟨rfl, rfl, rfl, rfl, by omega⟩ (by decide) (by decide)) (fun v n9 ad9 w9 hp => ?_)
  obtain ⟨rfl, rfl, rfl, rfl, hq0, hq1⟩ := hp
  refine xr_aload_n C 0 d_RS_lessens_5 rfl rfl ?_
  refine xr_get (k := 0) C xg_RS_19 hw0 (by decide) rfl d_RS_lessens_6 ?_
  refine xr_get (k := 12) C xg_RS_141 hw12 (by decide) rfl d_RS_lessens_9 ?_
  refine xr_iload_n C 1 d_RS_lessens_12 rfl rfl ?_
  refine xz_zald (k := 16) C hw16 (by decide) (by omega) (by decide) d_RS_lessens_13 ?_
  exact xr_zret C E (hle _) ⟨rfl, rfl, _, rfl, rfl, rfl, by omega, by omega⟩ (by decide) (by decide) d_RS_lessens_14
set_option maxHeartbeats 4000000 in
set_option maxRecDepth 100000 in
theorem m_RS_usable {L : Launch} {D : va_G} {cA : Nat → ClassId} {base : Nat} {ad : Nat → Nat} {w : Nat → va_E} (hLt : L.stackTraces = false) {kp sq : Nat} {ls : Int} {se : Bool} (hw0 : w 0 = rsO ad kp sq ls se) {t : Int} (hw12 : w 12 = ruO ad t) (ht : 0 ≤ t ∧ t ≤ 16) {co ch an : Nat → Int} (hw15 : w 15 = xIA (cA 0) 16 co) (hw17 : w 17 = xIA (cA 1) 16 ch) (hw18 : w 18 = xIA (cA 0) 10 an) (hco : ∀ j, -1 ≤ co j ∧ co j < 10) (hch : ∀ j, ch j = 0 ∨ ch j = 1) (han : ∀ j, 0 ≤ an j ∧ an j ≤ 2) {x : Int} (hx : -2147483648 ≤ x ∧ x < 2147483648) : XM L D cA base y_RS_usable c_RS_usable 2 (some .boolean) (xrm 9 1 6) [.ref (ad 0), .int (zI x)] 56 ad w (xRet 56 ad (fun z w' => w = w' ∧ z = xb (decide (ch x.toNat = 1 ∧ (co x.toNat = -1 ∨ an (co x.toNat).toNat = 1))) ∧ 0 ≤ x ∧ x < t)) (xThr 56 ad (fun E w' => w = w' ∧ E = "java/lang/IndexOutOfBoundsException" ∧ ¬ (0 ≤ x ∧ x < t))) := by
  refine xm_of (by decide +kernel) (by simp [Value.category]) (Nat.le_of_ble_eq_true rfl) (fun G C E _ => ?_)
  refine xr_aload_n C 0 d_RS_usable_0 rfl rfl ?_
  refine xr_iload_n C 1 d_RS_usable_1 rfl rfl ?_
  refine xr_callV (k9 := 0) C (m_RS_needRule hLt hw0 hw12 ht (x := x) (by omega)) xm_RS_98 x2_RS_needRule hw0 (by decide) rfl (by decide) (by decide) (Nat.le_of_ble_eq_true rfl) rfl d_RS_usable_2 (fun En n9 ad9 w9 hx9 => by
        obtain ⟨rfl, rfl, rfl, rfl, hq⟩ := hx9
        exact xx_out C E ⟨rfl, rfl, rfl, rfl, by omega⟩ (by decide) (by decide)) (fun v n9 ad9 w9 hp => ?_)
  obtain ⟨rfl, rfl, rfl, rfl, hq0, hq1⟩ := hp
  refine xr_aload_n C 0 d_RS_usable_5 rfl rfl ?_
  refine xr_get (k := 0) C xg_RS_19 hw0 (by decide) rfl d_RS_usable_6 ?_
  refine xr_iload_n C 1 d_RS_usable_9 rfl rfl ?_
  refine xr_callV (k9 := 12) C (m_Ru_mayBeUsed hw12 hw15 hw17 hw18 (x := x) (by omega) (hco _) (hch _) han) xm_RS_144 x2_Ru_mayBeUsed hw12 (by decide) rfl (by decide) (by decide) (Nat.le_of_ble_eq_true rfl) rfl d_RS_usable_10 (fun En n9 ad9 w9 hx9 => hx9.elim) (fun v n9 ad9 w9 hp => ?_)
  obtain ⟨rfl, rfl, rfl, rfl⟩ := hp
  show XW _ _ _ _ _ _ 13 _ (_ :: _)
  exact xr_zret C E xb_01 ⟨rfl, rfl, _, rfl, rfl, rfl, by omega, by omega⟩ (by decide) (by decide) d_RS_usable_13
set_option maxHeartbeats 4000000 in
set_option maxRecDepth 100000 in
theorem m_RS_choose {L : Launch} {D : va_G} {cA : Nat → ClassId} {base : Nat} {ad : Nat → Nat} {w : Nat → va_E} (hLt : L.stackTraces = false) {kp sq : Nat} {ls : Int} {se : Bool} (hw0 : w 0 = rsO ad kp sq ls se) {t : Int} (hw12 : w 12 = ruO ad t) (ht : 0 ≤ t ∧ t ≤ 16) {co ch an : Nat → Int} (hw15 : w 15 = xIA (cA 0) 16 co) (hw17 : w 17 = xIA (cA 1) 16 ch) (hw18 : w 18 = xIA (cA 0) 10 an) (hco : ∀ j, -1 ≤ co j ∧ co j < 10) (hch : ∀ j, ch j = 0 ∨ ch j = 1) (han : ∀ j, 0 ≤ an j ∧ an j ≤ 2) {x : Int} (hx : -2147483648 ≤ x ∧ x < 2147483648) {on : Bool} : XM L D cA base y_RS_choose c_RS_choose 4 (some .boolean) (xrm 9 1 6) [.ref (ad 0), .int (zI x), .int (zI (xb on))] 56 ad w (xRet 56 ad (fun z w' => w' = va_up w 17 (xIA (cA 1) 16 (va_up ch x.toNat (xb on))) ∧ z = xb (decide (ch x.toNat ≠ xb on)) ∧ 0 ≤ x ∧ x < t)) (xThr 56 ad (fun E w' => w = w' ∧ E = "java/lang/IndexOutOfBoundsException" ∧ ¬ (0 ≤ x ∧ x < t))) := by
  refine xm_of (by decide +kernel) (by simp [Value.category]) (Nat.le_of_ble_eq_true rfl) (fun G C E _ => ?_)
  refine xr_aload_n C 0 d_RS_choose_0 rfl rfl ?_
  refine xr_iload_n C 1 d_RS_choose_1 rfl rfl ?_
  refine xr_callV (k9 := 0) C (m_RS_needRule hLt hw0 hw12 ht (x := x) (by omega)) xm_RS_98 x2_RS_needRule hw0 (by decide) rfl (by decide) (by decide) (Nat.le_of_ble_eq_true rfl) rfl d_RS_choose_2 (fun En n9 ad9 w9 hx9 => by
        obtain ⟨rfl, rfl, rfl, rfl, hq⟩ := hx9
        exact xx_out C E ⟨rfl, rfl, rfl, rfl, by omega⟩ (by decide) (by decide)) (fun v n9 ad9 w9 hp => ?_)
  obtain ⟨rfl, rfl, rfl, rfl, hq0, hq1⟩ := hp
  refine xr_aload_n C 0 d_RS_choose_5 rfl rfl ?_
  refine xr_get (k := 0) C xg_RS_19 hw0 (by decide) rfl d_RS_choose_6 ?_
  refine xr_get (k := 12) C xg_RS_101 hw12 (by decide) rfl d_RS_choose_9 ?_
  refine xr_iload_n C 1 d_RS_choose_12 rfl rfl ?_
  refine xz_zald (k := 17) C hw17 (by decide) (by omega) (by decide) d_RS_choose_13 ?_
  refine xr_iload_n C 2 d_RS_choose_14 rfl rfl ?_
  have hb9 := xb_01 (p := on)
  have hc9 := hch x.toNat
  refine xz_icmp_eq (tgt := 22) C d_RS_choose_15 (by decide) (by omega) (by omega) (fun c15 => ?_) (fun c15 => ?_)
  · skip
    refine xr_iconst C d_RS_choose_22 ?_
    refine xr_istore_n C 3 d_RS_choose_23 rfl (by decide) ?_
    refine xr_aload_n C 0 d_RS_choose_24 rfl rfl ?_
    refine xr_get (k := 0) C xg_RS_19 hw0 (by decide) rfl d_RS_choose_25 ?_
    refine xr_get (k := 12) C xg_RS_101 hw12 (by decide) rfl d_RS_choose_28 ?_
    refine xr_iload_n C 1 d_RS_choose_31 rfl rfl ?_
    refine xr_iload_n C 2 d_RS_choose_32 rfl rfl ?_
    refine xz_zast (k := 17) C hw17 (by decide) (by omega) (by decide) xb_01 d_RS_choose_33 ?_
    refine xr_iload_n C 3 d_RS_choose_34 rfl rfl ?_
    exact xr_zret C E (by omega) ⟨rfl, rfl, _, rfl, rfl, by first | (rw [decide_eq_true (by omega)]; rfl) | (rw [decide_eq_false (by omega)]; rfl), by omega, by omega⟩ (by decide) (by decide) d_RS_choose_35
  · skip
    refine xr_iconst C d_RS_choose_18 ?_
    refine xr_goto (tgt := 23) C d_RS_choose_19 (by decide) ?_
    refine xr_istore_n C 3 d_RS_choose_23 rfl (by decide) ?_
    refine xr_aload_n C 0 d_RS_choose_24 rfl rfl ?_
    refine xr_get (k := 0) C xg_RS_19 hw0 (by decide) rfl d_RS_choose_25 ?_
    refine xr_get (k := 12) C xg_RS_101 hw12 (by decide) rfl d_RS_choose_28 ?_
    refine xr_iload_n C 1 d_RS_choose_31 rfl rfl ?_
    refine xr_iload_n C 2 d_RS_choose_32 rfl rfl ?_
    refine xz_zast (k := 17) C hw17 (by decide) (by omega) (by decide) xb_01 d_RS_choose_33 ?_
    refine xr_iload_n C 3 d_RS_choose_34 rfl rfl ?_
    exact xr_zret C E (by omega) ⟨rfl, rfl, _, rfl, rfl, by first | (rw [decide_eq_true (by omega)]; rfl) | (rw [decide_eq_false (by omega)]; rfl), by omega, by omega⟩ (by decide) (by decide) d_RS_choose_35
set_option maxHeartbeats 4000000 in
set_option maxRecDepth 100000 in
theorem m_RS_holds {L : Launch} {D : va_G} {cA : Nat → ClassId} {base : Nat} {ad : Nat → Nat} {w : Nat → va_E} (hLt : L.stackTraces = false) {kp sq : Nat} {ls : Int} {se : Bool} (hw0 : w 0 = rsO ad kp sq ls se) {t : Int} (hw12 : w 12 = ruO ad t) (ht : 0 ≤ t ∧ t ≤ 16) {co ch an : Nat → Int} (hw15 : w 15 = xIA (cA 0) 16 co) (hw17 : w 17 = xIA (cA 1) 16 ch) (hw18 : w 18 = xIA (cA 0) 10 an) (hco : ∀ j, -1 ≤ co j ∧ co j < 10) (hch : ∀ j, ch j = 0 ∨ ch j = 1) (han : ∀ j, 0 ≤ an j ∧ an j ≤ 2) {x : Int} (hx : -2147483648 ≤ x ∧ x < 2147483648) {y : Int} (hy : -2147483648 ≤ y ∧ y < 2147483648) : XM L D cA base y_RS_holds c_RS_holds 4 (some .boolean) (xrm 9 1 6) [.ref (ad 0), .int (zI x), .int (zI y)] 56 ad w (xRet 56 ad (fun z w' => w' = va_up w 18 (xIA (cA 0) 10 (va_up an x.toNat y)) ∧ z = xb (decide (an x.toNat ≠ y)) ∧ (0 ≤ x ∧ x < 10) ∧ (0 ≤ y ∧ y < 3))) (xThr 56 ad (fun E w' => w = w' ∧ E = "java/lang/IllegalArgumentException" ∧ ¬ ((0 ≤ x ∧ x < 10) ∧ (0 ≤ y ∧ y < 3)))) := by
  refine xm_of (by decide +kernel) (by simp [Value.category]) (Nat.le_of_ble_eq_true rfl) (fun G C E _ => ?_)
  refine xr_iload_n C 1 d_RS_holds_0 rfl rfl ?_
  refine xz_if_lt (tgt := 19) C d_RS_holds_1 (by decide) (by omega) (fun c1 => ?_) (fun c1 => ?_)
  · skip
    exact xr_throw C E hLt (cls := "java/lang/IllegalArgumentException") (text := "no such condition or answer") (names := ["java/lang/RuntimeException", "java/lang/Exception"]) rfl (by decide +kernel) (by decide +kernel) xk_RS_50 xi_IA (by decide +kernel) xat_IA (by decide +kernel) d_RS_holds_19 d_RS_holds_22 d_RS_holds_23 d_RS_holds_25 d_RS_holds_28 (by decide) (by decide) ⟨rfl, rfl, rfl, rfl, by omega⟩ (by decide) (by decide)
  · skip
    refine xr_iload_n C 1 d_RS_holds_4 rfl rfl ?_
    refine xr_bipush C d_RS_holds_5 (by decide) ?_
    refine xz_icmp_ge (tgt := 19) C d_RS_holds_7 (by decide) (by omega) (by omega) (fun c7 => ?_) (fun c7 => ?_)
    · skip
      exact xr_throw C E hLt (cls := "java/lang/IllegalArgumentException") (text := "no such condition or answer") (names := ["java/lang/RuntimeException", "java/lang/Exception"]) rfl (by decide +kernel) (by decide +kernel) xk_RS_50 xi_IA (by decide +kernel) xat_IA (by decide +kernel) d_RS_holds_19 d_RS_holds_22 d_RS_holds_23 d_RS_holds_25 d_RS_holds_28 (by decide) (by decide) ⟨rfl, rfl, rfl, rfl, by omega⟩ (by decide) (by decide)
    · skip
      refine xr_iload_n C 2 d_RS_holds_10 rfl rfl ?_
      refine xz_if_lt (tgt := 19) C d_RS_holds_11 (by decide) (by omega) (fun c11 => ?_) (fun c11 => ?_)
      · skip
        exact xr_throw C E hLt (cls := "java/lang/IllegalArgumentException") (text := "no such condition or answer") (names := ["java/lang/RuntimeException", "java/lang/Exception"]) rfl (by decide +kernel) (by decide +kernel) xk_RS_50 xi_IA (by decide +kernel) xat_IA (by decide +kernel) d_RS_holds_19 d_RS_holds_22 d_RS_holds_23 d_RS_holds_25 d_RS_holds_28 (by decide) (by decide) ⟨rfl, rfl, rfl, rfl, by omega⟩ (by decide) (by decide)
      · skip
        refine xr_iload_n C 2 d_RS_holds_14 rfl rfl ?_
        refine xr_iconst C d_RS_holds_15 ?_
        refine xz_icmp_lt (tgt := 29) C d_RS_holds_16 (by decide) (by omega) (by omega) (fun c16 => ?_) (fun c16 => ?_)
        · skip
          refine xr_aload_n C 0 d_RS_holds_29 rfl rfl ?_
          refine xr_get (k := 0) C xg_RS_19 hw0 (by decide) rfl d_RS_holds_30 ?_
          refine xr_get (k := 12) C xg_RS_95 hw12 (by decide) rfl d_RS_holds_33 ?_
          refine xr_iload_n C 1 d_RS_holds_36 rfl rfl ?_
          refine xz_iald (k := 18) C hw18 (by decide) (by omega) (by decide) d_RS_holds_37 ?_
          refine xr_iload_n C 2 d_RS_holds_38 rfl rfl ?_
          have hc9 := han x.toNat
          refine xz_icmp_eq (tgt := 46) C d_RS_holds_39 (by decide) (by omega) (by omega) (fun c39 => ?_) (fun c39 => ?_)
          · skip
            refine xr_iconst C d_RS_holds_46 ?_
            refine xr_istore_n C 3 d_RS_holds_47 rfl (by decide) ?_
            refine xr_aload_n C 0 d_RS_holds_48 rfl rfl ?_
            refine xr_get (k := 0) C xg_RS_19 hw0 (by decide) rfl d_RS_holds_49 ?_
            refine xr_get (k := 12) C xg_RS_95 hw12 (by decide) rfl d_RS_holds_52 ?_
            refine xr_iload_n C 1 d_RS_holds_55 rfl rfl ?_
            refine xr_iload_n C 2 d_RS_holds_56 rfl rfl ?_
            refine xz_iast (k := 18) C hw18 (by decide) (by omega) (by decide) d_RS_holds_57 ?_
            refine xr_iload_n C 3 d_RS_holds_58 rfl rfl ?_
            exact xr_zret C E (by omega) ⟨rfl, rfl, _, rfl, rfl, by first | (rw [decide_eq_true (by omega)]; rfl) | (rw [decide_eq_false (by omega)]; rfl), by omega, by omega⟩ (by decide) (by decide) d_RS_holds_59
          · skip
            refine xr_iconst C d_RS_holds_42 ?_
            refine xr_goto (tgt := 47) C d_RS_holds_43 (by decide) ?_
            refine xr_istore_n C 3 d_RS_holds_47 rfl (by decide) ?_
            refine xr_aload_n C 0 d_RS_holds_48 rfl rfl ?_
            refine xr_get (k := 0) C xg_RS_19 hw0 (by decide) rfl d_RS_holds_49 ?_
            refine xr_get (k := 12) C xg_RS_95 hw12 (by decide) rfl d_RS_holds_52 ?_
            refine xr_iload_n C 1 d_RS_holds_55 rfl rfl ?_
            refine xr_iload_n C 2 d_RS_holds_56 rfl rfl ?_
            refine xz_iast (k := 18) C hw18 (by decide) (by omega) (by decide) d_RS_holds_57 ?_
            refine xr_iload_n C 3 d_RS_holds_58 rfl rfl ?_
            exact xr_zret C E (by omega) ⟨rfl, rfl, _, rfl, rfl, by first | (rw [decide_eq_true (by omega)]; rfl) | (rw [decide_eq_false (by omega)]; rfl), by omega, by omega⟩ (by decide) (by decide) d_RS_holds_59
        · skip
          exact xr_throw C E hLt (cls := "java/lang/IllegalArgumentException") (text := "no such condition or answer") (names := ["java/lang/RuntimeException", "java/lang/Exception"]) rfl (by decide +kernel) (by decide +kernel) xk_RS_50 xi_IA (by decide +kernel) xat_IA (by decide +kernel) d_RS_holds_19 d_RS_holds_22 d_RS_holds_23 d_RS_holds_25 d_RS_holds_28 (by decide) (by decide) ⟨rfl, rfl, rfl, rfl, by omega⟩ (by decide) (by decide)
