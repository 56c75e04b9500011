/-! how the reference holds the table -/
def prt (s : Int) : Int := if 100 ≤ s then 0 else if s < 6 then 1 else 2
def MA (S : xS) (sg fs sn wt pl dp ho : Nat → Int) : Prop :=
  (∀ j, j < sN S → sg j = sSg S j ∧ fs j = sFs S j ∧ sn j = sSn S j ∧ wt j = sWt S j ∧ pl j = sPl S j ∧ dp j = sDp S j ∧ ho j = sHo S j) ∧
  (∀ j, (0 ≤ sg j ∧ sg j ≤ 300) ∧ (-1 ≤ fs j ∧ fs j < 300) ∧ (-1 ≤ sn j ∧ sn j < 300) ∧ (0 ≤ wt j ∧ wt j ≤ 1000) ∧ (0 ≤ pl j ∧ pl j ≤ 1000) ∧ (0 ≤ dp j ∧ dp j ≤ 30) ∧ (0 ≤ ho j ∧ ho j < 64))
def MT (ad : Nat → Nat) (cA : Nat → ClassId) (w : Nat → va_E) (S : xS) (ru ro sp nr ns th : Int) (se fa so : Bool) : Prop := ∃ sg fs sn wt pl dp ho : Nat → Int, w 29 = mdO ad (sN S : Int) ru ro sp nr ns th se fa so ∧ w 30 = xIA (cA 0) 300 sg ∧ w 31 = xIA (cA 0) 300 fs ∧ w 32 = xIA (cA 0) 300 sn ∧ w 33 = xIA (cA 0) 300 wt ∧ w 34 = xIA (cA 0) 300 pl ∧ w 35 = xIA (cA 0) 300 dp ∧ w 36 = xIA (cA 0) 300 ho ∧ MA S sg fs sn wt pl dp ho
theorem ma_push {S : xS} {s a b : Int} {sg fs sn wt pl dp ho : Nat → Int} (h : MA S sg fs sn wt pl dp ho) (hT : Tb S) (hs : shp s a b (sN S)) (hf : fnd S s a b = none) (hl : ¬ (300 ≤ sN S ∨ 1000 < nWt (sWt S) s a b ∨ 30 < nDp (sDp S) s a b)) :
    MA (psh S s a b) (va_up sg (sN S) s) (va_up fs (sN S) a) (va_up sn (sN S) b) (va_up wt (sN S) (nWt (sWt S) s a b)) (va_up pl (sN S) (nPl (sPl S) s a b)) (va_up dp (sN S) (nDp (sDp S) s a b)) (va_up ho (sN S) (nHo S s a b)) := by
  have hT' := tb_push hT hs hf hl
  obtain ⟨h1, h3⟩ := h
  obtain ⟨n1, n2, n3, n4, n5, n6, n7⟩ := psh_new (S := S) (s := s) (a := a) (b := b)
  refine ⟨fun j hj => ?_, fun j => ?_⟩
  · by_cases hjt : j = sN S
    · subst hjt
      exact ⟨by rw [va_eq, n1], by rw [va_eq, n2], by rw [va_eq, n3], by rw [va_eq, n4], by rw [va_eq, n5], by rw [va_eq, n6], by rw [va_eq, n7]⟩
    · have hj : j < sN S := by have : j < sN S + 1 := hj; omega
      obtain ⟨o1, o2, o3, o4, o5, o6, o7⟩ := psh_old (S := S) (s := s) (a := a) (b := b) j hj
      obtain ⟨k1, k2, k3, k4, k5, k6, k7⟩ := h1 j hj
      exact ⟨by rw [va_ne hjt, o1, k1], by rw [va_ne hjt, o2, k2], by rw [va_ne hjt, o3, k3], by rw [va_ne hjt, o4, k4], by rw [va_ne hjt, o5, k5], by rw [va_ne hjt, o6, k6], by rw [va_ne hjt, o7, k7]⟩
  · obtain ⟨r1, r2, r3, r4, r5, r6, r7⟩ := h3 j
    have hab := shp_a hs
    have hs9 : 0 ≤ s ∧ s ≤ 300 := by unfold shp at hs; omega
    obtain ⟨-, -, -, -, -, bb⟩ := hT'.2.1 (sN S) (by show sN S < sN S + 1; omega)
    rw [n4, n5, n6] at bb
    have hh := hbS_64 (fun h => decide (0 < cntN S s a b h))
    refine ⟨?_, ?_, ?_, ?_, ?_, ?_, ?_⟩
    · unfold va_up; split <;> omega
    · unfold va_up; split <;> omega
    · unfold va_up; split <;> omega
    · unfold va_up; split <;> omega
    · unfold va_up; split <;> omega
    · unfold va_up; split <;> omega
    · unfold va_up nHo; split <;> omega
theorem hbS_bit (f : Nat → Bool) {k : Nat} (hk : k < 6) : zI (hbS f (k + 1)) = zI (hbS f k) ||| zI (if f k then 2 ^ k else 0) := by
  simp only [hbS]
  cases f k with
  | true => rw [if_pos rfl, zI_orp hk (hbS_in f k)]
  | false => rw [if_neg (by simp), Int.add_zero, zI_or0]
theorem hbS_or (f g : Nat → Bool) : ∀ k, k ≤ 6 → zI (hbS f k) ||| zI (hbS g k) = zI (hbS (fun i => f i || g i) k) := by
  intro k
  induction k with
  | zero => intro _; exact zI_or0 0
  | succ k ih =>
    intro hk
    rw [hbS_bit f (by omega), hbS_bit g (by omega), hbS_bit _ (by omega), ← ih (by omega)]
    have e : zI (if f k then 2 ^ k else 0) ||| zI (if g k then 2 ^ k else 0) = zI (if (f k || g k) then 2 ^ k else 0) := by
      cases f k <;> cases g k
      · exact zI_or0 _
      · show zI 0 ||| _ = _
        rw [Int32.or_comm]
        exact zI_or0 _
      · exact zI_or0 _
      · exact Int32.or_self
    rw [← e, Int32.or_assoc, Int32.or_assoc]
    congr 1
    rw [← Int32.or_assoc, ← Int32.or_assoc, Int32.or_comm (zI (if f k then 2 ^ k else 0))]
theorem hbS_0 {f : Nat → Bool} (h : ∀ i, i < 6 → f i = false) : hbS f 6 = 0 := by
  rw [hbS_eq (g := fun _ => false) h]
  rfl
theorem hbS_1 {f : Nat → Bool} {j : Nat} (hj : j < 6) (h : ∀ i, i < 6 → f i = decide (i = j)) : hbS f 6 = 2 ^ j := by
  rw [hbS_eq (g := fun i => decide (i = j)) h]
  have : ∀ j : Fin 6, hbS (fun i => decide (i = (j : Nat))) 6 = 2 ^ (j : Nat) := by decide
  exact this ⟨j, hj⟩
theorem nHo_leaf {S : xS} {s : Int} (h : 100 ≤ s ∧ s < 120) : nHo S s (-1) (-1) = 0 := hbS_0 (fun i hi => by
  unfold cntN
  rw [if_neg (by omega : ¬ s = 200 + (i : Int)), if_pos (by omega : (-1 : Int) < 0)]
  rfl)
theorem nHo_hole {S : xS} {s : Int} (h : 200 ≤ s ∧ s < 206) : nHo S s (-1) (-1) = 2 ^ (s - 200).toNat := hbS_1 (by omega) (fun i hi => by
  unfold cntN
  by_cases q : s = 200 + (i : Int)
  · rw [if_pos q, if_pos (by omega : (-1 : Int) < 0)]
    rw [decide_eq_true (by omega), decide_eq_true (by omega)]
  · rw [if_neg q, if_pos (by omega : (-1 : Int) < 0)]
    rw [decide_eq_false (by omega), decide_eq_false (by omega)])
theorem nHo_one {S : xS} {s a : Int} (hT : Tb S) (h : 0 ≤ s ∧ s < 6) (ha : 0 ≤ a ∧ a < sN S) : sHo S a.toNat = nHo S s a (-1) := by
  rw [(hT.2.1 a.toNat (by omega)).2.2.2.2.1]
  exact hbS_eq (fun i hi => by
    unfold cntN
    rw [if_neg (by omega : ¬ s = 200 + (i : Int)), if_neg (by omega : ¬ a < 0), if_pos (by omega), Int.zero_add, Int.add_zero])
theorem nHo_two {S : xS} {s a b : Int} (hT : Tb S) (h : 6 ≤ s ∧ s < 12) (ha : 0 ≤ a ∧ a < sN S) (hb : 0 ≤ b ∧ b < sN S) : zI (sHo S a.toNat) ||| zI (sHo S b.toNat) = zI (nHo S s a b) := by
  rw [(hT.2.1 a.toNat (by omega)).2.2.2.2.1, (hT.2.1 b.toNat (by omega)).2.2.2.2.1, hbS_or _ _ 6 (by omega)]
  congr 1
  exact hbS_eq (fun i hi => by
    have c1 := cnt_in hT (j := a.toNat) (by omega) i
    have c2 := cnt_in hT (j := b.toNat) (by omega) i
    unfold cntN
    rw [if_neg (by omega : ¬ s = 200 + (i : Int)), if_neg (by omega : ¬ a < 0), if_neg (by omega : ¬ b < 0), Int.zero_add]
    by_cases q : 0 < cnt S a.toNat i + cnt S b.toNat i
    · rw [decide_eq_true q]
      by_cases q1 : 0 < cnt S a.toNat i
      · rw [decide_eq_true q1]; rfl
      · rw [decide_eq_true (by omega : 0 < cnt S b.toNat i)]; simp
    · rw [decide_eq_false q, decide_eq_false (by omega), decide_eq_false (by omega)]; rfl)
set_option maxHeartbeats 4000000 in
set_option maxRecDepth 100000 in
theorem m_Md_parts {L : Launch} {D : va_G} {cA : Nat → ClassId} {base : Nat} {ad : Nat → Nat} {w : Nat → va_E} {x : Int} (hx : -1 ≤ x ∧ x ≤ 300) : XM L D cA base y_Md_parts c_Md_parts 1 (some .int) (xrm 0 0 0) [.int (zI x)] 56 ad w (xPure 56 ad w (.int (zI (prt x)))) xF := by
  refine xm_of (by decide +kernel) (by simp [Value.category]) (Nat.le_of_ble_eq_true rfl) (fun G C E _ => ?_)
  refine xr_iload_n C 0 d_Md_parts_0 rfl rfl ?_
  refine xr_bipush C d_Md_parts_1 (by decide) ?_
  refine xz_icmp_lt (tgt := 10) C d_Md_parts_3 (by decide) (by omega) (by omega) (fun c3 => ?_) (fun c3 => ?_)
  · skip
    refine xr_iload_n C 0 d_Md_parts_10 rfl rfl ?_
    refine xr_bipush C d_Md_parts_11 (by decide) ?_
    refine xz_icmp_ge (tgt := 20) C d_Md_parts_13 (by decide) (by omega) (by omega) (fun c13 => ?_) (fun c13 => ?_)
    · skip
      refine xr_iconst C d_Md_parts_20 ?_
      exact xr_iret C E ⟨rfl, rfl, rfl, xv_eq (by unfold prt; split <;> (try split) <;> omega)⟩ (by decide) (by decide) d_Md_parts_21
    · skip
      refine xr_iconst C d_Md_parts_16 ?_
      refine xr_goto (tgt := 21) C d_Md_parts_17 (by decide) ?_
      exact xr_iret C E ⟨rfl, rfl, rfl, xv_eq (by unfold prt; split <;> (try split) <;> omega)⟩ (by decide) (by decide) d_Md_parts_21
  · skip
    refine xr_iconst C d_Md_parts_6 ?_
    refine xr_goto (tgt := 21) C d_Md_parts_7 (by decide) ?_
    exact xr_iret C E ⟨rfl, rfl, rfl, xv_eq (by unfold prt; split <;> (try split) <;> omega)⟩ (by decide) (by decide) d_Md_parts_21
set_option maxHeartbeats 4000000 in
set_option maxRecDepth 100000 in
theorem m_Md_thrown {L : Launch} {D : va_G} {cA : Nat → ClassId} {base : Nat} {ad : Nat → Nat} {w : Nat → va_E} {tr ru ro sp nr ns th : Int} {se fa so : Bool} (hw29 : w 29 = mdO ad tr ru ro sp nr ns th se fa so) : XM L D cA base y_Md_thrown c_Md_thrown 1 (some .int) (xrm 0 0 0) [.ref (ad 29)] 56 ad w (xPure 56 ad w (.int (zI th))) xF := by
  refine xm_of (by decide +kernel) (by simp [Value.category]) (Nat.le_of_ble_eq_true rfl) (fun G C E _ => ?_)
  refine xr_aload_n C 0 d_Md_thrown_0 rfl rfl ?_
  refine xr_get (k := 29) C xg_Md_86 hw29 (by decide) rfl d_Md_thrown_1 ?_
  exact xr_iret C E ⟨rfl, rfl, rfl, rfl⟩ (by decide) (by decide) d_Md_thrown_4
set_option maxHeartbeats 4000000 in
set_option maxRecDepth 100000 in
theorem m_Md_isTree {L : Launch} {D : va_G} {cA : Nat → ClassId} {base : Nat} {ad : Nat → Nat} {w : Nat → va_E} {tr ru ro sp nr ns th : Int} {se fa so : Bool} (hw29 : w 29 = mdO ad tr ru ro sp nr ns th se fa so) (htr : 0 ≤ tr ∧ tr ≤ 300) {x : Int} (hx : -2147483648 ≤ x ∧ x < 2147483648) : XM L D cA base y_Md_isTree c_Md_isTree 2 (some .boolean) (xrm 0 0 0) [.ref (ad 29), .int (zI x)] 56 ad w (xPure 56 ad w (.int (zI (xb (decide (0 ≤ x ∧ x < tr)))))) xF := by
  refine xm_of (by decide +kernel) (by simp [Value.category]) (Nat.le_of_ble_eq_true rfl) (fun G C E _ => ?_)
  refine xr_iload_n C 1 d_Md_isTree_0 rfl rfl ?_
  refine xz_if_lt (tgt := 16) C d_Md_isTree_1 (by decide) (by omega) (fun c1 => ?_) (fun c1 => ?_)
  · skip
    refine xr_iconst C d_Md_isTree_16 ?_
    exact xr_zret C E (by omega) ⟨rfl, rfl, rfl, by first | exact xb_v1 (by omega) | exact xb_v0 (by omega)⟩ (by decide) (by decide) d_Md_isTree_17
  · skip
    refine xr_iload_n C 1 d_Md_isTree_4 rfl rfl ?_
    refine xr_aload_n C 0 d_Md_isTree_5 rfl rfl ?_
    refine xr_get (k := 29) C xg_Md_90 hw29 (by decide) rfl d_Md_isTree_6 ?_
    refine xz_icmp_ge (tgt := 16) C d_Md_isTree_9 (by decide) (by omega) (by omega) (fun c9 => ?_) (fun c9 => ?_)
    · skip
      refine xr_iconst C d_Md_isTree_16 ?_
      exact xr_zret C E (by omega) ⟨rfl, rfl, rfl, by first | exact xb_v1 (by omega) | exact xb_v0 (by omega)⟩ (by decide) (by decide) d_Md_isTree_17
    · skip
      refine xr_iconst C d_Md_isTree_12 ?_
      refine xr_goto (tgt := 17) C d_Md_isTree_13 (by decide) ?_
      exact xr_zret C E (by omega) ⟨rfl, rfl, rfl, by first | exact xb_v1 (by omega) | exact xb_v0 (by omega)⟩ (by decide) (by decide) d_Md_isTree_17
set_option maxHeartbeats 4000000 in
set_option maxRecDepth 100000 in
theorem m_Md_isRule {L : Launch} {D : va_G} {cA : Nat → ClassId} {base : Nat} {ad : Nat → Nat} {w : Nat → va_E} {tr ru ro sp nr ns th : Int} {se fa so : Bool} (hw29 : w 29 = mdO ad tr ru ro sp nr ns th se fa so) (hru : 0 ≤ ru ∧ ru ≤ 16) {x : Int} (hx : -2147483648 ≤ x ∧ x < 2147483648) : XM L D cA base y_Md_isRule c_Md_isRule 2 (some .boolean) (xrm 0 0 0) [.ref (ad 29), .int (zI x)] 56 ad w (xPure 56 ad w (.int (zI (xb (decide (0 ≤ x ∧ x < ru)))))) xF := by
  refine xm_of (by decide +kernel) (by simp [Value.category]) (Nat.le_of_ble_eq_true rfl) (fun G C E _ => ?_)
  refine xr_iload_n C 1 d_Md_isRule_0 rfl rfl ?_
  refine xz_if_lt (tgt := 16) C d_Md_isRule_1 (by decide) (by omega) (fun c1 => ?_) (fun c1 => ?_)
  · skip
    refine xr_iconst C d_Md_isRule_16 ?_
    exact xr_zret C E (by omega) ⟨rfl, rfl, rfl, by first | exact xb_v1 (by omega) | exact xb_v0 (by omega)⟩ (by decide) (by decide) d_Md_isRule_17
  · skip
    refine xr_iload_n C 1 d_Md_isRule_4 rfl rfl ?_
    refine xr_aload_n C 0 d_Md_isRule_5 rfl rfl ?_
    refine xr_get (k := 29) C xg_Md_129 hw29 (by decide) rfl d_Md_isRule_6 ?_
    refine xz_icmp_ge (tgt := 16) C d_Md_isRule_9 (by decide) (by omega) (by omega) (fun c9 => ?_) (fun c9 => ?_)
    · skip
      refine xr_iconst C d_Md_isRule_16 ?_
      exact xr_zret C E (by omega) ⟨rfl, rfl, rfl, by first | exact xb_v1 (by omega) | exact xb_v0 (by omega)⟩ (by decide) (by decide) d_Md_isRule_17
    · skip
      refine xr_iconst C d_Md_isRule_12 ?_
      refine xr_goto (tgt := 17) C d_Md_isRule_13 (by decide) ?_
      exact xr_zret C E (by omega) ⟨rfl, rfl, rfl, by first | exact xb_v1 (by omega) | exact xb_v0 (by omega)⟩ (by decide) (by decide) d_Md_isRule_17
set_option maxHeartbeats 4000000 in
set_option maxRecDepth 100000 in
theorem m_Md_may {L : Launch} {D : va_G} {cA : Nat → ClassId} {base : Nat} {ad : Nat → Nat} {w : Nat → va_E} {tr ru ro sp nr ns th : Int} {se fa so : Bool} (hw29 : w 29 = mdO ad tr ru ro sp nr ns th se fa so) {co ch an : Nat → Int} (hw39 : w 39 = xIA (cA 0) 16 co) (hw40 : w 40 = xIA (cA 1) 16 ch) (hw41 : w 41 = xIA (cA 0) 10 an) {x : Int} (hx : 0 ≤ x ∧ x < 16) (hco : -1 ≤ co x.toNat ∧ co x.toNat < 10) (hch : ch x.toNat = 0 ∨ ch x.toNat = 1) (han : ∀ j, 0 ≤ an j ∧ an j ≤ 2) : XM L D cA base y_Md_may c_Md_may 2 (some .boolean) (xrm 0 0 0) [.ref (ad 29), .int (zI x)] 56 ad w (xPure 56 ad w (.int (zI (xb (decide (ch x.toNat = 1 ∧ (co x.toNat = -1 ∨ an (co x.toNat).toNat = 1))))))) xF := by
  refine xm_of (by decide +kernel) (by simp [Value.category]) (Nat.le_of_ble_eq_true rfl) (fun G C E _ => ?_)
  have := han (co x.toNat).toNat
  refine xr_aload_n C 0 d_Md_may_0 rfl rfl ?_
  refine xr_get (k := 29) C xg_Md_40 hw29 (by decide) rfl d_Md_may_1 ?_
  refine xr_iload_n C 1 d_Md_may_4 rfl rfl ?_
  refine xz_zald (k := 40) C hw40 (by decide) (by omega) (by decide) d_Md_may_5 ?_
  refine xz_if_eq (tgt := 38) C d_Md_may_6 (by decide) (by omega) (fun c6 => ?_) (fun c6 => ?_)
  · skip
    refine xr_iconst C d_Md_may_38 ?_
    exact xr_zret C E (by omega) ⟨rfl, rfl, rfl, by first | exact xb_v1 (by omega) | exact xb_v0 (by omega)⟩ (by decide) (by decide) d_Md_may_39
  · skip
    refine xr_aload_n C 0 d_Md_may_9 rfl rfl ?_
    refine xr_get (k := 29) C xg_Md_37 hw29 (by decide) rfl d_Md_may_10 ?_
    refine xr_iload_n C 1 d_Md_may_13 rfl rfl ?_
    refine xz_iald (k := 39) C hw39 (by decide) (by omega) (by decide) d_Md_may_14 ?_
    refine xr_iconst C d_Md_may_15 ?_
    refine xz_icmp_eq (tgt := 34) C d_Md_may_16 (by decide) (by omega) (by omega) (fun c16 => ?_) (fun c16 => ?_)
    · skip
      refine xr_iconst C d_Md_may_34 ?_
      refine xr_goto (tgt := 39) C d_Md_may_35 (by decide) ?_
      exact xr_zret C E (by omega) ⟨rfl, rfl, rfl, by first | exact xb_v1 (by omega) | exact xb_v0 (by omega)⟩ (by decide) (by decide) d_Md_may_39
    · skip
      refine xr_aload_n C 0 d_Md_may_19 rfl rfl ?_
      refine xr_get (k := 29) C xg_Md_44 hw29 (by decide) rfl d_Md_may_20 ?_
      refine xr_aload_n C 0 d_Md_may_23 rfl rfl ?_
      refine xr_get (k := 29) C xg_Md_37 hw29 (by decide) rfl d_Md_may_24 ?_
      refine xr_iload_n C 1 d_Md_may_27 rfl rfl ?_
      refine xz_iald (k := 39) C hw39 (by decide) (by omega) (by decide) d_Md_may_28 ?_
      refine xz_iald (k := 41) C hw41 (by decide) (by omega) (by decide) d_Md_may_29 ?_
      refine xr_iconst C d_Md_may_30 ?_
      refine xz_icmp_ne (tgt := 38) C d_Md_may_31 (by decide) (by omega) (by omega) (fun c31 => ?_) (fun c31 => ?_)
      · skip
        refine xr_iconst C d_Md_may_38 ?_
        exact xr_zret C E (by omega) ⟨rfl, rfl, rfl, by first | exact xb_v1 (by omega) | exact xb_v0 (by omega)⟩ (by decide) (by decide) d_Md_may_39
      · skip
        refine xr_iconst C d_Md_may_34 ?_
        refine xr_goto (tgt := 39) C d_Md_may_35 (by decide) ?_
        exact xr_zret C E (by omega) ⟨rfl, rfl, rfl, by first | exact xb_v1 (by omega) | exact xb_v0 (by omega)⟩ (by decide) (by decide) d_Md_may_39
set_option maxHeartbeats 4000000 in
set_option maxRecDepth 100000 in
theorem m_Md_tree {L : Launch} {D : va_G} {cA : Nat → ClassId} {base : Nat} {ad : Nat → Nat} {w : Nat → va_E} {S : xS} {s a b ru ro sp nr ns th : Int} {se fa so : Bool} (hMT : MT ad cA w S ru ro sp nr ns th se fa so) (hT : Tb S) (hs : shp s a b (sN S)) : XM L D cA base y_Md_tree c_Md_tree 9 (some .int) (xrm 1 0 0) [.ref (ad 29), .int (zI s), .int (zI a), .int (zI b)] 56 ad w (xRet 56 ad (fun z w' => ∃ S' : xS, (z, S') = mkT S s a b ∧ MT ad cA w' S' ru ro sp nr ns th se (fa || decide (z < 0)) so ∧ (∀ k, (k < 29 ∨ 36 < k) → w' k = w k))) xF := by
  refine xm_of (by decide +kernel) (by simp [Value.category]) (Nat.le_of_ble_eq_true rfl) (fun G C E _ => ?_)
  obtain ⟨sg, fs, sn, wt, pl, dp, ho, hw29, hw30, hw31, hw32, hw33, hw34, hw35, hw36, hA⟩ := hMT
  have hab := shp_a hs
  have hN := hT.1
  have hsr0 : 0 ≤ s ∧ s ≤ 300 := by unfold shp at hs; omega
  have J : fnd S s a b = none → ∀ lv : Nat → Option Value, lv 0 = some (.ref (ad 29)) → lv 1 = some (.int (zI s)) → lv 2 = some (.int (zI a)) → lv 3 = some (.int (zI b)) → lv 5 = some (.int (zI (nWt (sWt S) s a b))) → lv 6 = some (.int (zI (nPl (sPl S) s a b))) → lv 7 = some (.int (zI (nDp (sDp S) s a b))) → lv 8 = some (.int (zI (nHo S s a b))) → XW G 56 ad w 0 0 226 lv [] := by
    intro hf lv hl0 hl1 hl2 hl3 hl5 hl6 hl7 hl8
    have hwn := nWt_in hT hs
    have hdn := nDp_in hT hs
    refine xr_aload_n C 0 d_Md_tree_226 rfl hl0 ?_
    refine xr_get (k := 29) C xg_Md_90 hw29 (by decide) rfl d_Md_tree_227 ?_
    refine xr_sipush C d_Md_tree_230 (by decide) ?_
    refine xz_icmp_eq (tgt := 251) C d_Md_tree_233 (by decide) (by omega) (by omega) (fun c233 => ?_) (fun c233 => ?_)
    · skip
      refine xr_aload_n C 0 d_Md_tree_251 rfl hl0 ?_
      refine xr_iconst C d_Md_tree_252 ?_
      refine xr_put (k := 29) C xf_Md_97 hw29 (by decide) (by decide) (by decide) (Nat.le_of_ble_eq_true rfl) d_Md_tree_253 ?_
      refine xr_iconst C d_Md_tree_256 ?_
      have hL : 300 ≤ sN S ∨ 1000 < nWt (sWt S) s a b ∨ 30 < nDp (sDp S) s a b := by omega
      exact xr_iret C E ⟨rfl, rfl, -1, rfl, S, by rw [mkT_none hf, if_pos hL], ⟨sg, fs, sn, wt, pl, dp, ho, by show va_up w 29 _ 29 = _; rw [va_eq, show (fa || decide ((-1 : Int) < 0)) = true by simp]; rfl, hw30, hw31, hw32, hw33, hw34, hw35, hw36, hA⟩, fun k hk => va_ne (by omega)⟩ (by decide) (by decide) d_Md_tree_257
    · skip
      refine xr_iload C d_Md_tree_236 hl7 ?_
      refine xr_bipush C d_Md_tree_238 (by decide) ?_
      refine xz_icmp_gt (tgt := 251) C d_Md_tree_240 (by decide) (by omega) (by omega) (fun c240 => ?_) (fun c240 => ?_)
      · skip
        refine xr_aload_n C 0 d_Md_tree_251 rfl hl0 ?_
        refine xr_iconst C d_Md_tree_252 ?_
        refine xr_put (k := 29) C xf_Md_97 hw29 (by decide) (by decide) (by decide) (Nat.le_of_ble_eq_true rfl) d_Md_tree_253 ?_
        refine xr_iconst C d_Md_tree_256 ?_
        have hL : 300 ≤ sN S ∨ 1000 < nWt (sWt S) s a b ∨ 30 < nDp (sDp S) s a b := by omega
        exact xr_iret C E ⟨rfl, rfl, -1, rfl, S, by rw [mkT_none hf, if_pos hL], ⟨sg, fs, sn, wt, pl, dp, ho, by show va_up w 29 _ 29 = _; rw [va_eq, show (fa || decide ((-1 : Int) < 0)) = true by simp]; rfl, hw30, hw31, hw32, hw33, hw34, hw35, hw36, hA⟩, fun k hk => va_ne (by omega)⟩ (by decide) (by decide) d_Md_tree_257
      · skip
        refine xr_iload C d_Md_tree_243 hl5 ?_
        refine xr_sipush C d_Md_tree_245 (by decide) ?_
        refine xz_icmp_le (tgt := 258) C d_Md_tree_248 (by decide) (by omega) (by omega) (fun c248 => ?_) (fun c248 => ?_)
        · skip
          have hL : ¬ (300 ≤ sN S ∨ 1000 < nWt (sWt S) s a b ∨ 30 < nDp (sDp S) s a b) := by omega
          refine xr_aload_n C 0 d_Md_tree_258 rfl hl0 ?_
          refine xr_get (k := 29) C xg_Md_7 hw29 (by decide) rfl d_Md_tree_259 ?_
          refine xr_aload_n C 0 d_Md_tree_262 rfl hl0 ?_
          refine xr_get (k := 29) C xg_Md_90 hw29 (by decide) rfl d_Md_tree_263 ?_
          refine xr_iload_n C 1 d_Md_tree_266 rfl hl1 ?_
          refine xj_iast (k := 30) C (sN S) (by omega) hw30 (by decide) (by omega) (by decide) d_Md_tree_267 ?_
          refine xr_aload_n C 0 d_Md_tree_268 rfl hl0 ?_
          refine xr_get (k := 29) C xg_Md_13 hw29 (by decide) rfl d_Md_tree_269 ?_
          refine xr_aload_n C 0 d_Md_tree_272 rfl hl0 ?_
          refine xr_get (k := 29) C xg_Md_90 hw29 (by decide) rfl d_Md_tree_273 ?_
          refine xr_iload_n C 2 d_Md_tree_276 rfl hl2 ?_
          refine xj_iast (k := 31) C (sN S) (by omega) hw31 (by decide) (by omega) (by decide) d_Md_tree_277 ?_
          refine xr_aload_n C 0 d_Md_tree_278 rfl hl0 ?_
          refine xr_get (k := 29) C xg_Md_16 hw29 (by decide) rfl d_Md_tree_279 ?_
          refine xr_aload_n C 0 d_Md_tree_282 rfl hl0 ?_
          refine xr_get (k := 29) C xg_Md_90 hw29 (by decide) rfl d_Md_tree_283 ?_
          refine xr_iload_n C 3 d_Md_tree_286 rfl hl3 ?_
          refine xj_iast (k := 32) C (sN S) (by omega) hw32 (by decide) (by omega) (by decide) d_Md_tree_287 ?_
          refine xr_aload_n C 0 d_Md_tree_288 rfl hl0 ?_
          refine xr_get (k := 29) C xg_Md_19 hw29 (by decide) rfl d_Md_tree_289 ?_
          refine xr_aload_n C 0 d_Md_tree_292 rfl hl0 ?_
          refine xr_get (k := 29) C xg_Md_90 hw29 (by decide) rfl d_Md_tree_293 ?_
          refine xr_iload C d_Md_tree_296 hl5 ?_
          refine xj_iast (k := 33) C (sN S) (by omega) hw33 (by decide) (by omega) (by decide) d_Md_tree_298 ?_
          refine xr_aload_n C 0 d_Md_tree_299 rfl hl0 ?_
          refine xr_get (k := 29) C xg_Md_22 hw29 (by decide) rfl d_Md_tree_300 ?_
          refine xr_aload_n C 0 d_Md_tree_303 rfl hl0 ?_
          refine xr_get (k := 29) C xg_Md_90 hw29 (by decide) rfl d_Md_tree_304 ?_
          refine xr_iload C d_Md_tree_307 hl6 ?_
          refine xj_iast (k := 34) C (sN S) (by omega) hw34 (by decide) (by omega) (by decide) d_Md_tree_309 ?_
          refine xr_aload_n C 0 d_Md_tree_310 rfl hl0 ?_
          refine xr_get (k := 29) C xg_Md_25 hw29 (by decide) rfl d_Md_tree_311 ?_
          refine xr_aload_n C 0 d_Md_tree_314 rfl hl0 ?_
          refine xr_get (k := 29) C xg_Md_90 hw29 (by decide) rfl d_Md_tree_315 ?_
          refine xr_iload C d_Md_tree_318 hl7 ?_
          refine xj_iast (k := 35) C (sN S) (by omega) hw35 (by decide) (by omega) (by decide) d_Md_tree_320 ?_
          refine xr_aload_n C 0 d_Md_tree_321 rfl hl0 ?_
          refine xr_get (k := 29) C xg_Md_28 hw29 (by decide) rfl d_Md_tree_322 ?_
          refine xr_aload_n C 0 d_Md_tree_325 rfl hl0 ?_
          refine xr_get (k := 29) C xg_Md_90 hw29 (by decide) rfl d_Md_tree_326 ?_
          refine xr_iload C d_Md_tree_329 hl8 ?_
          refine xj_iast (k := 36) C (sN S) (by omega) hw36 (by decide) (by omega) (by decide) d_Md_tree_331 ?_
          refine xr_aload_n C 0 d_Md_tree_332 rfl hl0 ?_
          refine xr_dup C rfl d_Md_tree_333 ?_
          refine xr_get (k := 29) C xg_Md_90 hw29 (by decide) rfl d_Md_tree_334 ?_
          refine xr_iconst C d_Md_tree_337 ?_
          refine xz_iadd C d_Md_tree_338 ?_
          refine xr_put (k := 29) C xf_Md_90 hw29 (by decide) rfl rfl (Nat.le_of_ble_eq_true rfl) d_Md_tree_339 ?_
          refine xr_aload_n C 0 d_Md_tree_342 rfl hl0 ?_
          refine xr_get (k := 29) C xg_Md_90 rfl (by decide) rfl d_Md_tree_343 ?_
          refine xr_iconst C d_Md_tree_346 ?_
          refine xz_isub C d_Md_tree_347 ?_
          refine xr_eqz (y := (sN S : Int)) (by omega) ?_
          exact xr_iret C E ⟨rfl, rfl, (sN S : Int), rfl, psh S s a b, by rw [mkT_none hf, if_neg hL], ⟨va_up sg (sN S) s, va_up fs (sN S) a, va_up sn (sN S) b, va_up wt (sN S) (nWt (sWt S) s a b), va_up pl (sN S) (nPl (sPl S) s a b), va_up dp (sN S) (nDp (sDp S) s a b), va_up ho (sN S) (nHo S s a b), by rw [va_eq, show (fa || decide ((sN S : Int) < 0)) = fa by rw [decide_eq_false (by omega), Bool.or_false]]; rfl, rfl, rfl, rfl, rfl, rfl, rfl, rfl, ma_push hA hT hs hf hL⟩, fun k hk => by
            rw [va_ne (by omega), va_ne (by omega), va_ne (by omega), va_ne (by omega), va_ne (by omega), va_ne (by omega), va_ne (by omega), va_ne (by omega)]⟩ (by decide) (by decide) d_Md_tree_348
        · skip
          refine xr_aload_n C 0 d_Md_tree_251 rfl hl0 ?_
          refine xr_iconst C d_Md_tree_252 ?_
          refine xr_put (k := 29) C xf_Md_97 hw29 (by decide) (by decide) (by decide) (Nat.le_of_ble_eq_true rfl) d_Md_tree_253 ?_
          refine xr_iconst C d_Md_tree_256 ?_
          have hL : 300 ≤ sN S ∨ 1000 < nWt (sWt S) s a b ∨ 30 < nDp (sDp S) s a b := by omega
          exact xr_iret C E ⟨rfl, rfl, -1, rfl, S, by rw [mkT_none hf, if_pos hL], ⟨sg, fs, sn, wt, pl, dp, ho, by show va_up w 29 _ 29 = _; rw [va_eq, show (fa || decide ((-1 : Int) < 0)) = true by simp]; rfl, hw30, hw31, hw32, hw33, hw34, hw35, hw36, hA⟩, fun k hk => va_ne (by omega)⟩ (by decide) (by decide) d_Md_tree_257
  have K : fnd S s a b = none → ∀ lv : Nat → Option Value, lv 0 = some (.ref (ad 29)) → lv 1 = some (.int (zI s)) → lv 2 = some (.int (zI a)) → lv 3 = some (.int (zI b)) → XW G 56 ad w 0 0 54 lv [] := by
    intro hf lv hl0 hl1 hl2 hl3
    have hsr : 0 ≤ s ∧ s ≤ 300 := by unfold shp at hs; omega
    have hs9 := hs
    unfold shp at hs9
    rcases hs9 with q | q | q | q
    · skip
      refine xr_iload_n C 1 d_Md_tree_54 rfl hl1 ?_
      refine xr_callS C (m_Md_parts (x := s) (by omega)) xm_Md_93 x2_Md_parts (by decide) (by decide) (Nat.le_of_ble_eq_true rfl) rfl d_Md_tree_55 (fun En n9 ad9 w9 hx9 => hx9.elim) (fun v n9 ad9 w9 hp => ?_)
      obtain ⟨rfl, rfl, rfl, rfl⟩ := hp
      show XW _ _ _ _ _ _ 58 _ (_ :: _)
      refine xr_eqz (y := 0) (by unfold prt; rw [if_pos (by omega)]) ?_
      refine xr_istore C d_Md_tree_58 (by decide) ?_
      refine xr_iconst C d_Md_tree_60 ?_
      refine xr_eqz (y := nWt (sWt S) s a b) (by rw [nWt_0 (by omega)]) ?_
      refine xr_istore C d_Md_tree_61 (by decide) ?_
      refine xr_iconst C d_Md_tree_63 ?_
      refine xr_eqz (y := nPl (sPl S) s a b) (by rw [nPl_0 (by omega)]) ?_
      refine xr_istore C d_Md_tree_64 (by decide) ?_
      refine xr_iconst C d_Md_tree_66 ?_
      refine xr_eqz (y := nDp (sDp S) s a b) (by rw [nDp_0 (by omega)]) ?_
      refine xr_istore C d_Md_tree_67 (by decide) ?_
      refine xr_iload_n C 1 d_Md_tree_69 rfl hl1 ?_
      refine xr_sipush C d_Md_tree_70 (by decide) ?_
      refine xz_icmp_lt (tgt := 86) C d_Md_tree_73 (by decide) (by omega) (by omega) (fun c73 => ?_) (fun c73 => by exfalso; omega)
      refine xr_iconst C d_Md_tree_86 ?_
      refine xr_eqz (y := nHo S s a b) (by rw [q.2.2.1, q.2.2.2, nHo_leaf (by omega)]) ?_
      refine xr_istore C d_Md_tree_87 (by decide) ?_
      refine xr_iload C d_Md_tree_89 rfl ?_
      refine xz_if_le (tgt := 226) C d_Md_tree_91 (by decide) (by omega) (fun c91 => ?_) (fun c91 => by exfalso; omega)
      exact J hf _ hl0 hl1 hl2 hl3 rfl rfl rfl rfl
    · skip
      refine xr_iload_n C 1 d_Md_tree_54 rfl hl1 ?_
      refine xr_callS C (m_Md_parts (x := s) (by omega)) xm_Md_93 x2_Md_parts (by decide) (by decide) (Nat.le_of_ble_eq_true rfl) rfl d_Md_tree_55 (fun En n9 ad9 w9 hx9 => hx9.elim) (fun v n9 ad9 w9 hp => ?_)
      obtain ⟨rfl, rfl, rfl, rfl⟩ := hp
      show XW _ _ _ _ _ _ 58 _ (_ :: _)
      refine xr_eqz (y := 0) (by unfold prt; rw [if_pos (by omega)]) ?_
      refine xr_istore C d_Md_tree_58 (by decide) ?_
      refine xr_iconst C d_Md_tree_60 ?_
      refine xr_eqz (y := nWt (sWt S) s a b) (by rw [nWt_0 (by omega)]) ?_
      refine xr_istore C d_Md_tree_61 (by decide) ?_
      refine xr_iconst C d_Md_tree_63 ?_
      refine xr_eqz (y := nPl (sPl S) s a b) (by rw [nPl_0 (by omega)]) ?_
      refine xr_istore C d_Md_tree_64 (by decide) ?_
      refine xr_iconst C d_Md_tree_66 ?_
      refine xr_eqz (y := nDp (sDp S) s a b) (by rw [nDp_0 (by omega)]) ?_
      refine xr_istore C d_Md_tree_67 (by decide) ?_
      refine xr_iload_n C 1 d_Md_tree_69 rfl hl1 ?_
      refine xr_sipush C d_Md_tree_70 (by decide) ?_
      refine xz_icmp_lt (tgt := 86) C d_Md_tree_73 (by decide) (by omega) (by omega) (fun c73 => by exfalso; omega) (fun c73 => ?_)
      refine xr_iconst C d_Md_tree_76 ?_
      refine xr_iload_n C 1 d_Md_tree_77 rfl hl1 ?_
      refine xr_sipush C d_Md_tree_78 (by decide) ?_
      refine xz_isub C d_Md_tree_81 ?_
      refine xr_ishl C d_Md_tree_82 ?_
      rw [show s - 200 = (((s - 200).toNat : Nat) : Int) by omega, zI_shl1 (by omega)]
      refine xr_goto (tgt := 87) C d_Md_tree_83 (by decide) ?_
      refine xr_eqz (y := nHo S s a b) (by rw [q.2.2.1, q.2.2.2, nHo_hole (by omega)]) ?_
      refine xr_istore C d_Md_tree_87 (by decide) ?_
      refine xr_iload C d_Md_tree_89 rfl ?_
      refine xz_if_le (tgt := 226) C d_Md_tree_91 (by decide) (by omega) (fun c91 => ?_) (fun c91 => by exfalso; omega)
      exact J hf _ hl0 hl1 hl2 hl3 rfl rfl rfl rfl
    · skip
      refine xr_iload_n C 1 d_Md_tree_54 rfl hl1 ?_
      refine xr_callS C (m_Md_parts (x := s) (by omega)) xm_Md_93 x2_Md_parts (by decide) (by decide) (Nat.le_of_ble_eq_true rfl) rfl d_Md_tree_55 (fun En n9 ad9 w9 hx9 => hx9.elim) (fun v n9 ad9 w9 hp => ?_)
      obtain ⟨rfl, rfl, rfl, rfl⟩ := hp
      show XW _ _ _ _ _ _ 58 _ (_ :: _)
      refine xr_eqz (y := 1) (by unfold prt; rw [if_neg (by omega), if_pos (by omega)]) ?_
      refine xr_istore C d_Md_tree_58 (by decide) ?_
      refine xr_iconst C d_Md_tree_60 ?_
      refine xr_istore C d_Md_tree_61 (by decide) ?_
      refine xr_iconst C d_Md_tree_63 ?_
      refine xr_istore C d_Md_tree_64 (by decide) ?_
      refine xr_iconst C d_Md_tree_66 ?_
      refine xr_istore C d_Md_tree_67 (by decide) ?_
      refine xr_iload_n C 1 d_Md_tree_69 rfl hl1 ?_
      refine xr_sipush C d_Md_tree_70 (by decide) ?_
      refine xz_icmp_lt (tgt := 86) C d_Md_tree_73 (by decide) (by omega) (by omega) (fun c73 => ?_) (fun c73 => by exfalso; omega)
      refine xr_iconst C d_Md_tree_86 ?_
      refine xr_istore C d_Md_tree_87 (by decide) ?_
      refine xr_iload C d_Md_tree_89 rfl ?_
      refine xz_if_le (tgt := 226) C d_Md_tree_91 (by decide) (by omega) (fun c91 => by exfalso; omega) (fun c91 => ?_)
      refine xr_iconst C d_Md_tree_94 ?_
      refine xr_iload_n C 1 d_Md_tree_95 rfl hl1 ?_
      refine xr_iconst C d_Md_tree_96 ?_
      have ht : s.tmod 3 = s % 3 := Int.tmod_eq_emod_of_nonneg (by omega)
      refine xz_irem C d_Md_tree_97 (by omega) (by omega) ?_
      refine xr_iconst C d_Md_tree_98 ?_
      refine xz_icmp_ne (tgt := 106) C d_Md_tree_99 (by decide) (by omega) (by omega) (fun c99 => ?_) (fun c99 => ?_)
      · skip
        refine xr_iconst C d_Md_tree_106 ?_
        refine xr_eqz (y := c3 s) (by unfold c3; split <;> omega) ?_
        refine xz_iadd C d_Md_tree_107 ?_
        refine xr_aload_n C 0 d_Md_tree_108 rfl hl0 ?_
        refine xr_get (k := 29) C xg_Md_19 hw29 (by decide) rfl d_Md_tree_109 ?_
        refine xr_iload_n C 2 d_Md_tree_112 rfl hl2 ?_
        refine xz_iald (k := 33) C hw33 (by decide) (by omega) (by decide) d_Md_tree_113 ?_
        refine xz_iadd C d_Md_tree_114 ?_
        refine xr_iload C d_Md_tree_115 rfl ?_
        refine xr_iconst C d_Md_tree_117 ?_
        refine xz_icmp_le (tgt := 130) C d_Md_tree_118 (by decide) (by omega) (by omega) (fun c118 => ?_) (fun c118 => by exfalso; omega)
        refine xr_iconst C d_Md_tree_130 ?_
        refine xz_iadd C d_Md_tree_131 ?_
        refine xr_eqz (y := nWt (sWt S) s a b) (by rw [nWt_1 (by omega), (hA.1 a.toNat (by omega)).2.2.2.1]; omega) ?_
        refine xr_istore C d_Md_tree_132 (by decide) ?_
        refine xr_iconst C d_Md_tree_134 ?_
        refine xr_aload_n C 0 d_Md_tree_135 rfl hl0 ?_
        refine xr_get (k := 29) C xg_Md_22 hw29 (by decide) rfl d_Md_tree_136 ?_
        refine xr_iload_n C 2 d_Md_tree_139 rfl hl2 ?_
        refine xz_iald (k := 34) C hw34 (by decide) (by omega) (by decide) d_Md_tree_140 ?_
        refine xz_iadd C d_Md_tree_141 ?_
        refine xr_iload C d_Md_tree_142 rfl ?_
        refine xr_iconst C d_Md_tree_144 ?_
        refine xz_icmp_le (tgt := 157) C d_Md_tree_145 (by decide) (by omega) (by omega) (fun c145 => ?_) (fun c145 => by exfalso; omega)
        refine xr_iconst C d_Md_tree_157 ?_
        refine xz_iadd C d_Md_tree_158 ?_
        refine xr_eqz (y := nPl (sPl S) s a b) (by rw [nPl_1 (by omega), (hA.1 a.toNat (by omega)).2.2.2.2.1]; omega) ?_
        refine xr_istore C d_Md_tree_159 (by decide) ?_
        refine xr_iconst C d_Md_tree_161 ?_
        refine xr_iload C d_Md_tree_162 rfl ?_
        refine xr_iconst C d_Md_tree_164 ?_
        refine xz_icmp_le (tgt := 192) C d_Md_tree_165 (by decide) (by omega) (by omega) (fun c165 => ?_) (fun c165 => by exfalso; omega)
        refine xr_aload_n C 0 d_Md_tree_192 rfl hl0 ?_
        refine xr_get (k := 29) C xg_Md_25 hw29 (by decide) rfl d_Md_tree_193 ?_
        refine xr_iload_n C 2 d_Md_tree_196 rfl hl2 ?_
        refine xz_iald (k := 35) C hw35 (by decide) (by omega) (by decide) d_Md_tree_197 ?_
        refine xz_iadd C d_Md_tree_198 ?_
        refine xr_eqz (y := nDp (sDp S) s a b) (by rw [nDp_1 (by omega), (hA.1 a.toNat (by omega)).2.2.2.2.2.1]) ?_
        refine xr_istore C d_Md_tree_199 (by decide) ?_
        refine xr_aload_n C 0 d_Md_tree_201 rfl hl0 ?_
        refine xr_get (k := 29) C xg_Md_28 hw29 (by decide) rfl d_Md_tree_202 ?_
        refine xr_iload_n C 2 d_Md_tree_205 rfl hl2 ?_
        refine xz_iald (k := 36) C hw36 (by decide) (by omega) (by decide) d_Md_tree_206 ?_
        refine xr_iload C d_Md_tree_207 rfl ?_
        refine xr_iconst C d_Md_tree_209 ?_
        refine xz_icmp_le (tgt := 222) C d_Md_tree_210 (by decide) (by omega) (by omega) (fun c210 => ?_) (fun c210 => by exfalso; omega)
        refine xr_iconst C d_Md_tree_222 ?_
        refine xr_ior C d_Md_tree_223 ?_
        rw [zI_or0]
        refine xr_eqz (y := nHo S s a b) (by rw [(hA.1 a.toNat (by omega)).2.2.2.2.2.2, show b = -1 by omega]; exact nHo_one hT (by omega) (by omega)) ?_
        refine xr_istore C d_Md_tree_224 (by decide) ?_
        exact J hf _ hl0 hl1 hl2 hl3 rfl rfl rfl rfl
      · skip
        refine xr_iconst C d_Md_tree_102 ?_
        refine xr_goto (tgt := 107) C d_Md_tree_103 (by decide) ?_
        refine xr_eqz (y := c3 s) (by unfold c3; split <;> omega) ?_
        refine xz_iadd C d_Md_tree_107 ?_
        refine xr_aload_n C 0 d_Md_tree_108 rfl hl0 ?_
        refine xr_get (k := 29) C xg_Md_19 hw29 (by decide) rfl d_Md_tree_109 ?_
        refine xr_iload_n C 2 d_Md_tree_112 rfl hl2 ?_
        refine xz_iald (k := 33) C hw33 (by decide) (by omega) (by decide) d_Md_tree_113 ?_
        refine xz_iadd C d_Md_tree_114 ?_
        refine xr_iload C d_Md_tree_115 rfl ?_
        refine xr_iconst C d_Md_tree_117 ?_
        refine xz_icmp_le (tgt := 130) C d_Md_tree_118 (by decide) (by omega) (by omega) (fun c118 => ?_) (fun c118 => by exfalso; omega)
        refine xr_iconst C d_Md_tree_130 ?_
        refine xz_iadd C d_Md_tree_131 ?_
        refine xr_eqz (y := nWt (sWt S) s a b) (by rw [nWt_1 (by omega), (hA.1 a.toNat (by omega)).2.2.2.1]; omega) ?_
        refine xr_istore C d_Md_tree_132 (by decide) ?_
        refine xr_iconst C d_Md_tree_134 ?_
        refine xr_aload_n C 0 d_Md_tree_135 rfl hl0 ?_
        refine xr_get (k := 29) C xg_Md_22 hw29 (by decide) rfl d_Md_tree_136 ?_
        refine xr_iload_n C 2 d_Md_tree_139 rfl hl2 ?_
        refine xz_iald (k := 34) C hw34 (by decide) (by omega) (by decide) d_Md_tree_140 ?_
        refine xz_iadd C d_Md_tree_141 ?_
        refine xr_iload C d_Md_tree_142 rfl ?_
        refine xr_iconst C d_Md_tree_144 ?_
        refine xz_icmp_le (tgt := 157) C d_Md_tree_145 (by decide) (by omega) (by omega) (fun c145 => ?_) (fun c145 => by exfalso; omega)
        refine xr_iconst C d_Md_tree_157 ?_
        refine xz_iadd C d_Md_tree_158 ?_
        refine xr_eqz (y := nPl (sPl S) s a b) (by rw [nPl_1 (by omega), (hA.1 a.toNat (by omega)).2.2.2.2.1]; omega) ?_
        refine xr_istore C d_Md_tree_159 (by decide) ?_
        refine xr_iconst C d_Md_tree_161 ?_
        refine xr_iload C d_Md_tree_162 rfl ?_
        refine xr_iconst C d_Md_tree_164 ?_
        refine xz_icmp_le (tgt := 192) C d_Md_tree_165 (by decide) (by omega) (by omega) (fun c165 => ?_) (fun c165 => by exfalso; omega)
        refine xr_aload_n C 0 d_Md_tree_192 rfl hl0 ?_
        refine xr_get (k := 29) C xg_Md_25 hw29 (by decide) rfl d_Md_tree_193 ?_
        refine xr_iload_n C 2 d_Md_tree_196 rfl hl2 ?_
        refine xz_iald (k := 35) C hw35 (by decide) (by omega) (by decide) d_Md_tree_197 ?_
        refine xz_iadd C d_Md_tree_198 ?_
        refine xr_eqz (y := nDp (sDp S) s a b) (by rw [nDp_1 (by omega), (hA.1 a.toNat (by omega)).2.2.2.2.2.1]) ?_
        refine xr_istore C d_Md_tree_199 (by decide) ?_
        refine xr_aload_n C 0 d_Md_tree_201 rfl hl0 ?_
        refine xr_get (k := 29) C xg_Md_28 hw29 (by decide) rfl d_Md_tree_202 ?_
        refine xr_iload_n C 2 d_Md_tree_205 rfl hl2 ?_
        refine xz_iald (k := 36) C hw36 (by decide) (by omega) (by decide) d_Md_tree_206 ?_
        refine xr_iload C d_Md_tree_207 rfl ?_
        refine xr_iconst C d_Md_tree_209 ?_
        refine xz_icmp_le (tgt := 222) C d_Md_tree_210 (by decide) (by omega) (by omega) (fun c210 => ?_) (fun c210 => by exfalso; omega)
        refine xr_iconst C d_Md_tree_222 ?_
        refine xr_ior C d_Md_tree_223 ?_
        rw [zI_or0]
        refine xr_eqz (y := nHo S s a b) (by rw [(hA.1 a.toNat (by omega)).2.2.2.2.2.2, show b = -1 by omega]; exact nHo_one hT (by omega) (by omega)) ?_
        refine xr_istore C d_Md_tree_224 (by decide) ?_
        exact J hf _ hl0 hl1 hl2 hl3 rfl rfl rfl rfl
    · skip
      refine xr_iload_n C 1 d_Md_tree_54 rfl hl1 ?_
      refine xr_callS C (m_Md_parts (x := s) (by omega)) xm_Md_93 x2_Md_parts (by decide) (by decide) (Nat.le_of_ble_eq_true rfl) rfl d_Md_tree_55 (fun En n9 ad9 w9 hx9 => hx9.elim) (fun v n9 ad9 w9 hp => ?_)
      obtain ⟨rfl, rfl, rfl, rfl⟩ := hp
      show XW _ _ _ _ _ _ 58 _ (_ :: _)
      refine xr_eqz (y := 2) (by unfold prt; rw [if_neg (by omega), if_neg (by omega)]) ?_
      refine xr_istore C d_Md_tree_58 (by decide) ?_
      refine xr_iconst C d_Md_tree_60 ?_
      refine xr_istore C d_Md_tree_61 (by decide) ?_
      refine xr_iconst C d_Md_tree_63 ?_
      refine xr_istore C d_Md_tree_64 (by decide) ?_
      refine xr_iconst C d_Md_tree_66 ?_
      refine xr_istore C d_Md_tree_67 (by decide) ?_
      refine xr_iload_n C 1 d_Md_tree_69 rfl hl1 ?_
      refine xr_sipush C d_Md_tree_70 (by decide) ?_
      refine xz_icmp_lt (tgt := 86) C d_Md_tree_73 (by decide) (by omega) (by omega) (fun c73 => ?_) (fun c73 => by exfalso; omega)
      refine xr_iconst C d_Md_tree_86 ?_
      refine xr_istore C d_Md_tree_87 (by decide) ?_
      refine xr_iload C d_Md_tree_89 rfl ?_
      refine xz_if_le (tgt := 226) C d_Md_tree_91 (by decide) (by omega) (fun c91 => by exfalso; omega) (fun c91 => ?_)
      refine xr_iconst C d_Md_tree_94 ?_
      refine xr_iload_n C 1 d_Md_tree_95 rfl hl1 ?_
      refine xr_iconst C d_Md_tree_96 ?_
      have ht : s.tmod 3 = s % 3 := Int.tmod_eq_emod_of_nonneg (by omega)
      refine xz_irem C d_Md_tree_97 (by omega) (by omega) ?_
      refine xr_iconst C d_Md_tree_98 ?_
      refine xz_icmp_ne (tgt := 106) C d_Md_tree_99 (by decide) (by omega) (by omega) (fun c99 => ?_) (fun c99 => ?_)
      · skip
        refine xr_iconst C d_Md_tree_106 ?_
        refine xr_eqz (y := c3 s) (by unfold c3; split <;> omega) ?_
        refine xz_iadd C d_Md_tree_107 ?_
        refine xr_aload_n C 0 d_Md_tree_108 rfl hl0 ?_
        refine xr_get (k := 29) C xg_Md_19 hw29 (by decide) rfl d_Md_tree_109 ?_
        refine xr_iload_n C 2 d_Md_tree_112 rfl hl2 ?_
        refine xz_iald (k := 33) C hw33 (by decide) (by omega) (by decide) d_Md_tree_113 ?_
        refine xz_iadd C d_Md_tree_114 ?_
        refine xr_iload C d_Md_tree_115 rfl ?_
        refine xr_iconst C d_Md_tree_117 ?_
        refine xz_icmp_le (tgt := 130) C d_Md_tree_118 (by decide) (by omega) (by omega) (fun c118 => by exfalso; omega) (fun c118 => ?_)
        refine xr_aload_n C 0 d_Md_tree_121 rfl hl0 ?_
        refine xr_get (k := 29) C xg_Md_19 hw29 (by decide) rfl d_Md_tree_122 ?_
        refine xr_iload_n C 3 d_Md_tree_125 rfl hl3 ?_
        refine xz_iald (k := 33) C hw33 (by decide) (by omega) (by decide) d_Md_tree_126 ?_
        refine xr_goto (tgt := 131) C d_Md_tree_127 (by decide) ?_
        refine xz_iadd C d_Md_tree_131 ?_
        refine xr_eqz (y := nWt (sWt S) s a b) (by rw [nWt_2 (by omega) (by omega), (hA.1 a.toNat (by omega)).2.2.2.1, (hA.1 b.toNat (by omega)).2.2.2.1]) ?_
        refine xr_istore C d_Md_tree_132 (by decide) ?_
        refine xr_iconst C d_Md_tree_134 ?_
        refine xr_aload_n C 0 d_Md_tree_135 rfl hl0 ?_
        refine xr_get (k := 29) C xg_Md_22 hw29 (by decide) rfl d_Md_tree_136 ?_
        refine xr_iload_n C 2 d_Md_tree_139 rfl hl2 ?_
        refine xz_iald (k := 34) C hw34 (by decide) (by omega) (by decide) d_Md_tree_140 ?_
        refine xz_iadd C d_Md_tree_141 ?_
        refine xr_iload C d_Md_tree_142 rfl ?_
        refine xr_iconst C d_Md_tree_144 ?_
        refine xz_icmp_le (tgt := 157) C d_Md_tree_145 (by decide) (by omega) (by omega) (fun c145 => by exfalso; omega) (fun c145 => ?_)
        refine xr_aload_n C 0 d_Md_tree_148 rfl hl0 ?_
        refine xr_get (k := 29) C xg_Md_22 hw29 (by decide) rfl d_Md_tree_149 ?_
        refine xr_iload_n C 3 d_Md_tree_152 rfl hl3 ?_
        refine xz_iald (k := 34) C hw34 (by decide) (by omega) (by decide) d_Md_tree_153 ?_
        refine xr_goto (tgt := 158) C d_Md_tree_154 (by decide) ?_
        refine xz_iadd C d_Md_tree_158 ?_
        refine xr_eqz (y := nPl (sPl S) s a b) (by rw [nPl_2 (by omega) (by omega), (hA.1 a.toNat (by omega)).2.2.2.2.1, (hA.1 b.toNat (by omega)).2.2.2.2.1]) ?_
        refine xr_istore C d_Md_tree_159 (by decide) ?_
        refine xr_iconst C d_Md_tree_161 ?_
        refine xr_iload C d_Md_tree_162 rfl ?_
        refine xr_iconst C d_Md_tree_164 ?_
        refine xz_icmp_le (tgt := 192) C d_Md_tree_165 (by decide) (by omega) (by omega) (fun c165 => by exfalso; omega) (fun c165 => ?_)
        refine xr_aload_n C 0 d_Md_tree_168 rfl hl0 ?_
        refine xr_get (k := 29) C xg_Md_25 hw29 (by decide) rfl d_Md_tree_169 ?_
        refine xr_iload_n C 3 d_Md_tree_172 rfl hl3 ?_
        refine xz_iald (k := 35) C hw35 (by decide) (by omega) (by decide) d_Md_tree_173 ?_
        refine xr_aload_n C 0 d_Md_tree_174 rfl hl0 ?_
        refine xr_get (k := 29) C xg_Md_25 hw29 (by decide) rfl d_Md_tree_175 ?_
        refine xr_iload_n C 2 d_Md_tree_178 rfl hl2 ?_
        refine xz_iald (k := 35) C hw35 (by decide) (by omega) (by decide) d_Md_tree_179 ?_
        have d1 := (hA.2 a.toNat).2.2.2.2.2.1
        have d2 := (hA.2 b.toNat).2.2.2.2.2.1
        have e1 := (hA.1 a.toNat (by omega)).2.2.2.2.2.1
        have e2 := (hA.1 b.toNat (by omega)).2.2.2.2.2.1
        refine xz_icmp_le (tgt := 192) C d_Md_tree_180 (by decide) (by omega) (by omega) (fun c180 => ?_) (fun c180 => ?_)
        · skip
          refine xr_aload_n C 0 d_Md_tree_192 rfl hl0 ?_
          refine xr_get (k := 29) C xg_Md_25 hw29 (by decide) rfl d_Md_tree_193 ?_
          refine xr_iload_n C 2 d_Md_tree_196 rfl hl2 ?_
          refine xz_iald (k := 35) C hw35 (by decide) (by omega) (by decide) d_Md_tree_197 ?_
          refine xz_iadd C d_Md_tree_198 ?_
          refine xr_eqz (y := nDp (sDp S) s a b) (by rw [nDp_2 (by omega) (by omega), ← e1, ← e2]; omega) ?_
          refine xr_istore C d_Md_tree_199 (by decide) ?_
          refine xr_aload_n C 0 d_Md_tree_201 rfl hl0 ?_
          refine xr_get (k := 29) C xg_Md_28 hw29 (by decide) rfl d_Md_tree_202 ?_
          refine xr_iload_n C 2 d_Md_tree_205 rfl hl2 ?_
          refine xz_iald (k := 36) C hw36 (by decide) (by omega) (by decide) d_Md_tree_206 ?_
          refine xr_iload C d_Md_tree_207 rfl ?_
          refine xr_iconst C d_Md_tree_209 ?_
          refine xz_icmp_le (tgt := 222) C d_Md_tree_210 (by decide) (by omega) (by omega) (fun c210 => by exfalso; omega) (fun c210 => ?_)
          refine xr_aload_n C 0 d_Md_tree_213 rfl hl0 ?_
          refine xr_get (k := 29) C xg_Md_28 hw29 (by decide) rfl d_Md_tree_214 ?_
          refine xr_iload_n C 3 d_Md_tree_217 rfl hl3 ?_
          refine xz_iald (k := 36) C hw36 (by decide) (by omega) (by decide) d_Md_tree_218 ?_
          refine xr_goto (tgt := 223) C d_Md_tree_219 (by decide) ?_
          refine xr_ior C d_Md_tree_223 ?_
          rw [(hA.1 a.toNat (by omega)).2.2.2.2.2.2, (hA.1 b.toNat (by omega)).2.2.2.2.2.2, nHo_two (s := s) hT (by omega) (by omega) (by omega)]
          refine xr_istore C d_Md_tree_224 (by decide) ?_
          exact J hf _ hl0 hl1 hl2 hl3 rfl rfl rfl rfl
        · skip
          refine xr_aload_n C 0 d_Md_tree_183 rfl hl0 ?_
          refine xr_get (k := 29) C xg_Md_25 hw29 (by decide) rfl d_Md_tree_184 ?_
          refine xr_iload_n C 3 d_Md_tree_187 rfl hl3 ?_
          refine xz_iald (k := 35) C hw35 (by decide) (by omega) (by decide) d_Md_tree_188 ?_
          refine xr_goto (tgt := 198) C d_Md_tree_189 (by decide) ?_
          refine xz_iadd C d_Md_tree_198 ?_
          refine xr_eqz (y := nDp (sDp S) s a b) (by rw [nDp_2 (by omega) (by omega), ← e1, ← e2]; omega) ?_
          refine xr_istore C d_Md_tree_199 (by decide) ?_
          refine xr_aload_n C 0 d_Md_tree_201 rfl hl0 ?_
          refine xr_get (k := 29) C xg_Md_28 hw29 (by decide) rfl d_Md_tree_202 ?_
          refine xr_iload_n C 2 d_Md_tree_205 rfl hl2 ?_
          refine xz_iald (k := 36) C hw36 (by decide) (by omega) (by decide) d_Md_tree_206 ?_
          refine xr_iload C d_Md_tree_207 rfl ?_
          refine xr_iconst C d_Md_tree_209 ?_
          refine xz_icmp_le (tgt := 222) C d_Md_tree_210 (by decide) (by omega) (by omega) (fun c210 => by exfalso; omega) (fun c210 => ?_)
          refine xr_aload_n C 0 d_Md_tree_213 rfl hl0 ?_
          refine xr_get (k := 29) C xg_Md_28 hw29 (by decide) rfl d_Md_tree_214 ?_
          refine xr_iload_n C 3 d_Md_tree_217 rfl hl3 ?_
          refine xz_iald (k := 36) C hw36 (by decide) (by omega) (by decide) d_Md_tree_218 ?_
          refine xr_goto (tgt := 223) C d_Md_tree_219 (by decide) ?_
          refine xr_ior C d_Md_tree_223 ?_
          rw [(hA.1 a.toNat (by omega)).2.2.2.2.2.2, (hA.1 b.toNat (by omega)).2.2.2.2.2.2, nHo_two (s := s) hT (by omega) (by omega) (by omega)]
          refine xr_istore C d_Md_tree_224 (by decide) ?_
          exact J hf _ hl0 hl1 hl2 hl3 rfl rfl rfl rfl
      · skip
        refine xr_iconst C d_Md_tree_102 ?_
        refine xr_goto (tgt := 107) C d_Md_tree_103 (by decide) ?_
        refine xr_eqz (y := c3 s) (by unfold c3; split <;> omega) ?_
        refine xz_iadd C d_Md_tree_107 ?_
        refine xr_aload_n C 0 d_Md_tree_108 rfl hl0 ?_
        refine xr_get (k := 29) C xg_Md_19 hw29 (by decide) rfl d_Md_tree_109 ?_
        refine xr_iload_n C 2 d_Md_tree_112 rfl hl2 ?_
        refine xz_iald (k := 33) C hw33 (by decide) (by omega) (by decide) d_Md_tree_113 ?_
        refine xz_iadd C d_Md_tree_114 ?_
        refine xr_iload C d_Md_tree_115 rfl ?_
        refine xr_iconst C d_Md_tree_117 ?_
        refine xz_icmp_le (tgt := 130) C d_Md_tree_118 (by decide) (by omega) (by omega) (fun c118 => by exfalso; omega) (fun c118 => ?_)
        refine xr_aload_n C 0 d_Md_tree_121 rfl hl0 ?_
        refine xr_get (k := 29) C xg_Md_19 hw29 (by decide) rfl d_Md_tree_122 ?_
        refine xr_iload_n C 3 d_Md_tree_125 rfl hl3 ?_
        refine xz_iald (k := 33) C hw33 (by decide) (by omega) (by decide) d_Md_tree_126 ?_
        refine xr_goto (tgt := 131) C d_Md_tree_127 (by decide) ?_
        refine xz_iadd C d_Md_tree_131 ?_
        refine xr_eqz (y := nWt (sWt S) s a b) (by rw [nWt_2 (by omega) (by omega), (hA.1 a.toNat (by omega)).2.2.2.1, (hA.1 b.toNat (by omega)).2.2.2.1]) ?_
        refine xr_istore C d_Md_tree_132 (by decide) ?_
        refine xr_iconst C d_Md_tree_134 ?_
        refine xr_aload_n C 0 d_Md_tree_135 rfl hl0 ?_
        refine xr_get (k := 29) C xg_Md_22 hw29 (by decide) rfl d_Md_tree_136 ?_
        refine xr_iload_n C 2 d_Md_tree_139 rfl hl2 ?_
        refine xz_iald (k := 34) C hw34 (by decide) (by omega) (by decide) d_Md_tree_140 ?_
        refine xz_iadd C d_Md_tree_141 ?_
        refine xr_iload C d_Md_tree_142 rfl ?_
        refine xr_iconst C d_Md_tree_144 ?_
        refine xz_icmp_le (tgt := 157) C d_Md_tree_145 (by decide) (by omega) (by omega) (fun c145 => by exfalso; omega) (fun c145 => ?_)
        refine xr_aload_n C 0 d_Md_tree_148 rfl hl0 ?_
        refine xr_get (k := 29) C xg_Md_22 hw29 (by decide) rfl d_Md_tree_149 ?_
        refine xr_iload_n C 3 d_Md_tree_152 rfl hl3 ?_
        refine xz_iald (k := 34) C hw34 (by decide) (by omega) (by decide) d_Md_tree_153 ?_
        refine xr_goto (tgt := 158) C d_Md_tree_154 (by decide) ?_
        refine xz_iadd C d_Md_tree_158 ?_
        refine xr_eqz (y := nPl (sPl S) s a b) (by rw [nPl_2 (by omega) (by omega), (hA.1 a.toNat (by omega)).2.2.2.2.1, (hA.1 b.toNat (by omega)).2.2.2.2.1]) ?_
        refine xr_istore C d_Md_tree_159 (by decide) ?_
        refine xr_iconst C d_Md_tree_161 ?_
        refine xr_iload C d_Md_tree_162 rfl ?_
        refine xr_iconst C d_Md_tree_164 ?_
        refine xz_icmp_le (tgt := 192) C d_Md_tree_165 (by decide) (by omega) (by omega) (fun c165 => by exfalso; omega) (fun c165 => ?_)
        refine xr_aload_n C 0 d_Md_tree_168 rfl hl0 ?_
        refine xr_get (k := 29) C xg_Md_25 hw29 (by decide) rfl d_Md_tree_169 ?_
        refine xr_iload_n C 3 d_Md_tree_172 rfl hl3 ?_
        refine xz_iald (k := 35) C hw35 (by decide) (by omega) (by decide) d_Md_tree_173 ?_
        refine xr_aload_n C 0 d_Md_tree_174 rfl hl0 ?_
        refine xr_get (k := 29) C xg_Md_25 hw29 (by decide) rfl d_Md_tree_175 ?_
        refine xr_iload_n C 2 d_Md_tree_178 rfl hl2 ?_
        refine xz_iald (k := 35) C hw35 (by decide) (by omega) (by decide) d_Md_tree_179 ?_
        have d1 := (hA.2 a.toNat).2.2.2.2.2.1
        have d2 := (hA.2 b.toNat).2.2.2.2.2.1
        have e1 := (hA.1 a.toNat (by omega)).2.2.2.2.2.1
        have e2 := (hA.1 b.toNat (by omega)).2.2.2.2.2.1
        refine xz_icmp_le (tgt := 192) C d_Md_tree_180 (by decide) (by omega) (by omega) (fun c180 => ?_) (fun c180 => ?_)
        · skip
          refine xr_aload_n C 0 d_Md_tree_192 rfl hl0 ?_
          refine xr_get (k := 29) C xg_Md_25 hw29 (by decide) rfl d_Md_tree_193 ?_
          refine xr_iload_n C 2 d_Md_tree_196 rfl hl2 ?_
          refine xz_iald (k := 35) C hw35 (by decide) (by omega) (by decide) d_Md_tree_197 ?_
          refine xz_iadd C d_Md_tree_198 ?_
          refine xr_eqz (y := nDp (sDp S) s a b) (by rw [nDp_2 (by omega) (by omega), ← e1, ← e2]; omega) ?_
          refine xr_istore C d_Md_tree_199 (by decide) ?_
          refine xr_aload_n C 0 d_Md_tree_201 rfl hl0 ?_
          refine xr_get (k := 29) C xg_Md_28 hw29 (by decide) rfl d_Md_tree_202 ?_
          refine xr_iload_n C 2 d_Md_tree_205 rfl hl2 ?_
          refine xz_iald (k := 36) C hw36 (by decide) (by omega) (by decide) d_Md_tree_206 ?_
          refine xr_iload C d_Md_tree_207 rfl ?_
          refine xr_iconst C d_Md_tree_209 ?_
          refine xz_icmp_le (tgt := 222) C d_Md_tree_210 (by decide) (by omega) (by omega) (fun c210 => by exfalso; omega) (fun c210 => ?_)
          refine xr_aload_n C 0 d_Md_tree_213 rfl hl0 ?_
          refine xr_get (k := 29) C xg_Md_28 hw29 (by decide) rfl d_Md_tree_214 ?_
          refine xr_iload_n C 3 d_Md_tree_217 rfl hl3 ?_
          refine xz_iald (k := 36) C hw36 (by decide) (by omega) (by decide) d_Md_tree_218 ?_
          refine xr_goto (tgt := 223) C d_Md_tree_219 (by decide) ?_
          refine xr_ior C d_Md_tree_223 ?_
          rw [(hA.1 a.toNat (by omega)).2.2.2.2.2.2, (hA.1 b.toNat (by omega)).2.2.2.2.2.2, nHo_two (s := s) hT (by omega) (by omega) (by omega)]
          refine xr_istore C d_Md_tree_224 (by decide) ?_
          exact J hf _ hl0 hl1 hl2 hl3 rfl rfl rfl rfl
        · skip
          refine xr_aload_n C 0 d_Md_tree_183 rfl hl0 ?_
          refine xr_get (k := 29) C xg_Md_25 hw29 (by decide) rfl d_Md_tree_184 ?_
          refine xr_iload_n C 3 d_Md_tree_187 rfl hl3 ?_
          refine xz_iald (k := 35) C hw35 (by decide) (by omega) (by decide) d_Md_tree_188 ?_
          refine xr_goto (tgt := 198) C d_Md_tree_189 (by decide) ?_
          refine xz_iadd C d_Md_tree_198 ?_
          refine xr_eqz (y := nDp (sDp S) s a b) (by rw [nDp_2 (by omega) (by omega), ← e1, ← e2]; omega) ?_
          refine xr_istore C d_Md_tree_199 (by decide) ?_
          refine xr_aload_n C 0 d_Md_tree_201 rfl hl0 ?_
          refine xr_get (k := 29) C xg_Md_28 hw29 (by decide) rfl d_Md_tree_202 ?_
          refine xr_iload_n C 2 d_Md_tree_205 rfl hl2 ?_
          refine xz_iald (k := 36) C hw36 (by decide) (by omega) (by decide) d_Md_tree_206 ?_
          refine xr_iload C d_Md_tree_207 rfl ?_
          refine xr_iconst C d_Md_tree_209 ?_
          refine xz_icmp_le (tgt := 222) C d_Md_tree_210 (by decide) (by omega) (by omega) (fun c210 => by exfalso; omega) (fun c210 => ?_)
          refine xr_aload_n C 0 d_Md_tree_213 rfl hl0 ?_
          refine xr_get (k := 29) C xg_Md_28 hw29 (by decide) rfl d_Md_tree_214 ?_
          refine xr_iload_n C 3 d_Md_tree_217 rfl hl3 ?_
          refine xz_iald (k := 36) C hw36 (by decide) (by omega) (by decide) d_Md_tree_218 ?_
          refine xr_goto (tgt := 223) C d_Md_tree_219 (by decide) ?_
          refine xr_ior C d_Md_tree_223 ?_
          rw [(hA.1 a.toNat (by omega)).2.2.2.2.2.2, (hA.1 b.toNat (by omega)).2.2.2.2.2.2, nHo_two (s := s) hT (by omega) (by omega) (by omega)]
          refine xr_istore C d_Md_tree_224 (by decide) ?_
          exact J hf _ hl0 hl1 hl2 hl3 rfl rfl rfl rfl
  have lp : ∀ (k i : Nat) (lv : Nat → Option Value), sN S + 1 ≤ i + k → i ≤ sN S → (∀ j, j < i → ¬ isT S s a b j) → lv 0 = some (.ref (ad 29)) → lv 1 = some (.int (zI s)) → lv 2 = some (.int (zI a)) → lv 3 = some (.int (zI b)) → lv 4 = some (.int (zI (i : Int))) → XW G 56 ad w 0 0 3 lv [] := by
    intro k
    induction k with
    | zero => intro i lv h1 h2; exact absurd h1 (by omega)
    | succ k ih =>
      intro i lv h1 h2 hm hl0 hl1 hl2 hl3 hl4
      refine xr_iload C d_Md_tree_3 hl4 ?_
      refine xr_aload_n C 0 d_Md_tree_5 rfl hl0 ?_
      refine xr_get (k := 29) C xg_Md_90 hw29 (by decide) rfl d_Md_tree_6 ?_
      refine xz_icmp_ge (tgt := 54) C d_Md_tree_9 (by decide) (by omega) (by omega) (fun c9 => ?_) (fun c9 => ?_)
      · skip
        exact K (fnd_not (fun j hj => hm j (by omega))) _ hl0 hl1 hl2 hl3
      · skip
        refine xr_aload_n C 0 d_Md_tree_12 rfl hl0 ?_
        refine xr_get (k := 29) C xg_Md_7 hw29 (by decide) rfl d_Md_tree_13 ?_
        refine xr_iload C d_Md_tree_16 hl4 ?_
        refine xj_iald (k := 30) C (i) (by omega) hw30 (by decide) (by omega) (by decide) d_Md_tree_18 ?_
        refine xr_iload_n C 1 d_Md_tree_19 rfl hl1 ?_
        have hir := hA.2 i
        refine xz_icmp_ne (tgt := 48) C d_Md_tree_20 (by decide) (by omega) (by omega) (fun c20 => ?_) (fun c20 => ?_)
        · skip
          refine xr_iinc C d_Md_tree_48 (by decide) hl4 ?_
          refine xr_goto (tgt := 3) C d_Md_tree_51 (by decide) ?_
          exact ih (i + 1) _ (by omega) (by omega) (fun j hj hti => by
            by_cases e : j = i
            · subst e
              obtain ⟨q1, q2, q3, -⟩ := hA.1 j (by omega)
              rw [hti.1] at q1
              rw [hti.2.1] at q2
              rw [hti.2.2] at q3
              omega
            · exact hm j (by omega) hti) hl0 hl1 hl2 hl3 rfl
        · skip
          refine xr_aload_n C 0 d_Md_tree_23 rfl hl0 ?_
          refine xr_get (k := 29) C xg_Md_13 hw29 (by decide) rfl d_Md_tree_24 ?_
          refine xr_iload C d_Md_tree_27 hl4 ?_
          refine xj_iald (k := 31) C (i) (by omega) hw31 (by decide) (by omega) (by decide) d_Md_tree_29 ?_
          refine xr_iload_n C 2 d_Md_tree_30 rfl hl2 ?_
          refine xz_icmp_ne (tgt := 48) C d_Md_tree_31 (by decide) (by omega) (by omega) (fun c31 => ?_) (fun c31 => ?_)
          · skip
            refine xr_iinc C d_Md_tree_48 (by decide) hl4 ?_
            refine xr_goto (tgt := 3) C d_Md_tree_51 (by decide) ?_
            exact ih (i + 1) _ (by omega) (by omega) (fun j hj hti => by
              by_cases e : j = i
              · subst e
                obtain ⟨q1, q2, q3, -⟩ := hA.1 j (by omega)
                rw [hti.1] at q1
                rw [hti.2.1] at q2
                rw [hti.2.2] at q3
                omega
              · exact hm j (by omega) hti) hl0 hl1 hl2 hl3 rfl
          · skip
            refine xr_aload_n C 0 d_Md_tree_34 rfl hl0 ?_
            refine xr_get (k := 29) C xg_Md_16 hw29 (by decide) rfl d_Md_tree_35 ?_
            refine xr_iload C d_Md_tree_38 hl4 ?_
            refine xj_iald (k := 32) C (i) (by omega) hw32 (by decide) (by omega) (by decide) d_Md_tree_40 ?_
            refine xr_iload_n C 3 d_Md_tree_41 rfl hl3 ?_
            refine xz_icmp_ne (tgt := 48) C d_Md_tree_42 (by decide) (by omega) (by omega) (fun c42 => ?_) (fun c42 => ?_)
            · skip
              refine xr_iinc C d_Md_tree_48 (by decide) hl4 ?_
              refine xr_goto (tgt := 3) C d_Md_tree_51 (by decide) ?_
              exact ih (i + 1) _ (by omega) (by omega) (fun j hj hti => by
                by_cases e : j = i
                · subst e
                  obtain ⟨q1, q2, q3, -⟩ := hA.1 j (by omega)
                  rw [hti.1] at q1
                  rw [hti.2.1] at q2
                  rw [hti.2.2] at q3
                  omega
                · exact hm j (by omega) hti) hl0 hl1 hl2 hl3 rfl
            · skip
              refine xr_iload C d_Md_tree_45 hl4 ?_
              exact xr_iret C E ⟨rfl, rfl, (i : Int), rfl, S, by rw [mkT_some (fnd_of hT (show i < sN S by omega) ⟨by rw [← (hA.1 i (by omega)).1]; omega, by rw [← (hA.1 i (by omega)).2.1]; omega, by rw [← (hA.1 i (by omega)).2.2.1]; omega⟩)], by rw [show (fa || decide ((i : Int) < 0)) = fa by rw [decide_eq_false (by omega), Bool.or_false]]; exact ⟨sg, fs, sn, wt, pl, dp, ho, hw29, hw30, hw31, hw32, hw33, hw34, hw35, hw36, hA⟩, fun k _ => rfl⟩ (by decide) (by decide) d_Md_tree_47
  refine xr_iconst C d_Md_tree_0 ?_
  refine xr_istore C d_Md_tree_1 (by decide) ?_
  exact lp (sN S + 1) 0 _ (by omega) (by omega) (fun j hj => by omega) rfl rfl rfl rfl rfl
