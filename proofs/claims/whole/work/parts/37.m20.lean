theorem fl_drop {S : xS} {l : List Nat} {k x : Nat} {r : List Nat} {rest : List Nat} (h : l.drop k = (x :: r).flatMap (lyS S) ++ rest) (hs : shp (sSg S x) (sFs S x) (sSn S x) x) : l[k]? = some x ∧ l.drop (k + (lyS S x).length) = r.flatMap (lyS S) ++ rest := by
  rw [List.flatMap_cons, List.append_assoc] at h
  constructor
  · have : (l.drop k)[0]? = some x := by rw [h, ly_n hs]; rfl
    rw [List.getElem?_drop] at this
    exact this
  · rw [← List.drop_drop, h, List.drop_append, List.drop_length, Nat.sub_self, List.drop_zero, List.nil_append]
theorem fl_kids {S : xS} {l : List Nat} {k x : Nat} {r : List Nat} {rest : List Nat} (h : l.drop k = (x :: r).flatMap (lyS S) ++ rest) (hs : shp (sSg S x) (sFs S x) (sSn S x) x) :
    (100 ≤ sSg S x → l.drop (k + 1) = r.flatMap (lyS S) ++ rest) ∧ (sSg S x < 6 → l.drop (k + 1) = ((sFs S x).toNat :: r).flatMap (lyS S) ++ rest) ∧ (6 ≤ sSg S x → sSg S x < 100 → l.drop (k + 1) = ((sFs S x).toNat :: (sSn S x).toNat :: r).flatMap (lyS S) ++ rest) := by
  rw [List.flatMap_cons, ly_n hs] at h
  have e : l.drop (k + 1) = (if sFs S x < 0 then [] else lyS S (sFs S x).toNat) ++ (if sSn S x < 0 then [] else lyS S (sSn S x).toNat) ++ r.flatMap (lyS S) ++ rest := by
    rw [← List.drop_drop, h]
    simp
  unfold shp at hs
  refine ⟨fun q => ?_, fun q => ?_, fun q q2 => ?_⟩
  · rw [e, if_pos (by omega), if_pos (by omega)]; simp
  · rw [e, if_neg (by omega), if_pos (by omega)]; simp
  · rw [e, if_neg (by omega), if_neg (by omega)]; simp
theorem fl_nil {S : xS} {ps : List Nat} (h : ps.flatMap (lyS S) = []) : ps = [] := by
  cases ps with
  | nil => rfl
  | cons x r =>
    have := ly_pos S x
    rw [List.flatMap_cons] at h
    have := congrArg List.length h
    rw [List.length_append, List.length_nil] at this
    omega
theorem fitL_c {S : xS} {p t : Nat} {r : List (Nat × Nat)} {β : Nat → Int} : fitL S ((p, t) :: r) β = (fitS S p t β).bind (fitL S r) := rfl
set_option maxHeartbeats 4000000 in
set_option maxRecDepth 100000 in
theorem m_Md_matches {L : Launch} {D : va_G} {cA : Nat → ClassId} {base : Nat} {ad : Nat → Nat} {w : Nat → va_E} {S : xS} {ru ro sp nr ns th : Int} {se fa so : Bool} (hMT : MT ad cA w S ru ro sp nr ns th se fa so) (hT : Tb S) {T : Nat} (hTN : T < sN S) {Z : Nat → Int} (hw44 : w 44 = xIA (cA 0) 1001 Z) (hDZ : DN Z (lyS S T)) {l pos t : Nat} (hl : l < sN S) (hpos : (lyS S T)[pos]? = some t) {g6 g7 f0 : Nat → Int} (hw46 : w 46 = xIA (cA 0) 1001 g6) (hw47 : w 47 = xIA (cA 0) 1100 g7) (hw48 : w 48 = xIA (cA 0) 6 f0) : XM L D cA base y_Md_matches c_Md_matches 9 (some .boolean) (xrm 2 0 0) [.ref (ad 29), .int (zI (l : Int)), .int (zI (pos : Int))] 56 ad w (xRet 56 ad (fun z w' => z = xb (mtS S l t).isSome ∧ (∃ γ, w' 48 = xIA (cA 0) 6 γ ∧ ∀ b, mtS S l t = some b → ∀ h, h < 6 → γ h = b h) ∧ (∃ g, w' 46 = xIA (cA 0) 1001 g) ∧ (∃ g, w' 47 = xIA (cA 0) 1100 g) ∧ ∀ k, k ≠ 46 → k ≠ 47 → k ≠ 48 → w' k = w k)) xF := by
  refine xm_of (by decide +kernel) (by simp [Value.category]) (Nat.le_of_ble_eq_true rfl) (fun G C E _ => ?_)
  obtain ⟨sg, fs, sn, wt, pl, dp, ho, hw29, hw30, hw31, hw32, hw33, hw34, hw35, hw36, hA⟩ := id hMT
  have hN := hT.1
  have hlen := lyS_len hT hl
  have hpl := (hT.2.1 l hl).2.2.2.2.2
  have hlenT := lyS_len hT hTN
  have hplT := (hT.2.1 T hTN).2.2.2.2.2
  have hpp := (List.getElem?_eq_some_iff.mp hpos).1
  have lp : ∀ (g : Nat → Int), DN g (lyS S l) → ∀ (m k a : Nat) (ps : List (Nat × Nat)) (β f : Nat → Int) (w1 : Nat → va_E) (lv : Nat → Option Value), (lyS S l).length + 1 ≤ k + m → k ≤ (lyS S l).length → (lyS S l).drop k = (ps.map (·.1)).flatMap (lyS S) ++ [] → (∃ rest, (lyS S T).drop a = (ps.map (·.2)).flatMap (lyS S) ++ rest) → (∀ q ∈ ps, q.1 < sN S ∧ q.2 < sN S) → (∀ h, -1 ≤ β h ∧ β h < sN S) → (∀ h, h < 6 → f h = β h) → fitL S ps β = mtS S l t → w1 48 = xIA (cA 0) 6 f → w1 46 = xIA (cA 0) 1001 g → (∃ g, w1 47 = xIA (cA 0) 1100 g) → (∀ k, k ≠ 46 → k ≠ 47 → k ≠ 48 → w1 k = w k) → lv 0 = some (.ref (ad 29)) → lv 3 = some (.int (zI ((lyS S l).length : Int))) → lv 4 = some (.int (zI (a : Int))) → lv 5 = some (.int (zI (k : Int))) → XW G 56 ad w1 0 0 38 lv [] := by
    intro g hDg m
    induction m with
    | zero => intro k a ps β f w1 lv h1 h2; exact absurd h1 (by omega)
    | succ m ih =>
      intro k a ps β f w1 lv h1 h2 hd1 hd2 hall hβ hag hR hw48 hw46 hw47 hfr hq0 hq3 hq4 hq5
      have hw29 := (hfr 29 (by decide) (by decide) (by decide)).trans hw29
      have hw30 := (hfr 30 (by decide) (by decide) (by decide)).trans hw30
      have hw34 := (hfr 34 (by decide) (by decide) (by decide)).trans hw34
      have hw44 := (hfr 44 (by decide) (by decide) (by decide)).trans hw44
      obtain ⟨rest, hd2⟩ := hd2
      cases ps with
      | nil =>
        have hk9 : (lyS S l).length ≤ k := by
          have := congrArg List.length hd1
          rw [List.length_drop] at this
          simp at this
          omega
        refine xr_iload C d_Md_matches_38 hq5 ?_
        refine xr_iload_n C 3 d_Md_matches_40 rfl hq3 ?_
        refine xz_icmp_ge (tgt := 165) C d_Md_matches_41 (by decide) (by omega) (by omega) (fun c41 => ?_) (fun c41 => by exfalso; omega)
        refine xr_iconst C d_Md_matches_165 ?_
        exact xr_zret C E (by omega) ⟨rfl, rfl, _, rfl, by rw [← hR]; rfl, ⟨f, hw48, fun b hb => by rw [← hR] at hb; cases hb; exact hag⟩, ⟨g, hw46⟩, hw47, hfr⟩ (by decide) (by decide) d_Md_matches_166
      | cons a0 r =>
        obtain ⟨p, u⟩ := a0
        obtain ⟨hp, hu⟩ := hall (p, u) List.mem_cons_self
        have hp : p < sN S := hp
        have hu : u < sN S := hu
        have sp := (hT.2.1 p hp).1
        have su := (hT.2.1 u hu).1
        have hd1 : (lyS S l).drop k = (p :: r.map (·.1)).flatMap (lyS S) ++ [] := hd1
        have hd2 : (lyS S T).drop a = (u :: r.map (·.2)).flatMap (lyS S) ++ rest := hd2
        obtain ⟨i1, j1⟩ := fl_drop hd1 sp
        obtain ⟨i2, j2⟩ := fl_drop hd2 su
        have k1 := fl_kids hd1 sp
        have k2 := fl_kids hd2 su
        have hk9 := (List.getElem?_eq_some_iff.mp i1).1
        have ha9 := (List.getElem?_eq_some_iff.mp i2).1
        have q1 := (hA.1 p hp).1
        have q2 := (hA.1 u hu).1
        have q5 := (hA.1 u hu).2.2.2.2.1
        have r1 := hA.2 p
        have r2 := hA.2 u
        have hlu := lyS_len hT hu
        have hsp : 0 ≤ sSg S p ∧ sSg S p < 206 := by unfold shp at sp; omega
        have hr9 : ∀ q ∈ r, q.1 < sN S ∧ q.2 < sN S := fun q hq => hall q (List.mem_cons_of_mem _ hq)
        rw [fitL_c] at hR
        refine xr_iload C d_Md_matches_38 hq5 ?_
        refine xr_iload_n C 3 d_Md_matches_40 rfl hq3 ?_
        refine xz_icmp_ge (tgt := 165) C d_Md_matches_41 (by decide) (by omega) (by omega) (fun c41 => by exfalso; omega) (fun c41 => ?_)
        refine xr_aload_n C 0 d_Md_matches_44 rfl hq0 ?_
        refine xr_get (k := 29) C xg_Md_59 hw29 (by decide) rfl d_Md_matches_45 ?_
        refine xr_iload C d_Md_matches_48 hq5 ?_
        refine xj_iald (k := 46) C (k) (by omega) hw46 (by decide) (by omega) (by decide) d_Md_matches_50 ?_
        refine xr_eqz (y := (p : Int)) (hDg k p i1) ?_
        refine xr_istore C d_Md_matches_51 (by decide) ?_
        refine xr_aload_n C 0 d_Md_matches_53 rfl hq0 ?_
        refine xr_get (k := 29) C xg_Md_53 hw29 (by decide) rfl d_Md_matches_54 ?_
        refine xr_iload C d_Md_matches_57 hq4 ?_
        refine xj_iald (k := 44) C (a) (by omega) hw44 (by decide) (by omega) (by decide) d_Md_matches_59 ?_
        refine xr_eqz (y := (u : Int)) (hDZ a u i2) ?_
        refine xr_istore C d_Md_matches_60 (by decide) ?_
        refine xr_aload_n C 0 d_Md_matches_62 rfl hq0 ?_
        refine xr_get (k := 29) C xg_Md_7 hw29 (by decide) rfl d_Md_matches_63 ?_
        refine xr_iload C d_Md_matches_66 rfl ?_
        refine xj_iald (k := 30) C (p) (by omega) hw30 (by decide) (by omega) (by decide) d_Md_matches_68 ?_
        refine xr_sipush C d_Md_matches_69 (by decide) ?_
        refine xz_icmp_lt (tgt := 137) C d_Md_matches_72 (by decide) (by omega) (by omega) (fun c72 => ?_) (fun c72 => ?_)
        · skip
          have hh : sSg S p < 200 := by omega
          refine xr_aload_n C 0 d_Md_matches_137 rfl hq0 ?_
          refine xr_get (k := 29) C xg_Md_7 hw29 (by decide) rfl d_Md_matches_138 ?_
          refine xr_iload C d_Md_matches_141 rfl ?_
          refine xj_iald (k := 30) C (p) (by omega) hw30 (by decide) (by omega) (by decide) d_Md_matches_143 ?_
          refine xr_aload_n C 0 d_Md_matches_144 rfl hq0 ?_
          refine xr_get (k := 29) C xg_Md_7 hw29 (by decide) rfl d_Md_matches_145 ?_
          refine xr_iload C d_Md_matches_148 rfl ?_
          refine xj_iald (k := 30) C (u) (by omega) hw30 (by decide) (by omega) (by decide) d_Md_matches_150 ?_
          refine xz_icmp_eq (tgt := 156) C d_Md_matches_151 (by decide) (by omega) (by omega) (fun c151 => ?_) (fun c151 => ?_)
          · skip
            have hsg : sSg S p = sSg S u := by omega
            refine xr_iinc C d_Md_matches_156 (by decide) hq4 ?_
            refine xr_iinc C d_Md_matches_159 (by decide) hq5 ?_
            refine xr_goto (tgt := 38) C d_Md_matches_162 (by decide) ?_
            first
              | (have hgo := hgo
                 rw [hgo] at hR
                 exact ih (k + 1) (a + (lyS S u).length) r (va_up β (sSg S p - 200).toNat (u : Int)) (va_up f (sSg S p - 200).toNat (u : Int)) _ _ (by omega) (by omega) j1 ⟨rest, j2⟩ hr9 (fun h => by unfold va_up; split; omega; exact hβ h) (fun h h6 => by unfold va_up; split; rfl; exact hag h h6) hR rfl hw46 hw47 (fun j x y z => (va_ne z).trans (hfr j x y z)) hq0 hq3 rfl rfl)
              | (have hsg := hsg
                 by_cases hlf : 100 ≤ sSg S p
                 · rw [fit_0 hh hsg hlf] at hR
                   exact ih (k + 1) (a + 1) r β f _ _ (by omega) (by omega) (k1.1 hlf) ⟨rest, k2.1 (by omega)⟩ hr9 hβ hag hR hw48 hw46 hw47 hfr hq0 hq3 rfl rfl
                 · unfold shp at sp su
                   rcases Int.lt_or_le (sSg S p) 6 with h6 | h6
                   · rw [fit_1 hsg h6 (by omega)] at hR
                     exact ih (k + 1) (a + 1) (((sFs S p).toNat, (sFs S u).toNat) :: r) β f _ _ (by omega) (by omega) (k1.2.1 h6) ⟨rest, k2.2.1 (by omega)⟩ (fun q hq => by
                       rcases List.mem_cons.mp hq with rfl | hq
                       · exact ⟨by show (sFs S p).toNat < sN S; omega, by show (sFs S u).toNat < sN S; omega⟩
                       · exact hr9 q hq) hβ hag hR hw48 hw46 hw47 hfr hq0 hq3 rfl rfl
                   · rw [fit_2 hsg h6 (by omega) (by omega) (by omega), Option.bind_assoc] at hR
                     exact ih (k + 1) (a + 1) (((sFs S p).toNat, (sFs S u).toNat) :: ((sSn S p).toNat, (sSn S u).toNat) :: r) β f _ _ (by omega) (by omega) (k1.2.2 h6 (by omega)) ⟨rest, k2.2.2 (by omega) (by omega)⟩ (fun q hq => by
                       rcases List.mem_cons.mp hq with rfl | hq
                       · exact ⟨by show (sFs S p).toNat < sN S; omega, by show (sFs S u).toNat < sN S; omega⟩
                       · rcases List.mem_cons.mp hq with rfl | hq
                         · exact ⟨by show (sSn S p).toNat < sN S; omega, by show (sSn S u).toNat < sN S; omega⟩
                         · exact hr9 q hq) hβ hag hR hw48 hw46 hw47 hfr hq0 hq3 rfl rfl)
          · skip
            have hno : fitS S p u β = none := fit_ne hh (by omega)
            refine xr_iconst C d_Md_matches_154 ?_
            exact xr_zret C E (by omega) ⟨rfl, rfl, _, rfl, by rw [← hR, hno]; rfl, ⟨f, hw48, fun b hb => by rw [← hR, hno] at hb; cases hb⟩, ⟨g, hw46⟩, hw47, hfr⟩ (by decide) (by decide) d_Md_matches_155
        · skip
          have hh : 200 ≤ sSg S p := by omega
          have hb9 := hβ (sSg S p - 200).toNat
          have hg9 := hag (sSg S p - 200).toNat (by omega)
          have hfe := fit_h (t := u) (β := β) hh
          have hl1 : lyS S p = [p] := by unfold shp at sp; exact ly_0 (by omega) (by omega)
          rw [hl1, List.length_singleton] at j1
          refine xr_aload_n C 0 d_Md_matches_75 rfl hq0 ?_
          refine xr_get (k := 29) C xg_Md_7 hw29 (by decide) rfl d_Md_matches_76 ?_
          refine xr_iload C d_Md_matches_79 rfl ?_
          refine xj_iald (k := 30) C (p) (by omega) hw30 (by decide) (by omega) (by decide) d_Md_matches_81 ?_
          refine xr_sipush C d_Md_matches_82 (by decide) ?_
          refine xz_isub C d_Md_matches_85 ?_
          refine xr_eqz (y := (((sSg S p - 200).toNat : Nat) : Int)) (by omega) ?_
          refine xr_istore C d_Md_matches_86 (by decide) ?_
          refine xr_aload_n C 0 d_Md_matches_88 rfl hq0 ?_
          refine xr_get (k := 29) C xg_Md_65 hw29 (by decide) rfl d_Md_matches_89 ?_
          refine xr_iload C d_Md_matches_92 rfl ?_
          refine xj_iald (k := 48) C ((sSg S p - 200).toNat) (by omega) hw48 (by decide) (by omega) (by decide) d_Md_matches_94 ?_
          refine xr_iconst C d_Md_matches_95 ?_
          refine xz_icmp_eq (tgt := 113) C d_Md_matches_96 (by decide) (by omega) (by omega) (fun c96 => ?_) (fun c96 => ?_)
          · skip
            have hgo : fitS S p u β = some (va_up β (sSg S p - 200).toNat (u : Int)) := by rw [hfe, if_pos (by omega)]
            refine xr_aload_n C 0 d_Md_matches_113 rfl hq0 ?_
            refine xr_get (k := 29) C xg_Md_65 hw29 (by decide) rfl d_Md_matches_114 ?_
            refine xr_iload C d_Md_matches_117 rfl ?_
            refine xr_iload C d_Md_matches_119 rfl ?_
            refine xj_iast (k := 48) C ((sSg S p - 200).toNat) (by omega) hw48 (by decide) (by omega) (by decide) d_Md_matches_121 ?_
            refine xr_iload C d_Md_matches_122 hq4 ?_
            refine xr_aload_n C 0 d_Md_matches_124 rfl hq0 ?_
            refine xr_get (k := 29) C xg_Md_22 hw29 (by decide) rfl d_Md_matches_125 ?_
            refine xr_iload C d_Md_matches_128 rfl ?_
            refine xj_iald (k := 34) C (u) (by omega) hw34 (by decide) (by omega) (by decide) d_Md_matches_130 ?_
            refine xz_iadd C d_Md_matches_131 ?_
            refine xr_eqz (y := ((a + (lyS S u).length : Nat) : Int)) (by omega) ?_
            refine xr_istore C d_Md_matches_132 (by decide) ?_
            refine xr_goto (tgt := 159) C d_Md_matches_134 (by decide) ?_
            refine xr_iinc C d_Md_matches_159 (by decide) hq5 ?_
            refine xr_goto (tgt := 38) C d_Md_matches_162 (by decide) ?_
            first
              | (have hgo := hgo
                 rw [hgo] at hR
                 exact ih (k + 1) (a + (lyS S u).length) r (va_up β (sSg S p - 200).toNat (u : Int)) (va_up f (sSg S p - 200).toNat (u : Int)) _ _ (by omega) (by omega) j1 ⟨rest, j2⟩ hr9 (fun h => by unfold va_up; split; omega; exact hβ h) (fun h h6 => by unfold va_up; split; rfl; exact hag h h6) hR rfl hw46 hw47 (fun j x y z => (va_ne z).trans (hfr j x y z)) hq0 hq3 rfl rfl)
              | (have hsg := hsg
                 by_cases hlf : 100 ≤ sSg S p
                 · rw [fit_0 hh hsg hlf] at hR
                   exact ih (k + 1) (a + 1) r β f _ _ (by omega) (by omega) (k1.1 hlf) ⟨rest, k2.1 (by omega)⟩ hr9 hβ hag hR hw48 hw46 hw47 hfr hq0 hq3 rfl rfl
                 · unfold shp at sp su
                   rcases Int.lt_or_le (sSg S p) 6 with h6 | h6
                   · rw [fit_1 hsg h6 (by omega)] at hR
                     exact ih (k + 1) (a + 1) (((sFs S p).toNat, (sFs S u).toNat) :: r) β f _ _ (by omega) (by omega) (k1.2.1 h6) ⟨rest, k2.2.1 (by omega)⟩ (fun q hq => by
                       rcases List.mem_cons.mp hq with rfl | hq
                       · exact ⟨by show (sFs S p).toNat < sN S; omega, by show (sFs S u).toNat < sN S; omega⟩
                       · exact hr9 q hq) hβ hag hR hw48 hw46 hw47 hfr hq0 hq3 rfl rfl
                   · rw [fit_2 hsg h6 (by omega) (by omega) (by omega), Option.bind_assoc] at hR
                     exact ih (k + 1) (a + 1) (((sFs S p).toNat, (sFs S u).toNat) :: ((sSn S p).toNat, (sSn S u).toNat) :: r) β f _ _ (by omega) (by omega) (k1.2.2 h6 (by omega)) ⟨rest, k2.2.2 (by omega) (by omega)⟩ (fun q hq => by
                       rcases List.mem_cons.mp hq with rfl | hq
                       · exact ⟨by show (sFs S p).toNat < sN S; omega, by show (sFs S u).toNat < sN S; omega⟩
                       · rcases List.mem_cons.mp hq with rfl | hq
                         · exact ⟨by show (sSn S p).toNat < sN S; omega, by show (sSn S u).toNat < sN S; omega⟩
                         · exact hr9 q hq) hβ hag hR hw48 hw46 hw47 hfr hq0 hq3 rfl rfl)
          · skip
            refine xr_aload_n C 0 d_Md_matches_99 rfl hq0 ?_
            refine xr_get (k := 29) C xg_Md_65 hw29 (by decide) rfl d_Md_matches_100 ?_
            refine xr_iload C d_Md_matches_103 rfl ?_
            refine xj_iald (k := 48) C ((sSg S p - 200).toNat) (by omega) hw48 (by decide) (by omega) (by decide) d_Md_matches_105 ?_
            refine xr_iload C d_Md_matches_106 rfl ?_
            refine xz_icmp_eq (tgt := 113) C d_Md_matches_108 (by decide) (by omega) (by omega) (fun c108 => ?_) (fun c108 => ?_)
            · skip
              have hgo : fitS S p u β = some (va_up β (sSg S p - 200).toNat (u : Int)) := by
                rw [hfe, if_neg (by omega), if_pos (by omega)]
                congr 1
                funext i
                unfold va_up
                split
                · rename_i e; rw [e]; omega
                · rfl
              refine xr_aload_n C 0 d_Md_matches_113 rfl hq0 ?_
              refine xr_get (k := 29) C xg_Md_65 hw29 (by decide) rfl d_Md_matches_114 ?_
              refine xr_iload C d_Md_matches_117 rfl ?_
              refine xr_iload C d_Md_matches_119 rfl ?_
              refine xj_iast (k := 48) C ((sSg S p - 200).toNat) (by omega) hw48 (by decide) (by omega) (by decide) d_Md_matches_121 ?_
              refine xr_iload C d_Md_matches_122 hq4 ?_
              refine xr_aload_n C 0 d_Md_matches_124 rfl hq0 ?_
              refine xr_get (k := 29) C xg_Md_22 hw29 (by decide) rfl d_Md_matches_125 ?_
              refine xr_iload C d_Md_matches_128 rfl ?_
              refine xj_iald (k := 34) C (u) (by omega) hw34 (by decide) (by omega) (by decide) d_Md_matches_130 ?_
              refine xz_iadd C d_Md_matches_131 ?_
              refine xr_eqz (y := ((a + (lyS S u).length : Nat) : Int)) (by omega) ?_
              refine xr_istore C d_Md_matches_132 (by decide) ?_
              refine xr_goto (tgt := 159) C d_Md_matches_134 (by decide) ?_
              refine xr_iinc C d_Md_matches_159 (by decide) hq5 ?_
              refine xr_goto (tgt := 38) C d_Md_matches_162 (by decide) ?_
              first
                | (have hgo := hgo
                   rw [hgo] at hR
                   exact ih (k + 1) (a + (lyS S u).length) r (va_up β (sSg S p - 200).toNat (u : Int)) (va_up f (sSg S p - 200).toNat (u : Int)) _ _ (by omega) (by omega) j1 ⟨rest, j2⟩ hr9 (fun h => by unfold va_up; split; omega; exact hβ h) (fun h h6 => by unfold va_up; split; rfl; exact hag h h6) hR rfl hw46 hw47 (fun j x y z => (va_ne z).trans (hfr j x y z)) hq0 hq3 rfl rfl)
                | (have hsg := hsg
                   by_cases hlf : 100 ≤ sSg S p
                   · rw [fit_0 hh hsg hlf] at hR
                     exact ih (k + 1) (a + 1) r β f _ _ (by omega) (by omega) (k1.1 hlf) ⟨rest, k2.1 (by omega)⟩ hr9 hβ hag hR hw48 hw46 hw47 hfr hq0 hq3 rfl rfl
                   · unfold shp at sp su
                     rcases Int.lt_or_le (sSg S p) 6 with h6 | h6
                     · rw [fit_1 hsg h6 (by omega)] at hR
                       exact ih (k + 1) (a + 1) (((sFs S p).toNat, (sFs S u).toNat) :: r) β f _ _ (by omega) (by omega) (k1.2.1 h6) ⟨rest, k2.2.1 (by omega)⟩ (fun q hq => by
                         rcases List.mem_cons.mp hq with rfl | hq
                         · exact ⟨by show (sFs S p).toNat < sN S; omega, by show (sFs S u).toNat < sN S; omega⟩
                         · exact hr9 q hq) hβ hag hR hw48 hw46 hw47 hfr hq0 hq3 rfl rfl
                     · rw [fit_2 hsg h6 (by omega) (by omega) (by omega), Option.bind_assoc] at hR
                       exact ih (k + 1) (a + 1) (((sFs S p).toNat, (sFs S u).toNat) :: ((sSn S p).toNat, (sSn S u).toNat) :: r) β f _ _ (by omega) (by omega) (k1.2.2 h6 (by omega)) ⟨rest, k2.2.2 (by omega) (by omega)⟩ (fun q hq => by
                         rcases List.mem_cons.mp hq with rfl | hq
                         · exact ⟨by show (sFs S p).toNat < sN S; omega, by show (sFs S u).toNat < sN S; omega⟩
                         · rcases List.mem_cons.mp hq with rfl | hq
                           · exact ⟨by show (sSn S p).toNat < sN S; omega, by show (sSn S u).toNat < sN S; omega⟩
                           · exact hr9 q hq) hβ hag hR hw48 hw46 hw47 hfr hq0 hq3 rfl rfl)
            · skip
              have hno : fitS S p u β = none := by rw [hfe, if_neg (by omega), if_neg (by omega)]
              refine xr_iconst C d_Md_matches_111 ?_
              exact xr_zret C E (by omega) ⟨rfl, rfl, _, rfl, by rw [← hR, hno]; rfl, ⟨f, hw48, fun b hb => by rw [← hR, hno] at hb; cases hb⟩, ⟨g, hw46⟩, hw47, hfr⟩ (by decide) (by decide) d_Md_matches_112
  have lp0 : ∀ (m i : Nat) (w1 : Nat → va_E) (f : Nat → Int) (lv : Nat → Option Value), 7 ≤ i + m → i ≤ 6 → w1 48 = xIA (cA 0) 6 f → (∀ h, h < i → f h = -1) → (∀ k, k ≠ 48 → w1 k = w k) → lv 0 = some (.ref (ad 29)) → lv 1 = some (.int (zI (l : Int))) → lv 2 = some (.int (zI (pos : Int))) → lv 3 = some (.int (zI (i : Int))) → XW G 56 ad w1 0 0 2 lv [] := by
    intro m
    induction m with
    | zero => intro i w1 f lv h1 h2; exact absurd h1 (by omega)
    | succ m ih =>
      intro i w1 f lv h1 h2 hw48 hf0 hfr hq0 hq1 hq2 hq3
      have hw29 := (hfr 29 (by decide)).trans hw29
      have hw46 := (hfr 46 (by decide)).trans hw46
      have hw47 := (hfr 47 (by decide)).trans hw47
      refine xr_iload_n C 3 d_Md_matches_2 rfl hq3 ?_
      refine xr_bipush C d_Md_matches_3 (by decide) ?_
      refine xz_icmp_ge (tgt := 21) C d_Md_matches_5 (by decide) (by omega) (by omega) (fun c5 => ?_) (fun c5 => ?_)
      · skip
        refine xr_aload_n C 0 d_Md_matches_21 rfl hq0 ?_
        refine xr_iload_n C 1 d_Md_matches_22 rfl hq1 ?_
        refine xr_aload_n C 0 d_Md_matches_23 rfl hq0 ?_
        refine xr_get (k := 29) C xg_Md_59 hw29 (by decide) rfl d_Md_matches_24 ?_
        refine xr_iconst C d_Md_matches_27 ?_
        show XW _ _ _ _ _ _ _ _ (.int (zI (xb false)) :: _)
        refine xr_callV (k9 := 29) C (m_Md_lay_46 (w := w1) (t := l) (mt_fr hMT (fun k a b => hfr k (by omega))) hT hl hw47 hw46) xm_Md_117 x2_Md_lay hw29 (by decide) rfl (by decide) (by decide) (Nat.le_of_ble_eq_true rfl) rfl d_Md_matches_28 (fun En n9 ad9 w9 hx9 => hx9.elim) (fun v n9 ad9 w9 hp => ?_)
        obtain ⟨rfl, rfl, z, rfl, rfl, td, g9, hw47', hw46', hfr', hDg⟩ := hp
        show XW _ _ _ _ _ _ 31 _ (_ :: _)
        refine xr_istore_n C 3 d_Md_matches_31 rfl (by decide) ?_
        refine xr_iload_n C 2 d_Md_matches_32 rfl hq2 ?_
        refine xr_istore C d_Md_matches_33 (by decide) ?_
        refine xr_iconst C d_Md_matches_35 ?_
        refine xr_istore C d_Md_matches_36 (by decide) ?_
        obtain ⟨rest, hrest⟩ := ly_sub hT T hTN pos t hpos
        exact lp g9 hDg ((lyS S l).length + 1) 0 pos [(l, t)] (fun _ => -1) f _ _ (by omega) (by omega) (by simp) ⟨rest, by simp [hrest]⟩ (fun q hq => by rw [List.mem_singleton.mp hq]; exact ⟨hl, ly_mem hT hTN hpos⟩) (fun h => ⟨by omega, by omega⟩) (fun h h6 => hf0 h (by omega)) (by rw [fitL_c]; unfold mtS; cases fitS S l t (fun _ => -1) <;> rfl) ((hfr' 48 (by decide) (by decide)).trans hw48) hw46' ⟨td, hw47'⟩ (fun k a b c => (hfr' k b a).trans (hfr k c)) hq0 rfl rfl rfl
      · skip
        refine xr_aload_n C 0 d_Md_matches_8 rfl hq0 ?_
        refine xr_get (k := 29) C xg_Md_65 hw29 (by decide) rfl d_Md_matches_9 ?_
        refine xr_iload_n C 3 d_Md_matches_12 rfl hq3 ?_
        refine xr_iconst C d_Md_matches_13 ?_
        refine xj_iast (k := 48) C (i) (by omega) hw48 (by decide) (by omega) (by decide) d_Md_matches_14 ?_
        refine xr_iinc C d_Md_matches_15 (by decide) hq3 ?_
        refine xr_goto (tgt := 2) C d_Md_matches_18 (by decide) ?_
        exact ih (i + 1) _ _ _ (by omega) (by omega) rfl (fun h hh => by
          by_cases e : h = i
          · rw [e, va_eq]
          · rw [va_ne e]; exact hf0 h (by omega)) (fun k a => (va_ne a).trans (hfr k a)) hq0 hq1 hq2 rfl
  refine xr_iconst C d_Md_matches_0 ?_
  refine xr_istore_n C 3 d_Md_matches_1 rfl (by decide) ?_
  exact lp0 7 0 _ f0 _ (by omega) (by omega) hw48 (fun h hh => by omega) (fun k _ => rfl) rfl rfl rfl rfl
