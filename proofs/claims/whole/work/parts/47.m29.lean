theorem xr_name2 {G : xG} {n : Nat} {ad : Nat → Nat} {w : Nat → va_E} {a b pc : Nat} {lv : Nat → Option Value} {st : List Value} (K : ∀ (ad1 : Nat → Nat) (w1 : Nat → va_E), ad1 = ad → w1 = w → XW G n ad1 w1 a b pc lv st) : XW G n ad w a b pc lv st := K ad w rfl rfl
section XQ
variable {G : xG} {L : Launch} {D : va_G} {cA : Nat → ClassId} {base : Nat} {cc : ByteArray} {nL : Nat} {own : String} {R : Room}
variable {n : Nat} {ad : Nat → Nat} {w : Nat → va_E} {a b pc : Nat} {lv : Nat → Option Value} {st : List Value}
theorem xr_getq (C : XC G L D cA base cc nL own R) {index ci fi k q : Nat} {fs : List Value} {v : Value} (hq : ad k = q) (F : xFldR own index ci fi) (hw : w k = xOb ci fs) (hk : k < n) (hv : fs[fi]? = some v) (d : decode cc pc = .ok (.getfield index, 3))
    (K : XW G n ad w a b (pc + 3) lv (v :: st)) : XW G n ad w a b pc lv (.ref q :: st) := by subst hq; exact xr_get C F hw hk hv d K
theorem xr_putFq (C : XC G L D cA base cc nL own R) (hin : XIn G) {index ci fi k q : Nat} {ty : FieldType} {fs : List Value} {v : Value} (hq : ad k = q) (F : xFld own index ci fi true ty) (hw : w k = xOb ci fs) (hk : k < n) (hn : narrow ty v = v) (hf : fits ty v = true) (hlt : fi < fs.length) (d : decode cc pc = .ok (.putfield index, 3))
    (K : XW G n ad (va_up w k (xOb ci (fs.set fi v))) a b (pc + 3) lv st) : XW G n ad w a b pc lv (v :: .ref q :: st) := by subst hq; exact xr_putF C hin F hw hk hn hf hlt d K
theorem xz_iastq (C : XC G L D cA base cc nL own R) {k N q : Nat} {f : Nat → Int} {i x : Int} (hq : ad k = q) (hw : w k = xIA (cA 0) N f) (hk : k < n) (hi : 0 ≤ i ∧ i < N) (hN : N < 2147483648) (d : decode cc pc = .ok (.iastore, 1))
    (K : XW G n ad (va_up w k (xIA (cA 0) N (va_up f i.toNat x))) a b (pc + 1) lv st) : XW G n ad w a b pc lv (.int (zI x) :: .int (zI i) :: .ref q :: st) := by subst hq; exact xz_iast C hw hk hi hN d K
end XQ
set_option maxHeartbeats 4000000 in
set_option maxRecDepth 100000 in
theorem m_Md_init {L : Launch} {D : va_G} {cA : Nat → ClassId} {base : Nat} {ad : Nat → Nat} {w : Nat → va_E} (hwS : w 29 = xOb 5 [.int (zI 0), .null, .null, .null, .null, .null, .null, .null, .int (zI 0), .null, .null, .null, .null, .null, .int (zI 0), .int (zI 0), .null, .int (zI 0), .int (zI 0), .null, .int (zI 0), .int (zI 0), .int (zI 0), .null, .null, .null, .null, .null, .null, .null, .null, .null, .null, .null, .int (zI 0)]) : XM L D cA base y_Md_init c_Md_init 2 none (xrm 1 25 11014) [.ref (ad 29)] 30 ad w (fun v n' ad' w' => n' = 55 ∧ v = none ∧ (∀ k, k < 30 → ad' k = ad k) ∧ (∀ k, k < 29 → w' k = w k) ∧ w' 29 = mdO ad' 0 0 0 0 0 0 0 false false false ∧ w' 30 = xIA (cA 0) 300 (fun _ => 0) ∧ w' 31 = xIA (cA 0) 300 (fun _ => 0) ∧ w' 32 = xIA (cA 0) 300 (fun _ => 0) ∧ w' 33 = xIA (cA 0) 300 (fun _ => 0) ∧ w' 34 = xIA (cA 0) 300 (fun _ => 0) ∧ w' 35 = xIA (cA 0) 300 (fun _ => 0) ∧ w' 36 = xIA (cA 0) 300 (fun _ => 0) ∧ w' 37 = xIA (cA 0) 16 (fun _ => 0) ∧ w' 38 = xIA (cA 0) 16 (fun _ => 0) ∧ w' 39 = xIA (cA 0) 16 (fun _ => 0) ∧ w' 40 = xIA (cA 1) 16 (fun _ => 0) ∧ w' 42 = xIA (cA 0) 800 (fun _ => 0) ∧ w' 43 = xIA (cA 0) 800 (fun _ => 0) ∧ w' 44 = xIA (cA 0) 1001 (fun _ => 0) ∧ w' 45 = xIA (cA 0) 1001 (fun _ => 0) ∧ w' 46 = xIA (cA 0) 1001 (fun _ => 0) ∧ w' 47 = xIA (cA 0) 1100 (fun _ => 0) ∧ w' 48 = xIA (cA 0) 6 (fun _ => 0) ∧ w' 49 = xIA (cA 0) 1100 (fun _ => 0) ∧ w' 50 = xIA (cA 0) 6 (fun _ => 0) ∧ w' 51 = xIA (cA 0) 6 (fun _ => 0) ∧ w' 52 = xIA (cA 1) 1001 (fun _ => 0) ∧ w' 53 = xIA (cA 0) 1002 (fun _ => 0) ∧ w' 54 = xIA (cA 1) 16 (fun _ => 0) ∧ ∃ f : Nat → Int, w' 41 = xIA (cA 0) 10 f ∧ (∀ j, j < 10 → f j = 2) ∧ ∀ j, 10 ≤ j → f j = 0) xF := by
  refine xm_of (by decide +kernel) (by simp [Value.category]) (Nat.le_of_ble_eq_true rfl) (fun G C E hI => ?_)
  refine xr_aload_n C 0 d_Md_init_0 rfl rfl ?_
  refine xr_objInit C xobj_Md_1 (by decide) (by decide) d_Md_init_1 ?_
  have s29 := hwS
  have p29 : ad 29 = ad 29 := rfl
  have fA : ∀ j, j < 30 → ad j = ad j := fun _ _ => rfl
  have fW : ∀ j, j < 29 → w j = w j := fun _ _ => rfl
  refine xr_aload_n C 0 d_Md_init_4 rfl rfl ?_
  refine xr_sipush C d_Md_init_5 (by decide) ?_
  refine xz_newi C (Or.inl ⟨rfl, rfl⟩) xw_aI (by decide) (by decide) d_Md_init_8 (fun q30 => ?_)
  refine xr_putFq (k := 29) C (hI rfl) ((va_ne (by decide)).trans p29) xf_Md_7 ((va_ne (by decide)).trans s29) (by decide) rfl rfl (Nat.le_of_ble_eq_true rfl) d_Md_init_10 ?_
  refine xr_name2 (fun ad1 w1 ea ew => ?_)
  replace s29 : w1 29 = xOb 5 [.int (zI 0), .ref q30, .null, .null, .null, .null, .null, .null, .int (zI 0), .null, .null, .null, .null, .null, .int (zI 0), .int (zI 0), .null, .int (zI 0), .int (zI 0), .null, .int (zI 0), .int (zI 0), .int (zI 0), .null, .null, .null, .null, .null, .null, .null, .null, .null, .null, .null, .int (zI 0)] := (congrFun ew 29).trans va_eq
  have x30 : w1 30 = xIA (cA 0) 300 (fun _ => 0) := (congrFun ew 30).trans ((va_ne (by decide)).trans va_eq)
  have p30 : ad1 30 = q30 := (congrFun ea 30).trans va_eq
  replace p29 : ad1 29 = ad 29 := (congrFun ea 29).trans ((va_ne (by decide)).trans p29)
  replace fA : ∀ j, j < 30 → ad1 j = ad j := fun j hj => (congrFun ea j).trans ((va_ne (Nat.ne_of_lt (Nat.lt_of_lt_of_le hj (by decide)))).trans (fA j hj))
  replace fW : ∀ j, j < 29 → w1 j = w j := fun j hj => (congrFun ew j).trans ((va_ne (Nat.ne_of_lt hj)).trans ((va_ne (Nat.ne_of_lt (Nat.lt_of_lt_of_le hj (by decide)))).trans (fW j hj)))
  clear ea ew
  refine xr_aload_n C 0 d_Md_init_13 rfl rfl ?_
  refine xr_sipush C d_Md_init_14 (by decide) ?_
  refine xz_newi C (Or.inl ⟨rfl, rfl⟩) xw_aI (by decide) (by decide) d_Md_init_17 (fun q31 => ?_)
  refine xr_putFq (k := 29) C (hI rfl) ((va_ne (by decide)).trans p29) xf_Md_13 ((va_ne (by decide)).trans s29) (by decide) rfl rfl (Nat.le_of_ble_eq_true rfl) d_Md_init_19 ?_
  refine xr_name2 (fun ad2 w2 ea ew => ?_)
  replace s29 : w2 29 = xOb 5 [.int (zI 0), .ref q30, .ref q31, .null, .null, .null, .null, .null, .int (zI 0), .null, .null, .null, .null, .null, .int (zI 0), .int (zI 0), .null, .int (zI 0), .int (zI 0), .null, .int (zI 0), .int (zI 0), .int (zI 0), .null, .null, .null, .null, .null, .null, .null, .null, .null, .null, .null, .int (zI 0)] := (congrFun ew 29).trans va_eq
  replace x30 := (congrFun ew 30).trans ((va_ne (by decide)).trans ((va_ne (by decide)).trans x30))
  replace p30 := (congrFun ea 30).trans ((va_ne (by decide)).trans p30)
  have x31 : w2 31 = xIA (cA 0) 300 (fun _ => 0) := (congrFun ew 31).trans ((va_ne (by decide)).trans va_eq)
  have p31 : ad2 31 = q31 := (congrFun ea 31).trans va_eq
  replace p29 : ad2 29 = ad 29 := (congrFun ea 29).trans ((va_ne (by decide)).trans p29)
  replace fA : ∀ j, j < 30 → ad2 j = ad j := fun j hj => (congrFun ea j).trans ((va_ne (Nat.ne_of_lt (Nat.lt_of_lt_of_le hj (by decide)))).trans (fA j hj))
  replace fW : ∀ j, j < 29 → w2 j = w j := fun j hj => (congrFun ew j).trans ((va_ne (Nat.ne_of_lt hj)).trans ((va_ne (Nat.ne_of_lt (Nat.lt_of_lt_of_le hj (by decide)))).trans (fW j hj)))
  clear ea ew
  refine xr_aload_n C 0 d_Md_init_22 rfl rfl ?_
  refine xr_sipush C d_Md_init_23 (by decide) ?_
  refine xz_newi C (Or.inl ⟨rfl, rfl⟩) xw_aI (by decide) (by decide) d_Md_init_26 (fun q32 => ?_)
  refine xr_putFq (k := 29) C (hI rfl) ((va_ne (by decide)).trans p29) xf_Md_16 ((va_ne (by decide)).trans s29) (by decide) rfl rfl (Nat.le_of_ble_eq_true rfl) d_Md_init_28 ?_
  refine xr_name2 (fun ad3 w3 ea ew => ?_)
  replace s29 : w3 29 = xOb 5 [.int (zI 0), .ref q30, .ref q31, .ref q32, .null, .null, .null, .null, .int (zI 0), .null, .null, .null, .null, .null, .int (zI 0), .int (zI 0), .null, .int (zI 0), .int (zI 0), .null, .int (zI 0), .int (zI 0), .int (zI 0), .null, .null, .null, .null, .null, .null, .null, .null, .null, .null, .null, .int (zI 0)] := (congrFun ew 29).trans va_eq
  replace x30 := (congrFun ew 30).trans ((va_ne (by decide)).trans ((va_ne (by decide)).trans x30))
  replace p30 := (congrFun ea 30).trans ((va_ne (by decide)).trans p30)
  replace x31 := (congrFun ew 31).trans ((va_ne (by decide)).trans ((va_ne (by decide)).trans x31))
  replace p31 := (congrFun ea 31).trans ((va_ne (by decide)).trans p31)
  have x32 : w3 32 = xIA (cA 0) 300 (fun _ => 0) := (congrFun ew 32).trans ((va_ne (by decide)).trans va_eq)
  have p32 : ad3 32 = q32 := (congrFun ea 32).trans va_eq
  replace p29 : ad3 29 = ad 29 := (congrFun ea 29).trans ((va_ne (by decide)).trans p29)
  replace fA : ∀ j, j < 30 → ad3 j = ad j := fun j hj => (congrFun ea j).trans ((va_ne (Nat.ne_of_lt (Nat.lt_of_lt_of_le hj (by decide)))).trans (fA j hj))
  replace fW : ∀ j, j < 29 → w3 j = w j := fun j hj => (congrFun ew j).trans ((va_ne (Nat.ne_of_lt hj)).trans ((va_ne (Nat.ne_of_lt (Nat.lt_of_lt_of_le hj (by decide)))).trans (fW j hj)))
  clear ea ew
  refine xr_aload_n C 0 d_Md_init_31 rfl rfl ?_
  refine xr_sipush C d_Md_init_32 (by decide) ?_
  refine xz_newi C (Or.inl ⟨rfl, rfl⟩) xw_aI (by decide) (by decide) d_Md_init_35 (fun q33 => ?_)
  refine xr_putFq (k := 29) C (hI rfl) ((va_ne (by decide)).trans p29) xf_Md_19 ((va_ne (by decide)).trans s29) (by decide) rfl rfl (Nat.le_of_ble_eq_true rfl) d_Md_init_37 ?_
  refine xr_name2 (fun ad4 w4 ea ew => ?_)
  replace s29 : w4 29 = xOb 5 [.int (zI 0), .ref q30, .ref q31, .ref q32, .ref q33, .null, .null, .null, .int (zI 0), .null, .null, .null, .null, .null, .int (zI 0), .int (zI 0), .null, .int (zI 0), .int (zI 0), .null, .int (zI 0), .int (zI 0), .int (zI 0), .null, .null, .null, .null, .null, .null, .null, .null, .null, .null, .null, .int (zI 0)] := (congrFun ew 29).trans va_eq
  replace x30 := (congrFun ew 30).trans ((va_ne (by decide)).trans ((va_ne (by decide)).trans x30))
  replace p30 := (congrFun ea 30).trans ((va_ne (by decide)).trans p30)
  replace x31 := (congrFun ew 31).trans ((va_ne (by decide)).trans ((va_ne (by decide)).trans x31))
  replace p31 := (congrFun ea 31).trans ((va_ne (by decide)).trans p31)
  replace x32 := (congrFun ew 32).trans ((va_ne (by decide)).trans ((va_ne (by decide)).trans x32))
  replace p32 := (congrFun ea 32).trans ((va_ne (by decide)).trans p32)
  have x33 : w4 33 = xIA (cA 0) 300 (fun _ => 0) := (congrFun ew 33).trans ((va_ne (by decide)).trans va_eq)
  have p33 : ad4 33 = q33 := (congrFun ea 33).trans va_eq
  replace p29 : ad4 29 = ad 29 := (congrFun ea 29).trans ((va_ne (by decide)).trans p29)
  replace fA : ∀ j, j < 30 → ad4 j = ad j := fun j hj => (congrFun ea j).trans ((va_ne (Nat.ne_of_lt (Nat.lt_of_lt_of_le hj (by decide)))).trans (fA j hj))
  replace fW : ∀ j, j < 29 → w4 j = w j := fun j hj => (congrFun ew j).trans ((va_ne (Nat.ne_of_lt hj)).trans ((va_ne (Nat.ne_of_lt (Nat.lt_of_lt_of_le hj (by decide)))).trans (fW j hj)))
  clear ea ew
  refine xr_aload_n C 0 d_Md_init_40 rfl rfl ?_
  refine xr_sipush C d_Md_init_41 (by decide) ?_
  refine xz_newi C (Or.inl ⟨rfl, rfl⟩) xw_aI (by decide) (by decide) d_Md_init_44 (fun q34 => ?_)
  refine xr_putFq (k := 29) C (hI rfl) ((va_ne (by decide)).trans p29) xf_Md_22 ((va_ne (by decide)).trans s29) (by decide) rfl rfl (Nat.le_of_ble_eq_true rfl) d_Md_init_46 ?_
  refine xr_name2 (fun ad5 w5 ea ew => ?_)
  replace s29 : w5 29 = xOb 5 [.int (zI 0), .ref q30, .ref q31, .ref q32, .ref q33, .ref q34, .null, .null, .int (zI 0), .null, .null, .null, .null, .null, .int (zI 0), .int (zI 0), .null, .int (zI 0), .int (zI 0), .null, .int (zI 0), .int (zI 0), .int (zI 0), .null, .null, .null, .null, .null, .null, .null, .null, .null, .null, .null, .int (zI 0)] := (congrFun ew 29).trans va_eq
  replace x30 := (congrFun ew 30).trans ((va_ne (by decide)).trans ((va_ne (by decide)).trans x30))
  replace p30 := (congrFun ea 30).trans ((va_ne (by decide)).trans p30)
  replace x31 := (congrFun ew 31).trans ((va_ne (by decide)).trans ((va_ne (by decide)).trans x31))
  replace p31 := (congrFun ea 31).trans ((va_ne (by decide)).trans p31)
  replace x32 := (congrFun ew 32).trans ((va_ne (by decide)).trans ((va_ne (by decide)).trans x32))
  replace p32 := (congrFun ea 32).trans ((va_ne (by decide)).trans p32)
  replace x33 := (congrFun ew 33).trans ((va_ne (by decide)).trans ((va_ne (by decide)).trans x33))
  replace p33 := (congrFun ea 33).trans ((va_ne (by decide)).trans p33)
  have x34 : w5 34 = xIA (cA 0) 300 (fun _ => 0) := (congrFun ew 34).trans ((va_ne (by decide)).trans va_eq)
  have p34 : ad5 34 = q34 := (congrFun ea 34).trans va_eq
  replace p29 : ad5 29 = ad 29 := (congrFun ea 29).trans ((va_ne (by decide)).trans p29)
  replace fA : ∀ j, j < 30 → ad5 j = ad j := fun j hj => (congrFun ea j).trans ((va_ne (Nat.ne_of_lt (Nat.lt_of_lt_of_le hj (by decide)))).trans (fA j hj))
  replace fW : ∀ j, j < 29 → w5 j = w j := fun j hj => (congrFun ew j).trans ((va_ne (Nat.ne_of_lt hj)).trans ((va_ne (Nat.ne_of_lt (Nat.lt_of_lt_of_le hj (by decide)))).trans (fW j hj)))
  clear ea ew
  refine xr_aload_n C 0 d_Md_init_49 rfl rfl ?_
  refine xr_sipush C d_Md_init_50 (by decide) ?_
  refine xz_newi C (Or.inl ⟨rfl, rfl⟩) xw_aI (by decide) (by decide) d_Md_init_53 (fun q35 => ?_)
  refine xr_putFq (k := 29) C (hI rfl) ((va_ne (by decide)).trans p29) xf_Md_25 ((va_ne (by decide)).trans s29) (by decide) rfl rfl (Nat.le_of_ble_eq_true rfl) d_Md_init_55 ?_
  refine xr_name2 (fun ad6 w6 ea ew => ?_)
  replace s29 : w6 29 = xOb 5 [.int (zI 0), .ref q30, .ref q31, .ref q32, .ref q33, .ref q34, .ref q35, .null, .int (zI 0), .null, .null, .null, .null, .null, .int (zI 0), .int (zI 0), .null, .int (zI 0), .int (zI 0), .null, .int (zI 0), .int (zI 0), .int (zI 0), .null, .null, .null, .null, .null, .null, .null, .null, .null, .null, .null, .int (zI 0)] := (congrFun ew 29).trans va_eq
  replace x30 := (congrFun ew 30).trans ((va_ne (by decide)).trans ((va_ne (by decide)).trans x30))
  replace p30 := (congrFun ea 30).trans ((va_ne (by decide)).trans p30)
  replace x31 := (congrFun ew 31).trans ((va_ne (by decide)).trans ((va_ne (by decide)).trans x31))
  replace p31 := (congrFun ea 31).trans ((va_ne (by decide)).trans p31)
  replace x32 := (congrFun ew 32).trans ((va_ne (by decide)).trans ((va_ne (by decide)).trans x32))
  replace p32 := (congrFun ea 32).trans ((va_ne (by decide)).trans p32)
  replace x33 := (congrFun ew 33).trans ((va_ne (by decide)).trans ((va_ne (by decide)).trans x33))
  replace p33 := (congrFun ea 33).trans ((va_ne (by decide)).trans p33)
  replace x34 := (congrFun ew 34).trans ((va_ne (by decide)).trans ((va_ne (by decide)).trans x34))
  replace p34 := (congrFun ea 34).trans ((va_ne (by decide)).trans p34)
  have x35 : w6 35 = xIA (cA 0) 300 (fun _ => 0) := (congrFun ew 35).trans ((va_ne (by decide)).trans va_eq)
  have p35 : ad6 35 = q35 := (congrFun ea 35).trans va_eq
  replace p29 : ad6 29 = ad 29 := (congrFun ea 29).trans ((va_ne (by decide)).trans p29)
  replace fA : ∀ j, j < 30 → ad6 j = ad j := fun j hj => (congrFun ea j).trans ((va_ne (Nat.ne_of_lt (Nat.lt_of_lt_of_le hj (by decide)))).trans (fA j hj))
  replace fW : ∀ j, j < 29 → w6 j = w j := fun j hj => (congrFun ew j).trans ((va_ne (Nat.ne_of_lt hj)).trans ((va_ne (Nat.ne_of_lt (Nat.lt_of_lt_of_le hj (by decide)))).trans (fW j hj)))
  clear ea ew
  refine xr_aload_n C 0 d_Md_init_58 rfl rfl ?_
  refine xr_sipush C d_Md_init_59 (by decide) ?_
  refine xz_newi C (Or.inl ⟨rfl, rfl⟩) xw_aI (by decide) (by decide) d_Md_init_62 (fun q36 => ?_)
  refine xr_putFq (k := 29) C (hI rfl) ((va_ne (by decide)).trans p29) xf_Md_28 ((va_ne (by decide)).trans s29) (by decide) rfl rfl (Nat.le_of_ble_eq_true rfl) d_Md_init_64 ?_
  refine xr_name2 (fun ad7 w7 ea ew => ?_)
  replace s29 : w7 29 = xOb 5 [.int (zI 0), .ref q30, .ref q31, .ref q32, .ref q33, .ref q34, .ref q35, .ref q36, .int (zI 0), .null, .null, .null, .null, .null, .int (zI 0), .int (zI 0), .null, .int (zI 0), .int (zI 0), .null, .int (zI 0), .int (zI 0), .int (zI 0), .null, .null, .null, .null, .null, .null, .null, .null, .null, .null, .null, .int (zI 0)] := (congrFun ew 29).trans va_eq
  replace x30 := (congrFun ew 30).trans ((va_ne (by decide)).trans ((va_ne (by decide)).trans x30))
  replace p30 := (congrFun ea 30).trans ((va_ne (by decide)).trans p30)
  replace x31 := (congrFun ew 31).trans ((va_ne (by decide)).trans ((va_ne (by decide)).trans x31))
  replace p31 := (congrFun ea 31).trans ((va_ne (by decide)).trans p31)
  replace x32 := (congrFun ew 32).trans ((va_ne (by decide)).trans ((va_ne (by decide)).trans x32))
  replace p32 := (congrFun ea 32).trans ((va_ne (by decide)).trans p32)
  replace x33 := (congrFun ew 33).trans ((va_ne (by decide)).trans ((va_ne (by decide)).trans x33))
  replace p33 := (congrFun ea 33).trans ((va_ne (by decide)).trans p33)
  replace x34 := (congrFun ew 34).trans ((va_ne (by decide)).trans ((va_ne (by decide)).trans x34))
  replace p34 := (congrFun ea 34).trans ((va_ne (by decide)).trans p34)
  replace x35 := (congrFun ew 35).trans ((va_ne (by decide)).trans ((va_ne (by decide)).trans x35))
  replace p35 := (congrFun ea 35).trans ((va_ne (by decide)).trans p35)
  have x36 : w7 36 = xIA (cA 0) 300 (fun _ => 0) := (congrFun ew 36).trans ((va_ne (by decide)).trans va_eq)
  have p36 : ad7 36 = q36 := (congrFun ea 36).trans va_eq
  replace p29 : ad7 29 = ad 29 := (congrFun ea 29).trans ((va_ne (by decide)).trans p29)
  replace fA : ∀ j, j < 30 → ad7 j = ad j := fun j hj => (congrFun ea j).trans ((va_ne (Nat.ne_of_lt (Nat.lt_of_lt_of_le hj (by decide)))).trans (fA j hj))
  replace fW : ∀ j, j < 29 → w7 j = w j := fun j hj => (congrFun ew j).trans ((va_ne (Nat.ne_of_lt hj)).trans ((va_ne (Nat.ne_of_lt (Nat.lt_of_lt_of_le hj (by decide)))).trans (fW j hj)))
  clear ea ew
  refine xr_aload_n C 0 d_Md_init_67 rfl rfl ?_
  refine xr_bipush C d_Md_init_68 (by decide) ?_
  refine xz_newi C (Or.inl ⟨rfl, rfl⟩) xw_aI (by decide) (by decide) d_Md_init_70 (fun q37 => ?_)
  refine xr_putFq (k := 29) C (hI rfl) ((va_ne (by decide)).trans p29) xf_Md_31 ((va_ne (by decide)).trans s29) (by decide) rfl rfl (Nat.le_of_ble_eq_true rfl) d_Md_init_72 ?_
  refine xr_name2 (fun ad8 w8 ea ew => ?_)
  replace s29 : w8 29 = xOb 5 [.int (zI 0), .ref q30, .ref q31, .ref q32, .ref q33, .ref q34, .ref q35, .ref q36, .int (zI 0), .ref q37, .null, .null, .null, .null, .int (zI 0), .int (zI 0), .null, .int (zI 0), .int (zI 0), .null, .int (zI 0), .int (zI 0), .int (zI 0), .null, .null, .null, .null, .null, .null, .null, .null, .null, .null, .null, .int (zI 0)] := (congrFun ew 29).trans va_eq
  replace x30 := (congrFun ew 30).trans ((va_ne (by decide)).trans ((va_ne (by decide)).trans x30))
  replace p30 := (congrFun ea 30).trans ((va_ne (by decide)).trans p30)
  replace x31 := (congrFun ew 31).trans ((va_ne (by decide)).trans ((va_ne (by decide)).trans x31))
  replace p31 := (congrFun ea 31).trans ((va_ne (by decide)).trans p31)
  replace x32 := (congrFun ew 32).trans ((va_ne (by decide)).trans ((va_ne (by decide)).trans x32))
  replace p32 := (congrFun ea 32).trans ((va_ne (by decide)).trans p32)
  replace x33 := (congrFun ew 33).trans ((va_ne (by decide)).trans ((va_ne (by decide)).trans x33))
  replace p33 := (congrFun ea 33).trans ((va_ne (by decide)).trans p33)
  replace x34 := (congrFun ew 34).trans ((va_ne (by decide)).trans ((va_ne (by decide)).trans x34))
  replace p34 := (congrFun ea 34).trans ((va_ne (by decide)).trans p34)
  replace x35 := (congrFun ew 35).trans ((va_ne (by decide)).trans ((va_ne (by decide)).trans x35))
  replace p35 := (congrFun ea 35).trans ((va_ne (by decide)).trans p35)
  replace x36 := (congrFun ew 36).trans ((va_ne (by decide)).trans ((va_ne (by decide)).trans x36))
  replace p36 := (congrFun ea 36).trans ((va_ne (by decide)).trans p36)
  have x37 : w8 37 = xIA (cA 0) 16 (fun _ => 0) := (congrFun ew 37).trans ((va_ne (by decide)).trans va_eq)
  have p37 : ad8 37 = q37 := (congrFun ea 37).trans va_eq
  replace p29 : ad8 29 = ad 29 := (congrFun ea 29).trans ((va_ne (by decide)).trans p29)
  replace fA : ∀ j, j < 30 → ad8 j = ad j := fun j hj => (congrFun ea j).trans ((va_ne (Nat.ne_of_lt (Nat.lt_of_lt_of_le hj (by decide)))).trans (fA j hj))
  replace fW : ∀ j, j < 29 → w8 j = w j := fun j hj => (congrFun ew j).trans ((va_ne (Nat.ne_of_lt hj)).trans ((va_ne (Nat.ne_of_lt (Nat.lt_of_lt_of_le hj (by decide)))).trans (fW j hj)))
  clear ea ew
  refine xr_aload_n C 0 d_Md_init_75 rfl rfl ?_
  refine xr_bipush C d_Md_init_76 (by decide) ?_
  refine xz_newi C (Or.inl ⟨rfl, rfl⟩) xw_aI (by decide) (by decide) d_Md_init_78 (fun q38 => ?_)
  refine xr_putFq (k := 29) C (hI rfl) ((va_ne (by decide)).trans p29) xf_Md_34 ((va_ne (by decide)).trans s29) (by decide) rfl rfl (Nat.le_of_ble_eq_true rfl) d_Md_init_80 ?_
  refine xr_name2 (fun ad9 w9 ea ew => ?_)
  replace s29 : w9 29 = xOb 5 [.int (zI 0), .ref q30, .ref q31, .ref q32, .ref q33, .ref q34, .ref q35, .ref q36, .int (zI 0), .ref q37, .ref q38, .null, .null, .null, .int (zI 0), .int (zI 0), .null, .int (zI 0), .int (zI 0), .null, .int (zI 0), .int (zI 0), .int (zI 0), .null, .null, .null, .null, .null, .null, .null, .null, .null, .null, .null, .int (zI 0)] := (congrFun ew 29).trans va_eq
  replace x30 := (congrFun ew 30).trans ((va_ne (by decide)).trans ((va_ne (by decide)).trans x30))
  replace p30 := (congrFun ea 30).trans ((va_ne (by decide)).trans p30)
  replace x31 := (congrFun ew 31).trans ((va_ne (by decide)).trans ((va_ne (by decide)).trans x31))
  replace p31 := (congrFun ea 31).trans ((va_ne (by decide)).trans p31)
  replace x32 := (congrFun ew 32).trans ((va_ne (by decide)).trans ((va_ne (by decide)).trans x32))
  replace p32 := (congrFun ea 32).trans ((va_ne (by decide)).trans p32)
  replace x33 := (congrFun ew 33).trans ((va_ne (by decide)).trans ((va_ne (by decide)).trans x33))
  replace p33 := (congrFun ea 33).trans ((va_ne (by decide)).trans p33)
  replace x34 := (congrFun ew 34).trans ((va_ne (by decide)).trans ((va_ne (by decide)).trans x34))
  replace p34 := (congrFun ea 34).trans ((va_ne (by decide)).trans p34)
  replace x35 := (congrFun ew 35).trans ((va_ne (by decide)).trans ((va_ne (by decide)).trans x35))
  replace p35 := (congrFun ea 35).trans ((va_ne (by decide)).trans p35)
  replace x36 := (congrFun ew 36).trans ((va_ne (by decide)).trans ((va_ne (by decide)).trans x36))
  replace p36 := (congrFun ea 36).trans ((va_ne (by decide)).trans p36)
  replace x37 := (congrFun ew 37).trans ((va_ne (by decide)).trans ((va_ne (by decide)).trans x37))
  replace p37 := (congrFun ea 37).trans ((va_ne (by decide)).trans p37)
  have x38 : w9 38 = xIA (cA 0) 16 (fun _ => 0) := (congrFun ew 38).trans ((va_ne (by decide)).trans va_eq)
  have p38 : ad9 38 = q38 := (congrFun ea 38).trans va_eq
  replace p29 : ad9 29 = ad 29 := (congrFun ea 29).trans ((va_ne (by decide)).trans p29)
  replace fA : ∀ j, j < 30 → ad9 j = ad j := fun j hj => (congrFun ea j).trans ((va_ne (Nat.ne_of_lt (Nat.lt_of_lt_of_le hj (by decide)))).trans (fA j hj))
  replace fW : ∀ j, j < 29 → w9 j = w j := fun j hj => (congrFun ew j).trans ((va_ne (Nat.ne_of_lt hj)).trans ((va_ne (Nat.ne_of_lt (Nat.lt_of_lt_of_le hj (by decide)))).trans (fW j hj)))
  clear ea ew
  refine xr_aload_n C 0 d_Md_init_83 rfl rfl ?_
  refine xr_bipush C d_Md_init_84 (by decide) ?_
  refine xz_newi C (Or.inl ⟨rfl, rfl⟩) xw_aI (by decide) (by decide) d_Md_init_86 (fun q39 => ?_)
  refine xr_putFq (k := 29) C (hI rfl) ((va_ne (by decide)).trans p29) xf_Md_37 ((va_ne (by decide)).trans s29) (by decide) rfl rfl (Nat.le_of_ble_eq_true rfl) d_Md_init_88 ?_
  refine xr_name2 (fun ad10 w10 ea ew => ?_)
  replace s29 : w10 29 = xOb 5 [.int (zI 0), .ref q30, .ref q31, .ref q32, .ref q33, .ref q34, .ref q35, .ref q36, .int (zI 0), .ref q37, .ref q38, .ref q39, .null, .null, .int (zI 0), .int (zI 0), .null, .int (zI 0), .int (zI 0), .null, .int (zI 0), .int (zI 0), .int (zI 0), .null, .null, .null, .null, .null, .null, .null, .null, .null, .null, .null, .int (zI 0)] := (congrFun ew 29).trans va_eq
  replace x30 := (congrFun ew 30).trans ((va_ne (by decide)).trans ((va_ne (by decide)).trans x30))
  replace p30 := (congrFun ea 30).trans ((va_ne (by decide)).trans p30)
  replace x31 := (congrFun ew 31).trans ((va_ne (by decide)).trans ((va_ne (by decide)).trans x31))
  replace p31 := (congrFun ea 31).trans ((va_ne (by decide)).trans p31)
  replace x32 := (congrFun ew 32).trans ((va_ne (by decide)).trans ((va_ne (by decide)).trans x32))
  replace p32 := (congrFun ea 32).trans ((va_ne (by decide)).trans p32)
  replace x33 := (congrFun ew 33).trans ((va_ne (by decide)).trans ((va_ne (by decide)).trans x33))
  replace p33 := (congrFun ea 33).trans ((va_ne (by decide)).trans p33)
  replace x34 := (congrFun ew 34).trans ((va_ne (by decide)).trans ((va_ne (by decide)).trans x34))
  replace p34 := (congrFun ea 34).trans ((va_ne (by decide)).trans p34)
  replace x35 := (congrFun ew 35).trans ((va_ne (by decide)).trans ((va_ne (by decide)).trans x35))
  replace p35 := (congrFun ea 35).trans ((va_ne (by decide)).trans p35)
  replace x36 := (congrFun ew 36).trans ((va_ne (by decide)).trans ((va_ne (by decide)).trans x36))
  replace p36 := (congrFun ea 36).trans ((va_ne (by decide)).trans p36)
  replace x37 := (congrFun ew 37).trans ((va_ne (by decide)).trans ((va_ne (by decide)).trans x37))
  replace p37 := (congrFun ea 37).trans ((va_ne (by decide)).trans p37)
  replace x38 := (congrFun ew 38).trans ((va_ne (by decide)).trans ((va_ne (by decide)).trans x38))
  replace p38 := (congrFun ea 38).trans ((va_ne (by decide)).trans p38)
  have x39 : w10 39 = xIA (cA 0) 16 (fun _ => 0) := (congrFun ew 39).trans ((va_ne (by decide)).trans va_eq)
  have p39 : ad10 39 = q39 := (congrFun ea 39).trans va_eq
  replace p29 : ad10 29 = ad 29 := (congrFun ea 29).trans ((va_ne (by decide)).trans p29)
  replace fA : ∀ j, j < 30 → ad10 j = ad j := fun j hj => (congrFun ea j).trans ((va_ne (Nat.ne_of_lt (Nat.lt_of_lt_of_le hj (by decide)))).trans (fA j hj))
  replace fW : ∀ j, j < 29 → w10 j = w j := fun j hj => (congrFun ew j).trans ((va_ne (Nat.ne_of_lt hj)).trans ((va_ne (Nat.ne_of_lt (Nat.lt_of_lt_of_le hj (by decide)))).trans (fW j hj)))
  clear ea ew
  refine xr_aload_n C 0 d_Md_init_91 rfl rfl ?_
  refine xr_bipush C d_Md_init_92 (by decide) ?_
  refine xz_newi C (Or.inr ⟨rfl, rfl⟩) xw_aZ (by decide) (by decide) d_Md_init_94 (fun q40 => ?_)
  refine xr_putFq (k := 29) C (hI rfl) ((va_ne (by decide)).trans p29) xf_Md_40 ((va_ne (by decide)).trans s29) (by decide) rfl rfl (Nat.le_of_ble_eq_true rfl) d_Md_init_96 ?_
  refine xr_name2 (fun ad11 w11 ea ew => ?_)
  replace s29 : w11 29 = xOb 5 [.int (zI 0), .ref q30, .ref q31, .ref q32, .ref q33, .ref q34, .ref q35, .ref q36, .int (zI 0), .ref q37, .ref q38, .ref q39, .ref q40, .null, .int (zI 0), .int (zI 0), .null, .int (zI 0), .int (zI 0), .null, .int (zI 0), .int (zI 0), .int (zI 0), .null, .null, .null, .null, .null, .null, .null, .null, .null, .null, .null, .int (zI 0)] := (congrFun ew 29).trans va_eq
  replace x30 := (congrFun ew 30).trans ((va_ne (by decide)).trans ((va_ne (by decide)).trans x30))
  replace p30 := (congrFun ea 30).trans ((va_ne (by decide)).trans p30)
  replace x31 := (congrFun ew 31).trans ((va_ne (by decide)).trans ((va_ne (by decide)).trans x31))
  replace p31 := (congrFun ea 31).trans ((va_ne (by decide)).trans p31)
  replace x32 := (congrFun ew 32).trans ((va_ne (by decide)).trans ((va_ne (by decide)).trans x32))
  replace p32 := (congrFun ea 32).trans ((va_ne (by decide)).trans p32)
  replace x33 := (congrFun ew 33).trans ((va_ne (by decide)).trans ((va_ne (by decide)).trans x33))
  replace p33 := (congrFun ea 33).trans ((va_ne (by decide)).trans p33)
  replace x34 := (congrFun ew 34).trans ((va_ne (by decide)).trans ((va_ne (by decide)).trans x34))
  replace p34 := (congrFun ea 34).trans ((va_ne (by decide)).trans p34)
  replace x35 := (congrFun ew 35).trans ((va_ne (by decide)).trans ((va_ne (by decide)).trans x35))
  replace p35 := (congrFun ea 35).trans ((va_ne (by decide)).trans p35)
  replace x36 := (congrFun ew 36).trans ((va_ne (by decide)).trans ((va_ne (by decide)).trans x36))
  replace p36 := (congrFun ea 36).trans ((va_ne (by decide)).trans p36)
  replace x37 := (congrFun ew 37).trans ((va_ne (by decide)).trans ((va_ne (by decide)).trans x37))
  replace p37 := (congrFun ea 37).trans ((va_ne (by decide)).trans p37)
  replace x38 := (congrFun ew 38).trans ((va_ne (by decide)).trans ((va_ne (by decide)).trans x38))
  replace p38 := (congrFun ea 38).trans ((va_ne (by decide)).trans p38)
  replace x39 := (congrFun ew 39).trans ((va_ne (by decide)).trans ((va_ne (by decide)).trans x39))
  replace p39 := (congrFun ea 39).trans ((va_ne (by decide)).trans p39)
  have x40 : w11 40 = xIA (cA 1) 16 (fun _ => 0) := (congrFun ew 40).trans ((va_ne (by decide)).trans va_eq)
  have p40 : ad11 40 = q40 := (congrFun ea 40).trans va_eq
  replace p29 : ad11 29 = ad 29 := (congrFun ea 29).trans ((va_ne (by decide)).trans p29)
  replace fA : ∀ j, j < 30 → ad11 j = ad j := fun j hj => (congrFun ea j).trans ((va_ne (Nat.ne_of_lt (Nat.lt_of_lt_of_le hj (by decide)))).trans (fA j hj))
  replace fW : ∀ j, j < 29 → w11 j = w j := fun j hj => (congrFun ew j).trans ((va_ne (Nat.ne_of_lt hj)).trans ((va_ne (Nat.ne_of_lt (Nat.lt_of_lt_of_le hj (by decide)))).trans (fW j hj)))
  clear ea ew
  refine xr_aload_n C 0 d_Md_init_99 rfl rfl ?_
  refine xr_bipush C d_Md_init_100 (by decide) ?_
  refine xz_newi C (Or.inl ⟨rfl, rfl⟩) xw_aI (by decide) (by decide) d_Md_init_102 (fun q41 => ?_)
  refine xr_putFq (k := 29) C (hI rfl) ((va_ne (by decide)).trans p29) xf_Md_44 ((va_ne (by decide)).trans s29) (by decide) rfl rfl (Nat.le_of_ble_eq_true rfl) d_Md_init_104 ?_
  refine xr_name2 (fun ad12 w12 ea ew => ?_)
  replace s29 : w12 29 = xOb 5 [.int (zI 0), .ref q30, .ref q31, .ref q32, .ref q33, .ref q34, .ref q35, .ref q36, .int (zI 0), .ref q37, .ref q38, .ref q39, .ref q40, .ref q41, .int (zI 0), .int (zI 0), .null, .int (zI 0), .int (zI 0), .null, .int (zI 0), .int (zI 0), .int (zI 0), .null, .null, .null, .null, .null, .null, .null, .null, .null, .null, .null, .int (zI 0)] := (congrFun ew 29).trans va_eq
  replace x30 := (congrFun ew 30).trans ((va_ne (by decide)).trans ((va_ne (by decide)).trans x30))
  replace p30 := (congrFun ea 30).trans ((va_ne (by decide)).trans p30)
  replace x31 := (congrFun ew 31).trans ((va_ne (by decide)).trans ((va_ne (by decide)).trans x31))
  replace p31 := (congrFun ea 31).trans ((va_ne (by decide)).trans p31)
  replace x32 := (congrFun ew 32).trans ((va_ne (by decide)).trans ((va_ne (by decide)).trans x32))
  replace p32 := (congrFun ea 32).trans ((va_ne (by decide)).trans p32)
  replace x33 := (congrFun ew 33).trans ((va_ne (by decide)).trans ((va_ne (by decide)).trans x33))
  replace p33 := (congrFun ea 33).trans ((va_ne (by decide)).trans p33)
  replace x34 := (congrFun ew 34).trans ((va_ne (by decide)).trans ((va_ne (by decide)).trans x34))
  replace p34 := (congrFun ea 34).trans ((va_ne (by decide)).trans p34)
  replace x35 := (congrFun ew 35).trans ((va_ne (by decide)).trans ((va_ne (by decide)).trans x35))
  replace p35 := (congrFun ea 35).trans ((va_ne (by decide)).trans p35)
  replace x36 := (congrFun ew 36).trans ((va_ne (by decide)).trans ((va_ne (by decide)).trans x36))
  replace p36 := (congrFun ea 36).trans ((va_ne (by decide)).trans p36)
  replace x37 := (congrFun ew 37).trans ((va_ne (by decide)).trans ((va_ne (by decide)).trans x37))
  replace p37 := (congrFun ea 37).trans ((va_ne (by decide)).trans p37)
  replace x38 := (congrFun ew 38).trans ((va_ne (by decide)).trans ((va_ne (by decide)).trans x38))
  replace p38 := (congrFun ea 38).trans ((va_ne (by decide)).trans p38)
  replace x39 := (congrFun ew 39).trans ((va_ne (by decide)).trans ((va_ne (by decide)).trans x39))
  replace p39 := (congrFun ea 39).trans ((va_ne (by decide)).trans p39)
  replace x40 := (congrFun ew 40).trans ((va_ne (by decide)).trans ((va_ne (by decide)).trans x40))
  replace p40 := (congrFun ea 40).trans ((va_ne (by decide)).trans p40)
  have x41 : w12 41 = xIA (cA 0) 10 (fun _ => 0) := (congrFun ew 41).trans ((va_ne (by decide)).trans va_eq)
  have p41 : ad12 41 = q41 := (congrFun ea 41).trans va_eq
  replace p29 : ad12 29 = ad 29 := (congrFun ea 29).trans ((va_ne (by decide)).trans p29)
  replace fA : ∀ j, j < 30 → ad12 j = ad j := fun j hj => (congrFun ea j).trans ((va_ne (Nat.ne_of_lt (Nat.lt_of_lt_of_le hj (by decide)))).trans (fA j hj))
  replace fW : ∀ j, j < 29 → w12 j = w j := fun j hj => (congrFun ew j).trans ((va_ne (Nat.ne_of_lt hj)).trans ((va_ne (Nat.ne_of_lt (Nat.lt_of_lt_of_le hj (by decide)))).trans (fW j hj)))
  clear ea ew
  refine xr_aload_n C 0 d_Md_init_107 rfl rfl ?_
  refine xr_sipush C d_Md_init_108 (by decide) ?_
  refine xz_newi C (Or.inl ⟨rfl, rfl⟩) xw_aI (by decide) (by decide) d_Md_init_111 (fun q42 => ?_)
  refine xr_putFq (k := 29) C (hI rfl) ((va_ne (by decide)).trans p29) xf_Md_47 ((va_ne (by decide)).trans s29) (by decide) rfl rfl (Nat.le_of_ble_eq_true rfl) d_Md_init_113 ?_
  refine xr_name2 (fun ad13 w13 ea ew => ?_)
  replace s29 : w13 29 = xOb 5 [.int (zI 0), .ref q30, .ref q31, .ref q32, .ref q33, .ref q34, .ref q35, .ref q36, .int (zI 0), .ref q37, .ref q38, .ref q39, .ref q40, .ref q41, .int (zI 0), .int (zI 0), .ref q42, .int (zI 0), .int (zI 0), .null, .int (zI 0), .int (zI 0), .int (zI 0), .null, .null, .null, .null, .null, .null, .null, .null, .null, .null, .null, .int (zI 0)] := (congrFun ew 29).trans va_eq
  replace x30 := (congrFun ew 30).trans ((va_ne (by decide)).trans ((va_ne (by decide)).trans x30))
  replace p30 := (congrFun ea 30).trans ((va_ne (by decide)).trans p30)
  replace x31 := (congrFun ew 31).trans ((va_ne (by decide)).trans ((va_ne (by decide)).trans x31))
  replace p31 := (congrFun ea 31).trans ((va_ne (by decide)).trans p31)
  replace x32 := (congrFun ew 32).trans ((va_ne (by decide)).trans ((va_ne (by decide)).trans x32))
  replace p32 := (congrFun ea 32).trans ((va_ne (by decide)).trans p32)
  replace x33 := (congrFun ew 33).trans ((va_ne (by decide)).trans ((va_ne (by decide)).trans x33))
  replace p33 := (congrFun ea 33).trans ((va_ne (by decide)).trans p33)
  replace x34 := (congrFun ew 34).trans ((va_ne (by decide)).trans ((va_ne (by decide)).trans x34))
  replace p34 := (congrFun ea 34).trans ((va_ne (by decide)).trans p34)
  replace x35 := (congrFun ew 35).trans ((va_ne (by decide)).trans ((va_ne (by decide)).trans x35))
  replace p35 := (congrFun ea 35).trans ((va_ne (by decide)).trans p35)
  replace x36 := (congrFun ew 36).trans ((va_ne (by decide)).trans ((va_ne (by decide)).trans x36))
  replace p36 := (congrFun ea 36).trans ((va_ne (by decide)).trans p36)
  replace x37 := (congrFun ew 37).trans ((va_ne (by decide)).trans ((va_ne (by decide)).trans x37))
  replace p37 := (congrFun ea 37).trans ((va_ne (by decide)).trans p37)
  replace x38 := (congrFun ew 38).trans ((va_ne (by decide)).trans ((va_ne (by decide)).trans x38))
  replace p38 := (congrFun ea 38).trans ((va_ne (by decide)).trans p38)
  replace x39 := (congrFun ew 39).trans ((va_ne (by decide)).trans ((va_ne (by decide)).trans x39))
  replace p39 := (congrFun ea 39).trans ((va_ne (by decide)).trans p39)
  replace x40 := (congrFun ew 40).trans ((va_ne (by decide)).trans ((va_ne (by decide)).trans x40))
  replace p40 := (congrFun ea 40).trans ((va_ne (by decide)).trans p40)
  replace x41 := (congrFun ew 41).trans ((va_ne (by decide)).trans ((va_ne (by decide)).trans x41))
  replace p41 := (congrFun ea 41).trans ((va_ne (by decide)).trans p41)
  have x42 : w13 42 = xIA (cA 0) 800 (fun _ => 0) := (congrFun ew 42).trans ((va_ne (by decide)).trans va_eq)
  have p42 : ad13 42 = q42 := (congrFun ea 42).trans va_eq
  replace p29 : ad13 29 = ad 29 := (congrFun ea 29).trans ((va_ne (by decide)).trans p29)
  replace fA : ∀ j, j < 30 → ad13 j = ad j := fun j hj => (congrFun ea j).trans ((va_ne (Nat.ne_of_lt (Nat.lt_of_lt_of_le hj (by decide)))).trans (fA j hj))
  replace fW : ∀ j, j < 29 → w13 j = w j := fun j hj => (congrFun ew j).trans ((va_ne (Nat.ne_of_lt hj)).trans ((va_ne (Nat.ne_of_lt (Nat.lt_of_lt_of_le hj (by decide)))).trans (fW j hj)))
  clear ea ew
  refine xr_aload_n C 0 d_Md_init_116 rfl rfl ?_
  refine xr_sipush C d_Md_init_117 (by decide) ?_
  refine xz_newi C (Or.inl ⟨rfl, rfl⟩) xw_aI (by decide) (by decide) d_Md_init_120 (fun q43 => ?_)
  refine xr_putFq (k := 29) C (hI rfl) ((va_ne (by decide)).trans p29) xf_Md_50 ((va_ne (by decide)).trans s29) (by decide) rfl rfl (Nat.le_of_ble_eq_true rfl) d_Md_init_122 ?_
  refine xr_name2 (fun ad14 w14 ea ew => ?_)
  replace s29 : w14 29 = xOb 5 [.int (zI 0), .ref q30, .ref q31, .ref q32, .ref q33, .ref q34, .ref q35, .ref q36, .int (zI 0), .ref q37, .ref q38, .ref q39, .ref q40, .ref q41, .int (zI 0), .int (zI 0), .ref q42, .int (zI 0), .int (zI 0), .ref q43, .int (zI 0), .int (zI 0), .int (zI 0), .null, .null, .null, .null, .null, .null, .null, .null, .null, .null, .null, .int (zI 0)] := (congrFun ew 29).trans va_eq
  replace x30 := (congrFun ew 30).trans ((va_ne (by decide)).trans ((va_ne (by decide)).trans x30))
  replace p30 := (congrFun ea 30).trans ((va_ne (by decide)).trans p30)
  replace x31 := (congrFun ew 31).trans ((va_ne (by decide)).trans ((va_ne (by decide)).trans x31))
  replace p31 := (congrFun ea 31).trans ((va_ne (by decide)).trans p31)
  replace x32 := (congrFun ew 32).trans ((va_ne (by decide)).trans ((va_ne (by decide)).trans x32))
  replace p32 := (congrFun ea 32).trans ((va_ne (by decide)).trans p32)
  replace x33 := (congrFun ew 33).trans ((va_ne (by decide)).trans ((va_ne (by decide)).trans x33))
  replace p33 := (congrFun ea 33).trans ((va_ne (by decide)).trans p33)
  replace x34 := (congrFun ew 34).trans ((va_ne (by decide)).trans ((va_ne (by decide)).trans x34))
  replace p34 := (congrFun ea 34).trans ((va_ne (by decide)).trans p34)
  replace x35 := (congrFun ew 35).trans ((va_ne (by decide)).trans ((va_ne (by decide)).trans x35))
  replace p35 := (congrFun ea 35).trans ((va_ne (by decide)).trans p35)
  replace x36 := (congrFun ew 36).trans ((va_ne (by decide)).trans ((va_ne (by decide)).trans x36))
  replace p36 := (congrFun ea 36).trans ((va_ne (by decide)).trans p36)
  replace x37 := (congrFun ew 37).trans ((va_ne (by decide)).trans ((va_ne (by decide)).trans x37))
  replace p37 := (congrFun ea 37).trans ((va_ne (by decide)).trans p37)
  replace x38 := (congrFun ew 38).trans ((va_ne (by decide)).trans ((va_ne (by decide)).trans x38))
  replace p38 := (congrFun ea 38).trans ((va_ne (by decide)).trans p38)
  replace x39 := (congrFun ew 39).trans ((va_ne (by decide)).trans ((va_ne (by decide)).trans x39))
  replace p39 := (congrFun ea 39).trans ((va_ne (by decide)).trans p39)
  replace x40 := (congrFun ew 40).trans ((va_ne (by decide)).trans ((va_ne (by decide)).trans x40))
  replace p40 := (congrFun ea 40).trans ((va_ne (by decide)).trans p40)
  replace x41 := (congrFun ew 41).trans ((va_ne (by decide)).trans ((va_ne (by decide)).trans x41))
  replace p41 := (congrFun ea 41).trans ((va_ne (by decide)).trans p41)
  replace x42 := (congrFun ew 42).trans ((va_ne (by decide)).trans ((va_ne (by decide)).trans x42))
  replace p42 := (congrFun ea 42).trans ((va_ne (by decide)).trans p42)
  have x43 : w14 43 = xIA (cA 0) 800 (fun _ => 0) := (congrFun ew 43).trans ((va_ne (by decide)).trans va_eq)
  have p43 : ad14 43 = q43 := (congrFun ea 43).trans va_eq
  replace p29 : ad14 29 = ad 29 := (congrFun ea 29).trans ((va_ne (by decide)).trans p29)
  replace fA : ∀ j, j < 30 → ad14 j = ad j := fun j hj => (congrFun ea j).trans ((va_ne (Nat.ne_of_lt (Nat.lt_of_lt_of_le hj (by decide)))).trans (fA j hj))
  replace fW : ∀ j, j < 29 → w14 j = w j := fun j hj => (congrFun ew j).trans ((va_ne (Nat.ne_of_lt hj)).trans ((va_ne (Nat.ne_of_lt (Nat.lt_of_lt_of_le hj (by decide)))).trans (fW j hj)))
  clear ea ew
  refine xr_aload_n C 0 d_Md_init_125 rfl rfl ?_
  refine xr_sipush C d_Md_init_126 (by decide) ?_
  refine xz_newi C (Or.inl ⟨rfl, rfl⟩) xw_aI (by decide) (by decide) d_Md_init_129 (fun q44 => ?_)
  refine xr_putFq (k := 29) C (hI rfl) ((va_ne (by decide)).trans p29) xf_Md_53 ((va_ne (by decide)).trans s29) (by decide) rfl rfl (Nat.le_of_ble_eq_true rfl) d_Md_init_131 ?_
  refine xr_name2 (fun ad15 w15 ea ew => ?_)
  replace s29 : w15 29 = xOb 5 [.int (zI 0), .ref q30, .ref q31, .ref q32, .ref q33, .ref q34, .ref q35, .ref q36, .int (zI 0), .ref q37, .ref q38, .ref q39, .ref q40, .ref q41, .int (zI 0), .int (zI 0), .ref q42, .int (zI 0), .int (zI 0), .ref q43, .int (zI 0), .int (zI 0), .int (zI 0), .ref q44, .null, .null, .null, .null, .null, .null, .null, .null, .null, .null, .int (zI 0)] := (congrFun ew 29).trans va_eq
  replace x30 := (congrFun ew 30).trans ((va_ne (by decide)).trans ((va_ne (by decide)).trans x30))
  replace p30 := (congrFun ea 30).trans ((va_ne (by decide)).trans p30)
  replace x31 := (congrFun ew 31).trans ((va_ne (by decide)).trans ((va_ne (by decide)).trans x31))
  replace p31 := (congrFun ea 31).trans ((va_ne (by decide)).trans p31)
  replace x32 := (congrFun ew 32).trans ((va_ne (by decide)).trans ((va_ne (by decide)).trans x32))
  replace p32 := (congrFun ea 32).trans ((va_ne (by decide)).trans p32)
  replace x33 := (congrFun ew 33).trans ((va_ne (by decide)).trans ((va_ne (by decide)).trans x33))
  replace p33 := (congrFun ea 33).trans ((va_ne (by decide)).trans p33)
  replace x34 := (congrFun ew 34).trans ((va_ne (by decide)).trans ((va_ne (by decide)).trans x34))
  replace p34 := (congrFun ea 34).trans ((va_ne (by decide)).trans p34)
  replace x35 := (congrFun ew 35).trans ((va_ne (by decide)).trans ((va_ne (by decide)).trans x35))
  replace p35 := (congrFun ea 35).trans ((va_ne (by decide)).trans p35)
  replace x36 := (congrFun ew 36).trans ((va_ne (by decide)).trans ((va_ne (by decide)).trans x36))
  replace p36 := (congrFun ea 36).trans ((va_ne (by decide)).trans p36)
  replace x37 := (congrFun ew 37).trans ((va_ne (by decide)).trans ((va_ne (by decide)).trans x37))
  replace p37 := (congrFun ea 37).trans ((va_ne (by decide)).trans p37)
  replace x38 := (congrFun ew 38).trans ((va_ne (by decide)).trans ((va_ne (by decide)).trans x38))
  replace p38 := (congrFun ea 38).trans ((va_ne (by decide)).trans p38)
  replace x39 := (congrFun ew 39).trans ((va_ne (by decide)).trans ((va_ne (by decide)).trans x39))
  replace p39 := (congrFun ea 39).trans ((va_ne (by decide)).trans p39)
  replace x40 := (congrFun ew 40).trans ((va_ne (by decide)).trans ((va_ne (by decide)).trans x40))
  replace p40 := (congrFun ea 40).trans ((va_ne (by decide)).trans p40)
  replace x41 := (congrFun ew 41).trans ((va_ne (by decide)).trans ((va_ne (by decide)).trans x41))
  replace p41 := (congrFun ea 41).trans ((va_ne (by decide)).trans p41)
  replace x42 := (congrFun ew 42).trans ((va_ne (by decide)).trans ((va_ne (by decide)).trans x42))
  replace p42 := (congrFun ea 42).trans ((va_ne (by decide)).trans p42)
  replace x43 := (congrFun ew 43).trans ((va_ne (by decide)).trans ((va_ne (by decide)).trans x43))
  replace p43 := (congrFun ea 43).trans ((va_ne (by decide)).trans p43)
  have x44 : w15 44 = xIA (cA 0) 1001 (fun _ => 0) := (congrFun ew 44).trans ((va_ne (by decide)).trans va_eq)
  have p44 : ad15 44 = q44 := (congrFun ea 44).trans va_eq
  replace p29 : ad15 29 = ad 29 := (congrFun ea 29).trans ((va_ne (by decide)).trans p29)
  replace fA : ∀ j, j < 30 → ad15 j = ad j := fun j hj => (congrFun ea j).trans ((va_ne (Nat.ne_of_lt (Nat.lt_of_lt_of_le hj (by decide)))).trans (fA j hj))
  replace fW : ∀ j, j < 29 → w15 j = w j := fun j hj => (congrFun ew j).trans ((va_ne (Nat.ne_of_lt hj)).trans ((va_ne (Nat.ne_of_lt (Nat.lt_of_lt_of_le hj (by decide)))).trans (fW j hj)))
  clear ea ew
  refine xr_aload_n C 0 d_Md_init_134 rfl rfl ?_
  refine xr_sipush C d_Md_init_135 (by decide) ?_
  refine xz_newi C (Or.inl ⟨rfl, rfl⟩) xw_aI (by decide) (by decide) d_Md_init_138 (fun q45 => ?_)
  refine xr_putFq (k := 29) C (hI rfl) ((va_ne (by decide)).trans p29) xf_Md_56 ((va_ne (by decide)).trans s29) (by decide) rfl rfl (Nat.le_of_ble_eq_true rfl) d_Md_init_140 ?_
  refine xr_name2 (fun ad16 w16 ea ew => ?_)
  replace s29 : w16 29 = xOb 5 [.int (zI 0), .ref q30, .ref q31, .ref q32, .ref q33, .ref q34, .ref q35, .ref q36, .int (zI 0), .ref q37, .ref q38, .ref q39, .ref q40, .ref q41, .int (zI 0), .int (zI 0), .ref q42, .int (zI 0), .int (zI 0), .ref q43, .int (zI 0), .int (zI 0), .int (zI 0), .ref q44, .ref q45, .null, .null, .null, .null, .null, .null, .null, .null, .null, .int (zI 0)] := (congrFun ew 29).trans va_eq
  replace x30 := (congrFun ew 30).trans ((va_ne (by decide)).trans ((va_ne (by decide)).trans x30))
  replace p30 := (congrFun ea 30).trans ((va_ne (by decide)).trans p30)
  replace x31 := (congrFun ew 31).trans ((va_ne (by decide)).trans ((va_ne (by decide)).trans x31))
  replace p31 := (congrFun ea 31).trans ((va_ne (by decide)).trans p31)
  replace x32 := (congrFun ew 32).trans ((va_ne (by decide)).trans ((va_ne (by decide)).trans x32))
  replace p32 := (congrFun ea 32).trans ((va_ne (by decide)).trans p32)
  replace x33 := (congrFun ew 33).trans ((va_ne (by decide)).trans ((va_ne (by decide)).trans x33))
  replace p33 := (congrFun ea 33).trans ((va_ne (by decide)).trans p33)
  replace x34 := (congrFun ew 34).trans ((va_ne (by decide)).trans ((va_ne (by decide)).trans x34))
  replace p34 := (congrFun ea 34).trans ((va_ne (by decide)).trans p34)
  replace x35 := (congrFun ew 35).trans ((va_ne (by decide)).trans ((va_ne (by decide)).trans x35))
  replace p35 := (congrFun ea 35).trans ((va_ne (by decide)).trans p35)
  replace x36 := (congrFun ew 36).trans ((va_ne (by decide)).trans ((va_ne (by decide)).trans x36))
  replace p36 := (congrFun ea 36).trans ((va_ne (by decide)).trans p36)
  replace x37 := (congrFun ew 37).trans ((va_ne (by decide)).trans ((va_ne (by decide)).trans x37))
  replace p37 := (congrFun ea 37).trans ((va_ne (by decide)).trans p37)
  replace x38 := (congrFun ew 38).trans ((va_ne (by decide)).trans ((va_ne (by decide)).trans x38))
  replace p38 := (congrFun ea 38).trans ((va_ne (by decide)).trans p38)
  replace x39 := (congrFun ew 39).trans ((va_ne (by decide)).trans ((va_ne (by decide)).trans x39))
  replace p39 := (congrFun ea 39).trans ((va_ne (by decide)).trans p39)
  replace x40 := (congrFun ew 40).trans ((va_ne (by decide)).trans ((va_ne (by decide)).trans x40))
  replace p40 := (congrFun ea 40).trans ((va_ne (by decide)).trans p40)
  replace x41 := (congrFun ew 41).trans ((va_ne (by decide)).trans ((va_ne (by decide)).trans x41))
  replace p41 := (congrFun ea 41).trans ((va_ne (by decide)).trans p41)
  replace x42 := (congrFun ew 42).trans ((va_ne (by decide)).trans ((va_ne (by decide)).trans x42))
  replace p42 := (congrFun ea 42).trans ((va_ne (by decide)).trans p42)
  replace x43 := (congrFun ew 43).trans ((va_ne (by decide)).trans ((va_ne (by decide)).trans x43))
  replace p43 := (congrFun ea 43).trans ((va_ne (by decide)).trans p43)
  replace x44 := (congrFun ew 44).trans ((va_ne (by decide)).trans ((va_ne (by decide)).trans x44))
  replace p44 := (congrFun ea 44).trans ((va_ne (by decide)).trans p44)
  have x45 : w16 45 = xIA (cA 0) 1001 (fun _ => 0) := (congrFun ew 45).trans ((va_ne (by decide)).trans va_eq)
  have p45 : ad16 45 = q45 := (congrFun ea 45).trans va_eq
  replace p29 : ad16 29 = ad 29 := (congrFun ea 29).trans ((va_ne (by decide)).trans p29)
  replace fA : ∀ j, j < 30 → ad16 j = ad j := fun j hj => (congrFun ea j).trans ((va_ne (Nat.ne_of_lt (Nat.lt_of_lt_of_le hj (by decide)))).trans (fA j hj))
  replace fW : ∀ j, j < 29 → w16 j = w j := fun j hj => (congrFun ew j).trans ((va_ne (Nat.ne_of_lt hj)).trans ((va_ne (Nat.ne_of_lt (Nat.lt_of_lt_of_le hj (by decide)))).trans (fW j hj)))
  clear ea ew
  refine xr_aload_n C 0 d_Md_init_143 rfl rfl ?_
  refine xr_sipush C d_Md_init_144 (by decide) ?_
  refine xz_newi C (Or.inl ⟨rfl, rfl⟩) xw_aI (by decide) (by decide) d_Md_init_147 (fun q46 => ?_)
  refine xr_putFq (k := 29) C (hI rfl) ((va_ne (by decide)).trans p29) xf_Md_59 ((va_ne (by decide)).trans s29) (by decide) rfl rfl (Nat.le_of_ble_eq_true rfl) d_Md_init_149 ?_
  refine xr_name2 (fun ad17 w17 ea ew => ?_)
  replace s29 : w17 29 = xOb 5 [.int (zI 0), .ref q30, .ref q31, .ref q32, .ref q33, .ref q34, .ref q35, .ref q36, .int (zI 0), .ref q37, .ref q38, .ref q39, .ref q40, .ref q41, .int (zI 0), .int (zI 0), .ref q42, .int (zI 0), .int (zI 0), .ref q43, .int (zI 0), .int (zI 0), .int (zI 0), .ref q44, .ref q45, .ref q46, .null, .null, .null, .null, .null, .null, .null, .null, .int (zI 0)] := (congrFun ew 29).trans va_eq
  replace x30 := (congrFun ew 30).trans ((va_ne (by decide)).trans ((va_ne (by decide)).trans x30))
  replace p30 := (congrFun ea 30).trans ((va_ne (by decide)).trans p30)
  replace x31 := (congrFun ew 31).trans ((va_ne (by decide)).trans ((va_ne (by decide)).trans x31))
  replace p31 := (congrFun ea 31).trans ((va_ne (by decide)).trans p31)
  replace x32 := (congrFun ew 32).trans ((va_ne (by decide)).trans ((va_ne (by decide)).trans x32))
  replace p32 := (congrFun ea 32).trans ((va_ne (by decide)).trans p32)
  replace x33 := (congrFun ew 33).trans ((va_ne (by decide)).trans ((va_ne (by decide)).trans x33))
  replace p33 := (congrFun ea 33).trans ((va_ne (by decide)).trans p33)
  replace x34 := (congrFun ew 34).trans ((va_ne (by decide)).trans ((va_ne (by decide)).trans x34))
  replace p34 := (congrFun ea 34).trans ((va_ne (by decide)).trans p34)
  replace x35 := (congrFun ew 35).trans ((va_ne (by decide)).trans ((va_ne (by decide)).trans x35))
  replace p35 := (congrFun ea 35).trans ((va_ne (by decide)).trans p35)
  replace x36 := (congrFun ew 36).trans ((va_ne (by decide)).trans ((va_ne (by decide)).trans x36))
  replace p36 := (congrFun ea 36).trans ((va_ne (by decide)).trans p36)
  replace x37 := (congrFun ew 37).trans ((va_ne (by decide)).trans ((va_ne (by decide)).trans x37))
  replace p37 := (congrFun ea 37).trans ((va_ne (by decide)).trans p37)
  replace x38 := (congrFun ew 38).trans ((va_ne (by decide)).trans ((va_ne (by decide)).trans x38))
  replace p38 := (congrFun ea 38).trans ((va_ne (by decide)).trans p38)
  replace x39 := (congrFun ew 39).trans ((va_ne (by decide)).trans ((va_ne (by decide)).trans x39))
  replace p39 := (congrFun ea 39).trans ((va_ne (by decide)).trans p39)
  replace x40 := (congrFun ew 40).trans ((va_ne (by decide)).trans ((va_ne (by decide)).trans x40))
  replace p40 := (congrFun ea 40).trans ((va_ne (by decide)).trans p40)
  replace x41 := (congrFun ew 41).trans ((va_ne (by decide)).trans ((va_ne (by decide)).trans x41))
  replace p41 := (congrFun ea 41).trans ((va_ne (by decide)).trans p41)
  replace x42 := (congrFun ew 42).trans ((va_ne (by decide)).trans ((va_ne (by decide)).trans x42))
  replace p42 := (congrFun ea 42).trans ((va_ne (by decide)).trans p42)
  replace x43 := (congrFun ew 43).trans ((va_ne (by decide)).trans ((va_ne (by decide)).trans x43))
  replace p43 := (congrFun ea 43).trans ((va_ne (by decide)).trans p43)
  replace x44 := (congrFun ew 44).trans ((va_ne (by decide)).trans ((va_ne (by decide)).trans x44))
  replace p44 := (congrFun ea 44).trans ((va_ne (by decide)).trans p44)
  replace x45 := (congrFun ew 45).trans ((va_ne (by decide)).trans ((va_ne (by decide)).trans x45))
  replace p45 := (congrFun ea 45).trans ((va_ne (by decide)).trans p45)
  have x46 : w17 46 = xIA (cA 0) 1001 (fun _ => 0) := (congrFun ew 46).trans ((va_ne (by decide)).trans va_eq)
  have p46 : ad17 46 = q46 := (congrFun ea 46).trans va_eq
  replace p29 : ad17 29 = ad 29 := (congrFun ea 29).trans ((va_ne (by decide)).trans p29)
  replace fA : ∀ j, j < 30 → ad17 j = ad j := fun j hj => (congrFun ea j).trans ((va_ne (Nat.ne_of_lt (Nat.lt_of_lt_of_le hj (by decide)))).trans (fA j hj))
  replace fW : ∀ j, j < 29 → w17 j = w j := fun j hj => (congrFun ew j).trans ((va_ne (Nat.ne_of_lt hj)).trans ((va_ne (Nat.ne_of_lt (Nat.lt_of_lt_of_le hj (by decide)))).trans (fW j hj)))
  clear ea ew
  refine xr_aload_n C 0 d_Md_init_152 rfl rfl ?_
  refine xr_sipush C d_Md_init_153 (by decide) ?_
  refine xz_newi C (Or.inl ⟨rfl, rfl⟩) xw_aI (by decide) (by decide) d_Md_init_156 (fun q47 => ?_)
  refine xr_putFq (k := 29) C (hI rfl) ((va_ne (by decide)).trans p29) xf_Md_62 ((va_ne (by decide)).trans s29) (by decide) rfl rfl (Nat.le_of_ble_eq_true rfl) d_Md_init_158 ?_
  refine xr_name2 (fun ad18 w18 ea ew => ?_)
  replace s29 : w18 29 = xOb 5 [.int (zI 0), .ref q30, .ref q31, .ref q32, .ref q33, .ref q34, .ref q35, .ref q36, .int (zI 0), .ref q37, .ref q38, .ref q39, .ref q40, .ref q41, .int (zI 0), .int (zI 0), .ref q42, .int (zI 0), .int (zI 0), .ref q43, .int (zI 0), .int (zI 0), .int (zI 0), .ref q44, .ref q45, .ref q46, .ref q47, .null, .null, .null, .null, .null, .null, .null, .int (zI 0)] := (congrFun ew 29).trans va_eq
  replace x30 := (congrFun ew 30).trans ((va_ne (by decide)).trans ((va_ne (by decide)).trans x30))
  replace p30 := (congrFun ea 30).trans ((va_ne (by decide)).trans p30)
  replace x31 := (congrFun ew 31).trans ((va_ne (by decide)).trans ((va_ne (by decide)).trans x31))
  replace p31 := (congrFun ea 31).trans ((va_ne (by decide)).trans p31)
  replace x32 := (congrFun ew 32).trans ((va_ne (by decide)).trans ((va_ne (by decide)).trans x32))
  replace p32 := (congrFun ea 32).trans ((va_ne (by decide)).trans p32)
  replace x33 := (congrFun ew 33).trans ((va_ne (by decide)).trans ((va_ne (by decide)).trans x33))
  replace p33 := (congrFun ea 33).trans ((va_ne (by decide)).trans p33)
  replace x34 := (congrFun ew 34).trans ((va_ne (by decide)).trans ((va_ne (by decide)).trans x34))
  replace p34 := (congrFun ea 34).trans ((va_ne (by decide)).trans p34)
  replace x35 := (congrFun ew 35).trans ((va_ne (by decide)).trans ((va_ne (by decide)).trans x35))
  replace p35 := (congrFun ea 35).trans ((va_ne (by decide)).trans p35)
  replace x36 := (congrFun ew 36).trans ((va_ne (by decide)).trans ((va_ne (by decide)).trans x36))
  replace p36 := (congrFun ea 36).trans ((va_ne (by decide)).trans p36)
  replace x37 := (congrFun ew 37).trans ((va_ne (by decide)).trans ((va_ne (by decide)).trans x37))
  replace p37 := (congrFun ea 37).trans ((va_ne (by decide)).trans p37)
  replace x38 := (congrFun ew 38).trans ((va_ne (by decide)).trans ((va_ne (by decide)).trans x38))
  replace p38 := (congrFun ea 38).trans ((va_ne (by decide)).trans p38)
  replace x39 := (congrFun ew 39).trans ((va_ne (by decide)).trans ((va_ne (by decide)).trans x39))
  replace p39 := (congrFun ea 39).trans ((va_ne (by decide)).trans p39)
  replace x40 := (congrFun ew 40).trans ((va_ne (by decide)).trans ((va_ne (by decide)).trans x40))
  replace p40 := (congrFun ea 40).trans ((va_ne (by decide)).trans p40)
  replace x41 := (congrFun ew 41).trans ((va_ne (by decide)).trans ((va_ne (by decide)).trans x41))
  replace p41 := (congrFun ea 41).trans ((va_ne (by decide)).trans p41)
  replace x42 := (congrFun ew 42).trans ((va_ne (by decide)).trans ((va_ne (by decide)).trans x42))
  replace p42 := (congrFun ea 42).trans ((va_ne (by decide)).trans p42)
  replace x43 := (congrFun ew 43).trans ((va_ne (by decide)).trans ((va_ne (by decide)).trans x43))
  replace p43 := (congrFun ea 43).trans ((va_ne (by decide)).trans p43)
  replace x44 := (congrFun ew 44).trans ((va_ne (by decide)).trans ((va_ne (by decide)).trans x44))
  replace p44 := (congrFun ea 44).trans ((va_ne (by decide)).trans p44)
  replace x45 := (congrFun ew 45).trans ((va_ne (by decide)).trans ((va_ne (by decide)).trans x45))
  replace p45 := (congrFun ea 45).trans ((va_ne (by decide)).trans p45)
  replace x46 := (congrFun ew 46).trans ((va_ne (by decide)).trans ((va_ne (by decide)).trans x46))
  replace p46 := (congrFun ea 46).trans ((va_ne (by decide)).trans p46)
  have x47 : w18 47 = xIA (cA 0) 1100 (fun _ => 0) := (congrFun ew 47).trans ((va_ne (by decide)).trans va_eq)
  have p47 : ad18 47 = q47 := (congrFun ea 47).trans va_eq
  replace p29 : ad18 29 = ad 29 := (congrFun ea 29).trans ((va_ne (by decide)).trans p29)
  replace fA : ∀ j, j < 30 → ad18 j = ad j := fun j hj => (congrFun ea j).trans ((va_ne (Nat.ne_of_lt (Nat.lt_of_lt_of_le hj (by decide)))).trans (fA j hj))
  replace fW : ∀ j, j < 29 → w18 j = w j := fun j hj => (congrFun ew j).trans ((va_ne (Nat.ne_of_lt hj)).trans ((va_ne (Nat.ne_of_lt (Nat.lt_of_lt_of_le hj (by decide)))).trans (fW j hj)))
  clear ea ew
  refine xr_aload_n C 0 d_Md_init_161 rfl rfl ?_
  refine xr_bipush C d_Md_init_162 (by decide) ?_
  refine xz_newi C (Or.inl ⟨rfl, rfl⟩) xw_aI (by decide) (by decide) d_Md_init_164 (fun q48 => ?_)
  refine xr_putFq (k := 29) C (hI rfl) ((va_ne (by decide)).trans p29) xf_Md_65 ((va_ne (by decide)).trans s29) (by decide) rfl rfl (Nat.le_of_ble_eq_true rfl) d_Md_init_166 ?_
  refine xr_name2 (fun ad19 w19 ea ew => ?_)
  replace s29 : w19 29 = xOb 5 [.int (zI 0), .ref q30, .ref q31, .ref q32, .ref q33, .ref q34, .ref q35, .ref q36, .int (zI 0), .ref q37, .ref q38, .ref q39, .ref q40, .ref q41, .int (zI 0), .int (zI 0), .ref q42, .int (zI 0), .int (zI 0), .ref q43, .int (zI 0), .int (zI 0), .int (zI 0), .ref q44, .ref q45, .ref q46, .ref q47, .ref q48, .null, .null, .null, .null, .null, .null, .int (zI 0)] := (congrFun ew 29).trans va_eq
  replace x30 := (congrFun ew 30).trans ((va_ne (by decide)).trans ((va_ne (by decide)).trans x30))
  replace p30 := (congrFun ea 30).trans ((va_ne (by decide)).trans p30)
  replace x31 := (congrFun ew 31).trans ((va_ne (by decide)).trans ((va_ne (by decide)).trans x31))
  replace p31 := (congrFun ea 31).trans ((va_ne (by decide)).trans p31)
  replace x32 := (congrFun ew 32).trans ((va_ne (by decide)).trans ((va_ne (by decide)).trans x32))
  replace p32 := (congrFun ea 32).trans ((va_ne (by decide)).trans p32)
  replace x33 := (congrFun ew 33).trans ((va_ne (by decide)).trans ((va_ne (by decide)).trans x33))
  replace p33 := (congrFun ea 33).trans ((va_ne (by decide)).trans p33)
  replace x34 := (congrFun ew 34).trans ((va_ne (by decide)).trans ((va_ne (by decide)).trans x34))
  replace p34 := (congrFun ea 34).trans ((va_ne (by decide)).trans p34)
  replace x35 := (congrFun ew 35).trans ((va_ne (by decide)).trans ((va_ne (by decide)).trans x35))
  replace p35 := (congrFun ea 35).trans ((va_ne (by decide)).trans p35)
  replace x36 := (congrFun ew 36).trans ((va_ne (by decide)).trans ((va_ne (by decide)).trans x36))
  replace p36 := (congrFun ea 36).trans ((va_ne (by decide)).trans p36)
  replace x37 := (congrFun ew 37).trans ((va_ne (by decide)).trans ((va_ne (by decide)).trans x37))
  replace p37 := (congrFun ea 37).trans ((va_ne (by decide)).trans p37)
  replace x38 := (congrFun ew 38).trans ((va_ne (by decide)).trans ((va_ne (by decide)).trans x38))
  replace p38 := (congrFun ea 38).trans ((va_ne (by decide)).trans p38)
  replace x39 := (congrFun ew 39).trans ((va_ne (by decide)).trans ((va_ne (by decide)).trans x39))
  replace p39 := (congrFun ea 39).trans ((va_ne (by decide)).trans p39)
  replace x40 := (congrFun ew 40).trans ((va_ne (by decide)).trans ((va_ne (by decide)).trans x40))
  replace p40 := (congrFun ea 40).trans ((va_ne (by decide)).trans p40)
  replace x41 := (congrFun ew 41).trans ((va_ne (by decide)).trans ((va_ne (by decide)).trans x41))
  replace p41 := (congrFun ea 41).trans ((va_ne (by decide)).trans p41)
  replace x42 := (congrFun ew 42).trans ((va_ne (by decide)).trans ((va_ne (by decide)).trans x42))
  replace p42 := (congrFun ea 42).trans ((va_ne (by decide)).trans p42)
  replace x43 := (congrFun ew 43).trans ((va_ne (by decide)).trans ((va_ne (by decide)).trans x43))
  replace p43 := (congrFun ea 43).trans ((va_ne (by decide)).trans p43)
  replace x44 := (congrFun ew 44).trans ((va_ne (by decide)).trans ((va_ne (by decide)).trans x44))
  replace p44 := (congrFun ea 44).trans ((va_ne (by decide)).trans p44)
  replace x45 := (congrFun ew 45).trans ((va_ne (by decide)).trans ((va_ne (by decide)).trans x45))
  replace p45 := (congrFun ea 45).trans ((va_ne (by decide)).trans p45)
  replace x46 := (congrFun ew 46).trans ((va_ne (by decide)).trans ((va_ne (by decide)).trans x46))
  replace p46 := (congrFun ea 46).trans ((va_ne (by decide)).trans p46)
  replace x47 := (congrFun ew 47).trans ((va_ne (by decide)).trans ((va_ne (by decide)).trans x47))
  replace p47 := (congrFun ea 47).trans ((va_ne (by decide)).trans p47)
  have x48 : w19 48 = xIA (cA 0) 6 (fun _ => 0) := (congrFun ew 48).trans ((va_ne (by decide)).trans va_eq)
  have p48 : ad19 48 = q48 := (congrFun ea 48).trans va_eq
  replace p29 : ad19 29 = ad 29 := (congrFun ea 29).trans ((va_ne (by decide)).trans p29)
  replace fA : ∀ j, j < 30 → ad19 j = ad j := fun j hj => (congrFun ea j).trans ((va_ne (Nat.ne_of_lt (Nat.lt_of_lt_of_le hj (by decide)))).trans (fA j hj))
  replace fW : ∀ j, j < 29 → w19 j = w j := fun j hj => (congrFun ew j).trans ((va_ne (Nat.ne_of_lt hj)).trans ((va_ne (Nat.ne_of_lt (Nat.lt_of_lt_of_le hj (by decide)))).trans (fW j hj)))
  clear ea ew
  refine xr_aload_n C 0 d_Md_init_169 rfl rfl ?_
  refine xr_sipush C d_Md_init_170 (by decide) ?_
  refine xz_newi C (Or.inl ⟨rfl, rfl⟩) xw_aI (by decide) (by decide) d_Md_init_173 (fun q49 => ?_)
  refine xr_putFq (k := 29) C (hI rfl) ((va_ne (by decide)).trans p29) xf_Md_68 ((va_ne (by decide)).trans s29) (by decide) rfl rfl (Nat.le_of_ble_eq_true rfl) d_Md_init_175 ?_
  refine xr_name2 (fun ad20 w20 ea ew => ?_)
  replace s29 : w20 29 = xOb 5 [.int (zI 0), .ref q30, .ref q31, .ref q32, .ref q33, .ref q34, .ref q35, .ref q36, .int (zI 0), .ref q37, .ref q38, .ref q39, .ref q40, .ref q41, .int (zI 0), .int (zI 0), .ref q42, .int (zI 0), .int (zI 0), .ref q43, .int (zI 0), .int (zI 0), .int (zI 0), .ref q44, .ref q45, .ref q46, .ref q47, .ref q48, .ref q49, .null, .null, .null, .null, .null, .int (zI 0)] := (congrFun ew 29).trans va_eq
  replace x30 := (congrFun ew 30).trans ((va_ne (by decide)).trans ((va_ne (by decide)).trans x30))
  replace p30 := (congrFun ea 30).trans ((va_ne (by decide)).trans p30)
  replace x31 := (congrFun ew 31).trans ((va_ne (by decide)).trans ((va_ne (by decide)).trans x31))
  replace p31 := (congrFun ea 31).trans ((va_ne (by decide)).trans p31)
  replace x32 := (congrFun ew 32).trans ((va_ne (by decide)).trans ((va_ne (by decide)).trans x32))
  replace p32 := (congrFun ea 32).trans ((va_ne (by decide)).trans p32)
  replace x33 := (congrFun ew 33).trans ((va_ne (by decide)).trans ((va_ne (by decide)).trans x33))
  replace p33 := (congrFun ea 33).trans ((va_ne (by decide)).trans p33)
  replace x34 := (congrFun ew 34).trans ((va_ne (by decide)).trans ((va_ne (by decide)).trans x34))
  replace p34 := (congrFun ea 34).trans ((va_ne (by decide)).trans p34)
  replace x35 := (congrFun ew 35).trans ((va_ne (by decide)).trans ((va_ne (by decide)).trans x35))
  replace p35 := (congrFun ea 35).trans ((va_ne (by decide)).trans p35)
  replace x36 := (congrFun ew 36).trans ((va_ne (by decide)).trans ((va_ne (by decide)).trans x36))
  replace p36 := (congrFun ea 36).trans ((va_ne (by decide)).trans p36)
  replace x37 := (congrFun ew 37).trans ((va_ne (by decide)).trans ((va_ne (by decide)).trans x37))
  replace p37 := (congrFun ea 37).trans ((va_ne (by decide)).trans p37)
  replace x38 := (congrFun ew 38).trans ((va_ne (by decide)).trans ((va_ne (by decide)).trans x38))
  replace p38 := (congrFun ea 38).trans ((va_ne (by decide)).trans p38)
  replace x39 := (congrFun ew 39).trans ((va_ne (by decide)).trans ((va_ne (by decide)).trans x39))
  replace p39 := (congrFun ea 39).trans ((va_ne (by decide)).trans p39)
  replace x40 := (congrFun ew 40).trans ((va_ne (by decide)).trans ((va_ne (by decide)).trans x40))
  replace p40 := (congrFun ea 40).trans ((va_ne (by decide)).trans p40)
  replace x41 := (congrFun ew 41).trans ((va_ne (by decide)).trans ((va_ne (by decide)).trans x41))
  replace p41 := (congrFun ea 41).trans ((va_ne (by decide)).trans p41)
  replace x42 := (congrFun ew 42).trans ((va_ne (by decide)).trans ((va_ne (by decide)).trans x42))
  replace p42 := (congrFun ea 42).trans ((va_ne (by decide)).trans p42)
  replace x43 := (congrFun ew 43).trans ((va_ne (by decide)).trans ((va_ne (by decide)).trans x43))
  replace p43 := (congrFun ea 43).trans ((va_ne (by decide)).trans p43)
  replace x44 := (congrFun ew 44).trans ((va_ne (by decide)).trans ((va_ne (by decide)).trans x44))
  replace p44 := (congrFun ea 44).trans ((va_ne (by decide)).trans p44)
  replace x45 := (congrFun ew 45).trans ((va_ne (by decide)).trans ((va_ne (by decide)).trans x45))
  replace p45 := (congrFun ea 45).trans ((va_ne (by decide)).trans p45)
  replace x46 := (congrFun ew 46).trans ((va_ne (by decide)).trans ((va_ne (by decide)).trans x46))
  replace p46 := (congrFun ea 46).trans ((va_ne (by decide)).trans p46)
  replace x47 := (congrFun ew 47).trans ((va_ne (by decide)).trans ((va_ne (by decide)).trans x47))
  replace p47 := (congrFun ea 47).trans ((va_ne (by decide)).trans p47)
  replace x48 := (congrFun ew 48).trans ((va_ne (by decide)).trans ((va_ne (by decide)).trans x48))
  replace p48 := (congrFun ea 48).trans ((va_ne (by decide)).trans p48)
  have x49 : w20 49 = xIA (cA 0) 1100 (fun _ => 0) := (congrFun ew 49).trans ((va_ne (by decide)).trans va_eq)
  have p49 : ad20 49 = q49 := (congrFun ea 49).trans va_eq
  replace p29 : ad20 29 = ad 29 := (congrFun ea 29).trans ((va_ne (by decide)).trans p29)
  replace fA : ∀ j, j < 30 → ad20 j = ad j := fun j hj => (congrFun ea j).trans ((va_ne (Nat.ne_of_lt (Nat.lt_of_lt_of_le hj (by decide)))).trans (fA j hj))
  replace fW : ∀ j, j < 29 → w20 j = w j := fun j hj => (congrFun ew j).trans ((va_ne (Nat.ne_of_lt hj)).trans ((va_ne (Nat.ne_of_lt (Nat.lt_of_lt_of_le hj (by decide)))).trans (fW j hj)))
  clear ea ew
  refine xr_aload_n C 0 d_Md_init_178 rfl rfl ?_
  refine xr_bipush C d_Md_init_179 (by decide) ?_
  refine xz_newi C (Or.inl ⟨rfl, rfl⟩) xw_aI (by decide) (by decide) d_Md_init_181 (fun q50 => ?_)
  refine xr_putFq (k := 29) C (hI rfl) ((va_ne (by decide)).trans p29) xf_Md_71 ((va_ne (by decide)).trans s29) (by decide) rfl rfl (Nat.le_of_ble_eq_true rfl) d_Md_init_183 ?_
  refine xr_name2 (fun ad21 w21 ea ew => ?_)
  replace s29 : w21 29 = xOb 5 [.int (zI 0), .ref q30, .ref q31, .ref q32, .ref q33, .ref q34, .ref q35, .ref q36, .int (zI 0), .ref q37, .ref q38, .ref q39, .ref q40, .ref q41, .int (zI 0), .int (zI 0), .ref q42, .int (zI 0), .int (zI 0), .ref q43, .int (zI 0), .int (zI 0), .int (zI 0), .ref q44, .ref q45, .ref q46, .ref q47, .ref q48, .ref q49, .ref q50, .null, .null, .null, .null, .int (zI 0)] := (congrFun ew 29).trans va_eq
  replace x30 := (congrFun ew 30).trans ((va_ne (by decide)).trans ((va_ne (by decide)).trans x30))
  replace p30 := (congrFun ea 30).trans ((va_ne (by decide)).trans p30)
  replace x31 := (congrFun ew 31).trans ((va_ne (by decide)).trans ((va_ne (by decide)).trans x31))
  replace p31 := (congrFun ea 31).trans ((va_ne (by decide)).trans p31)
  replace x32 := (congrFun ew 32).trans ((va_ne (by decide)).trans ((va_ne (by decide)).trans x32))
  replace p32 := (congrFun ea 32).trans ((va_ne (by decide)).trans p32)
  replace x33 := (congrFun ew 33).trans ((va_ne (by decide)).trans ((va_ne (by decide)).trans x33))
  replace p33 := (congrFun ea 33).trans ((va_ne (by decide)).trans p33)
  replace x34 := (congrFun ew 34).trans ((va_ne (by decide)).trans ((va_ne (by decide)).trans x34))
  replace p34 := (congrFun ea 34).trans ((va_ne (by decide)).trans p34)
  replace x35 := (congrFun ew 35).trans ((va_ne (by decide)).trans ((va_ne (by decide)).trans x35))
  replace p35 := (congrFun ea 35).trans ((va_ne (by decide)).trans p35)
  replace x36 := (congrFun ew 36).trans ((va_ne (by decide)).trans ((va_ne (by decide)).trans x36))
  replace p36 := (congrFun ea 36).trans ((va_ne (by decide)).trans p36)
  replace x37 := (congrFun ew 37).trans ((va_ne (by decide)).trans ((va_ne (by decide)).trans x37))
  replace p37 := (congrFun ea 37).trans ((va_ne (by decide)).trans p37)
  replace x38 := (congrFun ew 38).trans ((va_ne (by decide)).trans ((va_ne (by decide)).trans x38))
  replace p38 := (congrFun ea 38).trans ((va_ne (by decide)).trans p38)
  replace x39 := (congrFun ew 39).trans ((va_ne (by decide)).trans ((va_ne (by decide)).trans x39))
  replace p39 := (congrFun ea 39).trans ((va_ne (by decide)).trans p39)
  replace x40 := (congrFun ew 40).trans ((va_ne (by decide)).trans ((va_ne (by decide)).trans x40))
  replace p40 := (congrFun ea 40).trans ((va_ne (by decide)).trans p40)
  replace x41 := (congrFun ew 41).trans ((va_ne (by decide)).trans ((va_ne (by decide)).trans x41))
  replace p41 := (congrFun ea 41).trans ((va_ne (by decide)).trans p41)
  replace x42 := (congrFun ew 42).trans ((va_ne (by decide)).trans ((va_ne (by decide)).trans x42))
  replace p42 := (congrFun ea 42).trans ((va_ne (by decide)).trans p42)
  replace x43 := (congrFun ew 43).trans ((va_ne (by decide)).trans ((va_ne (by decide)).trans x43))
  replace p43 := (congrFun ea 43).trans ((va_ne (by decide)).trans p43)
  replace x44 := (congrFun ew 44).trans ((va_ne (by decide)).trans ((va_ne (by decide)).trans x44))
  replace p44 := (congrFun ea 44).trans ((va_ne (by decide)).trans p44)
  replace x45 := (congrFun ew 45).trans ((va_ne (by decide)).trans ((va_ne (by decide)).trans x45))
  replace p45 := (congrFun ea 45).trans ((va_ne (by decide)).trans p45)
  replace x46 := (congrFun ew 46).trans ((va_ne (by decide)).trans ((va_ne (by decide)).trans x46))
  replace p46 := (congrFun ea 46).trans ((va_ne (by decide)).trans p46)
  replace x47 := (congrFun ew 47).trans ((va_ne (by decide)).trans ((va_ne (by decide)).trans x47))
  replace p47 := (congrFun ea 47).trans ((va_ne (by decide)).trans p47)
  replace x48 := (congrFun ew 48).trans ((va_ne (by decide)).trans ((va_ne (by decide)).trans x48))
  replace p48 := (congrFun ea 48).trans ((va_ne (by decide)).trans p48)
  replace x49 := (congrFun ew 49).trans ((va_ne (by decide)).trans ((va_ne (by decide)).trans x49))
  replace p49 := (congrFun ea 49).trans ((va_ne (by decide)).trans p49)
  have x50 : w21 50 = xIA (cA 0) 6 (fun _ => 0) := (congrFun ew 50).trans ((va_ne (by decide)).trans va_eq)
  have p50 : ad21 50 = q50 := (congrFun ea 50).trans va_eq
  replace p29 : ad21 29 = ad 29 := (congrFun ea 29).trans ((va_ne (by decide)).trans p29)
  replace fA : ∀ j, j < 30 → ad21 j = ad j := fun j hj => (congrFun ea j).trans ((va_ne (Nat.ne_of_lt (Nat.lt_of_lt_of_le hj (by decide)))).trans (fA j hj))
  replace fW : ∀ j, j < 29 → w21 j = w j := fun j hj => (congrFun ew j).trans ((va_ne (Nat.ne_of_lt hj)).trans ((va_ne (Nat.ne_of_lt (Nat.lt_of_lt_of_le hj (by decide)))).trans (fW j hj)))
  clear ea ew
  refine xr_aload_n C 0 d_Md_init_186 rfl rfl ?_
  refine xr_bipush C d_Md_init_187 (by decide) ?_
  refine xz_newi C (Or.inl ⟨rfl, rfl⟩) xw_aI (by decide) (by decide) d_Md_init_189 (fun q51 => ?_)
  refine xr_putFq (k := 29) C (hI rfl) ((va_ne (by decide)).trans p29) xf_Md_74 ((va_ne (by decide)).trans s29) (by decide) rfl rfl (Nat.le_of_ble_eq_true rfl) d_Md_init_191 ?_
  refine xr_name2 (fun ad22 w22 ea ew => ?_)
  replace s29 : w22 29 = xOb 5 [.int (zI 0), .ref q30, .ref q31, .ref q32, .ref q33, .ref q34, .ref q35, .ref q36, .int (zI 0), .ref q37, .ref q38, .ref q39, .ref q40, .ref q41, .int (zI 0), .int (zI 0), .ref q42, .int (zI 0), .int (zI 0), .ref q43, .int (zI 0), .int (zI 0), .int (zI 0), .ref q44, .ref q45, .ref q46, .ref q47, .ref q48, .ref q49, .ref q50, .ref q51, .null, .null, .null, .int (zI 0)] := (congrFun ew 29).trans va_eq
  replace x30 := (congrFun ew 30).trans ((va_ne (by decide)).trans ((va_ne (by decide)).trans x30))
  replace p30 := (congrFun ea 30).trans ((va_ne (by decide)).trans p30)
  replace x31 := (congrFun ew 31).trans ((va_ne (by decide)).trans ((va_ne (by decide)).trans x31))
  replace p31 := (congrFun ea 31).trans ((va_ne (by decide)).trans p31)
  replace x32 := (congrFun ew 32).trans ((va_ne (by decide)).trans ((va_ne (by decide)).trans x32))
  replace p32 := (congrFun ea 32).trans ((va_ne (by decide)).trans p32)
  replace x33 := (congrFun ew 33).trans ((va_ne (by decide)).trans ((va_ne (by decide)).trans x33))
  replace p33 := (congrFun ea 33).trans ((va_ne (by decide)).trans p33)
  replace x34 := (congrFun ew 34).trans ((va_ne (by decide)).trans ((va_ne (by decide)).trans x34))
  replace p34 := (congrFun ea 34).trans ((va_ne (by decide)).trans p34)
  replace x35 := (congrFun ew 35).trans ((va_ne (by decide)).trans ((va_ne (by decide)).trans x35))
  replace p35 := (congrFun ea 35).trans ((va_ne (by decide)).trans p35)
  replace x36 := (congrFun ew 36).trans ((va_ne (by decide)).trans ((va_ne (by decide)).trans x36))
  replace p36 := (congrFun ea 36).trans ((va_ne (by decide)).trans p36)
  replace x37 := (congrFun ew 37).trans ((va_ne (by decide)).trans ((va_ne (by decide)).trans x37))
  replace p37 := (congrFun ea 37).trans ((va_ne (by decide)).trans p37)
  replace x38 := (congrFun ew 38).trans ((va_ne (by decide)).trans ((va_ne (by decide)).trans x38))
  replace p38 := (congrFun ea 38).trans ((va_ne (by decide)).trans p38)
  replace x39 := (congrFun ew 39).trans ((va_ne (by decide)).trans ((va_ne (by decide)).trans x39))
  replace p39 := (congrFun ea 39).trans ((va_ne (by decide)).trans p39)
  replace x40 := (congrFun ew 40).trans ((va_ne (by decide)).trans ((va_ne (by decide)).trans x40))
  replace p40 := (congrFun ea 40).trans ((va_ne (by decide)).trans p40)
  replace x41 := (congrFun ew 41).trans ((va_ne (by decide)).trans ((va_ne (by decide)).trans x41))
  replace p41 := (congrFun ea 41).trans ((va_ne (by decide)).trans p41)
  replace x42 := (congrFun ew 42).trans ((va_ne (by decide)).trans ((va_ne (by decide)).trans x42))
  replace p42 := (congrFun ea 42).trans ((va_ne (by decide)).trans p42)
  replace x43 := (congrFun ew 43).trans ((va_ne (by decide)).trans ((va_ne (by decide)).trans x43))
  replace p43 := (congrFun ea 43).trans ((va_ne (by decide)).trans p43)
  replace x44 := (congrFun ew 44).trans ((va_ne (by decide)).trans ((va_ne (by decide)).trans x44))
  replace p44 := (congrFun ea 44).trans ((va_ne (by decide)).trans p44)
  replace x45 := (congrFun ew 45).trans ((va_ne (by decide)).trans ((va_ne (by decide)).trans x45))
  replace p45 := (congrFun ea 45).trans ((va_ne (by decide)).trans p45)
  replace x46 := (congrFun ew 46).trans ((va_ne (by decide)).trans ((va_ne (by decide)).trans x46))
  replace p46 := (congrFun ea 46).trans ((va_ne (by decide)).trans p46)
  replace x47 := (congrFun ew 47).trans ((va_ne (by decide)).trans ((va_ne (by decide)).trans x47))
  replace p47 := (congrFun ea 47).trans ((va_ne (by decide)).trans p47)
  replace x48 := (congrFun ew 48).trans ((va_ne (by decide)).trans ((va_ne (by decide)).trans x48))
  replace p48 := (congrFun ea 48).trans ((va_ne (by decide)).trans p48)
  replace x49 := (congrFun ew 49).trans ((va_ne (by decide)).trans ((va_ne (by decide)).trans x49))
  replace p49 := (congrFun ea 49).trans ((va_ne (by decide)).trans p49)
  replace x50 := (congrFun ew 50).trans ((va_ne (by decide)).trans ((va_ne (by decide)).trans x50))
  replace p50 := (congrFun ea 50).trans ((va_ne (by decide)).trans p50)
  have x51 : w22 51 = xIA (cA 0) 6 (fun _ => 0) := (congrFun ew 51).trans ((va_ne (by decide)).trans va_eq)
  have p51 : ad22 51 = q51 := (congrFun ea 51).trans va_eq
  replace p29 : ad22 29 = ad 29 := (congrFun ea 29).trans ((va_ne (by decide)).trans p29)
  replace fA : ∀ j, j < 30 → ad22 j = ad j := fun j hj => (congrFun ea j).trans ((va_ne (Nat.ne_of_lt (Nat.lt_of_lt_of_le hj (by decide)))).trans (fA j hj))
  replace fW : ∀ j, j < 29 → w22 j = w j := fun j hj => (congrFun ew j).trans ((va_ne (Nat.ne_of_lt hj)).trans ((va_ne (Nat.ne_of_lt (Nat.lt_of_lt_of_le hj (by decide)))).trans (fW j hj)))
  clear ea ew
  refine xr_aload_n C 0 d_Md_init_194 rfl rfl ?_
  refine xr_sipush C d_Md_init_195 (by decide) ?_
  refine xz_newi C (Or.inr ⟨rfl, rfl⟩) xw_aZ (by decide) (by decide) d_Md_init_198 (fun q52 => ?_)
  refine xr_putFq (k := 29) C (hI rfl) ((va_ne (by decide)).trans p29) xf_Md_77 ((va_ne (by decide)).trans s29) (by decide) rfl rfl (Nat.le_of_ble_eq_true rfl) d_Md_init_200 ?_
  refine xr_name2 (fun ad23 w23 ea ew => ?_)
  replace s29 : w23 29 = xOb 5 [.int (zI 0), .ref q30, .ref q31, .ref q32, .ref q33, .ref q34, .ref q35, .ref q36, .int (zI 0), .ref q37, .ref q38, .ref q39, .ref q40, .ref q41, .int (zI 0), .int (zI 0), .ref q42, .int (zI 0), .int (zI 0), .ref q43, .int (zI 0), .int (zI 0), .int (zI 0), .ref q44, .ref q45, .ref q46, .ref q47, .ref q48, .ref q49, .ref q50, .ref q51, .ref q52, .null, .null, .int (zI 0)] := (congrFun ew 29).trans va_eq
  replace x30 := (congrFun ew 30).trans ((va_ne (by decide)).trans ((va_ne (by decide)).trans x30))
  replace p30 := (congrFun ea 30).trans ((va_ne (by decide)).trans p30)
  replace x31 := (congrFun ew 31).trans ((va_ne (by decide)).trans ((va_ne (by decide)).trans x31))
  replace p31 := (congrFun ea 31).trans ((va_ne (by decide)).trans p31)
  replace x32 := (congrFun ew 32).trans ((va_ne (by decide)).trans ((va_ne (by decide)).trans x32))
  replace p32 := (congrFun ea 32).trans ((va_ne (by decide)).trans p32)
  replace x33 := (congrFun ew 33).trans ((va_ne (by decide)).trans ((va_ne (by decide)).trans x33))
  replace p33 := (congrFun ea 33).trans ((va_ne (by decide)).trans p33)
  replace x34 := (congrFun ew 34).trans ((va_ne (by decide)).trans ((va_ne (by decide)).trans x34))
  replace p34 := (congrFun ea 34).trans ((va_ne (by decide)).trans p34)
  replace x35 := (congrFun ew 35).trans ((va_ne (by decide)).trans ((va_ne (by decide)).trans x35))
  replace p35 := (congrFun ea 35).trans ((va_ne (by decide)).trans p35)
  replace x36 := (congrFun ew 36).trans ((va_ne (by decide)).trans ((va_ne (by decide)).trans x36))
  replace p36 := (congrFun ea 36).trans ((va_ne (by decide)).trans p36)
  replace x37 := (congrFun ew 37).trans ((va_ne (by decide)).trans ((va_ne (by decide)).trans x37))
  replace p37 := (congrFun ea 37).trans ((va_ne (by decide)).trans p37)
  replace x38 := (congrFun ew 38).trans ((va_ne (by decide)).trans ((va_ne (by decide)).trans x38))
  replace p38 := (congrFun ea 38).trans ((va_ne (by decide)).trans p38)
  replace x39 := (congrFun ew 39).trans ((va_ne (by decide)).trans ((va_ne (by decide)).trans x39))
  replace p39 := (congrFun ea 39).trans ((va_ne (by decide)).trans p39)
  replace x40 := (congrFun ew 40).trans ((va_ne (by decide)).trans ((va_ne (by decide)).trans x40))
  replace p40 := (congrFun ea 40).trans ((va_ne (by decide)).trans p40)
  replace x41 := (congrFun ew 41).trans ((va_ne (by decide)).trans ((va_ne (by decide)).trans x41))
  replace p41 := (congrFun ea 41).trans ((va_ne (by decide)).trans p41)
  replace x42 := (congrFun ew 42).trans ((va_ne (by decide)).trans ((va_ne (by decide)).trans x42))
  replace p42 := (congrFun ea 42).trans ((va_ne (by decide)).trans p42)
  replace x43 := (congrFun ew 43).trans ((va_ne (by decide)).trans ((va_ne (by decide)).trans x43))
  replace p43 := (congrFun ea 43).trans ((va_ne (by decide)).trans p43)
  replace x44 := (congrFun ew 44).trans ((va_ne (by decide)).trans ((va_ne (by decide)).trans x44))
  replace p44 := (congrFun ea 44).trans ((va_ne (by decide)).trans p44)
  replace x45 := (congrFun ew 45).trans ((va_ne (by decide)).trans ((va_ne (by decide)).trans x45))
  replace p45 := (congrFun ea 45).trans ((va_ne (by decide)).trans p45)
  replace x46 := (congrFun ew 46).trans ((va_ne (by decide)).trans ((va_ne (by decide)).trans x46))
  replace p46 := (congrFun ea 46).trans ((va_ne (by decide)).trans p46)
  replace x47 := (congrFun ew 47).trans ((va_ne (by decide)).trans ((va_ne (by decide)).trans x47))
  replace p47 := (congrFun ea 47).trans ((va_ne (by decide)).trans p47)
  replace x48 := (congrFun ew 48).trans ((va_ne (by decide)).trans ((va_ne (by decide)).trans x48))
  replace p48 := (congrFun ea 48).trans ((va_ne (by decide)).trans p48)
  replace x49 := (congrFun ew 49).trans ((va_ne (by decide)).trans ((va_ne (by decide)).trans x49))
  replace p49 := (congrFun ea 49).trans ((va_ne (by decide)).trans p49)
  replace x50 := (congrFun ew 50).trans ((va_ne (by decide)).trans ((va_ne (by decide)).trans x50))
  replace p50 := (congrFun ea 50).trans ((va_ne (by decide)).trans p50)
  replace x51 := (congrFun ew 51).trans ((va_ne (by decide)).trans ((va_ne (by decide)).trans x51))
  replace p51 := (congrFun ea 51).trans ((va_ne (by decide)).trans p51)
  have x52 : w23 52 = xIA (cA 1) 1001 (fun _ => 0) := (congrFun ew 52).trans ((va_ne (by decide)).trans va_eq)
  have p52 : ad23 52 = q52 := (congrFun ea 52).trans va_eq
  replace p29 : ad23 29 = ad 29 := (congrFun ea 29).trans ((va_ne (by decide)).trans p29)
  replace fA : ∀ j, j < 30 → ad23 j = ad j := fun j hj => (congrFun ea j).trans ((va_ne (Nat.ne_of_lt (Nat.lt_of_lt_of_le hj (by decide)))).trans (fA j hj))
  replace fW : ∀ j, j < 29 → w23 j = w j := fun j hj => (congrFun ew j).trans ((va_ne (Nat.ne_of_lt hj)).trans ((va_ne (Nat.ne_of_lt (Nat.lt_of_lt_of_le hj (by decide)))).trans (fW j hj)))
  clear ea ew
  refine xr_aload_n C 0 d_Md_init_203 rfl rfl ?_
  refine xr_sipush C d_Md_init_204 (by decide) ?_
  refine xz_newi C (Or.inl ⟨rfl, rfl⟩) xw_aI (by decide) (by decide) d_Md_init_207 (fun q53 => ?_)
  refine xr_putFq (k := 29) C (hI rfl) ((va_ne (by decide)).trans p29) xf_Md_80 ((va_ne (by decide)).trans s29) (by decide) rfl rfl (Nat.le_of_ble_eq_true rfl) d_Md_init_209 ?_
  refine xr_name2 (fun ad24 w24 ea ew => ?_)
  replace s29 : w24 29 = xOb 5 [.int (zI 0), .ref q30, .ref q31, .ref q32, .ref q33, .ref q34, .ref q35, .ref q36, .int (zI 0), .ref q37, .ref q38, .ref q39, .ref q40, .ref q41, .int (zI 0), .int (zI 0), .ref q42, .int (zI 0), .int (zI 0), .ref q43, .int (zI 0), .int (zI 0), .int (zI 0), .ref q44, .ref q45, .ref q46, .ref q47, .ref q48, .ref q49, .ref q50, .ref q51, .ref q52, .ref q53, .null, .int (zI 0)] := (congrFun ew 29).trans va_eq
  replace x30 := (congrFun ew 30).trans ((va_ne (by decide)).trans ((va_ne (by decide)).trans x30))
  replace p30 := (congrFun ea 30).trans ((va_ne (by decide)).trans p30)
  replace x31 := (congrFun ew 31).trans ((va_ne (by decide)).trans ((va_ne (by decide)).trans x31))
  replace p31 := (congrFun ea 31).trans ((va_ne (by decide)).trans p31)
  replace x32 := (congrFun ew 32).trans ((va_ne (by decide)).trans ((va_ne (by decide)).trans x32))
  replace p32 := (congrFun ea 32).trans ((va_ne (by decide)).trans p32)
  replace x33 := (congrFun ew 33).trans ((va_ne (by decide)).trans ((va_ne (by decide)).trans x33))
  replace p33 := (congrFun ea 33).trans ((va_ne (by decide)).trans p33)
  replace x34 := (congrFun ew 34).trans ((va_ne (by decide)).trans ((va_ne (by decide)).trans x34))
  replace p34 := (congrFun ea 34).trans ((va_ne (by decide)).trans p34)
  replace x35 := (congrFun ew 35).trans ((va_ne (by decide)).trans ((va_ne (by decide)).trans x35))
  replace p35 := (congrFun ea 35).trans ((va_ne (by decide)).trans p35)
  replace x36 := (congrFun ew 36).trans ((va_ne (by decide)).trans ((va_ne (by decide)).trans x36))
  replace p36 := (congrFun ea 36).trans ((va_ne (by decide)).trans p36)
  replace x37 := (congrFun ew 37).trans ((va_ne (by decide)).trans ((va_ne (by decide)).trans x37))
  replace p37 := (congrFun ea 37).trans ((va_ne (by decide)).trans p37)
  replace x38 := (congrFun ew 38).trans ((va_ne (by decide)).trans ((va_ne (by decide)).trans x38))
  replace p38 := (congrFun ea 38).trans ((va_ne (by decide)).trans p38)
  replace x39 := (congrFun ew 39).trans ((va_ne (by decide)).trans ((va_ne (by decide)).trans x39))
  replace p39 := (congrFun ea 39).trans ((va_ne (by decide)).trans p39)
  replace x40 := (congrFun ew 40).trans ((va_ne (by decide)).trans ((va_ne (by decide)).trans x40))
  replace p40 := (congrFun ea 40).trans ((va_ne (by decide)).trans p40)
  replace x41 := (congrFun ew 41).trans ((va_ne (by decide)).trans ((va_ne (by decide)).trans x41))
  replace p41 := (congrFun ea 41).trans ((va_ne (by decide)).trans p41)
  replace x42 := (congrFun ew 42).trans ((va_ne (by decide)).trans ((va_ne (by decide)).trans x42))
  replace p42 := (congrFun ea 42).trans ((va_ne (by decide)).trans p42)
  replace x43 := (congrFun ew 43).trans ((va_ne (by decide)).trans ((va_ne (by decide)).trans x43))
  replace p43 := (congrFun ea 43).trans ((va_ne (by decide)).trans p43)
  replace x44 := (congrFun ew 44).trans ((va_ne (by decide)).trans ((va_ne (by decide)).trans x44))
  replace p44 := (congrFun ea 44).trans ((va_ne (by decide)).trans p44)
  replace x45 := (congrFun ew 45).trans ((va_ne (by decide)).trans ((va_ne (by decide)).trans x45))
  replace p45 := (congrFun ea 45).trans ((va_ne (by decide)).trans p45)
  replace x46 := (congrFun ew 46).trans ((va_ne (by decide)).trans ((va_ne (by decide)).trans x46))
  replace p46 := (congrFun ea 46).trans ((va_ne (by decide)).trans p46)
  replace x47 := (congrFun ew 47).trans ((va_ne (by decide)).trans ((va_ne (by decide)).trans x47))
  replace p47 := (congrFun ea 47).trans ((va_ne (by decide)).trans p47)
  replace x48 := (congrFun ew 48).trans ((va_ne (by decide)).trans ((va_ne (by decide)).trans x48))
  replace p48 := (congrFun ea 48).trans ((va_ne (by decide)).trans p48)
  replace x49 := (congrFun ew 49).trans ((va_ne (by decide)).trans ((va_ne (by decide)).trans x49))
  replace p49 := (congrFun ea 49).trans ((va_ne (by decide)).trans p49)
  replace x50 := (congrFun ew 50).trans ((va_ne (by decide)).trans ((va_ne (by decide)).trans x50))
  replace p50 := (congrFun ea 50).trans ((va_ne (by decide)).trans p50)
  replace x51 := (congrFun ew 51).trans ((va_ne (by decide)).trans ((va_ne (by decide)).trans x51))
  replace p51 := (congrFun ea 51).trans ((va_ne (by decide)).trans p51)
  replace x52 := (congrFun ew 52).trans ((va_ne (by decide)).trans ((va_ne (by decide)).trans x52))
  replace p52 := (congrFun ea 52).trans ((va_ne (by decide)).trans p52)
  have x53 : w24 53 = xIA (cA 0) 1002 (fun _ => 0) := (congrFun ew 53).trans ((va_ne (by decide)).trans va_eq)
  have p53 : ad24 53 = q53 := (congrFun ea 53).trans va_eq
  replace p29 : ad24 29 = ad 29 := (congrFun ea 29).trans ((va_ne (by decide)).trans p29)
  replace fA : ∀ j, j < 30 → ad24 j = ad j := fun j hj => (congrFun ea j).trans ((va_ne (Nat.ne_of_lt (Nat.lt_of_lt_of_le hj (by decide)))).trans (fA j hj))
  replace fW : ∀ j, j < 29 → w24 j = w j := fun j hj => (congrFun ew j).trans ((va_ne (Nat.ne_of_lt hj)).trans ((va_ne (Nat.ne_of_lt (Nat.lt_of_lt_of_le hj (by decide)))).trans (fW j hj)))
  clear ea ew
  refine xr_aload_n C 0 d_Md_init_212 rfl rfl ?_
  refine xr_bipush C d_Md_init_213 (by decide) ?_
  refine xz_newi C (Or.inr ⟨rfl, rfl⟩) xw_aZ (by decide) (by decide) d_Md_init_215 (fun q54 => ?_)
  refine xr_putFq (k := 29) C (hI rfl) ((va_ne (by decide)).trans p29) xf_Md_83 ((va_ne (by decide)).trans s29) (by decide) rfl rfl (Nat.le_of_ble_eq_true rfl) d_Md_init_217 ?_
  refine xr_name2 (fun ad25 w25 ea ew => ?_)
  replace s29 : w25 29 = xOb 5 [.int (zI 0), .ref q30, .ref q31, .ref q32, .ref q33, .ref q34, .ref q35, .ref q36, .int (zI 0), .ref q37, .ref q38, .ref q39, .ref q40, .ref q41, .int (zI 0), .int (zI 0), .ref q42, .int (zI 0), .int (zI 0), .ref q43, .int (zI 0), .int (zI 0), .int (zI 0), .ref q44, .ref q45, .ref q46, .ref q47, .ref q48, .ref q49, .ref q50, .ref q51, .ref q52, .ref q53, .ref q54, .int (zI 0)] := (congrFun ew 29).trans va_eq
  replace x30 := (congrFun ew 30).trans ((va_ne (by decide)).trans ((va_ne (by decide)).trans x30))
  replace p30 := (congrFun ea 30).trans ((va_ne (by decide)).trans p30)
  replace x31 := (congrFun ew 31).trans ((va_ne (by decide)).trans ((va_ne (by decide)).trans x31))
  replace p31 := (congrFun ea 31).trans ((va_ne (by decide)).trans p31)
  replace x32 := (congrFun ew 32).trans ((va_ne (by decide)).trans ((va_ne (by decide)).trans x32))
  replace p32 := (congrFun ea 32).trans ((va_ne (by decide)).trans p32)
  replace x33 := (congrFun ew 33).trans ((va_ne (by decide)).trans ((va_ne (by decide)).trans x33))
  replace p33 := (congrFun ea 33).trans ((va_ne (by decide)).trans p33)
  replace x34 := (congrFun ew 34).trans ((va_ne (by decide)).trans ((va_ne (by decide)).trans x34))
  replace p34 := (congrFun ea 34).trans ((va_ne (by decide)).trans p34)
  replace x35 := (congrFun ew 35).trans ((va_ne (by decide)).trans ((va_ne (by decide)).trans x35))
  replace p35 := (congrFun ea 35).trans ((va_ne (by decide)).trans p35)
  replace x36 := (congrFun ew 36).trans ((va_ne (by decide)).trans ((va_ne (by decide)).trans x36))
  replace p36 := (congrFun ea 36).trans ((va_ne (by decide)).trans p36)
  replace x37 := (congrFun ew 37).trans ((va_ne (by decide)).trans ((va_ne (by decide)).trans x37))
  replace p37 := (congrFun ea 37).trans ((va_ne (by decide)).trans p37)
  replace x38 := (congrFun ew 38).trans ((va_ne (by decide)).trans ((va_ne (by decide)).trans x38))
  replace p38 := (congrFun ea 38).trans ((va_ne (by decide)).trans p38)
  replace x39 := (congrFun ew 39).trans ((va_ne (by decide)).trans ((va_ne (by decide)).trans x39))
  replace p39 := (congrFun ea 39).trans ((va_ne (by decide)).trans p39)
  replace x40 := (congrFun ew 40).trans ((va_ne (by decide)).trans ((va_ne (by decide)).trans x40))
  replace p40 := (congrFun ea 40).trans ((va_ne (by decide)).trans p40)
  replace x41 := (congrFun ew 41).trans ((va_ne (by decide)).trans ((va_ne (by decide)).trans x41))
  replace p41 := (congrFun ea 41).trans ((va_ne (by decide)).trans p41)
  replace x42 := (congrFun ew 42).trans ((va_ne (by decide)).trans ((va_ne (by decide)).trans x42))
  replace p42 := (congrFun ea 42).trans ((va_ne (by decide)).trans p42)
  replace x43 := (congrFun ew 43).trans ((va_ne (by decide)).trans ((va_ne (by decide)).trans x43))
  replace p43 := (congrFun ea 43).trans ((va_ne (by decide)).trans p43)
  replace x44 := (congrFun ew 44).trans ((va_ne (by decide)).trans ((va_ne (by decide)).trans x44))
  replace p44 := (congrFun ea 44).trans ((va_ne (by decide)).trans p44)
  replace x45 := (congrFun ew 45).trans ((va_ne (by decide)).trans ((va_ne (by decide)).trans x45))
  replace p45 := (congrFun ea 45).trans ((va_ne (by decide)).trans p45)
  replace x46 := (congrFun ew 46).trans ((va_ne (by decide)).trans ((va_ne (by decide)).trans x46))
  replace p46 := (congrFun ea 46).trans ((va_ne (by decide)).trans p46)
  replace x47 := (congrFun ew 47).trans ((va_ne (by decide)).trans ((va_ne (by decide)).trans x47))
  replace p47 := (congrFun ea 47).trans ((va_ne (by decide)).trans p47)
  replace x48 := (congrFun ew 48).trans ((va_ne (by decide)).trans ((va_ne (by decide)).trans x48))
  replace p48 := (congrFun ea 48).trans ((va_ne (by decide)).trans p48)
  replace x49 := (congrFun ew 49).trans ((va_ne (by decide)).trans ((va_ne (by decide)).trans x49))
  replace p49 := (congrFun ea 49).trans ((va_ne (by decide)).trans p49)
  replace x50 := (congrFun ew 50).trans ((va_ne (by decide)).trans ((va_ne (by decide)).trans x50))
  replace p50 := (congrFun ea 50).trans ((va_ne (by decide)).trans p50)
  replace x51 := (congrFun ew 51).trans ((va_ne (by decide)).trans ((va_ne (by decide)).trans x51))
  replace p51 := (congrFun ea 51).trans ((va_ne (by decide)).trans p51)
  replace x52 := (congrFun ew 52).trans ((va_ne (by decide)).trans ((va_ne (by decide)).trans x52))
  replace p52 := (congrFun ea 52).trans ((va_ne (by decide)).trans p52)
  replace x53 := (congrFun ew 53).trans ((va_ne (by decide)).trans ((va_ne (by decide)).trans x53))
  replace p53 := (congrFun ea 53).trans ((va_ne (by decide)).trans p53)
  have x54 : w25 54 = xIA (cA 1) 16 (fun _ => 0) := (congrFun ew 54).trans ((va_ne (by decide)).trans va_eq)
  have p54 : ad25 54 = q54 := (congrFun ea 54).trans va_eq
  replace p29 : ad25 29 = ad 29 := (congrFun ea 29).trans ((va_ne (by decide)).trans p29)
  replace fA : ∀ j, j < 30 → ad25 j = ad j := fun j hj => (congrFun ea j).trans ((va_ne (Nat.ne_of_lt (Nat.lt_of_lt_of_le hj (by decide)))).trans (fA j hj))
  replace fW : ∀ j, j < 29 → w25 j = w j := fun j hj => (congrFun ew j).trans ((va_ne (Nat.ne_of_lt hj)).trans ((va_ne (Nat.ne_of_lt (Nat.lt_of_lt_of_le hj (by decide)))).trans (fW j hj)))
  clear ea ew
  have lp : ∀ (m i : Nat) (w1 : Nat → va_E) (f1 : Nat → Int) (lv : Nat → Option Value), 11 ≤ i + m → i ≤ 10 → w1 41 = xIA (cA 0) 10 f1 → (∀ j, j < i → f1 j = 2) → (∀ j, 10 ≤ j → f1 j = 0) → (∀ j, j ≠ 41 → w1 j = w25 j) → lv 0 = some (.ref (ad 29)) → lv 1 = some (.int (zI (i : Int))) → XW G 55 ad25 w1 25 11014 222 lv [] := by
    intro m
    induction m with
    | zero => intro i w1 f1 lv h1 h2; exact absurd h1 (Nat.not_le.mpr (Nat.lt_succ_of_le h2))
    | succ m ih =>
      intro i w1 f1 lv h1 h2 h41 hf hf2 hfr hl0 hl1
      refine xr_iload_n C 1 d_Md_init_222 rfl hl1 ?_
      refine xr_bipush C d_Md_init_223 (by decide) ?_
      refine xz_icmp_ge (tgt := 241) C d_Md_init_225 (by decide) (by omega) (by omega) (fun c => ?_) (fun c => ?_)
      · have hi : i = 10 := by omega
        subst hi
        exact xr_vret C E ⟨rfl, rfl, fA, fun k hk => (hfr k (Nat.ne_of_lt (Nat.lt_of_lt_of_le hk (by decide)))).trans (fW k hk), (hfr 29 (by decide)).trans (s29.trans (show xOb 5 [.int (zI 0), .ref q30, .ref q31, .ref q32, .ref q33, .ref q34, .ref q35, .ref q36, .int (zI 0), .ref q37, .ref q38, .ref q39, .ref q40, .ref q41, .int (zI 0), .int (zI 0), .ref q42, .int (zI 0), .int (zI 0), .ref q43, .int (zI 0), .int (zI 0), .int (zI 0), .ref q44, .ref q45, .ref q46, .ref q47, .ref q48, .ref q49, .ref q50, .ref q51, .ref q52, .ref q53, .ref q54, .int (zI 0)] = mdO ad25 0 0 0 0 0 0 0 false false false by unfold mdO; rw [p30, p31, p32, p33, p34, p35, p36, p37, p38, p39, p40, p41, p42, p43, p44, p45, p46, p47, p48, p49, p50, p51, p52, p53, p54]; rfl)), (hfr 30 (by decide)).trans x30, (hfr 31 (by decide)).trans x31, (hfr 32 (by decide)).trans x32, (hfr 33 (by decide)).trans x33, (hfr 34 (by decide)).trans x34, (hfr 35 (by decide)).trans x35, (hfr 36 (by decide)).trans x36, (hfr 37 (by decide)).trans x37, (hfr 38 (by decide)).trans x38, (hfr 39 (by decide)).trans x39, (hfr 40 (by decide)).trans x40, (hfr 42 (by decide)).trans x42, (hfr 43 (by decide)).trans x43, (hfr 44 (by decide)).trans x44, (hfr 45 (by decide)).trans x45, (hfr 46 (by decide)).trans x46, (hfr 47 (by decide)).trans x47, (hfr 48 (by decide)).trans x48, (hfr 49 (by decide)).trans x49, (hfr 50 (by decide)).trans x50, (hfr 51 (by decide)).trans x51, (hfr 52 (by decide)).trans x52, (hfr 53 (by decide)).trans x53, (hfr 54 (by decide)).trans x54, f1, h41, hf, hf2⟩ (by decide) (by decide) d_Md_init_241
      · refine xr_aload_n C 0 d_Md_init_228 rfl hl0 ?_
        refine xr_getq (k := 29) C p29 xg_Md_44 ((hfr 29 (by decide)).trans s29) (by decide) rfl d_Md_init_229 ?_
        refine xr_iload_n C 1 d_Md_init_232 rfl hl1 ?_
        refine xr_iconst C d_Md_init_233 ?_
        refine xz_iastq (k := 41) C p41 h41 (by decide) (by omega) (by decide) d_Md_init_234 ?_
        refine xr_iinc C d_Md_init_235 (by decide) hl1 ?_
        refine xr_goto (tgt := 222) C d_Md_init_238 (by decide) ?_
        refine ih (i + 1) _ _ _ (by omega) (by omega) va_eq (fun j hj => ?_) (fun j hj => ?_) (fun j hj => (va_ne hj).trans (hfr j hj)) hl0 rfl
        · by_cases q : j = (i : Int).toNat
          · rw [q, va_eq]
          · rw [va_ne q]; exact hf j (by omega)
        · rw [va_ne (by omega)]; exact hf2 j hj
  refine xr_iconst C d_Md_init_220 ?_
  refine xr_istore_n C 1 d_Md_init_221 rfl (by decide) ?_
  exact lp 11 0 _ _ _ (by decide) (by decide) x41 (fun j hj => absurd hj (Nat.not_lt_zero _)) (fun j hj => rfl) (fun j hj => rfl) rfl rfl
