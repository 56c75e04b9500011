theorem xr_eqz {G : xG} {n : Nat} {ad : Nat → Nat} {w : Nat → va_E} {a b pc : Nat} {lv : Nat → Option Value} {st : List Value} {x y : Int} (h : x = y) (K : XW G n ad w a b pc lv (.int (zI y) :: st)) : XW G n ad w a b pc lv (.int (zI x) :: st) := by
  rw [h]
  exact K
/-- a mask of six -/
def hbS (f : Nat → Bool) : Nat → Int
  | 0 => 0
  | k + 1 => hbS f k + (if f k then 2 ^ k else 0)
theorem hbS_in (f : Nat → Bool) (k : Nat) : 0 ≤ hbS f k ∧ hbS f k < 2 ^ k := by
  induction k with
  | zero => simp [hbS]
  | succ k ih =>
    have h2 : (2 : Int) ^ (k + 1) = 2 ^ k + 2 ^ k := by rw [Int.pow_succ]; omega
    simp only [hbS]
    rw [h2]
    split <;> omega
theorem zI_shl1 {i : Nat} (h : i < 6) : zI 1 <<< (zI (i : Int) &&& 31) = zI (2 ^ i) := by
  have : ∀ i : Fin 6, zI 1 <<< (zI ((i : Nat) : Int) &&& 31) = zI (2 ^ (i : Nat)) := by decide
  exact this ⟨i, h⟩
theorem zI_orp {i : Nat} {m : Int} (h : i < 6) (hm : 0 ≤ m ∧ m < 2 ^ i) : zI m ||| zI (2 ^ i) = zI (m + 2 ^ i) := by
  have : ∀ i : Fin 6, ∀ m : Fin 64, (m : Nat) < 2 ^ (i : Nat) → zI ((m : Nat) : Int) ||| zI (2 ^ (i : Nat)) = zI (((m : Nat) : Int) + 2 ^ (i : Nat)) := by decide
  have h64 : (2 : Int) ^ i ≤ 32 := by
    have : ∀ i : Fin 6, (2 : Int) ^ (i : Nat) ≤ 32 := by decide
    exact this ⟨i, h⟩
  have hc : ((2 ^ i : Nat) : Int) = 2 ^ i := by simp
  have e := this ⟨i, h⟩ ⟨m.toNat, by omega⟩ (by show m.toNat < 2 ^ i; omega)
  have em : ((m.toNat : Nat) : Int) = m := by omega
  simp only [em] at e
  exact e
theorem zI_or0 (m : Int) : zI m ||| zI 0 = zI m := by
  show zI m ||| 0 = zI m
  exact Int32.or_zero
/-- how often hole h stands in the tree x, out of the counts of its parts -/
def tmH (mk fs sn hc : Nat → Int) (x h : Nat) : Int := (if mk x = 100 + (h : Int) then 1 else 0) + (if fs x < 0 then 0 else hc ((fs x).toNat * 6 + h)) + (if sn x < 0 then 0 else hc ((sn x).toNat * 6 + h))
theorem xj_iald {G : xG} {L : Launch} {D : va_G} {cA : Nat → ClassId} {base : Nat} {cc : ByteArray} {nL : Nat} {own : String} {R : Room} {n : Nat} {ad : Nat → Nat} {w : Nat → va_E} {a b pc : Nat} {lv : Nat → Option Value} {st : List Value} (C : XC G L D cA base cc nL own R) {k N : Nat} {f : Nat → Int} {i : Int} (j : Nat) (hi : i = (j : Int)) (hw : w k = xIA (cA 0) N f) (hk : k < n) (hj : j < N) (hN : N < 2147483648) (d : decode cc pc = .ok (.iaload, 1))
    (K : XW G n ad w a b (pc + 1) lv (.int (zI (f j)) :: st)) : XW G n ad w a b pc lv (.int (zI i) :: .ref (ad k) :: st) := by
  subst hi
  exact xz_iald C hw hk (by omega) hN d K
theorem xj_zald {G : xG} {L : Launch} {D : va_G} {cA : Nat → ClassId} {base : Nat} {cc : ByteArray} {nL : Nat} {own : String} {R : Room} {n : Nat} {ad : Nat → Nat} {w : Nat → va_E} {a b pc : Nat} {lv : Nat → Option Value} {st : List Value} (C : XC G L D cA base cc nL own R) {k N : Nat} {f : Nat → Int} {i : Int} (j : Nat) (hi : i = (j : Int)) (hw : w k = xIA (cA 1) N f) (hk : k < n) (hj : j < N) (hN : N < 2147483648) (d : decode cc pc = .ok (.baload, 1))
    (K : XW G n ad w a b (pc + 1) lv (.int (zI (f j)) :: st)) : XW G n ad w a b pc lv (.int (zI i) :: .ref (ad k) :: st) := by
  subst hi
  exact xz_zald C hw hk (by omega) hN d K
theorem xj_iast {G : xG} {L : Launch} {D : va_G} {cA : Nat → ClassId} {base : Nat} {cc : ByteArray} {nL : Nat} {own : String} {R : Room} {n : Nat} {ad : Nat → Nat} {w : Nat → va_E} {a b pc : Nat} {lv : Nat → Option Value} {st : List Value} (C : XC G L D cA base cc nL own R) {k N : Nat} {f : Nat → Int} {i x : Int} (j : Nat) (hi : i = (j : Int)) (hw : w k = xIA (cA 0) N f) (hk : k < n) (hj : j < N) (hN : N < 2147483648) (d : decode cc pc = .ok (.iastore, 1))
    (K : XW G n ad (va_up w k (xIA (cA 0) N (va_up f j x))) a b (pc + 1) lv st) : XW G n ad w a b pc lv (.int (zI x) :: .int (zI i) :: .ref (ad k) :: st) := by
  subst hi
  exact xz_iast C hw hk (by omega) hN d K
theorem xj_zast {G : xG} {L : Launch} {D : va_G} {cA : Nat → ClassId} {base : Nat} {cc : ByteArray} {nL : Nat} {own : String} {R : Room} {n : Nat} {ad : Nat → Nat} {w : Nat → va_E} {a b pc : Nat} {lv : Nat → Option Value} {st : List Value} (C : XC G L D cA base cc nL own R) {k N : Nat} {f : Nat → Int} {i x : Int} (j : Nat) (hi : i = (j : Int)) (hw : w k = xIA (cA 1) N f) (hk : k < n) (hj : j < N) (hN : N < 2147483648) (hx9 : x = 0 ∨ x = 1) (d : decode cc pc = .ok (.bastore, 1))
    (K : XW G n ad (va_up w k (xIA (cA 1) N (va_up f j x))) a b (pc + 1) lv st) : XW G n ad w a b pc lv (.int (zI x) :: .int (zI i) :: .ref (ad k) :: st) := by
  subst hi
  exact xz_zast C hw hk (by omega) hN hx9 d K
