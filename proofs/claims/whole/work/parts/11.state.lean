/-! the world: its places. 0 RuleSteps, 1 Trees (arrays 2..11), 12 Rules (13..18), 19 Runner (20..24), 25 and 27 Rows (26, 28), 29 the model (30..54), 55 the law's long[1] -/
def xrm (d mc ms : Nat) : Room := { frames := d, cells := mc, slots := ms, locals := 40 * d }
def xF : xPosx := fun _ _ _ _ => False
def xPure (n : Nat) (ad : Nat → Nat) (w : Nat → va_E) (r : Value) : xPost := fun v n' ad' w' => n = n' ∧ ad = ad' ∧ w = w' ∧ v = some r
def xVoid (n : Nat) (ad : Nat → Nat) (q : (Nat → va_E) → Prop) : xPost := fun v n' ad' w' => n = n' ∧ ad = ad' ∧ v = none ∧ q w'
def xRet (n : Nat) (ad : Nat → Nat) (q : Int → (Nat → va_E) → Prop) : xPost := fun v n' ad' w' => n = n' ∧ ad = ad' ∧ ∃ z : Int, v = some (.int (zI z)) ∧ q z w'
theorem xb_v1 {p : Prop} [Decidable p] (h : p) : some (Value.int (zI 1)) = some (.int (zI (xb (decide p)))) := by rw [decide_eq_true h]; rfl
theorem xb_v0 {p : Prop} [Decidable p] (h : ¬ p) : some (Value.int (zI 0)) = some (.int (zI (xb (decide p)))) := by rw [decide_eq_false h]; rfl
theorem xv_eq {x y : Int} (h : x = y) : some (Value.int (zI x)) = some (.int (zI y)) := by rw [h]
def trO (ad : Nat → Nat) (t : Int) : va_E := xOb 3 [.ref (ad 2), .ref (ad 3), .ref (ad 4), .ref (ad 5), .ref (ad 6), .ref (ad 7), .ref (ad 8), .ref (ad 9), .ref (ad 10), .ref (ad 11), .int (zI t)]
def ruO (ad : Nat → Nat) (r : Int) : va_E := xOb 1 [.ref (ad 13), .ref (ad 14), .ref (ad 15), .ref (ad 16), .ref (ad 17), .ref (ad 18), .int (zI r)]
def rnO (ad : Nat → Nat) (sp pl le md : Int) (mo : Bool) : va_E := xOb 2 [.ref (ad 1), .ref (ad 12), .ref (ad 20), .ref (ad 21), .ref (ad 22), .int (zI sp), .int (zI pl), .int (zI le), .ref (ad 23), .ref (ad 24), .int (zI md), .int (zI (xb mo))]
def rsO (ad : Nat → Nat) (kp sp : Nat) (ls : Int) (se : Bool) : va_E := xOb 4 [.ref (ad 1), .ref (ad 12), .ref (ad 19), .ref (ad kp), .ref (ad sp), .int (zI ls), .int (zI (xb se))]
def roO (ad : Nat → Nat) (k : Nat) (sz : Int) : va_E := xOb 0 [.ref (ad (k + 1)), .int (zI sz)]
def mdO (ad : Nat → Nat) (tr ru ro sp nr ns th : Int) (se fa so : Bool) : va_E := xOb 5 [.int (zI tr), .ref (ad 30), .ref (ad 31), .ref (ad 32), .ref (ad 33), .ref (ad 34), .ref (ad 35), .ref (ad 36), .int (zI ru), .ref (ad 37), .ref (ad 38), .ref (ad 39), .ref (ad 40), .ref (ad 41), .int (zI ro), .int (zI sp), .ref (ad 42), .int (zI nr), .int (zI ns), .ref (ad 43), .int (zI (xb se)), .int (zI (xb fa)), .int (zI th), .ref (ad 44), .ref (ad 45), .ref (ad 46), .ref (ad 47), .ref (ad 48), .ref (ad 49), .ref (ad 50), .ref (ad 51), .ref (ad 52), .ref (ad 53), .ref (ad 54), .int (zI (xb so))]
theorem xat_IA : ∀ q ∈ vx_atS R_RS 54 "java/lang/IllegalArgumentException" ["java/lang/RuntimeException", "java/lang/Exception"], q ∈ xTs ∨ q = Cond.castable "java/lang/IllegalArgumentException" "java/lang/IllegalArgumentException" ∨ q ∈ xSup.map (fun q9 => Cond.declares ⟨q9, "<init>", "(Ljava/lang/String;)V"⟩) := by decide +kernel
theorem xat_IS : ∀ q ∈ vx_atS R_RS 175 "java/lang/IllegalStateException" ["java/lang/RuntimeException", "java/lang/Exception"], q ∈ xTs ∨ q = Cond.castable "java/lang/IllegalStateException" "java/lang/IllegalStateException" ∨ q ∈ xSup.map (fun q9 => Cond.declares ⟨q9, "<init>", "(Ljava/lang/String;)V"⟩) := by decide +kernel
theorem xat_IO : ∀ q ∈ vx_atS R_RS 132 "java/lang/IndexOutOfBoundsException" ["java/lang/RuntimeException", "java/lang/Exception"], q ∈ xTs ∨ q = Cond.castable "java/lang/IndexOutOfBoundsException" "java/lang/IndexOutOfBoundsException" ∨ q ∈ xSup.map (fun q9 => Cond.declares ⟨q9, "<init>", "(Ljava/lang/String;)V"⟩) := by decide +kernel
