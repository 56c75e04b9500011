/-! ONE list of words for all methods; what a place of a pool means -/
def xTs : List Cond := lw_tbl.filter goodWord
theorem xw_mem {w : Cond} (i : Nat) (h : tables_1[i]? = some w) (hg : goodWord w = true) : w ∈ xTs := List.mem_filter.mpr ⟨List.mem_append_right _ (List.mem_of_getElem? h), hg⟩
theorem xw_sel {w : Cond} (i : Nat) (h : (k2_sels lw_privs)[i]? = some w) (hg : goodWord w = true) : w ∈ xTs := List.mem_filter.mpr ⟨List.mem_append_left _ (List.mem_of_getElem? h), hg⟩
/-- a field by its place in the pool of own: it is the fi-th of the ci-th of ours -/
def xFld (own : String) (index ci fi : Nat) (fin : Bool) (ty : FieldType) : Prop := ∃ (C : String) (T : u_T) (N : Nat) (ty0 : Nat → FieldType), vwCl[ci]? = some (C, T, N) ∧ (∀ w ∈ u_ws C T N, w ∈ xTs) ∧ fi < N ∧ Cond.fieldLink own index (T fi).1 (T fi).2.1 (T fi).2.2.1 ∈ xTs ∧ parseFieldDescriptor (T fi).2.2.1 = some ty ∧ (T fi).2.2.2 = fin ∧ (∀ k, k < N → parseFieldDescriptor (T k).2.2.1 = some (ty0 k)) ∧ (∀ a, a < N → ∀ b, b < N → a ≠ b → (T a).2.1 ≠ (T b).2.1) ∧ (fin = true → (T fi).1 = own)
/-- enough of it for a read -/
def xFldR (own : String) (index ci fi : Nat) : Prop := ∃ (C : String) (T : u_T) (N : Nat), vwCl[ci]? = some (C, T, N) ∧ (∀ w ∈ u_ws C T N, w ∈ xTs) ∧ fi < N ∧ Cond.fieldLink own index (T fi).1 (T fi).2.1 (T fi).2.2.1 ∈ xTs
/-- a method by its place in the pool of own -/
def xMw (own : String) (index : Nat) (y : MethodName) (bytes : ByteArray) (maxL : Nat) (ret : Option FieldType) (k : Nat) : Prop := (y.cls ≠ "java/lang/invoke/MethodHandle" ∧ y.cls ≠ "java/lang/invoke/VarHandle" ∧ (parseMethodDescriptor y.desc).map (fun d => d.parameters.length) = some k) ∧ Cond.methodLink own index y ∈ xTs ∧ Cond.initialized y.cls ∈ xTs ∧ Cond.code y bytes maxL ret ∈ xTs
