/-! the pure steps with what is asked of the end -/
def es (call : Nat → List Value → ev_M → ev_R → ev_M → Prop) (oc : Nat) (cc : ByteArray) (rt : Option FieldType) (am : Nat) (ex : ev_X) (Po : ev_R → ev_M → Prop) (pc : Nat) (L st : List Value) (μ : ev_M) (a : Nat) : Prop := ∃ (rf : ev_R) (μf : ev_M), Po rf μf ∧ ev_Ev call oc cc rt am ex rf μf pc L st μ a
/-- a call answers an int, changes the world -/
def SPi (call : Nat → List Value → ev_M → ev_R → ev_M → Prop) (y : Nat) (as : List Value) (μ : ev_M) (P : Int32 → ev_M → Prop) : Prop := ∃ (x : Int32) (μ2 : ev_M), call y as μ (some (.int x), 0) μ2 ∧ P x μ2
def SPv (call : Nat → List Value → ev_M → ev_R → ev_M → Prop) (y : Nat) (as : List Value) (μ : ev_M) (P : ev_M → Prop) : Prop := ∃ μ2 : ev_M, call y as μ (none, 0) μ2 ∧ P μ2
/-- a call that answers or throws -/
def SPx (call : Nat → List Value → ev_M → ev_R → ev_M → Prop) (y : Nat) (as : List Value) (μ : ev_M) (P : Int32 → ev_M → Prop) (T : Nat → ev_M → Prop) : Prop := (∃ (x : Int32) (μ2 : ev_M), call y as μ (some (.int x), 0) μ2 ∧ P x μ2) ∨ (∃ (E : Nat) (μ2 : ev_M), call y as μ (none, E + 1) μ2 ∧ T E μ2)

section EsRows
variable {call : Nat → List Value → ev_M → ev_R → ev_M → Prop} {oc : Nat} {cc : ByteArray} {rt : Option FieldType} {am : Nat} {ex : ev_X} {Po : ev_R → ev_M → Prop}
theorem es_iconst {pc : Nat} {L st : List Value} {μ : ev_M} {a : Nat} {n : Int} (h0 : decode cc pc = .ok (.iconst n, 1)) (k1 : es call oc cc rt am ex Po (pc + 1) L (.int (Int32.ofInt n) :: st) μ a) : es call oc cc rt am ex Po pc L (st) μ a := by
  obtain ⟨rf, μf, hp, hE⟩ := k1
  exact ⟨rf, μf, hp, ev_iconst h0 hE⟩
theorem es_bipush {pc : Nat} {L st : List Value} {μ : ev_M} {a : Nat} {n : Int} (h0 : decode cc pc = .ok (.bipush n, 2)) (k1 : es call oc cc rt am ex Po (pc + 2) L (.int ((Int8.ofInt n).toInt32) :: st) μ a) : es call oc cc rt am ex Po pc L (st) μ a := by
  obtain ⟨rf, μf, hp, hE⟩ := k1
  exact ⟨rf, μf, hp, ev_bipush h0 hE⟩
theorem es_sipush {pc : Nat} {L st : List Value} {μ : ev_M} {a : Nat} {n : Int} (h0 : decode cc pc = .ok (.sipush n, 3)) (k1 : es call oc cc rt am ex Po (pc + 3) L (.int ((Int16.ofInt n).toInt32) :: st) μ a) : es call oc cc rt am ex Po pc L (st) μ a := by
  obtain ⟨rf, μf, hp, hE⟩ := k1
  exact ⟨rf, μf, hp, ev_sipush h0 hE⟩
theorem es_lconst {pc : Nat} {L st : List Value} {μ : ev_M} {a : Nat} {n : Fin 2} (h0 : decode cc pc = .ok (.lconst n, 1)) (k1 : es call oc cc rt am ex Po (pc + 1) L (.long (Int64.ofNat (n : Nat)) :: st) μ a) : es call oc cc rt am ex Po pc L (st) μ a := by
  obtain ⟨rf, μf, hp, hE⟩ := k1
  exact ⟨rf, μf, hp, ev_lconst h0 hE⟩
theorem es_dconst0 {pc : Nat} {L st : List Value} {μ : ev_M} {a : Nat} (h0 : decode cc pc = .ok (.dconst 0, 1)) (k1 : es call oc cc rt am ex Po (pc + 1) L (.double FP.dconst0 :: st) μ a) : es call oc cc rt am ex Po pc L (st) μ a := by
  obtain ⟨rf, μf, hp, hE⟩ := k1
  exact ⟨rf, μf, hp, ev_dconst0 h0 hE⟩
theorem es_dconst1 {pc : Nat} {L st : List Value} {μ : ev_M} {a : Nat} (h0 : decode cc pc = .ok (.dconst 1, 1)) (k1 : es call oc cc rt am ex Po (pc + 1) L (.double FP.dconst1 :: st) μ a) : es call oc cc rt am ex Po pc L (st) μ a := by
  obtain ⟨rf, μf, hp, hE⟩ := k1
  exact ⟨rf, μf, hp, ev_dconst1 h0 hE⟩
theorem es_ldc {pc : Nat} {L st : List Value} {μ : ev_M} {a : Nat} {i : Nat} {v : Int32} (h0 : decode cc pc = .ok (.ldc i, 2)) (h1 : (ev_ci oc i = some v)) (k2 : es call oc cc rt am ex Po (pc + 2) L (.int v :: st) μ a) : es call oc cc rt am ex Po pc L (st) μ a := by
  obtain ⟨rf, μf, hp, hE⟩ := k2
  exact ⟨rf, μf, hp, ev_ldc h0 h1 hE⟩
theorem es_ldcw {pc : Nat} {L st : List Value} {μ : ev_M} {a : Nat} {i : Nat} {v : Int32} (h0 : decode cc pc = .ok (.ldc_w i, 3)) (h1 : (ev_ci oc i = some v)) (k2 : es call oc cc rt am ex Po (pc + 3) L (.int v :: st) μ a) : es call oc cc rt am ex Po pc L (st) μ a := by
  obtain ⟨rf, μf, hp, hE⟩ := k2
  exact ⟨rf, μf, hp, ev_ldcw h0 h1 hE⟩
theorem es_ldc2 {pc : Nat} {L st : List Value} {μ : ev_M} {a : Nat} {i : Nat} {v : Int64} (h0 : decode cc pc = .ok (.ldc2_w i, 3)) (h1 : (ev_cl oc i = some v)) (k2 : es call oc cc rt am ex Po (pc + 3) L (.long v :: st) μ a) : es call oc cc rt am ex Po pc L (st) μ a := by
  obtain ⟨rf, μf, hp, hE⟩ := k2
  exact ⟨rf, μf, hp, ev_ldc2 h0 h1 hE⟩
theorem es_ldc2d {pc : Nat} {L st : List Value} {μ : ev_M} {a : Nat} {i : Nat} {v : UInt64} (h0 : decode cc pc = .ok (.ldc2_w i, 3)) (h1 : (ev_cd oc i = some v)) (k2 : es call oc cc rt am ex Po (pc + 3) L (.double v :: st) μ a) : es call oc cc rt am ex Po pc L (st) μ a := by
  obtain ⟨rf, μf, hp, hE⟩ := k2
  exact ⟨rf, μf, hp, ev_ldc2d h0 h1 hE⟩
theorem es_iload_n {pc : Nat} {L st : List Value} {μ : ev_M} {a : Nat} {k : Fin 4} {x : Int32} (h0 : decode cc pc = .ok (.iload_n k, 1)) (h1 : (L[(k : Nat)]? = some (.int x))) (k2 : es call oc cc rt am ex Po (pc + 1) L (.int x :: st) μ a) : es call oc cc rt am ex Po pc L (st) μ a := by
  obtain ⟨rf, μf, hp, hE⟩ := k2
  exact ⟨rf, μf, hp, ev_iload_n h0 h1 hE⟩
theorem es_iload {pc : Nat} {L st : List Value} {μ : ev_M} {a : Nat} {k : Nat} {x : Int32} (h0 : decode cc pc = .ok (.iload k, 2)) (h1 : (L[k]? = some (.int x))) (k2 : es call oc cc rt am ex Po (pc + 2) L (.int x :: st) μ a) : es call oc cc rt am ex Po pc L (st) μ a := by
  obtain ⟨rf, μf, hp, hE⟩ := k2
  exact ⟨rf, μf, hp, ev_iload h0 h1 hE⟩
theorem es_lload_n {pc : Nat} {L st : List Value} {μ : ev_M} {a : Nat} {k : Fin 4} {x : Int64} (h0 : decode cc pc = .ok (.lload_n k, 1)) (h1 : (L[(k : Nat)]? = some (.long x))) (k2 : es call oc cc rt am ex Po (pc + 1) L (.long x :: st) μ a) : es call oc cc rt am ex Po pc L (st) μ a := by
  obtain ⟨rf, μf, hp, hE⟩ := k2
  exact ⟨rf, μf, hp, ev_lload_n h0 h1 hE⟩
theorem es_lload {pc : Nat} {L st : List Value} {μ : ev_M} {a : Nat} {k : Nat} {x : Int64} (h0 : decode cc pc = .ok (.lload k, 2)) (h1 : (L[k]? = some (.long x))) (k2 : es call oc cc rt am ex Po (pc + 2) L (.long x :: st) μ a) : es call oc cc rt am ex Po pc L (st) μ a := by
  obtain ⟨rf, μf, hp, hE⟩ := k2
  exact ⟨rf, μf, hp, ev_lload h0 h1 hE⟩
theorem es_dload_n {pc : Nat} {L st : List Value} {μ : ev_M} {a : Nat} {k : Fin 4} {x : UInt64} (h0 : decode cc pc = .ok (.dload_n k, 1)) (h1 : (L[(k : Nat)]? = some (.double x))) (k2 : es call oc cc rt am ex Po (pc + 1) L (.double x :: st) μ a) : es call oc cc rt am ex Po pc L (st) μ a := by
  obtain ⟨rf, μf, hp, hE⟩ := k2
  exact ⟨rf, μf, hp, ev_dload_n h0 h1 hE⟩
theorem es_dload {pc : Nat} {L st : List Value} {μ : ev_M} {a : Nat} {k : Nat} {x : UInt64} (h0 : decode cc pc = .ok (.dload k, 2)) (h1 : (L[k]? = some (.double x))) (k2 : es call oc cc rt am ex Po (pc + 2) L (.double x :: st) μ a) : es call oc cc rt am ex Po pc L (st) μ a := by
  obtain ⟨rf, μf, hp, hE⟩ := k2
  exact ⟨rf, μf, hp, ev_dload h0 h1 hE⟩
theorem es_aload_n {pc : Nat} {L st : List Value} {μ : ev_M} {a : Nat} {k : Fin 4} {x : Nat} (h0 : decode cc pc = .ok (.aload_n k, 1)) (h1 : (L[(k : Nat)]? = some (.ref x))) (k2 : es call oc cc rt am ex Po (pc + 1) L (.ref x :: st) μ a) : es call oc cc rt am ex Po pc L (st) μ a := by
  obtain ⟨rf, μf, hp, hE⟩ := k2
  exact ⟨rf, μf, hp, ev_aload_n h0 h1 hE⟩
theorem es_aload {pc : Nat} {L st : List Value} {μ : ev_M} {a : Nat} {k : Nat} {x : Nat} (h0 : decode cc pc = .ok (.aload k, 2)) (h1 : (L[k]? = some (.ref x))) (k2 : es call oc cc rt am ex Po (pc + 2) L (.ref x :: st) μ a) : es call oc cc rt am ex Po pc L (st) μ a := by
  obtain ⟨rf, μf, hp, hE⟩ := k2
  exact ⟨rf, μf, hp, ev_aload h0 h1 hE⟩
theorem es_istore_n {pc : Nat} {L st : List Value} {μ : ev_M} {a : Nat} {k : Fin 4} {x : Int32} (h0 : decode cc pc = .ok (.istore_n k, 1)) (h1 : (ev_ok1 L (k : Nat))) (k2 : es call oc cc rt am ex Po (pc + 1) (L.set (k : Nat) (.int x)) (st) μ a) : es call oc cc rt am ex Po pc L (.int x :: st) μ a := by
  obtain ⟨rf, μf, hp, hE⟩ := k2
  exact ⟨rf, μf, hp, ev_istore_n h0 h1 hE⟩
theorem es_istore {pc : Nat} {L st : List Value} {μ : ev_M} {a : Nat} {k : Nat} {x : Int32} (h0 : decode cc pc = .ok (.istore k, 2)) (h1 : (ev_ok1 L k)) (k2 : es call oc cc rt am ex Po (pc + 2) (L.set k (.int x)) (st) μ a) : es call oc cc rt am ex Po pc L (.int x :: st) μ a := by
  obtain ⟨rf, μf, hp, hE⟩ := k2
  exact ⟨rf, μf, hp, ev_istore h0 h1 hE⟩
theorem es_astore_n {pc : Nat} {L st : List Value} {μ : ev_M} {a : Nat} {k : Fin 4} {x : Nat} (h0 : decode cc pc = .ok (.astore_n k, 1)) (h1 : (ev_ok1 L (k : Nat))) (k2 : es call oc cc rt am ex Po (pc + 1) (L.set (k : Nat) (.ref x)) (st) μ a) : es call oc cc rt am ex Po pc L (.ref x :: st) μ a := by
  obtain ⟨rf, μf, hp, hE⟩ := k2
  exact ⟨rf, μf, hp, ev_astore_n h0 h1 hE⟩
theorem es_astore {pc : Nat} {L st : List Value} {μ : ev_M} {a : Nat} {k : Nat} {x : Nat} (h0 : decode cc pc = .ok (.astore k, 2)) (h1 : (ev_ok1 L k)) (k2 : es call oc cc rt am ex Po (pc + 2) (L.set k (.ref x)) (st) μ a) : es call oc cc rt am ex Po pc L (.ref x :: st) μ a := by
  obtain ⟨rf, μf, hp, hE⟩ := k2
  exact ⟨rf, μf, hp, ev_astore h0 h1 hE⟩
theorem es_lstore_n {pc : Nat} {L st : List Value} {μ : ev_M} {a : Nat} {k : Fin 4} {x : Int64} (h0 : decode cc pc = .ok (.lstore_n k, 1)) (h1 : (ev_ok2 L (k : Nat))) (k2 : es call oc cc rt am ex Po (pc + 1) ((L.set (k : Nat) (.long x)).set ((k : Nat) + 1) .null) (st) μ a) : es call oc cc rt am ex Po pc L (.long x :: st) μ a := by
  obtain ⟨rf, μf, hp, hE⟩ := k2
  exact ⟨rf, μf, hp, ev_lstore_n h0 h1 hE⟩
theorem es_lstore {pc : Nat} {L st : List Value} {μ : ev_M} {a : Nat} {k : Nat} {x : Int64} (h0 : decode cc pc = .ok (.lstore k, 2)) (h1 : (ev_ok2 L k)) (k2 : es call oc cc rt am ex Po (pc + 2) ((L.set k (.long x)).set (k + 1) .null) (st) μ a) : es call oc cc rt am ex Po pc L (.long x :: st) μ a := by
  obtain ⟨rf, μf, hp, hE⟩ := k2
  exact ⟨rf, μf, hp, ev_lstore h0 h1 hE⟩
theorem es_dstore_n {pc : Nat} {L st : List Value} {μ : ev_M} {a : Nat} {k : Fin 4} {x : UInt64} (h0 : decode cc pc = .ok (.dstore_n k, 1)) (h1 : (ev_ok2 L (k : Nat))) (k2 : es call oc cc rt am ex Po (pc + 1) ((L.set (k : Nat) (.double x)).set ((k : Nat) + 1) .null) (st) μ a) : es call oc cc rt am ex Po pc L (.double x :: st) μ a := by
  obtain ⟨rf, μf, hp, hE⟩ := k2
  exact ⟨rf, μf, hp, ev_dstore_n h0 h1 hE⟩
theorem es_dstore {pc : Nat} {L st : List Value} {μ : ev_M} {a : Nat} {k : Nat} {x : UInt64} (h0 : decode cc pc = .ok (.dstore k, 2)) (h1 : (ev_ok2 L k)) (k2 : es call oc cc rt am ex Po (pc + 2) ((L.set k (.double x)).set (k + 1) .null) (st) μ a) : es call oc cc rt am ex Po pc L (.double x :: st) μ a := by
  obtain ⟨rf, μf, hp, hE⟩ := k2
  exact ⟨rf, μf, hp, ev_dstore h0 h1 hE⟩
theorem es_iinc {pc : Nat} {L st : List Value} {μ : ev_M} {a : Nat} {k : Nat} {n : Int} {x : Int32} (h0 : decode cc pc = .ok (.iinc k n, 3)) (h1 : (L[k]? = some (.int x))) (h2 : (ev_ok1 L k)) (k3 : es call oc cc rt am ex Po (pc + 3) (L.set k (.int (x + Int32.ofInt n))) (st) μ a) : es call oc cc rt am ex Po pc L (st) μ a := by
  obtain ⟨rf, μf, hp, hE⟩ := k3
  exact ⟨rf, μf, hp, ev_iinc h0 h1 h2 hE⟩
theorem es_iadd {pc : Nat} {L st : List Value} {μ : ev_M} {a : Nat} {x y : Int32} (h0 : decode cc pc = .ok (.iadd, 1)) (k1 : es call oc cc rt am ex Po (pc + 1) L (.int (x + y) :: st) μ a) : es call oc cc rt am ex Po pc L (.int y :: .int x :: st) μ a := by
  obtain ⟨rf, μf, hp, hE⟩ := k1
  exact ⟨rf, μf, hp, ev_iadd h0 hE⟩
theorem es_isub {pc : Nat} {L st : List Value} {μ : ev_M} {a : Nat} {x y : Int32} (h0 : decode cc pc = .ok (.isub, 1)) (k1 : es call oc cc rt am ex Po (pc + 1) L (.int (x - y) :: st) μ a) : es call oc cc rt am ex Po pc L (.int y :: .int x :: st) μ a := by
  obtain ⟨rf, μf, hp, hE⟩ := k1
  exact ⟨rf, μf, hp, ev_isub h0 hE⟩
theorem es_imul {pc : Nat} {L st : List Value} {μ : ev_M} {a : Nat} {x y : Int32} (h0 : decode cc pc = .ok (.imul, 1)) (k1 : es call oc cc rt am ex Po (pc + 1) L (.int (x * y) :: st) μ a) : es call oc cc rt am ex Po pc L (.int y :: .int x :: st) μ a := by
  obtain ⟨rf, μf, hp, hE⟩ := k1
  exact ⟨rf, μf, hp, ev_imul h0 hE⟩
theorem es_iand {pc : Nat} {L st : List Value} {μ : ev_M} {a : Nat} {x y : Int32} (h0 : decode cc pc = .ok (.iand, 1)) (k1 : es call oc cc rt am ex Po (pc + 1) L (.int (x &&& y) :: st) μ a) : es call oc cc rt am ex Po pc L (.int y :: .int x :: st) μ a := by
  obtain ⟨rf, μf, hp, hE⟩ := k1
  exact ⟨rf, μf, hp, ev_iand h0 hE⟩
theorem es_ior {pc : Nat} {L st : List Value} {μ : ev_M} {a : Nat} {x y : Int32} (h0 : decode cc pc = .ok (.ior, 1)) (k1 : es call oc cc rt am ex Po (pc + 1) L (.int (x ||| y) :: st) μ a) : es call oc cc rt am ex Po pc L (.int y :: .int x :: st) μ a := by
  obtain ⟨rf, μf, hp, hE⟩ := k1
  exact ⟨rf, μf, hp, ev_ior h0 hE⟩
theorem es_ishl {pc : Nat} {L st : List Value} {μ : ev_M} {a : Nat} {x y : Int32} (h0 : decode cc pc = .ok (.ishl, 1)) (k1 : es call oc cc rt am ex Po (pc + 1) L (.int (x <<< (y &&& 31)) :: st) μ a) : es call oc cc rt am ex Po pc L (.int y :: .int x :: st) μ a := by
  obtain ⟨rf, μf, hp, hE⟩ := k1
  exact ⟨rf, μf, hp, ev_ishl h0 hE⟩
theorem es_ishr {pc : Nat} {L st : List Value} {μ : ev_M} {a : Nat} {x y : Int32} (h0 : decode cc pc = .ok (.ishr, 1)) (k1 : es call oc cc rt am ex Po (pc + 1) L (.int (x >>> (y &&& 31)) :: st) μ a) : es call oc cc rt am ex Po pc L (.int y :: .int x :: st) μ a := by
  obtain ⟨rf, μf, hp, hE⟩ := k1
  exact ⟨rf, μf, hp, ev_ishr h0 hE⟩
theorem es_iushr {pc : Nat} {L st : List Value} {μ : ev_M} {a : Nat} {x y : Int32} (h0 : decode cc pc = .ok (.iushr, 1)) (k1 : es call oc cc rt am ex Po (pc + 1) L (.int (x.toUInt32 >>> (y.toUInt32 &&& Int32.toUInt32 31)).toInt32 :: st) μ a) : es call oc cc rt am ex Po pc L (.int y :: .int x :: st) μ a := by
  obtain ⟨rf, μf, hp, hE⟩ := k1
  exact ⟨rf, μf, hp, ev_iushr h0 hE⟩
theorem es_idiv {pc : Nat} {L st : List Value} {μ : ev_M} {a : Nat} {x y : Int32} (h0 : decode cc pc = .ok (.idiv, 1)) (h1 : (¬ y = 0)) (k2 : es call oc cc rt am ex Po (pc + 1) L (.int (x / y) :: st) μ a) : es call oc cc rt am ex Po pc L (.int y :: .int x :: st) μ a := by
  obtain ⟨rf, μf, hp, hE⟩ := k2
  exact ⟨rf, μf, hp, ev_idiv h0 h1 hE⟩
theorem es_irem {pc : Nat} {L st : List Value} {μ : ev_M} {a : Nat} {x y : Int32} (h0 : decode cc pc = .ok (.irem, 1)) (h1 : (¬ y = 0)) (k2 : es call oc cc rt am ex Po (pc + 1) L (.int (x - x / y * y) :: st) μ a) : es call oc cc rt am ex Po pc L (.int y :: .int x :: st) μ a := by
  obtain ⟨rf, μf, hp, hE⟩ := k2
  exact ⟨rf, μf, hp, ev_irem h0 h1 hE⟩
theorem es_ineg {pc : Nat} {L st : List Value} {μ : ev_M} {a : Nat} {x : Int32} (h0 : decode cc pc = .ok (.ineg, 1)) (k1 : es call oc cc rt am ex Po (pc + 1) L (.int (-x) :: st) μ a) : es call oc cc rt am ex Po pc L (.int x :: st) μ a := by
  obtain ⟨rf, μf, hp, hE⟩ := k1
  exact ⟨rf, μf, hp, ev_ineg h0 hE⟩
theorem es_ladd {pc : Nat} {L st : List Value} {μ : ev_M} {a : Nat} {x y : Int64} (h0 : decode cc pc = .ok (.ladd, 1)) (k1 : es call oc cc rt am ex Po (pc + 1) L (.long (x + y) :: st) μ a) : es call oc cc rt am ex Po pc L (.long y :: .long x :: st) μ a := by
  obtain ⟨rf, μf, hp, hE⟩ := k1
  exact ⟨rf, μf, hp, ev_ladd h0 hE⟩
theorem es_lsub {pc : Nat} {L st : List Value} {μ : ev_M} {a : Nat} {x y : Int64} (h0 : decode cc pc = .ok (.lsub, 1)) (k1 : es call oc cc rt am ex Po (pc + 1) L (.long (x - y) :: st) μ a) : es call oc cc rt am ex Po pc L (.long y :: .long x :: st) μ a := by
  obtain ⟨rf, μf, hp, hE⟩ := k1
  exact ⟨rf, μf, hp, ev_lsub h0 hE⟩
theorem es_lmul {pc : Nat} {L st : List Value} {μ : ev_M} {a : Nat} {x y : Int64} (h0 : decode cc pc = .ok (.lmul, 1)) (k1 : es call oc cc rt am ex Po (pc + 1) L (.long (x * y) :: st) μ a) : es call oc cc rt am ex Po pc L (.long y :: .long x :: st) μ a := by
  obtain ⟨rf, μf, hp, hE⟩ := k1
  exact ⟨rf, μf, hp, ev_lmul h0 hE⟩
theorem es_lshl {pc : Nat} {L st : List Value} {μ : ev_M} {a : Nat} {x : Int64} {y : Int32} (h0 : decode cc pc = .ok (.lshl, 1)) (k1 : es call oc cc rt am ex Po (pc + 1) L (.long (x <<< (y.toInt64 &&& 63)) :: st) μ a) : es call oc cc rt am ex Po pc L (.int y :: .long x :: st) μ a := by
  obtain ⟨rf, μf, hp, hE⟩ := k1
  exact ⟨rf, μf, hp, ev_lshl h0 hE⟩
theorem es_lcmp {pc : Nat} {L st : List Value} {μ : ev_M} {a : Nat} {x y : Int64} (h0 : decode cc pc = .ok (.lcmp, 1)) (k1 : es call oc cc rt am ex Po (pc + 1) L (.int (lg_cmp x y) :: st) μ a) : es call oc cc rt am ex Po pc L (.long y :: .long x :: st) μ a := by
  obtain ⟨rf, μf, hp, hE⟩ := k1
  exact ⟨rf, μf, hp, ev_lcmp h0 hE⟩
theorem es_i2l {pc : Nat} {L st : List Value} {μ : ev_M} {a : Nat} {x : Int32} (h0 : decode cc pc = .ok (.i2l, 1)) (k1 : es call oc cc rt am ex Po (pc + 1) L (.long x.toInt64 :: st) μ a) : es call oc cc rt am ex Po pc L (.int x :: st) μ a := by
  obtain ⟨rf, μf, hp, hE⟩ := k1
  exact ⟨rf, μf, hp, ev_i2l h0 hE⟩
theorem es_i2d {pc : Nat} {L st : List Value} {μ : ev_M} {a : Nat} {x : Int32} (h0 : decode cc pc = .ok (.i2d, 1)) (k1 : es call oc cc rt am ex Po (pc + 1) L (.double (FP.i2d x) :: st) μ a) : es call oc cc rt am ex Po pc L (.int x :: st) μ a := by
  obtain ⟨rf, μf, hp, hE⟩ := k1
  exact ⟨rf, μf, hp, ev_i2d h0 hE⟩
theorem es_d2l {pc : Nat} {L st : List Value} {μ : ev_M} {a : Nat} {x : UInt64} (h0 : decode cc pc = .ok (.d2l, 1)) (k1 : es call oc cc rt am ex Po (pc + 1) L (.long (FP.d2l x) :: st) μ a) : es call oc cc rt am ex Po pc L (.double x :: st) μ a := by
  obtain ⟨rf, μf, hp, hE⟩ := k1
  exact ⟨rf, μf, hp, ev_d2l h0 hE⟩
theorem es_dmul {pc : Nat} {L st : List Value} {μ : ev_M} {a : Nat} {x y : UInt64} (h0 : decode cc pc = .ok (.dmul, 1)) (h1 : (vf_n64 (FP.dmul x y))) (k2 : es call oc cc rt am ex Po (pc + 1) L (.double (FP.dmul x y) :: st) μ a) : es call oc cc rt am ex Po pc L (.double y :: .double x :: st) μ a := by
  obtain ⟨rf, μf, hp, hE⟩ := k2
  exact ⟨rf, μf, hp, ev_dmul h0 h1 hE⟩
theorem es_dsub {pc : Nat} {L st : List Value} {μ : ev_M} {a : Nat} {x y : UInt64} (h0 : decode cc pc = .ok (.dsub, 1)) (h1 : (vf_n64 (FP.dsub x y))) (k2 : es call oc cc rt am ex Po (pc + 1) L (.double (FP.dsub x y) :: st) μ a) : es call oc cc rt am ex Po pc L (.double y :: .double x :: st) μ a := by
  obtain ⟨rf, μf, hp, hE⟩ := k2
  exact ⟨rf, μf, hp, ev_dsub h0 h1 hE⟩
theorem es_ddiv {pc : Nat} {L st : List Value} {μ : ev_M} {a : Nat} {x y : UInt64} (h0 : decode cc pc = .ok (.ddiv, 1)) (h1 : (vf_n64 (FP.ddiv x y))) (k2 : es call oc cc rt am ex Po (pc + 1) L (.double (FP.ddiv x y) :: st) μ a) : es call oc cc rt am ex Po pc L (.double y :: .double x :: st) μ a := by
  obtain ⟨rf, μf, hp, hE⟩ := k2
  exact ⟨rf, μf, hp, ev_ddiv h0 h1 hE⟩
theorem es_dcmp {pc : Nat} {L st : List Value} {μ : ev_M} {a : Nat} {x y : UInt64} {op : CmpOp} (h0 : decode cc pc = .ok (.dcmp op, 1)) (k1 : es call oc cc rt am ex Po (pc + 1) L (.int (Op.cmpValue (FP.dcmp x y) op) :: st) μ a) : es call oc cc rt am ex Po pc L (.double y :: .double x :: st) μ a := by
  obtain ⟨rf, μf, hp, hE⟩ := k1
  exact ⟨rf, μf, hp, ev_dcmp h0 hE⟩
theorem es_dup {pc : Nat} {L st : List Value} {μ : ev_M} {a : Nat} {v : Value} (h0 : decode cc pc = .ok (.dup, 1)) (h1 : (v.category = 1)) (k2 : es call oc cc rt am ex Po (pc + 1) L (v :: v :: st) μ a) : es call oc cc rt am ex Po pc L (v :: st) μ a := by
  obtain ⟨rf, μf, hp, hE⟩ := k2
  exact ⟨rf, μf, hp, ev_dup h0 h1 hE⟩
theorem es_dup2 {pc : Nat} {L st : List Value} {μ : ev_M} {a : Nat} {v w : Value} (h0 : decode cc pc = .ok (.dup2, 1)) (h1 : (v.category = 1)) (h2 : (w.category = 1)) (k3 : es call oc cc rt am ex Po (pc + 1) L (v :: w :: v :: w :: st) μ a) : es call oc cc rt am ex Po pc L (v :: w :: st) μ a := by
  obtain ⟨rf, μf, hp, hE⟩ := k3
  exact ⟨rf, μf, hp, ev_dup2 h0 h1 h2 hE⟩
theorem es_pop {pc : Nat} {L st : List Value} {μ : ev_M} {a : Nat} {v : Value} (h0 : decode cc pc = .ok (.pop, 1)) (h1 : (v.category = 1)) (k2 : es call oc cc rt am ex Po (pc + 1) L (st) μ a) : es call oc cc rt am ex Po pc L (v :: st) μ a := by
  obtain ⟨rf, μf, hp, hE⟩ := k2
  exact ⟨rf, μf, hp, ev_pop h0 h1 hE⟩
theorem es_getI {pc : Nat} {L st : List Value} {μ : ev_M} {a : Nat} {i k0 ci k : Nat} (h0 : decode cc pc = .ok (.getfield i, 3)) (h1 : (ev_fr oc i = some (ci, k))) (h2 : (ev_fld k0 ci k = some none)) (k3 : es call oc cc rt am ex Po (pc + 3) L (.int (μ k0 k) :: st) μ a) : es call oc cc rt am ex Po pc L (.ref k0 :: st) μ a := by
  obtain ⟨rf, μf, hp, hE⟩ := k3
  exact ⟨rf, μf, hp, ev_getI h0 h1 h2 hE⟩
theorem es_getR {pc : Nat} {L st : List Value} {μ : ev_M} {a : Nat} {i k0 ci k r : Nat} (h0 : decode cc pc = .ok (.getfield i, 3)) (h1 : (ev_fr oc i = some (ci, k))) (h2 : (ev_fld k0 ci k = some (some r))) (k3 : es call oc cc rt am ex Po (pc + 3) L (.ref r :: st) μ a) : es call oc cc rt am ex Po pc L (.ref k0 :: st) μ a := by
  obtain ⟨rf, μf, hp, hE⟩ := k3
  exact ⟨rf, μf, hp, ev_getR h0 h1 h2 hE⟩
theorem es_putI {pc : Nat} {L st : List Value} {μ : ev_M} {a : Nat} {i k0 ci k : Nat} {x : Int32} (h0 : decode cc pc = .ok (.putfield i, 3)) (h1 : (ev_fr oc i = some (ci, k))) (h2 : (ev_fld k0 ci k = some none)) (k3 : es call oc cc rt am ex Po (pc + 3) L (st) (ev_ms μ k0 k x) a) : es call oc cc rt am ex Po pc L (.int x :: .ref k0 :: st) μ a := by
  obtain ⟨rf, μf, hp, hE⟩ := k3
  exact ⟨rf, μf, hp, ev_putI h0 h1 h2 hE⟩
theorem es_gets {pc : Nat} {L st : List Value} {μ : ev_M} {a : Nat} {i r : Nat} (h0 : decode cc pc = .ok (.getstatic i, 3)) (h1 : (ev_sr oc i = some r)) (k2 : es call oc cc rt am ex Po (pc + 3) L (.ref r :: st) μ a) : es call oc cc rt am ex Po pc L (st) μ a := by
  obtain ⟨rf, μf, hp, hE⟩ := k2
  exact ⟨rf, μf, hp, ev_gets h0 h1 hE⟩
theorem es_iald {pc : Nat} {L st : List Value} {μ : ev_M} {a : Nat} {k0 n i : Nat} {rs : List (Option Nat)} (h0 : decode cc pc = .ok (.iaload, 1)) (h1 : (ev_lay k0 = (1, n, rs))) (h2 : (i < n)) (k3 : es call oc cc rt am ex Po (pc + 1) L (.int (μ k0 i) :: st) μ a) : es call oc cc rt am ex Po pc L (.int (nI i) :: .ref k0 :: st) μ a := by
  obtain ⟨rf, μf, hp, hE⟩ := k3
  exact ⟨rf, μf, hp, ev_iald h0 h1 h2 hE⟩
theorem es_zald {pc : Nat} {L st : List Value} {μ : ev_M} {a : Nat} {k0 n i : Nat} {rs : List (Option Nat)} (h0 : decode cc pc = .ok (.baload, 1)) (h1 : (ev_lay k0 = (2, n, rs))) (h2 : (i < n)) (k3 : es call oc cc rt am ex Po (pc + 1) L (.int (μ k0 i) :: st) μ a) : es call oc cc rt am ex Po pc L (.int (nI i) :: .ref k0 :: st) μ a := by
  obtain ⟨rf, μf, hp, hE⟩ := k3
  exact ⟨rf, μf, hp, ev_zald h0 h1 h2 hE⟩
theorem es_aald {pc : Nat} {L st : List Value} {μ : ev_M} {a : Nat} {k0 n i r : Nat} {rs : List (Option Nat)} (h0 : decode cc pc = .ok (.aaload, 1)) (h1 : (ev_lay k0 = (3, n, rs))) (h2 : (i < n)) (h3 : (rs.getD i none = some r)) (k4 : es call oc cc rt am ex Po (pc + 1) L (.ref r :: st) μ a) : es call oc cc rt am ex Po pc L (.int (nI i) :: .ref k0 :: st) μ a := by
  obtain ⟨rf, μf, hp, hE⟩ := k4
  exact ⟨rf, μf, hp, ev_aald h0 h1 h2 h3 hE⟩
theorem es_aaldq {pc : Nat} {L st : List Value} {μ : ev_M} {a : Nat} {k0 n i r : Nat} {rs : List (Option Nat)} (h0 : decode cc pc = .ok (.aaload, 1)) (h1 : (ev_lay k0 = (5, n, rs))) (h2 : (i < n)) (h3 : (rs.getD i none = some r)) (k4 : es call oc cc rt am ex Po (pc + 1) L (.ref r :: st) μ a) : es call oc cc rt am ex Po pc L (.int (nI i) :: .ref k0 :: st) μ a := by
  obtain ⟨rf, μf, hp, hE⟩ := k4
  exact ⟨rf, μf, hp, ev_aaldq h0 h1 h2 h3 hE⟩
theorem es_iast {pc : Nat} {L st : List Value} {μ : ev_M} {a : Nat} {k0 n i : Nat} {rs : List (Option Nat)} {x : Int32} (h0 : decode cc pc = .ok (.iastore, 1)) (h1 : (ev_lay k0 = (1, n, rs))) (h2 : (i < n)) (k3 : es call oc cc rt am ex Po (pc + 1) L (st) (ev_ms μ k0 i x) a) : es call oc cc rt am ex Po pc L (.int x :: .int (nI i) :: .ref k0 :: st) μ a := by
  obtain ⟨rf, μf, hp, hE⟩ := k3
  exact ⟨rf, μf, hp, ev_iast h0 h1 h2 hE⟩
theorem es_zast {pc : Nat} {L st : List Value} {μ : ev_M} {a : Nat} {k0 n i : Nat} {rs : List (Option Nat)} {x : Int32} (h0 : decode cc pc = .ok (.bastore, 1)) (h1 : (ev_lay k0 = (2, n, rs))) (h2 : (i < n)) (h3 : (vp_nar .boolean x = x)) (k4 : es call oc cc rt am ex Po (pc + 1) L (st) (ev_ms μ k0 i x) a) : es call oc cc rt am ex Po pc L (.int x :: .int (nI i) :: .ref k0 :: st) μ a := by
  obtain ⟨rf, μf, hp, hE⟩ := k4
  exact ⟨rf, μf, hp, ev_zast h0 h1 h2 h3 hE⟩
theorem es_sald {pc : Nat} {L st : List Value} {μ : ev_M} {a : Nat} {i : Nat} (h0 : decode cc pc = .ok (.iaload, 1)) (h1 : (i + 1 < ex.1)) (k2 : es call oc cc rt am ex Po (pc + 1) L (.int (ex.2.1 i) :: st) μ a) : es call oc cc rt am ex Po pc L (.int (nI i) :: .ref 200 :: st) μ a := by
  obtain ⟨rf, μf, hp, hE⟩ := k2
  exact ⟨rf, μf, hp, ev_sald h0 h1 hE⟩
theorem es_slen {pc : Nat} {L st : List Value} {μ : ev_M} {a : Nat} (h0 : decode cc pc = .ok (.arraylength, 1)) (h1 : (0 < ex.1)) (k2 : es call oc cc rt am ex Po (pc + 1) L (.int (nI (ex.1 - 1)) :: st) μ a) : es call oc cc rt am ex Po pc L (.ref 200 :: st) μ a := by
  obtain ⟨rf, μf, hp, hE⟩ := k2
  exact ⟨rf, μf, hp, ev_slen h0 h1 hE⟩
theorem es_tald {pc : Nat} {L st : List Value} {μ : ev_M} {a : Nat} {r i : Nat} {v : Int32} (h0 : decode cc pc = .ok (.iaload, 1)) (h1 : (ev_st r i = some v)) (k2 : es call oc cc rt am ex Po (pc + 1) L (.int v :: st) μ a) : es call oc cc rt am ex Po pc L (.int (nI i) :: .ref r :: st) μ a := by
  obtain ⟨rf, μf, hp, hE⟩ := k2
  exact ⟨rf, μf, hp, ev_tald h0 h1 hE⟩
theorem es_copy {pc : Nat} {L st : List Value} {μ : ev_M} {a : Nat} {i k0 k1 n0 n1 n : Nat} {r0 r1 : List (Option Nat)} (h0 : decode cc pc = .ok (.invokestatic i, 3)) (h1 : (ev_cpr oc i = true)) (h2 : (ev_lay k0 = (1, n0, r0))) (h3 : (ev_lay k1 = (1, n1, r1))) (h4 : (n ≤ n0)) (h5 : (n ≤ n1)) (h6 : ((st.map Value.category).sum ≤ 8)) (k7 : es call oc cc rt am ex Po (pc + 3) L (st) (ev_cp μ k0 k1 n) a) : es call oc cc rt am ex Po pc L (.int (nI n) :: .int (nI 0) :: .ref k1 :: .int (nI 0) :: .ref k0 :: st) μ a := by
  obtain ⟨rf, μf, hp, hE⟩ := k7
  exact ⟨rf, μf, hp, ev_copy h0 h1 h2 h3 h4 h5 h6 hE⟩
theorem es_mmax {pc : Nat} {L st : List Value} {μ : ev_M} {a : Nat} {i : Nat} {x y : Int32} (h0 : decode cc pc = .ok (.invokestatic i, 3)) (h1 : (ev_mr oc i = some 901)) (h2 : ((st.map Value.category).sum ≤ 8)) (k3 : es call oc cc rt am ex Po (pc + 3) L (.int (if x < y then y else x) :: st) μ a) : es call oc cc rt am ex Po pc L (.int y :: .int x :: st) μ a := by
  obtain ⟨rf, μf, hp, hE⟩ := k3
  exact ⟨rf, μf, hp, ev_mmax h0 h1 h2 hE⟩
theorem es_mmin {pc : Nat} {L st : List Value} {μ : ev_M} {a : Nat} {i : Nat} {x y : Int32} (h0 : decode cc pc = .ok (.invokestatic i, 3)) (h1 : (ev_mr oc i = some 902)) (h2 : ((st.map Value.category).sum ≤ 8)) (k3 : es call oc cc rt am ex Po (pc + 3) L (.int (if y < x then y else x) :: st) μ a) : es call oc cc rt am ex Po pc L (.int y :: .int x :: st) μ a := by
  obtain ⟨rf, μf, hp, hE⟩ := k3
  exact ⟨rf, μf, hp, ev_mmin h0 h1 h2 hE⟩
theorem es_mabs {pc : Nat} {L st : List Value} {μ : ev_M} {a : Nat} {i : Nat} {x : Int32} (h0 : decode cc pc = .ok (.invokestatic i, 3)) (h1 : (ev_mr oc i = some 903)) (h2 : ((st.map Value.category).sum ≤ 8)) (k3 : es call oc cc rt am ex Po (pc + 3) L (.int (if 0 ≤ x then x else 0 - x) :: st) μ a) : es call oc cc rt am ex Po pc L (.int x :: st) μ a := by
  obtain ⟨rf, μf, hp, hE⟩ := k3
  exact ⟨rf, μf, hp, ev_mabs h0 h1 h2 hE⟩
theorem es_icmp_eq {pc : Nat} {L st : List Value} {μ : ev_M} {a : Nat} {x y : Int32} {off : Int} {tgt : Nat} (h0 : decode cc pc = .ok (.if_icmp .eq off, 3)) (h1 : (pc : Int) + off = (tgt : Int)) (k2 : (x = y → es call oc cc rt am ex Po tgt L st μ a)) (k3 : (¬ (x = y) → es call oc cc rt am ex Po (pc + 3) L st μ a)) : es call oc cc rt am ex Po pc L (.int y :: .int x :: st) μ a := by
  by_cases c : x = y
  · obtain ⟨rf, μf, hp, hE⟩ := k2 c
    exact ⟨rf, μf, hp, ev_icmp_eq h0 h1 (fun _ => hE) (fun c9 => absurd c c9)⟩
  · obtain ⟨rf, μf, hp, hE⟩ := k3 c
    exact ⟨rf, μf, hp, ev_icmp_eq h0 h1 (fun c9 => absurd c9 c) (fun _ => hE)⟩
theorem es_icmp_ne {pc : Nat} {L st : List Value} {μ : ev_M} {a : Nat} {x y : Int32} {off : Int} {tgt : Nat} (h0 : decode cc pc = .ok (.if_icmp .ne off, 3)) (h1 : (pc : Int) + off = (tgt : Int)) (k2 : (¬ x = y → es call oc cc rt am ex Po tgt L st μ a)) (k3 : (x = y → es call oc cc rt am ex Po (pc + 3) L st μ a)) : es call oc cc rt am ex Po pc L (.int y :: .int x :: st) μ a := by
  by_cases c : x = y
  · obtain ⟨rf, μf, hp, hE⟩ := k3 c
    exact ⟨rf, μf, hp, ev_icmp_ne h0 h1 (fun c9 => absurd c c9) (fun _ => hE)⟩
  · obtain ⟨rf, μf, hp, hE⟩ := k2 c
    exact ⟨rf, μf, hp, ev_icmp_ne h0 h1 (fun _ => hE) (fun c9 => absurd c9 c)⟩
theorem es_icmp_lt {pc : Nat} {L st : List Value} {μ : ev_M} {a : Nat} {x y : Int32} {off : Int} {tgt : Nat} (h0 : decode cc pc = .ok (.if_icmp .lt off, 3)) (h1 : (pc : Int) + off = (tgt : Int)) (k2 : (x < y → es call oc cc rt am ex Po tgt L st μ a)) (k3 : (¬ (x < y) → es call oc cc rt am ex Po (pc + 3) L st μ a)) : es call oc cc rt am ex Po pc L (.int y :: .int x :: st) μ a := by
  by_cases c : x < y
  · obtain ⟨rf, μf, hp, hE⟩ := k2 c
    exact ⟨rf, μf, hp, ev_icmp_lt h0 h1 (fun _ => hE) (fun c9 => absurd c c9)⟩
  · obtain ⟨rf, μf, hp, hE⟩ := k3 c
    exact ⟨rf, μf, hp, ev_icmp_lt h0 h1 (fun c9 => absurd c9 c) (fun _ => hE)⟩
theorem es_icmp_ge {pc : Nat} {L st : List Value} {μ : ev_M} {a : Nat} {x y : Int32} {off : Int} {tgt : Nat} (h0 : decode cc pc = .ok (.if_icmp .ge off, 3)) (h1 : (pc : Int) + off = (tgt : Int)) (k2 : (y ≤ x → es call oc cc rt am ex Po tgt L st μ a)) (k3 : (¬ (y ≤ x) → es call oc cc rt am ex Po (pc + 3) L st μ a)) : es call oc cc rt am ex Po pc L (.int y :: .int x :: st) μ a := by
  by_cases c : y ≤ x
  · obtain ⟨rf, μf, hp, hE⟩ := k2 c
    exact ⟨rf, μf, hp, ev_icmp_ge h0 h1 (fun _ => hE) (fun c9 => absurd c c9)⟩
  · obtain ⟨rf, μf, hp, hE⟩ := k3 c
    exact ⟨rf, μf, hp, ev_icmp_ge h0 h1 (fun c9 => absurd c9 c) (fun _ => hE)⟩
theorem es_icmp_gt {pc : Nat} {L st : List Value} {μ : ev_M} {a : Nat} {x y : Int32} {off : Int} {tgt : Nat} (h0 : decode cc pc = .ok (.if_icmp .gt off, 3)) (h1 : (pc : Int) + off = (tgt : Int)) (k2 : (y < x → es call oc cc rt am ex Po tgt L st μ a)) (k3 : (¬ (y < x) → es call oc cc rt am ex Po (pc + 3) L st μ a)) : es call oc cc rt am ex Po pc L (.int y :: .int x :: st) μ a := by
  by_cases c : y < x
  · obtain ⟨rf, μf, hp, hE⟩ := k2 c
    exact ⟨rf, μf, hp, ev_icmp_gt h0 h1 (fun _ => hE) (fun c9 => absurd c c9)⟩
  · obtain ⟨rf, μf, hp, hE⟩ := k3 c
    exact ⟨rf, μf, hp, ev_icmp_gt h0 h1 (fun c9 => absurd c9 c) (fun _ => hE)⟩
theorem es_icmp_le {pc : Nat} {L st : List Value} {μ : ev_M} {a : Nat} {x y : Int32} {off : Int} {tgt : Nat} (h0 : decode cc pc = .ok (.if_icmp .le off, 3)) (h1 : (pc : Int) + off = (tgt : Int)) (k2 : (x ≤ y → es call oc cc rt am ex Po tgt L st μ a)) (k3 : (¬ (x ≤ y) → es call oc cc rt am ex Po (pc + 3) L st μ a)) : es call oc cc rt am ex Po pc L (.int y :: .int x :: st) μ a := by
  by_cases c : x ≤ y
  · obtain ⟨rf, μf, hp, hE⟩ := k2 c
    exact ⟨rf, μf, hp, ev_icmp_le h0 h1 (fun _ => hE) (fun c9 => absurd c c9)⟩
  · obtain ⟨rf, μf, hp, hE⟩ := k3 c
    exact ⟨rf, μf, hp, ev_icmp_le h0 h1 (fun c9 => absurd c9 c) (fun _ => hE)⟩
theorem es_if_eq {pc : Nat} {L st : List Value} {μ : ev_M} {a : Nat} {x : Int32} {off : Int} {tgt : Nat} (h0 : decode cc pc = .ok (.ifCond .eq off, 3)) (h1 : (pc : Int) + off = (tgt : Int)) (k2 : (x = 0 → es call oc cc rt am ex Po tgt L st μ a)) (k3 : (¬ (x = 0) → es call oc cc rt am ex Po (pc + 3) L st μ a)) : es call oc cc rt am ex Po pc L (.int x :: st) μ a := by
  by_cases c : x = 0
  · obtain ⟨rf, μf, hp, hE⟩ := k2 c
    exact ⟨rf, μf, hp, ev_if_eq h0 h1 (fun _ => hE) (fun c9 => absurd c c9)⟩
  · obtain ⟨rf, μf, hp, hE⟩ := k3 c
    exact ⟨rf, μf, hp, ev_if_eq h0 h1 (fun c9 => absurd c9 c) (fun _ => hE)⟩
theorem es_if_ne {pc : Nat} {L st : List Value} {μ : ev_M} {a : Nat} {x : Int32} {off : Int} {tgt : Nat} (h0 : decode cc pc = .ok (.ifCond .ne off, 3)) (h1 : (pc : Int) + off = (tgt : Int)) (k2 : (¬ x = 0 → es call oc cc rt am ex Po tgt L st μ a)) (k3 : (x = 0 → es call oc cc rt am ex Po (pc + 3) L st μ a)) : es call oc cc rt am ex Po pc L (.int x :: st) μ a := by
  by_cases c : x = 0
  · obtain ⟨rf, μf, hp, hE⟩ := k3 c
    exact ⟨rf, μf, hp, ev_if_ne h0 h1 (fun c9 => absurd c c9) (fun _ => hE)⟩
  · obtain ⟨rf, μf, hp, hE⟩ := k2 c
    exact ⟨rf, μf, hp, ev_if_ne h0 h1 (fun _ => hE) (fun c9 => absurd c9 c)⟩
theorem es_if_lt {pc : Nat} {L st : List Value} {μ : ev_M} {a : Nat} {x : Int32} {off : Int} {tgt : Nat} (h0 : decode cc pc = .ok (.ifCond .lt off, 3)) (h1 : (pc : Int) + off = (tgt : Int)) (k2 : (x < 0 → es call oc cc rt am ex Po tgt L st μ a)) (k3 : (¬ (x < 0) → es call oc cc rt am ex Po (pc + 3) L st μ a)) : es call oc cc rt am ex Po pc L (.int x :: st) μ a := by
  by_cases c : x < 0
  · obtain ⟨rf, μf, hp, hE⟩ := k2 c
    exact ⟨rf, μf, hp, ev_if_lt h0 h1 (fun _ => hE) (fun c9 => absurd c c9)⟩
  · obtain ⟨rf, μf, hp, hE⟩ := k3 c
    exact ⟨rf, μf, hp, ev_if_lt h0 h1 (fun c9 => absurd c9 c) (fun _ => hE)⟩
theorem es_if_ge {pc : Nat} {L st : List Value} {μ : ev_M} {a : Nat} {x : Int32} {off : Int} {tgt : Nat} (h0 : decode cc pc = .ok (.ifCond .ge off, 3)) (h1 : (pc : Int) + off = (tgt : Int)) (k2 : (0 ≤ x → es call oc cc rt am ex Po tgt L st μ a)) (k3 : (¬ (0 ≤ x) → es call oc cc rt am ex Po (pc + 3) L st μ a)) : es call oc cc rt am ex Po pc L (.int x :: st) μ a := by
  by_cases c : 0 ≤ x
  · obtain ⟨rf, μf, hp, hE⟩ := k2 c
    exact ⟨rf, μf, hp, ev_if_ge h0 h1 (fun _ => hE) (fun c9 => absurd c c9)⟩
  · obtain ⟨rf, μf, hp, hE⟩ := k3 c
    exact ⟨rf, μf, hp, ev_if_ge h0 h1 (fun c9 => absurd c9 c) (fun _ => hE)⟩
theorem es_if_gt {pc : Nat} {L st : List Value} {μ : ev_M} {a : Nat} {x : Int32} {off : Int} {tgt : Nat} (h0 : decode cc pc = .ok (.ifCond .gt off, 3)) (h1 : (pc : Int) + off = (tgt : Int)) (k2 : (0 < x → es call oc cc rt am ex Po tgt L st μ a)) (k3 : (¬ (0 < x) → es call oc cc rt am ex Po (pc + 3) L st μ a)) : es call oc cc rt am ex Po pc L (.int x :: st) μ a := by
  by_cases c : 0 < x
  · obtain ⟨rf, μf, hp, hE⟩ := k2 c
    exact ⟨rf, μf, hp, ev_if_gt h0 h1 (fun _ => hE) (fun c9 => absurd c c9)⟩
  · obtain ⟨rf, μf, hp, hE⟩ := k3 c
    exact ⟨rf, μf, hp, ev_if_gt h0 h1 (fun c9 => absurd c9 c) (fun _ => hE)⟩
theorem es_if_le {pc : Nat} {L st : List Value} {μ : ev_M} {a : Nat} {x : Int32} {off : Int} {tgt : Nat} (h0 : decode cc pc = .ok (.ifCond .le off, 3)) (h1 : (pc : Int) + off = (tgt : Int)) (k2 : (x ≤ 0 → es call oc cc rt am ex Po tgt L st μ a)) (k3 : (¬ (x ≤ 0) → es call oc cc rt am ex Po (pc + 3) L st μ a)) : es call oc cc rt am ex Po pc L (.int x :: st) μ a := by
  by_cases c : x ≤ 0
  · obtain ⟨rf, μf, hp, hE⟩ := k2 c
    exact ⟨rf, μf, hp, ev_if_le h0 h1 (fun _ => hE) (fun c9 => absurd c c9)⟩
  · obtain ⟨rf, μf, hp, hE⟩ := k3 c
    exact ⟨rf, μf, hp, ev_if_le h0 h1 (fun c9 => absurd c9 c) (fun _ => hE)⟩
theorem es_goto {pc : Nat} {L st : List Value} {μ : ev_M} {a : Nat} {off : Int} {tgt : Nat} (h0 : decode cc pc = .ok (.goto off, 3)) (h1 : (pc : Int) + off = (tgt : Int)) (k2 : es call oc cc rt am ex Po tgt L st μ a) : es call oc cc rt am ex Po pc L st μ a := by
  obtain ⟨rf, μf, hp, hE⟩ := k2
  exact ⟨rf, μf, hp, ev_goto h0 h1 hE⟩
theorem es_tabin {pc : Nat} {L st : List Value} {μ : ev_M} {a : Nat} {x : Int32} {dflt lo hi off : Int} {offs : Array Int} {len tgt : Nat} (h0 : decode cc pc = .ok (.tableswitch dflt lo hi offs, len)) (h1 : ¬ x.toInt < lo) (h2 : ¬ hi < x.toInt) (h3 : offs[(x.toInt - lo).toNat]? = some off) (h4 : (pc : Int) + off = (tgt : Int)) (k5 : es call oc cc rt am ex Po tgt L st μ a) : es call oc cc rt am ex Po pc L (.int x :: st) μ a := by
  obtain ⟨rf, μf, hp, hE⟩ := k5
  exact ⟨rf, μf, hp, ev_tabin h0 h1 h2 h3 h4 hE⟩
theorem es_tabout {pc : Nat} {L st : List Value} {μ : ev_M} {a : Nat} {x : Int32} {dflt lo hi : Int} {offs : Array Int} {len tgt : Nat} (h0 : decode cc pc = .ok (.tableswitch dflt lo hi offs, len)) (h1 : (x.toInt < lo ∨ hi < x.toInt)) (h2 : (pc : Int) + dflt = (tgt : Int)) (k3 : es call oc cc rt am ex Po tgt L st μ a) : es call oc cc rt am ex Po pc L (.int x :: st) μ a := by
  obtain ⟨rf, μf, hp, hE⟩ := k3
  exact ⟨rf, μf, hp, ev_tabout h0 h1 h2 hE⟩
theorem es_look {pc : Nat} {L st : List Value} {μ : ev_M} {a : Nat} {x : Int32} {dflt off : Int} {ps : Array (Int × Int)} {len tgt : Nat} (h0 : decode cc pc = .ok (.lookupswitch dflt ps, len)) (h1 : (ps.toList.zip (ps.toList.drop 1)).all (fun (a, next) => a.1 < next.1) = true) (h2 : Op.lookupswitch.offset ps.toList dflt x.toInt = off) (h3 : (pc : Int) + off = (tgt : Int)) (k4 : es call oc cc rt am ex Po tgt L st μ a) : es call oc cc rt am ex Po pc L (.int x :: st) μ a := by
  obtain ⟨rf, μf, hp, hE⟩ := k4
  exact ⟨rf, μf, hp, ev_look h0 h1 h2 h3 hE⟩
theorem es_forget {pc : Nat} {L L2 st : List Value} {μ : ev_M} {a : Nat} (h0 : ev_wk L L2) (k1 : es call oc cc rt am ex Po pc L2 st μ a) : es call oc cc rt am ex Po pc L st μ a := by
  obtain ⟨rf, μf, hp, hE⟩ := k1
  exact ⟨rf, μf, hp, ev_forget h0 hE⟩
theorem es_cellc {pc : Nat} {L st : List Value} {μ : ev_M} {a i j : Nat} (h0 : decode cc pc = .ok (.invokestatic i, 3)) (h1 : ev_mr oc i = some 172) (h2 : ex.2.2 ≠ []) (h3 : j < 2 ^ 30) (h4 : (st.map Value.category).sum ≤ 8) (k5 : es call oc cc rt am ex Po (pc + 3) L (.int (ev_sc ex j) :: st) μ a) : es call oc cc rt am ex Po pc L (.int (nI j) :: .ref 200 :: st) μ a := by
  obtain ⟨rf, μf, hp, hE⟩ := k5
  exact ⟨rf, μf, hp, ev_cellc h0 h1 h2 h3 h4 hE⟩
theorem es_ireturn {pc : Nat} {L : List Value} {μ : ev_M} {a : Nat} {x : Int32} {ty : FieldType} (h0 : decode cc pc = .ok (.ireturn, 1)) (h1 : rt = some ty) (h2 : narrow ty (.int x) = .int x) (h5 : a ≤ am) (hp : Po (some (.int x), 0) μ) : es call oc cc rt am ex Po pc L [.int x] μ a := ⟨_, _, hp, ev_ireturn h0 h1 h2 rfl rfl h5⟩
theorem es_lreturn {pc : Nat} {L : List Value} {μ : ev_M} {a : Nat} {x : Int64} (h0 : decode cc pc = .ok (.lreturn, 1)) (h1 : rt = some .long) (h5 : a ≤ am) (hp : Po (some (.long x), 0) μ) : es call oc cc rt am ex Po pc L [.long x] μ a := ⟨_, _, hp, ev_lreturn h0 h1 rfl rfl h5⟩
theorem es_dreturn {pc : Nat} {L : List Value} {μ : ev_M} {a : Nat} {x : UInt64} (h0 : decode cc pc = .ok (.dreturn, 1)) (h1 : rt = some .double) (h5 : a ≤ am) (hp : Po (some (.double x), 0) μ) : es call oc cc rt am ex Po pc L [.double x] μ a := ⟨_, _, hp, ev_dreturn h0 h1 rfl rfl h5⟩
theorem es_vreturn {pc : Nat} {L : List Value} {μ : ev_M} {a : Nat} (h0 : decode cc pc = .ok (.return_, 1)) (h1 : rt = none) (h5 : a ≤ am) (hp : Po (none, 0) μ) : es call oc cc rt am ex Po pc L [] μ a := ⟨_, _, hp, ev_vreturn h0 h1 rfl rfl h5⟩
theorem es_throw {pc : Nat} {L : List Value} {μ : ev_M} {a ik is ic E : Nat} (h0 : decode cc pc = .ok (.new ik, 3)) (h1 : decode cc (pc + 3) = .ok (.dup, 1)) (h2 : decode cc (pc + 4) = .ok (.ldc is, 2)) (h3 : decode cc (pc + 6) = .ok (.invokespecial ic, 3)) (h4 : decode cc (pc + 9) = .ok (.athrow, 1)) (h5 : ev_tr oc ik is ic = some E) (h6 : a + 1 ≤ am) (hp : Po (none, E + 1) μ) : es call oc cc rt am ex Po pc L [] μ a := ⟨_, _, hp, ev_throw h0 h1 h2 h3 h4 h5 rfl rfl⟩
theorem es_throww {pc : Nat} {L : List Value} {μ : ev_M} {a ik is ic E : Nat} (h0 : decode cc pc = .ok (.new ik, 3)) (h1 : decode cc (pc + 3) = .ok (.dup, 1)) (h2 : decode cc (pc + 4) = .ok (.ldc_w is, 3)) (h3 : decode cc (pc + 7) = .ok (.invokespecial ic, 3)) (h4 : decode cc (pc + 10) = .ok (.athrow, 1)) (h5 : ev_tr oc ik is ic = some E) (h6 : a + 1 ≤ am) (hp : Po (none, E + 1) μ) : es call oc cc rt am ex Po pc L [] μ a := ⟨_, _, hp, ev_throww h0 h1 h2 h3 h4 h5 rfl rfl⟩
theorem es_cv0_i {P : Int32 → ev_M → Prop} {pc : Nat} {L st : List Value} {μ : ev_M} {a i y r : Nat} (h0 : decode cc pc = .ok (.invokevirtual i, 3)) (h1 : ev_mr oc i = some y) (h2 : ev_kd y = 0) (h3 : 0 = ev_np y) (h4 : (ev_lay r).1 = 0) (h5 : (ev_lay r).2.1 = ev_yo y) (hm : (0 : Nat) = 0) (h8 : (st.map Value.category).sum ≤ 8) (ha : a ≤ am) (hs : SPi call y (.ref r :: []) μ P) (k : ∀ (x : Int32) (μ2 : ev_M), P x μ2 → es call oc cc rt am ex Po (pc + 3) L (.int x :: st) μ2 a) : es call oc cc rt am ex Po pc L (.ref r :: st) μ a := by
  obtain ⟨x, μ2, hc, hP⟩ := hs
  obtain ⟨rf, μf, hp, hE⟩ := k x μ2 hP
  exact ⟨rf, μf, hp, ev_callv (as := []) h0 h1 h2 h3 h4 h5 hc h8 hE⟩
theorem es_cv0_v {P : ev_M → Prop} {pc : Nat} {L st : List Value} {μ : ev_M} {a i y r : Nat} (h0 : decode cc pc = .ok (.invokevirtual i, 3)) (h1 : ev_mr oc i = some y) (h2 : ev_kd y = 0) (h3 : 0 = ev_np y) (h4 : (ev_lay r).1 = 0) (h5 : (ev_lay r).2.1 = ev_yo y) (hm : (0 : Nat) = 0) (h8 : (st.map Value.category).sum ≤ 8) (ha : a ≤ am) (hs : SPv call y (.ref r :: []) μ P) (k : ∀ μ2 : ev_M, P μ2 → es call oc cc rt am ex Po (pc + 3) L st μ2 a) : es call oc cc rt am ex Po pc L (.ref r :: st) μ a := by
  obtain ⟨μ2, hc, hP⟩ := hs
  obtain ⟨rf, μf, hp, hE⟩ := k μ2 hP
  exact ⟨rf, μf, hp, ev_callv (as := []) h0 h1 h2 h3 h4 h5 hc h8 hE⟩
theorem es_cv0_p {v : Value} {pc : Nat} {L st : List Value} {μ : ev_M} {a i y r : Nat} (h0 : decode cc pc = .ok (.invokevirtual i, 3)) (h1 : ev_mr oc i = some y) (h2 : ev_kd y = 0) (h3 : 0 = ev_np y) (h4 : (ev_lay r).1 = 0) (h5 : (ev_lay r).2.1 = ev_yo y) (hm : (0 : Nat) = 0) (h8 : (st.map Value.category).sum ≤ 8) (ha : a ≤ am) (hc : call y (.ref r :: []) μ (some v, 0) μ) (k : es call oc cc rt am ex Po (pc + 3) L (v :: st) μ a) : es call oc cc rt am ex Po pc L (.ref r :: st) μ a := by
  obtain ⟨rf, μf, hp, hE⟩ := k
  exact ⟨rf, μf, hp, ev_callv (as := []) h0 h1 h2 h3 h4 h5 hc h8 hE⟩
theorem es_cv1_i {P : Int32 → ev_M → Prop} {pc : Nat} {L st : List Value} {μ : ev_M} {a i y r : Nat} {x0 : Value} (h0 : decode cc pc = .ok (.invokevirtual i, 3)) (h1 : ev_mr oc i = some y) (h2 : ev_kd y = 0) (h3 : 1 = ev_np y) (h4 : (ev_lay r).1 = 0) (h5 : (ev_lay r).2.1 = ev_yo y) (hm : (0 : Nat) = 0) (h8 : (st.map Value.category).sum ≤ 8) (ha : a ≤ am) (hs : SPi call y (.ref r :: [x0]) μ P) (k : ∀ (x : Int32) (μ2 : ev_M), P x μ2 → es call oc cc rt am ex Po (pc + 3) L (.int x :: st) μ2 a) : es call oc cc rt am ex Po pc L (x0 :: .ref r :: st) μ a := by
  obtain ⟨x, μ2, hc, hP⟩ := hs
  obtain ⟨rf, μf, hp, hE⟩ := k x μ2 hP
  exact ⟨rf, μf, hp, ev_callv (as := [x0]) h0 h1 h2 h3 h4 h5 hc h8 hE⟩
theorem es_cv1_v {P : ev_M → Prop} {pc : Nat} {L st : List Value} {μ : ev_M} {a i y r : Nat} {x0 : Value} (h0 : decode cc pc = .ok (.invokevirtual i, 3)) (h1 : ev_mr oc i = some y) (h2 : ev_kd y = 0) (h3 : 1 = ev_np y) (h4 : (ev_lay r).1 = 0) (h5 : (ev_lay r).2.1 = ev_yo y) (hm : (0 : Nat) = 0) (h8 : (st.map Value.category).sum ≤ 8) (ha : a ≤ am) (hs : SPv call y (.ref r :: [x0]) μ P) (k : ∀ μ2 : ev_M, P μ2 → es call oc cc rt am ex Po (pc + 3) L st μ2 a) : es call oc cc rt am ex Po pc L (x0 :: .ref r :: st) μ a := by
  obtain ⟨μ2, hc, hP⟩ := hs
  obtain ⟨rf, μf, hp, hE⟩ := k μ2 hP
  exact ⟨rf, μf, hp, ev_callv (as := [x0]) h0 h1 h2 h3 h4 h5 hc h8 hE⟩
theorem es_cv1_p {v : Value} {pc : Nat} {L st : List Value} {μ : ev_M} {a i y r : Nat} {x0 : Value} (h0 : decode cc pc = .ok (.invokevirtual i, 3)) (h1 : ev_mr oc i = some y) (h2 : ev_kd y = 0) (h3 : 1 = ev_np y) (h4 : (ev_lay r).1 = 0) (h5 : (ev_lay r).2.1 = ev_yo y) (hm : (0 : Nat) = 0) (h8 : (st.map Value.category).sum ≤ 8) (ha : a ≤ am) (hc : call y (.ref r :: [x0]) μ (some v, 0) μ) (k : es call oc cc rt am ex Po (pc + 3) L (v :: st) μ a) : es call oc cc rt am ex Po pc L (x0 :: .ref r :: st) μ a := by
  obtain ⟨rf, μf, hp, hE⟩ := k
  exact ⟨rf, μf, hp, ev_callv (as := [x0]) h0 h1 h2 h3 h4 h5 hc h8 hE⟩
theorem es_cv2_i {P : Int32 → ev_M → Prop} {pc : Nat} {L st : List Value} {μ : ev_M} {a i y r : Nat} {x0 x1 : Value} (h0 : decode cc pc = .ok (.invokevirtual i, 3)) (h1 : ev_mr oc i = some y) (h2 : ev_kd y = 0) (h3 : 2 = ev_np y) (h4 : (ev_lay r).1 = 0) (h5 : (ev_lay r).2.1 = ev_yo y) (hm : (0 : Nat) = 0) (h8 : (st.map Value.category).sum ≤ 8) (ha : a ≤ am) (hs : SPi call y (.ref r :: [x0, x1]) μ P) (k : ∀ (x : Int32) (μ2 : ev_M), P x μ2 → es call oc cc rt am ex Po (pc + 3) L (.int x :: st) μ2 a) : es call oc cc rt am ex Po pc L (x1 :: x0 :: .ref r :: st) μ a := by
  obtain ⟨x, μ2, hc, hP⟩ := hs
  obtain ⟨rf, μf, hp, hE⟩ := k x μ2 hP
  exact ⟨rf, μf, hp, ev_callv (as := [x0, x1]) h0 h1 h2 h3 h4 h5 hc h8 hE⟩
theorem es_cv2_v {P : ev_M → Prop} {pc : Nat} {L st : List Value} {μ : ev_M} {a i y r : Nat} {x0 x1 : Value} (h0 : decode cc pc = .ok (.invokevirtual i, 3)) (h1 : ev_mr oc i = some y) (h2 : ev_kd y = 0) (h3 : 2 = ev_np y) (h4 : (ev_lay r).1 = 0) (h5 : (ev_lay r).2.1 = ev_yo y) (hm : (0 : Nat) = 0) (h8 : (st.map Value.category).sum ≤ 8) (ha : a ≤ am) (hs : SPv call y (.ref r :: [x0, x1]) μ P) (k : ∀ μ2 : ev_M, P μ2 → es call oc cc rt am ex Po (pc + 3) L st μ2 a) : es call oc cc rt am ex Po pc L (x1 :: x0 :: .ref r :: st) μ a := by
  obtain ⟨μ2, hc, hP⟩ := hs
  obtain ⟨rf, μf, hp, hE⟩ := k μ2 hP
  exact ⟨rf, μf, hp, ev_callv (as := [x0, x1]) h0 h1 h2 h3 h4 h5 hc h8 hE⟩
theorem es_cv2_p {v : Value} {pc : Nat} {L st : List Value} {μ : ev_M} {a i y r : Nat} {x0 x1 : Value} (h0 : decode cc pc = .ok (.invokevirtual i, 3)) (h1 : ev_mr oc i = some y) (h2 : ev_kd y = 0) (h3 : 2 = ev_np y) (h4 : (ev_lay r).1 = 0) (h5 : (ev_lay r).2.1 = ev_yo y) (hm : (0 : Nat) = 0) (h8 : (st.map Value.category).sum ≤ 8) (ha : a ≤ am) (hc : call y (.ref r :: [x0, x1]) μ (some v, 0) μ) (k : es call oc cc rt am ex Po (pc + 3) L (v :: st) μ a) : es call oc cc rt am ex Po pc L (x1 :: x0 :: .ref r :: st) μ a := by
  obtain ⟨rf, μf, hp, hE⟩ := k
  exact ⟨rf, μf, hp, ev_callv (as := [x0, x1]) h0 h1 h2 h3 h4 h5 hc h8 hE⟩
theorem es_cv3_i {P : Int32 → ev_M → Prop} {pc : Nat} {L st : List Value} {μ : ev_M} {a i y r : Nat} {x0 x1 x2 : Value} (h0 : decode cc pc = .ok (.invokevirtual i, 3)) (h1 : ev_mr oc i = some y) (h2 : ev_kd y = 0) (h3 : 3 = ev_np y) (h4 : (ev_lay r).1 = 0) (h5 : (ev_lay r).2.1 = ev_yo y) (hm : (0 : Nat) = 0) (h8 : (st.map Value.category).sum ≤ 8) (ha : a ≤ am) (hs : SPi call y (.ref r :: [x0, x1, x2]) μ P) (k : ∀ (x : Int32) (μ2 : ev_M), P x μ2 → es call oc cc rt am ex Po (pc + 3) L (.int x :: st) μ2 a) : es call oc cc rt am ex Po pc L (x2 :: x1 :: x0 :: .ref r :: st) μ a := by
  obtain ⟨x, μ2, hc, hP⟩ := hs
  obtain ⟨rf, μf, hp, hE⟩ := k x μ2 hP
  exact ⟨rf, μf, hp, ev_callv (as := [x0, x1, x2]) h0 h1 h2 h3 h4 h5 hc h8 hE⟩
theorem es_cv3_v {P : ev_M → Prop} {pc : Nat} {L st : List Value} {μ : ev_M} {a i y r : Nat} {x0 x1 x2 : Value} (h0 : decode cc pc = .ok (.invokevirtual i, 3)) (h1 : ev_mr oc i = some y) (h2 : ev_kd y = 0) (h3 : 3 = ev_np y) (h4 : (ev_lay r).1 = 0) (h5 : (ev_lay r).2.1 = ev_yo y) (hm : (0 : Nat) = 0) (h8 : (st.map Value.category).sum ≤ 8) (ha : a ≤ am) (hs : SPv call y (.ref r :: [x0, x1, x2]) μ P) (k : ∀ μ2 : ev_M, P μ2 → es call oc cc rt am ex Po (pc + 3) L st μ2 a) : es call oc cc rt am ex Po pc L (x2 :: x1 :: x0 :: .ref r :: st) μ a := by
  obtain ⟨μ2, hc, hP⟩ := hs
  obtain ⟨rf, μf, hp, hE⟩ := k μ2 hP
  exact ⟨rf, μf, hp, ev_callv (as := [x0, x1, x2]) h0 h1 h2 h3 h4 h5 hc h8 hE⟩
theorem es_cv3_p {v : Value} {pc : Nat} {L st : List Value} {μ : ev_M} {a i y r : Nat} {x0 x1 x2 : Value} (h0 : decode cc pc = .ok (.invokevirtual i, 3)) (h1 : ev_mr oc i = some y) (h2 : ev_kd y = 0) (h3 : 3 = ev_np y) (h4 : (ev_lay r).1 = 0) (h5 : (ev_lay r).2.1 = ev_yo y) (hm : (0 : Nat) = 0) (h8 : (st.map Value.category).sum ≤ 8) (ha : a ≤ am) (hc : call y (.ref r :: [x0, x1, x2]) μ (some v, 0) μ) (k : es call oc cc rt am ex Po (pc + 3) L (v :: st) μ a) : es call oc cc rt am ex Po pc L (x2 :: x1 :: x0 :: .ref r :: st) μ a := by
  obtain ⟨rf, μf, hp, hE⟩ := k
  exact ⟨rf, μf, hp, ev_callv (as := [x0, x1, x2]) h0 h1 h2 h3 h4 h5 hc h8 hE⟩
theorem es_cs1_i {P : Int32 → ev_M → Prop} {pc : Nat} {L st : List Value} {μ : ev_M} {a i y : Nat} {x0 : Value} (h0 : decode cc pc = .ok (.invokestatic i, 3)) (h1 : ev_mr oc i = some y) (h2 : ev_kd y = 1) (h3 : 1 = ev_np y) (hm : (0 : Nat) = 0) (h8 : (st.map Value.category).sum ≤ 8) (ha : a ≤ am) (hs : SPi call y [x0] μ P) (k : ∀ (x : Int32) (μ2 : ev_M), P x μ2 → es call oc cc rt am ex Po (pc + 3) L (.int x :: st) μ2 a) : es call oc cc rt am ex Po pc L (x0 :: st) μ a := by
  obtain ⟨x, μ2, hc, hP⟩ := hs
  obtain ⟨rf, μf, hp, hE⟩ := k x μ2 hP
  exact ⟨rf, μf, hp, ev_calls (as := [x0]) h0 h1 h2 h3 hc h8 hE⟩
theorem es_cs1_v {P : ev_M → Prop} {pc : Nat} {L st : List Value} {μ : ev_M} {a i y : Nat} {x0 : Value} (h0 : decode cc pc = .ok (.invokestatic i, 3)) (h1 : ev_mr oc i = some y) (h2 : ev_kd y = 1) (h3 : 1 = ev_np y) (hm : (0 : Nat) = 0) (h8 : (st.map Value.category).sum ≤ 8) (ha : a ≤ am) (hs : SPv call y [x0] μ P) (k : ∀ μ2 : ev_M, P μ2 → es call oc cc rt am ex Po (pc + 3) L st μ2 a) : es call oc cc rt am ex Po pc L (x0 :: st) μ a := by
  obtain ⟨μ2, hc, hP⟩ := hs
  obtain ⟨rf, μf, hp, hE⟩ := k μ2 hP
  exact ⟨rf, μf, hp, ev_calls (as := [x0]) h0 h1 h2 h3 hc h8 hE⟩
theorem es_cs1_p {v : Value} {pc : Nat} {L st : List Value} {μ : ev_M} {a i y : Nat} {x0 : Value} (h0 : decode cc pc = .ok (.invokestatic i, 3)) (h1 : ev_mr oc i = some y) (h2 : ev_kd y = 1) (h3 : 1 = ev_np y) (hm : (0 : Nat) = 0) (h8 : (st.map Value.category).sum ≤ 8) (ha : a ≤ am) (hc : call y [x0] μ (some v, 0) μ) (k : es call oc cc rt am ex Po (pc + 3) L (v :: st) μ a) : es call oc cc rt am ex Po pc L (x0 :: st) μ a := by
  obtain ⟨rf, μf, hp, hE⟩ := k
  exact ⟨rf, μf, hp, ev_calls (as := [x0]) h0 h1 h2 h3 hc h8 hE⟩
theorem es_cs2_i {P : Int32 → ev_M → Prop} {pc : Nat} {L st : List Value} {μ : ev_M} {a i y : Nat} {x0 x1 : Value} (h0 : decode cc pc = .ok (.invokestatic i, 3)) (h1 : ev_mr oc i = some y) (h2 : ev_kd y = 1) (h3 : 2 = ev_np y) (hm : (0 : Nat) = 0) (h8 : (st.map Value.category).sum ≤ 8) (ha : a ≤ am) (hs : SPi call y [x0, x1] μ P) (k : ∀ (x : Int32) (μ2 : ev_M), P x μ2 → es call oc cc rt am ex Po (pc + 3) L (.int x :: st) μ2 a) : es call oc cc rt am ex Po pc L (x1 :: x0 :: st) μ a := by
  obtain ⟨x, μ2, hc, hP⟩ := hs
  obtain ⟨rf, μf, hp, hE⟩ := k x μ2 hP
  exact ⟨rf, μf, hp, ev_calls (as := [x0, x1]) h0 h1 h2 h3 hc h8 hE⟩
theorem es_cs2_v {P : ev_M → Prop} {pc : Nat} {L st : List Value} {μ : ev_M} {a i y : Nat} {x0 x1 : Value} (h0 : decode cc pc = .ok (.invokestatic i, 3)) (h1 : ev_mr oc i = some y) (h2 : ev_kd y = 1) (h3 : 2 = ev_np y) (hm : (0 : Nat) = 0) (h8 : (st.map Value.category).sum ≤ 8) (ha : a ≤ am) (hs : SPv call y [x0, x1] μ P) (k : ∀ μ2 : ev_M, P μ2 → es call oc cc rt am ex Po (pc + 3) L st μ2 a) : es call oc cc rt am ex Po pc L (x1 :: x0 :: st) μ a := by
  obtain ⟨μ2, hc, hP⟩ := hs
  obtain ⟨rf, μf, hp, hE⟩ := k μ2 hP
  exact ⟨rf, μf, hp, ev_calls (as := [x0, x1]) h0 h1 h2 h3 hc h8 hE⟩
theorem es_cs2_p {v : Value} {pc : Nat} {L st : List Value} {μ : ev_M} {a i y : Nat} {x0 x1 : Value} (h0 : decode cc pc = .ok (.invokestatic i, 3)) (h1 : ev_mr oc i = some y) (h2 : ev_kd y = 1) (h3 : 2 = ev_np y) (hm : (0 : Nat) = 0) (h8 : (st.map Value.category).sum ≤ 8) (ha : a ≤ am) (hc : call y [x0, x1] μ (some v, 0) μ) (k : es call oc cc rt am ex Po (pc + 3) L (v :: st) μ a) : es call oc cc rt am ex Po pc L (x1 :: x0 :: st) μ a := by
  obtain ⟨rf, μf, hp, hE⟩ := k
  exact ⟨rf, μf, hp, ev_calls (as := [x0, x1]) h0 h1 h2 h3 hc h8 hE⟩
theorem es_cs3_i {P : Int32 → ev_M → Prop} {pc : Nat} {L st : List Value} {μ : ev_M} {a i y : Nat} {x0 x1 x2 : Value} (h0 : decode cc pc = .ok (.invokestatic i, 3)) (h1 : ev_mr oc i = some y) (h2 : ev_kd y = 1) (h3 : 3 = ev_np y) (hm : (0 : Nat) = 0) (h8 : (st.map Value.category).sum ≤ 8) (ha : a ≤ am) (hs : SPi call y [x0, x1, x2] μ P) (k : ∀ (x : Int32) (μ2 : ev_M), P x μ2 → es call oc cc rt am ex Po (pc + 3) L (.int x :: st) μ2 a) : es call oc cc rt am ex Po pc L (x2 :: x1 :: x0 :: st) μ a := by
  obtain ⟨x, μ2, hc, hP⟩ := hs
  obtain ⟨rf, μf, hp, hE⟩ := k x μ2 hP
  exact ⟨rf, μf, hp, ev_calls (as := [x0, x1, x2]) h0 h1 h2 h3 hc h8 hE⟩
theorem es_cs3_v {P : ev_M → Prop} {pc : Nat} {L st : List Value} {μ : ev_M} {a i y : Nat} {x0 x1 x2 : Value} (h0 : decode cc pc = .ok (.invokestatic i, 3)) (h1 : ev_mr oc i = some y) (h2 : ev_kd y = 1) (h3 : 3 = ev_np y) (hm : (0 : Nat) = 0) (h8 : (st.map Value.category).sum ≤ 8) (ha : a ≤ am) (hs : SPv call y [x0, x1, x2] μ P) (k : ∀ μ2 : ev_M, P μ2 → es call oc cc rt am ex Po (pc + 3) L st μ2 a) : es call oc cc rt am ex Po pc L (x2 :: x1 :: x0 :: st) μ a := by
  obtain ⟨μ2, hc, hP⟩ := hs
  obtain ⟨rf, μf, hp, hE⟩ := k μ2 hP
  exact ⟨rf, μf, hp, ev_calls (as := [x0, x1, x2]) h0 h1 h2 h3 hc h8 hE⟩
theorem es_cs3_p {v : Value} {pc : Nat} {L st : List Value} {μ : ev_M} {a i y : Nat} {x0 x1 x2 : Value} (h0 : decode cc pc = .ok (.invokestatic i, 3)) (h1 : ev_mr oc i = some y) (h2 : ev_kd y = 1) (h3 : 3 = ev_np y) (hm : (0 : Nat) = 0) (h8 : (st.map Value.category).sum ≤ 8) (ha : a ≤ am) (hc : call y [x0, x1, x2] μ (some v, 0) μ) (k : es call oc cc rt am ex Po (pc + 3) L (v :: st) μ a) : es call oc cc rt am ex Po pc L (x2 :: x1 :: x0 :: st) μ a := by
  obtain ⟨rf, μf, hp, hE⟩ := k
  exact ⟨rf, μf, hp, ev_calls (as := [x0, x1, x2]) h0 h1 h2 h3 hc h8 hE⟩
theorem es_cs4_i {P : Int32 → ev_M → Prop} {pc : Nat} {L st : List Value} {μ : ev_M} {a i y : Nat} {x0 x1 x2 x3 : Value} (h0 : decode cc pc = .ok (.invokestatic i, 3)) (h1 : ev_mr oc i = some y) (h2 : ev_kd y = 1) (h3 : 4 = ev_np y) (hm : (0 : Nat) = 0) (h8 : (st.map Value.category).sum ≤ 8) (ha : a ≤ am) (hs : SPi call y [x0, x1, x2, x3] μ P) (k : ∀ (x : Int32) (μ2 : ev_M), P x μ2 → es call oc cc rt am ex Po (pc + 3) L (.int x :: st) μ2 a) : es call oc cc rt am ex Po pc L (x3 :: x2 :: x1 :: x0 :: st) μ a := by
  obtain ⟨x, μ2, hc, hP⟩ := hs
  obtain ⟨rf, μf, hp, hE⟩ := k x μ2 hP
  exact ⟨rf, μf, hp, ev_calls (as := [x0, x1, x2, x3]) h0 h1 h2 h3 hc h8 hE⟩
theorem es_cs4_v {P : ev_M → Prop} {pc : Nat} {L st : List Value} {μ : ev_M} {a i y : Nat} {x0 x1 x2 x3 : Value} (h0 : decode cc pc = .ok (.invokestatic i, 3)) (h1 : ev_mr oc i = some y) (h2 : ev_kd y = 1) (h3 : 4 = ev_np y) (hm : (0 : Nat) = 0) (h8 : (st.map Value.category).sum ≤ 8) (ha : a ≤ am) (hs : SPv call y [x0, x1, x2, x3] μ P) (k : ∀ μ2 : ev_M, P μ2 → es call oc cc rt am ex Po (pc + 3) L st μ2 a) : es call oc cc rt am ex Po pc L (x3 :: x2 :: x1 :: x0 :: st) μ a := by
  obtain ⟨μ2, hc, hP⟩ := hs
  obtain ⟨rf, μf, hp, hE⟩ := k μ2 hP
  exact ⟨rf, μf, hp, ev_calls (as := [x0, x1, x2, x3]) h0 h1 h2 h3 hc h8 hE⟩
theorem es_cs4_p {v : Value} {pc : Nat} {L st : List Value} {μ : ev_M} {a i y : Nat} {x0 x1 x2 x3 : Value} (h0 : decode cc pc = .ok (.invokestatic i, 3)) (h1 : ev_mr oc i = some y) (h2 : ev_kd y = 1) (h3 : 4 = ev_np y) (hm : (0 : Nat) = 0) (h8 : (st.map Value.category).sum ≤ 8) (ha : a ≤ am) (hc : call y [x0, x1, x2, x3] μ (some v, 0) μ) (k : es call oc cc rt am ex Po (pc + 3) L (v :: st) μ a) : es call oc cc rt am ex Po pc L (x3 :: x2 :: x1 :: x0 :: st) μ a := by
  obtain ⟨rf, μf, hp, hE⟩ := k
  exact ⟨rf, μf, hp, ev_calls (as := [x0, x1, x2, x3]) h0 h1 h2 h3 hc h8 hE⟩
theorem es_cs5_i {P : Int32 → ev_M → Prop} {pc : Nat} {L st : List Value} {μ : ev_M} {a i y : Nat} {x0 x1 x2 x3 x4 : Value} (h0 : decode cc pc = .ok (.invokestatic i, 3)) (h1 : ev_mr oc i = some y) (h2 : ev_kd y = 1) (h3 : 5 = ev_np y) (hm : (0 : Nat) = 0) (h8 : (st.map Value.category).sum ≤ 8) (ha : a ≤ am) (hs : SPi call y [x0, x1, x2, x3, x4] μ P) (k : ∀ (x : Int32) (μ2 : ev_M), P x μ2 → es call oc cc rt am ex Po (pc + 3) L (.int x :: st) μ2 a) : es call oc cc rt am ex Po pc L (x4 :: x3 :: x2 :: x1 :: x0 :: st) μ a := by
  obtain ⟨x, μ2, hc, hP⟩ := hs
  obtain ⟨rf, μf, hp, hE⟩ := k x μ2 hP
  exact ⟨rf, μf, hp, ev_calls (as := [x0, x1, x2, x3, x4]) h0 h1 h2 h3 hc h8 hE⟩
theorem es_cs5_v {P : ev_M → Prop} {pc : Nat} {L st : List Value} {μ : ev_M} {a i y : Nat} {x0 x1 x2 x3 x4 : Value} (h0 : decode cc pc = .ok (.invokestatic i, 3)) (h1 : ev_mr oc i = some y) (h2 : ev_kd y = 1) (h3 : 5 = ev_np y) (hm : (0 : Nat) = 0) (h8 : (st.map Value.category).sum ≤ 8) (ha : a ≤ am) (hs : SPv call y [x0, x1, x2, x3, x4] μ P) (k : ∀ μ2 : ev_M, P μ2 → es call oc cc rt am ex Po (pc + 3) L st μ2 a) : es call oc cc rt am ex Po pc L (x4 :: x3 :: x2 :: x1 :: x0 :: st) μ a := by
  obtain ⟨μ2, hc, hP⟩ := hs
  obtain ⟨rf, μf, hp, hE⟩ := k μ2 hP
  exact ⟨rf, μf, hp, ev_calls (as := [x0, x1, x2, x3, x4]) h0 h1 h2 h3 hc h8 hE⟩
theorem es_cs5_p {v : Value} {pc : Nat} {L st : List Value} {μ : ev_M} {a i y : Nat} {x0 x1 x2 x3 x4 : Value} (h0 : decode cc pc = .ok (.invokestatic i, 3)) (h1 : ev_mr oc i = some y) (h2 : ev_kd y = 1) (h3 : 5 = ev_np y) (hm : (0 : Nat) = 0) (h8 : (st.map Value.category).sum ≤ 8) (ha : a ≤ am) (hc : call y [x0, x1, x2, x3, x4] μ (some v, 0) μ) (k : es call oc cc rt am ex Po (pc + 3) L (v :: st) μ a) : es call oc cc rt am ex Po pc L (x4 :: x3 :: x2 :: x1 :: x0 :: st) μ a := by
  obtain ⟨rf, μf, hp, hE⟩ := k
  exact ⟨rf, μf, hp, ev_calls (as := [x0, x1, x2, x3, x4]) h0 h1 h2 h3 hc h8 hE⟩
theorem es_cs6_i {P : Int32 → ev_M → Prop} {pc : Nat} {L st : List Value} {μ : ev_M} {a i y : Nat} {x0 x1 x2 x3 x4 x5 : Value} (h0 : decode cc pc = .ok (.invokestatic i, 3)) (h1 : ev_mr oc i = some y) (h2 : ev_kd y = 1) (h3 : 6 = ev_np y) (hm : (0 : Nat) = 0) (h8 : (st.map Value.category).sum ≤ 8) (ha : a ≤ am) (hs : SPi call y [x0, x1, x2, x3, x4, x5] μ P) (k : ∀ (x : Int32) (μ2 : ev_M), P x μ2 → es call oc cc rt am ex Po (pc + 3) L (.int x :: st) μ2 a) : es call oc cc rt am ex Po pc L (x5 :: x4 :: x3 :: x2 :: x1 :: x0 :: st) μ a := by
  obtain ⟨x, μ2, hc, hP⟩ := hs
  obtain ⟨rf, μf, hp, hE⟩ := k x μ2 hP
  exact ⟨rf, μf, hp, ev_calls (as := [x0, x1, x2, x3, x4, x5]) h0 h1 h2 h3 hc h8 hE⟩
theorem es_cs6_v {P : ev_M → Prop} {pc : Nat} {L st : List Value} {μ : ev_M} {a i y : Nat} {x0 x1 x2 x3 x4 x5 : Value} (h0 : decode cc pc = .ok (.invokestatic i, 3)) (h1 : ev_mr oc i = some y) (h2 : ev_kd y = 1) (h3 : 6 = ev_np y) (hm : (0 : Nat) = 0) (h8 : (st.map Value.category).sum ≤ 8) (ha : a ≤ am) (hs : SPv call y [x0, x1, x2, x3, x4, x5] μ P) (k : ∀ μ2 : ev_M, P μ2 → es call oc cc rt am ex Po (pc + 3) L st μ2 a) : es call oc cc rt am ex Po pc L (x5 :: x4 :: x3 :: x2 :: x1 :: x0 :: st) μ a := by
  obtain ⟨μ2, hc, hP⟩ := hs
  obtain ⟨rf, μf, hp, hE⟩ := k μ2 hP
  exact ⟨rf, μf, hp, ev_calls (as := [x0, x1, x2, x3, x4, x5]) h0 h1 h2 h3 hc h8 hE⟩
theorem es_cs6_p {v : Value} {pc : Nat} {L st : List Value} {μ : ev_M} {a i y : Nat} {x0 x1 x2 x3 x4 x5 : Value} (h0 : decode cc pc = .ok (.invokestatic i, 3)) (h1 : ev_mr oc i = some y) (h2 : ev_kd y = 1) (h3 : 6 = ev_np y) (hm : (0 : Nat) = 0) (h8 : (st.map Value.category).sum ≤ 8) (ha : a ≤ am) (hc : call y [x0, x1, x2, x3, x4, x5] μ (some v, 0) μ) (k : es call oc cc rt am ex Po (pc + 3) L (v :: st) μ a) : es call oc cc rt am ex Po pc L (x5 :: x4 :: x3 :: x2 :: x1 :: x0 :: st) μ a := by
  obtain ⟨rf, μf, hp, hE⟩ := k
  exact ⟨rf, μf, hp, ev_calls (as := [x0, x1, x2, x3, x4, x5]) h0 h1 h2 h3 hc h8 hE⟩
theorem es_iconstN {pc : Nat} {L st : List Value} {μ : ev_M} {a : Nat} (n : Nat) {v : Int} (h0 : decode cc pc = .ok (.iconst v, 1)) (hv : Int32.ofInt v = nI n) (k : es call oc cc rt am ex Po (pc + 1) L (.int (nI n) :: st) μ a) : es call oc cc rt am ex Po pc L st μ a := es_iconst h0 (by rw [hv]; exact k)
theorem es_bipushN {pc : Nat} {L st : List Value} {μ : ev_M} {a : Nat} (n : Nat) {v : Int} (h0 : decode cc pc = .ok (.bipush v, 2)) (hv : (Int8.ofInt v).toInt32 = nI n) (k : es call oc cc rt am ex Po (pc + 2) L (.int (nI n) :: st) μ a) : es call oc cc rt am ex Po pc L st μ a := es_bipush h0 (by rw [hv]; exact k)
theorem es_sipushN {pc : Nat} {L st : List Value} {μ : ev_M} {a : Nat} (n : Nat) {v : Int} (h0 : decode cc pc = .ok (.sipush v, 3)) (hv : (Int16.ofInt v).toInt32 = nI n) (k : es call oc cc rt am ex Po (pc + 3) L (.int (nI n) :: st) μ a) : es call oc cc rt am ex Po pc L st μ a := es_sipush h0 (by rw [hv]; exact k)
theorem es_iconstM {pc : Nat} {L st : List Value} {μ : ev_M} {a : Nat} {v : Int} (h0 : decode cc pc = .ok (.iconst v, 1)) (x : Int32) (hv : Int32.ofInt v = x) (k : es call oc cc rt am ex Po (pc + 1) L (.int x :: st) μ a) : es call oc cc rt am ex Po pc L st μ a := es_iconst h0 (by rw [hv]; exact k)
theorem es_iaddN {pc : Nat} {L st : List Value} {μ : ev_M} {a : Nat} {x y : Nat} (h0 : decode cc pc = .ok (.iadd, 1)) (k : es call oc cc rt am ex Po (pc + 1) L (.int (nI (x + y)) :: st) μ a) : es call oc cc rt am ex Po pc L (.int (nI y) :: .int (nI x) :: st) μ a := es_iadd h0 (by rw [nI_add]; exact k)
theorem es_imulN {pc : Nat} {L st : List Value} {μ : ev_M} {a : Nat} {x y : Nat} (h0 : decode cc pc = .ok (.imul, 1)) (k : es call oc cc rt am ex Po (pc + 1) L (.int (nI (x * y)) :: st) μ a) : es call oc cc rt am ex Po pc L (.int (nI y) :: .int (nI x) :: st) μ a := es_imul h0 (by rw [pk_mul]; exact k)
theorem es_isubN {pc : Nat} {L st : List Value} {μ : ev_M} {a : Nat} {x y : Nat} (h0 : decode cc pc = .ok (.isub, 1)) (hle : y ≤ x) (k : es call oc cc rt am ex Po (pc + 1) L (.int (nI (x - y)) :: st) μ a) : es call oc cc rt am ex Po pc L (.int (nI y) :: .int (nI x) :: st) μ a := es_isub h0 (by rw [pk_sub hle]; exact k)
theorem es_idivN {pc : Nat} {L st : List Value} {μ : ev_M} {a : Nat} {x y : Nat} (h0 : decode cc pc = .ok (.idiv, 1)) (hx : x < 2 ^ 31) (hy0 : 0 < y) (hy : y < 2 ^ 31) (k : es call oc cc rt am ex Po (pc + 1) L (.int (nI (x / y)) :: st) μ a) : es call oc cc rt am ex Po pc L (.int (nI y) :: .int (nI x) :: st) μ a := es_idiv h0 (nI_ne0 hy0 hy) (by rw [pk_div hx hy0 hy]; exact k)
theorem es_iremN {pc : Nat} {L st : List Value} {μ : ev_M} {a : Nat} {x y : Nat} (h0 : decode cc pc = .ok (.irem, 1)) (hx : x < 2 ^ 31) (hy0 : 0 < y) (hy : y < 2 ^ 31) (k : es call oc cc rt am ex Po (pc + 1) L (.int (nI (x % y)) :: st) μ a) : es call oc cc rt am ex Po pc L (.int (nI y) :: .int (nI x) :: st) μ a := es_irem h0 (nI_ne0 hy0 hy) (by rw [pk_rem hx hy0 hy]; exact k)
theorem es_iincN {pc : Nat} {L st : List Value} {μ : ev_M} {a : Nat} {j x : Nat} {n : Int} (m : Nat) (h0 : decode cc pc = .ok (.iinc j n, 3)) (hn : Int32.ofInt n = nI m) (h1 : L[j]? = some (.int (nI x))) (h2 : ev_ok1 L j) (k : es call oc cc rt am ex Po (pc + 3) (L.set j (.int (nI (x + m)))) st μ a) : es call oc cc rt am ex Po pc L st μ a := es_iinc h0 h1 h2 (by rw [hn, nI_add]; exact k)
theorem es_top {pc : Nat} {L st : List Value} {μ : ev_M} {a : Nat} {x y : Int32} (h : x = y) (k : es call oc cc rt am ex Po pc L (.int y :: st) μ a) : es call oc cc rt am ex Po pc L (.int x :: st) μ a := by rw [h]; exact k
theorem es_mem {pc : Nat} {L st : List Value} {μ ν : ev_M} {a : Nat} (h : μ = ν) (k : es call oc cc rt am ex Po pc L st ν a) : es call oc cc rt am ex Po pc L st μ a := by rw [h]; exact k

theorem es_icmp_eqN {pc : Nat} {L st : List Value} {μ : ev_M} {a : Nat} {x y : Nat} {off : Int} (tgt : Nat) (h0 : decode cc pc = .ok (.if_icmp .eq off, 3)) (h1 : (pc : Int) + off = (tgt : Int)) (hx : x < 2 ^ 31) (hy : y < 2 ^ 31) (kt : x = y → es call oc cc rt am ex Po tgt L st μ a) (kf : x ≠ y → es call oc cc rt am ex Po (pc + 3) L st μ a) : es call oc cc rt am ex Po pc L (.int (nI y) :: .int (nI x) :: st) μ a := es_icmp_eq h0 h1 (fun c => kt ((nI_eq hx hy).mp c)) (fun c => kf (fun q => c ((nI_eq hx hy).mpr q)))
theorem es_icmp_neN {pc : Nat} {L st : List Value} {μ : ev_M} {a : Nat} {x y : Nat} {off : Int} (tgt : Nat) (h0 : decode cc pc = .ok (.if_icmp .ne off, 3)) (h1 : (pc : Int) + off = (tgt : Int)) (hx : x < 2 ^ 31) (hy : y < 2 ^ 31) (kt : x ≠ y → es call oc cc rt am ex Po tgt L st μ a) (kf : x = y → es call oc cc rt am ex Po (pc + 3) L st μ a) : es call oc cc rt am ex Po pc L (.int (nI y) :: .int (nI x) :: st) μ a := es_icmp_ne h0 h1 (fun c => kt (fun q => c ((nI_eq hx hy).mpr q))) (fun c => kf ((nI_eq hx hy).mp c))
theorem es_icmp_ltN {pc : Nat} {L st : List Value} {μ : ev_M} {a : Nat} {x y : Nat} {off : Int} (tgt : Nat) (h0 : decode cc pc = .ok (.if_icmp .lt off, 3)) (h1 : (pc : Int) + off = (tgt : Int)) (hx : x < 2 ^ 31) (hy : y < 2 ^ 31) (kt : x < y → es call oc cc rt am ex Po tgt L st μ a) (kf : y ≤ x → es call oc cc rt am ex Po (pc + 3) L st μ a) : es call oc cc rt am ex Po pc L (.int (nI y) :: .int (nI x) :: st) μ a := es_icmp_lt h0 h1 (fun c => kt ((nI_ltI hx hy).mp c)) (fun c => kf (by have := mt (nI_ltI hx hy).mpr c; omega))
theorem es_icmp_geN {pc : Nat} {L st : List Value} {μ : ev_M} {a : Nat} {x y : Nat} {off : Int} (tgt : Nat) (h0 : decode cc pc = .ok (.if_icmp .ge off, 3)) (h1 : (pc : Int) + off = (tgt : Int)) (hx : x < 2 ^ 31) (hy : y < 2 ^ 31) (kt : y ≤ x → es call oc cc rt am ex Po tgt L st μ a) (kf : x < y → es call oc cc rt am ex Po (pc + 3) L st μ a) : es call oc cc rt am ex Po pc L (.int (nI y) :: .int (nI x) :: st) μ a := es_icmp_ge h0 h1 (fun c => kt ((nI_leI hy hx).mp c)) (fun c => kf (by have := mt (nI_leI hy hx).mpr c; omega))
theorem es_icmp_gtN {pc : Nat} {L st : List Value} {μ : ev_M} {a : Nat} {x y : Nat} {off : Int} (tgt : Nat) (h0 : decode cc pc = .ok (.if_icmp .gt off, 3)) (h1 : (pc : Int) + off = (tgt : Int)) (hx : x < 2 ^ 31) (hy : y < 2 ^ 31) (kt : y < x → es call oc cc rt am ex Po tgt L st μ a) (kf : x ≤ y → es call oc cc rt am ex Po (pc + 3) L st μ a) : es call oc cc rt am ex Po pc L (.int (nI y) :: .int (nI x) :: st) μ a := es_icmp_gt h0 h1 (fun c => kt ((nI_ltI hy hx).mp c)) (fun c => kf (by have := mt (nI_ltI hy hx).mpr c; omega))
theorem es_icmp_leN {pc : Nat} {L st : List Value} {μ : ev_M} {a : Nat} {x y : Nat} {off : Int} (tgt : Nat) (h0 : decode cc pc = .ok (.if_icmp .le off, 3)) (h1 : (pc : Int) + off = (tgt : Int)) (hx : x < 2 ^ 31) (hy : y < 2 ^ 31) (kt : x ≤ y → es call oc cc rt am ex Po tgt L st μ a) (kf : y < x → es call oc cc rt am ex Po (pc + 3) L st μ a) : es call oc cc rt am ex Po pc L (.int (nI y) :: .int (nI x) :: st) μ a := es_icmp_le h0 h1 (fun c => kt ((nI_leI hx hy).mp c)) (fun c => kf (by have := mt (nI_leI hx hy).mpr c; omega))
/-- an int that tells true or false -/
def bI (b : Bool) : Int32 := if b then 1 else 0
theorem bI_0 {b : Bool} : bI b = 0 ↔ b = false := by cases b <;> decide
theorem es_if_eqB {pc : Nat} {L st : List Value} {μ : ev_M} {a : Nat} {b : Bool} {off : Int} (tgt : Nat) (h0 : decode cc pc = .ok (.ifCond .eq off, 3)) (h1 : (pc : Int) + off = (tgt : Int)) (kt : b = false → es call oc cc rt am ex Po tgt L st μ a) (kf : b = true → es call oc cc rt am ex Po (pc + 3) L st μ a) : es call oc cc rt am ex Po pc L (.int (bI b) :: st) μ a := es_if_eq h0 h1 (fun c => kt (bI_0.mp c)) (fun c => kf (by cases b; exact absurd rfl c; rfl))
theorem es_if_neB {pc : Nat} {L st : List Value} {μ : ev_M} {a : Nat} {b : Bool} {off : Int} (tgt : Nat) (h0 : decode cc pc = .ok (.ifCond .ne off, 3)) (h1 : (pc : Int) + off = (tgt : Int)) (kt : b = true → es call oc cc rt am ex Po tgt L st μ a) (kf : b = false → es call oc cc rt am ex Po (pc + 3) L st μ a) : es call oc cc rt am ex Po pc L (.int (bI b) :: st) μ a := es_if_ne h0 h1 (fun c => kt (by cases b; exact absurd rfl c; rfl)) (fun c => kf (bI_0.mp c))
theorem es_bret {b : Bool} : narrow .boolean (.int (bI b)) = .int (bI b) := by cases b <;> rfl
end EsRows
/-- a method's walk from its entry -/
theorem SPi.of {d y : Nat} {as : List Value} {μ : ev_M} {P : Int32 → ev_M → Prop} (hl : (ev_fl2 as).length ≤ ev_yL y) (h : es (ev_CALL d) (ev_yo y) (ev_yb y) (ev_yr y) (ev_mc y) (0, fun _ => 0, ev_yh y) (fun r μ2 => ∃ x : Int32, r = (some (.int x), 0) ∧ P x μ2) 0 (ev_ent as (ev_yL y)) [] μ 0) : SPi (ev_CALL (d + 1)) y as μ P := by
  obtain ⟨rf, μf, ⟨x, rfl, hp⟩, hE⟩ := h
  exact ⟨x, μf, ⟨hl, hE⟩, hp⟩
theorem SPv.of {d y : Nat} {as : List Value} {μ : ev_M} {P : ev_M → Prop} (hl : (ev_fl2 as).length ≤ ev_yL y) (h : es (ev_CALL d) (ev_yo y) (ev_yb y) (ev_yr y) (ev_mc y) (0, fun _ => 0, ev_yh y) (fun r μ2 => r = (none, 0) ∧ P μ2) 0 (ev_ent as (ev_yL y)) [] μ 0) : SPv (ev_CALL (d + 1)) y as μ P := by
  obtain ⟨rf, μf, ⟨rfl, hp⟩, hE⟩ := h
  exact ⟨μf, ⟨hl, hE⟩, hp⟩
theorem SPp.of {d y : Nat} {as : List Value} {μ : ev_M} {v : Value} (hl : (ev_fl2 as).length ≤ ev_yL y) (h : es (ev_CALL d) (ev_yo y) (ev_yb y) (ev_yr y) (ev_mc y) (0, fun _ => 0, ev_yh y) (fun r μ2 => r = (some v, 0) ∧ μ2 = μ) 0 (ev_ent as (ev_yL y)) [] μ 0) : ev_CALL (d + 1) y as μ (some v, 0) μ := by
  obtain ⟨rf, μf, ⟨rfl, rfl⟩, hE⟩ := h
  exact ⟨hl, hE⟩
theorem SPx.of {d y : Nat} {as : List Value} {μ : ev_M} {P : Int32 → ev_M → Prop} {T : Nat → ev_M → Prop} (hl : (ev_fl2 as).length ≤ ev_yL y) (h : es (ev_CALL d) (ev_yo y) (ev_yb y) (ev_yr y) (ev_mc y) (0, fun _ => 0, ev_yh y) (fun r μ2 => (∃ x : Int32, r = (some (.int x), 0) ∧ P x μ2) ∨ (∃ E : Nat, r = (none, E + 1) ∧ T E μ2)) 0 (ev_ent as (ev_yL y)) [] μ 0) : SPx (ev_CALL (d + 1)) y as μ P T := by
  obtain ⟨rf, μf, ⟨x, rfl, hp⟩ | ⟨E, rfl, hp⟩, hE⟩ := h
  · exact Or.inl ⟨x, μf, ⟨hl, hE⟩, hp⟩
  · exact Or.inr ⟨E, μf, ⟨hl, hE⟩, hp⟩
theorem ok_1 {x : Value} {t : List Value} : ev_ok1 (x :: t) 0 := ⟨by simp, fun j v h => by omega⟩

theorem ic_0 : Int32.ofInt 0 = nI 0 := by decide +kernel
theorem ic_1 : Int32.ofInt 1 = nI 1 := by decide +kernel
theorem ic_2 : Int32.ofInt 2 = nI 2 := by decide +kernel
theorem ic_3 : Int32.ofInt 3 = nI 3 := by decide +kernel
theorem ic_4 : Int32.ofInt 4 = nI 4 := by decide +kernel
theorem ic_5 : Int32.ofInt 5 = nI 5 := by decide +kernel
theorem ic_m1 : Int32.ofInt (-1) = -1 := by decide +kernel
theorem ic_m9 : (Int8.ofInt (-9)).toInt32 = -9 := by decide +kernel
theorem ic_m10 : (Int8.ofInt (-10)).toInt32 = -10 := by decide +kernel
theorem bp_6 : (Int8.ofInt 6).toInt32 = nI 6 := by decide +kernel
theorem bp_7 : (Int8.ofInt 7).toInt32 = nI 7 := by decide +kernel
theorem bp_8 : (Int8.ofInt 8).toInt32 = nI 8 := by decide +kernel
theorem bp_9 : (Int8.ofInt 9).toInt32 = nI 9 := by decide +kernel
theorem bp_10 : (Int8.ofInt 10).toInt32 = nI 10 := by decide +kernel
theorem bp_11 : (Int8.ofInt 11).toInt32 = nI 11 := by decide +kernel
theorem bp_12 : (Int8.ofInt 12).toInt32 = nI 12 := by decide +kernel
theorem bp_13 : (Int8.ofInt 13).toInt32 = nI 13 := by decide +kernel
theorem bp_14 : (Int8.ofInt 14).toInt32 = nI 14 := by decide +kernel
theorem bp_15 : (Int8.ofInt 15).toInt32 = nI 15 := by decide +kernel
theorem bp_16 : (Int8.ofInt 16).toInt32 = nI 16 := by decide +kernel
theorem bp_20 : (Int8.ofInt 20).toInt32 = nI 20 := by decide +kernel
theorem bp_44 : (Int8.ofInt 44).toInt32 = nI 44 := by decide +kernel
theorem bp_60 : (Int8.ofInt 60).toInt32 = nI 60 := by decide +kernel
theorem bp_63 : (Int8.ofInt 63).toInt32 = nI 63 := by decide +kernel
theorem sp_200 : (Int16.ofInt 200).toInt32 = nI 200 := by decide +kernel
theorem sp_201 : (Int16.ofInt 201).toInt32 = nI 201 := by decide +kernel
theorem sp_9999 : (Int16.ofInt 9999).toInt32 = nI 9999 := by decide +kernel
theorem sp_26801 : (Int16.ofInt 26801).toInt32 = nI 26801 := by decide +kernel
theorem lay_0 : ev_lay 0 = (0, 5, [some 44, some 1, some 2, some 3, some 5, some 7, some 12]) := by decide
theorem lay_1 : ev_lay 1 = (3, 2, [some 55, some 66]) := by decide
theorem lay_2 : ev_lay 2 = (2, 2, []) := by decide
theorem lay_3 : ev_lay 3 = (0, 1, [some 4, none, none]) := by decide
theorem lay_4 : ev_lay 4 = (3, 6, [some 77, some 88, some 99, some 110, some 121, some 132]) := by decide
theorem lay_5 : ev_lay 5 = (0, 2, [some 6, none]) := by decide
theorem lay_6 : ev_lay 6 = (1, 60, []) := by decide
theorem lay_7 : ev_lay 7 = (0, 4, [some 8, some 9, some 10, some 11]) := by decide
theorem lay_8 : ev_lay 8 = (5, 10, [some 24, some 25, some 26, some 27, some 28, some 29, some 30, some 31, some 32, some 33]) := by decide
theorem lay_9 : ev_lay 9 = (5, 10, [some 34, some 35, some 36, some 37, some 38, some 39, some 40, some 41, some 42, some 43]) := by decide
theorem lay_10 : ev_lay 10 = (1, 10, []) := by decide
theorem lay_11 : ev_lay 11 = (2, 10, []) := by decide
theorem lay_12 : ev_lay 12 = (0, 3, [some 13, none, none, none]) := by decide
theorem lay_13 : ev_lay 13 = (1, 10, []) := by decide
theorem lay_24 : ev_lay 24 = (1, 10, []) := by decide
theorem lay_25 : ev_lay 25 = (1, 10, []) := by decide
theorem lay_26 : ev_lay 26 = (1, 10, []) := by decide
theorem lay_27 : ev_lay 27 = (1, 10, []) := by decide
theorem lay_28 : ev_lay 28 = (1, 10, []) := by decide
theorem lay_29 : ev_lay 29 = (1, 10, []) := by decide
theorem lay_30 : ev_lay 30 = (1, 10, []) := by decide
theorem lay_31 : ev_lay 31 = (1, 10, []) := by decide
theorem lay_32 : ev_lay 32 = (1, 10, []) := by decide
theorem lay_33 : ev_lay 33 = (1, 10, []) := by decide
theorem lay_34 : ev_lay 34 = (1, 10, []) := by decide
theorem lay_35 : ev_lay 35 = (1, 10, []) := by decide
theorem lay_36 : ev_lay 36 = (1, 10, []) := by decide
theorem lay_37 : ev_lay 37 = (1, 10, []) := by decide
theorem lay_38 : ev_lay 38 = (1, 10, []) := by decide
theorem lay_39 : ev_lay 39 = (1, 10, []) := by decide
theorem lay_40 : ev_lay 40 = (1, 10, []) := by decide
theorem lay_41 : ev_lay 41 = (1, 10, []) := by decide
theorem lay_42 : ev_lay 42 = (1, 10, []) := by decide
theorem lay_43 : ev_lay 43 = (1, 10, []) := by decide
theorem lay_44 : ev_lay 44 = (0, 0, [some 45, some 46, some 47, some 48, some 49, some 50, some 51, some 52, some 53, some 54, none, none, none, none, none, none, none]) := by decide
theorem lay_45 : ev_lay 45 = (1, 10, []) := by decide
theorem lay_46 : ev_lay 46 = (1, 10, []) := by decide
theorem lay_47 : ev_lay 47 = (1, 4, []) := by decide
theorem lay_48 : ev_lay 48 = (1, 4, []) := by decide
theorem lay_49 : ev_lay 49 = (1, 4, []) := by decide
theorem lay_50 : ev_lay 50 = (1, 4, []) := by decide
theorem lay_51 : ev_lay 51 = (1, 4, []) := by decide
theorem lay_52 : ev_lay 52 = (1, 4, []) := by decide
theorem lay_53 : ev_lay 53 = (1, 4, []) := by decide
theorem lay_54 : ev_lay 54 = (1, 4, []) := by decide
theorem fld_0_0 : ev_fld 0 5 0 = some (some 44) := by decide
theorem fld_0_1 : ev_fld 0 5 1 = some (some 1) := by decide
theorem fld_0_2 : ev_fld 0 5 2 = some (some 2) := by decide
theorem fld_0_3 : ev_fld 0 5 3 = some (some 3) := by decide
theorem fld_0_4 : ev_fld 0 5 4 = some (some 5) := by decide
theorem fld_0_5 : ev_fld 0 5 5 = some (some 7) := by decide
theorem fld_0_6 : ev_fld 0 5 6 = some (some 12) := by decide
theorem fld_3_0 : ev_fld 3 1 0 = some (some 4) := by decide
theorem fld_3_1 : ev_fld 3 1 1 = some none := by decide
theorem fld_3_2 : ev_fld 3 1 2 = some none := by decide
theorem fld_5_0 : ev_fld 5 2 0 = some (some 6) := by decide
theorem fld_5_1 : ev_fld 5 2 1 = some none := by decide
theorem fld_7_0 : ev_fld 7 4 0 = some (some 8) := by decide
theorem fld_7_1 : ev_fld 7 4 1 = some (some 9) := by decide
theorem fld_7_2 : ev_fld 7 4 2 = some (some 10) := by decide
theorem fld_7_3 : ev_fld 7 4 3 = some (some 11) := by decide
theorem fld_12_0 : ev_fld 12 3 0 = some (some 13) := by decide
theorem fld_12_1 : ev_fld 12 3 1 = some none := by decide
theorem fld_12_2 : ev_fld 12 3 2 = some none := by decide
theorem fld_12_3 : ev_fld 12 3 3 = some none := by decide
theorem fld_44_0 : ev_fld 44 0 0 = some (some 45) := by decide
theorem fld_44_1 : ev_fld 44 0 1 = some (some 46) := by decide
theorem fld_44_2 : ev_fld 44 0 2 = some (some 47) := by decide
theorem fld_44_3 : ev_fld 44 0 3 = some (some 48) := by decide
theorem fld_44_4 : ev_fld 44 0 4 = some (some 49) := by decide
theorem fld_44_5 : ev_fld 44 0 5 = some (some 50) := by decide
theorem fld_44_6 : ev_fld 44 0 6 = some (some 51) := by decide
theorem fld_44_7 : ev_fld 44 0 7 = some (some 52) := by decide
theorem fld_44_8 : ev_fld 44 0 8 = some (some 53) := by decide
theorem fld_44_9 : ev_fld 44 0 9 = some (some 54) := by decide
theorem fld_44_10 : ev_fld 44 0 10 = some none := by decide
theorem fld_44_11 : ev_fld 44 0 11 = some none := by decide
theorem fld_44_12 : ev_fld 44 0 12 = some none := by decide
theorem fld_44_13 : ev_fld 44 0 13 = some none := by decide
theorem fld_44_14 : ev_fld 44 0 14 = some none := by decide
theorem fld_44_15 : ev_fld 44 0 15 = some none := by decide
theorem fld_44_16 : ev_fld 44 0 16 = some none := by decide
theorem lay24 : ∀ i, i < 20 → ev_lay (24 + i) = (1, 10, []) := by decide
theorem rows8 : ∀ i, i < 10 → ([some 24, some 25, some 26, some 27, some 28, some 29, some 30, some 31, some 32, some 33] : List (Option Nat)).getD i none = some (24 + i) := by decide
theorem rows9 : ∀ i, i < 10 → ([some 34, some 35, some 36, some 37, some 38, some 39, some 40, some 41, some 42, some 43] : List (Option Nat)).getD i none = some (24 + (10 + i)) := by decide
