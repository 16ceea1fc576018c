/-! words that the rows use -/
theorem w_arr1 : (Jvm.Cond.arrayClass Jvm.ClassFile.FieldType.int) ∈ jtbl := j_mem 202 (by decide +kernel)
theorem w_arr2 : (Jvm.Cond.arrayClass Jvm.ClassFile.FieldType.byte) ∈ jtbl := j_mem 869 (by decide +kernel)
theorem w_arr3 : (Jvm.Cond.arrayClass Jvm.ClassFile.FieldType.boolean) ∈ jtbl := j_mem 1590 (by decide +kernel)
theorem w_arr4 : (Jvm.Cond.arrayClass Jvm.ClassFile.FieldType.char) ∈ jtbl := j_mem 576 (by decide +kernel)
theorem w_arr5 : (Jvm.Cond.arrayClass Jvm.ClassFile.FieldType.long) ∈ jtbl := j_mem 517 (by decide +kernel)
theorem w_oi1 : Jvm.Cond.instanceMethod objectInit ∈ jtbl := j_mem 120 (by decide +kernel)
theorem w_oi2 : Jvm.Cond.code objectInit ⟨#[0xb1]⟩ 1 none ∈ jtbl := j_mem 121 (by decide +kernel)
theorem k_kind (ci : Nat) (h : ci < 13) : ∀ k, k < (kc ci).2.2 → kty ci k = .int ∨ kty ci k = .boolean ∨ j_isref (kty ci k) = true := by
  match ci, h with
  | 0, _ => decide +kernel
  | 1, _ => decide +kernel
  | 2, _ => decide +kernel
  | 3, _ => decide +kernel
  | 4, _ => decide +kernel
  | 5, _ => decide +kernel
  | 6, _ => decide +kernel
  | 7, _ => decide +kernel
  | 8, _ => decide +kernel
  | 9, _ => decide +kernel
  | 10, _ => decide +kernel
  | 11, _ => decide +kernel
  | 12, _ => decide +kernel
  | ci + 13, h => exact absurd h (by omega)
theorem w_ac1 : Jvm.Cond.native arraycopyName ∈ jtbl := j_mem 1071 (by decide +kernel)
theorem w_ac2 : Jvm.Cond.static arraycopyName ∈ jtbl := j_mem 1070 (by decide +kernel)
theorem w_ac3 : Jvm.Cond.initialized "java/lang/System" ∈ jtbl := j_mem 109 (by decide +kernel)
theorem w_mx2 : Jvm.Cond.static Lib.Math.max.name ∈ jtbl := j_mem 799 (by decide +kernel)
theorem w_mx4 : Jvm.Cond.code Lib.Math.max.name Lib.Math.max.code 2 (some .int) ∈ jtbl := j_mem 800 (by decide +kernel)
theorem w_mn2 : Jvm.Cond.static Lib.Math.min.name ∈ jtbl := j_mem 802 (by decide +kernel)
theorem w_mn4 : Jvm.Cond.code Lib.Math.min.name Lib.Math.min.code 2 (some .int) ∈ jtbl := j_mem 803 (by decide +kernel)
theorem w_mx3 : Jvm.Cond.initialized "java/lang/Math" ∈ jtbl := j_mem 104 (by decide +kernel)
