/-! ===== words of the constructors ===== -/
theorem in_91 : (Cond.initialized "DominoKinLaw") ∈ dk_T := dk_in (i := 91) (by decide +kernel) rfl
theorem in_113 : (Cond.classLink "DominoKinLaw" (7 : Nat) "DominoKin") ∈ dk_T := dk_in (i := 113) (by decide +kernel) rfl
theorem in_114 : (Cond.instantiable "DominoKin" (17 : Nat)) ∈ dk_T := dk_in (i := 114) (by decide +kernel) rfl
theorem in_115 : (Cond.methodLink "DominoKinLaw" (9 : Nat) ({ cls := "DominoKin", name := "<init>", desc := "()V" } : Jvm.MethodName)) ∈ dk_T := dk_in (i := 115) (by decide +kernel) rfl
theorem in_116 : (Cond.instanceMethod ({ cls := "DominoKin", name := "<init>", desc := "()V" } : Jvm.MethodName)) ∈ dk_T := dk_in (i := 116) (by decide +kernel) rfl
theorem in_117 : (Cond.code ({ cls := "DominoKin", name := "<init>", desc := "()V" } : Jvm.MethodName) prog_1_method_1_code (1 : Nat) (Option.none : Option Jvm.ClassFile.FieldType)) ∈ dk_T := dk_in (i := 117) (by decide +kernel) rfl
theorem in_118 : (Cond.methodLink "DominoKin" (1 : Nat) ({ cls := "java/lang/Object", name := "<init>", desc := "()V" } : Jvm.MethodName)) ∈ dk_T := dk_in (i := 118) (by decide +kernel) rfl
theorem in_119 : (Cond.instanceMethod ({ cls := "java/lang/Object", name := "<init>", desc := "()V" } : Jvm.MethodName)) ∈ dk_T := dk_in (i := 119) (by decide +kernel) rfl
theorem in_120 : (Cond.code ({ cls := "java/lang/Object", name := "<init>", desc := "()V" } : Jvm.MethodName) object_method_1_code (1 : Nat) (Option.none : Option Jvm.ClassFile.FieldType)) ∈ dk_T := dk_in (i := 120) (by decide +kernel) rfl
theorem in_121 : (Cond.classLink "DominoKin" (7 : Nat) "DominoKin$Piece") ∈ dk_T := dk_in (i := 121) (by decide +kernel) rfl
theorem in_123 : (Cond.instantiable "DominoKin$Piece" (5 : Nat)) ∈ dk_T := dk_in (i := 123) (by decide +kernel) rfl
theorem in_125 : (Cond.instanceMethod ({ cls := "DominoKin$Piece", name := "<init>", desc := "()V" } : Jvm.MethodName)) ∈ dk_T := dk_in (i := 125) (by decide +kernel) rfl
theorem in_126 : (Cond.code ({ cls := "DominoKin$Piece", name := "<init>", desc := "()V" } : Jvm.MethodName) prog_7_method_1_code (1 : Nat) (Option.none : Option Jvm.ClassFile.FieldType)) ∈ dk_T := dk_in (i := 126) (by decide +kernel) rfl
theorem in_127 : (Cond.methodLink "DominoKin$Piece" (3 : Nat) ({ cls := "java/lang/Object", name := "<init>", desc := "()V" } : Jvm.MethodName)) ∈ dk_T := dk_in (i := 127) (by decide +kernel) rfl
theorem in_151 : (Cond.arrayClass Jvm.ClassFile.FieldType.int) ∈ dk_T := dk_in (i := 151) (by decide +kernel) rfl
theorem in_152 : (Cond.classLink "DominoKin" (10 : Nat) "DominoKin$Aunt") ∈ dk_T := dk_in (i := 152) (by decide +kernel) rfl
theorem in_153 : (Cond.instantiable "DominoKin$Aunt" (5 : Nat)) ∈ dk_T := dk_in (i := 153) (by decide +kernel) rfl
theorem in_155 : (Cond.instanceMethod ({ cls := "DominoKin$Aunt", name := "<init>", desc := "()V" } : Jvm.MethodName)) ∈ dk_T := dk_in (i := 155) (by decide +kernel) rfl
theorem in_156 : (Cond.code ({ cls := "DominoKin$Aunt", name := "<init>", desc := "()V" } : Jvm.MethodName) prog_2_method_1_code (1 : Nat) (Option.none : Option Jvm.ClassFile.FieldType)) ∈ dk_T := dk_in (i := 156) (by decide +kernel) rfl
theorem in_164 : (Cond.classLink "DominoKin" (13 : Nat) "DominoKin$Father") ∈ dk_T := dk_in (i := 164) (by decide +kernel) rfl
theorem in_165 : (Cond.instantiable "DominoKin$Father" (5 : Nat)) ∈ dk_T := dk_in (i := 165) (by decide +kernel) rfl
theorem in_167 : (Cond.instanceMethod ({ cls := "DominoKin$Father", name := "<init>", desc := "()V" } : Jvm.MethodName)) ∈ dk_T := dk_in (i := 167) (by decide +kernel) rfl
theorem in_168 : (Cond.code ({ cls := "DominoKin$Father", name := "<init>", desc := "()V" } : Jvm.MethodName) prog_4_method_1_code (1 : Nat) (Option.none : Option Jvm.ClassFile.FieldType)) ∈ dk_T := dk_in (i := 168) (by decide +kernel) rfl
theorem in_176 : (Cond.classLink "DominoKin" (16 : Nat) "DominoKin$Eldest") ∈ dk_T := dk_in (i := 176) (by decide +kernel) rfl
theorem in_177 : (Cond.instantiable "DominoKin$Eldest" (5 : Nat)) ∈ dk_T := dk_in (i := 177) (by decide +kernel) rfl
theorem in_179 : (Cond.instanceMethod ({ cls := "DominoKin$Eldest", name := "<init>", desc := "()V" } : Jvm.MethodName)) ∈ dk_T := dk_in (i := 179) (by decide +kernel) rfl
theorem in_180 : (Cond.code ({ cls := "DominoKin$Eldest", name := "<init>", desc := "()V" } : Jvm.MethodName) prog_3_method_1_code (1 : Nat) (Option.none : Option Jvm.ClassFile.FieldType)) ∈ dk_T := dk_in (i := 180) (by decide +kernel) rfl
theorem in_188 : (Cond.classLink "DominoKin" (19 : Nat) "DominoKin$Girl") ∈ dk_T := dk_in (i := 188) (by decide +kernel) rfl
theorem in_189 : (Cond.instantiable "DominoKin$Girl" (5 : Nat)) ∈ dk_T := dk_in (i := 189) (by decide +kernel) rfl
theorem in_191 : (Cond.instanceMethod ({ cls := "DominoKin$Girl", name := "<init>", desc := "()V" } : Jvm.MethodName)) ∈ dk_T := dk_in (i := 191) (by decide +kernel) rfl
theorem in_192 : (Cond.code ({ cls := "DominoKin$Girl", name := "<init>", desc := "()V" } : Jvm.MethodName) prog_5_method_1_code (1 : Nat) (Option.none : Option Jvm.ClassFile.FieldType)) ∈ dk_T := dk_in (i := 192) (by decide +kernel) rfl
theorem in_200 : (Cond.classLink "DominoKin" (22 : Nat) "DominoKin$Sailor") ∈ dk_T := dk_in (i := 200) (by decide +kernel) rfl
theorem in_201 : (Cond.instantiable "DominoKin$Sailor" (5 : Nat)) ∈ dk_T := dk_in (i := 201) (by decide +kernel) rfl
theorem in_203 : (Cond.instanceMethod ({ cls := "DominoKin$Sailor", name := "<init>", desc := "()V" } : Jvm.MethodName)) ∈ dk_T := dk_in (i := 203) (by decide +kernel) rfl
theorem in_204 : (Cond.code ({ cls := "DominoKin$Sailor", name := "<init>", desc := "()V" } : Jvm.MethodName) prog_11_method_1_code (1 : Nat) (Option.none : Option Jvm.ClassFile.FieldType)) ∈ dk_T := dk_in (i := 204) (by decide +kernel) rfl
theorem in_212 : (Cond.classLink "DominoKin" (31 : Nat) "DominoKin$Street") ∈ dk_T := dk_in (i := 212) (by decide +kernel) rfl
theorem in_213 : (Cond.instantiable "DominoKin$Street" (15 : Nat)) ∈ dk_T := dk_in (i := 213) (by decide +kernel) rfl
theorem in_214 : (Cond.methodLink "DominoKin" (33 : Nat) ({ cls := "DominoKin$Street", name := "<init>", desc := "([LDominoKin$Piece;)V" } : Jvm.MethodName)) ∈ dk_T := dk_in (i := 214) (by decide +kernel) rfl
theorem in_215 : (Cond.instanceMethod ({ cls := "DominoKin$Street", name := "<init>", desc := "([LDominoKin$Piece;)V" } : Jvm.MethodName)) ∈ dk_T := dk_in (i := 215) (by decide +kernel) rfl
theorem in_216 : (Cond.code ({ cls := "DominoKin$Street", name := "<init>", desc := "([LDominoKin$Piece;)V" } : Jvm.MethodName) prog_12_method_1_code (2 : Nat) (Option.none : Option Jvm.ClassFile.FieldType)) ∈ dk_T := dk_in (i := 216) (by decide +kernel) rfl
theorem in_217 : (Cond.methodLink "DominoKin$Street" (3 : Nat) ({ cls := "java/lang/Object", name := "<init>", desc := "()V" } : Jvm.MethodName)) ∈ dk_T := dk_in (i := 217) (by decide +kernel) rfl
theorem in_218 : (Cond.classLink "DominoKin$Street" (37 : Nat) "DominoKin$Moment") ∈ dk_T := dk_in (i := 218) (by decide +kernel) rfl
theorem in_219 : (Cond.instantiable "DominoKin$Moment" (3 : Nat)) ∈ dk_T := dk_in (i := 219) (by decide +kernel) rfl
theorem in_221 : (Cond.instanceMethod ({ cls := "DominoKin$Moment", name := "<init>", desc := "()V" } : Jvm.MethodName)) ∈ dk_T := dk_in (i := 221) (by decide +kernel) rfl
theorem in_222 : (Cond.code ({ cls := "DominoKin$Moment", name := "<init>", desc := "()V" } : Jvm.MethodName) prog_6_method_1_code (1 : Nat) (Option.none : Option Jvm.ClassFile.FieldType)) ∈ dk_T := dk_in (i := 222) (by decide +kernel) rfl
theorem in_223 : (Cond.methodLink "DominoKin$Moment" (3 : Nat) ({ cls := "java/lang/Object", name := "<init>", desc := "()V" } : Jvm.MethodName)) ∈ dk_T := dk_in (i := 223) (by decide +kernel) rfl
theorem in_240 : (Cond.classLink "DominoKin$Street" (53 : Nat) "DominoKin$RuleBook") ∈ dk_T := dk_in (i := 240) (by decide +kernel) rfl
theorem in_241 : (Cond.instantiable "DominoKin$RuleBook" (10 : Nat)) ∈ dk_T := dk_in (i := 241) (by decide +kernel) rfl
theorem in_243 : (Cond.instanceMethod ({ cls := "DominoKin$RuleBook", name := "<init>", desc := "()V" } : Jvm.MethodName)) ∈ dk_T := dk_in (i := 243) (by decide +kernel) rfl
theorem in_244 : (Cond.code ({ cls := "DominoKin$RuleBook", name := "<init>", desc := "()V" } : Jvm.MethodName) prog_10_method_1_code (1 : Nat) (Option.none : Option Jvm.ClassFile.FieldType)) ∈ dk_T := dk_in (i := 244) (by decide +kernel) rfl
theorem in_245 : (Cond.methodLink "DominoKin$RuleBook" (3 : Nat) ({ cls := "java/lang/Object", name := "<init>", desc := "()V" } : Jvm.MethodName)) ∈ dk_T := dk_in (i := 245) (by decide +kernel) rfl
theorem in_281 : (Cond.classLink "DominoKin$Street" (60 : Nat) "DominoKin$Reports") ∈ dk_T := dk_in (i := 281) (by decide +kernel) rfl
theorem in_282 : (Cond.instantiable "DominoKin$Reports" (10 : Nat)) ∈ dk_T := dk_in (i := 282) (by decide +kernel) rfl
theorem in_284 : (Cond.instanceMethod ({ cls := "DominoKin$Reports", name := "<init>", desc := "()V" } : Jvm.MethodName)) ∈ dk_T := dk_in (i := 284) (by decide +kernel) rfl
theorem in_285 : (Cond.code ({ cls := "DominoKin$Reports", name := "<init>", desc := "()V" } : Jvm.MethodName) prog_9_method_1_code (1 : Nat) (Option.none : Option Jvm.ClassFile.FieldType)) ∈ dk_T := dk_in (i := 285) (by decide +kernel) rfl
theorem in_286 : (Cond.methodLink "DominoKin$Reports" (3 : Nat) ({ cls := "java/lang/Object", name := "<init>", desc := "()V" } : Jvm.MethodName)) ∈ dk_T := dk_in (i := 286) (by decide +kernel) rfl
theorem in_390 : (Cond.classLink "DominoKin" (47 : Nat) "DominoKin$Planner") ∈ dk_T := dk_in (i := 390) (by decide +kernel) rfl
theorem in_391 : (Cond.instantiable "DominoKin$Planner" (4 : Nat)) ∈ dk_T := dk_in (i := 391) (by decide +kernel) rfl
theorem in_392 : (Cond.methodLink "DominoKin" (49 : Nat) ({ cls := "DominoKin$Planner", name := "<init>", desc := "(LDominoKin$Street;)V" } : Jvm.MethodName)) ∈ dk_T := dk_in (i := 392) (by decide +kernel) rfl
theorem in_393 : (Cond.instanceMethod ({ cls := "DominoKin$Planner", name := "<init>", desc := "(LDominoKin$Street;)V" } : Jvm.MethodName)) ∈ dk_T := dk_in (i := 393) (by decide +kernel) rfl
theorem in_394 : (Cond.code ({ cls := "DominoKin$Planner", name := "<init>", desc := "(LDominoKin$Street;)V" } : Jvm.MethodName) prog_8_method_1_code (3 : Nat) (Option.none : Option Jvm.ClassFile.FieldType)) ∈ dk_T := dk_in (i := 394) (by decide +kernel) rfl
theorem in_395 : (Cond.methodLink "DominoKin$Planner" (3 : Nat) ({ cls := "java/lang/Object", name := "<init>", desc := "()V" } : Jvm.MethodName)) ∈ dk_T := dk_in (i := 395) (by decide +kernel) rfl
theorem in_396 : (Cond.classLink "DominoKin$Planner" (9 : Nat) "DominoKin$Moment") ∈ dk_T := dk_in (i := 396) (by decide +kernel) rfl
theorem in_398 : (Cond.classLink "DominoKin$Planner" (17 : Nat) "[[I") ∈ dk_T := dk_in (i := 398) (by decide +kernel) rfl
theorem in_416 : (Cond.classLink "DominoKin" (56 : Nat) "DominoKin$Moment") ∈ dk_T := dk_in (i := 416) (by decide +kernel) rfl
theorem in_418 : (Cond.classLink "DominoKin" (71 : Nat) "DominoKin$RuleBook") ∈ dk_T := dk_in (i := 418) (by decide +kernel) rfl
theorem in_420 : (Cond.classLink "DominoKin" (78 : Nat) "[[I") ∈ dk_T := dk_in (i := 420) (by decide +kernel) rfl
theorem in_474 : (Cond.arrayClass Jvm.ClassFile.FieldType.byte) ∈ dk_T := dk_in (i := 474) (by decide +kernel) rfl
theorem in_1248 : (Cond.classLink "DominoKinLaw" (10 : Nat) "DominoKinModel") ∈ dk_T := dk_in (i := 1248) (by decide +kernel) rfl
theorem in_1249 : (Cond.instantiable "DominoKinModel" (31 : Nat)) ∈ dk_T := dk_in (i := 1249) (by decide +kernel) rfl
theorem in_1250 : (Cond.methodLink "DominoKinLaw" (12 : Nat) ({ cls := "DominoKinModel", name := "<init>", desc := "()V" } : Jvm.MethodName)) ∈ dk_T := dk_in (i := 1250) (by decide +kernel) rfl
theorem in_1251 : (Cond.instanceMethod ({ cls := "DominoKinModel", name := "<init>", desc := "()V" } : Jvm.MethodName)) ∈ dk_T := dk_in (i := 1251) (by decide +kernel) rfl
theorem in_1252 : (Cond.code ({ cls := "DominoKinModel", name := "<init>", desc := "()V" } : Jvm.MethodName) prog_14_method_1_code (2 : Nat) (Option.none : Option Jvm.ClassFile.FieldType)) ∈ dk_T := dk_in (i := 1252) (by decide +kernel) rfl
theorem in_1253 : (Cond.methodLink "DominoKinModel" (1 : Nat) ({ cls := "java/lang/Object", name := "<init>", desc := "()V" } : Jvm.MethodName)) ∈ dk_T := dk_in (i := 1253) (by decide +kernel) rfl
theorem in_1348 : (Cond.arrayClass Jvm.ClassFile.FieldType.boolean) ∈ dk_T := dk_in (i := 1348) (by decide +kernel) rfl
theorem in_1349 : (Cond.arrayClass Jvm.ClassFile.FieldType.long) ∈ dk_T := dk_in (i := 1349) (by decide +kernel) rfl
theorem s0_X0_init : dk_S0 mX0_init 0 := ⟨in_156, in_94, by decide +kernel, by decide⟩
theorem s0_X10_init : dk_S0 mX10_init 1 := ⟨in_216, in_99, by decide +kernel, by decide⟩
theorem s0_X11_init : dk_S0 mX11_init 0 := ⟨in_117, in_92, by decide +kernel, by decide⟩
theorem s0_X12_init : dk_S0 mX12_init 0 := ⟨in_1252, in_105, by decide +kernel, by decide⟩
theorem s0_X1_init : dk_S0 mX1_init 0 := ⟨in_180, in_96, by decide +kernel, by decide⟩
theorem s0_X2_init : dk_S0 mX2_init 0 := ⟨in_168, in_95, by decide +kernel, by decide⟩
theorem s0_X3_init : dk_S0 mX3_init 0 := ⟨in_192, in_97, by decide +kernel, by decide⟩
theorem s0_X4_init : dk_S0 mX4_init 0 := ⟨in_222, in_100, by decide +kernel, by decide⟩
theorem s0_X5_init : dk_S0 mX5_init 0 := ⟨in_126, in_93, by decide +kernel, by decide⟩
theorem s0_X6_init : dk_S0 mX6_init 1 := ⟨in_394, in_104, by decide +kernel, by decide⟩
theorem s0_X7_init : dk_S0 mX7_init 0 := ⟨in_285, in_102, by decide +kernel, by decide⟩
theorem s0_X8_init : dk_S0 mX8_init 0 := ⟨in_244, in_101, by decide +kernel, by decide⟩
theorem s0_X9_init : dk_S0 mX9_init 0 := ⟨in_204, in_98, by decide +kernel, by decide⟩
theorem gk_df_0 : ∀ k, k < 5 → defaultValue (tyX0 k) = if dk_ft 0 k < 2 then .int 0 else .null := by
  intro k hk
  rcases (show k = 0 ∨ k = 1 ∨ k = 2 ∨ k = 3 ∨ k = 4 by omega) with h | h | h | h | h <;> (subst h; decide +kernel)
theorem gk_df_1 : ∀ k, k < 5 → defaultValue (tyX1 k) = if dk_ft 1 k < 2 then .int 0 else .null := by
  intro k hk
  rcases (show k = 0 ∨ k = 1 ∨ k = 2 ∨ k = 3 ∨ k = 4 by omega) with h | h | h | h | h <;> (subst h; decide +kernel)
theorem gk_df_2 : ∀ k, k < 5 → defaultValue (tyX2 k) = if dk_ft 2 k < 2 then .int 0 else .null := by
  intro k hk
  rcases (show k = 0 ∨ k = 1 ∨ k = 2 ∨ k = 3 ∨ k = 4 by omega) with h | h | h | h | h <;> (subst h; decide +kernel)
theorem gk_df_3 : ∀ k, k < 5 → defaultValue (tyX3 k) = if dk_ft 3 k < 2 then .int 0 else .null := by
  intro k hk
  rcases (show k = 0 ∨ k = 1 ∨ k = 2 ∨ k = 3 ∨ k = 4 by omega) with h | h | h | h | h <;> (subst h; decide +kernel)
theorem gk_df_4 : ∀ k, k < 3 → defaultValue (tyX4 k) = if dk_ft 4 k < 2 then .int 0 else .null := by
  intro k hk
  rcases (show k = 0 ∨ k = 1 ∨ k = 2 by omega) with h | h | h <;> (subst h; decide +kernel)
theorem gk_df_5 : ∀ k, k < 5 → defaultValue (tyX5 k) = if dk_ft 5 k < 2 then .int 0 else .null := by
  intro k hk
  rcases (show k = 0 ∨ k = 1 ∨ k = 2 ∨ k = 3 ∨ k = 4 by omega) with h | h | h | h | h <;> (subst h; decide +kernel)
theorem gk_df_6 : ∀ k, k < 4 → defaultValue (tyX6 k) = if dk_ft 6 k < 2 then .int 0 else .null := by
  intro k hk
  rcases (show k = 0 ∨ k = 1 ∨ k = 2 ∨ k = 3 by omega) with h | h | h | h <;> (subst h; decide +kernel)
theorem gk_df_7 : ∀ k, k < 10 → defaultValue (tyX7 k) = if dk_ft 7 k < 2 then .int 0 else .null := by
  intro k hk
  rcases (show k = 0 ∨ k = 1 ∨ k = 2 ∨ k = 3 ∨ k = 4 ∨ k = 5 ∨ k = 6 ∨ k = 7 ∨ k = 8 ∨ k = 9 by omega) with h | h | h | h | h | h | h | h | h | h <;> (subst h; decide +kernel)
theorem gk_df_8 : ∀ k, k < 10 → defaultValue (tyX8 k) = if dk_ft 8 k < 2 then .int 0 else .null := by
  intro k hk
  rcases (show k = 0 ∨ k = 1 ∨ k = 2 ∨ k = 3 ∨ k = 4 ∨ k = 5 ∨ k = 6 ∨ k = 7 ∨ k = 8 ∨ k = 9 by omega) with h | h | h | h | h | h | h | h | h | h <;> (subst h; decide +kernel)
theorem gk_df_9 : ∀ k, k < 5 → defaultValue (tyX9 k) = if dk_ft 9 k < 2 then .int 0 else .null := by
  intro k hk
  rcases (show k = 0 ∨ k = 1 ∨ k = 2 ∨ k = 3 ∨ k = 4 by omega) with h | h | h | h | h <;> (subst h; decide +kernel)
theorem gk_df_10 : ∀ k, k < 15 → defaultValue (tyX10 k) = if dk_ft 10 k < 2 then .int 0 else .null := by
  intro k hk
  rcases (show k = 0 ∨ k = 1 ∨ k = 2 ∨ k = 3 ∨ k = 4 ∨ k = 5 ∨ k = 6 ∨ k = 7 ∨ k = 8 ∨ k = 9 ∨ k = 10 ∨ k = 11 ∨ k = 12 ∨ k = 13 ∨ k = 14 by omega) with h | h | h | h | h | h | h | h | h | h | h | h | h | h | h <;> (subst h; decide +kernel)
theorem gk_df_11 : ∀ k, k < 17 → defaultValue (tyX11 k) = if dk_ft 11 k < 2 then .int 0 else .null := by
  intro k hk
  rcases (show k = 0 ∨ k = 1 ∨ k = 2 ∨ k = 3 ∨ k = 4 ∨ k = 5 ∨ k = 6 ∨ k = 7 ∨ k = 8 ∨ k = 9 ∨ k = 10 ∨ k = 11 ∨ k = 12 ∨ k = 13 ∨ k = 14 ∨ k = 15 ∨ k = 16 by omega) with h | h | h | h | h | h | h | h | h | h | h | h | h | h | h | h | h <;> (subst h; decide +kernel)
theorem gk_df_12 : ∀ k, k < 31 → defaultValue (tyX12 k) = if dk_ft 12 k < 2 then .int 0 else .null := by
  intro k hk
  rcases (show k = 0 ∨ k = 1 ∨ k = 2 ∨ k = 3 ∨ k = 4 ∨ k = 5 ∨ k = 6 ∨ k = 7 ∨ k = 8 ∨ k = 9 ∨ k = 10 ∨ k = 11 ∨ k = 12 ∨ k = 13 ∨ k = 14 ∨ k = 15 ∨ k = 16 ∨ k = 17 ∨ k = 18 ∨ k = 19 ∨ k = 20 ∨ k = 21 ∨ k = 22 ∨ k = 23 ∨ k = 24 ∨ k = 25 ∨ k = 26 ∨ k = 27 ∨ k = 28 ∨ k = 29 ∨ k = 30 by omega) with h | h | h | h | h | h | h | h | h | h | h | h | h | h | h | h | h | h | h | h | h | h | h | h | h | h | h | h | h | h | h <;> (subst h; decide +kernel)
