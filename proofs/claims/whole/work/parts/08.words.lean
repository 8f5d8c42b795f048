/-! words of the tables, field, call, new and throw sites (by wip/whole/gen/words.py) -/
theorem gwA_all {ws : List Cond} (h : ws.all (fun w => decide (w ∈ lw_tbl) && goodWord w) = true) : ∀ w ∈ ws, w ∈ gwA := fun w hw => by
  have := List.all_eq_true.mp h w hw
  simp only [Bool.and_eq_true, decide_eq_true_eq] at this
  exact gwA_mem this.1 this.2
theorem gw_1 : Jvm.Cond.initialized "GraticulePress" ∈ gwA := gwA_at 1 (by decide +kernel) rfl
theorem gw_2 : Jvm.Cond.initialized "java/lang/AbstractStringBuilder" ∈ gwA := gwA_at 2 (by decide +kernel) rfl
theorem gw_3 : Jvm.Cond.initialized "java/lang/StringBuilder" ∈ gwA := gwA_at 3 (by decide +kernel) rfl
theorem gw_4 : Jvm.Cond.initialized "java/lang/String" ∈ gwA := gwA_at 4 (by decide +kernel) rfl
theorem gw_5 : Jvm.Cond.initialized "java/lang/StringUTF16" ∈ gwA := gwA_at 5 (by decide +kernel) rfl
theorem gw_6 : Jvm.Cond.initialized "GraticulePressModel" ∈ gwA := gwA_at 6 (by decide +kernel) rfl
theorem gw_10 : Jvm.Cond.initialized "java/lang/IllegalArgumentException" ∈ gwA := gwA_at 10 (by decide +kernel) rfl
theorem gw_11 : Jvm.Cond.initialized "java/lang/IllegalStateException" ∈ gwA := gwA_at 11 (by decide +kernel) rfl
theorem gw_12 : Jvm.Cond.initialized "jdk/internal/util/ArraysSupport" ∈ gwA := gwA_at 12 (by decide +kernel) rfl
theorem gw_13 : Jvm.Cond.initialized "java/lang/Math" ∈ gwA := gwA_at 13 (by decide +kernel) rfl
theorem gw_14 : Jvm.Cond.initialized "java/util/Arrays" ∈ gwA := gwA_at 14 (by decide +kernel) rfl
theorem gw_16 : Jvm.Cond.initialized "java/lang/StringLatin1" ∈ gwA := gwA_at 16 (by decide +kernel) rfl
theorem gw_17 : Jvm.Cond.initialized "jdk/internal/util/Preconditions" ∈ gwA := gwA_at 17 (by decide +kernel) rfl
theorem gw_18 : Jvm.Cond.initialized "GraticulePress$Place" ∈ gwA := gwA_at 18 (by decide +kernel) rfl
theorem gw_19 : Jvm.Cond.initialized "GraticulePress$Spot" ∈ gwA := gwA_at 19 (by decide +kernel) rfl
theorem gw_20 : Jvm.Cond.initialized "java/lang/IndexOutOfBoundsException" ∈ gwA := gwA_at 20 (by decide +kernel) rfl
theorem gw_21 : Jvm.Cond.initialized "GraticulePress$Spelling" ∈ gwA := gwA_at 21 (by decide +kernel) rfl
theorem gw_22 : Jvm.Cond.initialized "java/lang/Integer" ∈ gwA := gwA_at 22 (by decide +kernel) rfl
theorem gw_23 : Jvm.Cond.initialized "java/lang/StringIndexOutOfBoundsException" ∈ gwA := gwA_at 23 (by decide +kernel) rfl
theorem gw_24 : Jvm.Cond.initialized "java/lang/ArrayIndexOutOfBoundsException" ∈ gwA := gwA_at 24 (by decide +kernel) rfl
theorem gw_25 : Jvm.Cond.initialized "GraticulePress$Sheet" ∈ gwA := gwA_at 25 (by decide +kernel) rfl
theorem gw_26 : Jvm.Cond.initialized "GraticulePress$Grid" ∈ gwA := gwA_at 26 (by decide +kernel) rfl
theorem gw_27 : Jvm.Cond.initialized "GraticulePress$Edition" ∈ gwA := gwA_at 27 (by decide +kernel) rfl
theorem gw_28 : Jvm.Cond.classLink "GraticulePressLaw" (8 : Nat) "GraticulePress" ∈ gwA := gwA_at 28 (by decide +kernel) rfl
theorem gw_29 : Jvm.Cond.instantiable "GraticulePress" (8 : Nat) ∈ gwA := gwA_at 29 (by decide +kernel) rfl
theorem gw_30 : Jvm.Cond.methodLink "GraticulePressLaw" (62 : Nat) ({ cls := "GraticulePress", name := "<init>", desc := "()V" } : Jvm.MethodName) ∈ gwA := gwA_at 30 (by decide +kernel) rfl
theorem gw_31 : Jvm.Cond.instanceMethod ({ cls := "GraticulePress", name := "<init>", desc := "()V" } : Jvm.MethodName) ∈ gwA := gwA_at 31 (by decide +kernel) rfl
theorem gw_32 : Jvm.Cond.code ({ cls := "GraticulePress", name := "<init>", desc := "()V" } : Jvm.MethodName) prog_1_method_1_code (1 : Nat) (Option.none : Option Jvm.ClassFile.FieldType) ∈ gwA := gwA_at 32 (by decide +kernel) rfl
theorem gw_33 : Jvm.Cond.methodLink "GraticulePress" (1 : Nat) ({ cls := "java/lang/Object", name := "<init>", desc := "()V" } : Jvm.MethodName) ∈ gwA := gwA_at 33 (by decide +kernel) rfl
theorem gw_34 : Jvm.Cond.instanceMethod ({ cls := "java/lang/Object", name := "<init>", desc := "()V" } : Jvm.MethodName) ∈ gwA := gwA_at 34 (by decide +kernel) rfl
theorem gw_35 : Jvm.Cond.code ({ cls := "java/lang/Object", name := "<init>", desc := "()V" } : Jvm.MethodName) object_method_1_code (1 : Nat) (Option.none : Option Jvm.ClassFile.FieldType) ∈ gwA := gwA_at 35 (by decide +kernel) rfl
theorem gw_36 : Jvm.Cond.classLink "GraticulePress" (7 : Nat) "java/lang/StringBuilder" ∈ gwA := gwA_at 36 (by decide +kernel) rfl
theorem gw_37 : Jvm.Cond.instantiable "java/lang/StringBuilder" (4 : Nat) ∈ gwA := gwA_at 37 (by decide +kernel) rfl
theorem gw_38 : Jvm.Cond.methodLink "GraticulePress" (9 : Nat) ({ cls := "java/lang/StringBuilder", name := "<init>", desc := "()V" } : Jvm.MethodName) ∈ gwA := gwA_at 38 (by decide +kernel) rfl
theorem gw_39 : Jvm.Cond.instanceMethod ({ cls := "java/lang/StringBuilder", name := "<init>", desc := "()V" } : Jvm.MethodName) ∈ gwA := gwA_at 39 (by decide +kernel) rfl
theorem gw_40 : Jvm.Cond.code ({ cls := "java/lang/StringBuilder", name := "<init>", desc := "()V" } : Jvm.MethodName) prog_21_method_1_code (1 : Nat) (Option.none : Option Jvm.ClassFile.FieldType) ∈ gwA := gwA_at 40 (by decide +kernel) rfl
theorem gw_41 : Jvm.Cond.methodLink "java/lang/StringBuilder" (1 : Nat) ({ cls := "java/lang/AbstractStringBuilder", name := "<init>", desc := "(I)V" } : Jvm.MethodName) ∈ gwA := gwA_at 41 (by decide +kernel) rfl
theorem gw_42 : Jvm.Cond.instanceMethod ({ cls := "java/lang/AbstractStringBuilder", name := "<init>", desc := "(I)V" } : Jvm.MethodName) ∈ gwA := gwA_at 42 (by decide +kernel) rfl
theorem gw_43 : Jvm.Cond.code ({ cls := "java/lang/AbstractStringBuilder", name := "<init>", desc := "(I)V" } : Jvm.MethodName) prog_10_method_2_code (2 : Nat) (Option.none : Option Jvm.ClassFile.FieldType) ∈ gwA := gwA_at 43 (by decide +kernel) rfl
theorem gw_44 : Jvm.Cond.methodLink "java/lang/AbstractStringBuilder" (3 : Nat) ({ cls := "java/lang/Object", name := "<init>", desc := "()V" } : Jvm.MethodName) ∈ gwA := gwA_at 44 (by decide +kernel) rfl
theorem gw_47 : Jvm.Cond.methodLink "java/lang/AbstractStringBuilder" (26 : Nat) ({ cls := "java/lang/StringUTF16", name := "newBytesFor", desc := "(I)[B" } : Jvm.MethodName) ∈ gwA := gwA_at 47 (by decide +kernel) rfl
theorem gw_48 : Jvm.Cond.static ({ cls := "java/lang/StringUTF16", name := "newBytesFor", desc := "(I)[B" } : Jvm.MethodName) ∈ gwA := gwA_at 48 (by decide +kernel) rfl
theorem gw_49 : Jvm.Cond.code ({ cls := "java/lang/StringUTF16", name := "newBytesFor", desc := "(I)[B" } : Jvm.MethodName) prog_24_method_2_code (1 : Nat) (Option.some (Jvm.ClassFile.FieldType.array Jvm.ClassFile.FieldType.byte)) ∈ gwA := gwA_at 49 (by decide +kernel) rfl
theorem gw_50 : Jvm.Cond.methodLink "java/lang/StringUTF16" (11 : Nat) ({ cls := "java/lang/StringUTF16", name := "newBytesLength", desc := "(I)I" } : Jvm.MethodName) ∈ gwA := gwA_at 50 (by decide +kernel) rfl
theorem gw_51 : Jvm.Cond.static ({ cls := "java/lang/StringUTF16", name := "newBytesLength", desc := "(I)I" } : Jvm.MethodName) ∈ gwA := gwA_at 51 (by decide +kernel) rfl
theorem gw_52 : Jvm.Cond.code ({ cls := "java/lang/StringUTF16", name := "newBytesLength", desc := "(I)I" } : Jvm.MethodName) prog_24_method_3_code (1 : Nat) (Option.some Jvm.ClassFile.FieldType.int) ∈ gwA := gwA_at 52 (by decide +kernel) rfl
theorem gw_54 : Jvm.Cond.fieldLink "java/lang/AbstractStringBuilder" (15 : Nat) "java/lang/AbstractStringBuilder" "value" "[B" ∈ gwA := gwA_at 54 (by decide +kernel) rfl
theorem gw_55 : Jvm.Cond.fieldLink "java/lang/AbstractStringBuilder" (22 : Nat) "java/lang/AbstractStringBuilder" "coder" "B" ∈ gwA := gwA_at 55 (by decide +kernel) rfl
theorem gw_56 : Jvm.Cond.fieldLink "java/lang/AbstractStringBuilder" (73 : Nat) "java/lang/AbstractStringBuilder" "maybeLatin1" "Z" ∈ gwA := gwA_at 56 (by decide +kernel) rfl
theorem gw_57 : Jvm.Cond.fieldLink "java/lang/String" (1048 : Nat) "java/lang/AbstractStringBuilder" "maybeLatin1" "Z" ∈ gwA := gwA_at 57 (by decide +kernel) rfl
theorem gw_58 : Jvm.Cond.fieldLink "java/lang/AbstractStringBuilder" (79 : Nat) "java/lang/AbstractStringBuilder" "count" "I" ∈ gwA := gwA_at 58 (by decide +kernel) rfl
theorem gw_68 : Jvm.Cond.arrayClass Jvm.ClassFile.FieldType.byte ∈ gwA := gwA_at 68 (by decide +kernel) rfl
theorem gw_69 : Jvm.Cond.classLink "GraticulePress" (16 : Nat) "GraticulePress$Place" ∈ gwA := gwA_at 69 (by decide +kernel) rfl
theorem gw_71 : Jvm.Cond.classLink "GraticulePress" (22 : Nat) "GraticulePress$Sheet" ∈ gwA := gwA_at 71 (by decide +kernel) rfl
theorem gw_73 : Jvm.Cond.classLink "GraticulePress" (28 : Nat) "GraticulePress$Edition" ∈ gwA := gwA_at 73 (by decide +kernel) rfl
theorem gw_75 : Jvm.Cond.fieldLink "GraticulePress" (10 : Nat) "GraticulePress" "typed" "Ljava/lang/StringBuilder;" ∈ gwA := gwA_at 75 (by decide +kernel) rfl
theorem gw_76 : Jvm.Cond.fieldLink "GraticulePress" (18 : Nat) "GraticulePress" "places" "[LGraticulePress$Place;" ∈ gwA := gwA_at 76 (by decide +kernel) rfl
theorem gw_77 : Jvm.Cond.fieldLink "GraticulePress" (24 : Nat) "GraticulePress" "sheets" "[LGraticulePress$Sheet;" ∈ gwA := gwA_at 77 (by decide +kernel) rfl
theorem gw_78 : Jvm.Cond.fieldLink "GraticulePress" (30 : Nat) "GraticulePress" "editions" "[LGraticulePress$Edition;" ∈ gwA := gwA_at 78 (by decide +kernel) rfl
theorem gw_79 : Jvm.Cond.fieldLink "GraticulePress" (34 : Nat) "GraticulePress" "placeCount" "I" ∈ gwA := gwA_at 79 (by decide +kernel) rfl
theorem gw_80 : Jvm.Cond.fieldLink "GraticulePress" (38 : Nat) "GraticulePress" "sheetCount" "I" ∈ gwA := gwA_at 80 (by decide +kernel) rfl
theorem gw_81 : Jvm.Cond.fieldLink "GraticulePress" (41 : Nat) "GraticulePress" "editionCount" "I" ∈ gwA := gwA_at 81 (by decide +kernel) rfl
theorem gw_82 : Jvm.Cond.fieldLink "GraticulePress" (44 : Nat) "GraticulePress" "today" "I" ∈ gwA := gwA_at 82 (by decide +kernel) rfl
theorem gw_105 : Jvm.Cond.methodLink "GraticulePressLaw" (7 : Nat) ({ cls := "GraticulePress", name := "letter", desc := "(C)I" } : Jvm.MethodName) ∈ gwA := gwA_at 105 (by decide +kernel) rfl
theorem gw_106 : Jvm.Cond.instanceMethod ({ cls := "GraticulePress", name := "letter", desc := "(C)I" } : Jvm.MethodName) ∈ gwA := gwA_at 106 (by decide +kernel) rfl
theorem gw_107 : Jvm.Cond.selects "GraticulePress" ({ cls := "GraticulePress", name := "letter", desc := "(C)I" } : Jvm.MethodName) ({ cls := "GraticulePress", name := "letter", desc := "(C)I" } : Jvm.MethodName) ∈ gwA := gwA_at 107 (by decide +kernel) rfl
theorem gw_108 : Jvm.Cond.code ({ cls := "GraticulePress", name := "letter", desc := "(C)I" } : Jvm.MethodName) prog_1_method_2_code (2 : Nat) (Option.some Jvm.ClassFile.FieldType.int) ∈ gwA := gwA_at 108 (by decide +kernel) rfl
theorem gw_109 : Jvm.Cond.classLink "GraticulePress" (47 : Nat) "java/lang/IllegalArgumentException" ∈ gwA := gwA_at 109 (by decide +kernel) rfl
theorem gw_178 : Jvm.Cond.methodLink "GraticulePress" (54 : Nat) ({ cls := "java/lang/StringBuilder", name := "length", desc := "()I" } : Jvm.MethodName) ∈ gwA := gwA_at 178 (by decide +kernel) rfl
theorem gw_179 : Jvm.Cond.instanceMethod ({ cls := "java/lang/StringBuilder", name := "length", desc := "()I" } : Jvm.MethodName) ∈ gwA := gwA_at 179 (by decide +kernel) rfl
theorem gw_180 : Jvm.Cond.selects "java/lang/StringBuilder" ({ cls := "java/lang/StringBuilder", name := "length", desc := "()I" } : Jvm.MethodName) ({ cls := "java/lang/StringBuilder", name := "length", desc := "()I" } : Jvm.MethodName) ∈ gwA := gwA_at 180 (by decide +kernel) rfl
theorem gw_181 : Jvm.Cond.code ({ cls := "java/lang/StringBuilder", name := "length", desc := "()I" } : Jvm.MethodName) prog_21_method_93_code (1 : Nat) (Option.some Jvm.ClassFile.FieldType.int) ∈ gwA := gwA_at 181 (by decide +kernel) rfl
theorem gw_182 : Jvm.Cond.methodLink "java/lang/StringBuilder" (343 : Nat) ({ cls := "java/lang/AbstractStringBuilder", name := "length", desc := "()I" } : Jvm.MethodName) ∈ gwA := gwA_at 182 (by decide +kernel) rfl
theorem gw_184 : Jvm.Cond.code ({ cls := "java/lang/AbstractStringBuilder", name := "length", desc := "()I" } : Jvm.MethodName) prog_10_method_6_code (1 : Nat) (Option.some Jvm.ClassFile.FieldType.int) ∈ gwA := gwA_at 184 (by decide +kernel) rfl
theorem gw_185 : Jvm.Cond.classLink "GraticulePress" (58 : Nat) "java/lang/IllegalStateException" ∈ gwA := gwA_at 185 (by decide +kernel) rfl
theorem gw_201 : Jvm.Cond.methodLink "GraticulePress" (63 : Nat) ({ cls := "java/lang/StringBuilder", name := "append", desc := "(C)Ljava/lang/StringBuilder;" } : Jvm.MethodName) ∈ gwA := gwA_at 201 (by decide +kernel) rfl
theorem gw_202 : Jvm.Cond.instanceMethod ({ cls := "java/lang/StringBuilder", name := "append", desc := "(C)Ljava/lang/StringBuilder;" } : Jvm.MethodName) ∈ gwA := gwA_at 202 (by decide +kernel) rfl
theorem gw_203 : Jvm.Cond.selects "java/lang/StringBuilder" ({ cls := "java/lang/StringBuilder", name := "append", desc := "(C)Ljava/lang/StringBuilder;" } : Jvm.MethodName) ({ cls := "java/lang/StringBuilder", name := "append", desc := "(C)Ljava/lang/StringBuilder;" } : Jvm.MethodName) ∈ gwA := gwA_at 203 (by decide +kernel) rfl
theorem gw_204 : Jvm.Cond.code ({ cls := "java/lang/StringBuilder", name := "append", desc := "(C)Ljava/lang/StringBuilder;" } : Jvm.MethodName) prog_21_method_14_code (2 : Nat) (Option.some (Jvm.ClassFile.FieldType.object "java/lang/StringBuilder")) ∈ gwA := gwA_at 204 (by decide +kernel) rfl
theorem gw_205 : Jvm.Cond.methodLink "java/lang/StringBuilder" (50 : Nat) ({ cls := "java/lang/AbstractStringBuilder", name := "append", desc := "(C)Ljava/lang/AbstractStringBuilder;" } : Jvm.MethodName) ∈ gwA := gwA_at 205 (by decide +kernel) rfl
theorem gw_207 : Jvm.Cond.code ({ cls := "java/lang/AbstractStringBuilder", name := "append", desc := "(C)Ljava/lang/AbstractStringBuilder;" } : Jvm.MethodName) prog_10_method_31_code (2 : Nat) (Option.some (Jvm.ClassFile.FieldType.object "java/lang/AbstractStringBuilder")) ∈ gwA := gwA_at 207 (by decide +kernel) rfl
theorem gw_208 : Jvm.Cond.methodLink "java/lang/AbstractStringBuilder" (100 : Nat) ({ cls := "java/lang/AbstractStringBuilder", name := "ensureCapacityInternal", desc := "(I)V" } : Jvm.MethodName) ∈ gwA := gwA_at 208 (by decide +kernel) rfl
theorem gw_211 : Jvm.Cond.code ({ cls := "java/lang/AbstractStringBuilder", name := "ensureCapacityInternal", desc := "(I)V" } : Jvm.MethodName) prog_10_method_9_code (3 : Nat) (Option.none : Option Jvm.ClassFile.FieldType) ∈ gwA := gwA_at 211 (by decide +kernel) rfl
theorem gw_212 : Jvm.Cond.methodLink "java/lang/AbstractStringBuilder" (104 : Nat) ({ cls := "java/lang/AbstractStringBuilder", name := "newCapacity", desc := "(I)I" } : Jvm.MethodName) ∈ gwA := gwA_at 212 (by decide +kernel) rfl
theorem gw_215 : Jvm.Cond.code ({ cls := "java/lang/AbstractStringBuilder", name := "newCapacity", desc := "(I)I" } : Jvm.MethodName) prog_10_method_10_code (6 : Nat) (Option.some Jvm.ClassFile.FieldType.int) ∈ gwA := gwA_at 215 (by decide +kernel) rfl
theorem gw_216 : Jvm.Cond.methodLink "java/lang/AbstractStringBuilder" (114 : Nat) ({ cls := "jdk/internal/util/ArraysSupport", name := "newLength", desc := "(III)I" } : Jvm.MethodName) ∈ gwA := gwA_at 216 (by decide +kernel) rfl
theorem gw_217 : Jvm.Cond.static ({ cls := "jdk/internal/util/ArraysSupport", name := "newLength", desc := "(III)I" } : Jvm.MethodName) ∈ gwA := gwA_at 217 (by decide +kernel) rfl
theorem gw_218 : Jvm.Cond.code ({ cls := "jdk/internal/util/ArraysSupport", name := "newLength", desc := "(III)I" } : Jvm.MethodName) prog_28_method_27_code (4 : Nat) (Option.some Jvm.ClassFile.FieldType.int) ∈ gwA := gwA_at 218 (by decide +kernel) rfl
theorem gw_219 : Jvm.Cond.methodLink "jdk/internal/util/ArraysSupport" (194 : Nat) ({ cls := "java/lang/Math", name := "max", desc := "(II)I" } : Jvm.MethodName) ∈ gwA := gwA_at 219 (by decide +kernel) rfl
theorem gw_220 : Jvm.Cond.static ({ cls := "java/lang/Math", name := "max", desc := "(II)I" } : Jvm.MethodName) ∈ gwA := gwA_at 220 (by decide +kernel) rfl
theorem gw_221 : Jvm.Cond.code ({ cls := "java/lang/Math", name := "max", desc := "(II)I" } : Jvm.MethodName) prog_18_method_65_code (2 : Nat) (Option.some Jvm.ClassFile.FieldType.int) ∈ gwA := gwA_at 221 (by decide +kernel) rfl
theorem gw_223 : Jvm.Cond.methodLink "jdk/internal/util/ArraysSupport" (201 : Nat) ({ cls := "jdk/internal/util/ArraysSupport", name := "hugeLength", desc := "(II)I" } : Jvm.MethodName) ∈ gwA := gwA_at 223 (by decide +kernel) rfl
theorem gw_224 : Jvm.Cond.static ({ cls := "jdk/internal/util/ArraysSupport", name := "hugeLength", desc := "(II)I" } : Jvm.MethodName) ∈ gwA := gwA_at 224 (by decide +kernel) rfl
theorem gw_225 : Jvm.Cond.code ({ cls := "jdk/internal/util/ArraysSupport", name := "hugeLength", desc := "(II)I" } : Jvm.MethodName) prog_28_method_28_code (3 : Nat) (Option.some Jvm.ClassFile.FieldType.int) ∈ gwA := gwA_at 225 (by decide +kernel) rfl
theorem gw_227 : Jvm.Cond.methodLink "java/lang/AbstractStringBuilder" (108 : Nat) ({ cls := "java/util/Arrays", name := "copyOf", desc := "([BI)[B" } : Jvm.MethodName) ∈ gwA := gwA_at 227 (by decide +kernel) rfl
theorem gw_228 : Jvm.Cond.static ({ cls := "java/util/Arrays", name := "copyOf", desc := "([BI)[B" } : Jvm.MethodName) ∈ gwA := gwA_at 228 (by decide +kernel) rfl
theorem gw_229 : Jvm.Cond.code ({ cls := "java/util/Arrays", name := "copyOf", desc := "([BI)[B" } : Jvm.MethodName) prog_27_method_121_code (3 : Nat) (Option.some (Jvm.ClassFile.FieldType.array Jvm.ClassFile.FieldType.byte)) ∈ gwA := gwA_at 229 (by decide +kernel) rfl
theorem gw_237 : Jvm.Cond.methodLink "java/util/Arrays" (304 : Nat) ({ cls := "java/lang/Math", name := "min", desc := "(II)I" } : Jvm.MethodName) ∈ gwA := gwA_at 237 (by decide +kernel) rfl
theorem gw_238 : Jvm.Cond.static ({ cls := "java/lang/Math", name := "min", desc := "(II)I" } : Jvm.MethodName) ∈ gwA := gwA_at 238 (by decide +kernel) rfl
theorem gw_239 : Jvm.Cond.code ({ cls := "java/lang/Math", name := "min", desc := "(II)I" } : Jvm.MethodName) prog_18_method_69_code (2 : Nat) (Option.some Jvm.ClassFile.FieldType.int) ∈ gwA := gwA_at 239 (by decide +kernel) rfl
theorem gw_243 : Jvm.Cond.methodLink "java/lang/AbstractStringBuilder" (83 : Nat) ({ cls := "java/lang/AbstractStringBuilder", name := "isLatin1", desc := "()Z" } : Jvm.MethodName) ∈ gwA := gwA_at 243 (by decide +kernel) rfl
theorem gw_247 : Jvm.Cond.code ({ cls := "java/lang/AbstractStringBuilder", name := "isLatin1", desc := "()Z" } : Jvm.MethodName) prog_10_method_68_code (1 : Nat) (Option.some Jvm.ClassFile.FieldType.boolean) ∈ gwA := gwA_at 247 (by decide +kernel) rfl
theorem gw_248 : Jvm.Cond.methodLink "java/lang/AbstractStringBuilder" (191 : Nat) ({ cls := "java/lang/StringLatin1", name := "canEncode", desc := "(C)Z" } : Jvm.MethodName) ∈ gwA := gwA_at 248 (by decide +kernel) rfl
theorem gw_249 : Jvm.Cond.static ({ cls := "java/lang/StringLatin1", name := "canEncode", desc := "(C)Z" } : Jvm.MethodName) ∈ gwA := gwA_at 249 (by decide +kernel) rfl
theorem gw_250 : Jvm.Cond.code ({ cls := "java/lang/StringLatin1", name := "canEncode", desc := "(C)Z" } : Jvm.MethodName) prog_23_method_3_code (1 : Nat) (Option.some Jvm.ClassFile.FieldType.boolean) ∈ gwA := gwA_at 250 (by decide +kernel) rfl
theorem gw_251 : Jvm.Cond.methodLink "java/lang/AbstractStringBuilder" (195 : Nat) ({ cls := "java/lang/AbstractStringBuilder", name := "inflate", desc := "()V" } : Jvm.MethodName) ∈ gwA := gwA_at 251 (by decide +kernel) rfl
theorem gw_254 : Jvm.Cond.code ({ cls := "java/lang/AbstractStringBuilder", name := "inflate", desc := "()V" } : Jvm.MethodName) prog_10_method_11_code (2 : Nat) (Option.none : Option Jvm.ClassFile.FieldType) ∈ gwA := gwA_at 254 (by decide +kernel) rfl
theorem gw_255 : Jvm.Cond.methodLink "java/lang/AbstractStringBuilder" (125 : Nat) ({ cls := "java/lang/StringLatin1", name := "inflate", desc := "([BI[BII)V" } : Jvm.MethodName) ∈ gwA := gwA_at 255 (by decide +kernel) rfl
theorem gw_256 : Jvm.Cond.static ({ cls := "java/lang/StringLatin1", name := "inflate", desc := "([BI[BII)V" } : Jvm.MethodName) ∈ gwA := gwA_at 256 (by decide +kernel) rfl
theorem gw_257 : Jvm.Cond.code ({ cls := "java/lang/StringLatin1", name := "inflate", desc := "([BI[BII)V" } : Jvm.MethodName) prog_23_method_50_code (5 : Nat) (Option.none : Option Jvm.ClassFile.FieldType) ∈ gwA := gwA_at 257 (by decide +kernel) rfl
theorem gw_258 : Jvm.Cond.methodLink "java/lang/StringLatin1" (240 : Nat) ({ cls := "java/lang/StringUTF16", name := "inflate", desc := "([BI[BII)V" } : Jvm.MethodName) ∈ gwA := gwA_at 258 (by decide +kernel) rfl
theorem gw_259 : Jvm.Cond.static ({ cls := "java/lang/StringUTF16", name := "inflate", desc := "([BI[BII)V" } : Jvm.MethodName) ∈ gwA := gwA_at 259 (by decide +kernel) rfl
theorem gw_260 : Jvm.Cond.code ({ cls := "java/lang/StringUTF16", name := "inflate", desc := "([BI[BII)V" } : Jvm.MethodName) prog_24_method_86_code (6 : Nat) (Option.none : Option Jvm.ClassFile.FieldType) ∈ gwA := gwA_at 260 (by decide +kernel) rfl
theorem gw_261 : Jvm.Cond.methodLink "java/lang/StringUTF16" (173 : Nat) ({ cls := "java/lang/StringUTF16", name := "checkBoundsOffCount", desc := "(II[B)V" } : Jvm.MethodName) ∈ gwA := gwA_at 261 (by decide +kernel) rfl
theorem gw_262 : Jvm.Cond.static ({ cls := "java/lang/StringUTF16", name := "checkBoundsOffCount", desc := "(II[B)V" } : Jvm.MethodName) ∈ gwA := gwA_at 262 (by decide +kernel) rfl
theorem gw_263 : Jvm.Cond.code ({ cls := "java/lang/StringUTF16", name := "checkBoundsOffCount", desc := "(II[B)V" } : Jvm.MethodName) prog_24_method_94_code (3 : Nat) (Option.none : Option Jvm.ClassFile.FieldType) ∈ gwA := gwA_at 263 (by decide +kernel) rfl
theorem gw_264 : Jvm.Cond.methodLink "java/lang/StringUTF16" (48 : Nat) ({ cls := "java/lang/StringUTF16", name := "length", desc := "([B)I" } : Jvm.MethodName) ∈ gwA := gwA_at 264 (by decide +kernel) rfl
theorem gw_265 : Jvm.Cond.static ({ cls := "java/lang/StringUTF16", name := "length", desc := "([B)I" } : Jvm.MethodName) ∈ gwA := gwA_at 265 (by decide +kernel) rfl
theorem gw_266 : Jvm.Cond.code ({ cls := "java/lang/StringUTF16", name := "length", desc := "([B)I" } : Jvm.MethodName) prog_24_method_6_code (1 : Nat) (Option.some Jvm.ClassFile.FieldType.int) ∈ gwA := gwA_at 266 (by decide +kernel) rfl
theorem gw_267 : Jvm.Cond.methodLink "java/lang/StringUTF16" (419 : Nat) ({ cls := "java/lang/String", name := "checkBoundsOffCount", desc := "(III)I" } : Jvm.MethodName) ∈ gwA := gwA_at 267 (by decide +kernel) rfl
theorem gw_268 : Jvm.Cond.static ({ cls := "java/lang/String", name := "checkBoundsOffCount", desc := "(III)I" } : Jvm.MethodName) ∈ gwA := gwA_at 268 (by decide +kernel) rfl
theorem gw_269 : Jvm.Cond.code ({ cls := "java/lang/String", name := "checkBoundsOffCount", desc := "(III)I" } : Jvm.MethodName) prog_20_method_157_code (3 : Nat) (Option.some Jvm.ClassFile.FieldType.int) ∈ gwA := gwA_at 269 (by decide +kernel) rfl
theorem gw_272 : Jvm.Cond.methodLink "java/lang/String" (1065 : Nat) ({ cls := "jdk/internal/util/Preconditions", name := "checkFromIndexSize", desc := "(IIILjava/util/function/BiFunction;)I" } : Jvm.MethodName) ∈ gwA := gwA_at 272 (by decide +kernel) rfl
theorem gw_273 : Jvm.Cond.static ({ cls := "jdk/internal/util/Preconditions", name := "checkFromIndexSize", desc := "(IIILjava/util/function/BiFunction;)I" } : Jvm.MethodName) ∈ gwA := gwA_at 273 (by decide +kernel) rfl
theorem gw_274 : Jvm.Cond.code ({ cls := "jdk/internal/util/Preconditions", name := "checkFromIndexSize", desc := "(IIILjava/util/function/BiFunction;)I" } : Jvm.MethodName) prog_29_method_13_code (4 : Nat) (Option.some Jvm.ClassFile.FieldType.int) ∈ gwA := gwA_at 274 (by decide +kernel) rfl
theorem gw_275 : Jvm.Cond.methodLink "java/lang/StringUTF16" (111 : Nat) ({ cls := "java/lang/StringUTF16", name := "putChar", desc := "([BII)V" } : Jvm.MethodName) ∈ gwA := gwA_at 275 (by decide +kernel) rfl
theorem gw_276 : Jvm.Cond.static ({ cls := "java/lang/StringUTF16", name := "putChar", desc := "([BII)V" } : Jvm.MethodName) ∈ gwA := gwA_at 276 (by decide +kernel) rfl
theorem gw_277 : Jvm.Cond.code ({ cls := "java/lang/StringUTF16", name := "putChar", desc := "([BII)V" } : Jvm.MethodName) prog_24_method_4_code (3 : Nat) (Option.none : Option Jvm.ClassFile.FieldType) ∈ gwA := gwA_at 277 (by decide +kernel) rfl
theorem gw_284 : Jvm.Cond.methodLink "java/lang/AbstractStringBuilder" (197 : Nat) ({ cls := "java/lang/StringUTF16", name := "putCharSB", desc := "([BII)V" } : Jvm.MethodName) ∈ gwA := gwA_at 284 (by decide +kernel) rfl
theorem gw_285 : Jvm.Cond.static ({ cls := "java/lang/StringUTF16", name := "putCharSB", desc := "([BII)V" } : Jvm.MethodName) ∈ gwA := gwA_at 285 (by decide +kernel) rfl
theorem gw_286 : Jvm.Cond.code ({ cls := "java/lang/StringUTF16", name := "putCharSB", desc := "([BII)V" } : Jvm.MethodName) prog_24_method_71_code (3 : Nat) (Option.none : Option Jvm.ClassFile.FieldType) ∈ gwA := gwA_at 286 (by decide +kernel) rfl
theorem gw_287 : Jvm.Cond.methodLink "java/lang/StringUTF16" (67 : Nat) ({ cls := "java/lang/StringUTF16", name := "checkIndex", desc := "(I[B)V" } : Jvm.MethodName) ∈ gwA := gwA_at 287 (by decide +kernel) rfl
theorem gw_288 : Jvm.Cond.static ({ cls := "java/lang/StringUTF16", name := "checkIndex", desc := "(I[B)V" } : Jvm.MethodName) ∈ gwA := gwA_at 288 (by decide +kernel) rfl
theorem gw_289 : Jvm.Cond.code ({ cls := "java/lang/StringUTF16", name := "checkIndex", desc := "(I[B)V" } : Jvm.MethodName) prog_24_method_91_code (2 : Nat) (Option.none : Option Jvm.ClassFile.FieldType) ∈ gwA := gwA_at 289 (by decide +kernel) rfl
theorem gw_290 : Jvm.Cond.methodLink "java/lang/StringUTF16" (414 : Nat) ({ cls := "java/lang/String", name := "checkIndex", desc := "(II)V" } : Jvm.MethodName) ∈ gwA := gwA_at 290 (by decide +kernel) rfl
theorem gw_291 : Jvm.Cond.static ({ cls := "java/lang/String", name := "checkIndex", desc := "(II)V" } : Jvm.MethodName) ∈ gwA := gwA_at 291 (by decide +kernel) rfl
theorem gw_292 : Jvm.Cond.code ({ cls := "java/lang/String", name := "checkIndex", desc := "(II)V" } : Jvm.MethodName) prog_20_method_155_code (2 : Nat) (Option.none : Option Jvm.ClassFile.FieldType) ∈ gwA := gwA_at 292 (by decide +kernel) rfl
theorem gw_293 : Jvm.Cond.methodLink "java/lang/String" (1059 : Nat) ({ cls := "jdk/internal/util/Preconditions", name := "checkIndex", desc := "(IILjava/util/function/BiFunction;)I" } : Jvm.MethodName) ∈ gwA := gwA_at 293 (by decide +kernel) rfl
theorem gw_294 : Jvm.Cond.static ({ cls := "jdk/internal/util/Preconditions", name := "checkIndex", desc := "(IILjava/util/function/BiFunction;)I" } : Jvm.MethodName) ∈ gwA := gwA_at 294 (by decide +kernel) rfl
theorem gw_295 : Jvm.Cond.code ({ cls := "jdk/internal/util/Preconditions", name := "checkIndex", desc := "(IILjava/util/function/BiFunction;)I" } : Jvm.MethodName) prog_29_method_11_code (3 : Nat) (Option.some Jvm.ClassFile.FieldType.int) ∈ gwA := gwA_at 295 (by decide +kernel) rfl
theorem gw_299 : Jvm.Cond.methodLink "GraticulePressLaw" (17 : Nat) ({ cls := "GraticulePress", name := "place", desc := "(III)I" } : Jvm.MethodName) ∈ gwA := gwA_at 299 (by decide +kernel) rfl
theorem gw_300 : Jvm.Cond.instanceMethod ({ cls := "GraticulePress", name := "place", desc := "(III)I" } : Jvm.MethodName) ∈ gwA := gwA_at 300 (by decide +kernel) rfl
theorem gw_301 : Jvm.Cond.selects "GraticulePress" ({ cls := "GraticulePress", name := "place", desc := "(III)I" } : Jvm.MethodName) ({ cls := "GraticulePress", name := "place", desc := "(III)I" } : Jvm.MethodName) ∈ gwA := gwA_at 301 (by decide +kernel) rfl
theorem gw_302 : Jvm.Cond.code ({ cls := "GraticulePress", name := "place", desc := "(III)I" } : Jvm.MethodName) prog_1_method_3_code (5 : Nat) (Option.some Jvm.ClassFile.FieldType.int) ∈ gwA := gwA_at 302 (by decide +kernel) rfl
theorem gw_303 : Jvm.Cond.methodLink "GraticulePress" (67 : Nat) ({ cls := "GraticulePress", name := "isWithin", desc := "(III)Z" } : Jvm.MethodName) ∈ gwA := gwA_at 303 (by decide +kernel) rfl
theorem gw_304 : Jvm.Cond.static ({ cls := "GraticulePress", name := "isWithin", desc := "(III)Z" } : Jvm.MethodName) ∈ gwA := gwA_at 304 (by decide +kernel) rfl
theorem gw_305 : Jvm.Cond.code ({ cls := "GraticulePress", name := "isWithin", desc := "(III)Z" } : Jvm.MethodName) prog_1_method_15_code (3 : Nat) (Option.some Jvm.ClassFile.FieldType.boolean) ∈ gwA := gwA_at 305 (by decide +kernel) rfl
theorem gw_308 : Jvm.Cond.instantiable "GraticulePress$Place" (5 : Nat) ∈ gwA := gwA_at 308 (by decide +kernel) rfl
theorem gw_309 : Jvm.Cond.methodLink "GraticulePress" (75 : Nat) ({ cls := "GraticulePress$Place", name := "<init>", desc := "(III)V" } : Jvm.MethodName) ∈ gwA := gwA_at 309 (by decide +kernel) rfl
theorem gw_310 : Jvm.Cond.instanceMethod ({ cls := "GraticulePress$Place", name := "<init>", desc := "(III)V" } : Jvm.MethodName) ∈ gwA := gwA_at 310 (by decide +kernel) rfl
theorem gw_311 : Jvm.Cond.code ({ cls := "GraticulePress$Place", name := "<init>", desc := "(III)V" } : Jvm.MethodName) prog_4_method_1_code (4 : Nat) (Option.none : Option Jvm.ClassFile.FieldType) ∈ gwA := gwA_at 311 (by decide +kernel) rfl
theorem gw_312 : Jvm.Cond.methodLink "GraticulePress$Place" (3 : Nat) ({ cls := "java/lang/Object", name := "<init>", desc := "()V" } : Jvm.MethodName) ∈ gwA := gwA_at 312 (by decide +kernel) rfl
theorem gw_313 : Jvm.Cond.classLink "GraticulePress$Place" (21 : Nat) "GraticulePress$Spelling" ∈ gwA := gwA_at 313 (by decide +kernel) rfl
theorem gw_315 : Jvm.Cond.fieldLink "GraticulePress$Place" (9 : Nat) "GraticulePress$Place" "length" "I" ∈ gwA := gwA_at 315 (by decide +kernel) rfl
theorem gw_316 : Jvm.Cond.fieldLink "GraticulePress$Sheet" (60 : Nat) "GraticulePress$Place" "length" "I" ∈ gwA := gwA_at 316 (by decide +kernel) rfl
theorem gw_317 : Jvm.Cond.fieldLink "GraticulePress$Place" (15 : Nat) "GraticulePress$Place" "breadth" "I" ∈ gwA := gwA_at 317 (by decide +kernel) rfl
theorem gw_318 : Jvm.Cond.fieldLink "GraticulePress$Sheet" (67 : Nat) "GraticulePress$Place" "breadth" "I" ∈ gwA := gwA_at 318 (by decide +kernel) rfl
theorem gw_319 : Jvm.Cond.fieldLink "GraticulePress$Spot" (15 : Nat) "GraticulePress$Place" "rank" "I" ∈ gwA := gwA_at 319 (by decide +kernel) rfl
theorem gw_320 : Jvm.Cond.fieldLink "GraticulePress$Place" (18 : Nat) "GraticulePress$Place" "rank" "I" ∈ gwA := gwA_at 320 (by decide +kernel) rfl
theorem gw_321 : Jvm.Cond.fieldLink "GraticulePress$Place" (23 : Nat) "GraticulePress$Place" "spellings" "[LGraticulePress$Spelling;" ∈ gwA := gwA_at 321 (by decide +kernel) rfl
theorem gw_322 : Jvm.Cond.fieldLink "GraticulePress$Place" (27 : Nat) "GraticulePress$Place" "toldCount" "I" ∈ gwA := gwA_at 322 (by decide +kernel) rfl
theorem gw_334 : Jvm.Cond.methodLink "GraticulePress" (78 : Nat) ({ cls := "GraticulePress", name := "showOnAllSheets", desc := "(LGraticulePress$Place;)V" } : Jvm.MethodName) ∈ gwA := gwA_at 334 (by decide +kernel) rfl
theorem gw_336 : Jvm.Cond.instanceMethod ({ cls := "GraticulePress", name := "showOnAllSheets", desc := "(LGraticulePress$Place;)V" } : Jvm.MethodName) ∈ gwA := gwA_at 336 (by decide +kernel) rfl
theorem gw_337 : Jvm.Cond.code ({ cls := "GraticulePress", name := "showOnAllSheets", desc := "(LGraticulePress$Place;)V" } : Jvm.MethodName) prog_1_method_21_code (4 : Nat) (Option.none : Option Jvm.ClassFile.FieldType) ∈ gwA := gwA_at 337 (by decide +kernel) rfl
theorem gw_338 : Jvm.Cond.methodLink "GraticulePress" (142 : Nat) ({ cls := "GraticulePress$Sheet", name := "show", desc := "(LGraticulePress$Place;)V" } : Jvm.MethodName) ∈ gwA := gwA_at 338 (by decide +kernel) rfl
theorem gw_339 : Jvm.Cond.instanceMethod ({ cls := "GraticulePress$Sheet", name := "show", desc := "(LGraticulePress$Place;)V" } : Jvm.MethodName) ∈ gwA := gwA_at 339 (by decide +kernel) rfl
theorem gw_340 : Jvm.Cond.selects "GraticulePress$Sheet" ({ cls := "GraticulePress$Sheet", name := "show", desc := "(LGraticulePress$Place;)V" } : Jvm.MethodName) ({ cls := "GraticulePress$Sheet", name := "show", desc := "(LGraticulePress$Place;)V" } : Jvm.MethodName) ∈ gwA := gwA_at 340 (by decide +kernel) rfl
theorem gw_341 : Jvm.Cond.code ({ cls := "GraticulePress$Sheet", name := "show", desc := "(LGraticulePress$Place;)V" } : Jvm.MethodName) prog_5_method_2_code (2 : Nat) (Option.none : Option Jvm.ClassFile.FieldType) ∈ gwA := gwA_at 341 (by decide +kernel) rfl
theorem gw_342 : Jvm.Cond.methodLink "GraticulePress$Sheet" (46 : Nat) ({ cls := "GraticulePress$Sheet", name := "has", desc := "(LGraticulePress$Place;)Z" } : Jvm.MethodName) ∈ gwA := gwA_at 342 (by decide +kernel) rfl
theorem gw_344 : Jvm.Cond.instanceMethod ({ cls := "GraticulePress$Sheet", name := "has", desc := "(LGraticulePress$Place;)Z" } : Jvm.MethodName) ∈ gwA := gwA_at 344 (by decide +kernel) rfl
theorem gw_345 : Jvm.Cond.instantiable "GraticulePress$Sheet" (9 : Nat) ∈ gwA := gwA_at 345 (by decide +kernel) rfl
theorem gw_346 : Jvm.Cond.code ({ cls := "GraticulePress$Sheet", name := "has", desc := "(LGraticulePress$Place;)Z" } : Jvm.MethodName) prog_5_method_3_code (2 : Nat) (Option.some Jvm.ClassFile.FieldType.boolean) ∈ gwA := gwA_at 346 (by decide +kernel) rfl
theorem gw_348 : Jvm.Cond.classLink "GraticulePress$Sheet" (31 : Nat) "GraticulePress$Spot" ∈ gwA := gwA_at 348 (by decide +kernel) rfl
theorem gw_349 : Jvm.Cond.instantiable "GraticulePress$Spot" (7 : Nat) ∈ gwA := gwA_at 349 (by decide +kernel) rfl
theorem gw_350 : Jvm.Cond.methodLink "GraticulePress$Sheet" (50 : Nat) ({ cls := "GraticulePress$Sheet", name := "columnOf", desc := "(LGraticulePress$Place;)I" } : Jvm.MethodName) ∈ gwA := gwA_at 350 (by decide +kernel) rfl
theorem gw_352 : Jvm.Cond.instanceMethod ({ cls := "GraticulePress$Sheet", name := "columnOf", desc := "(LGraticulePress$Place;)I" } : Jvm.MethodName) ∈ gwA := gwA_at 352 (by decide +kernel) rfl
theorem gw_353 : Jvm.Cond.code ({ cls := "GraticulePress$Sheet", name := "columnOf", desc := "(LGraticulePress$Place;)I" } : Jvm.MethodName) prog_5_method_5_code (5 : Nat) (Option.some Jvm.ClassFile.FieldType.int) ∈ gwA := gwA_at 353 (by decide +kernel) rfl
theorem gw_354 : Jvm.Cond.constantFloat "GraticulePress$Sheet" (68 : Nat) (1017370378 : UInt32) ∈ gwA := gwA_at 354 (by decide +kernel) rfl
theorem gw_355 : Jvm.Cond.constantFloat "GraticulePress$Sheet" (69 : Nat) (1097859072 : UInt32) ∈ gwA := gwA_at 355 (by decide +kernel) rfl
theorem gw_356 : Jvm.Cond.constantFloat "GraticulePress$Sheet" (70 : Nat) (1082130432 : UInt32) ∈ gwA := gwA_at 356 (by decide +kernel) rfl
theorem gw_357 : Jvm.Cond.constantFloat "GraticulePress$Sheet" (71 : Nat) (1077936128 : UInt32) ∈ gwA := gwA_at 357 (by decide +kernel) rfl
theorem gw_358 : Jvm.Cond.constantFloat "GraticulePress$Sheet" (72 : Nat) (1101004800 : UInt32) ∈ gwA := gwA_at 358 (by decide +kernel) rfl
theorem gw_359 : Jvm.Cond.methodLink "GraticulePress$Sheet" (54 : Nat) ({ cls := "GraticulePress$Sheet", name := "rowOf", desc := "(LGraticulePress$Place;)I" } : Jvm.MethodName) ∈ gwA := gwA_at 359 (by decide +kernel) rfl
theorem gw_361 : Jvm.Cond.instanceMethod ({ cls := "GraticulePress$Sheet", name := "rowOf", desc := "(LGraticulePress$Place;)I" } : Jvm.MethodName) ∈ gwA := gwA_at 361 (by decide +kernel) rfl
theorem gw_362 : Jvm.Cond.code ({ cls := "GraticulePress$Sheet", name := "rowOf", desc := "(LGraticulePress$Place;)I" } : Jvm.MethodName) prog_5_method_4_code (2 : Nat) (Option.some Jvm.ClassFile.FieldType.int) ∈ gwA := gwA_at 362 (by decide +kernel) rfl
theorem gw_363 : Jvm.Cond.methodLink "GraticulePress$Sheet" (57 : Nat) ({ cls := "GraticulePress$Spot", name := "<init>", desc := "(LGraticulePress$Place;II)V" } : Jvm.MethodName) ∈ gwA := gwA_at 363 (by decide +kernel) rfl
theorem gw_364 : Jvm.Cond.instanceMethod ({ cls := "GraticulePress$Spot", name := "<init>", desc := "(LGraticulePress$Place;II)V" } : Jvm.MethodName) ∈ gwA := gwA_at 364 (by decide +kernel) rfl
theorem gw_365 : Jvm.Cond.code ({ cls := "GraticulePress$Spot", name := "<init>", desc := "(LGraticulePress$Place;II)V" } : Jvm.MethodName) prog_7_method_1_code (4 : Nat) (Option.none : Option Jvm.ClassFile.FieldType) ∈ gwA := gwA_at 365 (by decide +kernel) rfl
theorem gw_366 : Jvm.Cond.methodLink "GraticulePress$Spot" (3 : Nat) ({ cls := "java/lang/Object", name := "<init>", desc := "()V" } : Jvm.MethodName) ∈ gwA := gwA_at 366 (by decide +kernel) rfl
theorem gw_367 : Jvm.Cond.fieldLink "GraticulePress$Spot" (21 : Nat) "GraticulePress$Spot" "rank" "I" ∈ gwA := gwA_at 367 (by decide +kernel) rfl
theorem gw_368 : Jvm.Cond.fieldLink "GraticulePress$Sheet" (87 : Nat) "GraticulePress$Spot" "rank" "I" ∈ gwA := gwA_at 368 (by decide +kernel) rfl
theorem gw_369 : Jvm.Cond.fieldLink "GraticulePress$Spot" (22 : Nat) "GraticulePress$Spot" "column" "I" ∈ gwA := gwA_at 369 (by decide +kernel) rfl
theorem gw_370 : Jvm.Cond.fieldLink "GraticulePress" (157 : Nat) "GraticulePress$Spot" "column" "I" ∈ gwA := gwA_at 370 (by decide +kernel) rfl
theorem gw_371 : Jvm.Cond.fieldLink "GraticulePress$Sheet" (103 : Nat) "GraticulePress$Spot" "column" "I" ∈ gwA := gwA_at 371 (by decide +kernel) rfl
theorem gw_372 : Jvm.Cond.fieldLink "GraticulePress$Spot" (25 : Nat) "GraticulePress$Spot" "row" "I" ∈ gwA := gwA_at 372 (by decide +kernel) rfl
theorem gw_373 : Jvm.Cond.fieldLink "GraticulePress" (152 : Nat) "GraticulePress$Spot" "row" "I" ∈ gwA := gwA_at 373 (by decide +kernel) rfl
theorem gw_374 : Jvm.Cond.fieldLink "GraticulePress$Sheet" (100 : Nat) "GraticulePress$Spot" "row" "I" ∈ gwA := gwA_at 374 (by decide +kernel) rfl
theorem gw_375 : Jvm.Cond.fieldLink "GraticulePress$Spot" (9 : Nat) "GraticulePress$Spot" "place" "LGraticulePress$Place;" ∈ gwA := gwA_at 375 (by decide +kernel) rfl
theorem gw_376 : Jvm.Cond.fieldLink "GraticulePress$Spot" (28 : Nat) "GraticulePress$Spot" "word" "Ljava/lang/String;" ∈ gwA := gwA_at 376 (by decide +kernel) rfl
theorem gw_377 : Jvm.Cond.fieldLink "GraticulePress$Spot" (32 : Nat) "GraticulePress$Spot" "side" "I" ∈ gwA := gwA_at 377 (by decide +kernel) rfl
theorem gw_380 : Jvm.Cond.fieldLink "GraticulePress$Spot" (35 : Nat) "GraticulePress$Spot" "sideAhead" "I" ∈ gwA := gwA_at 380 (by decide +kernel) rfl
theorem gw_396 : Jvm.Cond.methodLink "GraticulePress" (145 : Nat) ({ cls := "GraticulePress$Sheet", name := "placeAnew", desc := "(I)V" } : Jvm.MethodName) ∈ gwA := gwA_at 396 (by decide +kernel) rfl
theorem gw_397 : Jvm.Cond.instanceMethod ({ cls := "GraticulePress$Sheet", name := "placeAnew", desc := "(I)V" } : Jvm.MethodName) ∈ gwA := gwA_at 397 (by decide +kernel) rfl
theorem gw_398 : Jvm.Cond.selects "GraticulePress$Sheet" ({ cls := "GraticulePress$Sheet", name := "placeAnew", desc := "(I)V" } : Jvm.MethodName) ({ cls := "GraticulePress$Sheet", name := "placeAnew", desc := "(I)V" } : Jvm.MethodName) ∈ gwA := gwA_at 398 (by decide +kernel) rfl
theorem gw_399 : Jvm.Cond.code ({ cls := "GraticulePress$Sheet", name := "placeAnew", desc := "(I)V" } : Jvm.MethodName) prog_5_method_7_code (4 : Nat) (Option.none : Option Jvm.ClassFile.FieldType) ∈ gwA := gwA_at 399 (by decide +kernel) rfl
theorem gw_400 : Jvm.Cond.methodLink "GraticulePress$Sheet" (73 : Nat) ({ cls := "GraticulePress$Spot", name := "takeUp", desc := "(I)V" } : Jvm.MethodName) ∈ gwA := gwA_at 400 (by decide +kernel) rfl
theorem gw_401 : Jvm.Cond.instanceMethod ({ cls := "GraticulePress$Spot", name := "takeUp", desc := "(I)V" } : Jvm.MethodName) ∈ gwA := gwA_at 401 (by decide +kernel) rfl
theorem gw_402 : Jvm.Cond.selects "GraticulePress$Spot" ({ cls := "GraticulePress$Spot", name := "takeUp", desc := "(I)V" } : Jvm.MethodName) ({ cls := "GraticulePress$Spot", name := "takeUp", desc := "(I)V" } : Jvm.MethodName) ∈ gwA := gwA_at 402 (by decide +kernel) rfl
theorem gw_403 : Jvm.Cond.code ({ cls := "GraticulePress$Spot", name := "takeUp", desc := "(I)V" } : Jvm.MethodName) prog_7_method_2_code (2 : Nat) (Option.none : Option Jvm.ClassFile.FieldType) ∈ gwA := gwA_at 403 (by decide +kernel) rfl
theorem gw_404 : Jvm.Cond.methodLink "GraticulePress$Spot" (38 : Nat) ({ cls := "GraticulePress$Place", name := "wordOn", desc := "(I)Ljava/lang/String;" } : Jvm.MethodName) ∈ gwA := gwA_at 404 (by decide +kernel) rfl
theorem gw_405 : Jvm.Cond.instanceMethod ({ cls := "GraticulePress$Place", name := "wordOn", desc := "(I)Ljava/lang/String;" } : Jvm.MethodName) ∈ gwA := gwA_at 405 (by decide +kernel) rfl
theorem gw_406 : Jvm.Cond.selects "GraticulePress$Place" ({ cls := "GraticulePress$Place", name := "wordOn", desc := "(I)Ljava/lang/String;" } : Jvm.MethodName) ({ cls := "GraticulePress$Place", name := "wordOn", desc := "(I)Ljava/lang/String;" } : Jvm.MethodName) ∈ gwA := gwA_at 406 (by decide +kernel) rfl
theorem gw_407 : Jvm.Cond.code ({ cls := "GraticulePress$Place", name := "wordOn", desc := "(I)Ljava/lang/String;" } : Jvm.MethodName) prog_4_method_4_code (5 : Nat) (Option.some (Jvm.ClassFile.FieldType.object "java/lang/String")) ∈ gwA := gwA_at 407 (by decide +kernel) rfl
theorem gw_408 : Jvm.Cond.methodLink "GraticulePress$Sheet" (77 : Nat) ({ cls := "GraticulePress$Sheet", name := "listNamed", desc := "()V" } : Jvm.MethodName) ∈ gwA := gwA_at 408 (by decide +kernel) rfl
theorem gw_410 : Jvm.Cond.instanceMethod ({ cls := "GraticulePress$Sheet", name := "listNamed", desc := "()V" } : Jvm.MethodName) ∈ gwA := gwA_at 410 (by decide +kernel) rfl
theorem gw_411 : Jvm.Cond.code ({ cls := "GraticulePress$Sheet", name := "listNamed", desc := "()V" } : Jvm.MethodName) prog_5_method_8_code (4 : Nat) (Option.none : Option Jvm.ClassFile.FieldType) ∈ gwA := gwA_at 411 (by decide +kernel) rfl
theorem gw_412 : Jvm.Cond.methodLink "GraticulePress$Sheet" (90 : Nat) ({ cls := "GraticulePress$Spot", name := "isNamed", desc := "()Z" } : Jvm.MethodName) ∈ gwA := gwA_at 412 (by decide +kernel) rfl
theorem gw_413 : Jvm.Cond.instanceMethod ({ cls := "GraticulePress$Spot", name := "isNamed", desc := "()Z" } : Jvm.MethodName) ∈ gwA := gwA_at 413 (by decide +kernel) rfl
theorem gw_414 : Jvm.Cond.selects "GraticulePress$Spot" ({ cls := "GraticulePress$Spot", name := "isNamed", desc := "()Z" } : Jvm.MethodName) ({ cls := "GraticulePress$Spot", name := "isNamed", desc := "()Z" } : Jvm.MethodName) ∈ gwA := gwA_at 414 (by decide +kernel) rfl
theorem gw_415 : Jvm.Cond.code ({ cls := "GraticulePress$Spot", name := "isNamed", desc := "()Z" } : Jvm.MethodName) prog_7_method_4_code (1 : Nat) (Option.some Jvm.ClassFile.FieldType.boolean) ∈ gwA := gwA_at 415 (by decide +kernel) rfl
theorem gw_416 : Jvm.Cond.methodLink "GraticulePress$Spot" (42 : Nat) ({ cls := "GraticulePress$Spot", name := "isOnSheet", desc := "()Z" } : Jvm.MethodName) ∈ gwA := gwA_at 416 (by decide +kernel) rfl
theorem gw_417 : Jvm.Cond.instanceMethod ({ cls := "GraticulePress$Spot", name := "isOnSheet", desc := "()Z" } : Jvm.MethodName) ∈ gwA := gwA_at 417 (by decide +kernel) rfl
theorem gw_418 : Jvm.Cond.selects "GraticulePress$Spot" ({ cls := "GraticulePress$Spot", name := "isOnSheet", desc := "()Z" } : Jvm.MethodName) ({ cls := "GraticulePress$Spot", name := "isOnSheet", desc := "()Z" } : Jvm.MethodName) ∈ gwA := gwA_at 418 (by decide +kernel) rfl
theorem gw_419 : Jvm.Cond.code ({ cls := "GraticulePress$Spot", name := "isOnSheet", desc := "()Z" } : Jvm.MethodName) prog_7_method_3_code (1 : Nat) (Option.some Jvm.ClassFile.FieldType.boolean) ∈ gwA := gwA_at 419 (by decide +kernel) rfl
theorem gw_420 : Jvm.Cond.methodLink "GraticulePress$Sheet" (80 : Nat) ({ cls := "GraticulePress$Sheet", name := "drawDots", desc := "(LGraticulePress$Grid;)V" } : Jvm.MethodName) ∈ gwA := gwA_at 420 (by decide +kernel) rfl
theorem gw_422 : Jvm.Cond.instanceMethod ({ cls := "GraticulePress$Sheet", name := "drawDots", desc := "(LGraticulePress$Grid;)V" } : Jvm.MethodName) ∈ gwA := gwA_at 422 (by decide +kernel) rfl
theorem gw_423 : Jvm.Cond.code ({ cls := "GraticulePress$Sheet", name := "drawDots", desc := "(LGraticulePress$Grid;)V" } : Jvm.MethodName) prog_5_method_9_code (4 : Nat) (Option.none : Option Jvm.ClassFile.FieldType) ∈ gwA := gwA_at 423 (by decide +kernel) rfl
theorem gw_424 : Jvm.Cond.methodLink "GraticulePress$Sheet" (94 : Nat) ({ cls := "GraticulePress$Grid", name := "clear", desc := "()V" } : Jvm.MethodName) ∈ gwA := gwA_at 424 (by decide +kernel) rfl
theorem gw_425 : Jvm.Cond.instanceMethod ({ cls := "GraticulePress$Grid", name := "clear", desc := "()V" } : Jvm.MethodName) ∈ gwA := gwA_at 425 (by decide +kernel) rfl
theorem gw_426 : Jvm.Cond.selects "GraticulePress$Grid" ({ cls := "GraticulePress$Grid", name := "clear", desc := "()V" } : Jvm.MethodName) ({ cls := "GraticulePress$Grid", name := "clear", desc := "()V" } : Jvm.MethodName) ∈ gwA := gwA_at 426 (by decide +kernel) rfl
theorem gw_427 : Jvm.Cond.code ({ cls := "GraticulePress$Grid", name := "clear", desc := "()V" } : Jvm.MethodName) prog_3_method_2_code (2 : Nat) (Option.none : Option Jvm.ClassFile.FieldType) ∈ gwA := gwA_at 427 (by decide +kernel) rfl
theorem gw_428 : Jvm.Cond.methodLink "GraticulePress$Sheet" (97 : Nat) ({ cls := "GraticulePress$Spot", name := "isOnSheet", desc := "()Z" } : Jvm.MethodName) ∈ gwA := gwA_at 428 (by decide +kernel) rfl
theorem gw_429 : Jvm.Cond.methodLink "GraticulePress$Sheet" (106 : Nat) ({ cls := "GraticulePress$Grid", name := "setSign", desc := "(IIC)V" } : Jvm.MethodName) ∈ gwA := gwA_at 429 (by decide +kernel) rfl
theorem gw_430 : Jvm.Cond.instanceMethod ({ cls := "GraticulePress$Grid", name := "setSign", desc := "(IIC)V" } : Jvm.MethodName) ∈ gwA := gwA_at 430 (by decide +kernel) rfl
theorem gw_431 : Jvm.Cond.selects "GraticulePress$Grid" ({ cls := "GraticulePress$Grid", name := "setSign", desc := "(IIC)V" } : Jvm.MethodName) ({ cls := "GraticulePress$Grid", name := "setSign", desc := "(IIC)V" } : Jvm.MethodName) ∈ gwA := gwA_at 431 (by decide +kernel) rfl
theorem gw_432 : Jvm.Cond.code ({ cls := "GraticulePress$Grid", name := "setSign", desc := "(IIC)V" } : Jvm.MethodName) prog_3_method_5_code (4 : Nat) (Option.none : Option Jvm.ClassFile.FieldType) ∈ gwA := gwA_at 432 (by decide +kernel) rfl
theorem gw_434 : Jvm.Cond.static ({ cls := "GraticulePress", name := "isOnGrid", desc := "(II)Z" } : Jvm.MethodName) ∈ gwA := gwA_at 434 (by decide +kernel) rfl
theorem gw_435 : Jvm.Cond.code ({ cls := "GraticulePress", name := "isOnGrid", desc := "(II)Z" } : Jvm.MethodName) prog_1_method_16_code (2 : Nat) (Option.some Jvm.ClassFile.FieldType.boolean) ∈ gwA := gwA_at 435 (by decide +kernel) rfl
theorem gw_436 : Jvm.Cond.methodLink "GraticulePress$Sheet" (84 : Nat) ({ cls := "GraticulePress$Spot", name := "standAtFirstFree", desc := "(LGraticulePress$Grid;)V" } : Jvm.MethodName) ∈ gwA := gwA_at 436 (by decide +kernel) rfl
theorem gw_437 : Jvm.Cond.instanceMethod ({ cls := "GraticulePress$Spot", name := "standAtFirstFree", desc := "(LGraticulePress$Grid;)V" } : Jvm.MethodName) ∈ gwA := gwA_at 437 (by decide +kernel) rfl
theorem gw_438 : Jvm.Cond.selects "GraticulePress$Spot" ({ cls := "GraticulePress$Spot", name := "standAtFirstFree", desc := "(LGraticulePress$Grid;)V" } : Jvm.MethodName) ({ cls := "GraticulePress$Spot", name := "standAtFirstFree", desc := "(LGraticulePress$Grid;)V" } : Jvm.MethodName) ∈ gwA := gwA_at 438 (by decide +kernel) rfl
theorem gw_439 : Jvm.Cond.code ({ cls := "GraticulePress$Spot", name := "standAtFirstFree", desc := "(LGraticulePress$Grid;)V" } : Jvm.MethodName) prog_7_method_11_code (3 : Nat) (Option.none : Option Jvm.ClassFile.FieldType) ∈ gwA := gwA_at 439 (by decide +kernel) rfl
theorem gw_440 : Jvm.Cond.methodLink "GraticulePress$Spot" (74 : Nat) ({ cls := "GraticulePress$Spot", name := "mayStand", desc := "(LGraticulePress$Grid;I)Z" } : Jvm.MethodName) ∈ gwA := gwA_at 440 (by decide +kernel) rfl
theorem gw_441 : Jvm.Cond.instanceMethod ({ cls := "GraticulePress$Spot", name := "mayStand", desc := "(LGraticulePress$Grid;I)Z" } : Jvm.MethodName) ∈ gwA := gwA_at 441 (by decide +kernel) rfl
theorem gw_442 : Jvm.Cond.selects "GraticulePress$Spot" ({ cls := "GraticulePress$Spot", name := "mayStand", desc := "(LGraticulePress$Grid;I)Z" } : Jvm.MethodName) ({ cls := "GraticulePress$Spot", name := "mayStand", desc := "(LGraticulePress$Grid;I)Z" } : Jvm.MethodName) ∈ gwA := gwA_at 442 (by decide +kernel) rfl
theorem gw_443 : Jvm.Cond.code ({ cls := "GraticulePress$Spot", name := "mayStand", desc := "(LGraticulePress$Grid;I)Z" } : Jvm.MethodName) prog_7_method_8_code (4 : Nat) (Option.some Jvm.ClassFile.FieldType.boolean) ∈ gwA := gwA_at 443 (by decide +kernel) rfl
theorem gw_444 : Jvm.Cond.methodLink "GraticulePress$Spot" (46 : Nat) ({ cls := "java/lang/String", name := "length", desc := "()I" } : Jvm.MethodName) ∈ gwA := gwA_at 444 (by decide +kernel) rfl
theorem gw_445 : Jvm.Cond.instanceMethod ({ cls := "java/lang/String", name := "length", desc := "()I" } : Jvm.MethodName) ∈ gwA := gwA_at 445 (by decide +kernel) rfl
theorem gw_446 : Jvm.Cond.selects "java/lang/String" ({ cls := "java/lang/String", name := "length", desc := "()I" } : Jvm.MethodName) ({ cls := "java/lang/String", name := "length", desc := "()I" } : Jvm.MethodName) ∈ gwA := gwA_at 446 (by decide +kernel) rfl
theorem gw_447 : Jvm.Cond.code ({ cls := "java/lang/String", name := "length", desc := "()I" } : Jvm.MethodName) prog_20_method_54_code (1 : Nat) (Option.some Jvm.ClassFile.FieldType.int) ∈ gwA := gwA_at 447 (by decide +kernel) rfl
theorem gw_448 : Jvm.Cond.methodLink "java/lang/String" (335 : Nat) ({ cls := "java/lang/String", name := "coder", desc := "()B" } : Jvm.MethodName) ∈ gwA := gwA_at 448 (by decide +kernel) rfl
theorem gw_449 : Jvm.Cond.instanceMethod ({ cls := "java/lang/String", name := "coder", desc := "()B" } : Jvm.MethodName) ∈ gwA := gwA_at 449 (by decide +kernel) rfl
theorem gw_450 : Jvm.Cond.selects "java/lang/String" ({ cls := "java/lang/String", name := "coder", desc := "()B" } : Jvm.MethodName) ({ cls := "java/lang/String", name := "coder", desc := "()B" } : Jvm.MethodName) ∈ gwA := gwA_at 450 (by decide +kernel) rfl
theorem gw_451 : Jvm.Cond.code ({ cls := "java/lang/String", name := "coder", desc := "()B" } : Jvm.MethodName) prog_20_method_152_code (1 : Nat) (Option.some Jvm.ClassFile.FieldType.byte) ∈ gwA := gwA_at 451 (by decide +kernel) rfl
theorem gw_453 : Jvm.Cond.methodLink "GraticulePress$Spot" (52 : Nat) ({ cls := "GraticulePress$Spot", name := "rowAt", desc := "(I)I" } : Jvm.MethodName) ∈ gwA := gwA_at 453 (by decide +kernel) rfl
theorem gw_455 : Jvm.Cond.instanceMethod ({ cls := "GraticulePress$Spot", name := "rowAt", desc := "(I)I" } : Jvm.MethodName) ∈ gwA := gwA_at 455 (by decide +kernel) rfl
theorem gw_456 : Jvm.Cond.code ({ cls := "GraticulePress$Spot", name := "rowAt", desc := "(I)I" } : Jvm.MethodName) prog_7_method_6_code (2 : Nat) (Option.some Jvm.ClassFile.FieldType.int) ∈ gwA := gwA_at 456 (by decide +kernel) rfl
theorem gw_457 : Jvm.Cond.methodLink "GraticulePress$Spot" (56 : Nat) ({ cls := "GraticulePress$Spot", name := "firstColumnAt", desc := "(II)I" } : Jvm.MethodName) ∈ gwA := gwA_at 457 (by decide +kernel) rfl
theorem gw_459 : Jvm.Cond.instanceMethod ({ cls := "GraticulePress$Spot", name := "firstColumnAt", desc := "(II)I" } : Jvm.MethodName) ∈ gwA := gwA_at 459 (by decide +kernel) rfl
theorem gw_460 : Jvm.Cond.code ({ cls := "GraticulePress$Spot", name := "firstColumnAt", desc := "(II)I" } : Jvm.MethodName) prog_7_method_7_code (3 : Nat) (Option.some Jvm.ClassFile.FieldType.int) ∈ gwA := gwA_at 460 (by decide +kernel) rfl
theorem gw_461 : Jvm.Cond.methodLink "GraticulePress$Spot" (60 : Nat) ({ cls := "GraticulePress$Grid", name := "isFree", desc := "(III)Z" } : Jvm.MethodName) ∈ gwA := gwA_at 461 (by decide +kernel) rfl
theorem gw_462 : Jvm.Cond.instanceMethod ({ cls := "GraticulePress$Grid", name := "isFree", desc := "(III)Z" } : Jvm.MethodName) ∈ gwA := gwA_at 462 (by decide +kernel) rfl
theorem gw_463 : Jvm.Cond.selects "GraticulePress$Grid" ({ cls := "GraticulePress$Grid", name := "isFree", desc := "(III)Z" } : Jvm.MethodName) ({ cls := "GraticulePress$Grid", name := "isFree", desc := "(III)Z" } : Jvm.MethodName) ∈ gwA := gwA_at 463 (by decide +kernel) rfl
theorem gw_464 : Jvm.Cond.code ({ cls := "GraticulePress$Grid", name := "isFree", desc := "(III)Z" } : Jvm.MethodName) prog_3_method_8_code (5 : Nat) (Option.some Jvm.ClassFile.FieldType.boolean) ∈ gwA := gwA_at 464 (by decide +kernel) rfl
theorem gw_465 : Jvm.Cond.methodLink "GraticulePress$Grid" (33 : Nat) ({ cls := "GraticulePress$Grid", name := "signAt", desc := "(II)C" } : Jvm.MethodName) ∈ gwA := gwA_at 465 (by decide +kernel) rfl
theorem gw_466 : Jvm.Cond.instanceMethod ({ cls := "GraticulePress$Grid", name := "signAt", desc := "(II)C" } : Jvm.MethodName) ∈ gwA := gwA_at 466 (by decide +kernel) rfl
theorem gw_467 : Jvm.Cond.selects "GraticulePress$Grid" ({ cls := "GraticulePress$Grid", name := "signAt", desc := "(II)C" } : Jvm.MethodName) ({ cls := "GraticulePress$Grid", name := "signAt", desc := "(II)C" } : Jvm.MethodName) ∈ gwA := gwA_at 467 (by decide +kernel) rfl
theorem gw_468 : Jvm.Cond.code ({ cls := "GraticulePress$Grid", name := "signAt", desc := "(II)C" } : Jvm.MethodName) prog_3_method_4_code (3 : Nat) (Option.some Jvm.ClassFile.FieldType.char) ∈ gwA := gwA_at 468 (by decide +kernel) rfl
theorem gw_469 : Jvm.Cond.methodLink "GraticulePress$Spot" (78 : Nat) ({ cls := "GraticulePress$Spot", name := "write", desc := "(LGraticulePress$Grid;I)V" } : Jvm.MethodName) ∈ gwA := gwA_at 469 (by decide +kernel) rfl
theorem gw_470 : Jvm.Cond.instanceMethod ({ cls := "GraticulePress$Spot", name := "write", desc := "(LGraticulePress$Grid;I)V" } : Jvm.MethodName) ∈ gwA := gwA_at 470 (by decide +kernel) rfl
theorem gw_471 : Jvm.Cond.selects "GraticulePress$Spot" ({ cls := "GraticulePress$Spot", name := "write", desc := "(LGraticulePress$Grid;I)V" } : Jvm.MethodName) ({ cls := "GraticulePress$Spot", name := "write", desc := "(LGraticulePress$Grid;I)V" } : Jvm.MethodName) ∈ gwA := gwA_at 471 (by decide +kernel) rfl
theorem gw_472 : Jvm.Cond.code ({ cls := "GraticulePress$Spot", name := "write", desc := "(LGraticulePress$Grid;I)V" } : Jvm.MethodName) prog_7_method_9_code (3 : Nat) (Option.none : Option Jvm.ClassFile.FieldType) ∈ gwA := gwA_at 472 (by decide +kernel) rfl
theorem gw_473 : Jvm.Cond.methodLink "GraticulePress$Spot" (66 : Nat) ({ cls := "GraticulePress$Grid", name := "write", desc := "(IILjava/lang/String;)V" } : Jvm.MethodName) ∈ gwA := gwA_at 473 (by decide +kernel) rfl
theorem gw_474 : Jvm.Cond.instanceMethod ({ cls := "GraticulePress$Grid", name := "write", desc := "(IILjava/lang/String;)V" } : Jvm.MethodName) ∈ gwA := gwA_at 474 (by decide +kernel) rfl
theorem gw_475 : Jvm.Cond.selects "GraticulePress$Grid" ({ cls := "GraticulePress$Grid", name := "write", desc := "(IILjava/lang/String;)V" } : Jvm.MethodName) ({ cls := "GraticulePress$Grid", name := "write", desc := "(IILjava/lang/String;)V" } : Jvm.MethodName) ∈ gwA := gwA_at 475 (by decide +kernel) rfl
theorem gw_476 : Jvm.Cond.code ({ cls := "GraticulePress$Grid", name := "write", desc := "(IILjava/lang/String;)V" } : Jvm.MethodName) prog_3_method_6_code (5 : Nat) (Option.none : Option Jvm.ClassFile.FieldType) ∈ gwA := gwA_at 476 (by decide +kernel) rfl
theorem gw_477 : Jvm.Cond.methodLink "GraticulePress$Grid" (19 : Nat) ({ cls := "java/lang/String", name := "length", desc := "()I" } : Jvm.MethodName) ∈ gwA := gwA_at 477 (by decide +kernel) rfl
theorem gw_478 : Jvm.Cond.methodLink "GraticulePress$Grid" (25 : Nat) ({ cls := "java/lang/String", name := "charAt", desc := "(I)C" } : Jvm.MethodName) ∈ gwA := gwA_at 478 (by decide +kernel) rfl
theorem gw_479 : Jvm.Cond.instanceMethod ({ cls := "java/lang/String", name := "charAt", desc := "(I)C" } : Jvm.MethodName) ∈ gwA := gwA_at 479 (by decide +kernel) rfl
theorem gw_480 : Jvm.Cond.selects "java/lang/String" ({ cls := "java/lang/String", name := "charAt", desc := "(I)C" } : Jvm.MethodName) ({ cls := "java/lang/String", name := "charAt", desc := "(I)C" } : Jvm.MethodName) ∈ gwA := gwA_at 480 (by decide +kernel) rfl
theorem gw_481 : Jvm.Cond.code ({ cls := "java/lang/String", name := "charAt", desc := "(I)C" } : Jvm.MethodName) prog_20_method_56_code (2 : Nat) (Option.some Jvm.ClassFile.FieldType.char) ∈ gwA := gwA_at 481 (by decide +kernel) rfl
theorem gw_482 : Jvm.Cond.methodLink "java/lang/String" (492 : Nat) ({ cls := "java/lang/String", name := "isLatin1", desc := "()Z" } : Jvm.MethodName) ∈ gwA := gwA_at 482 (by decide +kernel) rfl
theorem gw_483 : Jvm.Cond.instanceMethod ({ cls := "java/lang/String", name := "isLatin1", desc := "()Z" } : Jvm.MethodName) ∈ gwA := gwA_at 483 (by decide +kernel) rfl
theorem gw_484 : Jvm.Cond.selects "java/lang/String" ({ cls := "java/lang/String", name := "isLatin1", desc := "()Z" } : Jvm.MethodName) ({ cls := "java/lang/String", name := "isLatin1", desc := "()Z" } : Jvm.MethodName) ∈ gwA := gwA_at 484 (by decide +kernel) rfl
theorem gw_485 : Jvm.Cond.code ({ cls := "java/lang/String", name := "isLatin1", desc := "()Z" } : Jvm.MethodName) prog_20_method_154_code (1 : Nat) (Option.some Jvm.ClassFile.FieldType.boolean) ∈ gwA := gwA_at 485 (by decide +kernel) rfl
theorem gw_486 : Jvm.Cond.methodLink "java/lang/String" (495 : Nat) ({ cls := "java/lang/StringLatin1", name := "charAt", desc := "([BI)C" } : Jvm.MethodName) ∈ gwA := gwA_at 486 (by decide +kernel) rfl
theorem gw_487 : Jvm.Cond.static ({ cls := "java/lang/StringLatin1", name := "charAt", desc := "([BI)C" } : Jvm.MethodName) ∈ gwA := gwA_at 487 (by decide +kernel) rfl
theorem gw_488 : Jvm.Cond.code ({ cls := "java/lang/StringLatin1", name := "charAt", desc := "([BI)C" } : Jvm.MethodName) prog_23_method_2_code (2 : Nat) (Option.some Jvm.ClassFile.FieldType.char) ∈ gwA := gwA_at 488 (by decide +kernel) rfl
theorem gw_489 : Jvm.Cond.methodLink "java/lang/StringLatin1" (9 : Nat) ({ cls := "java/lang/String", name := "checkIndex", desc := "(II)V" } : Jvm.MethodName) ∈ gwA := gwA_at 489 (by decide +kernel) rfl
theorem gw_490 : Jvm.Cond.methodLink "java/lang/String" (498 : Nat) ({ cls := "java/lang/StringUTF16", name := "charAt", desc := "([BI)C" } : Jvm.MethodName) ∈ gwA := gwA_at 490 (by decide +kernel) rfl
theorem gw_491 : Jvm.Cond.static ({ cls := "java/lang/StringUTF16", name := "charAt", desc := "([BI)C" } : Jvm.MethodName) ∈ gwA := gwA_at 491 (by decide +kernel) rfl
theorem gw_492 : Jvm.Cond.code ({ cls := "java/lang/StringUTF16", name := "charAt", desc := "([BI)C" } : Jvm.MethodName) prog_24_method_83_code (2 : Nat) (Option.some Jvm.ClassFile.FieldType.char) ∈ gwA := gwA_at 492 (by decide +kernel) rfl
theorem gw_493 : Jvm.Cond.methodLink "java/lang/StringUTF16" (71 : Nat) ({ cls := "java/lang/StringUTF16", name := "getChar", desc := "([BI)C" } : Jvm.MethodName) ∈ gwA := gwA_at 493 (by decide +kernel) rfl
theorem gw_494 : Jvm.Cond.static ({ cls := "java/lang/StringUTF16", name := "getChar", desc := "([BI)C" } : Jvm.MethodName) ∈ gwA := gwA_at 494 (by decide +kernel) rfl
theorem gw_495 : Jvm.Cond.code ({ cls := "java/lang/StringUTF16", name := "getChar", desc := "([BI)C" } : Jvm.MethodName) prog_24_method_5_code (2 : Nat) (Option.some Jvm.ClassFile.FieldType.char) ∈ gwA := gwA_at 495 (by decide +kernel) rfl
theorem gw_496 : Jvm.Cond.methodLink "GraticulePress$Grid" (29 : Nat) ({ cls := "GraticulePress$Grid", name := "setSign", desc := "(IIC)V" } : Jvm.MethodName) ∈ gwA := gwA_at 496 (by decide +kernel) rfl
theorem gw_501 : Jvm.Cond.methodLink "GraticulePressLaw" (21 : Nat) ({ cls := "GraticulePress", name := "name", desc := "(I)I" } : Jvm.MethodName) ∈ gwA := gwA_at 501 (by decide +kernel) rfl
theorem gw_502 : Jvm.Cond.instanceMethod ({ cls := "GraticulePress", name := "name", desc := "(I)I" } : Jvm.MethodName) ∈ gwA := gwA_at 502 (by decide +kernel) rfl
theorem gw_503 : Jvm.Cond.selects "GraticulePress" ({ cls := "GraticulePress", name := "name", desc := "(I)I" } : Jvm.MethodName) ({ cls := "GraticulePress", name := "name", desc := "(I)I" } : Jvm.MethodName) ∈ gwA := gwA_at 503 (by decide +kernel) rfl
theorem gw_504 : Jvm.Cond.code ({ cls := "GraticulePress", name := "name", desc := "(I)I" } : Jvm.MethodName) prog_1_method_4_code (3 : Nat) (Option.some Jvm.ClassFile.FieldType.int) ∈ gwA := gwA_at 504 (by decide +kernel) rfl
theorem gw_505 : Jvm.Cond.methodLink "GraticulePress" (82 : Nat) ({ cls := "GraticulePress", name := "placeNumbered", desc := "(I)LGraticulePress$Place;" } : Jvm.MethodName) ∈ gwA := gwA_at 505 (by decide +kernel) rfl
theorem gw_507 : Jvm.Cond.instanceMethod ({ cls := "GraticulePress", name := "placeNumbered", desc := "(I)LGraticulePress$Place;" } : Jvm.MethodName) ∈ gwA := gwA_at 507 (by decide +kernel) rfl
theorem gw_508 : Jvm.Cond.code ({ cls := "GraticulePress", name := "placeNumbered", desc := "(I)LGraticulePress$Place;" } : Jvm.MethodName) prog_1_method_17_code (2 : Nat) (Option.some (Jvm.ClassFile.FieldType.object "GraticulePress$Place")) ∈ gwA := gwA_at 508 (by decide +kernel) rfl
theorem gw_509 : Jvm.Cond.classLink "GraticulePress" (115 : Nat) "java/lang/IndexOutOfBoundsException" ∈ gwA := gwA_at 509 (by decide +kernel) rfl
theorem gw_526 : Jvm.Cond.methodLink "GraticulePress" (88 : Nat) ({ cls := "GraticulePress$Place", name := "isToldOut", desc := "()Z" } : Jvm.MethodName) ∈ gwA := gwA_at 526 (by decide +kernel) rfl
theorem gw_527 : Jvm.Cond.instanceMethod ({ cls := "GraticulePress$Place", name := "isToldOut", desc := "()Z" } : Jvm.MethodName) ∈ gwA := gwA_at 527 (by decide +kernel) rfl
theorem gw_528 : Jvm.Cond.selects "GraticulePress$Place" ({ cls := "GraticulePress$Place", name := "isToldOut", desc := "()Z" } : Jvm.MethodName) ({ cls := "GraticulePress$Place", name := "isToldOut", desc := "()Z" } : Jvm.MethodName) ∈ gwA := gwA_at 528 (by decide +kernel) rfl
theorem gw_529 : Jvm.Cond.code ({ cls := "GraticulePress$Place", name := "isToldOut", desc := "()Z" } : Jvm.MethodName) prog_4_method_2_code (1 : Nat) (Option.some Jvm.ClassFile.FieldType.boolean) ∈ gwA := gwA_at 529 (by decide +kernel) rfl
theorem gw_531 : Jvm.Cond.classLink "GraticulePress" (94 : Nat) "GraticulePress$Spelling" ∈ gwA := gwA_at 531 (by decide +kernel) rfl
theorem gw_532 : Jvm.Cond.instantiable "GraticulePress$Spelling" (2 : Nat) ∈ gwA := gwA_at 532 (by decide +kernel) rfl
theorem gw_533 : Jvm.Cond.methodLink "GraticulePress" (96 : Nat) ({ cls := "java/lang/StringBuilder", name := "toString", desc := "()Ljava/lang/String;" } : Jvm.MethodName) ∈ gwA := gwA_at 533 (by decide +kernel) rfl
theorem gw_534 : Jvm.Cond.instanceMethod ({ cls := "java/lang/StringBuilder", name := "toString", desc := "()Ljava/lang/String;" } : Jvm.MethodName) ∈ gwA := gwA_at 534 (by decide +kernel) rfl
theorem gw_535 : Jvm.Cond.selects "java/lang/StringBuilder" ({ cls := "java/lang/StringBuilder", name := "toString", desc := "()Ljava/lang/String;" } : Jvm.MethodName) ({ cls := "java/lang/StringBuilder", name := "toString", desc := "()Ljava/lang/String;" } : Jvm.MethodName) ∈ gwA := gwA_at 535 (by decide +kernel) rfl
theorem gw_536 : Jvm.Cond.code ({ cls := "java/lang/StringBuilder", name := "toString", desc := "()Ljava/lang/String;" } : Jvm.MethodName) prog_21_method_42_code (1 : Nat) (Option.some (Jvm.ClassFile.FieldType.object "java/lang/String")) ∈ gwA := gwA_at 536 (by decide +kernel) rfl
theorem gw_537 : Jvm.Cond.classLink "java/lang/StringBuilder" (18 : Nat) "java/lang/String" ∈ gwA := gwA_at 537 (by decide +kernel) rfl
theorem gw_538 : Jvm.Cond.instantiable "java/lang/String" (4 : Nat) ∈ gwA := gwA_at 538 (by decide +kernel) rfl
theorem gw_539 : Jvm.Cond.methodLink "java/lang/StringBuilder" (137 : Nat) ({ cls := "java/lang/String", name := "<init>", desc := "(Ljava/lang/StringBuilder;)V" } : Jvm.MethodName) ∈ gwA := gwA_at 539 (by decide +kernel) rfl
theorem gw_540 : Jvm.Cond.instanceMethod ({ cls := "java/lang/String", name := "<init>", desc := "(Ljava/lang/StringBuilder;)V" } : Jvm.MethodName) ∈ gwA := gwA_at 540 (by decide +kernel) rfl
theorem gw_541 : Jvm.Cond.code ({ cls := "java/lang/String", name := "<init>", desc := "(Ljava/lang/StringBuilder;)V" } : Jvm.MethodName) prog_20_method_53_code (2 : Nat) (Option.none : Option Jvm.ClassFile.FieldType) ∈ gwA := gwA_at 541 (by decide +kernel) rfl
theorem gw_542 : Jvm.Cond.methodLink "java/lang/String" (489 : Nat) ({ cls := "java/lang/String", name := "<init>", desc := "(Ljava/lang/AbstractStringBuilder;Ljava/lang/Void;)V" } : Jvm.MethodName) ∈ gwA := gwA_at 542 (by decide +kernel) rfl
theorem gw_543 : Jvm.Cond.instanceMethod ({ cls := "java/lang/String", name := "<init>", desc := "(Ljava/lang/AbstractStringBuilder;Ljava/lang/Void;)V" } : Jvm.MethodName) ∈ gwA := gwA_at 543 (by decide +kernel) rfl
theorem gw_544 : Jvm.Cond.code ({ cls := "java/lang/String", name := "<init>", desc := "(Ljava/lang/AbstractStringBuilder;Ljava/lang/Void;)V" } : Jvm.MethodName) prog_20_method_150_code (5 : Nat) (Option.none : Option Jvm.ClassFile.FieldType) ∈ gwA := gwA_at 544 (by decide +kernel) rfl
theorem gw_545 : Jvm.Cond.methodLink "java/lang/String" (1 : Nat) ({ cls := "java/lang/Object", name := "<init>", desc := "()V" } : Jvm.MethodName) ∈ gwA := gwA_at 545 (by decide +kernel) rfl
theorem gw_546 : Jvm.Cond.methodLink "java/lang/String" (552 : Nat) ({ cls := "java/lang/AbstractStringBuilder", name := "getValue", desc := "()[B" } : Jvm.MethodName) ∈ gwA := gwA_at 546 (by decide +kernel) rfl
theorem gw_550 : Jvm.Cond.code ({ cls := "java/lang/AbstractStringBuilder", name := "getValue", desc := "()[B" } : Jvm.MethodName) prog_10_method_64_code (1 : Nat) (Option.some (Jvm.ClassFile.FieldType.array Jvm.ClassFile.FieldType.byte)) ∈ gwA := gwA_at 550 (by decide +kernel) rfl
theorem gw_551 : Jvm.Cond.methodLink "java/lang/String" (549 : Nat) ({ cls := "java/lang/AbstractStringBuilder", name := "length", desc := "()I" } : Jvm.MethodName) ∈ gwA := gwA_at 551 (by decide +kernel) rfl
theorem gw_552 : Jvm.Cond.methodLink "java/lang/String" (1047 : Nat) ({ cls := "java/lang/AbstractStringBuilder", name := "isLatin1", desc := "()Z" } : Jvm.MethodName) ∈ gwA := gwA_at 552 (by decide +kernel) rfl
theorem gw_553 : Jvm.Cond.methodLink "java/lang/String" (54 : Nat) ({ cls := "java/util/Arrays", name := "copyOfRange", desc := "([BII)[B" } : Jvm.MethodName) ∈ gwA := gwA_at 553 (by decide +kernel) rfl
theorem gw_554 : Jvm.Cond.static ({ cls := "java/util/Arrays", name := "copyOfRange", desc := "([BII)[B" } : Jvm.MethodName) ∈ gwA := gwA_at 554 (by decide +kernel) rfl
theorem gw_555 : Jvm.Cond.code ({ cls := "java/util/Arrays", name := "copyOfRange", desc := "([BII)[B" } : Jvm.MethodName) prog_27_method_132_code (3 : Nat) (Option.some (Jvm.ClassFile.FieldType.array Jvm.ClassFile.FieldType.byte)) ∈ gwA := gwA_at 555 (by decide +kernel) rfl
theorem gw_556 : Jvm.Cond.methodLink "java/util/Arrays" (339 : Nat) ({ cls := "java/util/Arrays", name := "copyOfRangeByte", desc := "([BII)[B" } : Jvm.MethodName) ∈ gwA := gwA_at 556 (by decide +kernel) rfl
theorem gw_557 : Jvm.Cond.static ({ cls := "java/util/Arrays", name := "copyOfRangeByte", desc := "([BII)[B" } : Jvm.MethodName) ∈ gwA := gwA_at 557 (by decide +kernel) rfl
theorem gw_558 : Jvm.Cond.code ({ cls := "java/util/Arrays", name := "copyOfRangeByte", desc := "([BII)[B" } : Jvm.MethodName) prog_27_method_133_code (5 : Nat) (Option.some (Jvm.ClassFile.FieldType.array Jvm.ClassFile.FieldType.byte)) ∈ gwA := gwA_at 558 (by decide +kernel) rfl
theorem gw_559 : Jvm.Cond.methodLink "java/util/Arrays" (343 : Nat) ({ cls := "java/util/Arrays", name := "checkLength", desc := "(II)V" } : Jvm.MethodName) ∈ gwA := gwA_at 559 (by decide +kernel) rfl
theorem gw_560 : Jvm.Cond.static ({ cls := "java/util/Arrays", name := "checkLength", desc := "(II)V" } : Jvm.MethodName) ∈ gwA := gwA_at 560 (by decide +kernel) rfl
theorem gw_561 : Jvm.Cond.code ({ cls := "java/util/Arrays", name := "checkLength", desc := "(II)V" } : Jvm.MethodName) prog_27_method_131_code (2 : Nat) (Option.none : Option Jvm.ClassFile.FieldType) ∈ gwA := gwA_at 561 (by decide +kernel) rfl
theorem gw_563 : Jvm.Cond.classLink "java/util/Arrays" (45 : Nat) "java/lang/StringBuilder" ∈ gwA := gwA_at 563 (by decide +kernel) rfl
theorem gw_564 : Jvm.Cond.methodLink "java/util/Arrays" (47 : Nat) ({ cls := "java/lang/StringBuilder", name := "<init>", desc := "()V" } : Jvm.MethodName) ∈ gwA := gwA_at 564 (by decide +kernel) rfl
theorem gw_565 : Jvm.Cond.methodLink "java/util/Arrays" (54 : Nat) ({ cls := "java/lang/StringBuilder", name := "append", desc := "(I)Ljava/lang/StringBuilder;" } : Jvm.MethodName) ∈ gwA := gwA_at 565 (by decide +kernel) rfl
theorem gw_566 : Jvm.Cond.instanceMethod ({ cls := "java/lang/StringBuilder", name := "append", desc := "(I)Ljava/lang/StringBuilder;" } : Jvm.MethodName) ∈ gwA := gwA_at 566 (by decide +kernel) rfl
theorem gw_567 : Jvm.Cond.selects "java/lang/StringBuilder" ({ cls := "java/lang/StringBuilder", name := "append", desc := "(I)Ljava/lang/StringBuilder;" } : Jvm.MethodName) ({ cls := "java/lang/StringBuilder", name := "append", desc := "(I)Ljava/lang/StringBuilder;" } : Jvm.MethodName) ∈ gwA := gwA_at 567 (by decide +kernel) rfl
theorem gw_568 : Jvm.Cond.code ({ cls := "java/lang/StringBuilder", name := "append", desc := "(I)Ljava/lang/StringBuilder;" } : Jvm.MethodName) prog_21_method_15_code (2 : Nat) (Option.some (Jvm.ClassFile.FieldType.object "java/lang/StringBuilder")) ∈ gwA := gwA_at 568 (by decide +kernel) rfl
theorem gw_569 : Jvm.Cond.methodLink "java/lang/StringBuilder" (53 : Nat) ({ cls := "java/lang/AbstractStringBuilder", name := "append", desc := "(I)Ljava/lang/AbstractStringBuilder;" } : Jvm.MethodName) ∈ gwA := gwA_at 569 (by decide +kernel) rfl
theorem gw_571 : Jvm.Cond.code ({ cls := "java/lang/AbstractStringBuilder", name := "append", desc := "(I)Ljava/lang/AbstractStringBuilder;" } : Jvm.MethodName) prog_10_method_32_code (4 : Nat) (Option.some (Jvm.ClassFile.FieldType.object "java/lang/AbstractStringBuilder")) ∈ gwA := gwA_at 571 (by decide +kernel) rfl
theorem gw_572 : Jvm.Cond.methodLink "java/lang/AbstractStringBuilder" (245 : Nat) ({ cls := "java/lang/Integer", name := "stringSize", desc := "(I)I" } : Jvm.MethodName) ∈ gwA := gwA_at 572 (by decide +kernel) rfl
theorem gw_573 : Jvm.Cond.static ({ cls := "java/lang/Integer", name := "stringSize", desc := "(I)I" } : Jvm.MethodName) ∈ gwA := gwA_at 573 (by decide +kernel) rfl
theorem gw_574 : Jvm.Cond.code ({ cls := "java/lang/Integer", name := "stringSize", desc := "(I)I" } : Jvm.MethodName) prog_17_method_13_code (4 : Nat) (Option.some Jvm.ClassFile.FieldType.int) ∈ gwA := gwA_at 574 (by decide +kernel) rfl
theorem gw_575 : Jvm.Cond.methodLink "java/lang/AbstractStringBuilder" (248 : Nat) ({ cls := "java/lang/Integer", name := "getChars", desc := "(II[B)I" } : Jvm.MethodName) ∈ gwA := gwA_at 575 (by decide +kernel) rfl
theorem gw_576 : Jvm.Cond.static ({ cls := "java/lang/Integer", name := "getChars", desc := "(II[B)I" } : Jvm.MethodName) ∈ gwA := gwA_at 576 (by decide +kernel) rfl
theorem gw_577 : Jvm.Cond.code ({ cls := "java/lang/Integer", name := "getChars", desc := "(II[B)I" } : Jvm.MethodName) prog_17_method_12_code (7 : Nat) (Option.some Jvm.ClassFile.FieldType.int) ∈ gwA := gwA_at 577 (by decide +kernel) rfl
theorem gw_582 : Jvm.Cond.methodLink "java/lang/AbstractStringBuilder" (251 : Nat) ({ cls := "java/lang/StringUTF16", name := "getChars", desc := "(III[B)I" } : Jvm.MethodName) ∈ gwA := gwA_at 582 (by decide +kernel) rfl
theorem gw_583 : Jvm.Cond.static ({ cls := "java/lang/StringUTF16", name := "getChars", desc := "(III[B)I" } : Jvm.MethodName) ∈ gwA := gwA_at 583 (by decide +kernel) rfl
theorem gw_584 : Jvm.Cond.code ({ cls := "java/lang/StringUTF16", name := "getChars", desc := "(III[B)I" } : Jvm.MethodName) prog_24_method_77_code (5 : Nat) (Option.some Jvm.ClassFile.FieldType.int) ∈ gwA := gwA_at 584 (by decide +kernel) rfl
theorem gw_585 : Jvm.Cond.methodLink "java/lang/StringUTF16" (96 : Nat) ({ cls := "java/lang/StringUTF16", name := "checkBoundsBeginEnd", desc := "(II[B)V" } : Jvm.MethodName) ∈ gwA := gwA_at 585 (by decide +kernel) rfl
theorem gw_586 : Jvm.Cond.static ({ cls := "java/lang/StringUTF16", name := "checkBoundsBeginEnd", desc := "(II[B)V" } : Jvm.MethodName) ∈ gwA := gwA_at 586 (by decide +kernel) rfl
theorem gw_587 : Jvm.Cond.code ({ cls := "java/lang/StringUTF16", name := "checkBoundsBeginEnd", desc := "(II[B)V" } : Jvm.MethodName) prog_24_method_93_code (3 : Nat) (Option.none : Option Jvm.ClassFile.FieldType) ∈ gwA := gwA_at 587 (by decide +kernel) rfl
theorem gw_588 : Jvm.Cond.methodLink "java/lang/StringUTF16" (241 : Nat) ({ cls := "java/lang/String", name := "checkBoundsBeginEnd", desc := "(III)V" } : Jvm.MethodName) ∈ gwA := gwA_at 588 (by decide +kernel) rfl
theorem gw_589 : Jvm.Cond.static ({ cls := "java/lang/String", name := "checkBoundsBeginEnd", desc := "(III)V" } : Jvm.MethodName) ∈ gwA := gwA_at 589 (by decide +kernel) rfl
theorem gw_590 : Jvm.Cond.code ({ cls := "java/lang/String", name := "checkBoundsBeginEnd", desc := "(III)V" } : Jvm.MethodName) prog_20_method_158_code (3 : Nat) (Option.none : Option Jvm.ClassFile.FieldType) ∈ gwA := gwA_at 590 (by decide +kernel) rfl
theorem gw_591 : Jvm.Cond.methodLink "java/lang/String" (1062 : Nat) ({ cls := "jdk/internal/util/Preconditions", name := "checkFromToIndex", desc := "(IIILjava/util/function/BiFunction;)I" } : Jvm.MethodName) ∈ gwA := gwA_at 591 (by decide +kernel) rfl
theorem gw_592 : Jvm.Cond.static ({ cls := "jdk/internal/util/Preconditions", name := "checkFromToIndex", desc := "(IIILjava/util/function/BiFunction;)I" } : Jvm.MethodName) ∈ gwA := gwA_at 592 (by decide +kernel) rfl
theorem gw_593 : Jvm.Cond.code ({ cls := "jdk/internal/util/Preconditions", name := "checkFromToIndex", desc := "(IIILjava/util/function/BiFunction;)I" } : Jvm.MethodName) prog_29_method_12_code (4 : Nat) (Option.some Jvm.ClassFile.FieldType.int) ∈ gwA := gwA_at 593 (by decide +kernel) rfl
theorem gw_594 : Jvm.Cond.methodLink "java/lang/StringUTF16" (393 : Nat) ({ cls := "java/lang/StringUTF16", name := "getChars", desc := "(II[B)I" } : Jvm.MethodName) ∈ gwA := gwA_at 594 (by decide +kernel) rfl
theorem gw_595 : Jvm.Cond.static ({ cls := "java/lang/StringUTF16", name := "getChars", desc := "(II[B)I" } : Jvm.MethodName) ∈ gwA := gwA_at 595 (by decide +kernel) rfl
theorem gw_596 : Jvm.Cond.code ({ cls := "java/lang/StringUTF16", name := "getChars", desc := "(II[B)I" } : Jvm.MethodName) prog_24_method_89_code (7 : Nat) (Option.some Jvm.ClassFile.FieldType.int) ∈ gwA := gwA_at 596 (by decide +kernel) rfl
theorem gw_600 : Jvm.Cond.methodLink "java/util/Arrays" (50 : Nat) ({ cls := "java/lang/StringBuilder", name := "append", desc := "(Ljava/lang/String;)Ljava/lang/StringBuilder;" } : Jvm.MethodName) ∈ gwA := gwA_at 600 (by decide +kernel) rfl
theorem gw_601 : Jvm.Cond.instanceMethod ({ cls := "java/lang/StringBuilder", name := "append", desc := "(Ljava/lang/String;)Ljava/lang/StringBuilder;" } : Jvm.MethodName) ∈ gwA := gwA_at 601 (by decide +kernel) rfl
theorem gw_602 : Jvm.Cond.selects "java/lang/StringBuilder" ({ cls := "java/lang/StringBuilder", name := "append", desc := "(Ljava/lang/String;)Ljava/lang/StringBuilder;" } : Jvm.MethodName) ({ cls := "java/lang/StringBuilder", name := "append", desc := "(Ljava/lang/String;)Ljava/lang/StringBuilder;" } : Jvm.MethodName) ∈ gwA := gwA_at 602 (by decide +kernel) rfl
theorem gw_603 : Jvm.Cond.code ({ cls := "java/lang/StringBuilder", name := "append", desc := "(Ljava/lang/String;)Ljava/lang/StringBuilder;" } : Jvm.MethodName) prog_21_method_7_code (2 : Nat) (Option.some (Jvm.ClassFile.FieldType.object "java/lang/StringBuilder")) ∈ gwA := gwA_at 603 (by decide +kernel) rfl
theorem gw_604 : Jvm.Cond.methodLink "java/lang/StringBuilder" (29 : Nat) ({ cls := "java/lang/AbstractStringBuilder", name := "append", desc := "(Ljava/lang/String;)Ljava/lang/AbstractStringBuilder;" } : Jvm.MethodName) ∈ gwA := gwA_at 604 (by decide +kernel) rfl
theorem gw_606 : Jvm.Cond.code ({ cls := "java/lang/AbstractStringBuilder", name := "append", desc := "(Ljava/lang/String;)Ljava/lang/AbstractStringBuilder;" } : Jvm.MethodName) prog_10_method_22_code (3 : Nat) (Option.some (Jvm.ClassFile.FieldType.object "java/lang/AbstractStringBuilder")) ∈ gwA := gwA_at 606 (by decide +kernel) rfl
theorem gw_607 : Jvm.Cond.methodLink "java/lang/AbstractStringBuilder" (204 : Nat) ({ cls := "java/lang/AbstractStringBuilder", name := "appendNull", desc := "()Ljava/lang/AbstractStringBuilder;" } : Jvm.MethodName) ∈ gwA := gwA_at 607 (by decide +kernel) rfl
theorem gw_610 : Jvm.Cond.code ({ cls := "java/lang/AbstractStringBuilder", name := "appendNull", desc := "()Ljava/lang/AbstractStringBuilder;" } : Jvm.MethodName) prog_10_method_26_code (3 : Nat) (Option.some (Jvm.ClassFile.FieldType.object "java/lang/AbstractStringBuilder")) ∈ gwA := gwA_at 610 (by decide +kernel) rfl
theorem gw_611 : Jvm.Cond.methodLink "java/lang/AbstractStringBuilder" (226 : Nat) ({ cls := "java/lang/StringUTF16", name := "putCharsAt", desc := "([BICCCC)I" } : Jvm.MethodName) ∈ gwA := gwA_at 611 (by decide +kernel) rfl
theorem gw_612 : Jvm.Cond.static ({ cls := "java/lang/StringUTF16", name := "putCharsAt", desc := "([BICCCC)I" } : Jvm.MethodName) ∈ gwA := gwA_at 612 (by decide +kernel) rfl
theorem gw_613 : Jvm.Cond.code ({ cls := "java/lang/StringUTF16", name := "putCharsAt", desc := "([BICCCC)I" } : Jvm.MethodName) prog_24_method_81_code (7 : Nat) (Option.some Jvm.ClassFile.FieldType.int) ∈ gwA := gwA_at 613 (by decide +kernel) rfl
theorem gw_614 : Jvm.Cond.methodLink "java/lang/AbstractStringBuilder" (32 : Nat) ({ cls := "java/lang/String", name := "length", desc := "()I" } : Jvm.MethodName) ∈ gwA := gwA_at 614 (by decide +kernel) rfl
theorem gw_615 : Jvm.Cond.methodLink "java/lang/AbstractStringBuilder" (208 : Nat) ({ cls := "java/lang/AbstractStringBuilder", name := "putStringAt", desc := "(ILjava/lang/String;)V" } : Jvm.MethodName) ∈ gwA := gwA_at 615 (by decide +kernel) rfl
theorem gw_618 : Jvm.Cond.code ({ cls := "java/lang/AbstractStringBuilder", name := "putStringAt", desc := "(ILjava/lang/String;)V" } : Jvm.MethodName) prog_10_method_73_code (3 : Nat) (Option.none : Option Jvm.ClassFile.FieldType) ∈ gwA := gwA_at 618 (by decide +kernel) rfl
theorem gw_619 : Jvm.Cond.methodLink "java/lang/AbstractStringBuilder" (397 : Nat) ({ cls := "java/lang/AbstractStringBuilder", name := "inflateIfNeededFor", desc := "(Ljava/lang/String;)V" } : Jvm.MethodName) ∈ gwA := gwA_at 619 (by decide +kernel) rfl
theorem gw_622 : Jvm.Cond.code ({ cls := "java/lang/AbstractStringBuilder", name := "inflateIfNeededFor", desc := "(Ljava/lang/String;)V" } : Jvm.MethodName) prog_10_method_71_code (2 : Nat) (Option.none : Option Jvm.ClassFile.FieldType) ∈ gwA := gwA_at 622 (by decide +kernel) rfl
theorem gw_623 : Jvm.Cond.methodLink "java/lang/AbstractStringBuilder" (40 : Nat) ({ cls := "java/lang/String", name := "coder", desc := "()B" } : Jvm.MethodName) ∈ gwA := gwA_at 623 (by decide +kernel) rfl
theorem gw_624 : Jvm.Cond.methodLink "java/lang/AbstractStringBuilder" (399 : Nat) ({ cls := "java/lang/String", name := "getBytes", desc := "([BIB)V" } : Jvm.MethodName) ∈ gwA := gwA_at 624 (by decide +kernel) rfl
theorem gw_625 : Jvm.Cond.instanceMethod ({ cls := "java/lang/String", name := "getBytes", desc := "([BIB)V" } : Jvm.MethodName) ∈ gwA := gwA_at 625 (by decide +kernel) rfl
theorem gw_626 : Jvm.Cond.selects "java/lang/String" ({ cls := "java/lang/String", name := "getBytes", desc := "([BIB)V" } : Jvm.MethodName) ({ cls := "java/lang/String", name := "getBytes", desc := "([BIB)V" } : Jvm.MethodName) ∈ gwA := gwA_at 626 (by decide +kernel) rfl
theorem gw_627 : Jvm.Cond.code ({ cls := "java/lang/String", name := "getBytes", desc := "([BIB)V" } : Jvm.MethodName) prog_20_method_147_code (4 : Nat) (Option.none : Option Jvm.ClassFile.FieldType) ∈ gwA := gwA_at 627 (by decide +kernel) rfl
theorem gw_629 : Jvm.Cond.methodLink "java/lang/String" (106 : Nat) ({ cls := "java/lang/StringLatin1", name := "inflate", desc := "([BI[BII)V" } : Jvm.MethodName) ∈ gwA := gwA_at 629 (by decide +kernel) rfl
theorem gw_630 : Jvm.Cond.methodLink "java/util/Arrays" (61 : Nat) ({ cls := "java/lang/StringBuilder", name := "toString", desc := "()Ljava/lang/String;" } : Jvm.MethodName) ∈ gwA := gwA_at 630 (by decide +kernel) rfl
theorem gw_632 : Jvm.Cond.methodLink "java/lang/String" (1051 : Nat) ({ cls := "java/lang/StringUTF16", name := "compress", desc := "([BII)[B" } : Jvm.MethodName) ∈ gwA := gwA_at 632 (by decide +kernel) rfl
theorem gw_633 : Jvm.Cond.static ({ cls := "java/lang/StringUTF16", name := "compress", desc := "([BII)[B" } : Jvm.MethodName) ∈ gwA := gwA_at 633 (by decide +kernel) rfl
theorem gw_634 : Jvm.Cond.code ({ cls := "java/lang/StringUTF16", name := "compress", desc := "([BII)[B" } : Jvm.MethodName) prog_24_method_17_code (6 : Nat) (Option.some (Jvm.ClassFile.FieldType.array Jvm.ClassFile.FieldType.byte)) ∈ gwA := gwA_at 634 (by decide +kernel) rfl
theorem gw_635 : Jvm.Cond.methodLink "java/lang/StringUTF16" (123 : Nat) ({ cls := "java/lang/StringUTF16", name := "compress", desc := "([BI[BII)I" } : Jvm.MethodName) ∈ gwA := gwA_at 635 (by decide +kernel) rfl
theorem gw_636 : Jvm.Cond.static ({ cls := "java/lang/StringUTF16", name := "compress", desc := "([BI[BII)I" } : Jvm.MethodName) ∈ gwA := gwA_at 636 (by decide +kernel) rfl
theorem gw_637 : Jvm.Cond.code ({ cls := "java/lang/StringUTF16", name := "compress", desc := "([BI[BII)I" } : Jvm.MethodName) prog_24_method_22_code (7 : Nat) (Option.some Jvm.ClassFile.FieldType.int) ∈ gwA := gwA_at 637 (by decide +kernel) rfl
theorem gw_638 : Jvm.Cond.methodLink "java/lang/StringUTF16" (126 : Nat) ({ cls := "java/util/Arrays", name := "copyOfRange", desc := "([BII)[B" } : Jvm.MethodName) ∈ gwA := gwA_at 638 (by decide +kernel) rfl
theorem gw_639 : Jvm.Cond.methodLink "java/lang/String" (47 : Nat) ({ cls := "java/lang/StringUTF16", name := "coderFromArrayLen", desc := "([BI)B" } : Jvm.MethodName) ∈ gwA := gwA_at 639 (by decide +kernel) rfl
theorem gw_640 : Jvm.Cond.static ({ cls := "java/lang/StringUTF16", name := "coderFromArrayLen", desc := "([BI)B" } : Jvm.MethodName) ∈ gwA := gwA_at 640 (by decide +kernel) rfl
theorem gw_641 : Jvm.Cond.code ({ cls := "java/lang/StringUTF16", name := "coderFromArrayLen", desc := "([BI)B" } : Jvm.MethodName) prog_24_method_15_code (2 : Nat) (Option.some Jvm.ClassFile.FieldType.byte) ∈ gwA := gwA_at 641 (by decide +kernel) rfl
theorem gw_642 : Jvm.Cond.fieldLink "java/lang/String" (9 : Nat) "java/lang/String" "value" "[B" ∈ gwA := gwA_at 642 (by decide +kernel) rfl
theorem gw_643 : Jvm.Cond.fieldLink "java/lang/String" (15 : Nat) "java/lang/String" "coder" "B" ∈ gwA := gwA_at 643 (by decide +kernel) rfl
theorem gw_653 : Jvm.Cond.methodLink "GraticulePress" (100 : Nat) ({ cls := "GraticulePress$Spelling", name := "<init>", desc := "(ILjava/lang/String;)V" } : Jvm.MethodName) ∈ gwA := gwA_at 653 (by decide +kernel) rfl
theorem gw_654 : Jvm.Cond.instanceMethod ({ cls := "GraticulePress$Spelling", name := "<init>", desc := "(ILjava/lang/String;)V" } : Jvm.MethodName) ∈ gwA := gwA_at 654 (by decide +kernel) rfl
theorem gw_655 : Jvm.Cond.code ({ cls := "GraticulePress$Spelling", name := "<init>", desc := "(ILjava/lang/String;)V" } : Jvm.MethodName) prog_6_method_1_code (3 : Nat) (Option.none : Option Jvm.ClassFile.FieldType) ∈ gwA := gwA_at 655 (by decide +kernel) rfl
theorem gw_656 : Jvm.Cond.methodLink "GraticulePress$Spelling" (1 : Nat) ({ cls := "java/lang/Object", name := "<init>", desc := "()V" } : Jvm.MethodName) ∈ gwA := gwA_at 656 (by decide +kernel) rfl
theorem gw_657 : Jvm.Cond.fieldLink "GraticulePress$Spelling" (7 : Nat) "GraticulePress$Spelling" "day" "I" ∈ gwA := gwA_at 657 (by decide +kernel) rfl
theorem gw_658 : Jvm.Cond.fieldLink "GraticulePress$Place" (30 : Nat) "GraticulePress$Spelling" "day" "I" ∈ gwA := gwA_at 658 (by decide +kernel) rfl
theorem gw_659 : Jvm.Cond.fieldLink "GraticulePress$Spelling" (13 : Nat) "GraticulePress$Spelling" "word" "Ljava/lang/String;" ∈ gwA := gwA_at 659 (by decide +kernel) rfl
theorem gw_660 : Jvm.Cond.fieldLink "GraticulePress$Place" (33 : Nat) "GraticulePress$Spelling" "word" "Ljava/lang/String;" ∈ gwA := gwA_at 660 (by decide +kernel) rfl
theorem gw_666 : Jvm.Cond.methodLink "GraticulePress" (103 : Nat) ({ cls := "GraticulePress$Place", name := "tell", desc := "(LGraticulePress$Spelling;)V" } : Jvm.MethodName) ∈ gwA := gwA_at 666 (by decide +kernel) rfl
theorem gw_667 : Jvm.Cond.instanceMethod ({ cls := "GraticulePress$Place", name := "tell", desc := "(LGraticulePress$Spelling;)V" } : Jvm.MethodName) ∈ gwA := gwA_at 667 (by decide +kernel) rfl
theorem gw_668 : Jvm.Cond.selects "GraticulePress$Place" ({ cls := "GraticulePress$Place", name := "tell", desc := "(LGraticulePress$Spelling;)V" } : Jvm.MethodName) ({ cls := "GraticulePress$Place", name := "tell", desc := "(LGraticulePress$Spelling;)V" } : Jvm.MethodName) ∈ gwA := gwA_at 668 (by decide +kernel) rfl
theorem gw_669 : Jvm.Cond.code ({ cls := "GraticulePress$Place", name := "tell", desc := "(LGraticulePress$Spelling;)V" } : Jvm.MethodName) prog_4_method_3_code (2 : Nat) (Option.none : Option Jvm.ClassFile.FieldType) ∈ gwA := gwA_at 669 (by decide +kernel) rfl
theorem gw_670 : Jvm.Cond.methodLink "GraticulePress" (107 : Nat) ({ cls := "java/lang/StringBuilder", name := "setLength", desc := "(I)V" } : Jvm.MethodName) ∈ gwA := gwA_at 670 (by decide +kernel) rfl
theorem gw_671 : Jvm.Cond.instanceMethod ({ cls := "java/lang/StringBuilder", name := "setLength", desc := "(I)V" } : Jvm.MethodName) ∈ gwA := gwA_at 671 (by decide +kernel) rfl
theorem gw_672 : Jvm.Cond.selects "java/lang/StringBuilder" ({ cls := "java/lang/StringBuilder", name := "setLength", desc := "(I)V" } : Jvm.MethodName) ({ cls := "java/lang/StringBuilder", name := "setLength", desc := "(I)V" } : Jvm.MethodName) ∈ gwA := gwA_at 672 (by decide +kernel) rfl
theorem gw_673 : Jvm.Cond.code ({ cls := "java/lang/StringBuilder", name := "setLength", desc := "(I)V" } : Jvm.MethodName) prog_21_method_89_code (2 : Nat) (Option.none : Option Jvm.ClassFile.FieldType) ∈ gwA := gwA_at 673 (by decide +kernel) rfl
theorem gw_674 : Jvm.Cond.methodLink "java/lang/StringBuilder" (333 : Nat) ({ cls := "java/lang/AbstractStringBuilder", name := "setLength", desc := "(I)V" } : Jvm.MethodName) ∈ gwA := gwA_at 674 (by decide +kernel) rfl
theorem gw_676 : Jvm.Cond.code ({ cls := "java/lang/AbstractStringBuilder", name := "setLength", desc := "(I)V" } : Jvm.MethodName) prog_10_method_13_code (2 : Nat) (Option.none : Option Jvm.ClassFile.FieldType) ∈ gwA := gwA_at 676 (by decide +kernel) rfl
theorem gw_679 : Jvm.Cond.methodLink "java/lang/AbstractStringBuilder" (131 : Nat) ({ cls := "java/lang/StringIndexOutOfBoundsException", name := "<init>", desc := "(I)V" } : Jvm.MethodName) ∈ gwA := gwA_at 679 (by decide +kernel) rfl
theorem gw_680 : Jvm.Cond.instanceMethod ({ cls := "java/lang/StringIndexOutOfBoundsException", name := "<init>", desc := "(I)V" } : Jvm.MethodName) ∈ gwA := gwA_at 680 (by decide +kernel) rfl
theorem gw_681 : Jvm.Cond.code ({ cls := "java/lang/StringIndexOutOfBoundsException", name := "<init>", desc := "(I)V" } : Jvm.MethodName) prog_22_method_3_code (2 : Nat) (Option.none : Option Jvm.ClassFile.FieldType) ∈ gwA := gwA_at 681 (by decide +kernel) rfl
theorem gw_682 : Jvm.Cond.classLink "java/lang/StringIndexOutOfBoundsException" (10 : Nat) "java/lang/StringBuilder" ∈ gwA := gwA_at 682 (by decide +kernel) rfl
theorem gw_683 : Jvm.Cond.methodLink "java/lang/StringIndexOutOfBoundsException" (12 : Nat) ({ cls := "java/lang/StringBuilder", name := "<init>", desc := "()V" } : Jvm.MethodName) ∈ gwA := gwA_at 683 (by decide +kernel) rfl
theorem gw_685 : Jvm.Cond.methodLink "java/lang/StringIndexOutOfBoundsException" (15 : Nat) ({ cls := "java/lang/StringBuilder", name := "append", desc := "(Ljava/lang/String;)Ljava/lang/StringBuilder;" } : Jvm.MethodName) ∈ gwA := gwA_at 685 (by decide +kernel) rfl
theorem gw_686 : Jvm.Cond.methodLink "java/lang/StringIndexOutOfBoundsException" (19 : Nat) ({ cls := "java/lang/StringBuilder", name := "append", desc := "(I)Ljava/lang/StringBuilder;" } : Jvm.MethodName) ∈ gwA := gwA_at 686 (by decide +kernel) rfl
theorem gw_687 : Jvm.Cond.methodLink "java/lang/StringIndexOutOfBoundsException" (22 : Nat) ({ cls := "java/lang/StringBuilder", name := "toString", desc := "()Ljava/lang/String;" } : Jvm.MethodName) ∈ gwA := gwA_at 687 (by decide +kernel) rfl
theorem gw_696 : Jvm.Cond.methodLink "java/lang/AbstractStringBuilder" (133 : Nat) ({ cls := "java/lang/StringLatin1", name := "fillNull", desc := "([BII)V" } : Jvm.MethodName) ∈ gwA := gwA_at 696 (by decide +kernel) rfl
theorem gw_697 : Jvm.Cond.static ({ cls := "java/lang/StringLatin1", name := "fillNull", desc := "([BII)V" } : Jvm.MethodName) ∈ gwA := gwA_at 697 (by decide +kernel) rfl
theorem gw_698 : Jvm.Cond.code ({ cls := "java/lang/StringLatin1", name := "fillNull", desc := "([BII)V" } : Jvm.MethodName) prog_23_method_48_code (3 : Nat) (Option.none : Option Jvm.ClassFile.FieldType) ∈ gwA := gwA_at 698 (by decide +kernel) rfl
theorem gw_699 : Jvm.Cond.methodLink "java/lang/StringLatin1" (236 : Nat) ({ cls := "java/util/Arrays", name := "fill", desc := "([BIIB)V" } : Jvm.MethodName) ∈ gwA := gwA_at 699 (by decide +kernel) rfl
theorem gw_700 : Jvm.Cond.static ({ cls := "java/util/Arrays", name := "fill", desc := "([BIIB)V" } : Jvm.MethodName) ∈ gwA := gwA_at 700 (by decide +kernel) rfl
theorem gw_701 : Jvm.Cond.code ({ cls := "java/util/Arrays", name := "fill", desc := "([BIIB)V" } : Jvm.MethodName) prog_27_method_110_code (5 : Nat) (Option.none : Option Jvm.ClassFile.FieldType) ∈ gwA := gwA_at 701 (by decide +kernel) rfl
theorem gw_702 : Jvm.Cond.methodLink "java/util/Arrays" (13 : Nat) ({ cls := "java/util/Arrays", name := "rangeCheck", desc := "(III)V" } : Jvm.MethodName) ∈ gwA := gwA_at 702 (by decide +kernel) rfl
theorem gw_703 : Jvm.Cond.static ({ cls := "java/util/Arrays", name := "rangeCheck", desc := "(III)V" } : Jvm.MethodName) ∈ gwA := gwA_at 703 (by decide +kernel) rfl
theorem gw_704 : Jvm.Cond.code ({ cls := "java/util/Arrays", name := "rangeCheck", desc := "(III)V" } : Jvm.MethodName) prog_27_method_30_code (3 : Nat) (Option.none : Option Jvm.ClassFile.FieldType) ∈ gwA := gwA_at 704 (by decide +kernel) rfl
theorem gw_719 : Jvm.Cond.methodLink "java/util/Arrays" (70 : Nat) ({ cls := "java/lang/ArrayIndexOutOfBoundsException", name := "<init>", desc := "(I)V" } : Jvm.MethodName) ∈ gwA := gwA_at 719 (by decide +kernel) rfl
theorem gw_720 : Jvm.Cond.instanceMethod ({ cls := "java/lang/ArrayIndexOutOfBoundsException", name := "<init>", desc := "(I)V" } : Jvm.MethodName) ∈ gwA := gwA_at 720 (by decide +kernel) rfl
theorem gw_721 : Jvm.Cond.code ({ cls := "java/lang/ArrayIndexOutOfBoundsException", name := "<init>", desc := "(I)V" } : Jvm.MethodName) prog_11_method_3_code (2 : Nat) (Option.none : Option Jvm.ClassFile.FieldType) ∈ gwA := gwA_at 721 (by decide +kernel) rfl
theorem gw_722 : Jvm.Cond.classLink "java/lang/ArrayIndexOutOfBoundsException" (10 : Nat) "java/lang/StringBuilder" ∈ gwA := gwA_at 722 (by decide +kernel) rfl
theorem gw_723 : Jvm.Cond.methodLink "java/lang/ArrayIndexOutOfBoundsException" (12 : Nat) ({ cls := "java/lang/StringBuilder", name := "<init>", desc := "()V" } : Jvm.MethodName) ∈ gwA := gwA_at 723 (by decide +kernel) rfl
theorem gw_725 : Jvm.Cond.methodLink "java/lang/ArrayIndexOutOfBoundsException" (15 : Nat) ({ cls := "java/lang/StringBuilder", name := "append", desc := "(Ljava/lang/String;)Ljava/lang/StringBuilder;" } : Jvm.MethodName) ∈ gwA := gwA_at 725 (by decide +kernel) rfl
theorem gw_726 : Jvm.Cond.methodLink "java/lang/ArrayIndexOutOfBoundsException" (19 : Nat) ({ cls := "java/lang/StringBuilder", name := "append", desc := "(I)Ljava/lang/StringBuilder;" } : Jvm.MethodName) ∈ gwA := gwA_at 726 (by decide +kernel) rfl
theorem gw_727 : Jvm.Cond.methodLink "java/lang/ArrayIndexOutOfBoundsException" (22 : Nat) ({ cls := "java/lang/StringBuilder", name := "toString", desc := "()Ljava/lang/String;" } : Jvm.MethodName) ∈ gwA := gwA_at 727 (by decide +kernel) rfl
theorem gw_731 : Jvm.Cond.methodLink "java/lang/AbstractStringBuilder" (137 : Nat) ({ cls := "java/lang/StringUTF16", name := "fillNull", desc := "([BII)V" } : Jvm.MethodName) ∈ gwA := gwA_at 731 (by decide +kernel) rfl
theorem gw_732 : Jvm.Cond.static ({ cls := "java/lang/StringUTF16", name := "fillNull", desc := "([BII)V" } : Jvm.MethodName) ∈ gwA := gwA_at 732 (by decide +kernel) rfl
theorem gw_733 : Jvm.Cond.code ({ cls := "java/lang/StringUTF16", name := "fillNull", desc := "([BII)V" } : Jvm.MethodName) prog_24_method_70_code (3 : Nat) (Option.none : Option Jvm.ClassFile.FieldType) ∈ gwA := gwA_at 733 (by decide +kernel) rfl
theorem gw_734 : Jvm.Cond.methodLink "java/lang/StringUTF16" (380 : Nat) ({ cls := "java/util/Arrays", name := "fill", desc := "([BIIB)V" } : Jvm.MethodName) ∈ gwA := gwA_at 734 (by decide +kernel) rfl
theorem gw_735 : Jvm.Cond.methodLink "GraticulePress" (111 : Nat) ({ cls := "GraticulePress", name := "placeAllSheetsAnew", desc := "(I)I" } : Jvm.MethodName) ∈ gwA := gwA_at 735 (by decide +kernel) rfl
theorem gw_737 : Jvm.Cond.instanceMethod ({ cls := "GraticulePress", name := "placeAllSheetsAnew", desc := "(I)I" } : Jvm.MethodName) ∈ gwA := gwA_at 737 (by decide +kernel) rfl
theorem gw_738 : Jvm.Cond.code ({ cls := "GraticulePress", name := "placeAllSheetsAnew", desc := "(I)I" } : Jvm.MethodName) prog_1_method_22_code (5 : Nat) (Option.some Jvm.ClassFile.FieldType.int) ∈ gwA := gwA_at 738 (by decide +kernel) rfl
theorem gw_739 : Jvm.Cond.methodLink "GraticulePress" (220 : Nat) ({ cls := "GraticulePress$Sheet", name := "pushedBeside", desc := "(I)I" } : Jvm.MethodName) ∈ gwA := gwA_at 739 (by decide +kernel) rfl
theorem gw_740 : Jvm.Cond.instanceMethod ({ cls := "GraticulePress$Sheet", name := "pushedBeside", desc := "(I)I" } : Jvm.MethodName) ∈ gwA := gwA_at 740 (by decide +kernel) rfl
theorem gw_741 : Jvm.Cond.selects "GraticulePress$Sheet" ({ cls := "GraticulePress$Sheet", name := "pushedBeside", desc := "(I)I" } : Jvm.MethodName) ({ cls := "GraticulePress$Sheet", name := "pushedBeside", desc := "(I)I" } : Jvm.MethodName) ∈ gwA := gwA_at 741 (by decide +kernel) rfl
theorem gw_742 : Jvm.Cond.code ({ cls := "GraticulePress$Sheet", name := "pushedBeside", desc := "(I)I" } : Jvm.MethodName) prog_5_method_10_code (5 : Nat) (Option.some Jvm.ClassFile.FieldType.int) ∈ gwA := gwA_at 742 (by decide +kernel) rfl
theorem gw_743 : Jvm.Cond.methodLink "GraticulePress$Sheet" (110 : Nat) ({ cls := "GraticulePress$Spot", name := "isPushed", desc := "()Z" } : Jvm.MethodName) ∈ gwA := gwA_at 743 (by decide +kernel) rfl
theorem gw_744 : Jvm.Cond.instanceMethod ({ cls := "GraticulePress$Spot", name := "isPushed", desc := "()Z" } : Jvm.MethodName) ∈ gwA := gwA_at 744 (by decide +kernel) rfl
theorem gw_745 : Jvm.Cond.selects "GraticulePress$Spot" ({ cls := "GraticulePress$Spot", name := "isPushed", desc := "()Z" } : Jvm.MethodName) ({ cls := "GraticulePress$Spot", name := "isPushed", desc := "()Z" } : Jvm.MethodName) ∈ gwA := gwA_at 745 (by decide +kernel) rfl
theorem gw_746 : Jvm.Cond.code ({ cls := "GraticulePress$Spot", name := "isPushed", desc := "()Z" } : Jvm.MethodName) prog_7_method_5_code (1 : Nat) (Option.some Jvm.ClassFile.FieldType.boolean) ∈ gwA := gwA_at 746 (by decide +kernel) rfl
theorem gw_750 : Jvm.Cond.methodLink "GraticulePressLaw" (27 : Nat) ({ cls := "GraticulePress", name := "spelled", desc := "(III)C" } : Jvm.MethodName) ∈ gwA := gwA_at 750 (by decide +kernel) rfl
theorem gw_751 : Jvm.Cond.instanceMethod ({ cls := "GraticulePress", name := "spelled", desc := "(III)C" } : Jvm.MethodName) ∈ gwA := gwA_at 751 (by decide +kernel) rfl
theorem gw_752 : Jvm.Cond.selects "GraticulePress" ({ cls := "GraticulePress", name := "spelled", desc := "(III)C" } : Jvm.MethodName) ({ cls := "GraticulePress", name := "spelled", desc := "(III)C" } : Jvm.MethodName) ∈ gwA := gwA_at 752 (by decide +kernel) rfl
theorem gw_753 : Jvm.Cond.code ({ cls := "GraticulePress", name := "spelled", desc := "(III)C" } : Jvm.MethodName) prog_1_method_5_code (6 : Nat) (Option.some Jvm.ClassFile.FieldType.char) ∈ gwA := gwA_at 753 (by decide +kernel) rfl
theorem gw_756 : Jvm.Cond.methodLink "GraticulePress" (122 : Nat) ({ cls := "GraticulePress$Place", name := "wordOn", desc := "(I)Ljava/lang/String;" } : Jvm.MethodName) ∈ gwA := gwA_at 756 (by decide +kernel) rfl
theorem gw_757 : Jvm.Cond.methodLink "GraticulePress" (126 : Nat) ({ cls := "java/lang/String", name := "length", desc := "()I" } : Jvm.MethodName) ∈ gwA := gwA_at 757 (by decide +kernel) rfl
theorem gw_758 : Jvm.Cond.methodLink "GraticulePress" (129 : Nat) ({ cls := "java/lang/String", name := "charAt", desc := "(I)C" } : Jvm.MethodName) ∈ gwA := gwA_at 758 (by decide +kernel) rfl
theorem gw_762 : Jvm.Cond.methodLink "GraticulePressLaw" (31 : Nat) ({ cls := "GraticulePress", name := "pass", desc := "(I)I" } : Jvm.MethodName) ∈ gwA := gwA_at 762 (by decide +kernel) rfl
theorem gw_763 : Jvm.Cond.instanceMethod ({ cls := "GraticulePress", name := "pass", desc := "(I)I" } : Jvm.MethodName) ∈ gwA := gwA_at 763 (by decide +kernel) rfl
theorem gw_764 : Jvm.Cond.selects "GraticulePress" ({ cls := "GraticulePress", name := "pass", desc := "(I)I" } : Jvm.MethodName) ({ cls := "GraticulePress", name := "pass", desc := "(I)I" } : Jvm.MethodName) ∈ gwA := gwA_at 764 (by decide +kernel) rfl
theorem gw_765 : Jvm.Cond.code ({ cls := "GraticulePress", name := "pass", desc := "(I)I" } : Jvm.MethodName) prog_1_method_6_code (2 : Nat) (Option.some Jvm.ClassFile.FieldType.int) ∈ gwA := gwA_at 765 (by decide +kernel) rfl
theorem gw_771 : Jvm.Cond.methodLink "GraticulePressLaw" (34 : Nat) ({ cls := "GraticulePress", name := "sheet", desc := "(III)I" } : Jvm.MethodName) ∈ gwA := gwA_at 771 (by decide +kernel) rfl
theorem gw_772 : Jvm.Cond.instanceMethod ({ cls := "GraticulePress", name := "sheet", desc := "(III)I" } : Jvm.MethodName) ∈ gwA := gwA_at 772 (by decide +kernel) rfl
theorem gw_773 : Jvm.Cond.selects "GraticulePress" ({ cls := "GraticulePress", name := "sheet", desc := "(III)I" } : Jvm.MethodName) ({ cls := "GraticulePress", name := "sheet", desc := "(III)I" } : Jvm.MethodName) ∈ gwA := gwA_at 773 (by decide +kernel) rfl
theorem gw_774 : Jvm.Cond.code ({ cls := "GraticulePress", name := "sheet", desc := "(III)I" } : Jvm.MethodName) prog_1_method_7_code (6 : Nat) (Option.some Jvm.ClassFile.FieldType.int) ∈ gwA := gwA_at 774 (by decide +kernel) rfl
theorem gw_777 : Jvm.Cond.methodLink "GraticulePress" (141 : Nat) ({ cls := "GraticulePress$Sheet", name := "<init>", desc := "(III)V" } : Jvm.MethodName) ∈ gwA := gwA_at 777 (by decide +kernel) rfl
theorem gw_778 : Jvm.Cond.instanceMethod ({ cls := "GraticulePress$Sheet", name := "<init>", desc := "(III)V" } : Jvm.MethodName) ∈ gwA := gwA_at 778 (by decide +kernel) rfl
theorem gw_779 : Jvm.Cond.code ({ cls := "GraticulePress$Sheet", name := "<init>", desc := "(III)V" } : Jvm.MethodName) prog_5_method_1_code (4 : Nat) (Option.none : Option Jvm.ClassFile.FieldType) ∈ gwA := gwA_at 779 (by decide +kernel) rfl
theorem gw_780 : Jvm.Cond.methodLink "GraticulePress$Sheet" (3 : Nat) ({ cls := "java/lang/Object", name := "<init>", desc := "()V" } : Jvm.MethodName) ∈ gwA := gwA_at 780 (by decide +kernel) rfl
theorem gw_781 : Jvm.Cond.classLink "GraticulePress$Sheet" (21 : Nat) "GraticulePress$Grid" ∈ gwA := gwA_at 781 (by decide +kernel) rfl
theorem gw_782 : Jvm.Cond.instantiable "GraticulePress$Grid" (1 : Nat) ∈ gwA := gwA_at 782 (by decide +kernel) rfl
theorem gw_783 : Jvm.Cond.methodLink "GraticulePress$Sheet" (23 : Nat) ({ cls := "GraticulePress$Grid", name := "<init>", desc := "()V" } : Jvm.MethodName) ∈ gwA := gwA_at 783 (by decide +kernel) rfl
theorem gw_784 : Jvm.Cond.instanceMethod ({ cls := "GraticulePress$Grid", name := "<init>", desc := "()V" } : Jvm.MethodName) ∈ gwA := gwA_at 784 (by decide +kernel) rfl
theorem gw_785 : Jvm.Cond.code ({ cls := "GraticulePress$Grid", name := "<init>", desc := "()V" } : Jvm.MethodName) prog_3_method_1_code (1 : Nat) (Option.none : Option Jvm.ClassFile.FieldType) ∈ gwA := gwA_at 785 (by decide +kernel) rfl
theorem gw_786 : Jvm.Cond.methodLink "GraticulePress$Grid" (3 : Nat) ({ cls := "java/lang/Object", name := "<init>", desc := "()V" } : Jvm.MethodName) ∈ gwA := gwA_at 786 (by decide +kernel) rfl
theorem gw_787 : Jvm.Cond.fieldLink "GraticulePress$Grid" (9 : Nat) "GraticulePress$Grid" "signs" "[C" ∈ gwA := gwA_at 787 (by decide +kernel) rfl
theorem gw_791 : Jvm.Cond.arrayClass Jvm.ClassFile.FieldType.char ∈ gwA := gwA_at 791 (by decide +kernel) rfl
theorem gw_793 : Jvm.Cond.fieldLink "GraticulePress$Sheet" (24 : Nat) "GraticulePress$Sheet" "picture" "LGraticulePress$Grid;" ∈ gwA := gwA_at 793 (by decide +kernel) rfl
theorem gw_794 : Jvm.Cond.fieldLink "GraticulePress" (173 : Nat) "GraticulePress$Sheet" "picture" "LGraticulePress$Grid;" ∈ gwA := gwA_at 794 (by decide +kernel) rfl
theorem gw_795 : Jvm.Cond.fieldLink "GraticulePress$Sheet" (28 : Nat) "GraticulePress$Sheet" "trial" "LGraticulePress$Grid;" ∈ gwA := gwA_at 795 (by decide +kernel) rfl
theorem gw_796 : Jvm.Cond.fieldLink "GraticulePress$Sheet" (9 : Nat) "GraticulePress$Sheet" "length" "I" ∈ gwA := gwA_at 796 (by decide +kernel) rfl
theorem gw_797 : Jvm.Cond.fieldLink "GraticulePress$Sheet" (15 : Nat) "GraticulePress$Sheet" "breadth" "I" ∈ gwA := gwA_at 797 (by decide +kernel) rfl
theorem gw_798 : Jvm.Cond.fieldLink "GraticulePress$Sheet" (18 : Nat) "GraticulePress$Sheet" "kind" "I" ∈ gwA := gwA_at 798 (by decide +kernel) rfl
theorem gw_799 : Jvm.Cond.fieldLink "GraticulePress$Sheet" (33 : Nat) "GraticulePress$Sheet" "spots" "[LGraticulePress$Spot;" ∈ gwA := gwA_at 799 (by decide +kernel) rfl
theorem gw_800 : Jvm.Cond.fieldLink "GraticulePress$Sheet" (40 : Nat) "GraticulePress$Sheet" "spotCount" "I" ∈ gwA := gwA_at 800 (by decide +kernel) rfl
theorem gw_801 : Jvm.Cond.fieldLink "GraticulePress$Sheet" (37 : Nat) "GraticulePress$Sheet" "named" "[LGraticulePress$Spot;" ∈ gwA := gwA_at 801 (by decide +kernel) rfl
theorem gw_802 : Jvm.Cond.fieldLink "GraticulePress$Sheet" (43 : Nat) "GraticulePress$Sheet" "namedCount" "I" ∈ gwA := gwA_at 802 (by decide +kernel) rfl
theorem gw_826 : Jvm.Cond.methodLink "GraticulePressLaw" (37 : Nat) ({ cls := "GraticulePress", name := "dot", desc := "(IIZ)I" } : Jvm.MethodName) ∈ gwA := gwA_at 826 (by decide +kernel) rfl
theorem gw_827 : Jvm.Cond.instanceMethod ({ cls := "GraticulePress", name := "dot", desc := "(IIZ)I" } : Jvm.MethodName) ∈ gwA := gwA_at 827 (by decide +kernel) rfl
theorem gw_828 : Jvm.Cond.selects "GraticulePress" ({ cls := "GraticulePress", name := "dot", desc := "(IIZ)I" } : Jvm.MethodName) ({ cls := "GraticulePress", name := "dot", desc := "(IIZ)I" } : Jvm.MethodName) ∈ gwA := gwA_at 828 (by decide +kernel) rfl
theorem gw_829 : Jvm.Cond.code ({ cls := "GraticulePress", name := "dot", desc := "(IIZ)I" } : Jvm.MethodName) prog_1_method_8_code (5 : Nat) (Option.some Jvm.ClassFile.FieldType.int) ∈ gwA := gwA_at 829 (by decide +kernel) rfl
theorem gw_830 : Jvm.Cond.methodLink "GraticulePress" (148 : Nat) ({ cls := "GraticulePress", name := "spotOn", desc := "(II)LGraticulePress$Spot;" } : Jvm.MethodName) ∈ gwA := gwA_at 830 (by decide +kernel) rfl
theorem gw_832 : Jvm.Cond.instanceMethod ({ cls := "GraticulePress", name := "spotOn", desc := "(II)LGraticulePress$Spot;" } : Jvm.MethodName) ∈ gwA := gwA_at 832 (by decide +kernel) rfl
theorem gw_833 : Jvm.Cond.code ({ cls := "GraticulePress", name := "spotOn", desc := "(II)LGraticulePress$Spot;" } : Jvm.MethodName) prog_1_method_20_code (4 : Nat) (Option.some (Jvm.ClassFile.FieldType.object "GraticulePress$Spot")) ∈ gwA := gwA_at 833 (by decide +kernel) rfl
theorem gw_834 : Jvm.Cond.methodLink "GraticulePress" (163 : Nat) ({ cls := "GraticulePress", name := "sheetNumbered", desc := "(I)LGraticulePress$Sheet;" } : Jvm.MethodName) ∈ gwA := gwA_at 834 (by decide +kernel) rfl
theorem gw_836 : Jvm.Cond.instanceMethod ({ cls := "GraticulePress", name := "sheetNumbered", desc := "(I)LGraticulePress$Sheet;" } : Jvm.MethodName) ∈ gwA := gwA_at 836 (by decide +kernel) rfl
theorem gw_837 : Jvm.Cond.code ({ cls := "GraticulePress", name := "sheetNumbered", desc := "(I)LGraticulePress$Sheet;" } : Jvm.MethodName) prog_1_method_18_code (2 : Nat) (Option.some (Jvm.ClassFile.FieldType.object "GraticulePress$Sheet")) ∈ gwA := gwA_at 837 (by decide +kernel) rfl
theorem gw_839 : Jvm.Cond.methodLink "GraticulePress" (216 : Nat) ({ cls := "GraticulePress$Sheet", name := "spotOf", desc := "(I)LGraticulePress$Spot;" } : Jvm.MethodName) ∈ gwA := gwA_at 839 (by decide +kernel) rfl
theorem gw_840 : Jvm.Cond.instanceMethod ({ cls := "GraticulePress$Sheet", name := "spotOf", desc := "(I)LGraticulePress$Spot;" } : Jvm.MethodName) ∈ gwA := gwA_at 840 (by decide +kernel) rfl
theorem gw_841 : Jvm.Cond.selects "GraticulePress$Sheet" ({ cls := "GraticulePress$Sheet", name := "spotOf", desc := "(I)LGraticulePress$Spot;" } : Jvm.MethodName) ({ cls := "GraticulePress$Sheet", name := "spotOf", desc := "(I)LGraticulePress$Spot;" } : Jvm.MethodName) ∈ gwA := gwA_at 841 (by decide +kernel) rfl
theorem gw_842 : Jvm.Cond.code ({ cls := "GraticulePress$Sheet", name := "spotOf", desc := "(I)LGraticulePress$Spot;" } : Jvm.MethodName) prog_5_method_6_code (2 : Nat) (Option.some (Jvm.ClassFile.FieldType.object "GraticulePress$Spot")) ∈ gwA := gwA_at 842 (by decide +kernel) rfl
theorem gw_846 : Jvm.Cond.methodLink "GraticulePressLaw" (41 : Nat) ({ cls := "GraticulePress", name := "side", desc := "(II)I" } : Jvm.MethodName) ∈ gwA := gwA_at 846 (by decide +kernel) rfl
theorem gw_847 : Jvm.Cond.instanceMethod ({ cls := "GraticulePress", name := "side", desc := "(II)I" } : Jvm.MethodName) ∈ gwA := gwA_at 847 (by decide +kernel) rfl
theorem gw_848 : Jvm.Cond.selects "GraticulePress" ({ cls := "GraticulePress", name := "side", desc := "(II)I" } : Jvm.MethodName) ({ cls := "GraticulePress", name := "side", desc := "(II)I" } : Jvm.MethodName) ∈ gwA := gwA_at 848 (by decide +kernel) rfl
theorem gw_849 : Jvm.Cond.code ({ cls := "GraticulePress", name := "side", desc := "(II)I" } : Jvm.MethodName) prog_1_method_9_code (3 : Nat) (Option.some Jvm.ClassFile.FieldType.int) ∈ gwA := gwA_at 849 (by decide +kernel) rfl
theorem gw_853 : Jvm.Cond.methodLink "GraticulePressLaw" (45 : Nat) ({ cls := "GraticulePress", name := "drawn", desc := "(III)C" } : Jvm.MethodName) ∈ gwA := gwA_at 853 (by decide +kernel) rfl
theorem gw_854 : Jvm.Cond.instanceMethod ({ cls := "GraticulePress", name := "drawn", desc := "(III)C" } : Jvm.MethodName) ∈ gwA := gwA_at 854 (by decide +kernel) rfl
theorem gw_855 : Jvm.Cond.selects "GraticulePress" ({ cls := "GraticulePress", name := "drawn", desc := "(III)C" } : Jvm.MethodName) ({ cls := "GraticulePress", name := "drawn", desc := "(III)C" } : Jvm.MethodName) ∈ gwA := gwA_at 855 (by decide +kernel) rfl
theorem gw_856 : Jvm.Cond.code ({ cls := "GraticulePress", name := "drawn", desc := "(III)C" } : Jvm.MethodName) prog_1_method_10_code (5 : Nat) (Option.some Jvm.ClassFile.FieldType.char) ∈ gwA := gwA_at 856 (by decide +kernel) rfl
theorem gw_857 : Jvm.Cond.methodLink "GraticulePress" (167 : Nat) ({ cls := "GraticulePress", name := "isOnGrid", desc := "(II)Z" } : Jvm.MethodName) ∈ gwA := gwA_at 857 (by decide +kernel) rfl
theorem gw_859 : Jvm.Cond.methodLink "GraticulePress" (177 : Nat) ({ cls := "GraticulePress$Grid", name := "signAt", desc := "(II)C" } : Jvm.MethodName) ∈ gwA := gwA_at 859 (by decide +kernel) rfl
theorem gw_863 : Jvm.Cond.methodLink "GraticulePressLaw" (48 : Nat) ({ cls := "GraticulePress", name := "worth", desc := "(I)I" } : Jvm.MethodName) ∈ gwA := gwA_at 863 (by decide +kernel) rfl
theorem gw_864 : Jvm.Cond.instanceMethod ({ cls := "GraticulePress", name := "worth", desc := "(I)I" } : Jvm.MethodName) ∈ gwA := gwA_at 864 (by decide +kernel) rfl
theorem gw_865 : Jvm.Cond.selects "GraticulePress" ({ cls := "GraticulePress", name := "worth", desc := "(I)I" } : Jvm.MethodName) ({ cls := "GraticulePress", name := "worth", desc := "(I)I" } : Jvm.MethodName) ∈ gwA := gwA_at 865 (by decide +kernel) rfl
theorem gw_866 : Jvm.Cond.code ({ cls := "GraticulePress", name := "worth", desc := "(I)I" } : Jvm.MethodName) prog_1_method_11_code (2 : Nat) (Option.some Jvm.ClassFile.FieldType.int) ∈ gwA := gwA_at 866 (by decide +kernel) rfl
theorem gw_867 : Jvm.Cond.methodLink "GraticulePress" (183 : Nat) ({ cls := "GraticulePress$Sheet", name := "worthToday", desc := "()I" } : Jvm.MethodName) ∈ gwA := gwA_at 867 (by decide +kernel) rfl
theorem gw_868 : Jvm.Cond.instanceMethod ({ cls := "GraticulePress$Sheet", name := "worthToday", desc := "()I" } : Jvm.MethodName) ∈ gwA := gwA_at 868 (by decide +kernel) rfl
theorem gw_869 : Jvm.Cond.selects "GraticulePress$Sheet" ({ cls := "GraticulePress$Sheet", name := "worthToday", desc := "()I" } : Jvm.MethodName) ({ cls := "GraticulePress$Sheet", name := "worthToday", desc := "()I" } : Jvm.MethodName) ∈ gwA := gwA_at 869 (by decide +kernel) rfl
theorem gw_870 : Jvm.Cond.code ({ cls := "GraticulePress$Sheet", name := "worthToday", desc := "()I" } : Jvm.MethodName) prog_5_method_11_code (4 : Nat) (Option.some Jvm.ClassFile.FieldType.int) ∈ gwA := gwA_at 870 (by decide +kernel) rfl
theorem gw_874 : Jvm.Cond.methodLink "GraticulePressLaw" (51 : Nat) ({ cls := "GraticulePress", name := "best", desc := "(I)I" } : Jvm.MethodName) ∈ gwA := gwA_at 874 (by decide +kernel) rfl
theorem gw_875 : Jvm.Cond.instanceMethod ({ cls := "GraticulePress", name := "best", desc := "(I)I" } : Jvm.MethodName) ∈ gwA := gwA_at 875 (by decide +kernel) rfl
theorem gw_876 : Jvm.Cond.selects "GraticulePress" ({ cls := "GraticulePress", name := "best", desc := "(I)I" } : Jvm.MethodName) ({ cls := "GraticulePress", name := "best", desc := "(I)I" } : Jvm.MethodName) ∈ gwA := gwA_at 876 (by decide +kernel) rfl
theorem gw_877 : Jvm.Cond.code ({ cls := "GraticulePress", name := "best", desc := "(I)I" } : Jvm.MethodName) prog_1_method_12_code (3 : Nat) (Option.some Jvm.ClassFile.FieldType.int) ∈ gwA := gwA_at 877 (by decide +kernel) rfl
theorem gw_879 : Jvm.Cond.methodLink "GraticulePress" (191 : Nat) ({ cls := "GraticulePress$Sheet", name := "greatestWorth", desc := "()I" } : Jvm.MethodName) ∈ gwA := gwA_at 879 (by decide +kernel) rfl
theorem gw_880 : Jvm.Cond.instanceMethod ({ cls := "GraticulePress$Sheet", name := "greatestWorth", desc := "()I" } : Jvm.MethodName) ∈ gwA := gwA_at 880 (by decide +kernel) rfl
theorem gw_881 : Jvm.Cond.selects "GraticulePress$Sheet" ({ cls := "GraticulePress$Sheet", name := "greatestWorth", desc := "()I" } : Jvm.MethodName) ({ cls := "GraticulePress$Sheet", name := "greatestWorth", desc := "()I" } : Jvm.MethodName) ∈ gwA := gwA_at 881 (by decide +kernel) rfl
theorem gw_882 : Jvm.Cond.code ({ cls := "GraticulePress$Sheet", name := "greatestWorth", desc := "()I" } : Jvm.MethodName) prog_5_method_12_code (1 : Nat) (Option.some Jvm.ClassFile.FieldType.int) ∈ gwA := gwA_at 882 (by decide +kernel) rfl
theorem gw_883 : Jvm.Cond.methodLink "GraticulePress$Sheet" (116 : Nat) ({ cls := "GraticulePress$Sheet", name := "greatestFrom", desc := "([LGraticulePress$Spot;IILGraticulePress$Grid;)I" } : Jvm.MethodName) ∈ gwA := gwA_at 883 (by decide +kernel) rfl
theorem gw_884 : Jvm.Cond.static ({ cls := "GraticulePress$Sheet", name := "greatestFrom", desc := "([LGraticulePress$Spot;IILGraticulePress$Grid;)I" } : Jvm.MethodName) ∈ gwA := gwA_at 884 (by decide +kernel) rfl
theorem gw_885 : Jvm.Cond.code ({ cls := "GraticulePress$Sheet", name := "greatestFrom", desc := "([LGraticulePress$Spot;IILGraticulePress$Grid;)I" } : Jvm.MethodName) prog_5_method_13_code (9 : Nat) (Option.some Jvm.ClassFile.FieldType.int) ∈ gwA := gwA_at 885 (by decide +kernel) rfl
theorem gw_886 : Jvm.Cond.methodLink "GraticulePress$Sheet" (120 : Nat) ({ cls := "GraticulePress$Sheet", name := "ranksFrom", desc := "([LGraticulePress$Spot;II)I" } : Jvm.MethodName) ∈ gwA := gwA_at 886 (by decide +kernel) rfl
theorem gw_887 : Jvm.Cond.static ({ cls := "GraticulePress$Sheet", name := "ranksFrom", desc := "([LGraticulePress$Spot;II)I" } : Jvm.MethodName) ∈ gwA := gwA_at 887 (by decide +kernel) rfl
theorem gw_888 : Jvm.Cond.code ({ cls := "GraticulePress$Sheet", name := "ranksFrom", desc := "([LGraticulePress$Spot;II)I" } : Jvm.MethodName) prog_5_method_14_code (6 : Nat) (Option.some Jvm.ClassFile.FieldType.int) ∈ gwA := gwA_at 888 (by decide +kernel) rfl
theorem gw_889 : Jvm.Cond.methodLink "GraticulePress$Sheet" (132 : Nat) ({ cls := "java/lang/Math", name := "max", desc := "(II)I" } : Jvm.MethodName) ∈ gwA := gwA_at 889 (by decide +kernel) rfl
theorem gw_890 : Jvm.Cond.methodLink "GraticulePress$Sheet" (124 : Nat) ({ cls := "GraticulePress$Spot", name := "mayStand", desc := "(LGraticulePress$Grid;I)Z" } : Jvm.MethodName) ∈ gwA := gwA_at 890 (by decide +kernel) rfl
theorem gw_891 : Jvm.Cond.methodLink "GraticulePress$Sheet" (128 : Nat) ({ cls := "GraticulePress$Spot", name := "write", desc := "(LGraticulePress$Grid;I)V" } : Jvm.MethodName) ∈ gwA := gwA_at 891 (by decide +kernel) rfl
theorem gw_892 : Jvm.Cond.methodLink "GraticulePress$Sheet" (138 : Nat) ({ cls := "GraticulePress$Spot", name := "erase", desc := "(LGraticulePress$Grid;I)V" } : Jvm.MethodName) ∈ gwA := gwA_at 892 (by decide +kernel) rfl
theorem gw_893 : Jvm.Cond.instanceMethod ({ cls := "GraticulePress$Spot", name := "erase", desc := "(LGraticulePress$Grid;I)V" } : Jvm.MethodName) ∈ gwA := gwA_at 893 (by decide +kernel) rfl
theorem gw_894 : Jvm.Cond.selects "GraticulePress$Spot" ({ cls := "GraticulePress$Spot", name := "erase", desc := "(LGraticulePress$Grid;I)V" } : Jvm.MethodName) ({ cls := "GraticulePress$Spot", name := "erase", desc := "(LGraticulePress$Grid;I)V" } : Jvm.MethodName) ∈ gwA := gwA_at 894 (by decide +kernel) rfl
theorem gw_895 : Jvm.Cond.code ({ cls := "GraticulePress$Spot", name := "erase", desc := "(LGraticulePress$Grid;I)V" } : Jvm.MethodName) prog_7_method_10_code (4 : Nat) (Option.none : Option Jvm.ClassFile.FieldType) ∈ gwA := gwA_at 895 (by decide +kernel) rfl
theorem gw_896 : Jvm.Cond.methodLink "GraticulePress$Spot" (70 : Nat) ({ cls := "GraticulePress$Grid", name := "erase", desc := "(III)V" } : Jvm.MethodName) ∈ gwA := gwA_at 896 (by decide +kernel) rfl
theorem gw_897 : Jvm.Cond.instanceMethod ({ cls := "GraticulePress$Grid", name := "erase", desc := "(III)V" } : Jvm.MethodName) ∈ gwA := gwA_at 897 (by decide +kernel) rfl
theorem gw_898 : Jvm.Cond.selects "GraticulePress$Grid" ({ cls := "GraticulePress$Grid", name := "erase", desc := "(III)V" } : Jvm.MethodName) ({ cls := "GraticulePress$Grid", name := "erase", desc := "(III)V" } : Jvm.MethodName) ∈ gwA := gwA_at 898 (by decide +kernel) rfl
theorem gw_899 : Jvm.Cond.code ({ cls := "GraticulePress$Grid", name := "erase", desc := "(III)V" } : Jvm.MethodName) prog_3_method_7_code (5 : Nat) (Option.none : Option Jvm.ClassFile.FieldType) ∈ gwA := gwA_at 899 (by decide +kernel) rfl
theorem gw_903 : Jvm.Cond.methodLink "GraticulePressLaw" (54 : Nat) ({ cls := "GraticulePress", name := "print", desc := "()I" } : Jvm.MethodName) ∈ gwA := gwA_at 903 (by decide +kernel) rfl
theorem gw_904 : Jvm.Cond.instanceMethod ({ cls := "GraticulePress", name := "print", desc := "()I" } : Jvm.MethodName) ∈ gwA := gwA_at 904 (by decide +kernel) rfl
theorem gw_905 : Jvm.Cond.selects "GraticulePress" ({ cls := "GraticulePress", name := "print", desc := "()I" } : Jvm.MethodName) ({ cls := "GraticulePress", name := "print", desc := "()I" } : Jvm.MethodName) ∈ gwA := gwA_at 905 (by decide +kernel) rfl
theorem gw_906 : Jvm.Cond.code ({ cls := "GraticulePress", name := "print", desc := "()I" } : Jvm.MethodName) prog_1_method_13_code (4 : Nat) (Option.some Jvm.ClassFile.FieldType.int) ∈ gwA := gwA_at 906 (by decide +kernel) rfl
theorem gw_908 : Jvm.Cond.instantiable "GraticulePress$Edition" (1 : Nat) ∈ gwA := gwA_at 908 (by decide +kernel) rfl
theorem gw_909 : Jvm.Cond.methodLink "GraticulePress" (196 : Nat) ({ cls := "GraticulePress$Edition", name := "<init>", desc := "()V" } : Jvm.MethodName) ∈ gwA := gwA_at 909 (by decide +kernel) rfl
theorem gw_910 : Jvm.Cond.instanceMethod ({ cls := "GraticulePress$Edition", name := "<init>", desc := "()V" } : Jvm.MethodName) ∈ gwA := gwA_at 910 (by decide +kernel) rfl
theorem gw_911 : Jvm.Cond.code ({ cls := "GraticulePress$Edition", name := "<init>", desc := "()V" } : Jvm.MethodName) prog_2_method_1_code (1 : Nat) (Option.none : Option Jvm.ClassFile.FieldType) ∈ gwA := gwA_at 911 (by decide +kernel) rfl
theorem gw_912 : Jvm.Cond.methodLink "GraticulePress$Edition" (3 : Nat) ({ cls := "java/lang/Object", name := "<init>", desc := "()V" } : Jvm.MethodName) ∈ gwA := gwA_at 912 (by decide +kernel) rfl
theorem gw_913 : Jvm.Cond.classLink "GraticulePress$Edition" (9 : Nat) "GraticulePress$Grid" ∈ gwA := gwA_at 913 (by decide +kernel) rfl
theorem gw_915 : Jvm.Cond.fieldLink "GraticulePress$Edition" (11 : Nat) "GraticulePress$Edition" "pictures" "[LGraticulePress$Grid;" ∈ gwA := gwA_at 915 (by decide +kernel) rfl
theorem gw_919 : Jvm.Cond.methodLink "GraticulePress" (197 : Nat) ({ cls := "GraticulePress$Edition", name := "keep", desc := "(ILGraticulePress$Grid;)V" } : Jvm.MethodName) ∈ gwA := gwA_at 919 (by decide +kernel) rfl
theorem gw_920 : Jvm.Cond.instanceMethod ({ cls := "GraticulePress$Edition", name := "keep", desc := "(ILGraticulePress$Grid;)V" } : Jvm.MethodName) ∈ gwA := gwA_at 920 (by decide +kernel) rfl
theorem gw_921 : Jvm.Cond.selects "GraticulePress$Edition" ({ cls := "GraticulePress$Edition", name := "keep", desc := "(ILGraticulePress$Grid;)V" } : Jvm.MethodName) ({ cls := "GraticulePress$Edition", name := "keep", desc := "(ILGraticulePress$Grid;)V" } : Jvm.MethodName) ∈ gwA := gwA_at 921 (by decide +kernel) rfl
theorem gw_922 : Jvm.Cond.code ({ cls := "GraticulePress$Edition", name := "keep", desc := "(ILGraticulePress$Grid;)V" } : Jvm.MethodName) prog_2_method_2_code (4 : Nat) (Option.none : Option Jvm.ClassFile.FieldType) ∈ gwA := gwA_at 922 (by decide +kernel) rfl
theorem gw_923 : Jvm.Cond.methodLink "GraticulePress$Edition" (17 : Nat) ({ cls := "GraticulePress$Grid", name := "<init>", desc := "()V" } : Jvm.MethodName) ∈ gwA := gwA_at 923 (by decide +kernel) rfl
theorem gw_924 : Jvm.Cond.methodLink "GraticulePress$Edition" (18 : Nat) ({ cls := "GraticulePress$Grid", name := "copyFrom", desc := "(LGraticulePress$Grid;)V" } : Jvm.MethodName) ∈ gwA := gwA_at 924 (by decide +kernel) rfl
theorem gw_925 : Jvm.Cond.instanceMethod ({ cls := "GraticulePress$Grid", name := "copyFrom", desc := "(LGraticulePress$Grid;)V" } : Jvm.MethodName) ∈ gwA := gwA_at 925 (by decide +kernel) rfl
theorem gw_926 : Jvm.Cond.selects "GraticulePress$Grid" ({ cls := "GraticulePress$Grid", name := "copyFrom", desc := "(LGraticulePress$Grid;)V" } : Jvm.MethodName) ({ cls := "GraticulePress$Grid", name := "copyFrom", desc := "(LGraticulePress$Grid;)V" } : Jvm.MethodName) ∈ gwA := gwA_at 926 (by decide +kernel) rfl
theorem gw_927 : Jvm.Cond.code ({ cls := "GraticulePress$Grid", name := "copyFrom", desc := "(LGraticulePress$Grid;)V" } : Jvm.MethodName) prog_3_method_3_code (3 : Nat) (Option.none : Option Jvm.ClassFile.FieldType) ∈ gwA := gwA_at 927 (by decide +kernel) rfl
theorem gw_931 : Jvm.Cond.methodLink "GraticulePressLaw" (58 : Nat) ({ cls := "GraticulePress", name := "printed", desc := "(IIII)C" } : Jvm.MethodName) ∈ gwA := gwA_at 931 (by decide +kernel) rfl
theorem gw_932 : Jvm.Cond.instanceMethod ({ cls := "GraticulePress", name := "printed", desc := "(IIII)C" } : Jvm.MethodName) ∈ gwA := gwA_at 932 (by decide +kernel) rfl
theorem gw_933 : Jvm.Cond.selects "GraticulePress" ({ cls := "GraticulePress", name := "printed", desc := "(IIII)C" } : Jvm.MethodName) ({ cls := "GraticulePress", name := "printed", desc := "(IIII)C" } : Jvm.MethodName) ∈ gwA := gwA_at 933 (by decide +kernel) rfl
theorem gw_934 : Jvm.Cond.code ({ cls := "GraticulePress", name := "printed", desc := "(IIII)C" } : Jvm.MethodName) prog_1_method_14_code (6 : Nat) (Option.some Jvm.ClassFile.FieldType.char) ∈ gwA := gwA_at 934 (by decide +kernel) rfl
theorem gw_935 : Jvm.Cond.methodLink "GraticulePress" (201 : Nat) ({ cls := "GraticulePress", name := "editionNumbered", desc := "(I)LGraticulePress$Edition;" } : Jvm.MethodName) ∈ gwA := gwA_at 935 (by decide +kernel) rfl
theorem gw_937 : Jvm.Cond.instanceMethod ({ cls := "GraticulePress", name := "editionNumbered", desc := "(I)LGraticulePress$Edition;" } : Jvm.MethodName) ∈ gwA := gwA_at 937 (by decide +kernel) rfl
theorem gw_938 : Jvm.Cond.code ({ cls := "GraticulePress", name := "editionNumbered", desc := "(I)LGraticulePress$Edition;" } : Jvm.MethodName) prog_1_method_19_code (2 : Nat) (Option.some (Jvm.ClassFile.FieldType.object "GraticulePress$Edition")) ∈ gwA := gwA_at 938 (by decide +kernel) rfl
theorem gw_941 : Jvm.Cond.methodLink "GraticulePress" (207 : Nat) ({ cls := "GraticulePress$Edition", name := "signAt", desc := "(III)C" } : Jvm.MethodName) ∈ gwA := gwA_at 941 (by decide +kernel) rfl
theorem gw_942 : Jvm.Cond.instanceMethod ({ cls := "GraticulePress$Edition", name := "signAt", desc := "(III)C" } : Jvm.MethodName) ∈ gwA := gwA_at 942 (by decide +kernel) rfl
theorem gw_943 : Jvm.Cond.selects "GraticulePress$Edition" ({ cls := "GraticulePress$Edition", name := "signAt", desc := "(III)C" } : Jvm.MethodName) ({ cls := "GraticulePress$Edition", name := "signAt", desc := "(III)C" } : Jvm.MethodName) ∈ gwA := gwA_at 943 (by decide +kernel) rfl
theorem gw_944 : Jvm.Cond.code ({ cls := "GraticulePress$Edition", name := "signAt", desc := "(III)C" } : Jvm.MethodName) prog_2_method_3_code (4 : Nat) (Option.some Jvm.ClassFile.FieldType.char) ∈ gwA := gwA_at 944 (by decide +kernel) rfl
theorem gw_945 : Jvm.Cond.methodLink "GraticulePress$Edition" (22 : Nat) ({ cls := "GraticulePress$Grid", name := "signAt", desc := "(II)C" } : Jvm.MethodName) ∈ gwA := gwA_at 945 (by decide +kernel) rfl
theorem gw_946 : Jvm.Cond.classLink "GraticulePressLaw" (63 : Nat) "GraticulePressModel" ∈ gwA := gwA_at 946 (by decide +kernel) rfl
theorem gw_947 : Jvm.Cond.instantiable "GraticulePressModel" (28 : Nat) ∈ gwA := gwA_at 947 (by decide +kernel) rfl
theorem gw_948 : Jvm.Cond.methodLink "GraticulePressLaw" (65 : Nat) ({ cls := "GraticulePressModel", name := "<init>", desc := "()V" } : Jvm.MethodName) ∈ gwA := gwA_at 948 (by decide +kernel) rfl
theorem gw_949 : Jvm.Cond.instanceMethod ({ cls := "GraticulePressModel", name := "<init>", desc := "()V" } : Jvm.MethodName) ∈ gwA := gwA_at 949 (by decide +kernel) rfl
theorem gw_950 : Jvm.Cond.code ({ cls := "GraticulePressModel", name := "<init>", desc := "()V" } : Jvm.MethodName) prog_9_method_1_code (1 : Nat) (Option.none : Option Jvm.ClassFile.FieldType) ∈ gwA := gwA_at 950 (by decide +kernel) rfl
theorem gw_951 : Jvm.Cond.methodLink "GraticulePressModel" (1 : Nat) ({ cls := "java/lang/Object", name := "<init>", desc := "()V" } : Jvm.MethodName) ∈ gwA := gwA_at 951 (by decide +kernel) rfl
theorem gw_952 : Jvm.Cond.fieldLink "GraticulePressModel" (103 : Nat) "GraticulePressModel" "day" "I" ∈ gwA := gwA_at 952 (by decide +kernel) rfl
theorem gw_953 : Jvm.Cond.fieldLink "GraticulePressModel" (88 : Nat) "GraticulePressModel" "typed" "I" ∈ gwA := gwA_at 953 (by decide +kernel) rfl
theorem gw_954 : Jvm.Cond.fieldLink "GraticulePressModel" (7 : Nat) "GraticulePressModel" "word" "[C" ∈ gwA := gwA_at 954 (by decide +kernel) rfl
theorem gw_955 : Jvm.Cond.fieldLink "GraticulePressModel" (78 : Nat) "GraticulePressModel" "places" "I" ∈ gwA := gwA_at 955 (by decide +kernel) rfl
theorem gw_956 : Jvm.Cond.fieldLink "GraticulePressModel" (13 : Nat) "GraticulePressModel" "length" "[I" ∈ gwA := gwA_at 956 (by decide +kernel) rfl
theorem gw_957 : Jvm.Cond.fieldLink "GraticulePressModel" (17 : Nat) "GraticulePressModel" "breadth" "[I" ∈ gwA := gwA_at 957 (by decide +kernel) rfl
theorem gw_958 : Jvm.Cond.fieldLink "GraticulePressModel" (20 : Nat) "GraticulePressModel" "rank" "[I" ∈ gwA := gwA_at 958 (by decide +kernel) rfl
theorem gw_959 : Jvm.Cond.fieldLink "GraticulePressModel" (23 : Nat) "GraticulePressModel" "names" "[I" ∈ gwA := gwA_at 959 (by decide +kernel) rfl
theorem gw_960 : Jvm.Cond.fieldLink "GraticulePressModel" (26 : Nat) "GraticulePressModel" "since" "[I" ∈ gwA := gwA_at 960 (by decide +kernel) rfl
theorem gw_961 : Jvm.Cond.fieldLink "GraticulePressModel" (29 : Nat) "GraticulePressModel" "many" "[I" ∈ gwA := gwA_at 961 (by decide +kernel) rfl
theorem gw_962 : Jvm.Cond.fieldLink "GraticulePressModel" (32 : Nat) "GraticulePressModel" "letters" "[C" ∈ gwA := gwA_at 962 (by decide +kernel) rfl
theorem gw_963 : Jvm.Cond.fieldLink "GraticulePressModel" (85 : Nat) "GraticulePressModel" "sheets" "I" ∈ gwA := gwA_at 963 (by decide +kernel) rfl
theorem gw_964 : Jvm.Cond.fieldLink "GraticulePressModel" (35 : Nat) "GraticulePressModel" "fromLength" "[I" ∈ gwA := gwA_at 964 (by decide +kernel) rfl
theorem gw_965 : Jvm.Cond.fieldLink "GraticulePressModel" (38 : Nat) "GraticulePressModel" "fromBreadth" "[I" ∈ gwA := gwA_at 965 (by decide +kernel) rfl
theorem gw_966 : Jvm.Cond.fieldLink "GraticulePressModel" (41 : Nat) "GraticulePressModel" "kind" "[I" ∈ gwA := gwA_at 966 (by decide +kernel) rfl
theorem gw_967 : Jvm.Cond.fieldLink "GraticulePressModel" (44 : Nat) "GraticulePressModel" "column" "[I" ∈ gwA := gwA_at 967 (by decide +kernel) rfl
theorem gw_968 : Jvm.Cond.fieldLink "GraticulePressModel" (47 : Nat) "GraticulePressModel" "row" "[I" ∈ gwA := gwA_at 968 (by decide +kernel) rfl
theorem gw_969 : Jvm.Cond.fieldLink "GraticulePressModel" (50 : Nat) "GraticulePressModel" "side" "[I" ∈ gwA := gwA_at 969 (by decide +kernel) rfl
theorem gw_970 : Jvm.Cond.fieldLink "GraticulePressModel" (53 : Nat) "GraticulePressModel" "signs" "[C" ∈ gwA := gwA_at 970 (by decide +kernel) rfl
theorem gw_971 : Jvm.Cond.fieldLink "GraticulePressModel" (56 : Nat) "GraticulePressModel" "ahead" "[I" ∈ gwA := gwA_at 971 (by decide +kernel) rfl
theorem gw_972 : Jvm.Cond.fieldLink "GraticulePressModel" (151 : Nat) "GraticulePressModel" "toTry" "I" ∈ gwA := gwA_at 972 (by decide +kernel) rfl
theorem gw_973 : Jvm.Cond.fieldLink "GraticulePressModel" (59 : Nat) "GraticulePressModel" "tried" "[I" ∈ gwA := gwA_at 973 (by decide +kernel) rfl
theorem gw_974 : Jvm.Cond.fieldLink "GraticulePressModel" (164 : Nat) "GraticulePressModel" "editions" "I" ∈ gwA := gwA_at 974 (by decide +kernel) rfl
theorem gw_975 : Jvm.Cond.fieldLink "GraticulePressModel" (62 : Nat) "GraticulePressModel" "placesThen" "[I" ∈ gwA := gwA_at 975 (by decide +kernel) rfl
theorem gw_976 : Jvm.Cond.fieldLink "GraticulePressModel" (65 : Nat) "GraticulePressModel" "sheetsThen" "[I" ∈ gwA := gwA_at 976 (by decide +kernel) rfl
theorem gw_977 : Jvm.Cond.fieldLink "GraticulePressModel" (68 : Nat) "GraticulePressModel" "nameThen" "[I" ∈ gwA := gwA_at 977 (by decide +kernel) rfl
theorem gw_978 : Jvm.Cond.fieldLink "GraticulePressModel" (71 : Nat) "GraticulePressModel" "sideThen" "[I" ∈ gwA := gwA_at 978 (by decide +kernel) rfl
theorem gw_979 : Jvm.Cond.fieldLink "GraticulePressModel" (74 : Nat) "GraticulePressModel" "thrown" "I" ∈ gwA := gwA_at 979 (by decide +kernel) rfl
theorem gw_1037 : Jvm.Cond.arrayClass Jvm.ClassFile.FieldType.int ∈ gwA := gwA_at 1037 (by decide +kernel) rfl
theorem gw_1038 : Jvm.Cond.methodLink "GraticulePressLaw" (72 : Nat) ({ cls := "GraticulePressModel", name := "thrown", desc := "()I" } : Jvm.MethodName) ∈ gwA := gwA_at 1038 (by decide +kernel) rfl
theorem gw_1039 : Jvm.Cond.instanceMethod ({ cls := "GraticulePressModel", name := "thrown", desc := "()I" } : Jvm.MethodName) ∈ gwA := gwA_at 1039 (by decide +kernel) rfl
theorem gw_1040 : Jvm.Cond.selects "GraticulePressModel" ({ cls := "GraticulePressModel", name := "thrown", desc := "()I" } : Jvm.MethodName) ({ cls := "GraticulePressModel", name := "thrown", desc := "()I" } : Jvm.MethodName) ∈ gwA := gwA_at 1040 (by decide +kernel) rfl
theorem gw_1041 : Jvm.Cond.code ({ cls := "GraticulePressModel", name := "thrown", desc := "()I" } : Jvm.MethodName) prog_9_method_2_code (1 : Nat) (Option.some Jvm.ClassFile.FieldType.int) ∈ gwA := gwA_at 1041 (by decide +kernel) rfl
theorem gw_1042 : Jvm.Cond.methodLink "GraticulePressLaw" (71 : Nat) ({ cls := "GraticulePressModel", name := "letter", desc := "(C)I" } : Jvm.MethodName) ∈ gwA := gwA_at 1042 (by decide +kernel) rfl
theorem gw_1043 : Jvm.Cond.instanceMethod ({ cls := "GraticulePressModel", name := "letter", desc := "(C)I" } : Jvm.MethodName) ∈ gwA := gwA_at 1043 (by decide +kernel) rfl
theorem gw_1044 : Jvm.Cond.selects "GraticulePressModel" ({ cls := "GraticulePressModel", name := "letter", desc := "(C)I" } : Jvm.MethodName) ({ cls := "GraticulePressModel", name := "letter", desc := "(C)I" } : Jvm.MethodName) ∈ gwA := gwA_at 1044 (by decide +kernel) rfl
theorem gw_1045 : Jvm.Cond.code ({ cls := "GraticulePressModel", name := "letter", desc := "(C)I" } : Jvm.MethodName) prog_9_method_7_code (2 : Nat) (Option.some Jvm.ClassFile.FieldType.int) ∈ gwA := gwA_at 1045 (by decide +kernel) rfl
theorem gw_1046 : Jvm.Cond.methodLink "GraticulePressModel" (81 : Nat) ({ cls := "GraticulePressModel", name := "in", desc := "(III)Z" } : Jvm.MethodName) ∈ gwA := gwA_at 1046 (by decide +kernel) rfl
theorem gw_1047 : Jvm.Cond.static ({ cls := "GraticulePressModel", name := "in", desc := "(III)Z" } : Jvm.MethodName) ∈ gwA := gwA_at 1047 (by decide +kernel) rfl
theorem gw_1048 : Jvm.Cond.code ({ cls := "GraticulePressModel", name := "in", desc := "(III)Z" } : Jvm.MethodName) prog_9_method_3_code (3 : Nat) (Option.some Jvm.ClassFile.FieldType.boolean) ∈ gwA := gwA_at 1048 (by decide +kernel) rfl
theorem gw_1049 : Jvm.Cond.methodLink "GraticulePressModel" (91 : Nat) ({ cls := "GraticulePressModel", name := "goes", desc := "(ZZZ)Z" } : Jvm.MethodName) ∈ gwA := gwA_at 1049 (by decide +kernel) rfl
theorem gw_1051 : Jvm.Cond.instanceMethod ({ cls := "GraticulePressModel", name := "goes", desc := "(ZZZ)Z" } : Jvm.MethodName) ∈ gwA := gwA_at 1051 (by decide +kernel) rfl
theorem gw_1052 : Jvm.Cond.code ({ cls := "GraticulePressModel", name := "goes", desc := "(ZZZ)Z" } : Jvm.MethodName) prog_9_method_4_code (4 : Nat) (Option.some Jvm.ClassFile.FieldType.boolean) ∈ gwA := gwA_at 1052 (by decide +kernel) rfl
theorem gw_1053 : Jvm.Cond.methodLink "GraticulePressLaw" (78 : Nat) ({ cls := "GraticulePressModel", name := "place", desc := "(III)I" } : Jvm.MethodName) ∈ gwA := gwA_at 1053 (by decide +kernel) rfl
theorem gw_1054 : Jvm.Cond.instanceMethod ({ cls := "GraticulePressModel", name := "place", desc := "(III)I" } : Jvm.MethodName) ∈ gwA := gwA_at 1054 (by decide +kernel) rfl
theorem gw_1055 : Jvm.Cond.selects "GraticulePressModel" ({ cls := "GraticulePressModel", name := "place", desc := "(III)I" } : Jvm.MethodName) ({ cls := "GraticulePressModel", name := "place", desc := "(III)I" } : Jvm.MethodName) ∈ gwA := gwA_at 1055 (by decide +kernel) rfl
theorem gw_1056 : Jvm.Cond.code ({ cls := "GraticulePressModel", name := "place", desc := "(III)I" } : Jvm.MethodName) prog_9_method_8_code (4 : Nat) (Option.some Jvm.ClassFile.FieldType.int) ∈ gwA := gwA_at 1056 (by decide +kernel) rfl
theorem gw_1057 : Jvm.Cond.methodLink "GraticulePressLaw" (82 : Nat) ({ cls := "GraticulePressModel", name := "name", desc := "(I)I" } : Jvm.MethodName) ∈ gwA := gwA_at 1057 (by decide +kernel) rfl
theorem gw_1058 : Jvm.Cond.instanceMethod ({ cls := "GraticulePressModel", name := "name", desc := "(I)I" } : Jvm.MethodName) ∈ gwA := gwA_at 1058 (by decide +kernel) rfl
theorem gw_1059 : Jvm.Cond.selects "GraticulePressModel" ({ cls := "GraticulePressModel", name := "name", desc := "(I)I" } : Jvm.MethodName) ({ cls := "GraticulePressModel", name := "name", desc := "(I)I" } : Jvm.MethodName) ∈ gwA := gwA_at 1059 (by decide +kernel) rfl
theorem gw_1060 : Jvm.Cond.code ({ cls := "GraticulePressModel", name := "name", desc := "(I)I" } : Jvm.MethodName) prog_9_method_10_code (7 : Nat) (Option.some Jvm.ClassFile.FieldType.int) ∈ gwA := gwA_at 1060 (by decide +kernel) rfl
theorem gw_1061 : Jvm.Cond.methodLink "GraticulePressModel" (95 : Nat) ({ cls := "GraticulePressModel", name := "isPlace", desc := "(I)Z" } : Jvm.MethodName) ∈ gwA := gwA_at 1061 (by decide +kernel) rfl
theorem gw_1063 : Jvm.Cond.instanceMethod ({ cls := "GraticulePressModel", name := "isPlace", desc := "(I)Z" } : Jvm.MethodName) ∈ gwA := gwA_at 1063 (by decide +kernel) rfl
theorem gw_1064 : Jvm.Cond.code ({ cls := "GraticulePressModel", name := "isPlace", desc := "(I)Z" } : Jvm.MethodName) prog_9_method_5_code (2 : Nat) (Option.some Jvm.ClassFile.FieldType.boolean) ∈ gwA := gwA_at 1064 (by decide +kernel) rfl
theorem gw_1065 : Jvm.Cond.methodLink "GraticulePressModel" (99 : Nat) ({ cls := "GraticulePressModel", name := "lays", desc := "(I)V" } : Jvm.MethodName) ∈ gwA := gwA_at 1065 (by decide +kernel) rfl
theorem gw_1067 : Jvm.Cond.instanceMethod ({ cls := "GraticulePressModel", name := "lays", desc := "(I)V" } : Jvm.MethodName) ∈ gwA := gwA_at 1067 (by decide +kernel) rfl
theorem gw_1068 : Jvm.Cond.code ({ cls := "GraticulePressModel", name := "lays", desc := "(I)V" } : Jvm.MethodName) prog_9_method_24_code (6 : Nat) (Option.none : Option Jvm.ClassFile.FieldType) ∈ gwA := gwA_at 1068 (by decide +kernel) rfl
theorem gw_1069 : Jvm.Cond.methodLink "GraticulePressModel" (131 : Nat) ({ cls := "GraticulePressModel", name := "dots", desc := "(II)V" } : Jvm.MethodName) ∈ gwA := gwA_at 1069 (by decide +kernel) rfl
theorem gw_1071 : Jvm.Cond.instanceMethod ({ cls := "GraticulePressModel", name := "dots", desc := "(II)V" } : Jvm.MethodName) ∈ gwA := gwA_at 1071 (by decide +kernel) rfl
theorem gw_1072 : Jvm.Cond.code ({ cls := "GraticulePressModel", name := "dots", desc := "(II)V" } : Jvm.MethodName) prog_9_method_17_code (4 : Nat) (Option.none : Option Jvm.ClassFile.FieldType) ∈ gwA := gwA_at 1072 (by decide +kernel) rfl
theorem gw_1073 : Jvm.Cond.methodLink "GraticulePressModel" (114 : Nat) ({ cls := "GraticulePressModel", name := "isOn", desc := "(II)Z" } : Jvm.MethodName) ∈ gwA := gwA_at 1073 (by decide +kernel) rfl
theorem gw_1075 : Jvm.Cond.instanceMethod ({ cls := "GraticulePressModel", name := "isOn", desc := "(II)Z" } : Jvm.MethodName) ∈ gwA := gwA_at 1075 (by decide +kernel) rfl
theorem gw_1076 : Jvm.Cond.code ({ cls := "GraticulePressModel", name := "isOn", desc := "(II)Z" } : Jvm.MethodName) prog_9_method_14_code (3 : Nat) (Option.some Jvm.ClassFile.FieldType.boolean) ∈ gwA := gwA_at 1076 (by decide +kernel) rfl
theorem gw_1077 : Jvm.Cond.methodLink "GraticulePressModel" (118 : Nat) ({ cls := "GraticulePressModel", name := "columnOf", desc := "(II)I" } : Jvm.MethodName) ∈ gwA := gwA_at 1077 (by decide +kernel) rfl
theorem gw_1079 : Jvm.Cond.instanceMethod ({ cls := "GraticulePressModel", name := "columnOf", desc := "(II)I" } : Jvm.MethodName) ∈ gwA := gwA_at 1079 (by decide +kernel) rfl
theorem gw_1080 : Jvm.Cond.code ({ cls := "GraticulePressModel", name := "columnOf", desc := "(II)I" } : Jvm.MethodName) prog_9_method_15_code (6 : Nat) (Option.some Jvm.ClassFile.FieldType.int) ∈ gwA := gwA_at 1080 (by decide +kernel) rfl
theorem gw_1081 : Jvm.Cond.constantFloat "GraticulePressModel" (110 : Nat) (1017370378 : UInt32) ∈ gwA := gwA_at 1081 (by decide +kernel) rfl
theorem gw_1082 : Jvm.Cond.constantFloat "GraticulePressModel" (111 : Nat) (1082130432 : UInt32) ∈ gwA := gwA_at 1082 (by decide +kernel) rfl
theorem gw_1083 : Jvm.Cond.constantFloat "GraticulePressModel" (112 : Nat) (1077936128 : UInt32) ∈ gwA := gwA_at 1083 (by decide +kernel) rfl
theorem gw_1084 : Jvm.Cond.constantFloat "GraticulePressModel" (113 : Nat) (1101004800 : UInt32) ∈ gwA := gwA_at 1084 (by decide +kernel) rfl
theorem gw_1085 : Jvm.Cond.methodLink "GraticulePressModel" (121 : Nat) ({ cls := "GraticulePressModel", name := "rowOf", desc := "(II)I" } : Jvm.MethodName) ∈ gwA := gwA_at 1085 (by decide +kernel) rfl
theorem gw_1087 : Jvm.Cond.instanceMethod ({ cls := "GraticulePressModel", name := "rowOf", desc := "(II)I" } : Jvm.MethodName) ∈ gwA := gwA_at 1087 (by decide +kernel) rfl
theorem gw_1088 : Jvm.Cond.code ({ cls := "GraticulePressModel", name := "rowOf", desc := "(II)I" } : Jvm.MethodName) prog_9_method_16_code (3 : Nat) (Option.some Jvm.ClassFile.FieldType.int) ∈ gwA := gwA_at 1088 (by decide +kernel) rfl
theorem gw_1089 : Jvm.Cond.methodLink "GraticulePressModel" (135 : Nat) ({ cls := "GraticulePressModel", name := "hasName", desc := "(I)Z" } : Jvm.MethodName) ∈ gwA := gwA_at 1089 (by decide +kernel) rfl
theorem gw_1091 : Jvm.Cond.instanceMethod ({ cls := "GraticulePressModel", name := "hasName", desc := "(I)Z" } : Jvm.MethodName) ∈ gwA := gwA_at 1091 (by decide +kernel) rfl
theorem gw_1092 : Jvm.Cond.code ({ cls := "GraticulePressModel", name := "hasName", desc := "(I)Z" } : Jvm.MethodName) prog_9_method_23_code (2 : Nat) (Option.some Jvm.ClassFile.FieldType.boolean) ∈ gwA := gwA_at 1092 (by decide +kernel) rfl
theorem gw_1093 : Jvm.Cond.methodLink "GraticulePressModel" (106 : Nat) ({ cls := "GraticulePressModel", name := "nameOn", desc := "(II)I" } : Jvm.MethodName) ∈ gwA := gwA_at 1093 (by decide +kernel) rfl
theorem gw_1095 : Jvm.Cond.instanceMethod ({ cls := "GraticulePressModel", name := "nameOn", desc := "(II)I" } : Jvm.MethodName) ∈ gwA := gwA_at 1095 (by decide +kernel) rfl
theorem gw_1096 : Jvm.Cond.code ({ cls := "GraticulePressModel", name := "nameOn", desc := "(II)I" } : Jvm.MethodName) prog_9_method_9_code (5 : Nat) (Option.some Jvm.ClassFile.FieldType.int) ∈ gwA := gwA_at 1096 (by decide +kernel) rfl
theorem gw_1097 : Jvm.Cond.methodLink "GraticulePressModel" (138 : Nat) ({ cls := "GraticulePressModel", name := "mayStand", desc := "(III)Z" } : Jvm.MethodName) ∈ gwA := gwA_at 1097 (by decide +kernel) rfl
theorem gw_1099 : Jvm.Cond.instanceMethod ({ cls := "GraticulePressModel", name := "mayStand", desc := "(III)Z" } : Jvm.MethodName) ∈ gwA := gwA_at 1099 (by decide +kernel) rfl
theorem gw_1100 : Jvm.Cond.code ({ cls := "GraticulePressModel", name := "mayStand", desc := "(III)Z" } : Jvm.MethodName) prog_9_method_20_code (8 : Nat) (Option.some Jvm.ClassFile.FieldType.boolean) ∈ gwA := gwA_at 1100 (by decide +kernel) rfl
theorem gw_1101 : Jvm.Cond.methodLink "GraticulePressModel" (124 : Nat) ({ cls := "GraticulePressModel", name := "rowAt", desc := "(II)I" } : Jvm.MethodName) ∈ gwA := gwA_at 1101 (by decide +kernel) rfl
theorem gw_1102 : Jvm.Cond.static ({ cls := "GraticulePressModel", name := "rowAt", desc := "(II)I" } : Jvm.MethodName) ∈ gwA := gwA_at 1102 (by decide +kernel) rfl
theorem gw_1103 : Jvm.Cond.code ({ cls := "GraticulePressModel", name := "rowAt", desc := "(II)I" } : Jvm.MethodName) prog_9_method_18_code (2 : Nat) (Option.some Jvm.ClassFile.FieldType.int) ∈ gwA := gwA_at 1103 (by decide +kernel) rfl
theorem gw_1104 : Jvm.Cond.methodLink "GraticulePressModel" (127 : Nat) ({ cls := "GraticulePressModel", name := "columnAt", desc := "(III)I" } : Jvm.MethodName) ∈ gwA := gwA_at 1104 (by decide +kernel) rfl
theorem gw_1105 : Jvm.Cond.static ({ cls := "GraticulePressModel", name := "columnAt", desc := "(III)I" } : Jvm.MethodName) ∈ gwA := gwA_at 1105 (by decide +kernel) rfl
theorem gw_1106 : Jvm.Cond.code ({ cls := "GraticulePressModel", name := "columnAt", desc := "(III)I" } : Jvm.MethodName) prog_9_method_19_code (3 : Nat) (Option.some Jvm.ClassFile.FieldType.int) ∈ gwA := gwA_at 1106 (by decide +kernel) rfl
theorem gw_1107 : Jvm.Cond.methodLink "GraticulePressModel" (141 : Nat) ({ cls := "GraticulePressModel", name := "puts", desc := "(III)V" } : Jvm.MethodName) ∈ gwA := gwA_at 1107 (by decide +kernel) rfl
theorem gw_1109 : Jvm.Cond.instanceMethod ({ cls := "GraticulePressModel", name := "puts", desc := "(III)V" } : Jvm.MethodName) ∈ gwA := gwA_at 1109 (by decide +kernel) rfl
theorem gw_1110 : Jvm.Cond.code ({ cls := "GraticulePressModel", name := "puts", desc := "(III)V" } : Jvm.MethodName) prog_9_method_21_code (7 : Nat) (Option.none : Option Jvm.ClassFile.FieldType) ∈ gwA := gwA_at 1110 (by decide +kernel) rfl
theorem gw_1111 : Jvm.Cond.methodLink "GraticulePressLaw" (85 : Nat) ({ cls := "GraticulePressModel", name := "spelled", desc := "(III)C" } : Jvm.MethodName) ∈ gwA := gwA_at 1111 (by decide +kernel) rfl
theorem gw_1112 : Jvm.Cond.instanceMethod ({ cls := "GraticulePressModel", name := "spelled", desc := "(III)C" } : Jvm.MethodName) ∈ gwA := gwA_at 1112 (by decide +kernel) rfl
theorem gw_1113 : Jvm.Cond.selects "GraticulePressModel" ({ cls := "GraticulePressModel", name := "spelled", desc := "(III)C" } : Jvm.MethodName) ({ cls := "GraticulePressModel", name := "spelled", desc := "(III)C" } : Jvm.MethodName) ∈ gwA := gwA_at 1113 (by decide +kernel) rfl
theorem gw_1114 : Jvm.Cond.code ({ cls := "GraticulePressModel", name := "spelled", desc := "(III)C" } : Jvm.MethodName) prog_9_method_11_code (5 : Nat) (Option.some Jvm.ClassFile.FieldType.char) ∈ gwA := gwA_at 1114 (by decide +kernel) rfl
theorem gw_1115 : Jvm.Cond.methodLink "GraticulePressLaw" (88 : Nat) ({ cls := "GraticulePressModel", name := "pass", desc := "(I)I" } : Jvm.MethodName) ∈ gwA := gwA_at 1115 (by decide +kernel) rfl
theorem gw_1116 : Jvm.Cond.instanceMethod ({ cls := "GraticulePressModel", name := "pass", desc := "(I)I" } : Jvm.MethodName) ∈ gwA := gwA_at 1116 (by decide +kernel) rfl
theorem gw_1117 : Jvm.Cond.selects "GraticulePressModel" ({ cls := "GraticulePressModel", name := "pass", desc := "(I)I" } : Jvm.MethodName) ({ cls := "GraticulePressModel", name := "pass", desc := "(I)I" } : Jvm.MethodName) ∈ gwA := gwA_at 1117 (by decide +kernel) rfl
theorem gw_1118 : Jvm.Cond.code ({ cls := "GraticulePressModel", name := "pass", desc := "(I)I" } : Jvm.MethodName) prog_9_method_12_code (2 : Nat) (Option.some Jvm.ClassFile.FieldType.int) ∈ gwA := gwA_at 1118 (by decide +kernel) rfl
theorem gw_1119 : Jvm.Cond.methodLink "GraticulePressLaw" (91 : Nat) ({ cls := "GraticulePressModel", name := "sheet", desc := "(III)I" } : Jvm.MethodName) ∈ gwA := gwA_at 1119 (by decide +kernel) rfl
theorem gw_1120 : Jvm.Cond.instanceMethod ({ cls := "GraticulePressModel", name := "sheet", desc := "(III)I" } : Jvm.MethodName) ∈ gwA := gwA_at 1120 (by decide +kernel) rfl
theorem gw_1121 : Jvm.Cond.selects "GraticulePressModel" ({ cls := "GraticulePressModel", name := "sheet", desc := "(III)I" } : Jvm.MethodName) ({ cls := "GraticulePressModel", name := "sheet", desc := "(III)I" } : Jvm.MethodName) ∈ gwA := gwA_at 1121 (by decide +kernel) rfl
theorem gw_1122 : Jvm.Cond.code ({ cls := "GraticulePressModel", name := "sheet", desc := "(III)I" } : Jvm.MethodName) prog_9_method_13_code (4 : Nat) (Option.some Jvm.ClassFile.FieldType.int) ∈ gwA := gwA_at 1122 (by decide +kernel) rfl
theorem gw_1123 : Jvm.Cond.methodLink "GraticulePressLaw" (95 : Nat) ({ cls := "GraticulePressModel", name := "dot", desc := "(IIZ)I" } : Jvm.MethodName) ∈ gwA := gwA_at 1123 (by decide +kernel) rfl
theorem gw_1124 : Jvm.Cond.instanceMethod ({ cls := "GraticulePressModel", name := "dot", desc := "(IIZ)I" } : Jvm.MethodName) ∈ gwA := gwA_at 1124 (by decide +kernel) rfl
theorem gw_1125 : Jvm.Cond.selects "GraticulePressModel" ({ cls := "GraticulePressModel", name := "dot", desc := "(IIZ)I" } : Jvm.MethodName) ({ cls := "GraticulePressModel", name := "dot", desc := "(IIZ)I" } : Jvm.MethodName) ∈ gwA := gwA_at 1125 (by decide +kernel) rfl
theorem gw_1126 : Jvm.Cond.code ({ cls := "GraticulePressModel", name := "dot", desc := "(IIZ)I" } : Jvm.MethodName) prog_9_method_25_code (4 : Nat) (Option.some Jvm.ClassFile.FieldType.int) ∈ gwA := gwA_at 1126 (by decide +kernel) rfl
theorem gw_1127 : Jvm.Cond.methodLink "GraticulePressModel" (145 : Nat) ({ cls := "GraticulePressModel", name := "isSheet", desc := "(I)Z" } : Jvm.MethodName) ∈ gwA := gwA_at 1127 (by decide +kernel) rfl
theorem gw_1129 : Jvm.Cond.instanceMethod ({ cls := "GraticulePressModel", name := "isSheet", desc := "(I)Z" } : Jvm.MethodName) ∈ gwA := gwA_at 1129 (by decide +kernel) rfl
theorem gw_1130 : Jvm.Cond.code ({ cls := "GraticulePressModel", name := "isSheet", desc := "(I)Z" } : Jvm.MethodName) prog_9_method_6_code (2 : Nat) (Option.some Jvm.ClassFile.FieldType.boolean) ∈ gwA := gwA_at 1130 (by decide +kernel) rfl
theorem gw_1131 : Jvm.Cond.methodLink "GraticulePressLaw" (99 : Nat) ({ cls := "GraticulePressModel", name := "side", desc := "(II)I" } : Jvm.MethodName) ∈ gwA := gwA_at 1131 (by decide +kernel) rfl
theorem gw_1132 : Jvm.Cond.instanceMethod ({ cls := "GraticulePressModel", name := "side", desc := "(II)I" } : Jvm.MethodName) ∈ gwA := gwA_at 1132 (by decide +kernel) rfl
theorem gw_1133 : Jvm.Cond.selects "GraticulePressModel" ({ cls := "GraticulePressModel", name := "side", desc := "(II)I" } : Jvm.MethodName) ({ cls := "GraticulePressModel", name := "side", desc := "(II)I" } : Jvm.MethodName) ∈ gwA := gwA_at 1133 (by decide +kernel) rfl
theorem gw_1134 : Jvm.Cond.code ({ cls := "GraticulePressModel", name := "side", desc := "(II)I" } : Jvm.MethodName) prog_9_method_26_code (3 : Nat) (Option.some Jvm.ClassFile.FieldType.int) ∈ gwA := gwA_at 1134 (by decide +kernel) rfl
theorem gw_1135 : Jvm.Cond.methodLink "GraticulePressLaw" (102 : Nat) ({ cls := "GraticulePressModel", name := "drawn", desc := "(III)C" } : Jvm.MethodName) ∈ gwA := gwA_at 1135 (by decide +kernel) rfl
theorem gw_1136 : Jvm.Cond.instanceMethod ({ cls := "GraticulePressModel", name := "drawn", desc := "(III)C" } : Jvm.MethodName) ∈ gwA := gwA_at 1136 (by decide +kernel) rfl
theorem gw_1137 : Jvm.Cond.selects "GraticulePressModel" ({ cls := "GraticulePressModel", name := "drawn", desc := "(III)C" } : Jvm.MethodName) ({ cls := "GraticulePressModel", name := "drawn", desc := "(III)C" } : Jvm.MethodName) ∈ gwA := gwA_at 1137 (by decide +kernel) rfl
theorem gw_1138 : Jvm.Cond.code ({ cls := "GraticulePressModel", name := "drawn", desc := "(III)C" } : Jvm.MethodName) prog_9_method_28_code (4 : Nat) (Option.some Jvm.ClassFile.FieldType.char) ∈ gwA := gwA_at 1138 (by decide +kernel) rfl
theorem gw_1139 : Jvm.Cond.methodLink "GraticulePressModel" (148 : Nat) ({ cls := "GraticulePressModel", name := "isCell", desc := "(II)Z" } : Jvm.MethodName) ∈ gwA := gwA_at 1139 (by decide +kernel) rfl
theorem gw_1140 : Jvm.Cond.static ({ cls := "GraticulePressModel", name := "isCell", desc := "(II)Z" } : Jvm.MethodName) ∈ gwA := gwA_at 1140 (by decide +kernel) rfl
theorem gw_1141 : Jvm.Cond.code ({ cls := "GraticulePressModel", name := "isCell", desc := "(II)Z" } : Jvm.MethodName) prog_9_method_27_code (2 : Nat) (Option.some Jvm.ClassFile.FieldType.boolean) ∈ gwA := gwA_at 1141 (by decide +kernel) rfl
theorem gw_1142 : Jvm.Cond.methodLink "GraticulePressLaw" (105 : Nat) ({ cls := "GraticulePressModel", name := "worth", desc := "(I)I" } : Jvm.MethodName) ∈ gwA := gwA_at 1142 (by decide +kernel) rfl
theorem gw_1143 : Jvm.Cond.instanceMethod ({ cls := "GraticulePressModel", name := "worth", desc := "(I)I" } : Jvm.MethodName) ∈ gwA := gwA_at 1143 (by decide +kernel) rfl
theorem gw_1144 : Jvm.Cond.selects "GraticulePressModel" ({ cls := "GraticulePressModel", name := "worth", desc := "(I)I" } : Jvm.MethodName) ({ cls := "GraticulePressModel", name := "worth", desc := "(I)I" } : Jvm.MethodName) ∈ gwA := gwA_at 1144 (by decide +kernel) rfl
theorem gw_1145 : Jvm.Cond.code ({ cls := "GraticulePressModel", name := "worth", desc := "(I)I" } : Jvm.MethodName) prog_9_method_29_code (4 : Nat) (Option.some Jvm.ClassFile.FieldType.int) ∈ gwA := gwA_at 1145 (by decide +kernel) rfl
theorem gw_1146 : Jvm.Cond.methodLink "GraticulePressLaw" (108 : Nat) ({ cls := "GraticulePressModel", name := "best", desc := "(I)I" } : Jvm.MethodName) ∈ gwA := gwA_at 1146 (by decide +kernel) rfl
theorem gw_1147 : Jvm.Cond.instanceMethod ({ cls := "GraticulePressModel", name := "best", desc := "(I)I" } : Jvm.MethodName) ∈ gwA := gwA_at 1147 (by decide +kernel) rfl
theorem gw_1148 : Jvm.Cond.selects "GraticulePressModel" ({ cls := "GraticulePressModel", name := "best", desc := "(I)I" } : Jvm.MethodName) ({ cls := "GraticulePressModel", name := "best", desc := "(I)I" } : Jvm.MethodName) ∈ gwA := gwA_at 1148 (by decide +kernel) rfl
theorem gw_1149 : Jvm.Cond.code ({ cls := "GraticulePressModel", name := "best", desc := "(I)I" } : Jvm.MethodName) prog_9_method_32_code (6 : Nat) (Option.some Jvm.ClassFile.FieldType.int) ∈ gwA := gwA_at 1149 (by decide +kernel) rfl
theorem gw_1150 : Jvm.Cond.methodLink "GraticulePressModel" (157 : Nat) ({ cls := "GraticulePressModel", name := "canTry", desc := "(I)Z" } : Jvm.MethodName) ∈ gwA := gwA_at 1150 (by decide +kernel) rfl
theorem gw_1152 : Jvm.Cond.instanceMethod ({ cls := "GraticulePressModel", name := "canTry", desc := "(I)Z" } : Jvm.MethodName) ∈ gwA := gwA_at 1152 (by decide +kernel) rfl
theorem gw_1153 : Jvm.Cond.code ({ cls := "GraticulePressModel", name := "canTry", desc := "(I)Z" } : Jvm.MethodName) prog_9_method_30_code (4 : Nat) (Option.some Jvm.ClassFile.FieldType.boolean) ∈ gwA := gwA_at 1153 (by decide +kernel) rfl
theorem gw_1154 : Jvm.Cond.methodLink "GraticulePressModel" (160 : Nat) ({ cls := "GraticulePressModel", name := "worthOf", desc := "(I)I" } : Jvm.MethodName) ∈ gwA := gwA_at 1154 (by decide +kernel) rfl
theorem gw_1156 : Jvm.Cond.instanceMethod ({ cls := "GraticulePressModel", name := "worthOf", desc := "(I)I" } : Jvm.MethodName) ∈ gwA := gwA_at 1156 (by decide +kernel) rfl
theorem gw_1157 : Jvm.Cond.code ({ cls := "GraticulePressModel", name := "worthOf", desc := "(I)I" } : Jvm.MethodName) prog_9_method_31_code (8 : Nat) (Option.some Jvm.ClassFile.FieldType.int) ∈ gwA := gwA_at 1157 (by decide +kernel) rfl
theorem gw_1158 : Jvm.Cond.methodLink "GraticulePressModel" (154 : Nat) ({ cls := "GraticulePressModel", name := "takes", desc := "(III)V" } : Jvm.MethodName) ∈ gwA := gwA_at 1158 (by decide +kernel) rfl
theorem gw_1160 : Jvm.Cond.instanceMethod ({ cls := "GraticulePressModel", name := "takes", desc := "(III)V" } : Jvm.MethodName) ∈ gwA := gwA_at 1160 (by decide +kernel) rfl
theorem gw_1161 : Jvm.Cond.code ({ cls := "GraticulePressModel", name := "takes", desc := "(III)V" } : Jvm.MethodName) prog_9_method_22_code (7 : Nat) (Option.none : Option Jvm.ClassFile.FieldType) ∈ gwA := gwA_at 1161 (by decide +kernel) rfl
theorem gw_1162 : Jvm.Cond.methodLink "GraticulePressLaw" (112 : Nat) ({ cls := "GraticulePressModel", name := "print", desc := "()I" } : Jvm.MethodName) ∈ gwA := gwA_at 1162 (by decide +kernel) rfl
theorem gw_1163 : Jvm.Cond.instanceMethod ({ cls := "GraticulePressModel", name := "print", desc := "()I" } : Jvm.MethodName) ∈ gwA := gwA_at 1163 (by decide +kernel) rfl
theorem gw_1164 : Jvm.Cond.selects "GraticulePressModel" ({ cls := "GraticulePressModel", name := "print", desc := "()I" } : Jvm.MethodName) ({ cls := "GraticulePressModel", name := "print", desc := "()I" } : Jvm.MethodName) ∈ gwA := gwA_at 1164 (by decide +kernel) rfl
theorem gw_1165 : Jvm.Cond.code ({ cls := "GraticulePressModel", name := "print", desc := "()I" } : Jvm.MethodName) prog_9_method_33_code (3 : Nat) (Option.some Jvm.ClassFile.FieldType.int) ∈ gwA := gwA_at 1165 (by decide +kernel) rfl
theorem gw_1166 : Jvm.Cond.methodLink "GraticulePressLaw" (116 : Nat) ({ cls := "GraticulePressModel", name := "printed", desc := "(IIII)C" } : Jvm.MethodName) ∈ gwA := gwA_at 1166 (by decide +kernel) rfl
theorem gw_1167 : Jvm.Cond.instanceMethod ({ cls := "GraticulePressModel", name := "printed", desc := "(IIII)C" } : Jvm.MethodName) ∈ gwA := gwA_at 1167 (by decide +kernel) rfl
theorem gw_1168 : Jvm.Cond.selects "GraticulePressModel" ({ cls := "GraticulePressModel", name := "printed", desc := "(IIII)C" } : Jvm.MethodName) ({ cls := "GraticulePressModel", name := "printed", desc := "(IIII)C" } : Jvm.MethodName) ∈ gwA := gwA_at 1168 (by decide +kernel) rfl
theorem gw_1169 : Jvm.Cond.code ({ cls := "GraticulePressModel", name := "printed", desc := "(IIII)C" } : Jvm.MethodName) prog_9_method_34_code (7 : Nat) (Option.some Jvm.ClassFile.FieldType.char) ∈ gwA := gwA_at 1169 (by decide +kernel) rfl
theorem gw_1170 : Jvm.Cond.arrayClass Jvm.ClassFile.FieldType.long ∈ gwA := gwA_at 1170 (by decide +kernel) rfl
theorem gwu_0 : ∀ w ∈ u_ws RJ0 TJ0 4, w ∈ gwA := gwA_all (by decide +kernel)
theorem gwu_1 : ∀ w ∈ u_ws RJ4 TJ4 4, w ∈ gwA := gwA_all (by decide +kernel)
theorem gwu_2 : ∀ w ∈ u_ws RJx00060 TJx00060 6, w ∈ gwA := gwA_all (by decide +kernel)
theorem gwu_3 : ∀ w ∈ u_ws RJx7c733 TJx7c733 6, w ∈ gwA := gwA_all (by decide +kernel)
theorem gwu_4 : ∀ w ∈ u_ws RX0 TX0 1, w ∈ gwA := gwA_all (by decide +kernel)
theorem gwu_5 : ∀ w ∈ u_ws RX1 TX1 1, w ∈ gwA := gwA_all (by decide +kernel)
theorem gwu_6 : ∀ w ∈ u_ws RX2 TX2 5, w ∈ gwA := gwA_all (by decide +kernel)
theorem gwu_7 : ∀ w ∈ u_ws RX3 TX3 9, w ∈ gwA := gwA_all (by decide +kernel)
theorem gwu_8 : ∀ w ∈ u_ws RX4 TX4 2, w ∈ gwA := gwA_all (by decide +kernel)
theorem gwu_9 : ∀ w ∈ u_ws RX5 TX5 7, w ∈ gwA := gwA_all (by decide +kernel)
theorem gwu_10 : ∀ w ∈ u_ws RX6 TX6 8, w ∈ gwA := gwA_all (by decide +kernel)
theorem gwu_11 : ∀ w ∈ u_ws RX7 TX7 28, w ∈ gwA := gwA_all (by decide +kernel)
theorem gf_RJ5_15 : gFd RJ5 15 1 0 := ⟨RJ4, TJ4, 4, rfl, gwu_1, by decide, gw_54⟩
theorem gp_RJ5_15 : gFw RJ5 15 1 0 false (tyJ4 0) := ⟨RJ4, TJ4, 4, rfl, gwu_1, by decide, gw_54, ⟨tyJ4, tyJ4_ok, rfl⟩, nmJ4, rfl, fun h => by cases h⟩
theorem gf_RJ5_22 : gFd RJ5 22 1 1 := ⟨RJ4, TJ4, 4, rfl, gwu_1, by decide, gw_55⟩
theorem gp_RJ5_22 : gFw RJ5 22 1 1 false (tyJ4 1) := ⟨RJ4, TJ4, 4, rfl, gwu_1, by decide, gw_55, ⟨tyJ4, tyJ4_ok, rfl⟩, nmJ4, rfl, fun h => by cases h⟩
theorem gf_RJ5_73 : gFd RJ5 73 1 2 := ⟨RJ4, TJ4, 4, rfl, gwu_1, by decide, gw_56⟩
theorem gp_RJ5_73 : gFw RJ5 73 1 2 false (tyJ4 2) := ⟨RJ4, TJ4, 4, rfl, gwu_1, by decide, gw_56, ⟨tyJ4, tyJ4_ok, rfl⟩, nmJ4, rfl, fun h => by cases h⟩
theorem gf_RJ0_1048 : gFd RJ0 1048 1 2 := ⟨RJ4, TJ4, 4, rfl, gwu_1, by decide, gw_57⟩
theorem gp_RJ0_1048 : gFw RJ0 1048 1 2 false (tyJ4 2) := ⟨RJ4, TJ4, 4, rfl, gwu_1, by decide, gw_57, ⟨tyJ4, tyJ4_ok, rfl⟩, nmJ4, rfl, fun h => by cases h⟩
theorem gf_RJ5_79 : gFd RJ5 79 1 3 := ⟨RJ4, TJ4, 4, rfl, gwu_1, by decide, gw_58⟩
theorem gp_RJ5_79 : gFw RJ5 79 1 3 false (tyJ4 3) := ⟨RJ4, TJ4, 4, rfl, gwu_1, by decide, gw_58, ⟨tyJ4, tyJ4_ok, rfl⟩, nmJ4, rfl, fun h => by cases h⟩
theorem gf_RX6_10 : gFd RX6 10 10 0 := ⟨RX6, TX6, 8, rfl, gwu_10, by decide, gw_75⟩
theorem gp_RX6_10 : gFw RX6 10 10 0 true (tyX6 0) := ⟨RX6, TX6, 8, rfl, gwu_10, by decide, gw_75, ⟨tyX6, tyX6_ok, rfl⟩, nmX6, rfl, fun _ => rfl⟩
theorem gf_RX6_18 : gFd RX6 18 10 1 := ⟨RX6, TX6, 8, rfl, gwu_10, by decide, gw_76⟩
theorem gp_RX6_18 : gFw RX6 18 10 1 true (tyX6 1) := ⟨RX6, TX6, 8, rfl, gwu_10, by decide, gw_76, ⟨tyX6, tyX6_ok, rfl⟩, nmX6, rfl, fun _ => rfl⟩
theorem gf_RX6_24 : gFd RX6 24 10 2 := ⟨RX6, TX6, 8, rfl, gwu_10, by decide, gw_77⟩
theorem gp_RX6_24 : gFw RX6 24 10 2 true (tyX6 2) := ⟨RX6, TX6, 8, rfl, gwu_10, by decide, gw_77, ⟨tyX6, tyX6_ok, rfl⟩, nmX6, rfl, fun _ => rfl⟩
theorem gf_RX6_30 : gFd RX6 30 10 3 := ⟨RX6, TX6, 8, rfl, gwu_10, by decide, gw_78⟩
theorem gp_RX6_30 : gFw RX6 30 10 3 true (tyX6 3) := ⟨RX6, TX6, 8, rfl, gwu_10, by decide, gw_78, ⟨tyX6, tyX6_ok, rfl⟩, nmX6, rfl, fun _ => rfl⟩
theorem gf_RX6_34 : gFd RX6 34 10 4 := ⟨RX6, TX6, 8, rfl, gwu_10, by decide, gw_79⟩
theorem gp_RX6_34 : gFw RX6 34 10 4 false (tyX6 4) := ⟨RX6, TX6, 8, rfl, gwu_10, by decide, gw_79, ⟨tyX6, tyX6_ok, rfl⟩, nmX6, rfl, fun h => by cases h⟩
theorem gf_RX6_38 : gFd RX6 38 10 5 := ⟨RX6, TX6, 8, rfl, gwu_10, by decide, gw_80⟩
theorem gp_RX6_38 : gFw RX6 38 10 5 false (tyX6 5) := ⟨RX6, TX6, 8, rfl, gwu_10, by decide, gw_80, ⟨tyX6, tyX6_ok, rfl⟩, nmX6, rfl, fun h => by cases h⟩
theorem gf_RX6_41 : gFd RX6 41 10 6 := ⟨RX6, TX6, 8, rfl, gwu_10, by decide, gw_81⟩
theorem gp_RX6_41 : gFw RX6 41 10 6 false (tyX6 6) := ⟨RX6, TX6, 8, rfl, gwu_10, by decide, gw_81, ⟨tyX6, tyX6_ok, rfl⟩, nmX6, rfl, fun h => by cases h⟩
theorem gf_RX6_44 : gFd RX6 44 10 7 := ⟨RX6, TX6, 8, rfl, gwu_10, by decide, gw_82⟩
theorem gp_RX6_44 : gFw RX6 44 10 7 false (tyX6 7) := ⟨RX6, TX6, 8, rfl, gwu_10, by decide, gw_82, ⟨tyX6, tyX6_ok, rfl⟩, nmX6, rfl, fun h => by cases h⟩
theorem gf_RX2_9 : gFd RX2 9 6 0 := ⟨RX2, TX2, 5, rfl, gwu_6, by decide, gw_315⟩
theorem gp_RX2_9 : gFw RX2 9 6 0 true (tyX2 0) := ⟨RX2, TX2, 5, rfl, gwu_6, by decide, gw_315, ⟨tyX2, tyX2_ok, rfl⟩, nmX2, rfl, fun _ => rfl⟩
theorem gf_RX3_60 : gFd RX3 60 6 0 := ⟨RX2, TX2, 5, rfl, gwu_6, by decide, gw_316⟩
theorem gf_RX2_15 : gFd RX2 15 6 1 := ⟨RX2, TX2, 5, rfl, gwu_6, by decide, gw_317⟩
theorem gp_RX2_15 : gFw RX2 15 6 1 true (tyX2 1) := ⟨RX2, TX2, 5, rfl, gwu_6, by decide, gw_317, ⟨tyX2, tyX2_ok, rfl⟩, nmX2, rfl, fun _ => rfl⟩
theorem gf_RX3_67 : gFd RX3 67 6 1 := ⟨RX2, TX2, 5, rfl, gwu_6, by decide, gw_318⟩
theorem gf_RX5_15 : gFd RX5 15 6 2 := ⟨RX2, TX2, 5, rfl, gwu_6, by decide, gw_319⟩
theorem gf_RX2_18 : gFd RX2 18 6 2 := ⟨RX2, TX2, 5, rfl, gwu_6, by decide, gw_320⟩
theorem gp_RX2_18 : gFw RX2 18 6 2 true (tyX2 2) := ⟨RX2, TX2, 5, rfl, gwu_6, by decide, gw_320, ⟨tyX2, tyX2_ok, rfl⟩, nmX2, rfl, fun _ => rfl⟩
theorem gf_RX2_23 : gFd RX2 23 6 3 := ⟨RX2, TX2, 5, rfl, gwu_6, by decide, gw_321⟩
theorem gp_RX2_23 : gFw RX2 23 6 3 true (tyX2 3) := ⟨RX2, TX2, 5, rfl, gwu_6, by decide, gw_321, ⟨tyX2, tyX2_ok, rfl⟩, nmX2, rfl, fun _ => rfl⟩
theorem gf_RX2_27 : gFd RX2 27 6 4 := ⟨RX2, TX2, 5, rfl, gwu_6, by decide, gw_322⟩
theorem gp_RX2_27 : gFw RX2 27 6 4 false (tyX2 4) := ⟨RX2, TX2, 5, rfl, gwu_6, by decide, gw_322, ⟨tyX2, tyX2_ok, rfl⟩, nmX2, rfl, fun h => by cases h⟩
theorem gf_RX5_21 : gFd RX5 21 9 0 := ⟨RX5, TX5, 7, rfl, gwu_9, by decide, gw_367⟩
theorem gp_RX5_21 : gFw RX5 21 9 0 true (tyX5 0) := ⟨RX5, TX5, 7, rfl, gwu_9, by decide, gw_367, ⟨tyX5, tyX5_ok, rfl⟩, nmX5, rfl, fun _ => rfl⟩
theorem gf_RX3_87 : gFd RX3 87 9 0 := ⟨RX5, TX5, 7, rfl, gwu_9, by decide, gw_368⟩
theorem gf_RX5_22 : gFd RX5 22 9 1 := ⟨RX5, TX5, 7, rfl, gwu_9, by decide, gw_369⟩
theorem gp_RX5_22 : gFw RX5 22 9 1 true (tyX5 1) := ⟨RX5, TX5, 7, rfl, gwu_9, by decide, gw_369, ⟨tyX5, tyX5_ok, rfl⟩, nmX5, rfl, fun _ => rfl⟩
theorem gf_RX6_157 : gFd RX6 157 9 1 := ⟨RX5, TX5, 7, rfl, gwu_9, by decide, gw_370⟩
theorem gf_RX3_103 : gFd RX3 103 9 1 := ⟨RX5, TX5, 7, rfl, gwu_9, by decide, gw_371⟩
theorem gf_RX5_25 : gFd RX5 25 9 2 := ⟨RX5, TX5, 7, rfl, gwu_9, by decide, gw_372⟩
theorem gp_RX5_25 : gFw RX5 25 9 2 true (tyX5 2) := ⟨RX5, TX5, 7, rfl, gwu_9, by decide, gw_372, ⟨tyX5, tyX5_ok, rfl⟩, nmX5, rfl, fun _ => rfl⟩
theorem gf_RX6_152 : gFd RX6 152 9 2 := ⟨RX5, TX5, 7, rfl, gwu_9, by decide, gw_373⟩
theorem gf_RX3_100 : gFd RX3 100 9 2 := ⟨RX5, TX5, 7, rfl, gwu_9, by decide, gw_374⟩
theorem gf_RX5_9 : gFd RX5 9 9 3 := ⟨RX5, TX5, 7, rfl, gwu_9, by decide, gw_375⟩
theorem gp_RX5_9 : gFw RX5 9 9 3 true (tyX5 3) := ⟨RX5, TX5, 7, rfl, gwu_9, by decide, gw_375, ⟨tyX5, tyX5_ok, rfl⟩, nmX5, rfl, fun _ => rfl⟩
theorem gf_RX5_28 : gFd RX5 28 9 4 := ⟨RX5, TX5, 7, rfl, gwu_9, by decide, gw_376⟩
theorem gp_RX5_28 : gFw RX5 28 9 4 false (tyX5 4) := ⟨RX5, TX5, 7, rfl, gwu_9, by decide, gw_376, ⟨tyX5, tyX5_ok, rfl⟩, nmX5, rfl, fun h => by cases h⟩
theorem gf_RX5_32 : gFd RX5 32 9 5 := ⟨RX5, TX5, 7, rfl, gwu_9, by decide, gw_377⟩
theorem gp_RX5_32 : gFw RX5 32 9 5 false (tyX5 5) := ⟨RX5, TX5, 7, rfl, gwu_9, by decide, gw_377, ⟨tyX5, tyX5_ok, rfl⟩, nmX5, rfl, fun h => by cases h⟩
theorem gf_RX5_35 : gFd RX5 35 9 6 := ⟨RX5, TX5, 7, rfl, gwu_9, by decide, gw_380⟩
theorem gp_RX5_35 : gFw RX5 35 9 6 false (tyX5 6) := ⟨RX5, TX5, 7, rfl, gwu_9, by decide, gw_380, ⟨tyX5, tyX5_ok, rfl⟩, nmX5, rfl, fun h => by cases h⟩
theorem gf_RJ0_9 : gFd RJ0 9 0 0 := ⟨RJ0, TJ0, 4, rfl, gwu_0, by decide, gw_642⟩
theorem gp_RJ0_9 : gFw RJ0 9 0 0 true (tyJ0 0) := ⟨RJ0, TJ0, 4, rfl, gwu_0, by decide, gw_642, ⟨tyJ0, tyJ0_ok, rfl⟩, nmJ0, rfl, fun _ => rfl⟩
theorem gf_RJ0_15 : gFd RJ0 15 0 1 := ⟨RJ0, TJ0, 4, rfl, gwu_0, by decide, gw_643⟩
theorem gp_RJ0_15 : gFw RJ0 15 0 1 true (tyJ0 1) := ⟨RJ0, TJ0, 4, rfl, gwu_0, by decide, gw_643, ⟨tyJ0, tyJ0_ok, rfl⟩, nmJ0, rfl, fun _ => rfl⟩
theorem gf_RX4_7 : gFd RX4 7 8 0 := ⟨RX4, TX4, 2, rfl, gwu_8, by decide, gw_657⟩
theorem gp_RX4_7 : gFw RX4 7 8 0 true (tyX4 0) := ⟨RX4, TX4, 2, rfl, gwu_8, by decide, gw_657, ⟨tyX4, tyX4_ok, rfl⟩, nmX4, rfl, fun _ => rfl⟩
theorem gf_RX2_30 : gFd RX2 30 8 0 := ⟨RX4, TX4, 2, rfl, gwu_8, by decide, gw_658⟩
theorem gf_RX4_13 : gFd RX4 13 8 1 := ⟨RX4, TX4, 2, rfl, gwu_8, by decide, gw_659⟩
theorem gp_RX4_13 : gFw RX4 13 8 1 true (tyX4 1) := ⟨RX4, TX4, 2, rfl, gwu_8, by decide, gw_659, ⟨tyX4, tyX4_ok, rfl⟩, nmX4, rfl, fun _ => rfl⟩
theorem gf_RX2_33 : gFd RX2 33 8 1 := ⟨RX4, TX4, 2, rfl, gwu_8, by decide, gw_660⟩
theorem gf_RX1_9 : gFd RX1 9 5 0 := ⟨RX1, TX1, 1, rfl, gwu_5, by decide, gw_787⟩
theorem gp_RX1_9 : gFw RX1 9 5 0 true (tyX1 0) := ⟨RX1, TX1, 1, rfl, gwu_5, by decide, gw_787, ⟨tyX1, tyX1_ok, rfl⟩, nmX1, rfl, fun _ => rfl⟩
theorem gf_RX3_24 : gFd RX3 24 7 0 := ⟨RX3, TX3, 9, rfl, gwu_7, by decide, gw_793⟩
theorem gp_RX3_24 : gFw RX3 24 7 0 true (tyX3 0) := ⟨RX3, TX3, 9, rfl, gwu_7, by decide, gw_793, ⟨tyX3, tyX3_ok, rfl⟩, nmX3, rfl, fun _ => rfl⟩
theorem gf_RX6_173 : gFd RX6 173 7 0 := ⟨RX3, TX3, 9, rfl, gwu_7, by decide, gw_794⟩
theorem gf_RX3_28 : gFd RX3 28 7 1 := ⟨RX3, TX3, 9, rfl, gwu_7, by decide, gw_795⟩
theorem gp_RX3_28 : gFw RX3 28 7 1 true (tyX3 1) := ⟨RX3, TX3, 9, rfl, gwu_7, by decide, gw_795, ⟨tyX3, tyX3_ok, rfl⟩, nmX3, rfl, fun _ => rfl⟩
theorem gf_RX3_9 : gFd RX3 9 7 2 := ⟨RX3, TX3, 9, rfl, gwu_7, by decide, gw_796⟩
theorem gp_RX3_9 : gFw RX3 9 7 2 true (tyX3 2) := ⟨RX3, TX3, 9, rfl, gwu_7, by decide, gw_796, ⟨tyX3, tyX3_ok, rfl⟩, nmX3, rfl, fun _ => rfl⟩
theorem gf_RX3_15 : gFd RX3 15 7 3 := ⟨RX3, TX3, 9, rfl, gwu_7, by decide, gw_797⟩
theorem gp_RX3_15 : gFw RX3 15 7 3 true (tyX3 3) := ⟨RX3, TX3, 9, rfl, gwu_7, by decide, gw_797, ⟨tyX3, tyX3_ok, rfl⟩, nmX3, rfl, fun _ => rfl⟩
theorem gf_RX3_18 : gFd RX3 18 7 4 := ⟨RX3, TX3, 9, rfl, gwu_7, by decide, gw_798⟩
theorem gp_RX3_18 : gFw RX3 18 7 4 true (tyX3 4) := ⟨RX3, TX3, 9, rfl, gwu_7, by decide, gw_798, ⟨tyX3, tyX3_ok, rfl⟩, nmX3, rfl, fun _ => rfl⟩
theorem gf_RX3_33 : gFd RX3 33 7 5 := ⟨RX3, TX3, 9, rfl, gwu_7, by decide, gw_799⟩
theorem gp_RX3_33 : gFw RX3 33 7 5 true (tyX3 5) := ⟨RX3, TX3, 9, rfl, gwu_7, by decide, gw_799, ⟨tyX3, tyX3_ok, rfl⟩, nmX3, rfl, fun _ => rfl⟩
theorem gf_RX3_40 : gFd RX3 40 7 6 := ⟨RX3, TX3, 9, rfl, gwu_7, by decide, gw_800⟩
theorem gp_RX3_40 : gFw RX3 40 7 6 false (tyX3 6) := ⟨RX3, TX3, 9, rfl, gwu_7, by decide, gw_800, ⟨tyX3, tyX3_ok, rfl⟩, nmX3, rfl, fun h => by cases h⟩
theorem gf_RX3_37 : gFd RX3 37 7 7 := ⟨RX3, TX3, 9, rfl, gwu_7, by decide, gw_801⟩
theorem gp_RX3_37 : gFw RX3 37 7 7 true (tyX3 7) := ⟨RX3, TX3, 9, rfl, gwu_7, by decide, gw_801, ⟨tyX3, tyX3_ok, rfl⟩, nmX3, rfl, fun _ => rfl⟩
theorem gf_RX3_43 : gFd RX3 43 7 8 := ⟨RX3, TX3, 9, rfl, gwu_7, by decide, gw_802⟩
theorem gp_RX3_43 : gFw RX3 43 7 8 false (tyX3 8) := ⟨RX3, TX3, 9, rfl, gwu_7, by decide, gw_802, ⟨tyX3, tyX3_ok, rfl⟩, nmX3, rfl, fun h => by cases h⟩
theorem gf_RX0_11 : gFd RX0 11 4 0 := ⟨RX0, TX0, 1, rfl, gwu_4, by decide, gw_915⟩
theorem gp_RX0_11 : gFw RX0 11 4 0 true (tyX0 0) := ⟨RX0, TX0, 1, rfl, gwu_4, by decide, gw_915, ⟨tyX0, tyX0_ok, rfl⟩, nmX0, rfl, fun _ => rfl⟩
theorem gf_RX7_103 : gFd RX7 103 11 0 := ⟨RX7, TX7, 28, rfl, gwu_11, by decide, gw_952⟩
theorem gp_RX7_103 : gFw RX7 103 11 0 false (tyX7 0) := ⟨RX7, TX7, 28, rfl, gwu_11, by decide, gw_952, ⟨tyX7, tyX7_ok, rfl⟩, nmX7, rfl, fun h => by cases h⟩
theorem gf_RX7_88 : gFd RX7 88 11 1 := ⟨RX7, TX7, 28, rfl, gwu_11, by decide, gw_953⟩
theorem gp_RX7_88 : gFw RX7 88 11 1 false (tyX7 1) := ⟨RX7, TX7, 28, rfl, gwu_11, by decide, gw_953, ⟨tyX7, tyX7_ok, rfl⟩, nmX7, rfl, fun h => by cases h⟩
theorem gf_RX7_7 : gFd RX7 7 11 2 := ⟨RX7, TX7, 28, rfl, gwu_11, by decide, gw_954⟩
theorem gp_RX7_7 : gFw RX7 7 11 2 true (tyX7 2) := ⟨RX7, TX7, 28, rfl, gwu_11, by decide, gw_954, ⟨tyX7, tyX7_ok, rfl⟩, nmX7, rfl, fun _ => rfl⟩
theorem gf_RX7_78 : gFd RX7 78 11 3 := ⟨RX7, TX7, 28, rfl, gwu_11, by decide, gw_955⟩
theorem gp_RX7_78 : gFw RX7 78 11 3 false (tyX7 3) := ⟨RX7, TX7, 28, rfl, gwu_11, by decide, gw_955, ⟨tyX7, tyX7_ok, rfl⟩, nmX7, rfl, fun h => by cases h⟩
theorem gf_RX7_13 : gFd RX7 13 11 4 := ⟨RX7, TX7, 28, rfl, gwu_11, by decide, gw_956⟩
theorem gp_RX7_13 : gFw RX7 13 11 4 true (tyX7 4) := ⟨RX7, TX7, 28, rfl, gwu_11, by decide, gw_956, ⟨tyX7, tyX7_ok, rfl⟩, nmX7, rfl, fun _ => rfl⟩
theorem gf_RX7_17 : gFd RX7 17 11 5 := ⟨RX7, TX7, 28, rfl, gwu_11, by decide, gw_957⟩
theorem gp_RX7_17 : gFw RX7 17 11 5 true (tyX7 5) := ⟨RX7, TX7, 28, rfl, gwu_11, by decide, gw_957, ⟨tyX7, tyX7_ok, rfl⟩, nmX7, rfl, fun _ => rfl⟩
theorem gf_RX7_20 : gFd RX7 20 11 6 := ⟨RX7, TX7, 28, rfl, gwu_11, by decide, gw_958⟩
theorem gp_RX7_20 : gFw RX7 20 11 6 true (tyX7 6) := ⟨RX7, TX7, 28, rfl, gwu_11, by decide, gw_958, ⟨tyX7, tyX7_ok, rfl⟩, nmX7, rfl, fun _ => rfl⟩
theorem gf_RX7_23 : gFd RX7 23 11 7 := ⟨RX7, TX7, 28, rfl, gwu_11, by decide, gw_959⟩
theorem gp_RX7_23 : gFw RX7 23 11 7 true (tyX7 7) := ⟨RX7, TX7, 28, rfl, gwu_11, by decide, gw_959, ⟨tyX7, tyX7_ok, rfl⟩, nmX7, rfl, fun _ => rfl⟩
theorem gf_RX7_26 : gFd RX7 26 11 8 := ⟨RX7, TX7, 28, rfl, gwu_11, by decide, gw_960⟩
theorem gp_RX7_26 : gFw RX7 26 11 8 true (tyX7 8) := ⟨RX7, TX7, 28, rfl, gwu_11, by decide, gw_960, ⟨tyX7, tyX7_ok, rfl⟩, nmX7, rfl, fun _ => rfl⟩
theorem gf_RX7_29 : gFd RX7 29 11 9 := ⟨RX7, TX7, 28, rfl, gwu_11, by decide, gw_961⟩
theorem gp_RX7_29 : gFw RX7 29 11 9 true (tyX7 9) := ⟨RX7, TX7, 28, rfl, gwu_11, by decide, gw_961, ⟨tyX7, tyX7_ok, rfl⟩, nmX7, rfl, fun _ => rfl⟩
theorem gf_RX7_32 : gFd RX7 32 11 10 := ⟨RX7, TX7, 28, rfl, gwu_11, by decide, gw_962⟩
theorem gp_RX7_32 : gFw RX7 32 11 10 true (tyX7 10) := ⟨RX7, TX7, 28, rfl, gwu_11, by decide, gw_962, ⟨tyX7, tyX7_ok, rfl⟩, nmX7, rfl, fun _ => rfl⟩
theorem gf_RX7_85 : gFd RX7 85 11 11 := ⟨RX7, TX7, 28, rfl, gwu_11, by decide, gw_963⟩
theorem gp_RX7_85 : gFw RX7 85 11 11 false (tyX7 11) := ⟨RX7, TX7, 28, rfl, gwu_11, by decide, gw_963, ⟨tyX7, tyX7_ok, rfl⟩, nmX7, rfl, fun h => by cases h⟩
theorem gf_RX7_35 : gFd RX7 35 11 12 := ⟨RX7, TX7, 28, rfl, gwu_11, by decide, gw_964⟩
theorem gp_RX7_35 : gFw RX7 35 11 12 true (tyX7 12) := ⟨RX7, TX7, 28, rfl, gwu_11, by decide, gw_964, ⟨tyX7, tyX7_ok, rfl⟩, nmX7, rfl, fun _ => rfl⟩
theorem gf_RX7_38 : gFd RX7 38 11 13 := ⟨RX7, TX7, 28, rfl, gwu_11, by decide, gw_965⟩
theorem gp_RX7_38 : gFw RX7 38 11 13 true (tyX7 13) := ⟨RX7, TX7, 28, rfl, gwu_11, by decide, gw_965, ⟨tyX7, tyX7_ok, rfl⟩, nmX7, rfl, fun _ => rfl⟩
theorem gf_RX7_41 : gFd RX7 41 11 14 := ⟨RX7, TX7, 28, rfl, gwu_11, by decide, gw_966⟩
theorem gp_RX7_41 : gFw RX7 41 11 14 true (tyX7 14) := ⟨RX7, TX7, 28, rfl, gwu_11, by decide, gw_966, ⟨tyX7, tyX7_ok, rfl⟩, nmX7, rfl, fun _ => rfl⟩
theorem gf_RX7_44 : gFd RX7 44 11 15 := ⟨RX7, TX7, 28, rfl, gwu_11, by decide, gw_967⟩
theorem gp_RX7_44 : gFw RX7 44 11 15 true (tyX7 15) := ⟨RX7, TX7, 28, rfl, gwu_11, by decide, gw_967, ⟨tyX7, tyX7_ok, rfl⟩, nmX7, rfl, fun _ => rfl⟩
theorem gf_RX7_47 : gFd RX7 47 11 16 := ⟨RX7, TX7, 28, rfl, gwu_11, by decide, gw_968⟩
theorem gp_RX7_47 : gFw RX7 47 11 16 true (tyX7 16) := ⟨RX7, TX7, 28, rfl, gwu_11, by decide, gw_968, ⟨tyX7, tyX7_ok, rfl⟩, nmX7, rfl, fun _ => rfl⟩
theorem gf_RX7_50 : gFd RX7 50 11 17 := ⟨RX7, TX7, 28, rfl, gwu_11, by decide, gw_969⟩
theorem gp_RX7_50 : gFw RX7 50 11 17 true (tyX7 17) := ⟨RX7, TX7, 28, rfl, gwu_11, by decide, gw_969, ⟨tyX7, tyX7_ok, rfl⟩, nmX7, rfl, fun _ => rfl⟩
theorem gf_RX7_53 : gFd RX7 53 11 18 := ⟨RX7, TX7, 28, rfl, gwu_11, by decide, gw_970⟩
theorem gp_RX7_53 : gFw RX7 53 11 18 true (tyX7 18) := ⟨RX7, TX7, 28, rfl, gwu_11, by decide, gw_970, ⟨tyX7, tyX7_ok, rfl⟩, nmX7, rfl, fun _ => rfl⟩
theorem gf_RX7_56 : gFd RX7 56 11 19 := ⟨RX7, TX7, 28, rfl, gwu_11, by decide, gw_971⟩
theorem gp_RX7_56 : gFw RX7 56 11 19 true (tyX7 19) := ⟨RX7, TX7, 28, rfl, gwu_11, by decide, gw_971, ⟨tyX7, tyX7_ok, rfl⟩, nmX7, rfl, fun _ => rfl⟩
theorem gf_RX7_151 : gFd RX7 151 11 20 := ⟨RX7, TX7, 28, rfl, gwu_11, by decide, gw_972⟩
theorem gp_RX7_151 : gFw RX7 151 11 20 false (tyX7 20) := ⟨RX7, TX7, 28, rfl, gwu_11, by decide, gw_972, ⟨tyX7, tyX7_ok, rfl⟩, nmX7, rfl, fun h => by cases h⟩
theorem gf_RX7_59 : gFd RX7 59 11 21 := ⟨RX7, TX7, 28, rfl, gwu_11, by decide, gw_973⟩
theorem gp_RX7_59 : gFw RX7 59 11 21 true (tyX7 21) := ⟨RX7, TX7, 28, rfl, gwu_11, by decide, gw_973, ⟨tyX7, tyX7_ok, rfl⟩, nmX7, rfl, fun _ => rfl⟩
theorem gf_RX7_164 : gFd RX7 164 11 22 := ⟨RX7, TX7, 28, rfl, gwu_11, by decide, gw_974⟩
theorem gp_RX7_164 : gFw RX7 164 11 22 false (tyX7 22) := ⟨RX7, TX7, 28, rfl, gwu_11, by decide, gw_974, ⟨tyX7, tyX7_ok, rfl⟩, nmX7, rfl, fun h => by cases h⟩
theorem gf_RX7_62 : gFd RX7 62 11 23 := ⟨RX7, TX7, 28, rfl, gwu_11, by decide, gw_975⟩
theorem gp_RX7_62 : gFw RX7 62 11 23 true (tyX7 23) := ⟨RX7, TX7, 28, rfl, gwu_11, by decide, gw_975, ⟨tyX7, tyX7_ok, rfl⟩, nmX7, rfl, fun _ => rfl⟩
theorem gf_RX7_65 : gFd RX7 65 11 24 := ⟨RX7, TX7, 28, rfl, gwu_11, by decide, gw_976⟩
theorem gp_RX7_65 : gFw RX7 65 11 24 true (tyX7 24) := ⟨RX7, TX7, 28, rfl, gwu_11, by decide, gw_976, ⟨tyX7, tyX7_ok, rfl⟩, nmX7, rfl, fun _ => rfl⟩
theorem gf_RX7_68 : gFd RX7 68 11 25 := ⟨RX7, TX7, 28, rfl, gwu_11, by decide, gw_977⟩
theorem gp_RX7_68 : gFw RX7 68 11 25 true (tyX7 25) := ⟨RX7, TX7, 28, rfl, gwu_11, by decide, gw_977, ⟨tyX7, tyX7_ok, rfl⟩, nmX7, rfl, fun _ => rfl⟩
theorem gf_RX7_71 : gFd RX7 71 11 26 := ⟨RX7, TX7, 28, rfl, gwu_11, by decide, gw_978⟩
theorem gp_RX7_71 : gFw RX7 71 11 26 true (tyX7 26) := ⟨RX7, TX7, 28, rfl, gwu_11, by decide, gw_978, ⟨tyX7, tyX7_ok, rfl⟩, nmX7, rfl, fun _ => rfl⟩
theorem gf_RX7_74 : gFd RX7 74 11 27 := ⟨RX7, TX7, 28, rfl, gwu_11, by decide, gw_979⟩
theorem gp_RX7_74 : gFw RX7 74 11 27 false (tyX7 27) := ⟨RX7, TX7, 28, rfl, gwu_11, by decide, gw_979, ⟨tyX7, tyX7_ok, rfl⟩, nmX7, rfl, fun h => by cases h⟩
theorem gc_RL_62 : gCi RL 62 yX6_init cX6_init 1 0 := ⟨⟨gw_32, gw_30, gw_1, ⟨by decide +kernel, by decide +kernel, by decide +kernel⟩⟩, gw_31, rfl⟩
theorem gc_RX6_9 : gCi RX6 9 yJ4_init_da8c8 cJ4_init_da8c8 1 0 := ⟨⟨gw_40, gw_38, gw_3, ⟨by decide +kernel, by decide +kernel, by decide +kernel⟩⟩, gw_39, rfl⟩
theorem gc_RJ4_1 : gCi RJ4 1 yJ5_init_d00df cJ5_init_d00df 2 1 := ⟨⟨gw_43, gw_41, gw_2, ⟨by decide +kernel, by decide +kernel, by decide +kernel⟩⟩, gw_42, rfl⟩
theorem gc_RJ5_26 : gCs RJ5 26 yJ2_newBytesFor_77867 cJ2_newBytesFor_77867 1 (some (Jvm.ClassFile.FieldType.array Jvm.ClassFile.FieldType.byte)) 1 := ⟨⟨gw_49, gw_47, gw_5, ⟨by decide +kernel, by decide +kernel, by decide +kernel⟩⟩, gw_48⟩
theorem gc_RJ2_11 : gCs RJ2 11 yJ2_newBytesLength_0f7a4 cJ2_newBytesLength_0f7a4 1 (some Jvm.ClassFile.FieldType.int) 1 := ⟨⟨gw_52, gw_50, gw_5, ⟨by decide +kernel, by decide +kernel, by decide +kernel⟩⟩, gw_51⟩
theorem gc_RL_7 : gCv RL 7 yX6_letter cX6_letter 2 (some Jvm.ClassFile.FieldType.int) 1 := ⟨⟨gw_108, gw_105, gw_1, ⟨by decide +kernel, by decide +kernel, by decide +kernel⟩⟩, gw_106, gw_107⟩
theorem gc_RX6_54 : gCv RX6 54 yJ4_length_8abf5 cJ4_length_8abf5 1 (some Jvm.ClassFile.FieldType.int) 0 := ⟨⟨gw_181, gw_178, gw_3, ⟨by decide +kernel, by decide +kernel, by decide +kernel⟩⟩, gw_179, gw_180⟩
theorem gc_RX6_63 : gCv RX6 63 yJ4_append_cf468 cJ4_append_cf468 2 (some (Jvm.ClassFile.FieldType.object "java/lang/StringBuilder")) 1 := ⟨⟨gw_204, gw_201, gw_3, ⟨by decide +kernel, by decide +kernel, by decide +kernel⟩⟩, gw_202, gw_203⟩
theorem gc_RJ5_114 : gCs RJ5 114 yJ8_newLength_cabcc cJ8_newLength_cabcc 4 (some Jvm.ClassFile.FieldType.int) 3 := ⟨⟨gw_218, gw_216, gw_12, ⟨by decide +kernel, by decide +kernel, by decide +kernel⟩⟩, gw_217⟩
theorem gc_RJ8_194 : gCs RJ8 194 yJ9_max_7cf53 cJ9_max_7cf53 2 (some Jvm.ClassFile.FieldType.int) 2 := ⟨⟨gw_221, gw_219, gw_13, ⟨by decide +kernel, by decide +kernel, by decide +kernel⟩⟩, gw_220⟩
theorem gc_RJ8_201 : gCs RJ8 201 yJ8_hugeLength_7cf53 cJ8_hugeLength_7cf53 3 (some Jvm.ClassFile.FieldType.int) 2 := ⟨⟨gw_225, gw_223, gw_12, ⟨by decide +kernel, by decide +kernel, by decide +kernel⟩⟩, gw_224⟩
theorem gc_RJ5_108 : gCs RJ5 108 yJ7_copyOf_9075b cJ7_copyOf_9075b 3 (some (Jvm.ClassFile.FieldType.array Jvm.ClassFile.FieldType.byte)) 2 := ⟨⟨gw_229, gw_227, gw_14, ⟨by decide +kernel, by decide +kernel, by decide +kernel⟩⟩, gw_228⟩
theorem gc_RJ7_304 : gCs RJ7 304 yJ9_min_7cf53 cJ9_min_7cf53 2 (some Jvm.ClassFile.FieldType.int) 2 := ⟨⟨gw_239, gw_237, gw_13, ⟨by decide +kernel, by decide +kernel, by decide +kernel⟩⟩, gw_238⟩
theorem gc_RJ5_191 : gCs RJ5 191 yJ1_canEncode_fc78d cJ1_canEncode_fc78d 1 (some Jvm.ClassFile.FieldType.boolean) 1 := ⟨⟨gw_250, gw_248, gw_16, ⟨by decide +kernel, by decide +kernel, by decide +kernel⟩⟩, gw_249⟩
theorem gc_RJ5_125 : gCs RJ5 125 yJ1_inflate_0e8fd cJ1_inflate_0e8fd 5 none 5 := ⟨⟨gw_257, gw_255, gw_16, ⟨by decide +kernel, by decide +kernel, by decide +kernel⟩⟩, gw_256⟩
theorem gc_RJ1_240 : gCs RJ1 240 yJ2_inflate_0e8fd cJ2_inflate_0e8fd 6 none 5 := ⟨⟨gw_260, gw_258, gw_5, ⟨by decide +kernel, by decide +kernel, by decide +kernel⟩⟩, gw_259⟩
theorem gc_RJ2_173 : gCs RJ2 173 yJ2_checkBoundsOffCount_d044e cJ2_checkBoundsOffCount_d044e 3 none 3 := ⟨⟨gw_263, gw_261, gw_5, ⟨by decide +kernel, by decide +kernel, by decide +kernel⟩⟩, gw_262⟩
theorem gc_RJ2_48 : gCs RJ2 48 yJ2_length_9d52b cJ2_length_9d52b 1 (some Jvm.ClassFile.FieldType.int) 1 := ⟨⟨gw_266, gw_264, gw_5, ⟨by decide +kernel, by decide +kernel, by decide +kernel⟩⟩, gw_265⟩
theorem gc_RJ2_419 : gCs RJ2 419 yJ0_checkBoundsOffCount_cabcc cJ0_checkBoundsOffCount_cabcc 3 (some Jvm.ClassFile.FieldType.int) 3 := ⟨⟨gw_269, gw_267, gw_4, ⟨by decide +kernel, by decide +kernel, by decide +kernel⟩⟩, gw_268⟩
theorem gc_RJ0_1065 : gCs RJ0 1065 yJ3_checkFromIndexSize_8c36e cJ3_checkFromIndexSize_8c36e 4 (some Jvm.ClassFile.FieldType.int) 4 := ⟨⟨gw_274, gw_272, gw_17, ⟨by decide +kernel, by decide +kernel, by decide +kernel⟩⟩, gw_273⟩
theorem gc_RJ2_111 : gCs RJ2 111 yJ2_putChar_b72d1 cJ2_putChar_b72d1 3 none 3 := ⟨⟨gw_277, gw_275, gw_5, ⟨by decide +kernel, by decide +kernel, by decide +kernel⟩⟩, gw_276⟩
theorem gc_RJ5_197 : gCs RJ5 197 yJ2_putCharSB_b72d1 cJ2_putCharSB_b72d1 3 none 3 := ⟨⟨gw_286, gw_284, gw_5, ⟨by decide +kernel, by decide +kernel, by decide +kernel⟩⟩, gw_285⟩
theorem gc_RJ2_67 : gCs RJ2 67 yJ2_checkIndex_2214a cJ2_checkIndex_2214a 2 none 2 := ⟨⟨gw_289, gw_287, gw_5, ⟨by decide +kernel, by decide +kernel, by decide +kernel⟩⟩, gw_288⟩
theorem gc_RJ2_414 : gCs RJ2 414 yJ0_checkIndex_df160 cJ0_checkIndex_df160 2 none 2 := ⟨⟨gw_292, gw_290, gw_4, ⟨by decide +kernel, by decide +kernel, by decide +kernel⟩⟩, gw_291⟩
theorem gc_RJ0_1059 : gCs RJ0 1059 yJ3_checkIndex_8e157 cJ3_checkIndex_8e157 3 (some Jvm.ClassFile.FieldType.int) 3 := ⟨⟨gw_295, gw_293, gw_17, ⟨by decide +kernel, by decide +kernel, by decide +kernel⟩⟩, gw_294⟩
theorem gc_RL_17 : gCv RL 17 yX6_place cX6_place 5 (some Jvm.ClassFile.FieldType.int) 3 := ⟨⟨gw_302, gw_299, gw_1, ⟨by decide +kernel, by decide +kernel, by decide +kernel⟩⟩, gw_300, gw_301⟩
theorem gc_RX6_67 : gCs RX6 67 yX6_isWithin cX6_isWithin 3 (some Jvm.ClassFile.FieldType.boolean) 3 := ⟨⟨gw_305, gw_303, gw_1, ⟨by decide +kernel, by decide +kernel, by decide +kernel⟩⟩, gw_304⟩
theorem gc_RX6_75 : gCi RX6 75 yX2_init cX2_init 4 3 := ⟨⟨gw_311, gw_309, gw_18, ⟨by decide +kernel, by decide +kernel, by decide +kernel⟩⟩, gw_310, rfl⟩
theorem gc_RX6_78 : gCv RX6 78 yX6_showOnAllSheets cX6_showOnAllSheets 4 none 1 := ⟨⟨gw_337, gw_334, gw_1, ⟨by decide +kernel, by decide +kernel, by decide +kernel⟩⟩, gw_336, (gwA_mem (by unfold lw_tbl; exact List.mem_append_left _ (List.mem_of_getElem? (i := 1) (by decide +kernel))) rfl)⟩
theorem gc_RX6_142 : gCv RX6 142 yX3_show cX3_show 2 none 1 := ⟨⟨gw_341, gw_338, gw_25, ⟨by decide +kernel, by decide +kernel, by decide +kernel⟩⟩, gw_339, gw_340⟩
theorem gc_RX3_46 : gCv RX3 46 yX3_has cX3_has 2 (some Jvm.ClassFile.FieldType.boolean) 1 := ⟨⟨gw_346, gw_342, gw_25, ⟨by decide +kernel, by decide +kernel, by decide +kernel⟩⟩, gw_344, (gwA_mem (by unfold lw_tbl; exact List.mem_append_left _ (List.mem_of_getElem? (i := 2) (by decide +kernel))) rfl)⟩
theorem gc_RX3_63 : gCn RX3 RX6 63 yX6_isWithin cX6_isWithin 3 (some Jvm.ClassFile.FieldType.boolean) 3 := ⟨gw_305, List.mem_append_right _ (List.mem_of_getElem? (i := 347) (by decide +kernel)), gw_1, ⟨by decide +kernel, by decide +kernel, by decide +kernel⟩, gw_304⟩
theorem gc_RX3_50 : gCv RX3 50 yX3_columnOf cX3_columnOf 5 (some Jvm.ClassFile.FieldType.int) 1 := ⟨⟨gw_353, gw_350, gw_25, ⟨by decide +kernel, by decide +kernel, by decide +kernel⟩⟩, gw_352, (gwA_mem (by unfold lw_tbl; exact List.mem_append_left _ (List.mem_of_getElem? (i := 3) (by decide +kernel))) rfl)⟩
theorem gc_RX3_54 : gCv RX3 54 yX3_rowOf cX3_rowOf 2 (some Jvm.ClassFile.FieldType.int) 1 := ⟨⟨gw_362, gw_359, gw_25, ⟨by decide +kernel, by decide +kernel, by decide +kernel⟩⟩, gw_361, (gwA_mem (by unfold lw_tbl; exact List.mem_append_left _ (List.mem_of_getElem? (i := 4) (by decide +kernel))) rfl)⟩
theorem gc_RX3_57 : gCi RX3 57 yX5_init cX5_init 4 3 := ⟨⟨gw_365, gw_363, gw_19, ⟨by decide +kernel, by decide +kernel, by decide +kernel⟩⟩, gw_364, rfl⟩
theorem gc_RX6_145 : gCv RX6 145 yX3_placeAnew cX3_placeAnew 4 none 1 := ⟨⟨gw_399, gw_396, gw_25, ⟨by decide +kernel, by decide +kernel, by decide +kernel⟩⟩, gw_397, gw_398⟩
theorem gc_RX3_73 : gCv RX3 73 yX5_takeUp cX5_takeUp 2 none 1 := ⟨⟨gw_403, gw_400, gw_19, ⟨by decide +kernel, by decide +kernel, by decide +kernel⟩⟩, gw_401, gw_402⟩
theorem gc_RX5_38 : gCv RX5 38 yX2_wordOn cX2_wordOn 5 (some (Jvm.ClassFile.FieldType.object "java/lang/String")) 1 := ⟨⟨gw_407, gw_404, gw_18, ⟨by decide +kernel, by decide +kernel, by decide +kernel⟩⟩, gw_405, gw_406⟩
theorem gc_RX3_77 : gCv RX3 77 yX3_listNamed cX3_listNamed 4 none 0 := ⟨⟨gw_411, gw_408, gw_25, ⟨by decide +kernel, by decide +kernel, by decide +kernel⟩⟩, gw_410, (gwA_mem (by unfold lw_tbl; exact List.mem_append_left _ (List.mem_of_getElem? (i := 5) (by decide +kernel))) rfl)⟩
theorem gc_RX3_90 : gCv RX3 90 yX5_isNamed cX5_isNamed 1 (some Jvm.ClassFile.FieldType.boolean) 0 := ⟨⟨gw_415, gw_412, gw_19, ⟨by decide +kernel, by decide +kernel, by decide +kernel⟩⟩, gw_413, gw_414⟩
theorem gc_RX5_42 : gCv RX5 42 yX5_isOnSheet cX5_isOnSheet 1 (some Jvm.ClassFile.FieldType.boolean) 0 := ⟨⟨gw_419, gw_416, gw_19, ⟨by decide +kernel, by decide +kernel, by decide +kernel⟩⟩, gw_417, gw_418⟩
theorem gc_RX3_80 : gCv RX3 80 yX3_drawDots cX3_drawDots 4 none 1 := ⟨⟨gw_423, gw_420, gw_25, ⟨by decide +kernel, by decide +kernel, by decide +kernel⟩⟩, gw_422, (gwA_mem (by unfold lw_tbl; exact List.mem_append_left _ (List.mem_of_getElem? (i := 6) (by decide +kernel))) rfl)⟩
theorem gc_RX3_94 : gCv RX3 94 yX1_clear cX1_clear 2 none 0 := ⟨⟨gw_427, gw_424, gw_26, ⟨by decide +kernel, by decide +kernel, by decide +kernel⟩⟩, gw_425, gw_426⟩
theorem gc_RX3_97 : gCv RX3 97 yX5_isOnSheet cX5_isOnSheet 1 (some Jvm.ClassFile.FieldType.boolean) 0 := ⟨⟨gw_419, gw_428, gw_19, ⟨by decide +kernel, by decide +kernel, by decide +kernel⟩⟩, gw_417, gw_418⟩
theorem gc_RX3_106 : gCv RX3 106 yX1_setSign cX1_setSign 4 none 3 := ⟨⟨gw_432, gw_429, gw_26, ⟨by decide +kernel, by decide +kernel, by decide +kernel⟩⟩, gw_430, gw_431⟩
theorem gc_RX1_15 : gCn RX1 RX6 15 yX6_isOnGrid cX6_isOnGrid 2 (some Jvm.ClassFile.FieldType.boolean) 2 := ⟨gw_435, List.mem_append_right _ (List.mem_of_getElem? (i := 433) (by decide +kernel)), gw_1, ⟨by decide +kernel, by decide +kernel, by decide +kernel⟩, gw_434⟩
theorem gc_RX3_84 : gCv RX3 84 yX5_standAtFirstFree cX5_standAtFirstFree 3 none 1 := ⟨⟨gw_439, gw_436, gw_19, ⟨by decide +kernel, by decide +kernel, by decide +kernel⟩⟩, gw_437, gw_438⟩
theorem gc_RX5_74 : gCv RX5 74 yX5_mayStand cX5_mayStand 4 (some Jvm.ClassFile.FieldType.boolean) 2 := ⟨⟨gw_443, gw_440, gw_19, ⟨by decide +kernel, by decide +kernel, by decide +kernel⟩⟩, gw_441, gw_442⟩
theorem gc_RX5_46 : gCv RX5 46 yJ0_length_8abf5 cJ0_length_8abf5 1 (some Jvm.ClassFile.FieldType.int) 0 := ⟨⟨gw_447, gw_444, gw_4, ⟨by decide +kernel, by decide +kernel, by decide +kernel⟩⟩, gw_445, gw_446⟩
theorem gc_RJ0_335 : gCv RJ0 335 yJ0_coder_7d493 cJ0_coder_7d493 1 (some Jvm.ClassFile.FieldType.byte) 0 := ⟨⟨gw_451, gw_448, gw_4, ⟨by decide +kernel, by decide +kernel, by decide +kernel⟩⟩, gw_449, gw_450⟩
theorem gc_RX5_52 : gCv RX5 52 yX5_rowAt cX5_rowAt 2 (some Jvm.ClassFile.FieldType.int) 1 := ⟨⟨gw_456, gw_453, gw_19, ⟨by decide +kernel, by decide +kernel, by decide +kernel⟩⟩, gw_455, (gwA_mem (by unfold lw_tbl; exact List.mem_append_left _ (List.mem_of_getElem? (i := 7) (by decide +kernel))) rfl)⟩
theorem gc_RX5_56 : gCv RX5 56 yX5_firstColumnAt cX5_firstColumnAt 3 (some Jvm.ClassFile.FieldType.int) 2 := ⟨⟨gw_460, gw_457, gw_19, ⟨by decide +kernel, by decide +kernel, by decide +kernel⟩⟩, gw_459, (gwA_mem (by unfold lw_tbl; exact List.mem_append_left _ (List.mem_of_getElem? (i := 8) (by decide +kernel))) rfl)⟩
theorem gc_RX5_60 : gCv RX5 60 yX1_isFree cX1_isFree 5 (some Jvm.ClassFile.FieldType.boolean) 3 := ⟨⟨gw_464, gw_461, gw_26, ⟨by decide +kernel, by decide +kernel, by decide +kernel⟩⟩, gw_462, gw_463⟩
theorem gc_RX1_33 : gCv RX1 33 yX1_signAt cX1_signAt 3 (some Jvm.ClassFile.FieldType.char) 2 := ⟨⟨gw_468, gw_465, gw_26, ⟨by decide +kernel, by decide +kernel, by decide +kernel⟩⟩, gw_466, gw_467⟩
theorem gc_RX5_78 : gCv RX5 78 yX5_write cX5_write 3 none 2 := ⟨⟨gw_472, gw_469, gw_19, ⟨by decide +kernel, by decide +kernel, by decide +kernel⟩⟩, gw_470, gw_471⟩
theorem gc_RX5_66 : gCv RX5 66 yX1_write cX1_write 5 none 3 := ⟨⟨gw_476, gw_473, gw_26, ⟨by decide +kernel, by decide +kernel, by decide +kernel⟩⟩, gw_474, gw_475⟩
theorem gc_RX1_19 : gCv RX1 19 yJ0_length_8abf5 cJ0_length_8abf5 1 (some Jvm.ClassFile.FieldType.int) 0 := ⟨⟨gw_447, gw_477, gw_4, ⟨by decide +kernel, by decide +kernel, by decide +kernel⟩⟩, gw_445, gw_446⟩
theorem gc_RX1_25 : gCv RX1 25 yJ0_charAt_5068e cJ0_charAt_5068e 2 (some Jvm.ClassFile.FieldType.char) 1 := ⟨⟨gw_481, gw_478, gw_4, ⟨by decide +kernel, by decide +kernel, by decide +kernel⟩⟩, gw_479, gw_480⟩
theorem gc_RJ0_492 : gCv RJ0 492 yJ0_isLatin1_aae02 cJ0_isLatin1_aae02 1 (some Jvm.ClassFile.FieldType.boolean) 0 := ⟨⟨gw_485, gw_482, gw_4, ⟨by decide +kernel, by decide +kernel, by decide +kernel⟩⟩, gw_483, gw_484⟩
theorem gc_RJ0_495 : gCs RJ0 495 yJ1_charAt_3b067 cJ1_charAt_3b067 2 (some Jvm.ClassFile.FieldType.char) 2 := ⟨⟨gw_488, gw_486, gw_16, ⟨by decide +kernel, by decide +kernel, by decide +kernel⟩⟩, gw_487⟩
theorem gc_RJ1_9 : gCs RJ1 9 yJ0_checkIndex_df160 cJ0_checkIndex_df160 2 none 2 := ⟨⟨gw_292, gw_489, gw_4, ⟨by decide +kernel, by decide +kernel, by decide +kernel⟩⟩, gw_291⟩
theorem gc_RJ0_498 : gCs RJ0 498 yJ2_charAt_3b067 cJ2_charAt_3b067 2 (some Jvm.ClassFile.FieldType.char) 2 := ⟨⟨gw_492, gw_490, gw_5, ⟨by decide +kernel, by decide +kernel, by decide +kernel⟩⟩, gw_491⟩
theorem gc_RJ2_71 : gCs RJ2 71 yJ2_getChar_3b067 cJ2_getChar_3b067 2 (some Jvm.ClassFile.FieldType.char) 2 := ⟨⟨gw_495, gw_493, gw_5, ⟨by decide +kernel, by decide +kernel, by decide +kernel⟩⟩, gw_494⟩
theorem gc_RX1_29 : gCv RX1 29 yX1_setSign cX1_setSign 4 none 3 := ⟨⟨gw_432, gw_496, gw_26, ⟨by decide +kernel, by decide +kernel, by decide +kernel⟩⟩, gw_430, gw_431⟩
theorem gc_RL_21 : gCv RL 21 yX6_name cX6_name 3 (some Jvm.ClassFile.FieldType.int) 1 := ⟨⟨gw_504, gw_501, gw_1, ⟨by decide +kernel, by decide +kernel, by decide +kernel⟩⟩, gw_502, gw_503⟩
theorem gc_RX6_82 : gCv RX6 82 yX6_placeNumbered cX6_placeNumbered 2 (some (Jvm.ClassFile.FieldType.object "GraticulePress$Place")) 1 := ⟨⟨gw_508, gw_505, gw_1, ⟨by decide +kernel, by decide +kernel, by decide +kernel⟩⟩, gw_507, (gwA_mem (by unfold lw_tbl; exact List.mem_append_left _ (List.mem_of_getElem? (i := 9) (by decide +kernel))) rfl)⟩
theorem gc_RX6_88 : gCv RX6 88 yX2_isToldOut cX2_isToldOut 1 (some Jvm.ClassFile.FieldType.boolean) 0 := ⟨⟨gw_529, gw_526, gw_18, ⟨by decide +kernel, by decide +kernel, by decide +kernel⟩⟩, gw_527, gw_528⟩
theorem gc_RX6_96 : gCv RX6 96 yJ4_toString_0e30d cJ4_toString_0e30d 1 (some (Jvm.ClassFile.FieldType.object "java/lang/String")) 0 := ⟨⟨gw_536, gw_533, gw_3, ⟨by decide +kernel, by decide +kernel, by decide +kernel⟩⟩, gw_534, gw_535⟩
theorem gc_RJ4_137 : gCi RJ4 137 yJ0_init_81219 cJ0_init_81219 2 1 := ⟨⟨gw_541, gw_539, gw_4, ⟨by decide +kernel, by decide +kernel, by decide +kernel⟩⟩, gw_540, rfl⟩
theorem gc_RJ0_489 : gCi RJ0 489 yJ0_init_db425 cJ0_init_db425 5 2 := ⟨⟨gw_544, gw_542, gw_4, ⟨by decide +kernel, by decide +kernel, by decide +kernel⟩⟩, gw_543, rfl⟩
theorem gc_RJ0_54 : gCs RJ0 54 yJ7_copyOfRange_39247 cJ7_copyOfRange_39247 3 (some (Jvm.ClassFile.FieldType.array Jvm.ClassFile.FieldType.byte)) 3 := ⟨⟨gw_555, gw_553, gw_14, ⟨by decide +kernel, by decide +kernel, by decide +kernel⟩⟩, gw_554⟩
theorem gc_RJ7_339 : gCs RJ7 339 yJ7_copyOfRangeByte_39247 cJ7_copyOfRangeByte_39247 5 (some (Jvm.ClassFile.FieldType.array Jvm.ClassFile.FieldType.byte)) 3 := ⟨⟨gw_558, gw_556, gw_14, ⟨by decide +kernel, by decide +kernel, by decide +kernel⟩⟩, gw_557⟩
theorem gc_RJ7_343 : gCs RJ7 343 yJ7_checkLength_df160 cJ7_checkLength_df160 2 none 2 := ⟨⟨gw_561, gw_559, gw_14, ⟨by decide +kernel, by decide +kernel, by decide +kernel⟩⟩, gw_560⟩
theorem gc_RJ7_47 : gCi RJ7 47 yJ4_init_da8c8 cJ4_init_da8c8 1 0 := ⟨⟨gw_40, gw_564, gw_3, ⟨by decide +kernel, by decide +kernel, by decide +kernel⟩⟩, gw_39, rfl⟩
theorem gc_RJ7_54 : gCv RJ7 54 yJ4_append_bf812 cJ4_append_bf812 2 (some (Jvm.ClassFile.FieldType.object "java/lang/StringBuilder")) 1 := ⟨⟨gw_568, gw_565, gw_3, ⟨by decide +kernel, by decide +kernel, by decide +kernel⟩⟩, gw_566, gw_567⟩
theorem gc_RJ5_245 : gCs RJ5 245 yJ6_stringSize_0f7a4 cJ6_stringSize_0f7a4 4 (some Jvm.ClassFile.FieldType.int) 1 := ⟨⟨gw_574, gw_572, gw_22, ⟨by decide +kernel, by decide +kernel, by decide +kernel⟩⟩, gw_573⟩
theorem gc_RJ5_248 : gCs RJ5 248 yJ6_getChars_ba4f3 cJ6_getChars_ba4f3 7 (some Jvm.ClassFile.FieldType.int) 3 := ⟨⟨gw_577, gw_575, gw_22, ⟨by decide +kernel, by decide +kernel, by decide +kernel⟩⟩, gw_576⟩
theorem gc_RJ5_251 : gCs RJ5 251 yJ2_getChars_46870 cJ2_getChars_46870 5 (some Jvm.ClassFile.FieldType.int) 4 := ⟨⟨gw_584, gw_582, gw_5, ⟨by decide +kernel, by decide +kernel, by decide +kernel⟩⟩, gw_583⟩
theorem gc_RJ2_96 : gCs RJ2 96 yJ2_checkBoundsBeginEnd_d044e cJ2_checkBoundsBeginEnd_d044e 3 none 3 := ⟨⟨gw_587, gw_585, gw_5, ⟨by decide +kernel, by decide +kernel, by decide +kernel⟩⟩, gw_586⟩
theorem gc_RJ2_241 : gCs RJ2 241 yJ0_checkBoundsBeginEnd_23922 cJ0_checkBoundsBeginEnd_23922 3 none 3 := ⟨⟨gw_590, gw_588, gw_4, ⟨by decide +kernel, by decide +kernel, by decide +kernel⟩⟩, gw_589⟩
theorem gc_RJ0_1062 : gCs RJ0 1062 yJ3_checkFromToIndex_8c36e cJ3_checkFromToIndex_8c36e 4 (some Jvm.ClassFile.FieldType.int) 4 := ⟨⟨gw_593, gw_591, gw_17, ⟨by decide +kernel, by decide +kernel, by decide +kernel⟩⟩, gw_592⟩
theorem gc_RJ2_393 : gCs RJ2 393 yJ2_getChars_ba4f3 cJ2_getChars_ba4f3 7 (some Jvm.ClassFile.FieldType.int) 3 := ⟨⟨gw_596, gw_594, gw_5, ⟨by decide +kernel, by decide +kernel, by decide +kernel⟩⟩, gw_595⟩
theorem gc_RJ7_50 : gCv RJ7 50 yJ4_append_15ec4 cJ4_append_15ec4 2 (some (Jvm.ClassFile.FieldType.object "java/lang/StringBuilder")) 1 := ⟨⟨gw_603, gw_600, gw_3, ⟨by decide +kernel, by decide +kernel, by decide +kernel⟩⟩, gw_601, gw_602⟩
theorem gc_RJ5_226 : gCs RJ5 226 yJ2_putCharsAt_cd4e5 cJ2_putCharsAt_cd4e5 7 (some Jvm.ClassFile.FieldType.int) 6 := ⟨⟨gw_613, gw_611, gw_5, ⟨by decide +kernel, by decide +kernel, by decide +kernel⟩⟩, gw_612⟩
theorem gc_RJ5_32 : gCv RJ5 32 yJ0_length_8abf5 cJ0_length_8abf5 1 (some Jvm.ClassFile.FieldType.int) 0 := ⟨⟨gw_447, gw_614, gw_4, ⟨by decide +kernel, by decide +kernel, by decide +kernel⟩⟩, gw_445, gw_446⟩
theorem gc_RJ5_40 : gCv RJ5 40 yJ0_coder_7d493 cJ0_coder_7d493 1 (some Jvm.ClassFile.FieldType.byte) 0 := ⟨⟨gw_451, gw_623, gw_4, ⟨by decide +kernel, by decide +kernel, by decide +kernel⟩⟩, gw_449, gw_450⟩
theorem gc_RJ5_399 : gCv RJ5 399 yJ0_getBytes_840e7 cJ0_getBytes_840e7 4 none 3 := ⟨⟨gw_627, gw_624, gw_4, ⟨by decide +kernel, by decide +kernel, by decide +kernel⟩⟩, gw_625, gw_626⟩
theorem gc_RJ0_106 : gCs RJ0 106 yJ1_inflate_0e8fd cJ1_inflate_0e8fd 5 none 5 := ⟨⟨gw_257, gw_629, gw_16, ⟨by decide +kernel, by decide +kernel, by decide +kernel⟩⟩, gw_256⟩
theorem gc_RJ7_61 : gCv RJ7 61 yJ4_toString_0e30d cJ4_toString_0e30d 1 (some (Jvm.ClassFile.FieldType.object "java/lang/String")) 0 := ⟨⟨gw_536, gw_630, gw_3, ⟨by decide +kernel, by decide +kernel, by decide +kernel⟩⟩, gw_534, gw_535⟩
theorem gc_RJ0_1051 : gCs RJ0 1051 yJ2_compress_39247 cJ2_compress_39247 6 (some (Jvm.ClassFile.FieldType.array Jvm.ClassFile.FieldType.byte)) 3 := ⟨⟨gw_634, gw_632, gw_5, ⟨by decide +kernel, by decide +kernel, by decide +kernel⟩⟩, gw_633⟩
theorem gc_RJ2_123 : gCs RJ2 123 yJ2_compress_5af95 cJ2_compress_5af95 7 (some Jvm.ClassFile.FieldType.int) 5 := ⟨⟨gw_637, gw_635, gw_5, ⟨by decide +kernel, by decide +kernel, by decide +kernel⟩⟩, gw_636⟩
theorem gc_RJ2_126 : gCs RJ2 126 yJ7_copyOfRange_39247 cJ7_copyOfRange_39247 3 (some (Jvm.ClassFile.FieldType.array Jvm.ClassFile.FieldType.byte)) 3 := ⟨⟨gw_555, gw_638, gw_14, ⟨by decide +kernel, by decide +kernel, by decide +kernel⟩⟩, gw_554⟩
theorem gc_RJ0_47 : gCs RJ0 47 yJ2_coderFromArrayLen_85cad cJ2_coderFromArrayLen_85cad 2 (some Jvm.ClassFile.FieldType.byte) 2 := ⟨⟨gw_641, gw_639, gw_5, ⟨by decide +kernel, by decide +kernel, by decide +kernel⟩⟩, gw_640⟩
theorem gc_RX6_100 : gCi RX6 100 yX4_init cX4_init 3 2 := ⟨⟨gw_655, gw_653, gw_21, ⟨by decide +kernel, by decide +kernel, by decide +kernel⟩⟩, gw_654, rfl⟩
theorem gc_RX6_103 : gCv RX6 103 yX2_tell cX2_tell 2 none 1 := ⟨⟨gw_669, gw_666, gw_18, ⟨by decide +kernel, by decide +kernel, by decide +kernel⟩⟩, gw_667, gw_668⟩
theorem gc_RX6_107 : gCv RX6 107 yJ4_setLength_d00df cJ4_setLength_d00df 2 none 1 := ⟨⟨gw_673, gw_670, gw_3, ⟨by decide +kernel, by decide +kernel, by decide +kernel⟩⟩, gw_671, gw_672⟩
theorem gc_RJ5_131 : gCi RJ5 131 yJx7c733_init_d00df cJx7c733_init_d00df 2 1 := ⟨⟨gw_681, gw_679, gw_23, ⟨by decide +kernel, by decide +kernel, by decide +kernel⟩⟩, gw_680, rfl⟩
theorem gc_RJx7c733_12 : gCi RJx7c733 12 yJ4_init_da8c8 cJ4_init_da8c8 1 0 := ⟨⟨gw_40, gw_683, gw_3, ⟨by decide +kernel, by decide +kernel, by decide +kernel⟩⟩, gw_39, rfl⟩
theorem gc_RJx7c733_15 : gCv RJx7c733 15 yJ4_append_15ec4 cJ4_append_15ec4 2 (some (Jvm.ClassFile.FieldType.object "java/lang/StringBuilder")) 1 := ⟨⟨gw_603, gw_685, gw_3, ⟨by decide +kernel, by decide +kernel, by decide +kernel⟩⟩, gw_601, gw_602⟩
theorem gc_RJx7c733_19 : gCv RJx7c733 19 yJ4_append_bf812 cJ4_append_bf812 2 (some (Jvm.ClassFile.FieldType.object "java/lang/StringBuilder")) 1 := ⟨⟨gw_568, gw_686, gw_3, ⟨by decide +kernel, by decide +kernel, by decide +kernel⟩⟩, gw_566, gw_567⟩
theorem gc_RJx7c733_22 : gCv RJx7c733 22 yJ4_toString_0e30d cJ4_toString_0e30d 1 (some (Jvm.ClassFile.FieldType.object "java/lang/String")) 0 := ⟨⟨gw_536, gw_687, gw_3, ⟨by decide +kernel, by decide +kernel, by decide +kernel⟩⟩, gw_534, gw_535⟩
theorem gc_RJ5_133 : gCs RJ5 133 yJ1_fillNull_b72d1 cJ1_fillNull_b72d1 3 none 3 := ⟨⟨gw_698, gw_696, gw_16, ⟨by decide +kernel, by decide +kernel, by decide +kernel⟩⟩, gw_697⟩
theorem gc_RJ1_236 : gCs RJ1 236 yJ7_fill_eb02e cJ7_fill_eb02e 5 none 4 := ⟨⟨gw_701, gw_699, gw_14, ⟨by decide +kernel, by decide +kernel, by decide +kernel⟩⟩, gw_700⟩
theorem gc_RJ7_13 : gCs RJ7 13 yJ7_rangeCheck_23922 cJ7_rangeCheck_23922 3 none 3 := ⟨⟨gw_704, gw_702, gw_14, ⟨by decide +kernel, by decide +kernel, by decide +kernel⟩⟩, gw_703⟩
theorem gc_RJ7_70 : gCi RJ7 70 yJx00060_init_d00df cJx00060_init_d00df 2 1 := ⟨⟨gw_721, gw_719, gw_24, ⟨by decide +kernel, by decide +kernel, by decide +kernel⟩⟩, gw_720, rfl⟩
theorem gc_RJx00060_12 : gCi RJx00060 12 yJ4_init_da8c8 cJ4_init_da8c8 1 0 := ⟨⟨gw_40, gw_723, gw_3, ⟨by decide +kernel, by decide +kernel, by decide +kernel⟩⟩, gw_39, rfl⟩
theorem gc_RJx00060_15 : gCv RJx00060 15 yJ4_append_15ec4 cJ4_append_15ec4 2 (some (Jvm.ClassFile.FieldType.object "java/lang/StringBuilder")) 1 := ⟨⟨gw_603, gw_725, gw_3, ⟨by decide +kernel, by decide +kernel, by decide +kernel⟩⟩, gw_601, gw_602⟩
theorem gc_RJx00060_19 : gCv RJx00060 19 yJ4_append_bf812 cJ4_append_bf812 2 (some (Jvm.ClassFile.FieldType.object "java/lang/StringBuilder")) 1 := ⟨⟨gw_568, gw_726, gw_3, ⟨by decide +kernel, by decide +kernel, by decide +kernel⟩⟩, gw_566, gw_567⟩
theorem gc_RJx00060_22 : gCv RJx00060 22 yJ4_toString_0e30d cJ4_toString_0e30d 1 (some (Jvm.ClassFile.FieldType.object "java/lang/String")) 0 := ⟨⟨gw_536, gw_727, gw_3, ⟨by decide +kernel, by decide +kernel, by decide +kernel⟩⟩, gw_534, gw_535⟩
theorem gc_RJ5_137 : gCs RJ5 137 yJ2_fillNull_b72d1 cJ2_fillNull_b72d1 3 none 3 := ⟨⟨gw_733, gw_731, gw_5, ⟨by decide +kernel, by decide +kernel, by decide +kernel⟩⟩, gw_732⟩
theorem gc_RJ2_380 : gCs RJ2 380 yJ7_fill_eb02e cJ7_fill_eb02e 5 none 4 := ⟨⟨gw_701, gw_734, gw_14, ⟨by decide +kernel, by decide +kernel, by decide +kernel⟩⟩, gw_700⟩
theorem gc_RX6_111 : gCv RX6 111 yX6_placeAllSheetsAnew cX6_placeAllSheetsAnew 5 (some Jvm.ClassFile.FieldType.int) 1 := ⟨⟨gw_738, gw_735, gw_1, ⟨by decide +kernel, by decide +kernel, by decide +kernel⟩⟩, gw_737, (gwA_mem (by unfold lw_tbl; exact List.mem_append_left _ (List.mem_of_getElem? (i := 10) (by decide +kernel))) rfl)⟩
theorem gc_RX6_220 : gCv RX6 220 yX3_pushedBeside cX3_pushedBeside 5 (some Jvm.ClassFile.FieldType.int) 1 := ⟨⟨gw_742, gw_739, gw_25, ⟨by decide +kernel, by decide +kernel, by decide +kernel⟩⟩, gw_740, gw_741⟩
theorem gc_RX3_110 : gCv RX3 110 yX5_isPushed cX5_isPushed 1 (some Jvm.ClassFile.FieldType.boolean) 0 := ⟨⟨gw_746, gw_743, gw_19, ⟨by decide +kernel, by decide +kernel, by decide +kernel⟩⟩, gw_744, gw_745⟩
theorem gc_RL_27 : gCv RL 27 yX6_spelled cX6_spelled 6 (some Jvm.ClassFile.FieldType.char) 3 := ⟨⟨gw_753, gw_750, gw_1, ⟨by decide +kernel, by decide +kernel, by decide +kernel⟩⟩, gw_751, gw_752⟩
theorem gc_RX6_122 : gCv RX6 122 yX2_wordOn cX2_wordOn 5 (some (Jvm.ClassFile.FieldType.object "java/lang/String")) 1 := ⟨⟨gw_407, gw_756, gw_18, ⟨by decide +kernel, by decide +kernel, by decide +kernel⟩⟩, gw_405, gw_406⟩
theorem gc_RX6_126 : gCv RX6 126 yJ0_length_8abf5 cJ0_length_8abf5 1 (some Jvm.ClassFile.FieldType.int) 0 := ⟨⟨gw_447, gw_757, gw_4, ⟨by decide +kernel, by decide +kernel, by decide +kernel⟩⟩, gw_445, gw_446⟩
theorem gc_RX6_129 : gCv RX6 129 yJ0_charAt_5068e cJ0_charAt_5068e 2 (some Jvm.ClassFile.FieldType.char) 1 := ⟨⟨gw_481, gw_758, gw_4, ⟨by decide +kernel, by decide +kernel, by decide +kernel⟩⟩, gw_479, gw_480⟩
theorem gc_RL_31 : gCv RL 31 yX6_pass cX6_pass 2 (some Jvm.ClassFile.FieldType.int) 1 := ⟨⟨gw_765, gw_762, gw_1, ⟨by decide +kernel, by decide +kernel, by decide +kernel⟩⟩, gw_763, gw_764⟩
theorem gc_RL_34 : gCv RL 34 yX6_sheet cX6_sheet 6 (some Jvm.ClassFile.FieldType.int) 3 := ⟨⟨gw_774, gw_771, gw_1, ⟨by decide +kernel, by decide +kernel, by decide +kernel⟩⟩, gw_772, gw_773⟩
theorem gc_RX6_141 : gCi RX6 141 yX3_init cX3_init 4 3 := ⟨⟨gw_779, gw_777, gw_25, ⟨by decide +kernel, by decide +kernel, by decide +kernel⟩⟩, gw_778, rfl⟩
theorem gc_RX3_23 : gCi RX3 23 yX1_init cX1_init 1 0 := ⟨⟨gw_785, gw_783, gw_26, ⟨by decide +kernel, by decide +kernel, by decide +kernel⟩⟩, gw_784, rfl⟩
theorem gc_RL_37 : gCv RL 37 yX6_dot cX6_dot 5 (some Jvm.ClassFile.FieldType.int) 3 := ⟨⟨gw_829, gw_826, gw_1, ⟨by decide +kernel, by decide +kernel, by decide +kernel⟩⟩, gw_827, gw_828⟩
theorem gc_RX6_148 : gCv RX6 148 yX6_spotOn cX6_spotOn 4 (some (Jvm.ClassFile.FieldType.object "GraticulePress$Spot")) 2 := ⟨⟨gw_833, gw_830, gw_1, ⟨by decide +kernel, by decide +kernel, by decide +kernel⟩⟩, gw_832, (gwA_mem (by unfold lw_tbl; exact List.mem_append_left _ (List.mem_of_getElem? (i := 11) (by decide +kernel))) rfl)⟩
theorem gc_RX6_163 : gCv RX6 163 yX6_sheetNumbered cX6_sheetNumbered 2 (some (Jvm.ClassFile.FieldType.object "GraticulePress$Sheet")) 1 := ⟨⟨gw_837, gw_834, gw_1, ⟨by decide +kernel, by decide +kernel, by decide +kernel⟩⟩, gw_836, (gwA_mem (by unfold lw_tbl; exact List.mem_append_left _ (List.mem_of_getElem? (i := 12) (by decide +kernel))) rfl)⟩
theorem gc_RX6_216 : gCv RX6 216 yX3_spotOf cX3_spotOf 2 (some (Jvm.ClassFile.FieldType.object "GraticulePress$Spot")) 1 := ⟨⟨gw_842, gw_839, gw_25, ⟨by decide +kernel, by decide +kernel, by decide +kernel⟩⟩, gw_840, gw_841⟩
theorem gc_RL_41 : gCv RL 41 yX6_side cX6_side 3 (some Jvm.ClassFile.FieldType.int) 2 := ⟨⟨gw_849, gw_846, gw_1, ⟨by decide +kernel, by decide +kernel, by decide +kernel⟩⟩, gw_847, gw_848⟩
theorem gc_RL_45 : gCv RL 45 yX6_drawn cX6_drawn 5 (some Jvm.ClassFile.FieldType.char) 3 := ⟨⟨gw_856, gw_853, gw_1, ⟨by decide +kernel, by decide +kernel, by decide +kernel⟩⟩, gw_854, gw_855⟩
theorem gc_RX6_167 : gCs RX6 167 yX6_isOnGrid cX6_isOnGrid 2 (some Jvm.ClassFile.FieldType.boolean) 2 := ⟨⟨gw_435, gw_857, gw_1, ⟨by decide +kernel, by decide +kernel, by decide +kernel⟩⟩, gw_434⟩
theorem gc_RX6_177 : gCv RX6 177 yX1_signAt cX1_signAt 3 (some Jvm.ClassFile.FieldType.char) 2 := ⟨⟨gw_468, gw_859, gw_26, ⟨by decide +kernel, by decide +kernel, by decide +kernel⟩⟩, gw_466, gw_467⟩
theorem gc_RL_48 : gCv RL 48 yX6_worth cX6_worth 2 (some Jvm.ClassFile.FieldType.int) 1 := ⟨⟨gw_866, gw_863, gw_1, ⟨by decide +kernel, by decide +kernel, by decide +kernel⟩⟩, gw_864, gw_865⟩
theorem gc_RX6_183 : gCv RX6 183 yX3_worthToday cX3_worthToday 4 (some Jvm.ClassFile.FieldType.int) 0 := ⟨⟨gw_870, gw_867, gw_25, ⟨by decide +kernel, by decide +kernel, by decide +kernel⟩⟩, gw_868, gw_869⟩
theorem gc_RL_51 : gCv RL 51 yX6_best cX6_best 3 (some Jvm.ClassFile.FieldType.int) 1 := ⟨⟨gw_877, gw_874, gw_1, ⟨by decide +kernel, by decide +kernel, by decide +kernel⟩⟩, gw_875, gw_876⟩
theorem gc_RX6_191 : gCv RX6 191 yX3_greatestWorth cX3_greatestWorth 1 (some Jvm.ClassFile.FieldType.int) 0 := ⟨⟨gw_882, gw_879, gw_25, ⟨by decide +kernel, by decide +kernel, by decide +kernel⟩⟩, gw_880, gw_881⟩
theorem gc_RX3_116 : gCs RX3 116 yX3_greatestFrom cX3_greatestFrom 9 (some Jvm.ClassFile.FieldType.int) 4 := ⟨⟨gw_885, gw_883, gw_25, ⟨by decide +kernel, by decide +kernel, by decide +kernel⟩⟩, gw_884⟩
theorem gc_RX3_120 : gCs RX3 120 yX3_ranksFrom cX3_ranksFrom 6 (some Jvm.ClassFile.FieldType.int) 3 := ⟨⟨gw_888, gw_886, gw_25, ⟨by decide +kernel, by decide +kernel, by decide +kernel⟩⟩, gw_887⟩
theorem gc_RX3_132 : gCs RX3 132 yJ9_max_7cf53 cJ9_max_7cf53 2 (some Jvm.ClassFile.FieldType.int) 2 := ⟨⟨gw_221, gw_889, gw_13, ⟨by decide +kernel, by decide +kernel, by decide +kernel⟩⟩, gw_220⟩
theorem gc_RX3_124 : gCv RX3 124 yX5_mayStand cX5_mayStand 4 (some Jvm.ClassFile.FieldType.boolean) 2 := ⟨⟨gw_443, gw_890, gw_19, ⟨by decide +kernel, by decide +kernel, by decide +kernel⟩⟩, gw_441, gw_442⟩
theorem gc_RX3_128 : gCv RX3 128 yX5_write cX5_write 3 none 2 := ⟨⟨gw_472, gw_891, gw_19, ⟨by decide +kernel, by decide +kernel, by decide +kernel⟩⟩, gw_470, gw_471⟩
theorem gc_RX3_138 : gCv RX3 138 yX5_erase cX5_erase 4 none 2 := ⟨⟨gw_895, gw_892, gw_19, ⟨by decide +kernel, by decide +kernel, by decide +kernel⟩⟩, gw_893, gw_894⟩
theorem gc_RX5_70 : gCv RX5 70 yX1_erase cX1_erase 5 none 3 := ⟨⟨gw_899, gw_896, gw_26, ⟨by decide +kernel, by decide +kernel, by decide +kernel⟩⟩, gw_897, gw_898⟩
theorem gc_RL_54 : gCv RL 54 yX6_print cX6_print 4 (some Jvm.ClassFile.FieldType.int) 0 := ⟨⟨gw_906, gw_903, gw_1, ⟨by decide +kernel, by decide +kernel, by decide +kernel⟩⟩, gw_904, gw_905⟩
theorem gc_RX6_196 : gCi RX6 196 yX0_init cX0_init 1 0 := ⟨⟨gw_911, gw_909, gw_27, ⟨by decide +kernel, by decide +kernel, by decide +kernel⟩⟩, gw_910, rfl⟩
theorem gc_RX6_197 : gCv RX6 197 yX0_keep cX0_keep 4 none 2 := ⟨⟨gw_922, gw_919, gw_27, ⟨by decide +kernel, by decide +kernel, by decide +kernel⟩⟩, gw_920, gw_921⟩
theorem gc_RX0_17 : gCi RX0 17 yX1_init cX1_init 1 0 := ⟨⟨gw_785, gw_923, gw_26, ⟨by decide +kernel, by decide +kernel, by decide +kernel⟩⟩, gw_784, rfl⟩
theorem gc_RX0_18 : gCv RX0 18 yX1_copyFrom cX1_copyFrom 3 none 1 := ⟨⟨gw_927, gw_924, gw_26, ⟨by decide +kernel, by decide +kernel, by decide +kernel⟩⟩, gw_925, gw_926⟩
theorem gc_RL_58 : gCv RL 58 yX6_printed cX6_printed 6 (some Jvm.ClassFile.FieldType.char) 4 := ⟨⟨gw_934, gw_931, gw_1, ⟨by decide +kernel, by decide +kernel, by decide +kernel⟩⟩, gw_932, gw_933⟩
theorem gc_RX6_201 : gCv RX6 201 yX6_editionNumbered cX6_editionNumbered 2 (some (Jvm.ClassFile.FieldType.object "GraticulePress$Edition")) 1 := ⟨⟨gw_938, gw_935, gw_1, ⟨by decide +kernel, by decide +kernel, by decide +kernel⟩⟩, gw_937, (gwA_mem (by unfold lw_tbl; exact List.mem_append_left _ (List.mem_of_getElem? (i := 13) (by decide +kernel))) rfl)⟩
theorem gc_RX6_207 : gCv RX6 207 yX0_signAt cX0_signAt 4 (some Jvm.ClassFile.FieldType.char) 3 := ⟨⟨gw_944, gw_941, gw_27, ⟨by decide +kernel, by decide +kernel, by decide +kernel⟩⟩, gw_942, gw_943⟩
theorem gc_RX0_22 : gCv RX0 22 yX1_signAt cX1_signAt 3 (some Jvm.ClassFile.FieldType.char) 2 := ⟨⟨gw_468, gw_945, gw_26, ⟨by decide +kernel, by decide +kernel, by decide +kernel⟩⟩, gw_466, gw_467⟩
theorem gc_RL_65 : gCi RL 65 yX7_init cX7_init 1 0 := ⟨⟨gw_950, gw_948, gw_6, ⟨by decide +kernel, by decide +kernel, by decide +kernel⟩⟩, gw_949, rfl⟩
theorem gc_RL_72 : gCv RL 72 yX7_thrown cX7_thrown 1 (some Jvm.ClassFile.FieldType.int) 0 := ⟨⟨gw_1041, gw_1038, gw_6, ⟨by decide +kernel, by decide +kernel, by decide +kernel⟩⟩, gw_1039, gw_1040⟩
theorem gc_RL_71 : gCv RL 71 yX7_letter cX7_letter 2 (some Jvm.ClassFile.FieldType.int) 1 := ⟨⟨gw_1045, gw_1042, gw_6, ⟨by decide +kernel, by decide +kernel, by decide +kernel⟩⟩, gw_1043, gw_1044⟩
theorem gc_RX7_81 : gCs RX7 81 yX7_in cX7_in 3 (some Jvm.ClassFile.FieldType.boolean) 3 := ⟨⟨gw_1048, gw_1046, gw_6, ⟨by decide +kernel, by decide +kernel, by decide +kernel⟩⟩, gw_1047⟩
theorem gc_RX7_91 : gCv RX7 91 yX7_goes cX7_goes 4 (some Jvm.ClassFile.FieldType.boolean) 3 := ⟨⟨gw_1052, gw_1049, gw_6, ⟨by decide +kernel, by decide +kernel, by decide +kernel⟩⟩, gw_1051, (gwA_mem (by unfold lw_tbl; exact List.mem_append_left _ (List.mem_of_getElem? (i := 14) (by decide +kernel))) rfl)⟩
theorem gc_RL_78 : gCv RL 78 yX7_place cX7_place 4 (some Jvm.ClassFile.FieldType.int) 3 := ⟨⟨gw_1056, gw_1053, gw_6, ⟨by decide +kernel, by decide +kernel, by decide +kernel⟩⟩, gw_1054, gw_1055⟩
theorem gc_RL_82 : gCv RL 82 yX7_name cX7_name 7 (some Jvm.ClassFile.FieldType.int) 1 := ⟨⟨gw_1060, gw_1057, gw_6, ⟨by decide +kernel, by decide +kernel, by decide +kernel⟩⟩, gw_1058, gw_1059⟩
theorem gc_RX7_95 : gCv RX7 95 yX7_isPlace cX7_isPlace 2 (some Jvm.ClassFile.FieldType.boolean) 1 := ⟨⟨gw_1064, gw_1061, gw_6, ⟨by decide +kernel, by decide +kernel, by decide +kernel⟩⟩, gw_1063, (gwA_mem (by unfold lw_tbl; exact List.mem_append_left _ (List.mem_of_getElem? (i := 15) (by decide +kernel))) rfl)⟩
theorem gc_RX7_99 : gCv RX7 99 yX7_lays cX7_lays 6 none 1 := ⟨⟨gw_1068, gw_1065, gw_6, ⟨by decide +kernel, by decide +kernel, by decide +kernel⟩⟩, gw_1067, (gwA_mem (by unfold lw_tbl; exact List.mem_append_left _ (List.mem_of_getElem? (i := 16) (by decide +kernel))) rfl)⟩
theorem gc_RX7_131 : gCv RX7 131 yX7_dots cX7_dots 4 none 2 := ⟨⟨gw_1072, gw_1069, gw_6, ⟨by decide +kernel, by decide +kernel, by decide +kernel⟩⟩, gw_1071, (gwA_mem (by unfold lw_tbl; exact List.mem_append_left _ (List.mem_of_getElem? (i := 17) (by decide +kernel))) rfl)⟩
theorem gc_RX7_114 : gCv RX7 114 yX7_isOn cX7_isOn 3 (some Jvm.ClassFile.FieldType.boolean) 2 := ⟨⟨gw_1076, gw_1073, gw_6, ⟨by decide +kernel, by decide +kernel, by decide +kernel⟩⟩, gw_1075, (gwA_mem (by unfold lw_tbl; exact List.mem_append_left _ (List.mem_of_getElem? (i := 18) (by decide +kernel))) rfl)⟩
theorem gc_RX7_118 : gCv RX7 118 yX7_columnOf cX7_columnOf 6 (some Jvm.ClassFile.FieldType.int) 2 := ⟨⟨gw_1080, gw_1077, gw_6, ⟨by decide +kernel, by decide +kernel, by decide +kernel⟩⟩, gw_1079, (gwA_mem (by unfold lw_tbl; exact List.mem_append_left _ (List.mem_of_getElem? (i := 19) (by decide +kernel))) rfl)⟩
theorem gc_RX7_121 : gCv RX7 121 yX7_rowOf cX7_rowOf 3 (some Jvm.ClassFile.FieldType.int) 2 := ⟨⟨gw_1088, gw_1085, gw_6, ⟨by decide +kernel, by decide +kernel, by decide +kernel⟩⟩, gw_1087, (gwA_mem (by unfold lw_tbl; exact List.mem_append_left _ (List.mem_of_getElem? (i := 20) (by decide +kernel))) rfl)⟩
theorem gc_RX7_135 : gCv RX7 135 yX7_hasName cX7_hasName 2 (some Jvm.ClassFile.FieldType.boolean) 1 := ⟨⟨gw_1092, gw_1089, gw_6, ⟨by decide +kernel, by decide +kernel, by decide +kernel⟩⟩, gw_1091, (gwA_mem (by unfold lw_tbl; exact List.mem_append_left _ (List.mem_of_getElem? (i := 21) (by decide +kernel))) rfl)⟩
theorem gc_RX7_106 : gCv RX7 106 yX7_nameOn cX7_nameOn 5 (some Jvm.ClassFile.FieldType.int) 2 := ⟨⟨gw_1096, gw_1093, gw_6, ⟨by decide +kernel, by decide +kernel, by decide +kernel⟩⟩, gw_1095, (gwA_mem (by unfold lw_tbl; exact List.mem_append_left _ (List.mem_of_getElem? (i := 22) (by decide +kernel))) rfl)⟩
theorem gc_RX7_138 : gCv RX7 138 yX7_mayStand cX7_mayStand 8 (some Jvm.ClassFile.FieldType.boolean) 3 := ⟨⟨gw_1100, gw_1097, gw_6, ⟨by decide +kernel, by decide +kernel, by decide +kernel⟩⟩, gw_1099, (gwA_mem (by unfold lw_tbl; exact List.mem_append_left _ (List.mem_of_getElem? (i := 23) (by decide +kernel))) rfl)⟩
theorem gc_RX7_124 : gCs RX7 124 yX7_rowAt cX7_rowAt 2 (some Jvm.ClassFile.FieldType.int) 2 := ⟨⟨gw_1103, gw_1101, gw_6, ⟨by decide +kernel, by decide +kernel, by decide +kernel⟩⟩, gw_1102⟩
theorem gc_RX7_127 : gCs RX7 127 yX7_columnAt cX7_columnAt 3 (some Jvm.ClassFile.FieldType.int) 3 := ⟨⟨gw_1106, gw_1104, gw_6, ⟨by decide +kernel, by decide +kernel, by decide +kernel⟩⟩, gw_1105⟩
theorem gc_RX7_141 : gCv RX7 141 yX7_puts cX7_puts 7 none 3 := ⟨⟨gw_1110, gw_1107, gw_6, ⟨by decide +kernel, by decide +kernel, by decide +kernel⟩⟩, gw_1109, (gwA_mem (by unfold lw_tbl; exact List.mem_append_left _ (List.mem_of_getElem? (i := 24) (by decide +kernel))) rfl)⟩
theorem gc_RL_85 : gCv RL 85 yX7_spelled cX7_spelled 5 (some Jvm.ClassFile.FieldType.char) 3 := ⟨⟨gw_1114, gw_1111, gw_6, ⟨by decide +kernel, by decide +kernel, by decide +kernel⟩⟩, gw_1112, gw_1113⟩
theorem gc_RL_88 : gCv RL 88 yX7_pass cX7_pass 2 (some Jvm.ClassFile.FieldType.int) 1 := ⟨⟨gw_1118, gw_1115, gw_6, ⟨by decide +kernel, by decide +kernel, by decide +kernel⟩⟩, gw_1116, gw_1117⟩
theorem gc_RL_91 : gCv RL 91 yX7_sheet cX7_sheet 4 (some Jvm.ClassFile.FieldType.int) 3 := ⟨⟨gw_1122, gw_1119, gw_6, ⟨by decide +kernel, by decide +kernel, by decide +kernel⟩⟩, gw_1120, gw_1121⟩
theorem gc_RL_95 : gCv RL 95 yX7_dot cX7_dot 4 (some Jvm.ClassFile.FieldType.int) 3 := ⟨⟨gw_1126, gw_1123, gw_6, ⟨by decide +kernel, by decide +kernel, by decide +kernel⟩⟩, gw_1124, gw_1125⟩
theorem gc_RX7_145 : gCv RX7 145 yX7_isSheet cX7_isSheet 2 (some Jvm.ClassFile.FieldType.boolean) 1 := ⟨⟨gw_1130, gw_1127, gw_6, ⟨by decide +kernel, by decide +kernel, by decide +kernel⟩⟩, gw_1129, (gwA_mem (by unfold lw_tbl; exact List.mem_append_left _ (List.mem_of_getElem? (i := 25) (by decide +kernel))) rfl)⟩
theorem gc_RL_99 : gCv RL 99 yX7_side cX7_side 3 (some Jvm.ClassFile.FieldType.int) 2 := ⟨⟨gw_1134, gw_1131, gw_6, ⟨by decide +kernel, by decide +kernel, by decide +kernel⟩⟩, gw_1132, gw_1133⟩
theorem gc_RL_102 : gCv RL 102 yX7_drawn cX7_drawn 4 (some Jvm.ClassFile.FieldType.char) 3 := ⟨⟨gw_1138, gw_1135, gw_6, ⟨by decide +kernel, by decide +kernel, by decide +kernel⟩⟩, gw_1136, gw_1137⟩
theorem gc_RX7_148 : gCs RX7 148 yX7_isCell cX7_isCell 2 (some Jvm.ClassFile.FieldType.boolean) 2 := ⟨⟨gw_1141, gw_1139, gw_6, ⟨by decide +kernel, by decide +kernel, by decide +kernel⟩⟩, gw_1140⟩
theorem gc_RL_105 : gCv RL 105 yX7_worth cX7_worth 4 (some Jvm.ClassFile.FieldType.int) 1 := ⟨⟨gw_1145, gw_1142, gw_6, ⟨by decide +kernel, by decide +kernel, by decide +kernel⟩⟩, gw_1143, gw_1144⟩
theorem gc_RL_108 : gCv RL 108 yX7_best cX7_best 6 (some Jvm.ClassFile.FieldType.int) 1 := ⟨⟨gw_1149, gw_1146, gw_6, ⟨by decide +kernel, by decide +kernel, by decide +kernel⟩⟩, gw_1147, gw_1148⟩
theorem gc_RX7_157 : gCv RX7 157 yX7_canTry cX7_canTry 4 (some Jvm.ClassFile.FieldType.boolean) 1 := ⟨⟨gw_1153, gw_1150, gw_6, ⟨by decide +kernel, by decide +kernel, by decide +kernel⟩⟩, gw_1152, (gwA_mem (by unfold lw_tbl; exact List.mem_append_left _ (List.mem_of_getElem? (i := 26) (by decide +kernel))) rfl)⟩
theorem gc_RX7_160 : gCv RX7 160 yX7_worthOf cX7_worthOf 8 (some Jvm.ClassFile.FieldType.int) 1 := ⟨⟨gw_1157, gw_1154, gw_6, ⟨by decide +kernel, by decide +kernel, by decide +kernel⟩⟩, gw_1156, (gwA_mem (by unfold lw_tbl; exact List.mem_append_left _ (List.mem_of_getElem? (i := 27) (by decide +kernel))) rfl)⟩
theorem gc_RX7_154 : gCv RX7 154 yX7_takes cX7_takes 7 none 3 := ⟨⟨gw_1161, gw_1158, gw_6, ⟨by decide +kernel, by decide +kernel, by decide +kernel⟩⟩, gw_1160, (gwA_mem (by unfold lw_tbl; exact List.mem_append_left _ (List.mem_of_getElem? (i := 28) (by decide +kernel))) rfl)⟩
theorem gc_RL_112 : gCv RL 112 yX7_print cX7_print 3 (some Jvm.ClassFile.FieldType.int) 0 := ⟨⟨gw_1165, gw_1162, gw_6, ⟨by decide +kernel, by decide +kernel, by decide +kernel⟩⟩, gw_1163, gw_1164⟩
theorem gc_RL_116 : gCv RL 116 yX7_printed cX7_printed 7 (some Jvm.ClassFile.FieldType.char) 4 := ⟨⟨gw_1169, gw_1166, gw_6, ⟨by decide +kernel, by decide +kernel, by decide +kernel⟩⟩, gw_1167, gw_1168⟩
theorem gn_RL_8 : gNw RL 8 10 8 [.null, .null, .null, .null, vi 0, vi 0, vi 0, vi 0] := ⟨RX6, TX6, rfl, gwu_10, gw_28, gw_29, gw_1, tyX6, tyX6_ok, fun j hj => by rcases (show j = 0 ∨ j = 1 ∨ j = 2 ∨ j = 3 ∨ j = 4 ∨ j = 5 ∨ j = 6 ∨ j = 7 by omega) with rfl | rfl | rfl | rfl | rfl | rfl | rfl | rfl <;> rfl⟩
theorem gn_RX6_7 : gNw RX6 7 1 4 [.null, vi 0, vi 0, vi 0] := ⟨RJ4, TJ4, rfl, gwu_1, gw_36, gw_37, gw_3, tyJ4, tyJ4_ok, fun j hj => by rcases (show j = 0 ∨ j = 1 ∨ j = 2 ∨ j = 3 by omega) with rfl | rfl | rfl | rfl <;> rfl⟩
theorem gn_RX6_16 : gNw RX6 16 6 5 [vi 0, vi 0, vi 0, .null, vi 0] := ⟨RX2, TX2, rfl, gwu_6, gw_69, gw_308, gw_18, tyX2, tyX2_ok, fun j hj => by rcases (show j = 0 ∨ j = 1 ∨ j = 2 ∨ j = 3 ∨ j = 4 by omega) with rfl | rfl | rfl | rfl | rfl <;> rfl⟩
theorem ga_RX6_16 : Cond.classLink RX6 16 RX2 ∈ gwA ∧ RX2 ∈ gAo := ⟨gw_69, by decide⟩
theorem gn_RX6_22 : gNw RX6 22 7 9 [.null, .null, vi 0, vi 0, vi 0, .null, vi 0, .null, vi 0] := ⟨RX3, TX3, rfl, gwu_7, gw_71, gw_345, gw_25, tyX3, tyX3_ok, fun j hj => by rcases (show j = 0 ∨ j = 1 ∨ j = 2 ∨ j = 3 ∨ j = 4 ∨ j = 5 ∨ j = 6 ∨ j = 7 ∨ j = 8 by omega) with rfl | rfl | rfl | rfl | rfl | rfl | rfl | rfl | rfl <;> rfl⟩
theorem ga_RX6_22 : Cond.classLink RX6 22 RX3 ∈ gwA ∧ RX3 ∈ gAo := ⟨gw_71, by decide⟩
theorem gn_RX6_28 : gNw RX6 28 4 1 [.null] := ⟨RX0, TX0, rfl, gwu_4, gw_73, gw_908, gw_27, tyX0, tyX0_ok, fun j hj => by rcases (show j = 0 by omega) with rfl <;> rfl⟩
theorem ga_RX6_28 : Cond.classLink RX6 28 RX0 ∈ gwA ∧ RX0 ∈ gAo := ⟨gw_73, by decide⟩
theorem gn_RX2_21 : gNw RX2 21 8 2 [vi 0, .null] := ⟨RX4, TX4, rfl, gwu_8, gw_313, gw_532, gw_21, tyX4, tyX4_ok, fun j hj => by rcases (show j = 0 ∨ j = 1 by omega) with rfl | rfl <;> rfl⟩
theorem ga_RX2_21 : Cond.classLink RX2 21 RX4 ∈ gwA ∧ RX4 ∈ gAo := ⟨gw_313, by decide⟩
theorem gn_RX3_31 : gNw RX3 31 9 7 [vi 0, vi 0, vi 0, .null, .null, vi 0, vi 0] := ⟨RX5, TX5, rfl, gwu_9, gw_348, gw_349, gw_19, tyX5, tyX5_ok, fun j hj => by rcases (show j = 0 ∨ j = 1 ∨ j = 2 ∨ j = 3 ∨ j = 4 ∨ j = 5 ∨ j = 6 by omega) with rfl | rfl | rfl | rfl | rfl | rfl | rfl <;> rfl⟩
theorem ga_RX3_31 : Cond.classLink RX3 31 RX5 ∈ gwA ∧ RX5 ∈ gAo := ⟨gw_348, by decide⟩
theorem gn_RX6_94 : gNw RX6 94 8 2 [vi 0, .null] := ⟨RX4, TX4, rfl, gwu_8, gw_531, gw_532, gw_21, tyX4, tyX4_ok, fun j hj => by rcases (show j = 0 ∨ j = 1 by omega) with rfl | rfl <;> rfl⟩
theorem ga_RX6_94 : Cond.classLink RX6 94 RX4 ∈ gwA ∧ RX4 ∈ gAo := ⟨gw_531, by decide⟩
theorem gn_RJ4_18 : gNw RJ4 18 0 4 [.null, vi 0, vi 0, vi 0] := ⟨RJ0, TJ0, rfl, gwu_0, gw_537, gw_538, gw_4, tyJ0, tyJ0_ok, fun j hj => by rcases (show j = 0 ∨ j = 1 ∨ j = 2 ∨ j = 3 by omega) with rfl | rfl | rfl | rfl <;> rfl⟩
theorem gn_RJ7_45 : gNw RJ7 45 1 4 [.null, vi 0, vi 0, vi 0] := ⟨RJ4, TJ4, rfl, gwu_1, gw_563, gw_37, gw_3, tyJ4, tyJ4_ok, fun j hj => by rcases (show j = 0 ∨ j = 1 ∨ j = 2 ∨ j = 3 by omega) with rfl | rfl | rfl | rfl <;> rfl⟩
theorem gn_RJx7c733_10 : gNw RJx7c733 10 1 4 [.null, vi 0, vi 0, vi 0] := ⟨RJ4, TJ4, rfl, gwu_1, gw_682, gw_37, gw_3, tyJ4, tyJ4_ok, fun j hj => by rcases (show j = 0 ∨ j = 1 ∨ j = 2 ∨ j = 3 by omega) with rfl | rfl | rfl | rfl <;> rfl⟩
theorem gn_RJx00060_10 : gNw RJx00060 10 1 4 [.null, vi 0, vi 0, vi 0] := ⟨RJ4, TJ4, rfl, gwu_1, gw_722, gw_37, gw_3, tyJ4, tyJ4_ok, fun j hj => by rcases (show j = 0 ∨ j = 1 ∨ j = 2 ∨ j = 3 by omega) with rfl | rfl | rfl | rfl <;> rfl⟩
theorem gn_RX3_21 : gNw RX3 21 5 1 [.null] := ⟨RX1, TX1, rfl, gwu_5, gw_781, gw_782, gw_26, tyX1, tyX1_ok, fun j hj => by rcases (show j = 0 by omega) with rfl <;> rfl⟩
theorem ga_RX3_21 : Cond.classLink RX3 21 RX1 ∈ gwA ∧ RX1 ∈ gAo := ⟨gw_781, by decide⟩
theorem gn_RX0_9 : gNw RX0 9 5 1 [.null] := ⟨RX1, TX1, rfl, gwu_5, gw_913, gw_782, gw_26, tyX1, tyX1_ok, fun j hj => by rcases (show j = 0 by omega) with rfl <;> rfl⟩
theorem ga_RX0_9 : Cond.classLink RX0 9 RX1 ∈ gwA ∧ RX1 ∈ gAo := ⟨gw_913, by decide⟩
theorem gn_RL_63 : gNw RL 63 11 28 [vi 0, vi 0, .null, vi 0, .null, .null, .null, .null, .null, .null, .null, vi 0, .null, .null, .null, .null, .null, .null, .null, .null, vi 0, .null, vi 0, .null, .null, .null, .null, vi 0] := ⟨RX7, TX7, rfl, gwu_11, gw_946, gw_947, gw_6, tyX7, tyX7_ok, fun j hj => by rcases (show j = 0 ∨ j = 1 ∨ j = 2 ∨ j = 3 ∨ j = 4 ∨ j = 5 ∨ j = 6 ∨ j = 7 ∨ j = 8 ∨ j = 9 ∨ j = 10 ∨ j = 11 ∨ j = 12 ∨ j = 13 ∨ j = 14 ∨ j = 15 ∨ j = 16 ∨ j = 17 ∨ j = 18 ∨ j = 19 ∨ j = 20 ∨ j = 21 ∨ j = 22 ∨ j = 23 ∨ j = 24 ∨ j = 25 ∨ j = 26 ∨ j = 27 by omega) with rfl | rfl | rfl | rfl | rfl | rfl | rfl | rfl | rfl | rfl | rfl | rfl | rfl | rfl | rfl | rfl | rfl | rfl | rfl | rfl | rfl | rfl | rfl | rfl | rfl | rfl | rfl | rfl <;> rfl⟩
theorem ga_char : Cond.arrayClass .char ∈ gwA := gw_791
theorem ga_int : Cond.arrayClass .int ∈ gwA := gw_1037
theorem ga_byte : Cond.arrayClass .byte ∈ gwA := gw_68
theorem ga_long : Cond.arrayClass .long ∈ gwA := gw_1170
theorem go_RX6 : Cond.methodLink RX6 1 objectInit ∈ gwA := gw_33
theorem go_RJ5 : Cond.methodLink RJ5 3 objectInit ∈ gwA := gw_44
theorem go_RX2 : Cond.methodLink RX2 3 objectInit ∈ gwA := gw_312
theorem go_RX5 : Cond.methodLink RX5 3 objectInit ∈ gwA := gw_366
theorem go_RJ0 : Cond.methodLink RJ0 1 objectInit ∈ gwA := gw_545
theorem go_RX4 : Cond.methodLink RX4 1 objectInit ∈ gwA := gw_656
theorem go_RX3 : Cond.methodLink RX3 3 objectInit ∈ gwA := gw_780
theorem go_RX1 : Cond.methodLink RX1 3 objectInit ∈ gwA := gw_786
theorem go_RX0 : Cond.methodLink RX0 3 objectInit ∈ gwA := gw_912
theorem go_RX7 : Cond.methodLink RX7 1 objectInit ∈ gwA := gw_951
theorem go_i : Cond.instanceMethod objectInit ∈ gwA := gw_34
theorem go_c : Cond.code objectInit ⟨#[0xb1]⟩ 1 none ∈ gwA := gw_35
theorem gt5_51 : (vx_atS RX6 51 "java/lang/IllegalArgumentException" ["java/lang/RuntimeException", "java/lang/Exception"]).all (fun w => decide (w ∈ lw_tbl) && (goodWord w || gBk w)) = true := by decide +kernel
theorem gt6_51 : (Cond.classLink RX6 47 "java/lang/IllegalArgumentException" :: Cond.initialized "java/lang/IllegalArgumentException" :: vx_atS RX6 51 "java/lang/IllegalArgumentException" ["java/lang/RuntimeException", "java/lang/Exception"]).all vx_ot = true := by decide +kernel
theorem gt_49_51 : gTh RX6 47 49 51 "java/lang/IllegalArgumentException" "the letter is none of a to z" := gTh.of (by decide) gw_109 gw_10 (by decide) gt5_51 gt6_51
theorem gt5_62 : (vx_atS RX6 62 "java/lang/IllegalStateException" ["java/lang/RuntimeException", "java/lang/Exception"]).all (fun w => decide (w ∈ lw_tbl) && (goodWord w || gBk w)) = true := by decide +kernel
theorem gt6_62 : (Cond.classLink RX6 58 "java/lang/IllegalStateException" :: Cond.initialized "java/lang/IllegalStateException" :: vx_atS RX6 62 "java/lang/IllegalStateException" ["java/lang/RuntimeException", "java/lang/Exception"]).all vx_ot = true := by decide +kernel
theorem gt_60_62 : gTh RX6 58 60 62 "java/lang/IllegalStateException" "the word has 8 letters" := gTh.of (by decide) gw_185 gw_11 (by decide) gt5_62 gt6_62
theorem gt_71_51 : gTh RX6 47 71 51 "java/lang/IllegalArgumentException" "length, breadth or rank is out of range" := gTh.of (by decide) gw_109 gw_10 (by decide) gt5_51 gt6_51
theorem gt_73_62 : gTh RX6 58 73 62 "java/lang/IllegalStateException" "there are 14 places" := gTh.of (by decide) gw_185 gw_11 (by decide) gt5_62 gt6_62
theorem gt_86_62 : gTh RX6 58 86 62 "java/lang/IllegalStateException" "nothing is typed" := gTh.of (by decide) gw_185 gw_11 (by decide) gt5_62 gt6_62
theorem gt_92_62 : gTh RX6 58 92 62 "java/lang/IllegalStateException" "the place was told 6 names" := gTh.of (by decide) gw_185 gw_11 (by decide) gt5_62 gt6_62
theorem gt5_119 : (vx_atS RX6 119 "java/lang/IndexOutOfBoundsException" ["java/lang/RuntimeException", "java/lang/Exception"]).all (fun w => decide (w ∈ lw_tbl) && (goodWord w || gBk w)) = true := by decide +kernel
theorem gt6_119 : (Cond.classLink RX6 115 "java/lang/IndexOutOfBoundsException" :: Cond.initialized "java/lang/IndexOutOfBoundsException" :: vx_atS RX6 119 "java/lang/IndexOutOfBoundsException" ["java/lang/RuntimeException", "java/lang/Exception"]).all vx_ot = true := by decide +kernel
theorem gt_117_119 : gTh RX6 115 117 119 "java/lang/IndexOutOfBoundsException" "there is no such letter" := gTh.of (by decide) gw_509 gw_20 (by decide) gt5_119 gt6_119
theorem gt_120_51 : gTh RX6 47 120 51 "java/lang/IllegalArgumentException" "the day is out of range" := gTh.of (by decide) gw_109 gw_10 (by decide) gt5_51 gt6_51
theorem gt_133_51 : gTh RX6 47 133 51 "java/lang/IllegalArgumentException" "days is out of range" := gTh.of (by decide) gw_109 gw_10 (by decide) gt5_51 gt6_51
theorem gt_135_62 : gTh RX6 58 135 62 "java/lang/IllegalStateException" "the day would be above 10000" := gTh.of (by decide) gw_185 gw_11 (by decide) gt5_62 gt6_62
theorem gt_137_51 : gTh RX6 47 137 51 "java/lang/IllegalArgumentException" "length, breadth or kind is out of range" := gTh.of (by decide) gw_109 gw_10 (by decide) gt5_51 gt6_51
theorem gt_139_62 : gTh RX6 58 139 62 "java/lang/IllegalStateException" "there are 4 sheets" := gTh.of (by decide) gw_185 gw_11 (by decide) gt5_62 gt6_62
theorem gt_171_119 : gTh RX6 115 171 119 "java/lang/IndexOutOfBoundsException" "there is no such row or column" := gTh.of (by decide) gw_509 gw_20 (by decide) gt5_119 gt6_119
theorem gt_189_62 : gTh RX6 58 189 62 "java/lang/IllegalStateException" "more than 4 places with a name are on the sheet" := gTh.of (by decide) gw_185 gw_11 (by decide) gt5_62 gt6_62
theorem gt_194_62 : gTh RX6 58 194 62 "java/lang/IllegalStateException" "there are 5 editions" := gTh.of (by decide) gw_185 gw_11 (by decide) gt5_62 gt6_62
theorem gt_205_119 : gTh RX6 115 205 119 "java/lang/IndexOutOfBoundsException" "there is no such sheet, row or column" := gTh.of (by decide) gw_509 gw_20 (by decide) gt5_119 gt6_119
theorem gt_210_119 : gTh RX6 115 210 119 "java/lang/IndexOutOfBoundsException" "there is no such place" := gTh.of (by decide) gw_509 gw_20 (by decide) gt5_119 gt6_119
theorem gt_212_119 : gTh RX6 115 212 119 "java/lang/IndexOutOfBoundsException" "there is no such sheet" := gTh.of (by decide) gw_509 gw_20 (by decide) gt5_119 gt6_119
theorem gt_214_119 : gTh RX6 115 214 119 "java/lang/IndexOutOfBoundsException" "there is no such edition" := gTh.of (by decide) gw_509 gw_20 (by decide) gt5_119 gt6_119
theorem gmx_RJ8 : Cond.methodLink RJ8 194 Lib.Math.max.name ∈ gwA := gw_219
theorem gmx_RX3 : Cond.methodLink RX3 132 Lib.Math.max.name ∈ gwA := gw_889
theorem gmx_s : Cond.static Lib.Math.max.name ∈ gwA := gw_220
theorem gmx_i : Cond.initialized "java/lang/Math" ∈ gwA := gw_13
theorem gmx_c : Cond.code Lib.Math.max.name Lib.Math.max.code 2 (some .int) ∈ gwA := gw_221
theorem gk_RX3_68 : Cond.constantFloat RX3 68 (1017370378 : UInt32) ∈ gwA := gw_354
theorem gk_RX3_69 : Cond.constantFloat RX3 69 (1097859072 : UInt32) ∈ gwA := gw_355
theorem gk_RX3_70 : Cond.constantFloat RX3 70 (1082130432 : UInt32) ∈ gwA := gw_356
theorem gk_RX3_71 : Cond.constantFloat RX3 71 (1077936128 : UInt32) ∈ gwA := gw_357
theorem gk_RX3_72 : Cond.constantFloat RX3 72 (1101004800 : UInt32) ∈ gwA := gw_358
theorem gk_RX7_110 : Cond.constantFloat RX7 110 (1017370378 : UInt32) ∈ gwA := gw_1081
theorem gk_RX7_111 : Cond.constantFloat RX7 111 (1082130432 : UInt32) ∈ gwA := gw_1082
theorem gk_RX7_112 : Cond.constantFloat RX7 112 (1077936128 : UInt32) ∈ gwA := gw_1083
theorem gk_RX7_113 : Cond.constantFloat RX7 113 (1101004800 : UInt32) ∈ gwA := gw_1084
