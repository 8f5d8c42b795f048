/-! words of the tables, field, call, new and throw sites (by wip/whole/gen/words.py) -/
theorem gwA_all {ws : List Cond} (h : ws.all (fun w => decide (w ∈ lw_tbl) && goodWord w) = true) : ∀ w ∈ ws, w ∈ gwA := fun w hw => by
  have := List.all_eq_true.mp h w hw
  simp only [Bool.and_eq_true, decide_eq_true_eq] at this
  exact gwA_mem this.1 this.2
theorem gw_0 : Jvm.Cond.initialized "GraticulePressLaw" ∈ gwA := gwA_at 0 (by decide +kernel) rfl
theorem gw_1 : Jvm.Cond.initialized "GraticulePress" ∈ gwA := gwA_at 1 (by decide +kernel) rfl
theorem gw_2 : Jvm.Cond.initialized "java/lang/AbstractStringBuilder" ∈ gwA := gwA_at 2 (by decide +kernel) rfl
theorem gw_3 : Jvm.Cond.initialized "java/lang/StringBuilder" ∈ gwA := gwA_at 3 (by decide +kernel) rfl
theorem gw_4 : Jvm.Cond.initialized "java/lang/String" ∈ gwA := gwA_at 4 (by decide +kernel) rfl
theorem gw_5 : Jvm.Cond.initialized "java/lang/StringUTF16" ∈ gwA := gwA_at 5 (by decide +kernel) rfl
theorem gw_9 : Jvm.Cond.initialized "java/lang/IllegalArgumentException" ∈ gwA := gwA_at 9 (by decide +kernel) rfl
theorem gw_10 : Jvm.Cond.initialized "java/lang/IllegalStateException" ∈ gwA := gwA_at 10 (by decide +kernel) rfl
theorem gw_11 : Jvm.Cond.initialized "GraticulePress$Sheet" ∈ gwA := gwA_at 11 (by decide +kernel) rfl
theorem gw_12 : Jvm.Cond.initialized "GraticulePress$Grid" ∈ gwA := gwA_at 12 (by decide +kernel) rfl
theorem gw_13 : Jvm.Cond.initialized "GraticulePress$Spot" ∈ gwA := gwA_at 13 (by decide +kernel) rfl
theorem gw_14 : Jvm.Cond.initialized "java/lang/StringLatin1" ∈ gwA := gwA_at 14 (by decide +kernel) rfl
theorem gw_15 : Jvm.Cond.initialized "jdk/internal/util/Preconditions" ∈ gwA := gwA_at 15 (by decide +kernel) rfl
theorem gw_16 : Jvm.Cond.initialized "GraticulePress$Place" ∈ gwA := gwA_at 16 (by decide +kernel) rfl
theorem gw_17 : Jvm.Cond.initialized "java/lang/IndexOutOfBoundsException" ∈ gwA := gwA_at 17 (by decide +kernel) rfl
theorem gw_18 : Jvm.Cond.initialized "jdk/internal/util/ArraysSupport" ∈ gwA := gwA_at 18 (by decide +kernel) rfl
theorem gw_19 : Jvm.Cond.initialized "java/lang/Math" ∈ gwA := gwA_at 19 (by decide +kernel) rfl
theorem gw_20 : Jvm.Cond.initialized "java/util/Arrays" ∈ gwA := gwA_at 20 (by decide +kernel) rfl
theorem gw_22 : Jvm.Cond.initialized "GraticulePress$Spelling" ∈ gwA := gwA_at 22 (by decide +kernel) rfl
theorem gw_23 : Jvm.Cond.initialized "java/lang/Integer" ∈ gwA := gwA_at 23 (by decide +kernel) rfl
theorem gw_24 : Jvm.Cond.initialized "java/lang/StringIndexOutOfBoundsException" ∈ gwA := gwA_at 24 (by decide +kernel) rfl
theorem gw_25 : Jvm.Cond.initialized "java/lang/ArrayIndexOutOfBoundsException" ∈ gwA := gwA_at 25 (by decide +kernel) rfl
theorem gw_26 : Jvm.Cond.initialized "GraticulePress$Edition" ∈ gwA := gwA_at 26 (by decide +kernel) rfl
theorem gw_27 : Jvm.Cond.classLink "GraticulePressLaw" (11 : Nat) "GraticulePress" ∈ gwA := gwA_at 27 (by decide +kernel) rfl
theorem gw_28 : Jvm.Cond.instantiable "GraticulePress" (8 : Nat) ∈ gwA := gwA_at 28 (by decide +kernel) rfl
theorem gw_29 : Jvm.Cond.methodLink "GraticulePressLaw" (136 : Nat) ({ cls := "GraticulePress", name := "<init>", desc := "()V" } : Jvm.MethodName) ∈ gwA := gwA_at 29 (by decide +kernel) rfl
theorem gw_30 : Jvm.Cond.instanceMethod ({ cls := "GraticulePress", name := "<init>", desc := "()V" } : Jvm.MethodName) ∈ gwA := gwA_at 30 (by decide +kernel) rfl
theorem gw_31 : Jvm.Cond.code ({ cls := "GraticulePress", name := "<init>", desc := "()V" } : Jvm.MethodName) prog_1_method_1_code (1 : Nat) (Option.none : Option Jvm.ClassFile.FieldType) ∈ gwA := gwA_at 31 (by decide +kernel) rfl
theorem gw_32 : Jvm.Cond.methodLink "GraticulePress" (1 : Nat) ({ cls := "java/lang/Object", name := "<init>", desc := "()V" } : Jvm.MethodName) ∈ gwA := gwA_at 32 (by decide +kernel) rfl
theorem gw_33 : Jvm.Cond.instanceMethod ({ cls := "java/lang/Object", name := "<init>", desc := "()V" } : Jvm.MethodName) ∈ gwA := gwA_at 33 (by decide +kernel) rfl
theorem gw_34 : Jvm.Cond.code ({ cls := "java/lang/Object", name := "<init>", desc := "()V" } : Jvm.MethodName) object_method_1_code (1 : Nat) (Option.none : Option Jvm.ClassFile.FieldType) ∈ gwA := gwA_at 34 (by decide +kernel) rfl
theorem gw_35 : Jvm.Cond.classLink "GraticulePress" (7 : Nat) "java/lang/StringBuilder" ∈ gwA := gwA_at 35 (by decide +kernel) rfl
theorem gw_36 : Jvm.Cond.instantiable "java/lang/StringBuilder" (4 : Nat) ∈ gwA := gwA_at 36 (by decide +kernel) rfl
theorem gw_37 : Jvm.Cond.methodLink "GraticulePress" (9 : Nat) ({ cls := "java/lang/StringBuilder", name := "<init>", desc := "()V" } : Jvm.MethodName) ∈ gwA := gwA_at 37 (by decide +kernel) rfl
theorem gw_38 : Jvm.Cond.instanceMethod ({ cls := "java/lang/StringBuilder", name := "<init>", desc := "()V" } : Jvm.MethodName) ∈ gwA := gwA_at 38 (by decide +kernel) rfl
theorem gw_39 : Jvm.Cond.code ({ cls := "java/lang/StringBuilder", name := "<init>", desc := "()V" } : Jvm.MethodName) prog_21_method_1_code (1 : Nat) (Option.none : Option Jvm.ClassFile.FieldType) ∈ gwA := gwA_at 39 (by decide +kernel) rfl
theorem gw_40 : Jvm.Cond.methodLink "java/lang/StringBuilder" (1 : Nat) ({ cls := "java/lang/AbstractStringBuilder", name := "<init>", desc := "(I)V" } : Jvm.MethodName) ∈ gwA := gwA_at 40 (by decide +kernel) rfl
theorem gw_41 : Jvm.Cond.instanceMethod ({ cls := "java/lang/AbstractStringBuilder", name := "<init>", desc := "(I)V" } : Jvm.MethodName) ∈ gwA := gwA_at 41 (by decide +kernel) rfl
theorem gw_42 : Jvm.Cond.code ({ cls := "java/lang/AbstractStringBuilder", name := "<init>", desc := "(I)V" } : Jvm.MethodName) prog_10_method_2_code (2 : Nat) (Option.none : Option Jvm.ClassFile.FieldType) ∈ gwA := gwA_at 42 (by decide +kernel) rfl
theorem gw_43 : Jvm.Cond.methodLink "java/lang/AbstractStringBuilder" (3 : Nat) ({ cls := "java/lang/Object", name := "<init>", desc := "()V" } : Jvm.MethodName) ∈ gwA := gwA_at 43 (by decide +kernel) rfl
theorem gw_46 : Jvm.Cond.methodLink "java/lang/AbstractStringBuilder" (26 : Nat) ({ cls := "java/lang/StringUTF16", name := "newBytesFor", desc := "(I)[B" } : Jvm.MethodName) ∈ gwA := gwA_at 46 (by decide +kernel) rfl
theorem gw_47 : Jvm.Cond.static ({ cls := "java/lang/StringUTF16", name := "newBytesFor", desc := "(I)[B" } : Jvm.MethodName) ∈ gwA := gwA_at 47 (by decide +kernel) rfl
theorem gw_48 : Jvm.Cond.code ({ cls := "java/lang/StringUTF16", name := "newBytesFor", desc := "(I)[B" } : Jvm.MethodName) prog_24_method_2_code (1 : Nat) (Option.some (Jvm.ClassFile.FieldType.array Jvm.ClassFile.FieldType.byte)) ∈ gwA := gwA_at 48 (by decide +kernel) rfl
theorem gw_49 : Jvm.Cond.methodLink "java/lang/StringUTF16" (11 : Nat) ({ cls := "java/lang/StringUTF16", name := "newBytesLength", desc := "(I)I" } : Jvm.MethodName) ∈ gwA := gwA_at 49 (by decide +kernel) rfl
theorem gw_50 : Jvm.Cond.static ({ cls := "java/lang/StringUTF16", name := "newBytesLength", desc := "(I)I" } : Jvm.MethodName) ∈ gwA := gwA_at 50 (by decide +kernel) rfl
theorem gw_51 : Jvm.Cond.code ({ cls := "java/lang/StringUTF16", name := "newBytesLength", desc := "(I)I" } : Jvm.MethodName) prog_24_method_3_code (1 : Nat) (Option.some Jvm.ClassFile.FieldType.int) ∈ gwA := gwA_at 51 (by decide +kernel) rfl
theorem gw_53 : Jvm.Cond.fieldLink "java/lang/AbstractStringBuilder" (15 : Nat) "java/lang/AbstractStringBuilder" "value" "[B" ∈ gwA := gwA_at 53 (by decide +kernel) rfl
theorem gw_54 : Jvm.Cond.fieldLink "java/lang/AbstractStringBuilder" (22 : Nat) "java/lang/AbstractStringBuilder" "coder" "B" ∈ gwA := gwA_at 54 (by decide +kernel) rfl
theorem gw_55 : Jvm.Cond.fieldLink "java/lang/AbstractStringBuilder" (73 : Nat) "java/lang/AbstractStringBuilder" "maybeLatin1" "Z" ∈ gwA := gwA_at 55 (by decide +kernel) rfl
theorem gw_56 : Jvm.Cond.fieldLink "java/lang/String" (1048 : Nat) "java/lang/AbstractStringBuilder" "maybeLatin1" "Z" ∈ gwA := gwA_at 56 (by decide +kernel) rfl
theorem gw_57 : Jvm.Cond.fieldLink "java/lang/AbstractStringBuilder" (79 : Nat) "java/lang/AbstractStringBuilder" "count" "I" ∈ gwA := gwA_at 57 (by decide +kernel) rfl
theorem gw_67 : Jvm.Cond.arrayClass Jvm.ClassFile.FieldType.byte ∈ gwA := gwA_at 67 (by decide +kernel) rfl
theorem gw_68 : Jvm.Cond.classLink "GraticulePress" (16 : Nat) "GraticulePress$Place" ∈ gwA := gwA_at 68 (by decide +kernel) rfl
theorem gw_70 : Jvm.Cond.classLink "GraticulePress" (22 : Nat) "GraticulePress$Sheet" ∈ gwA := gwA_at 70 (by decide +kernel) rfl
theorem gw_72 : Jvm.Cond.classLink "GraticulePress" (28 : Nat) "GraticulePress$Edition" ∈ gwA := gwA_at 72 (by decide +kernel) rfl
theorem gw_74 : Jvm.Cond.fieldLink "GraticulePress" (10 : Nat) "GraticulePress" "typed" "Ljava/lang/StringBuilder;" ∈ gwA := gwA_at 74 (by decide +kernel) rfl
theorem gw_75 : Jvm.Cond.fieldLink "GraticulePress" (18 : Nat) "GraticulePress" "places" "[LGraticulePress$Place;" ∈ gwA := gwA_at 75 (by decide +kernel) rfl
theorem gw_76 : Jvm.Cond.fieldLink "GraticulePress" (24 : Nat) "GraticulePress" "sheets" "[LGraticulePress$Sheet;" ∈ gwA := gwA_at 76 (by decide +kernel) rfl
theorem gw_77 : Jvm.Cond.fieldLink "GraticulePress" (30 : Nat) "GraticulePress" "editions" "[LGraticulePress$Edition;" ∈ gwA := gwA_at 77 (by decide +kernel) rfl
theorem gw_78 : Jvm.Cond.fieldLink "GraticulePress" (34 : Nat) "GraticulePress" "placeCount" "I" ∈ gwA := gwA_at 78 (by decide +kernel) rfl
theorem gw_79 : Jvm.Cond.fieldLink "GraticulePress" (38 : Nat) "GraticulePress" "sheetCount" "I" ∈ gwA := gwA_at 79 (by decide +kernel) rfl
theorem gw_80 : Jvm.Cond.fieldLink "GraticulePress" (41 : Nat) "GraticulePress" "editionCount" "I" ∈ gwA := gwA_at 80 (by decide +kernel) rfl
theorem gw_81 : Jvm.Cond.fieldLink "GraticulePress" (44 : Nat) "GraticulePress" "today" "I" ∈ gwA := gwA_at 81 (by decide +kernel) rfl
theorem gw_99 : Jvm.Cond.methodLink "GraticulePressLaw" (137 : Nat) ({ cls := "GraticulePressLaw", name := "at", desc := "([II)I" } : Jvm.MethodName) ∈ gwA := gwA_at 99 (by decide +kernel) rfl
theorem gw_100 : Jvm.Cond.static ({ cls := "GraticulePressLaw", name := "at", desc := "([II)I" } : Jvm.MethodName) ∈ gwA := gwA_at 100 (by decide +kernel) rfl
theorem gw_101 : Jvm.Cond.code ({ cls := "GraticulePressLaw", name := "at", desc := "([II)I" } : Jvm.MethodName) method_2_code (2 : Nat) (Option.some Jvm.ClassFile.FieldType.int) ∈ gwA := gwA_at 101 (by decide +kernel) rfl
theorem gw_104 : Jvm.Cond.methodLink "GraticulePressLaw" (132 : Nat) ({ cls := "GraticulePressLaw", name := "isSheet", desc := "(LGraticulePress;[I[I[II)Z" } : Jvm.MethodName) ∈ gwA := gwA_at 104 (by decide +kernel) rfl
theorem gw_105 : Jvm.Cond.static ({ cls := "GraticulePressLaw", name := "isSheet", desc := "(LGraticulePress;[I[I[II)Z" } : Jvm.MethodName) ∈ gwA := gwA_at 105 (by decide +kernel) rfl
theorem gw_106 : Jvm.Cond.code ({ cls := "GraticulePressLaw", name := "isSheet", desc := "(LGraticulePress;[I[I[II)Z" } : Jvm.MethodName) method_18_code (18 : Nat) (Option.some Jvm.ClassFile.FieldType.boolean) ∈ gwA := gwA_at 106 (by decide +kernel) rfl
theorem gw_111 : Jvm.Cond.methodLink "GraticulePressLaw" (43 : Nat) ({ cls := "GraticulePress", name := "dot", desc := "(IIZ)I" } : Jvm.MethodName) ∈ gwA := gwA_at 111 (by decide +kernel) rfl
theorem gw_112 : Jvm.Cond.instanceMethod ({ cls := "GraticulePress", name := "dot", desc := "(IIZ)I" } : Jvm.MethodName) ∈ gwA := gwA_at 112 (by decide +kernel) rfl
theorem gw_113 : Jvm.Cond.selects "GraticulePress" ({ cls := "GraticulePress", name := "dot", desc := "(IIZ)I" } : Jvm.MethodName) ({ cls := "GraticulePress", name := "dot", desc := "(IIZ)I" } : Jvm.MethodName) ∈ gwA := gwA_at 113 (by decide +kernel) rfl
theorem gw_114 : Jvm.Cond.code ({ cls := "GraticulePress", name := "dot", desc := "(IIZ)I" } : Jvm.MethodName) prog_1_method_8_code (5 : Nat) (Option.some Jvm.ClassFile.FieldType.int) ∈ gwA := gwA_at 114 (by decide +kernel) rfl
theorem gw_115 : Jvm.Cond.methodLink "GraticulePress" (148 : Nat) ({ cls := "GraticulePress", name := "spotOn", desc := "(II)LGraticulePress$Spot;" } : Jvm.MethodName) ∈ gwA := gwA_at 115 (by decide +kernel) rfl
theorem gw_117 : Jvm.Cond.instanceMethod ({ cls := "GraticulePress", name := "spotOn", desc := "(II)LGraticulePress$Spot;" } : Jvm.MethodName) ∈ gwA := gwA_at 117 (by decide +kernel) rfl
theorem gw_118 : Jvm.Cond.code ({ cls := "GraticulePress", name := "spotOn", desc := "(II)LGraticulePress$Spot;" } : Jvm.MethodName) prog_1_method_20_code (4 : Nat) (Option.some (Jvm.ClassFile.FieldType.object "GraticulePress$Spot")) ∈ gwA := gwA_at 118 (by decide +kernel) rfl
theorem gw_119 : Jvm.Cond.methodLink "GraticulePress" (163 : Nat) ({ cls := "GraticulePress", name := "sheetNumbered", desc := "(I)LGraticulePress$Sheet;" } : Jvm.MethodName) ∈ gwA := gwA_at 119 (by decide +kernel) rfl
theorem gw_121 : Jvm.Cond.instanceMethod ({ cls := "GraticulePress", name := "sheetNumbered", desc := "(I)LGraticulePress$Sheet;" } : Jvm.MethodName) ∈ gwA := gwA_at 121 (by decide +kernel) rfl
theorem gw_122 : Jvm.Cond.code ({ cls := "GraticulePress", name := "sheetNumbered", desc := "(I)LGraticulePress$Sheet;" } : Jvm.MethodName) prog_1_method_18_code (2 : Nat) (Option.some (Jvm.ClassFile.FieldType.object "GraticulePress$Sheet")) ∈ gwA := gwA_at 122 (by decide +kernel) rfl
theorem gw_123 : Jvm.Cond.classLink "GraticulePress" (115 : Nat) "java/lang/IndexOutOfBoundsException" ∈ gwA := gwA_at 123 (by decide +kernel) rfl
theorem gw_192 : Jvm.Cond.arrayClass Jvm.ClassFile.FieldType.int ∈ gwA := gwA_at 192 (by decide +kernel) rfl
theorem gw_193 : Jvm.Cond.methodLink "GraticulePress" (216 : Nat) ({ cls := "GraticulePress$Sheet", name := "spotOf", desc := "(I)LGraticulePress$Spot;" } : Jvm.MethodName) ∈ gwA := gwA_at 193 (by decide +kernel) rfl
theorem gw_194 : Jvm.Cond.instanceMethod ({ cls := "GraticulePress$Sheet", name := "spotOf", desc := "(I)LGraticulePress$Spot;" } : Jvm.MethodName) ∈ gwA := gwA_at 194 (by decide +kernel) rfl
theorem gw_195 : Jvm.Cond.selects "GraticulePress$Sheet" ({ cls := "GraticulePress$Sheet", name := "spotOf", desc := "(I)LGraticulePress$Spot;" } : Jvm.MethodName) ({ cls := "GraticulePress$Sheet", name := "spotOf", desc := "(I)LGraticulePress$Spot;" } : Jvm.MethodName) ∈ gwA := gwA_at 195 (by decide +kernel) rfl
theorem gw_196 : Jvm.Cond.code ({ cls := "GraticulePress$Sheet", name := "spotOf", desc := "(I)LGraticulePress$Spot;" } : Jvm.MethodName) prog_5_method_6_code (2 : Nat) (Option.some (Jvm.ClassFile.FieldType.object "GraticulePress$Spot")) ∈ gwA := gwA_at 196 (by decide +kernel) rfl
theorem gw_202 : Jvm.Cond.methodLink "GraticulePressLaw" (47 : Nat) ({ cls := "GraticulePress", name := "side", desc := "(II)I" } : Jvm.MethodName) ∈ gwA := gwA_at 202 (by decide +kernel) rfl
theorem gw_203 : Jvm.Cond.instanceMethod ({ cls := "GraticulePress", name := "side", desc := "(II)I" } : Jvm.MethodName) ∈ gwA := gwA_at 203 (by decide +kernel) rfl
theorem gw_204 : Jvm.Cond.selects "GraticulePress" ({ cls := "GraticulePress", name := "side", desc := "(II)I" } : Jvm.MethodName) ({ cls := "GraticulePress", name := "side", desc := "(II)I" } : Jvm.MethodName) ∈ gwA := gwA_at 204 (by decide +kernel) rfl
theorem gw_205 : Jvm.Cond.code ({ cls := "GraticulePress", name := "side", desc := "(II)I" } : Jvm.MethodName) prog_1_method_9_code (3 : Nat) (Option.some Jvm.ClassFile.FieldType.int) ∈ gwA := gwA_at 205 (by decide +kernel) rfl
theorem gw_206 : Jvm.Cond.methodLink "GraticulePressLaw" (76 : Nat) ({ cls := "GraticulePressLaw", name := "isOn", desc := "([I[III)Z" } : Jvm.MethodName) ∈ gwA := gwA_at 206 (by decide +kernel) rfl
theorem gw_207 : Jvm.Cond.static ({ cls := "GraticulePressLaw", name := "isOn", desc := "([I[III)Z" } : Jvm.MethodName) ∈ gwA := gwA_at 207 (by decide +kernel) rfl
theorem gw_208 : Jvm.Cond.code ({ cls := "GraticulePressLaw", name := "isOn", desc := "([I[III)Z" } : Jvm.MethodName) method_17_code (6 : Nat) (Option.some Jvm.ClassFile.FieldType.boolean) ∈ gwA := gwA_at 208 (by decide +kernel) rfl
theorem gw_212 : Jvm.Cond.methodLink "GraticulePressLaw" (54 : Nat) ({ cls := "GraticulePress", name := "worth", desc := "(I)I" } : Jvm.MethodName) ∈ gwA := gwA_at 212 (by decide +kernel) rfl
theorem gw_213 : Jvm.Cond.instanceMethod ({ cls := "GraticulePress", name := "worth", desc := "(I)I" } : Jvm.MethodName) ∈ gwA := gwA_at 213 (by decide +kernel) rfl
theorem gw_214 : Jvm.Cond.selects "GraticulePress" ({ cls := "GraticulePress", name := "worth", desc := "(I)I" } : Jvm.MethodName) ({ cls := "GraticulePress", name := "worth", desc := "(I)I" } : Jvm.MethodName) ∈ gwA := gwA_at 214 (by decide +kernel) rfl
theorem gw_215 : Jvm.Cond.code ({ cls := "GraticulePress", name := "worth", desc := "(I)I" } : Jvm.MethodName) prog_1_method_11_code (2 : Nat) (Option.some Jvm.ClassFile.FieldType.int) ∈ gwA := gwA_at 215 (by decide +kernel) rfl
theorem gw_216 : Jvm.Cond.methodLink "GraticulePress" (183 : Nat) ({ cls := "GraticulePress$Sheet", name := "worthToday", desc := "()I" } : Jvm.MethodName) ∈ gwA := gwA_at 216 (by decide +kernel) rfl
theorem gw_217 : Jvm.Cond.instanceMethod ({ cls := "GraticulePress$Sheet", name := "worthToday", desc := "()I" } : Jvm.MethodName) ∈ gwA := gwA_at 217 (by decide +kernel) rfl
theorem gw_218 : Jvm.Cond.selects "GraticulePress$Sheet" ({ cls := "GraticulePress$Sheet", name := "worthToday", desc := "()I" } : Jvm.MethodName) ({ cls := "GraticulePress$Sheet", name := "worthToday", desc := "()I" } : Jvm.MethodName) ∈ gwA := gwA_at 218 (by decide +kernel) rfl
theorem gw_219 : Jvm.Cond.code ({ cls := "GraticulePress$Sheet", name := "worthToday", desc := "()I" } : Jvm.MethodName) prog_5_method_11_code (4 : Nat) (Option.some Jvm.ClassFile.FieldType.int) ∈ gwA := gwA_at 219 (by decide +kernel) rfl
theorem gw_224 : Jvm.Cond.methodLink "GraticulePressLaw" (57 : Nat) ({ cls := "GraticulePress", name := "best", desc := "(I)I" } : Jvm.MethodName) ∈ gwA := gwA_at 224 (by decide +kernel) rfl
theorem gw_225 : Jvm.Cond.instanceMethod ({ cls := "GraticulePress", name := "best", desc := "(I)I" } : Jvm.MethodName) ∈ gwA := gwA_at 225 (by decide +kernel) rfl
theorem gw_226 : Jvm.Cond.selects "GraticulePress" ({ cls := "GraticulePress", name := "best", desc := "(I)I" } : Jvm.MethodName) ({ cls := "GraticulePress", name := "best", desc := "(I)I" } : Jvm.MethodName) ∈ gwA := gwA_at 226 (by decide +kernel) rfl
theorem gw_227 : Jvm.Cond.code ({ cls := "GraticulePress", name := "best", desc := "(I)I" } : Jvm.MethodName) prog_1_method_12_code (3 : Nat) (Option.some Jvm.ClassFile.FieldType.int) ∈ gwA := gwA_at 227 (by decide +kernel) rfl
theorem gw_228 : Jvm.Cond.classLink "GraticulePress" (58 : Nat) "java/lang/IllegalStateException" ∈ gwA := gwA_at 228 (by decide +kernel) rfl
theorem gw_244 : Jvm.Cond.methodLink "GraticulePress" (191 : Nat) ({ cls := "GraticulePress$Sheet", name := "greatestWorth", desc := "()I" } : Jvm.MethodName) ∈ gwA := gwA_at 244 (by decide +kernel) rfl
theorem gw_245 : Jvm.Cond.instanceMethod ({ cls := "GraticulePress$Sheet", name := "greatestWorth", desc := "()I" } : Jvm.MethodName) ∈ gwA := gwA_at 245 (by decide +kernel) rfl
theorem gw_246 : Jvm.Cond.selects "GraticulePress$Sheet" ({ cls := "GraticulePress$Sheet", name := "greatestWorth", desc := "()I" } : Jvm.MethodName) ({ cls := "GraticulePress$Sheet", name := "greatestWorth", desc := "()I" } : Jvm.MethodName) ∈ gwA := gwA_at 246 (by decide +kernel) rfl
theorem gw_247 : Jvm.Cond.code ({ cls := "GraticulePress$Sheet", name := "greatestWorth", desc := "()I" } : Jvm.MethodName) prog_5_method_12_code (1 : Nat) (Option.some Jvm.ClassFile.FieldType.int) ∈ gwA := gwA_at 247 (by decide +kernel) rfl
theorem gw_248 : Jvm.Cond.methodLink "GraticulePress$Sheet" (80 : Nat) ({ cls := "GraticulePress$Sheet", name := "drawDots", desc := "(LGraticulePress$Grid;)V" } : Jvm.MethodName) ∈ gwA := gwA_at 248 (by decide +kernel) rfl
theorem gw_250 : Jvm.Cond.instanceMethod ({ cls := "GraticulePress$Sheet", name := "drawDots", desc := "(LGraticulePress$Grid;)V" } : Jvm.MethodName) ∈ gwA := gwA_at 250 (by decide +kernel) rfl
theorem gw_251 : Jvm.Cond.instantiable "GraticulePress$Sheet" (9 : Nat) ∈ gwA := gwA_at 251 (by decide +kernel) rfl
theorem gw_252 : Jvm.Cond.code ({ cls := "GraticulePress$Sheet", name := "drawDots", desc := "(LGraticulePress$Grid;)V" } : Jvm.MethodName) prog_5_method_9_code (4 : Nat) (Option.none : Option Jvm.ClassFile.FieldType) ∈ gwA := gwA_at 252 (by decide +kernel) rfl
theorem gw_253 : Jvm.Cond.methodLink "GraticulePress$Sheet" (94 : Nat) ({ cls := "GraticulePress$Grid", name := "clear", desc := "()V" } : Jvm.MethodName) ∈ gwA := gwA_at 253 (by decide +kernel) rfl
theorem gw_254 : Jvm.Cond.instanceMethod ({ cls := "GraticulePress$Grid", name := "clear", desc := "()V" } : Jvm.MethodName) ∈ gwA := gwA_at 254 (by decide +kernel) rfl
theorem gw_255 : Jvm.Cond.selects "GraticulePress$Grid" ({ cls := "GraticulePress$Grid", name := "clear", desc := "()V" } : Jvm.MethodName) ({ cls := "GraticulePress$Grid", name := "clear", desc := "()V" } : Jvm.MethodName) ∈ gwA := gwA_at 255 (by decide +kernel) rfl
theorem gw_256 : Jvm.Cond.code ({ cls := "GraticulePress$Grid", name := "clear", desc := "()V" } : Jvm.MethodName) prog_3_method_2_code (2 : Nat) (Option.none : Option Jvm.ClassFile.FieldType) ∈ gwA := gwA_at 256 (by decide +kernel) rfl
theorem gw_257 : Jvm.Cond.methodLink "GraticulePress$Sheet" (97 : Nat) ({ cls := "GraticulePress$Spot", name := "isOnSheet", desc := "()Z" } : Jvm.MethodName) ∈ gwA := gwA_at 257 (by decide +kernel) rfl
theorem gw_258 : Jvm.Cond.instanceMethod ({ cls := "GraticulePress$Spot", name := "isOnSheet", desc := "()Z" } : Jvm.MethodName) ∈ gwA := gwA_at 258 (by decide +kernel) rfl
theorem gw_259 : Jvm.Cond.selects "GraticulePress$Spot" ({ cls := "GraticulePress$Spot", name := "isOnSheet", desc := "()Z" } : Jvm.MethodName) ({ cls := "GraticulePress$Spot", name := "isOnSheet", desc := "()Z" } : Jvm.MethodName) ∈ gwA := gwA_at 259 (by decide +kernel) rfl
theorem gw_260 : Jvm.Cond.code ({ cls := "GraticulePress$Spot", name := "isOnSheet", desc := "()Z" } : Jvm.MethodName) prog_7_method_3_code (1 : Nat) (Option.some Jvm.ClassFile.FieldType.boolean) ∈ gwA := gwA_at 260 (by decide +kernel) rfl
theorem gw_261 : Jvm.Cond.methodLink "GraticulePress$Sheet" (106 : Nat) ({ cls := "GraticulePress$Grid", name := "setSign", desc := "(IIC)V" } : Jvm.MethodName) ∈ gwA := gwA_at 261 (by decide +kernel) rfl
theorem gw_262 : Jvm.Cond.instanceMethod ({ cls := "GraticulePress$Grid", name := "setSign", desc := "(IIC)V" } : Jvm.MethodName) ∈ gwA := gwA_at 262 (by decide +kernel) rfl
theorem gw_263 : Jvm.Cond.selects "GraticulePress$Grid" ({ cls := "GraticulePress$Grid", name := "setSign", desc := "(IIC)V" } : Jvm.MethodName) ({ cls := "GraticulePress$Grid", name := "setSign", desc := "(IIC)V" } : Jvm.MethodName) ∈ gwA := gwA_at 263 (by decide +kernel) rfl
theorem gw_264 : Jvm.Cond.code ({ cls := "GraticulePress$Grid", name := "setSign", desc := "(IIC)V" } : Jvm.MethodName) prog_3_method_5_code (4 : Nat) (Option.none : Option Jvm.ClassFile.FieldType) ∈ gwA := gwA_at 264 (by decide +kernel) rfl
theorem gw_266 : Jvm.Cond.static ({ cls := "GraticulePress", name := "isOnGrid", desc := "(II)Z" } : Jvm.MethodName) ∈ gwA := gwA_at 266 (by decide +kernel) rfl
theorem gw_267 : Jvm.Cond.code ({ cls := "GraticulePress", name := "isOnGrid", desc := "(II)Z" } : Jvm.MethodName) prog_1_method_16_code (2 : Nat) (Option.some Jvm.ClassFile.FieldType.boolean) ∈ gwA := gwA_at 267 (by decide +kernel) rfl
theorem gw_268 : Jvm.Cond.methodLink "GraticulePress$Sheet" (116 : Nat) ({ cls := "GraticulePress$Sheet", name := "greatestFrom", desc := "([LGraticulePress$Spot;IILGraticulePress$Grid;)I" } : Jvm.MethodName) ∈ gwA := gwA_at 268 (by decide +kernel) rfl
theorem gw_269 : Jvm.Cond.static ({ cls := "GraticulePress$Sheet", name := "greatestFrom", desc := "([LGraticulePress$Spot;IILGraticulePress$Grid;)I" } : Jvm.MethodName) ∈ gwA := gwA_at 269 (by decide +kernel) rfl
theorem gw_270 : Jvm.Cond.code ({ cls := "GraticulePress$Sheet", name := "greatestFrom", desc := "([LGraticulePress$Spot;IILGraticulePress$Grid;)I" } : Jvm.MethodName) prog_5_method_13_code (9 : Nat) (Option.some Jvm.ClassFile.FieldType.int) ∈ gwA := gwA_at 270 (by decide +kernel) rfl
theorem gw_271 : Jvm.Cond.methodLink "GraticulePress$Sheet" (120 : Nat) ({ cls := "GraticulePress$Sheet", name := "ranksFrom", desc := "([LGraticulePress$Spot;II)I" } : Jvm.MethodName) ∈ gwA := gwA_at 271 (by decide +kernel) rfl
theorem gw_272 : Jvm.Cond.static ({ cls := "GraticulePress$Sheet", name := "ranksFrom", desc := "([LGraticulePress$Spot;II)I" } : Jvm.MethodName) ∈ gwA := gwA_at 272 (by decide +kernel) rfl
theorem gw_273 : Jvm.Cond.code ({ cls := "GraticulePress$Sheet", name := "ranksFrom", desc := "([LGraticulePress$Spot;II)I" } : Jvm.MethodName) prog_5_method_14_code (6 : Nat) (Option.some Jvm.ClassFile.FieldType.int) ∈ gwA := gwA_at 273 (by decide +kernel) rfl
theorem gw_274 : Jvm.Cond.methodLink "GraticulePress$Sheet" (132 : Nat) ({ cls := "java/lang/Math", name := "max", desc := "(II)I" } : Jvm.MethodName) ∈ gwA := gwA_at 274 (by decide +kernel) rfl
theorem gw_275 : Jvm.Cond.static ({ cls := "java/lang/Math", name := "max", desc := "(II)I" } : Jvm.MethodName) ∈ gwA := gwA_at 275 (by decide +kernel) rfl
theorem gw_276 : Jvm.Cond.code ({ cls := "java/lang/Math", name := "max", desc := "(II)I" } : Jvm.MethodName) prog_18_method_65_code (2 : Nat) (Option.some Jvm.ClassFile.FieldType.int) ∈ gwA := gwA_at 276 (by decide +kernel) rfl
theorem gw_277 : Jvm.Cond.methodLink "GraticulePress$Sheet" (124 : Nat) ({ cls := "GraticulePress$Spot", name := "mayStand", desc := "(LGraticulePress$Grid;I)Z" } : Jvm.MethodName) ∈ gwA := gwA_at 277 (by decide +kernel) rfl
theorem gw_278 : Jvm.Cond.instanceMethod ({ cls := "GraticulePress$Spot", name := "mayStand", desc := "(LGraticulePress$Grid;I)Z" } : Jvm.MethodName) ∈ gwA := gwA_at 278 (by decide +kernel) rfl
theorem gw_279 : Jvm.Cond.selects "GraticulePress$Spot" ({ cls := "GraticulePress$Spot", name := "mayStand", desc := "(LGraticulePress$Grid;I)Z" } : Jvm.MethodName) ({ cls := "GraticulePress$Spot", name := "mayStand", desc := "(LGraticulePress$Grid;I)Z" } : Jvm.MethodName) ∈ gwA := gwA_at 279 (by decide +kernel) rfl
theorem gw_280 : Jvm.Cond.code ({ cls := "GraticulePress$Spot", name := "mayStand", desc := "(LGraticulePress$Grid;I)Z" } : Jvm.MethodName) prog_7_method_8_code (4 : Nat) (Option.some Jvm.ClassFile.FieldType.boolean) ∈ gwA := gwA_at 280 (by decide +kernel) rfl
theorem gw_281 : Jvm.Cond.methodLink "GraticulePress$Spot" (46 : Nat) ({ cls := "java/lang/String", name := "length", desc := "()I" } : Jvm.MethodName) ∈ gwA := gwA_at 281 (by decide +kernel) rfl
theorem gw_282 : Jvm.Cond.instanceMethod ({ cls := "java/lang/String", name := "length", desc := "()I" } : Jvm.MethodName) ∈ gwA := gwA_at 282 (by decide +kernel) rfl
theorem gw_283 : Jvm.Cond.selects "java/lang/String" ({ cls := "java/lang/String", name := "length", desc := "()I" } : Jvm.MethodName) ({ cls := "java/lang/String", name := "length", desc := "()I" } : Jvm.MethodName) ∈ gwA := gwA_at 283 (by decide +kernel) rfl
theorem gw_284 : Jvm.Cond.code ({ cls := "java/lang/String", name := "length", desc := "()I" } : Jvm.MethodName) prog_20_method_54_code (1 : Nat) (Option.some Jvm.ClassFile.FieldType.int) ∈ gwA := gwA_at 284 (by decide +kernel) rfl
theorem gw_285 : Jvm.Cond.methodLink "java/lang/String" (335 : Nat) ({ cls := "java/lang/String", name := "coder", desc := "()B" } : Jvm.MethodName) ∈ gwA := gwA_at 285 (by decide +kernel) rfl
theorem gw_286 : Jvm.Cond.instanceMethod ({ cls := "java/lang/String", name := "coder", desc := "()B" } : Jvm.MethodName) ∈ gwA := gwA_at 286 (by decide +kernel) rfl
theorem gw_287 : Jvm.Cond.selects "java/lang/String" ({ cls := "java/lang/String", name := "coder", desc := "()B" } : Jvm.MethodName) ({ cls := "java/lang/String", name := "coder", desc := "()B" } : Jvm.MethodName) ∈ gwA := gwA_at 287 (by decide +kernel) rfl
theorem gw_288 : Jvm.Cond.code ({ cls := "java/lang/String", name := "coder", desc := "()B" } : Jvm.MethodName) prog_20_method_152_code (1 : Nat) (Option.some Jvm.ClassFile.FieldType.byte) ∈ gwA := gwA_at 288 (by decide +kernel) rfl
theorem gw_290 : Jvm.Cond.methodLink "GraticulePress$Spot" (52 : Nat) ({ cls := "GraticulePress$Spot", name := "rowAt", desc := "(I)I" } : Jvm.MethodName) ∈ gwA := gwA_at 290 (by decide +kernel) rfl
theorem gw_292 : Jvm.Cond.instanceMethod ({ cls := "GraticulePress$Spot", name := "rowAt", desc := "(I)I" } : Jvm.MethodName) ∈ gwA := gwA_at 292 (by decide +kernel) rfl
theorem gw_293 : Jvm.Cond.instantiable "GraticulePress$Spot" (7 : Nat) ∈ gwA := gwA_at 293 (by decide +kernel) rfl
theorem gw_294 : Jvm.Cond.code ({ cls := "GraticulePress$Spot", name := "rowAt", desc := "(I)I" } : Jvm.MethodName) prog_7_method_6_code (2 : Nat) (Option.some Jvm.ClassFile.FieldType.int) ∈ gwA := gwA_at 294 (by decide +kernel) rfl
theorem gw_295 : Jvm.Cond.methodLink "GraticulePress$Spot" (56 : Nat) ({ cls := "GraticulePress$Spot", name := "firstColumnAt", desc := "(II)I" } : Jvm.MethodName) ∈ gwA := gwA_at 295 (by decide +kernel) rfl
theorem gw_297 : Jvm.Cond.instanceMethod ({ cls := "GraticulePress$Spot", name := "firstColumnAt", desc := "(II)I" } : Jvm.MethodName) ∈ gwA := gwA_at 297 (by decide +kernel) rfl
theorem gw_298 : Jvm.Cond.code ({ cls := "GraticulePress$Spot", name := "firstColumnAt", desc := "(II)I" } : Jvm.MethodName) prog_7_method_7_code (3 : Nat) (Option.some Jvm.ClassFile.FieldType.int) ∈ gwA := gwA_at 298 (by decide +kernel) rfl
theorem gw_299 : Jvm.Cond.methodLink "GraticulePress$Spot" (60 : Nat) ({ cls := "GraticulePress$Grid", name := "isFree", desc := "(III)Z" } : Jvm.MethodName) ∈ gwA := gwA_at 299 (by decide +kernel) rfl
theorem gw_300 : Jvm.Cond.instanceMethod ({ cls := "GraticulePress$Grid", name := "isFree", desc := "(III)Z" } : Jvm.MethodName) ∈ gwA := gwA_at 300 (by decide +kernel) rfl
theorem gw_301 : Jvm.Cond.selects "GraticulePress$Grid" ({ cls := "GraticulePress$Grid", name := "isFree", desc := "(III)Z" } : Jvm.MethodName) ({ cls := "GraticulePress$Grid", name := "isFree", desc := "(III)Z" } : Jvm.MethodName) ∈ gwA := gwA_at 301 (by decide +kernel) rfl
theorem gw_302 : Jvm.Cond.code ({ cls := "GraticulePress$Grid", name := "isFree", desc := "(III)Z" } : Jvm.MethodName) prog_3_method_8_code (5 : Nat) (Option.some Jvm.ClassFile.FieldType.boolean) ∈ gwA := gwA_at 302 (by decide +kernel) rfl
theorem gw_303 : Jvm.Cond.methodLink "GraticulePress$Grid" (33 : Nat) ({ cls := "GraticulePress$Grid", name := "signAt", desc := "(II)C" } : Jvm.MethodName) ∈ gwA := gwA_at 303 (by decide +kernel) rfl
theorem gw_304 : Jvm.Cond.instanceMethod ({ cls := "GraticulePress$Grid", name := "signAt", desc := "(II)C" } : Jvm.MethodName) ∈ gwA := gwA_at 304 (by decide +kernel) rfl
theorem gw_305 : Jvm.Cond.selects "GraticulePress$Grid" ({ cls := "GraticulePress$Grid", name := "signAt", desc := "(II)C" } : Jvm.MethodName) ({ cls := "GraticulePress$Grid", name := "signAt", desc := "(II)C" } : Jvm.MethodName) ∈ gwA := gwA_at 305 (by decide +kernel) rfl
theorem gw_306 : Jvm.Cond.code ({ cls := "GraticulePress$Grid", name := "signAt", desc := "(II)C" } : Jvm.MethodName) prog_3_method_4_code (3 : Nat) (Option.some Jvm.ClassFile.FieldType.char) ∈ gwA := gwA_at 306 (by decide +kernel) rfl
theorem gw_307 : Jvm.Cond.methodLink "GraticulePress$Sheet" (128 : Nat) ({ cls := "GraticulePress$Spot", name := "write", desc := "(LGraticulePress$Grid;I)V" } : Jvm.MethodName) ∈ gwA := gwA_at 307 (by decide +kernel) rfl
theorem gw_308 : Jvm.Cond.instanceMethod ({ cls := "GraticulePress$Spot", name := "write", desc := "(LGraticulePress$Grid;I)V" } : Jvm.MethodName) ∈ gwA := gwA_at 308 (by decide +kernel) rfl
theorem gw_309 : Jvm.Cond.selects "GraticulePress$Spot" ({ cls := "GraticulePress$Spot", name := "write", desc := "(LGraticulePress$Grid;I)V" } : Jvm.MethodName) ({ cls := "GraticulePress$Spot", name := "write", desc := "(LGraticulePress$Grid;I)V" } : Jvm.MethodName) ∈ gwA := gwA_at 309 (by decide +kernel) rfl
theorem gw_310 : Jvm.Cond.code ({ cls := "GraticulePress$Spot", name := "write", desc := "(LGraticulePress$Grid;I)V" } : Jvm.MethodName) prog_7_method_9_code (3 : Nat) (Option.none : Option Jvm.ClassFile.FieldType) ∈ gwA := gwA_at 310 (by decide +kernel) rfl
theorem gw_311 : Jvm.Cond.methodLink "GraticulePress$Spot" (66 : Nat) ({ cls := "GraticulePress$Grid", name := "write", desc := "(IILjava/lang/String;)V" } : Jvm.MethodName) ∈ gwA := gwA_at 311 (by decide +kernel) rfl
theorem gw_312 : Jvm.Cond.instanceMethod ({ cls := "GraticulePress$Grid", name := "write", desc := "(IILjava/lang/String;)V" } : Jvm.MethodName) ∈ gwA := gwA_at 312 (by decide +kernel) rfl
theorem gw_313 : Jvm.Cond.selects "GraticulePress$Grid" ({ cls := "GraticulePress$Grid", name := "write", desc := "(IILjava/lang/String;)V" } : Jvm.MethodName) ({ cls := "GraticulePress$Grid", name := "write", desc := "(IILjava/lang/String;)V" } : Jvm.MethodName) ∈ gwA := gwA_at 313 (by decide +kernel) rfl
theorem gw_314 : Jvm.Cond.code ({ cls := "GraticulePress$Grid", name := "write", desc := "(IILjava/lang/String;)V" } : Jvm.MethodName) prog_3_method_6_code (5 : Nat) (Option.none : Option Jvm.ClassFile.FieldType) ∈ gwA := gwA_at 314 (by decide +kernel) rfl
theorem gw_315 : Jvm.Cond.methodLink "GraticulePress$Grid" (19 : Nat) ({ cls := "java/lang/String", name := "length", desc := "()I" } : Jvm.MethodName) ∈ gwA := gwA_at 315 (by decide +kernel) rfl
theorem gw_316 : Jvm.Cond.methodLink "GraticulePress$Grid" (25 : Nat) ({ cls := "java/lang/String", name := "charAt", desc := "(I)C" } : Jvm.MethodName) ∈ gwA := gwA_at 316 (by decide +kernel) rfl
theorem gw_317 : Jvm.Cond.instanceMethod ({ cls := "java/lang/String", name := "charAt", desc := "(I)C" } : Jvm.MethodName) ∈ gwA := gwA_at 317 (by decide +kernel) rfl
theorem gw_318 : Jvm.Cond.selects "java/lang/String" ({ cls := "java/lang/String", name := "charAt", desc := "(I)C" } : Jvm.MethodName) ({ cls := "java/lang/String", name := "charAt", desc := "(I)C" } : Jvm.MethodName) ∈ gwA := gwA_at 318 (by decide +kernel) rfl
theorem gw_319 : Jvm.Cond.code ({ cls := "java/lang/String", name := "charAt", desc := "(I)C" } : Jvm.MethodName) prog_20_method_56_code (2 : Nat) (Option.some Jvm.ClassFile.FieldType.char) ∈ gwA := gwA_at 319 (by decide +kernel) rfl
theorem gw_320 : Jvm.Cond.methodLink "java/lang/String" (492 : Nat) ({ cls := "java/lang/String", name := "isLatin1", desc := "()Z" } : Jvm.MethodName) ∈ gwA := gwA_at 320 (by decide +kernel) rfl
theorem gw_321 : Jvm.Cond.instanceMethod ({ cls := "java/lang/String", name := "isLatin1", desc := "()Z" } : Jvm.MethodName) ∈ gwA := gwA_at 321 (by decide +kernel) rfl
theorem gw_322 : Jvm.Cond.selects "java/lang/String" ({ cls := "java/lang/String", name := "isLatin1", desc := "()Z" } : Jvm.MethodName) ({ cls := "java/lang/String", name := "isLatin1", desc := "()Z" } : Jvm.MethodName) ∈ gwA := gwA_at 322 (by decide +kernel) rfl
theorem gw_323 : Jvm.Cond.code ({ cls := "java/lang/String", name := "isLatin1", desc := "()Z" } : Jvm.MethodName) prog_20_method_154_code (1 : Nat) (Option.some Jvm.ClassFile.FieldType.boolean) ∈ gwA := gwA_at 323 (by decide +kernel) rfl
theorem gw_324 : Jvm.Cond.methodLink "java/lang/String" (495 : Nat) ({ cls := "java/lang/StringLatin1", name := "charAt", desc := "([BI)C" } : Jvm.MethodName) ∈ gwA := gwA_at 324 (by decide +kernel) rfl
theorem gw_325 : Jvm.Cond.static ({ cls := "java/lang/StringLatin1", name := "charAt", desc := "([BI)C" } : Jvm.MethodName) ∈ gwA := gwA_at 325 (by decide +kernel) rfl
theorem gw_326 : Jvm.Cond.code ({ cls := "java/lang/StringLatin1", name := "charAt", desc := "([BI)C" } : Jvm.MethodName) prog_23_method_2_code (2 : Nat) (Option.some Jvm.ClassFile.FieldType.char) ∈ gwA := gwA_at 326 (by decide +kernel) rfl
theorem gw_327 : Jvm.Cond.methodLink "java/lang/StringLatin1" (9 : Nat) ({ cls := "java/lang/String", name := "checkIndex", desc := "(II)V" } : Jvm.MethodName) ∈ gwA := gwA_at 327 (by decide +kernel) rfl
theorem gw_328 : Jvm.Cond.static ({ cls := "java/lang/String", name := "checkIndex", desc := "(II)V" } : Jvm.MethodName) ∈ gwA := gwA_at 328 (by decide +kernel) rfl
theorem gw_329 : Jvm.Cond.code ({ cls := "java/lang/String", name := "checkIndex", desc := "(II)V" } : Jvm.MethodName) prog_20_method_155_code (2 : Nat) (Option.none : Option Jvm.ClassFile.FieldType) ∈ gwA := gwA_at 329 (by decide +kernel) rfl
theorem gw_332 : Jvm.Cond.methodLink "java/lang/String" (1059 : Nat) ({ cls := "jdk/internal/util/Preconditions", name := "checkIndex", desc := "(IILjava/util/function/BiFunction;)I" } : Jvm.MethodName) ∈ gwA := gwA_at 332 (by decide +kernel) rfl
theorem gw_333 : Jvm.Cond.static ({ cls := "jdk/internal/util/Preconditions", name := "checkIndex", desc := "(IILjava/util/function/BiFunction;)I" } : Jvm.MethodName) ∈ gwA := gwA_at 333 (by decide +kernel) rfl
theorem gw_334 : Jvm.Cond.code ({ cls := "jdk/internal/util/Preconditions", name := "checkIndex", desc := "(IILjava/util/function/BiFunction;)I" } : Jvm.MethodName) prog_29_method_11_code (3 : Nat) (Option.some Jvm.ClassFile.FieldType.int) ∈ gwA := gwA_at 334 (by decide +kernel) rfl
theorem gw_335 : Jvm.Cond.methodLink "java/lang/String" (498 : Nat) ({ cls := "java/lang/StringUTF16", name := "charAt", desc := "([BI)C" } : Jvm.MethodName) ∈ gwA := gwA_at 335 (by decide +kernel) rfl
theorem gw_336 : Jvm.Cond.static ({ cls := "java/lang/StringUTF16", name := "charAt", desc := "([BI)C" } : Jvm.MethodName) ∈ gwA := gwA_at 336 (by decide +kernel) rfl
theorem gw_337 : Jvm.Cond.code ({ cls := "java/lang/StringUTF16", name := "charAt", desc := "([BI)C" } : Jvm.MethodName) prog_24_method_83_code (2 : Nat) (Option.some Jvm.ClassFile.FieldType.char) ∈ gwA := gwA_at 337 (by decide +kernel) rfl
theorem gw_338 : Jvm.Cond.methodLink "java/lang/StringUTF16" (67 : Nat) ({ cls := "java/lang/StringUTF16", name := "checkIndex", desc := "(I[B)V" } : Jvm.MethodName) ∈ gwA := gwA_at 338 (by decide +kernel) rfl
theorem gw_339 : Jvm.Cond.static ({ cls := "java/lang/StringUTF16", name := "checkIndex", desc := "(I[B)V" } : Jvm.MethodName) ∈ gwA := gwA_at 339 (by decide +kernel) rfl
theorem gw_340 : Jvm.Cond.code ({ cls := "java/lang/StringUTF16", name := "checkIndex", desc := "(I[B)V" } : Jvm.MethodName) prog_24_method_91_code (2 : Nat) (Option.none : Option Jvm.ClassFile.FieldType) ∈ gwA := gwA_at 340 (by decide +kernel) rfl
theorem gw_341 : Jvm.Cond.methodLink "java/lang/StringUTF16" (48 : Nat) ({ cls := "java/lang/StringUTF16", name := "length", desc := "([B)I" } : Jvm.MethodName) ∈ gwA := gwA_at 341 (by decide +kernel) rfl
theorem gw_342 : Jvm.Cond.static ({ cls := "java/lang/StringUTF16", name := "length", desc := "([B)I" } : Jvm.MethodName) ∈ gwA := gwA_at 342 (by decide +kernel) rfl
theorem gw_343 : Jvm.Cond.code ({ cls := "java/lang/StringUTF16", name := "length", desc := "([B)I" } : Jvm.MethodName) prog_24_method_6_code (1 : Nat) (Option.some Jvm.ClassFile.FieldType.int) ∈ gwA := gwA_at 343 (by decide +kernel) rfl
theorem gw_344 : Jvm.Cond.methodLink "java/lang/StringUTF16" (414 : Nat) ({ cls := "java/lang/String", name := "checkIndex", desc := "(II)V" } : Jvm.MethodName) ∈ gwA := gwA_at 344 (by decide +kernel) rfl
theorem gw_345 : Jvm.Cond.methodLink "java/lang/StringUTF16" (71 : Nat) ({ cls := "java/lang/StringUTF16", name := "getChar", desc := "([BI)C" } : Jvm.MethodName) ∈ gwA := gwA_at 345 (by decide +kernel) rfl
theorem gw_346 : Jvm.Cond.static ({ cls := "java/lang/StringUTF16", name := "getChar", desc := "([BI)C" } : Jvm.MethodName) ∈ gwA := gwA_at 346 (by decide +kernel) rfl
theorem gw_347 : Jvm.Cond.code ({ cls := "java/lang/StringUTF16", name := "getChar", desc := "([BI)C" } : Jvm.MethodName) prog_24_method_5_code (2 : Nat) (Option.some Jvm.ClassFile.FieldType.char) ∈ gwA := gwA_at 347 (by decide +kernel) rfl
theorem gw_354 : Jvm.Cond.methodLink "GraticulePress$Grid" (29 : Nat) ({ cls := "GraticulePress$Grid", name := "setSign", desc := "(IIC)V" } : Jvm.MethodName) ∈ gwA := gwA_at 354 (by decide +kernel) rfl
theorem gw_355 : Jvm.Cond.methodLink "GraticulePress$Sheet" (138 : Nat) ({ cls := "GraticulePress$Spot", name := "erase", desc := "(LGraticulePress$Grid;I)V" } : Jvm.MethodName) ∈ gwA := gwA_at 355 (by decide +kernel) rfl
theorem gw_356 : Jvm.Cond.instanceMethod ({ cls := "GraticulePress$Spot", name := "erase", desc := "(LGraticulePress$Grid;I)V" } : Jvm.MethodName) ∈ gwA := gwA_at 356 (by decide +kernel) rfl
theorem gw_357 : Jvm.Cond.selects "GraticulePress$Spot" ({ cls := "GraticulePress$Spot", name := "erase", desc := "(LGraticulePress$Grid;I)V" } : Jvm.MethodName) ({ cls := "GraticulePress$Spot", name := "erase", desc := "(LGraticulePress$Grid;I)V" } : Jvm.MethodName) ∈ gwA := gwA_at 357 (by decide +kernel) rfl
theorem gw_358 : Jvm.Cond.code ({ cls := "GraticulePress$Spot", name := "erase", desc := "(LGraticulePress$Grid;I)V" } : Jvm.MethodName) prog_7_method_10_code (4 : Nat) (Option.none : Option Jvm.ClassFile.FieldType) ∈ gwA := gwA_at 358 (by decide +kernel) rfl
theorem gw_359 : Jvm.Cond.methodLink "GraticulePress$Spot" (70 : Nat) ({ cls := "GraticulePress$Grid", name := "erase", desc := "(III)V" } : Jvm.MethodName) ∈ gwA := gwA_at 359 (by decide +kernel) rfl
theorem gw_360 : Jvm.Cond.instanceMethod ({ cls := "GraticulePress$Grid", name := "erase", desc := "(III)V" } : Jvm.MethodName) ∈ gwA := gwA_at 360 (by decide +kernel) rfl
theorem gw_361 : Jvm.Cond.selects "GraticulePress$Grid" ({ cls := "GraticulePress$Grid", name := "erase", desc := "(III)V" } : Jvm.MethodName) ({ cls := "GraticulePress$Grid", name := "erase", desc := "(III)V" } : Jvm.MethodName) ∈ gwA := gwA_at 361 (by decide +kernel) rfl
theorem gw_362 : Jvm.Cond.code ({ cls := "GraticulePress$Grid", name := "erase", desc := "(III)V" } : Jvm.MethodName) prog_3_method_7_code (5 : Nat) (Option.none : Option Jvm.ClassFile.FieldType) ∈ gwA := gwA_at 362 (by decide +kernel) rfl
theorem gw_364 : Jvm.Cond.methodLink "GraticulePressLaw" (108 : Nat) ({ cls := "GraticulePressLaw", name := "makes", desc := "(LGraticulePress;[I[I[III)Z" } : Jvm.MethodName) ∈ gwA := gwA_at 364 (by decide +kernel) rfl
theorem gw_365 : Jvm.Cond.static ({ cls := "GraticulePressLaw", name := "makes", desc := "(LGraticulePress;[I[I[III)Z" } : Jvm.MethodName) ∈ gwA := gwA_at 365 (by decide +kernel) rfl
theorem gw_366 : Jvm.Cond.code ({ cls := "GraticulePressLaw", name := "makes", desc := "(LGraticulePress;[I[I[III)Z" } : Jvm.MethodName) method_22_code (10 : Nat) (Option.some Jvm.ClassFile.FieldType.boolean) ∈ gwA := gwA_at 366 (by decide +kernel) rfl
theorem gw_367 : Jvm.Cond.methodLink "GraticulePressLaw" (90 : Nat) ({ cls := "GraticulePressLaw", name := "low", desc := "(II)I" } : Jvm.MethodName) ∈ gwA := gwA_at 367 (by decide +kernel) rfl
theorem gw_368 : Jvm.Cond.static ({ cls := "GraticulePressLaw", name := "low", desc := "(II)I" } : Jvm.MethodName) ∈ gwA := gwA_at 368 (by decide +kernel) rfl
theorem gw_369 : Jvm.Cond.code ({ cls := "GraticulePressLaw", name := "low", desc := "(II)I" } : Jvm.MethodName) method_3_code (2 : Nat) (Option.some Jvm.ClassFile.FieldType.int) ∈ gwA := gwA_at 369 (by decide +kernel) rfl
theorem gw_375 : Jvm.Cond.methodLink "GraticulePressLaw" (40 : Nat) ({ cls := "GraticulePress", name := "sheet", desc := "(III)I" } : Jvm.MethodName) ∈ gwA := gwA_at 375 (by decide +kernel) rfl
theorem gw_376 : Jvm.Cond.instanceMethod ({ cls := "GraticulePress", name := "sheet", desc := "(III)I" } : Jvm.MethodName) ∈ gwA := gwA_at 376 (by decide +kernel) rfl
theorem gw_377 : Jvm.Cond.selects "GraticulePress" ({ cls := "GraticulePress", name := "sheet", desc := "(III)I" } : Jvm.MethodName) ({ cls := "GraticulePress", name := "sheet", desc := "(III)I" } : Jvm.MethodName) ∈ gwA := gwA_at 377 (by decide +kernel) rfl
theorem gw_378 : Jvm.Cond.code ({ cls := "GraticulePress", name := "sheet", desc := "(III)I" } : Jvm.MethodName) prog_1_method_7_code (6 : Nat) (Option.some Jvm.ClassFile.FieldType.int) ∈ gwA := gwA_at 378 (by decide +kernel) rfl
theorem gw_379 : Jvm.Cond.methodLink "GraticulePress" (67 : Nat) ({ cls := "GraticulePress", name := "isWithin", desc := "(III)Z" } : Jvm.MethodName) ∈ gwA := gwA_at 379 (by decide +kernel) rfl
theorem gw_380 : Jvm.Cond.static ({ cls := "GraticulePress", name := "isWithin", desc := "(III)Z" } : Jvm.MethodName) ∈ gwA := gwA_at 380 (by decide +kernel) rfl
theorem gw_381 : Jvm.Cond.code ({ cls := "GraticulePress", name := "isWithin", desc := "(III)Z" } : Jvm.MethodName) prog_1_method_15_code (3 : Nat) (Option.some Jvm.ClassFile.FieldType.boolean) ∈ gwA := gwA_at 381 (by decide +kernel) rfl
theorem gw_382 : Jvm.Cond.classLink "GraticulePress" (47 : Nat) "java/lang/IllegalArgumentException" ∈ gwA := gwA_at 382 (by decide +kernel) rfl
theorem gw_399 : Jvm.Cond.methodLink "GraticulePress" (141 : Nat) ({ cls := "GraticulePress$Sheet", name := "<init>", desc := "(III)V" } : Jvm.MethodName) ∈ gwA := gwA_at 399 (by decide +kernel) rfl
theorem gw_400 : Jvm.Cond.instanceMethod ({ cls := "GraticulePress$Sheet", name := "<init>", desc := "(III)V" } : Jvm.MethodName) ∈ gwA := gwA_at 400 (by decide +kernel) rfl
theorem gw_401 : Jvm.Cond.code ({ cls := "GraticulePress$Sheet", name := "<init>", desc := "(III)V" } : Jvm.MethodName) prog_5_method_1_code (4 : Nat) (Option.none : Option Jvm.ClassFile.FieldType) ∈ gwA := gwA_at 401 (by decide +kernel) rfl
theorem gw_402 : Jvm.Cond.methodLink "GraticulePress$Sheet" (3 : Nat) ({ cls := "java/lang/Object", name := "<init>", desc := "()V" } : Jvm.MethodName) ∈ gwA := gwA_at 402 (by decide +kernel) rfl
theorem gw_403 : Jvm.Cond.classLink "GraticulePress$Sheet" (21 : Nat) "GraticulePress$Grid" ∈ gwA := gwA_at 403 (by decide +kernel) rfl
theorem gw_404 : Jvm.Cond.instantiable "GraticulePress$Grid" (1 : Nat) ∈ gwA := gwA_at 404 (by decide +kernel) rfl
theorem gw_405 : Jvm.Cond.methodLink "GraticulePress$Sheet" (23 : Nat) ({ cls := "GraticulePress$Grid", name := "<init>", desc := "()V" } : Jvm.MethodName) ∈ gwA := gwA_at 405 (by decide +kernel) rfl
theorem gw_406 : Jvm.Cond.instanceMethod ({ cls := "GraticulePress$Grid", name := "<init>", desc := "()V" } : Jvm.MethodName) ∈ gwA := gwA_at 406 (by decide +kernel) rfl
theorem gw_407 : Jvm.Cond.code ({ cls := "GraticulePress$Grid", name := "<init>", desc := "()V" } : Jvm.MethodName) prog_3_method_1_code (1 : Nat) (Option.none : Option Jvm.ClassFile.FieldType) ∈ gwA := gwA_at 407 (by decide +kernel) rfl
theorem gw_408 : Jvm.Cond.methodLink "GraticulePress$Grid" (3 : Nat) ({ cls := "java/lang/Object", name := "<init>", desc := "()V" } : Jvm.MethodName) ∈ gwA := gwA_at 408 (by decide +kernel) rfl
theorem gw_409 : Jvm.Cond.fieldLink "GraticulePress$Grid" (9 : Nat) "GraticulePress$Grid" "signs" "[C" ∈ gwA := gwA_at 409 (by decide +kernel) rfl
theorem gw_413 : Jvm.Cond.arrayClass Jvm.ClassFile.FieldType.char ∈ gwA := gwA_at 413 (by decide +kernel) rfl
theorem gw_414 : Jvm.Cond.classLink "GraticulePress$Sheet" (31 : Nat) "GraticulePress$Spot" ∈ gwA := gwA_at 414 (by decide +kernel) rfl
theorem gw_416 : Jvm.Cond.fieldLink "GraticulePress$Sheet" (24 : Nat) "GraticulePress$Sheet" "picture" "LGraticulePress$Grid;" ∈ gwA := gwA_at 416 (by decide +kernel) rfl
theorem gw_417 : Jvm.Cond.fieldLink "GraticulePress" (173 : Nat) "GraticulePress$Sheet" "picture" "LGraticulePress$Grid;" ∈ gwA := gwA_at 417 (by decide +kernel) rfl
theorem gw_418 : Jvm.Cond.fieldLink "GraticulePress$Sheet" (28 : Nat) "GraticulePress$Sheet" "trial" "LGraticulePress$Grid;" ∈ gwA := gwA_at 418 (by decide +kernel) rfl
theorem gw_419 : Jvm.Cond.fieldLink "GraticulePress$Sheet" (9 : Nat) "GraticulePress$Sheet" "length" "I" ∈ gwA := gwA_at 419 (by decide +kernel) rfl
theorem gw_420 : Jvm.Cond.fieldLink "GraticulePress$Sheet" (15 : Nat) "GraticulePress$Sheet" "breadth" "I" ∈ gwA := gwA_at 420 (by decide +kernel) rfl
theorem gw_421 : Jvm.Cond.fieldLink "GraticulePress$Sheet" (18 : Nat) "GraticulePress$Sheet" "kind" "I" ∈ gwA := gwA_at 421 (by decide +kernel) rfl
theorem gw_422 : Jvm.Cond.fieldLink "GraticulePress$Sheet" (33 : Nat) "GraticulePress$Sheet" "spots" "[LGraticulePress$Spot;" ∈ gwA := gwA_at 422 (by decide +kernel) rfl
theorem gw_423 : Jvm.Cond.fieldLink "GraticulePress$Sheet" (40 : Nat) "GraticulePress$Sheet" "spotCount" "I" ∈ gwA := gwA_at 423 (by decide +kernel) rfl
theorem gw_424 : Jvm.Cond.fieldLink "GraticulePress$Sheet" (37 : Nat) "GraticulePress$Sheet" "named" "[LGraticulePress$Spot;" ∈ gwA := gwA_at 424 (by decide +kernel) rfl
theorem gw_425 : Jvm.Cond.fieldLink "GraticulePress$Sheet" (43 : Nat) "GraticulePress$Sheet" "namedCount" "I" ∈ gwA := gwA_at 425 (by decide +kernel) rfl
theorem gw_446 : Jvm.Cond.methodLink "GraticulePress" (142 : Nat) ({ cls := "GraticulePress$Sheet", name := "show", desc := "(LGraticulePress$Place;)V" } : Jvm.MethodName) ∈ gwA := gwA_at 446 (by decide +kernel) rfl
theorem gw_447 : Jvm.Cond.instanceMethod ({ cls := "GraticulePress$Sheet", name := "show", desc := "(LGraticulePress$Place;)V" } : Jvm.MethodName) ∈ gwA := gwA_at 447 (by decide +kernel) rfl
theorem gw_448 : Jvm.Cond.selects "GraticulePress$Sheet" ({ cls := "GraticulePress$Sheet", name := "show", desc := "(LGraticulePress$Place;)V" } : Jvm.MethodName) ({ cls := "GraticulePress$Sheet", name := "show", desc := "(LGraticulePress$Place;)V" } : Jvm.MethodName) ∈ gwA := gwA_at 448 (by decide +kernel) rfl
theorem gw_449 : Jvm.Cond.code ({ cls := "GraticulePress$Sheet", name := "show", desc := "(LGraticulePress$Place;)V" } : Jvm.MethodName) prog_5_method_2_code (2 : Nat) (Option.none : Option Jvm.ClassFile.FieldType) ∈ gwA := gwA_at 449 (by decide +kernel) rfl
theorem gw_450 : Jvm.Cond.methodLink "GraticulePress$Sheet" (46 : Nat) ({ cls := "GraticulePress$Sheet", name := "has", desc := "(LGraticulePress$Place;)Z" } : Jvm.MethodName) ∈ gwA := gwA_at 450 (by decide +kernel) rfl
theorem gw_452 : Jvm.Cond.instanceMethod ({ cls := "GraticulePress$Sheet", name := "has", desc := "(LGraticulePress$Place;)Z" } : Jvm.MethodName) ∈ gwA := gwA_at 452 (by decide +kernel) rfl
theorem gw_453 : Jvm.Cond.code ({ cls := "GraticulePress$Sheet", name := "has", desc := "(LGraticulePress$Place;)Z" } : Jvm.MethodName) prog_5_method_3_code (2 : Nat) (Option.some Jvm.ClassFile.FieldType.boolean) ∈ gwA := gwA_at 453 (by decide +kernel) rfl
theorem gw_455 : Jvm.Cond.methodLink "GraticulePress$Sheet" (50 : Nat) ({ cls := "GraticulePress$Sheet", name := "columnOf", desc := "(LGraticulePress$Place;)I" } : Jvm.MethodName) ∈ gwA := gwA_at 455 (by decide +kernel) rfl
theorem gw_457 : Jvm.Cond.instanceMethod ({ cls := "GraticulePress$Sheet", name := "columnOf", desc := "(LGraticulePress$Place;)I" } : Jvm.MethodName) ∈ gwA := gwA_at 457 (by decide +kernel) rfl
theorem gw_458 : Jvm.Cond.code ({ cls := "GraticulePress$Sheet", name := "columnOf", desc := "(LGraticulePress$Place;)I" } : Jvm.MethodName) prog_5_method_5_code (5 : Nat) (Option.some Jvm.ClassFile.FieldType.int) ∈ gwA := gwA_at 458 (by decide +kernel) rfl
theorem gw_459 : Jvm.Cond.constantFloat "GraticulePress$Sheet" (68 : Nat) (1017370378 : UInt32) ∈ gwA := gwA_at 459 (by decide +kernel) rfl
theorem gw_460 : Jvm.Cond.constantFloat "GraticulePress$Sheet" (69 : Nat) (1097859072 : UInt32) ∈ gwA := gwA_at 460 (by decide +kernel) rfl
theorem gw_461 : Jvm.Cond.constantFloat "GraticulePress$Sheet" (70 : Nat) (1082130432 : UInt32) ∈ gwA := gwA_at 461 (by decide +kernel) rfl
theorem gw_462 : Jvm.Cond.constantFloat "GraticulePress$Sheet" (71 : Nat) (1077936128 : UInt32) ∈ gwA := gwA_at 462 (by decide +kernel) rfl
theorem gw_463 : Jvm.Cond.constantFloat "GraticulePress$Sheet" (72 : Nat) (1101004800 : UInt32) ∈ gwA := gwA_at 463 (by decide +kernel) rfl
theorem gw_464 : Jvm.Cond.methodLink "GraticulePress$Sheet" (54 : Nat) ({ cls := "GraticulePress$Sheet", name := "rowOf", desc := "(LGraticulePress$Place;)I" } : Jvm.MethodName) ∈ gwA := gwA_at 464 (by decide +kernel) rfl
theorem gw_466 : Jvm.Cond.instanceMethod ({ cls := "GraticulePress$Sheet", name := "rowOf", desc := "(LGraticulePress$Place;)I" } : Jvm.MethodName) ∈ gwA := gwA_at 466 (by decide +kernel) rfl
theorem gw_467 : Jvm.Cond.code ({ cls := "GraticulePress$Sheet", name := "rowOf", desc := "(LGraticulePress$Place;)I" } : Jvm.MethodName) prog_5_method_4_code (2 : Nat) (Option.some Jvm.ClassFile.FieldType.int) ∈ gwA := gwA_at 467 (by decide +kernel) rfl
theorem gw_468 : Jvm.Cond.methodLink "GraticulePress$Sheet" (57 : Nat) ({ cls := "GraticulePress$Spot", name := "<init>", desc := "(LGraticulePress$Place;II)V" } : Jvm.MethodName) ∈ gwA := gwA_at 468 (by decide +kernel) rfl
theorem gw_469 : Jvm.Cond.instanceMethod ({ cls := "GraticulePress$Spot", name := "<init>", desc := "(LGraticulePress$Place;II)V" } : Jvm.MethodName) ∈ gwA := gwA_at 469 (by decide +kernel) rfl
theorem gw_470 : Jvm.Cond.code ({ cls := "GraticulePress$Spot", name := "<init>", desc := "(LGraticulePress$Place;II)V" } : Jvm.MethodName) prog_7_method_1_code (4 : Nat) (Option.none : Option Jvm.ClassFile.FieldType) ∈ gwA := gwA_at 470 (by decide +kernel) rfl
theorem gw_471 : Jvm.Cond.methodLink "GraticulePress$Spot" (3 : Nat) ({ cls := "java/lang/Object", name := "<init>", desc := "()V" } : Jvm.MethodName) ∈ gwA := gwA_at 471 (by decide +kernel) rfl
theorem gw_472 : Jvm.Cond.fieldLink "GraticulePress$Spot" (21 : Nat) "GraticulePress$Spot" "rank" "I" ∈ gwA := gwA_at 472 (by decide +kernel) rfl
theorem gw_473 : Jvm.Cond.fieldLink "GraticulePress$Sheet" (87 : Nat) "GraticulePress$Spot" "rank" "I" ∈ gwA := gwA_at 473 (by decide +kernel) rfl
theorem gw_474 : Jvm.Cond.fieldLink "GraticulePress$Spot" (22 : Nat) "GraticulePress$Spot" "column" "I" ∈ gwA := gwA_at 474 (by decide +kernel) rfl
theorem gw_475 : Jvm.Cond.fieldLink "GraticulePress" (157 : Nat) "GraticulePress$Spot" "column" "I" ∈ gwA := gwA_at 475 (by decide +kernel) rfl
theorem gw_476 : Jvm.Cond.fieldLink "GraticulePress$Sheet" (103 : Nat) "GraticulePress$Spot" "column" "I" ∈ gwA := gwA_at 476 (by decide +kernel) rfl
theorem gw_477 : Jvm.Cond.fieldLink "GraticulePress$Spot" (25 : Nat) "GraticulePress$Spot" "row" "I" ∈ gwA := gwA_at 477 (by decide +kernel) rfl
theorem gw_478 : Jvm.Cond.fieldLink "GraticulePress" (152 : Nat) "GraticulePress$Spot" "row" "I" ∈ gwA := gwA_at 478 (by decide +kernel) rfl
theorem gw_479 : Jvm.Cond.fieldLink "GraticulePress$Sheet" (100 : Nat) "GraticulePress$Spot" "row" "I" ∈ gwA := gwA_at 479 (by decide +kernel) rfl
theorem gw_480 : Jvm.Cond.fieldLink "GraticulePress$Spot" (9 : Nat) "GraticulePress$Spot" "place" "LGraticulePress$Place;" ∈ gwA := gwA_at 480 (by decide +kernel) rfl
theorem gw_481 : Jvm.Cond.fieldLink "GraticulePress$Spot" (28 : Nat) "GraticulePress$Spot" "word" "Ljava/lang/String;" ∈ gwA := gwA_at 481 (by decide +kernel) rfl
theorem gw_482 : Jvm.Cond.fieldLink "GraticulePress$Spot" (32 : Nat) "GraticulePress$Spot" "side" "I" ∈ gwA := gwA_at 482 (by decide +kernel) rfl
theorem gw_485 : Jvm.Cond.fieldLink "GraticulePress$Spot" (35 : Nat) "GraticulePress$Spot" "sideAhead" "I" ∈ gwA := gwA_at 485 (by decide +kernel) rfl
theorem gw_501 : Jvm.Cond.methodLink "GraticulePress" (145 : Nat) ({ cls := "GraticulePress$Sheet", name := "placeAnew", desc := "(I)V" } : Jvm.MethodName) ∈ gwA := gwA_at 501 (by decide +kernel) rfl
theorem gw_502 : Jvm.Cond.instanceMethod ({ cls := "GraticulePress$Sheet", name := "placeAnew", desc := "(I)V" } : Jvm.MethodName) ∈ gwA := gwA_at 502 (by decide +kernel) rfl
theorem gw_503 : Jvm.Cond.selects "GraticulePress$Sheet" ({ cls := "GraticulePress$Sheet", name := "placeAnew", desc := "(I)V" } : Jvm.MethodName) ({ cls := "GraticulePress$Sheet", name := "placeAnew", desc := "(I)V" } : Jvm.MethodName) ∈ gwA := gwA_at 503 (by decide +kernel) rfl
theorem gw_504 : Jvm.Cond.code ({ cls := "GraticulePress$Sheet", name := "placeAnew", desc := "(I)V" } : Jvm.MethodName) prog_5_method_7_code (4 : Nat) (Option.none : Option Jvm.ClassFile.FieldType) ∈ gwA := gwA_at 504 (by decide +kernel) rfl
theorem gw_505 : Jvm.Cond.methodLink "GraticulePress$Sheet" (73 : Nat) ({ cls := "GraticulePress$Spot", name := "takeUp", desc := "(I)V" } : Jvm.MethodName) ∈ gwA := gwA_at 505 (by decide +kernel) rfl
theorem gw_506 : Jvm.Cond.instanceMethod ({ cls := "GraticulePress$Spot", name := "takeUp", desc := "(I)V" } : Jvm.MethodName) ∈ gwA := gwA_at 506 (by decide +kernel) rfl
theorem gw_507 : Jvm.Cond.selects "GraticulePress$Spot" ({ cls := "GraticulePress$Spot", name := "takeUp", desc := "(I)V" } : Jvm.MethodName) ({ cls := "GraticulePress$Spot", name := "takeUp", desc := "(I)V" } : Jvm.MethodName) ∈ gwA := gwA_at 507 (by decide +kernel) rfl
theorem gw_508 : Jvm.Cond.code ({ cls := "GraticulePress$Spot", name := "takeUp", desc := "(I)V" } : Jvm.MethodName) prog_7_method_2_code (2 : Nat) (Option.none : Option Jvm.ClassFile.FieldType) ∈ gwA := gwA_at 508 (by decide +kernel) rfl
theorem gw_509 : Jvm.Cond.methodLink "GraticulePress$Spot" (38 : Nat) ({ cls := "GraticulePress$Place", name := "wordOn", desc := "(I)Ljava/lang/String;" } : Jvm.MethodName) ∈ gwA := gwA_at 509 (by decide +kernel) rfl
theorem gw_510 : Jvm.Cond.instanceMethod ({ cls := "GraticulePress$Place", name := "wordOn", desc := "(I)Ljava/lang/String;" } : Jvm.MethodName) ∈ gwA := gwA_at 510 (by decide +kernel) rfl
theorem gw_511 : Jvm.Cond.selects "GraticulePress$Place" ({ cls := "GraticulePress$Place", name := "wordOn", desc := "(I)Ljava/lang/String;" } : Jvm.MethodName) ({ cls := "GraticulePress$Place", name := "wordOn", desc := "(I)Ljava/lang/String;" } : Jvm.MethodName) ∈ gwA := gwA_at 511 (by decide +kernel) rfl
theorem gw_512 : Jvm.Cond.code ({ cls := "GraticulePress$Place", name := "wordOn", desc := "(I)Ljava/lang/String;" } : Jvm.MethodName) prog_4_method_4_code (5 : Nat) (Option.some (Jvm.ClassFile.FieldType.object "java/lang/String")) ∈ gwA := gwA_at 512 (by decide +kernel) rfl
theorem gw_513 : Jvm.Cond.methodLink "GraticulePress$Sheet" (77 : Nat) ({ cls := "GraticulePress$Sheet", name := "listNamed", desc := "()V" } : Jvm.MethodName) ∈ gwA := gwA_at 513 (by decide +kernel) rfl
theorem gw_515 : Jvm.Cond.instanceMethod ({ cls := "GraticulePress$Sheet", name := "listNamed", desc := "()V" } : Jvm.MethodName) ∈ gwA := gwA_at 515 (by decide +kernel) rfl
theorem gw_516 : Jvm.Cond.code ({ cls := "GraticulePress$Sheet", name := "listNamed", desc := "()V" } : Jvm.MethodName) prog_5_method_8_code (4 : Nat) (Option.none : Option Jvm.ClassFile.FieldType) ∈ gwA := gwA_at 516 (by decide +kernel) rfl
theorem gw_517 : Jvm.Cond.methodLink "GraticulePress$Sheet" (90 : Nat) ({ cls := "GraticulePress$Spot", name := "isNamed", desc := "()Z" } : Jvm.MethodName) ∈ gwA := gwA_at 517 (by decide +kernel) rfl
theorem gw_518 : Jvm.Cond.instanceMethod ({ cls := "GraticulePress$Spot", name := "isNamed", desc := "()Z" } : Jvm.MethodName) ∈ gwA := gwA_at 518 (by decide +kernel) rfl
theorem gw_519 : Jvm.Cond.selects "GraticulePress$Spot" ({ cls := "GraticulePress$Spot", name := "isNamed", desc := "()Z" } : Jvm.MethodName) ({ cls := "GraticulePress$Spot", name := "isNamed", desc := "()Z" } : Jvm.MethodName) ∈ gwA := gwA_at 519 (by decide +kernel) rfl
theorem gw_520 : Jvm.Cond.code ({ cls := "GraticulePress$Spot", name := "isNamed", desc := "()Z" } : Jvm.MethodName) prog_7_method_4_code (1 : Nat) (Option.some Jvm.ClassFile.FieldType.boolean) ∈ gwA := gwA_at 520 (by decide +kernel) rfl
theorem gw_521 : Jvm.Cond.methodLink "GraticulePress$Spot" (42 : Nat) ({ cls := "GraticulePress$Spot", name := "isOnSheet", desc := "()Z" } : Jvm.MethodName) ∈ gwA := gwA_at 521 (by decide +kernel) rfl
theorem gw_522 : Jvm.Cond.methodLink "GraticulePress$Sheet" (84 : Nat) ({ cls := "GraticulePress$Spot", name := "standAtFirstFree", desc := "(LGraticulePress$Grid;)V" } : Jvm.MethodName) ∈ gwA := gwA_at 522 (by decide +kernel) rfl
theorem gw_523 : Jvm.Cond.instanceMethod ({ cls := "GraticulePress$Spot", name := "standAtFirstFree", desc := "(LGraticulePress$Grid;)V" } : Jvm.MethodName) ∈ gwA := gwA_at 523 (by decide +kernel) rfl
theorem gw_524 : Jvm.Cond.selects "GraticulePress$Spot" ({ cls := "GraticulePress$Spot", name := "standAtFirstFree", desc := "(LGraticulePress$Grid;)V" } : Jvm.MethodName) ({ cls := "GraticulePress$Spot", name := "standAtFirstFree", desc := "(LGraticulePress$Grid;)V" } : Jvm.MethodName) ∈ gwA := gwA_at 524 (by decide +kernel) rfl
theorem gw_525 : Jvm.Cond.code ({ cls := "GraticulePress$Spot", name := "standAtFirstFree", desc := "(LGraticulePress$Grid;)V" } : Jvm.MethodName) prog_7_method_11_code (3 : Nat) (Option.none : Option Jvm.ClassFile.FieldType) ∈ gwA := gwA_at 525 (by decide +kernel) rfl
theorem gw_526 : Jvm.Cond.methodLink "GraticulePress$Spot" (74 : Nat) ({ cls := "GraticulePress$Spot", name := "mayStand", desc := "(LGraticulePress$Grid;I)Z" } : Jvm.MethodName) ∈ gwA := gwA_at 526 (by decide +kernel) rfl
theorem gw_527 : Jvm.Cond.methodLink "GraticulePress$Spot" (78 : Nat) ({ cls := "GraticulePress$Spot", name := "write", desc := "(LGraticulePress$Grid;I)V" } : Jvm.MethodName) ∈ gwA := gwA_at 527 (by decide +kernel) rfl
theorem gw_532 : Jvm.Cond.methodLink "GraticulePressLaw" (22 : Nat) ({ cls := "GraticulePress", name := "place", desc := "(III)I" } : Jvm.MethodName) ∈ gwA := gwA_at 532 (by decide +kernel) rfl
theorem gw_533 : Jvm.Cond.instanceMethod ({ cls := "GraticulePress", name := "place", desc := "(III)I" } : Jvm.MethodName) ∈ gwA := gwA_at 533 (by decide +kernel) rfl
theorem gw_534 : Jvm.Cond.selects "GraticulePress" ({ cls := "GraticulePress", name := "place", desc := "(III)I" } : Jvm.MethodName) ({ cls := "GraticulePress", name := "place", desc := "(III)I" } : Jvm.MethodName) ∈ gwA := gwA_at 534 (by decide +kernel) rfl
theorem gw_535 : Jvm.Cond.code ({ cls := "GraticulePress", name := "place", desc := "(III)I" } : Jvm.MethodName) prog_1_method_3_code (5 : Nat) (Option.some Jvm.ClassFile.FieldType.int) ∈ gwA := gwA_at 535 (by decide +kernel) rfl
theorem gw_538 : Jvm.Cond.instantiable "GraticulePress$Place" (5 : Nat) ∈ gwA := gwA_at 538 (by decide +kernel) rfl
theorem gw_539 : Jvm.Cond.methodLink "GraticulePress" (75 : Nat) ({ cls := "GraticulePress$Place", name := "<init>", desc := "(III)V" } : Jvm.MethodName) ∈ gwA := gwA_at 539 (by decide +kernel) rfl
theorem gw_540 : Jvm.Cond.instanceMethod ({ cls := "GraticulePress$Place", name := "<init>", desc := "(III)V" } : Jvm.MethodName) ∈ gwA := gwA_at 540 (by decide +kernel) rfl
theorem gw_541 : Jvm.Cond.code ({ cls := "GraticulePress$Place", name := "<init>", desc := "(III)V" } : Jvm.MethodName) prog_4_method_1_code (4 : Nat) (Option.none : Option Jvm.ClassFile.FieldType) ∈ gwA := gwA_at 541 (by decide +kernel) rfl
theorem gw_542 : Jvm.Cond.methodLink "GraticulePress$Place" (3 : Nat) ({ cls := "java/lang/Object", name := "<init>", desc := "()V" } : Jvm.MethodName) ∈ gwA := gwA_at 542 (by decide +kernel) rfl
theorem gw_543 : Jvm.Cond.classLink "GraticulePress$Place" (21 : Nat) "GraticulePress$Spelling" ∈ gwA := gwA_at 543 (by decide +kernel) rfl
theorem gw_545 : Jvm.Cond.fieldLink "GraticulePress$Place" (9 : Nat) "GraticulePress$Place" "length" "I" ∈ gwA := gwA_at 545 (by decide +kernel) rfl
theorem gw_546 : Jvm.Cond.fieldLink "GraticulePress$Sheet" (60 : Nat) "GraticulePress$Place" "length" "I" ∈ gwA := gwA_at 546 (by decide +kernel) rfl
theorem gw_547 : Jvm.Cond.fieldLink "GraticulePress$Place" (15 : Nat) "GraticulePress$Place" "breadth" "I" ∈ gwA := gwA_at 547 (by decide +kernel) rfl
theorem gw_548 : Jvm.Cond.fieldLink "GraticulePress$Sheet" (67 : Nat) "GraticulePress$Place" "breadth" "I" ∈ gwA := gwA_at 548 (by decide +kernel) rfl
theorem gw_549 : Jvm.Cond.fieldLink "GraticulePress$Spot" (15 : Nat) "GraticulePress$Place" "rank" "I" ∈ gwA := gwA_at 549 (by decide +kernel) rfl
theorem gw_550 : Jvm.Cond.fieldLink "GraticulePress$Place" (18 : Nat) "GraticulePress$Place" "rank" "I" ∈ gwA := gwA_at 550 (by decide +kernel) rfl
theorem gw_551 : Jvm.Cond.fieldLink "GraticulePress$Place" (23 : Nat) "GraticulePress$Place" "spellings" "[LGraticulePress$Spelling;" ∈ gwA := gwA_at 551 (by decide +kernel) rfl
theorem gw_552 : Jvm.Cond.fieldLink "GraticulePress$Place" (27 : Nat) "GraticulePress$Place" "toldCount" "I" ∈ gwA := gwA_at 552 (by decide +kernel) rfl
theorem gw_564 : Jvm.Cond.methodLink "GraticulePress" (78 : Nat) ({ cls := "GraticulePress", name := "showOnAllSheets", desc := "(LGraticulePress$Place;)V" } : Jvm.MethodName) ∈ gwA := gwA_at 564 (by decide +kernel) rfl
theorem gw_566 : Jvm.Cond.instanceMethod ({ cls := "GraticulePress", name := "showOnAllSheets", desc := "(LGraticulePress$Place;)V" } : Jvm.MethodName) ∈ gwA := gwA_at 566 (by decide +kernel) rfl
theorem gw_567 : Jvm.Cond.code ({ cls := "GraticulePress", name := "showOnAllSheets", desc := "(LGraticulePress$Place;)V" } : Jvm.MethodName) prog_1_method_21_code (4 : Nat) (Option.none : Option Jvm.ClassFile.FieldType) ∈ gwA := gwA_at 567 (by decide +kernel) rfl
theorem gw_571 : Jvm.Cond.methodLink "GraticulePressLaw" (33 : Nat) ({ cls := "GraticulePress", name := "spelled", desc := "(III)C" } : Jvm.MethodName) ∈ gwA := gwA_at 571 (by decide +kernel) rfl
theorem gw_572 : Jvm.Cond.instanceMethod ({ cls := "GraticulePress", name := "spelled", desc := "(III)C" } : Jvm.MethodName) ∈ gwA := gwA_at 572 (by decide +kernel) rfl
theorem gw_573 : Jvm.Cond.selects "GraticulePress" ({ cls := "GraticulePress", name := "spelled", desc := "(III)C" } : Jvm.MethodName) ({ cls := "GraticulePress", name := "spelled", desc := "(III)C" } : Jvm.MethodName) ∈ gwA := gwA_at 573 (by decide +kernel) rfl
theorem gw_574 : Jvm.Cond.code ({ cls := "GraticulePress", name := "spelled", desc := "(III)C" } : Jvm.MethodName) prog_1_method_5_code (6 : Nat) (Option.some Jvm.ClassFile.FieldType.char) ∈ gwA := gwA_at 574 (by decide +kernel) rfl
theorem gw_575 : Jvm.Cond.methodLink "GraticulePress" (82 : Nat) ({ cls := "GraticulePress", name := "placeNumbered", desc := "(I)LGraticulePress$Place;" } : Jvm.MethodName) ∈ gwA := gwA_at 575 (by decide +kernel) rfl
theorem gw_577 : Jvm.Cond.instanceMethod ({ cls := "GraticulePress", name := "placeNumbered", desc := "(I)LGraticulePress$Place;" } : Jvm.MethodName) ∈ gwA := gwA_at 577 (by decide +kernel) rfl
theorem gw_578 : Jvm.Cond.code ({ cls := "GraticulePress", name := "placeNumbered", desc := "(I)LGraticulePress$Place;" } : Jvm.MethodName) prog_1_method_17_code (2 : Nat) (Option.some (Jvm.ClassFile.FieldType.object "GraticulePress$Place")) ∈ gwA := gwA_at 578 (by decide +kernel) rfl
theorem gw_581 : Jvm.Cond.methodLink "GraticulePress" (122 : Nat) ({ cls := "GraticulePress$Place", name := "wordOn", desc := "(I)Ljava/lang/String;" } : Jvm.MethodName) ∈ gwA := gwA_at 581 (by decide +kernel) rfl
theorem gw_582 : Jvm.Cond.methodLink "GraticulePress" (126 : Nat) ({ cls := "java/lang/String", name := "length", desc := "()I" } : Jvm.MethodName) ∈ gwA := gwA_at 582 (by decide +kernel) rfl
theorem gw_583 : Jvm.Cond.methodLink "GraticulePress" (129 : Nat) ({ cls := "java/lang/String", name := "charAt", desc := "(I)C" } : Jvm.MethodName) ∈ gwA := gwA_at 583 (by decide +kernel) rfl
theorem gw_584 : Jvm.Cond.methodLink "GraticulePressLaw" (125 : Nat) ({ cls := "GraticulePressLaw", name := "arePrinted", desc := "(LGraticulePress;[I[I)Z" } : Jvm.MethodName) ∈ gwA := gwA_at 584 (by decide +kernel) rfl
theorem gw_585 : Jvm.Cond.static ({ cls := "GraticulePressLaw", name := "arePrinted", desc := "(LGraticulePress;[I[I)Z" } : Jvm.MethodName) ∈ gwA := gwA_at 585 (by decide +kernel) rfl
theorem gw_586 : Jvm.Cond.code ({ cls := "GraticulePressLaw", name := "arePrinted", desc := "(LGraticulePress;[I[I)Z" } : Jvm.MethodName) method_24_code (5 : Nat) (Option.some Jvm.ClassFile.FieldType.boolean) ∈ gwA := gwA_at 586 (by decide +kernel) rfl
theorem gw_590 : Jvm.Cond.methodLink "GraticulePressLaw" (64 : Nat) ({ cls := "GraticulePress", name := "printed", desc := "(IIII)C" } : Jvm.MethodName) ∈ gwA := gwA_at 590 (by decide +kernel) rfl
theorem gw_591 : Jvm.Cond.instanceMethod ({ cls := "GraticulePress", name := "printed", desc := "(IIII)C" } : Jvm.MethodName) ∈ gwA := gwA_at 591 (by decide +kernel) rfl
theorem gw_592 : Jvm.Cond.selects "GraticulePress" ({ cls := "GraticulePress", name := "printed", desc := "(IIII)C" } : Jvm.MethodName) ({ cls := "GraticulePress", name := "printed", desc := "(IIII)C" } : Jvm.MethodName) ∈ gwA := gwA_at 592 (by decide +kernel) rfl
theorem gw_593 : Jvm.Cond.code ({ cls := "GraticulePress", name := "printed", desc := "(IIII)C" } : Jvm.MethodName) prog_1_method_14_code (6 : Nat) (Option.some Jvm.ClassFile.FieldType.char) ∈ gwA := gwA_at 593 (by decide +kernel) rfl
theorem gw_594 : Jvm.Cond.methodLink "GraticulePress" (201 : Nat) ({ cls := "GraticulePress", name := "editionNumbered", desc := "(I)LGraticulePress$Edition;" } : Jvm.MethodName) ∈ gwA := gwA_at 594 (by decide +kernel) rfl
theorem gw_596 : Jvm.Cond.instanceMethod ({ cls := "GraticulePress", name := "editionNumbered", desc := "(I)LGraticulePress$Edition;" } : Jvm.MethodName) ∈ gwA := gwA_at 596 (by decide +kernel) rfl
theorem gw_597 : Jvm.Cond.code ({ cls := "GraticulePress", name := "editionNumbered", desc := "(I)LGraticulePress$Edition;" } : Jvm.MethodName) prog_1_method_19_code (2 : Nat) (Option.some (Jvm.ClassFile.FieldType.object "GraticulePress$Edition")) ∈ gwA := gwA_at 597 (by decide +kernel) rfl
theorem gw_599 : Jvm.Cond.methodLink "GraticulePress" (167 : Nat) ({ cls := "GraticulePress", name := "isOnGrid", desc := "(II)Z" } : Jvm.MethodName) ∈ gwA := gwA_at 599 (by decide +kernel) rfl
theorem gw_601 : Jvm.Cond.methodLink "GraticulePress" (207 : Nat) ({ cls := "GraticulePress$Edition", name := "signAt", desc := "(III)C" } : Jvm.MethodName) ∈ gwA := gwA_at 601 (by decide +kernel) rfl
theorem gw_602 : Jvm.Cond.instanceMethod ({ cls := "GraticulePress$Edition", name := "signAt", desc := "(III)C" } : Jvm.MethodName) ∈ gwA := gwA_at 602 (by decide +kernel) rfl
theorem gw_603 : Jvm.Cond.selects "GraticulePress$Edition" ({ cls := "GraticulePress$Edition", name := "signAt", desc := "(III)C" } : Jvm.MethodName) ({ cls := "GraticulePress$Edition", name := "signAt", desc := "(III)C" } : Jvm.MethodName) ∈ gwA := gwA_at 603 (by decide +kernel) rfl
theorem gw_604 : Jvm.Cond.code ({ cls := "GraticulePress$Edition", name := "signAt", desc := "(III)C" } : Jvm.MethodName) prog_2_method_3_code (4 : Nat) (Option.some Jvm.ClassFile.FieldType.char) ∈ gwA := gwA_at 604 (by decide +kernel) rfl
theorem gw_605 : Jvm.Cond.methodLink "GraticulePress$Edition" (22 : Nat) ({ cls := "GraticulePress$Grid", name := "signAt", desc := "(II)C" } : Jvm.MethodName) ∈ gwA := gwA_at 605 (by decide +kernel) rfl
theorem gw_606 : Jvm.Cond.methodLink "GraticulePressLaw" (141 : Nat) ({ cls := "GraticulePressLaw", name := "acts", desc := "(LGraticulePress;[I[I[I[III)Z" } : Jvm.MethodName) ∈ gwA := gwA_at 606 (by decide +kernel) rfl
theorem gw_607 : Jvm.Cond.static ({ cls := "GraticulePressLaw", name := "acts", desc := "(LGraticulePress;[I[I[I[III)Z" } : Jvm.MethodName) ∈ gwA := gwA_at 607 (by decide +kernel) rfl
theorem gw_608 : Jvm.Cond.code ({ cls := "GraticulePressLaw", name := "acts", desc := "(LGraticulePress;[I[I[I[III)Z" } : Jvm.MethodName) method_25_code (9 : Nat) (Option.some Jvm.ClassFile.FieldType.boolean) ∈ gwA := gwA_at 608 (by decide +kernel) rfl
theorem gw_609 : Jvm.Cond.methodLink "GraticulePressLaw" (112 : Nat) ({ cls := "GraticulePressLaw", name := "types", desc := "(LGraticulePress;[III)Z" } : Jvm.MethodName) ∈ gwA := gwA_at 609 (by decide +kernel) rfl
theorem gw_610 : Jvm.Cond.static ({ cls := "GraticulePressLaw", name := "types", desc := "(LGraticulePress;[III)Z" } : Jvm.MethodName) ∈ gwA := gwA_at 610 (by decide +kernel) rfl
theorem gw_611 : Jvm.Cond.code ({ cls := "GraticulePressLaw", name := "types", desc := "(LGraticulePress;[III)Z" } : Jvm.MethodName) method_20_code (7 : Nat) (Option.some Jvm.ClassFile.FieldType.boolean) ∈ gwA := gwA_at 611 (by decide +kernel) rfl
theorem gw_615 : Jvm.Cond.methodLink "GraticulePressLaw" (10 : Nat) ({ cls := "GraticulePress", name := "letter", desc := "(C)I" } : Jvm.MethodName) ∈ gwA := gwA_at 615 (by decide +kernel) rfl
theorem gw_616 : Jvm.Cond.instanceMethod ({ cls := "GraticulePress", name := "letter", desc := "(C)I" } : Jvm.MethodName) ∈ gwA := gwA_at 616 (by decide +kernel) rfl
theorem gw_617 : Jvm.Cond.selects "GraticulePress" ({ cls := "GraticulePress", name := "letter", desc := "(C)I" } : Jvm.MethodName) ({ cls := "GraticulePress", name := "letter", desc := "(C)I" } : Jvm.MethodName) ∈ gwA := gwA_at 617 (by decide +kernel) rfl
theorem gw_618 : Jvm.Cond.code ({ cls := "GraticulePress", name := "letter", desc := "(C)I" } : Jvm.MethodName) prog_1_method_2_code (2 : Nat) (Option.some Jvm.ClassFile.FieldType.int) ∈ gwA := gwA_at 618 (by decide +kernel) rfl
theorem gw_620 : Jvm.Cond.methodLink "GraticulePress" (54 : Nat) ({ cls := "java/lang/StringBuilder", name := "length", desc := "()I" } : Jvm.MethodName) ∈ gwA := gwA_at 620 (by decide +kernel) rfl
theorem gw_621 : Jvm.Cond.instanceMethod ({ cls := "java/lang/StringBuilder", name := "length", desc := "()I" } : Jvm.MethodName) ∈ gwA := gwA_at 621 (by decide +kernel) rfl
theorem gw_622 : Jvm.Cond.selects "java/lang/StringBuilder" ({ cls := "java/lang/StringBuilder", name := "length", desc := "()I" } : Jvm.MethodName) ({ cls := "java/lang/StringBuilder", name := "length", desc := "()I" } : Jvm.MethodName) ∈ gwA := gwA_at 622 (by decide +kernel) rfl
theorem gw_623 : Jvm.Cond.code ({ cls := "java/lang/StringBuilder", name := "length", desc := "()I" } : Jvm.MethodName) prog_21_method_93_code (1 : Nat) (Option.some Jvm.ClassFile.FieldType.int) ∈ gwA := gwA_at 623 (by decide +kernel) rfl
theorem gw_624 : Jvm.Cond.methodLink "java/lang/StringBuilder" (343 : Nat) ({ cls := "java/lang/AbstractStringBuilder", name := "length", desc := "()I" } : Jvm.MethodName) ∈ gwA := gwA_at 624 (by decide +kernel) rfl
theorem gw_626 : Jvm.Cond.code ({ cls := "java/lang/AbstractStringBuilder", name := "length", desc := "()I" } : Jvm.MethodName) prog_10_method_6_code (1 : Nat) (Option.some Jvm.ClassFile.FieldType.int) ∈ gwA := gwA_at 626 (by decide +kernel) rfl
theorem gw_628 : Jvm.Cond.methodLink "GraticulePress" (63 : Nat) ({ cls := "java/lang/StringBuilder", name := "append", desc := "(C)Ljava/lang/StringBuilder;" } : Jvm.MethodName) ∈ gwA := gwA_at 628 (by decide +kernel) rfl
theorem gw_629 : Jvm.Cond.instanceMethod ({ cls := "java/lang/StringBuilder", name := "append", desc := "(C)Ljava/lang/StringBuilder;" } : Jvm.MethodName) ∈ gwA := gwA_at 629 (by decide +kernel) rfl
theorem gw_630 : Jvm.Cond.selects "java/lang/StringBuilder" ({ cls := "java/lang/StringBuilder", name := "append", desc := "(C)Ljava/lang/StringBuilder;" } : Jvm.MethodName) ({ cls := "java/lang/StringBuilder", name := "append", desc := "(C)Ljava/lang/StringBuilder;" } : Jvm.MethodName) ∈ gwA := gwA_at 630 (by decide +kernel) rfl
theorem gw_631 : Jvm.Cond.code ({ cls := "java/lang/StringBuilder", name := "append", desc := "(C)Ljava/lang/StringBuilder;" } : Jvm.MethodName) prog_21_method_14_code (2 : Nat) (Option.some (Jvm.ClassFile.FieldType.object "java/lang/StringBuilder")) ∈ gwA := gwA_at 631 (by decide +kernel) rfl
theorem gw_632 : Jvm.Cond.methodLink "java/lang/StringBuilder" (50 : Nat) ({ cls := "java/lang/AbstractStringBuilder", name := "append", desc := "(C)Ljava/lang/AbstractStringBuilder;" } : Jvm.MethodName) ∈ gwA := gwA_at 632 (by decide +kernel) rfl
theorem gw_634 : Jvm.Cond.code ({ cls := "java/lang/AbstractStringBuilder", name := "append", desc := "(C)Ljava/lang/AbstractStringBuilder;" } : Jvm.MethodName) prog_10_method_31_code (2 : Nat) (Option.some (Jvm.ClassFile.FieldType.object "java/lang/AbstractStringBuilder")) ∈ gwA := gwA_at 634 (by decide +kernel) rfl
theorem gw_635 : Jvm.Cond.methodLink "java/lang/AbstractStringBuilder" (100 : Nat) ({ cls := "java/lang/AbstractStringBuilder", name := "ensureCapacityInternal", desc := "(I)V" } : Jvm.MethodName) ∈ gwA := gwA_at 635 (by decide +kernel) rfl
theorem gw_638 : Jvm.Cond.code ({ cls := "java/lang/AbstractStringBuilder", name := "ensureCapacityInternal", desc := "(I)V" } : Jvm.MethodName) prog_10_method_9_code (3 : Nat) (Option.none : Option Jvm.ClassFile.FieldType) ∈ gwA := gwA_at 638 (by decide +kernel) rfl
theorem gw_639 : Jvm.Cond.methodLink "java/lang/AbstractStringBuilder" (104 : Nat) ({ cls := "java/lang/AbstractStringBuilder", name := "newCapacity", desc := "(I)I" } : Jvm.MethodName) ∈ gwA := gwA_at 639 (by decide +kernel) rfl
theorem gw_642 : Jvm.Cond.code ({ cls := "java/lang/AbstractStringBuilder", name := "newCapacity", desc := "(I)I" } : Jvm.MethodName) prog_10_method_10_code (6 : Nat) (Option.some Jvm.ClassFile.FieldType.int) ∈ gwA := gwA_at 642 (by decide +kernel) rfl
theorem gw_643 : Jvm.Cond.methodLink "java/lang/AbstractStringBuilder" (114 : Nat) ({ cls := "jdk/internal/util/ArraysSupport", name := "newLength", desc := "(III)I" } : Jvm.MethodName) ∈ gwA := gwA_at 643 (by decide +kernel) rfl
theorem gw_644 : Jvm.Cond.static ({ cls := "jdk/internal/util/ArraysSupport", name := "newLength", desc := "(III)I" } : Jvm.MethodName) ∈ gwA := gwA_at 644 (by decide +kernel) rfl
theorem gw_645 : Jvm.Cond.code ({ cls := "jdk/internal/util/ArraysSupport", name := "newLength", desc := "(III)I" } : Jvm.MethodName) prog_28_method_27_code (4 : Nat) (Option.some Jvm.ClassFile.FieldType.int) ∈ gwA := gwA_at 645 (by decide +kernel) rfl
theorem gw_646 : Jvm.Cond.methodLink "jdk/internal/util/ArraysSupport" (194 : Nat) ({ cls := "java/lang/Math", name := "max", desc := "(II)I" } : Jvm.MethodName) ∈ gwA := gwA_at 646 (by decide +kernel) rfl
theorem gw_648 : Jvm.Cond.methodLink "jdk/internal/util/ArraysSupport" (201 : Nat) ({ cls := "jdk/internal/util/ArraysSupport", name := "hugeLength", desc := "(II)I" } : Jvm.MethodName) ∈ gwA := gwA_at 648 (by decide +kernel) rfl
theorem gw_649 : Jvm.Cond.static ({ cls := "jdk/internal/util/ArraysSupport", name := "hugeLength", desc := "(II)I" } : Jvm.MethodName) ∈ gwA := gwA_at 649 (by decide +kernel) rfl
theorem gw_650 : Jvm.Cond.code ({ cls := "jdk/internal/util/ArraysSupport", name := "hugeLength", desc := "(II)I" } : Jvm.MethodName) prog_28_method_28_code (3 : Nat) (Option.some Jvm.ClassFile.FieldType.int) ∈ gwA := gwA_at 650 (by decide +kernel) rfl
theorem gw_652 : Jvm.Cond.methodLink "java/lang/AbstractStringBuilder" (108 : Nat) ({ cls := "java/util/Arrays", name := "copyOf", desc := "([BI)[B" } : Jvm.MethodName) ∈ gwA := gwA_at 652 (by decide +kernel) rfl
theorem gw_653 : Jvm.Cond.static ({ cls := "java/util/Arrays", name := "copyOf", desc := "([BI)[B" } : Jvm.MethodName) ∈ gwA := gwA_at 653 (by decide +kernel) rfl
theorem gw_654 : Jvm.Cond.code ({ cls := "java/util/Arrays", name := "copyOf", desc := "([BI)[B" } : Jvm.MethodName) prog_27_method_121_code (3 : Nat) (Option.some (Jvm.ClassFile.FieldType.array Jvm.ClassFile.FieldType.byte)) ∈ gwA := gwA_at 654 (by decide +kernel) rfl
theorem gw_662 : Jvm.Cond.methodLink "java/util/Arrays" (304 : Nat) ({ cls := "java/lang/Math", name := "min", desc := "(II)I" } : Jvm.MethodName) ∈ gwA := gwA_at 662 (by decide +kernel) rfl
theorem gw_663 : Jvm.Cond.static ({ cls := "java/lang/Math", name := "min", desc := "(II)I" } : Jvm.MethodName) ∈ gwA := gwA_at 663 (by decide +kernel) rfl
theorem gw_664 : Jvm.Cond.code ({ cls := "java/lang/Math", name := "min", desc := "(II)I" } : Jvm.MethodName) prog_18_method_69_code (2 : Nat) (Option.some Jvm.ClassFile.FieldType.int) ∈ gwA := gwA_at 664 (by decide +kernel) rfl
theorem gw_668 : Jvm.Cond.methodLink "java/lang/AbstractStringBuilder" (83 : Nat) ({ cls := "java/lang/AbstractStringBuilder", name := "isLatin1", desc := "()Z" } : Jvm.MethodName) ∈ gwA := gwA_at 668 (by decide +kernel) rfl
theorem gw_672 : Jvm.Cond.code ({ cls := "java/lang/AbstractStringBuilder", name := "isLatin1", desc := "()Z" } : Jvm.MethodName) prog_10_method_68_code (1 : Nat) (Option.some Jvm.ClassFile.FieldType.boolean) ∈ gwA := gwA_at 672 (by decide +kernel) rfl
theorem gw_673 : Jvm.Cond.methodLink "java/lang/AbstractStringBuilder" (191 : Nat) ({ cls := "java/lang/StringLatin1", name := "canEncode", desc := "(C)Z" } : Jvm.MethodName) ∈ gwA := gwA_at 673 (by decide +kernel) rfl
theorem gw_674 : Jvm.Cond.static ({ cls := "java/lang/StringLatin1", name := "canEncode", desc := "(C)Z" } : Jvm.MethodName) ∈ gwA := gwA_at 674 (by decide +kernel) rfl
theorem gw_675 : Jvm.Cond.code ({ cls := "java/lang/StringLatin1", name := "canEncode", desc := "(C)Z" } : Jvm.MethodName) prog_23_method_3_code (1 : Nat) (Option.some Jvm.ClassFile.FieldType.boolean) ∈ gwA := gwA_at 675 (by decide +kernel) rfl
theorem gw_676 : Jvm.Cond.methodLink "java/lang/AbstractStringBuilder" (195 : Nat) ({ cls := "java/lang/AbstractStringBuilder", name := "inflate", desc := "()V" } : Jvm.MethodName) ∈ gwA := gwA_at 676 (by decide +kernel) rfl
theorem gw_679 : Jvm.Cond.code ({ cls := "java/lang/AbstractStringBuilder", name := "inflate", desc := "()V" } : Jvm.MethodName) prog_10_method_11_code (2 : Nat) (Option.none : Option Jvm.ClassFile.FieldType) ∈ gwA := gwA_at 679 (by decide +kernel) rfl
theorem gw_680 : Jvm.Cond.methodLink "java/lang/AbstractStringBuilder" (125 : Nat) ({ cls := "java/lang/StringLatin1", name := "inflate", desc := "([BI[BII)V" } : Jvm.MethodName) ∈ gwA := gwA_at 680 (by decide +kernel) rfl
theorem gw_681 : Jvm.Cond.static ({ cls := "java/lang/StringLatin1", name := "inflate", desc := "([BI[BII)V" } : Jvm.MethodName) ∈ gwA := gwA_at 681 (by decide +kernel) rfl
theorem gw_682 : Jvm.Cond.code ({ cls := "java/lang/StringLatin1", name := "inflate", desc := "([BI[BII)V" } : Jvm.MethodName) prog_23_method_50_code (5 : Nat) (Option.none : Option Jvm.ClassFile.FieldType) ∈ gwA := gwA_at 682 (by decide +kernel) rfl
theorem gw_683 : Jvm.Cond.methodLink "java/lang/StringLatin1" (240 : Nat) ({ cls := "java/lang/StringUTF16", name := "inflate", desc := "([BI[BII)V" } : Jvm.MethodName) ∈ gwA := gwA_at 683 (by decide +kernel) rfl
theorem gw_684 : Jvm.Cond.static ({ cls := "java/lang/StringUTF16", name := "inflate", desc := "([BI[BII)V" } : Jvm.MethodName) ∈ gwA := gwA_at 684 (by decide +kernel) rfl
theorem gw_685 : Jvm.Cond.code ({ cls := "java/lang/StringUTF16", name := "inflate", desc := "([BI[BII)V" } : Jvm.MethodName) prog_24_method_86_code (6 : Nat) (Option.none : Option Jvm.ClassFile.FieldType) ∈ gwA := gwA_at 685 (by decide +kernel) rfl
theorem gw_686 : Jvm.Cond.methodLink "java/lang/StringUTF16" (173 : Nat) ({ cls := "java/lang/StringUTF16", name := "checkBoundsOffCount", desc := "(II[B)V" } : Jvm.MethodName) ∈ gwA := gwA_at 686 (by decide +kernel) rfl
theorem gw_687 : Jvm.Cond.static ({ cls := "java/lang/StringUTF16", name := "checkBoundsOffCount", desc := "(II[B)V" } : Jvm.MethodName) ∈ gwA := gwA_at 687 (by decide +kernel) rfl
theorem gw_688 : Jvm.Cond.code ({ cls := "java/lang/StringUTF16", name := "checkBoundsOffCount", desc := "(II[B)V" } : Jvm.MethodName) prog_24_method_94_code (3 : Nat) (Option.none : Option Jvm.ClassFile.FieldType) ∈ gwA := gwA_at 688 (by decide +kernel) rfl
theorem gw_689 : Jvm.Cond.methodLink "java/lang/StringUTF16" (419 : Nat) ({ cls := "java/lang/String", name := "checkBoundsOffCount", desc := "(III)I" } : Jvm.MethodName) ∈ gwA := gwA_at 689 (by decide +kernel) rfl
theorem gw_690 : Jvm.Cond.static ({ cls := "java/lang/String", name := "checkBoundsOffCount", desc := "(III)I" } : Jvm.MethodName) ∈ gwA := gwA_at 690 (by decide +kernel) rfl
theorem gw_691 : Jvm.Cond.code ({ cls := "java/lang/String", name := "checkBoundsOffCount", desc := "(III)I" } : Jvm.MethodName) prog_20_method_157_code (3 : Nat) (Option.some Jvm.ClassFile.FieldType.int) ∈ gwA := gwA_at 691 (by decide +kernel) rfl
theorem gw_692 : Jvm.Cond.methodLink "java/lang/String" (1065 : Nat) ({ cls := "jdk/internal/util/Preconditions", name := "checkFromIndexSize", desc := "(IIILjava/util/function/BiFunction;)I" } : Jvm.MethodName) ∈ gwA := gwA_at 692 (by decide +kernel) rfl
theorem gw_693 : Jvm.Cond.static ({ cls := "jdk/internal/util/Preconditions", name := "checkFromIndexSize", desc := "(IIILjava/util/function/BiFunction;)I" } : Jvm.MethodName) ∈ gwA := gwA_at 693 (by decide +kernel) rfl
theorem gw_694 : Jvm.Cond.code ({ cls := "jdk/internal/util/Preconditions", name := "checkFromIndexSize", desc := "(IIILjava/util/function/BiFunction;)I" } : Jvm.MethodName) prog_29_method_13_code (4 : Nat) (Option.some Jvm.ClassFile.FieldType.int) ∈ gwA := gwA_at 694 (by decide +kernel) rfl
theorem gw_695 : Jvm.Cond.methodLink "java/lang/StringUTF16" (111 : Nat) ({ cls := "java/lang/StringUTF16", name := "putChar", desc := "([BII)V" } : Jvm.MethodName) ∈ gwA := gwA_at 695 (by decide +kernel) rfl
theorem gw_696 : Jvm.Cond.static ({ cls := "java/lang/StringUTF16", name := "putChar", desc := "([BII)V" } : Jvm.MethodName) ∈ gwA := gwA_at 696 (by decide +kernel) rfl
theorem gw_697 : Jvm.Cond.code ({ cls := "java/lang/StringUTF16", name := "putChar", desc := "([BII)V" } : Jvm.MethodName) prog_24_method_4_code (3 : Nat) (Option.none : Option Jvm.ClassFile.FieldType) ∈ gwA := gwA_at 697 (by decide +kernel) rfl
theorem gw_698 : Jvm.Cond.methodLink "java/lang/AbstractStringBuilder" (197 : Nat) ({ cls := "java/lang/StringUTF16", name := "putCharSB", desc := "([BII)V" } : Jvm.MethodName) ∈ gwA := gwA_at 698 (by decide +kernel) rfl
theorem gw_699 : Jvm.Cond.static ({ cls := "java/lang/StringUTF16", name := "putCharSB", desc := "([BII)V" } : Jvm.MethodName) ∈ gwA := gwA_at 699 (by decide +kernel) rfl
theorem gw_700 : Jvm.Cond.code ({ cls := "java/lang/StringUTF16", name := "putCharSB", desc := "([BII)V" } : Jvm.MethodName) prog_24_method_71_code (3 : Nat) (Option.none : Option Jvm.ClassFile.FieldType) ∈ gwA := gwA_at 700 (by decide +kernel) rfl
theorem gw_701 : Jvm.Cond.methodLink "GraticulePressLaw" (116 : Nat) ({ cls := "GraticulePressLaw", name := "names", desc := "(LGraticulePress;[I[II)Z" } : Jvm.MethodName) ∈ gwA := gwA_at 701 (by decide +kernel) rfl
theorem gw_702 : Jvm.Cond.static ({ cls := "GraticulePressLaw", name := "names", desc := "(LGraticulePress;[I[II)Z" } : Jvm.MethodName) ∈ gwA := gwA_at 702 (by decide +kernel) rfl
theorem gw_703 : Jvm.Cond.code ({ cls := "GraticulePressLaw", name := "names", desc := "(LGraticulePress;[I[II)Z" } : Jvm.MethodName) method_21_code (5 : Nat) (Option.some Jvm.ClassFile.FieldType.boolean) ∈ gwA := gwA_at 703 (by decide +kernel) rfl
theorem gw_707 : Jvm.Cond.methodLink "GraticulePressLaw" (26 : Nat) ({ cls := "GraticulePress", name := "name", desc := "(I)I" } : Jvm.MethodName) ∈ gwA := gwA_at 707 (by decide +kernel) rfl
theorem gw_708 : Jvm.Cond.instanceMethod ({ cls := "GraticulePress", name := "name", desc := "(I)I" } : Jvm.MethodName) ∈ gwA := gwA_at 708 (by decide +kernel) rfl
theorem gw_709 : Jvm.Cond.selects "GraticulePress" ({ cls := "GraticulePress", name := "name", desc := "(I)I" } : Jvm.MethodName) ({ cls := "GraticulePress", name := "name", desc := "(I)I" } : Jvm.MethodName) ∈ gwA := gwA_at 709 (by decide +kernel) rfl
theorem gw_710 : Jvm.Cond.code ({ cls := "GraticulePress", name := "name", desc := "(I)I" } : Jvm.MethodName) prog_1_method_4_code (3 : Nat) (Option.some Jvm.ClassFile.FieldType.int) ∈ gwA := gwA_at 710 (by decide +kernel) rfl
theorem gw_712 : Jvm.Cond.methodLink "GraticulePress" (88 : Nat) ({ cls := "GraticulePress$Place", name := "isToldOut", desc := "()Z" } : Jvm.MethodName) ∈ gwA := gwA_at 712 (by decide +kernel) rfl
theorem gw_713 : Jvm.Cond.instanceMethod ({ cls := "GraticulePress$Place", name := "isToldOut", desc := "()Z" } : Jvm.MethodName) ∈ gwA := gwA_at 713 (by decide +kernel) rfl
theorem gw_714 : Jvm.Cond.selects "GraticulePress$Place" ({ cls := "GraticulePress$Place", name := "isToldOut", desc := "()Z" } : Jvm.MethodName) ({ cls := "GraticulePress$Place", name := "isToldOut", desc := "()Z" } : Jvm.MethodName) ∈ gwA := gwA_at 714 (by decide +kernel) rfl
theorem gw_715 : Jvm.Cond.code ({ cls := "GraticulePress$Place", name := "isToldOut", desc := "()Z" } : Jvm.MethodName) prog_4_method_2_code (1 : Nat) (Option.some Jvm.ClassFile.FieldType.boolean) ∈ gwA := gwA_at 715 (by decide +kernel) rfl
theorem gw_717 : Jvm.Cond.classLink "GraticulePress" (94 : Nat) "GraticulePress$Spelling" ∈ gwA := gwA_at 717 (by decide +kernel) rfl
theorem gw_718 : Jvm.Cond.instantiable "GraticulePress$Spelling" (2 : Nat) ∈ gwA := gwA_at 718 (by decide +kernel) rfl
theorem gw_719 : Jvm.Cond.methodLink "GraticulePress" (96 : Nat) ({ cls := "java/lang/StringBuilder", name := "toString", desc := "()Ljava/lang/String;" } : Jvm.MethodName) ∈ gwA := gwA_at 719 (by decide +kernel) rfl
theorem gw_720 : Jvm.Cond.instanceMethod ({ cls := "java/lang/StringBuilder", name := "toString", desc := "()Ljava/lang/String;" } : Jvm.MethodName) ∈ gwA := gwA_at 720 (by decide +kernel) rfl
theorem gw_721 : Jvm.Cond.selects "java/lang/StringBuilder" ({ cls := "java/lang/StringBuilder", name := "toString", desc := "()Ljava/lang/String;" } : Jvm.MethodName) ({ cls := "java/lang/StringBuilder", name := "toString", desc := "()Ljava/lang/String;" } : Jvm.MethodName) ∈ gwA := gwA_at 721 (by decide +kernel) rfl
theorem gw_722 : Jvm.Cond.code ({ cls := "java/lang/StringBuilder", name := "toString", desc := "()Ljava/lang/String;" } : Jvm.MethodName) prog_21_method_42_code (1 : Nat) (Option.some (Jvm.ClassFile.FieldType.object "java/lang/String")) ∈ gwA := gwA_at 722 (by decide +kernel) rfl
theorem gw_723 : Jvm.Cond.classLink "java/lang/StringBuilder" (18 : Nat) "java/lang/String" ∈ gwA := gwA_at 723 (by decide +kernel) rfl
theorem gw_724 : Jvm.Cond.instantiable "java/lang/String" (4 : Nat) ∈ gwA := gwA_at 724 (by decide +kernel) rfl
theorem gw_725 : Jvm.Cond.methodLink "java/lang/StringBuilder" (137 : Nat) ({ cls := "java/lang/String", name := "<init>", desc := "(Ljava/lang/StringBuilder;)V" } : Jvm.MethodName) ∈ gwA := gwA_at 725 (by decide +kernel) rfl
theorem gw_726 : Jvm.Cond.instanceMethod ({ cls := "java/lang/String", name := "<init>", desc := "(Ljava/lang/StringBuilder;)V" } : Jvm.MethodName) ∈ gwA := gwA_at 726 (by decide +kernel) rfl
theorem gw_727 : Jvm.Cond.code ({ cls := "java/lang/String", name := "<init>", desc := "(Ljava/lang/StringBuilder;)V" } : Jvm.MethodName) prog_20_method_53_code (2 : Nat) (Option.none : Option Jvm.ClassFile.FieldType) ∈ gwA := gwA_at 727 (by decide +kernel) rfl
theorem gw_728 : Jvm.Cond.methodLink "java/lang/String" (489 : Nat) ({ cls := "java/lang/String", name := "<init>", desc := "(Ljava/lang/AbstractStringBuilder;Ljava/lang/Void;)V" } : Jvm.MethodName) ∈ gwA := gwA_at 728 (by decide +kernel) rfl
theorem gw_729 : Jvm.Cond.instanceMethod ({ cls := "java/lang/String", name := "<init>", desc := "(Ljava/lang/AbstractStringBuilder;Ljava/lang/Void;)V" } : Jvm.MethodName) ∈ gwA := gwA_at 729 (by decide +kernel) rfl
theorem gw_730 : Jvm.Cond.code ({ cls := "java/lang/String", name := "<init>", desc := "(Ljava/lang/AbstractStringBuilder;Ljava/lang/Void;)V" } : Jvm.MethodName) prog_20_method_150_code (5 : Nat) (Option.none : Option Jvm.ClassFile.FieldType) ∈ gwA := gwA_at 730 (by decide +kernel) rfl
theorem gw_731 : Jvm.Cond.methodLink "java/lang/String" (1 : Nat) ({ cls := "java/lang/Object", name := "<init>", desc := "()V" } : Jvm.MethodName) ∈ gwA := gwA_at 731 (by decide +kernel) rfl
theorem gw_732 : Jvm.Cond.methodLink "java/lang/String" (552 : Nat) ({ cls := "java/lang/AbstractStringBuilder", name := "getValue", desc := "()[B" } : Jvm.MethodName) ∈ gwA := gwA_at 732 (by decide +kernel) rfl
theorem gw_736 : Jvm.Cond.code ({ cls := "java/lang/AbstractStringBuilder", name := "getValue", desc := "()[B" } : Jvm.MethodName) prog_10_method_64_code (1 : Nat) (Option.some (Jvm.ClassFile.FieldType.array Jvm.ClassFile.FieldType.byte)) ∈ gwA := gwA_at 736 (by decide +kernel) rfl
theorem gw_737 : Jvm.Cond.methodLink "java/lang/String" (549 : Nat) ({ cls := "java/lang/AbstractStringBuilder", name := "length", desc := "()I" } : Jvm.MethodName) ∈ gwA := gwA_at 737 (by decide +kernel) rfl
theorem gw_738 : Jvm.Cond.methodLink "java/lang/String" (1047 : Nat) ({ cls := "java/lang/AbstractStringBuilder", name := "isLatin1", desc := "()Z" } : Jvm.MethodName) ∈ gwA := gwA_at 738 (by decide +kernel) rfl
theorem gw_739 : Jvm.Cond.methodLink "java/lang/String" (54 : Nat) ({ cls := "java/util/Arrays", name := "copyOfRange", desc := "([BII)[B" } : Jvm.MethodName) ∈ gwA := gwA_at 739 (by decide +kernel) rfl
theorem gw_740 : Jvm.Cond.static ({ cls := "java/util/Arrays", name := "copyOfRange", desc := "([BII)[B" } : Jvm.MethodName) ∈ gwA := gwA_at 740 (by decide +kernel) rfl
theorem gw_741 : Jvm.Cond.code ({ cls := "java/util/Arrays", name := "copyOfRange", desc := "([BII)[B" } : Jvm.MethodName) prog_27_method_132_code (3 : Nat) (Option.some (Jvm.ClassFile.FieldType.array Jvm.ClassFile.FieldType.byte)) ∈ gwA := gwA_at 741 (by decide +kernel) rfl
theorem gw_742 : Jvm.Cond.methodLink "java/util/Arrays" (339 : Nat) ({ cls := "java/util/Arrays", name := "copyOfRangeByte", desc := "([BII)[B" } : Jvm.MethodName) ∈ gwA := gwA_at 742 (by decide +kernel) rfl
theorem gw_743 : Jvm.Cond.static ({ cls := "java/util/Arrays", name := "copyOfRangeByte", desc := "([BII)[B" } : Jvm.MethodName) ∈ gwA := gwA_at 743 (by decide +kernel) rfl
theorem gw_744 : Jvm.Cond.code ({ cls := "java/util/Arrays", name := "copyOfRangeByte", desc := "([BII)[B" } : Jvm.MethodName) prog_27_method_133_code (5 : Nat) (Option.some (Jvm.ClassFile.FieldType.array Jvm.ClassFile.FieldType.byte)) ∈ gwA := gwA_at 744 (by decide +kernel) rfl
theorem gw_745 : Jvm.Cond.methodLink "java/util/Arrays" (343 : Nat) ({ cls := "java/util/Arrays", name := "checkLength", desc := "(II)V" } : Jvm.MethodName) ∈ gwA := gwA_at 745 (by decide +kernel) rfl
theorem gw_746 : Jvm.Cond.static ({ cls := "java/util/Arrays", name := "checkLength", desc := "(II)V" } : Jvm.MethodName) ∈ gwA := gwA_at 746 (by decide +kernel) rfl
theorem gw_747 : Jvm.Cond.code ({ cls := "java/util/Arrays", name := "checkLength", desc := "(II)V" } : Jvm.MethodName) prog_27_method_131_code (2 : Nat) (Option.none : Option Jvm.ClassFile.FieldType) ∈ gwA := gwA_at 747 (by decide +kernel) rfl
theorem gw_749 : Jvm.Cond.classLink "java/util/Arrays" (45 : Nat) "java/lang/StringBuilder" ∈ gwA := gwA_at 749 (by decide +kernel) rfl
theorem gw_750 : Jvm.Cond.methodLink "java/util/Arrays" (47 : Nat) ({ cls := "java/lang/StringBuilder", name := "<init>", desc := "()V" } : Jvm.MethodName) ∈ gwA := gwA_at 750 (by decide +kernel) rfl
theorem gw_751 : Jvm.Cond.methodLink "java/util/Arrays" (54 : Nat) ({ cls := "java/lang/StringBuilder", name := "append", desc := "(I)Ljava/lang/StringBuilder;" } : Jvm.MethodName) ∈ gwA := gwA_at 751 (by decide +kernel) rfl
theorem gw_752 : Jvm.Cond.instanceMethod ({ cls := "java/lang/StringBuilder", name := "append", desc := "(I)Ljava/lang/StringBuilder;" } : Jvm.MethodName) ∈ gwA := gwA_at 752 (by decide +kernel) rfl
theorem gw_753 : Jvm.Cond.selects "java/lang/StringBuilder" ({ cls := "java/lang/StringBuilder", name := "append", desc := "(I)Ljava/lang/StringBuilder;" } : Jvm.MethodName) ({ cls := "java/lang/StringBuilder", name := "append", desc := "(I)Ljava/lang/StringBuilder;" } : Jvm.MethodName) ∈ gwA := gwA_at 753 (by decide +kernel) rfl
theorem gw_754 : Jvm.Cond.code ({ cls := "java/lang/StringBuilder", name := "append", desc := "(I)Ljava/lang/StringBuilder;" } : Jvm.MethodName) prog_21_method_15_code (2 : Nat) (Option.some (Jvm.ClassFile.FieldType.object "java/lang/StringBuilder")) ∈ gwA := gwA_at 754 (by decide +kernel) rfl
theorem gw_755 : Jvm.Cond.methodLink "java/lang/StringBuilder" (53 : Nat) ({ cls := "java/lang/AbstractStringBuilder", name := "append", desc := "(I)Ljava/lang/AbstractStringBuilder;" } : Jvm.MethodName) ∈ gwA := gwA_at 755 (by decide +kernel) rfl
theorem gw_757 : Jvm.Cond.code ({ cls := "java/lang/AbstractStringBuilder", name := "append", desc := "(I)Ljava/lang/AbstractStringBuilder;" } : Jvm.MethodName) prog_10_method_32_code (4 : Nat) (Option.some (Jvm.ClassFile.FieldType.object "java/lang/AbstractStringBuilder")) ∈ gwA := gwA_at 757 (by decide +kernel) rfl
theorem gw_758 : Jvm.Cond.methodLink "java/lang/AbstractStringBuilder" (245 : Nat) ({ cls := "java/lang/Integer", name := "stringSize", desc := "(I)I" } : Jvm.MethodName) ∈ gwA := gwA_at 758 (by decide +kernel) rfl
theorem gw_759 : Jvm.Cond.static ({ cls := "java/lang/Integer", name := "stringSize", desc := "(I)I" } : Jvm.MethodName) ∈ gwA := gwA_at 759 (by decide +kernel) rfl
theorem gw_760 : Jvm.Cond.code ({ cls := "java/lang/Integer", name := "stringSize", desc := "(I)I" } : Jvm.MethodName) prog_17_method_13_code (4 : Nat) (Option.some Jvm.ClassFile.FieldType.int) ∈ gwA := gwA_at 760 (by decide +kernel) rfl
theorem gw_761 : Jvm.Cond.methodLink "java/lang/AbstractStringBuilder" (248 : Nat) ({ cls := "java/lang/Integer", name := "getChars", desc := "(II[B)I" } : Jvm.MethodName) ∈ gwA := gwA_at 761 (by decide +kernel) rfl
theorem gw_762 : Jvm.Cond.static ({ cls := "java/lang/Integer", name := "getChars", desc := "(II[B)I" } : Jvm.MethodName) ∈ gwA := gwA_at 762 (by decide +kernel) rfl
theorem gw_763 : Jvm.Cond.code ({ cls := "java/lang/Integer", name := "getChars", desc := "(II[B)I" } : Jvm.MethodName) prog_17_method_12_code (7 : Nat) (Option.some Jvm.ClassFile.FieldType.int) ∈ gwA := gwA_at 763 (by decide +kernel) rfl
theorem gw_768 : Jvm.Cond.methodLink "java/lang/AbstractStringBuilder" (251 : Nat) ({ cls := "java/lang/StringUTF16", name := "getChars", desc := "(III[B)I" } : Jvm.MethodName) ∈ gwA := gwA_at 768 (by decide +kernel) rfl
theorem gw_769 : Jvm.Cond.static ({ cls := "java/lang/StringUTF16", name := "getChars", desc := "(III[B)I" } : Jvm.MethodName) ∈ gwA := gwA_at 769 (by decide +kernel) rfl
theorem gw_770 : Jvm.Cond.code ({ cls := "java/lang/StringUTF16", name := "getChars", desc := "(III[B)I" } : Jvm.MethodName) prog_24_method_77_code (5 : Nat) (Option.some Jvm.ClassFile.FieldType.int) ∈ gwA := gwA_at 770 (by decide +kernel) rfl
theorem gw_771 : Jvm.Cond.methodLink "java/lang/StringUTF16" (96 : Nat) ({ cls := "java/lang/StringUTF16", name := "checkBoundsBeginEnd", desc := "(II[B)V" } : Jvm.MethodName) ∈ gwA := gwA_at 771 (by decide +kernel) rfl
theorem gw_772 : Jvm.Cond.static ({ cls := "java/lang/StringUTF16", name := "checkBoundsBeginEnd", desc := "(II[B)V" } : Jvm.MethodName) ∈ gwA := gwA_at 772 (by decide +kernel) rfl
theorem gw_773 : Jvm.Cond.code ({ cls := "java/lang/StringUTF16", name := "checkBoundsBeginEnd", desc := "(II[B)V" } : Jvm.MethodName) prog_24_method_93_code (3 : Nat) (Option.none : Option Jvm.ClassFile.FieldType) ∈ gwA := gwA_at 773 (by decide +kernel) rfl
theorem gw_774 : Jvm.Cond.methodLink "java/lang/StringUTF16" (241 : Nat) ({ cls := "java/lang/String", name := "checkBoundsBeginEnd", desc := "(III)V" } : Jvm.MethodName) ∈ gwA := gwA_at 774 (by decide +kernel) rfl
theorem gw_775 : Jvm.Cond.static ({ cls := "java/lang/String", name := "checkBoundsBeginEnd", desc := "(III)V" } : Jvm.MethodName) ∈ gwA := gwA_at 775 (by decide +kernel) rfl
theorem gw_776 : Jvm.Cond.code ({ cls := "java/lang/String", name := "checkBoundsBeginEnd", desc := "(III)V" } : Jvm.MethodName) prog_20_method_158_code (3 : Nat) (Option.none : Option Jvm.ClassFile.FieldType) ∈ gwA := gwA_at 776 (by decide +kernel) rfl
theorem gw_777 : Jvm.Cond.methodLink "java/lang/String" (1062 : Nat) ({ cls := "jdk/internal/util/Preconditions", name := "checkFromToIndex", desc := "(IIILjava/util/function/BiFunction;)I" } : Jvm.MethodName) ∈ gwA := gwA_at 777 (by decide +kernel) rfl
theorem gw_778 : Jvm.Cond.static ({ cls := "jdk/internal/util/Preconditions", name := "checkFromToIndex", desc := "(IIILjava/util/function/BiFunction;)I" } : Jvm.MethodName) ∈ gwA := gwA_at 778 (by decide +kernel) rfl
theorem gw_779 : Jvm.Cond.code ({ cls := "jdk/internal/util/Preconditions", name := "checkFromToIndex", desc := "(IIILjava/util/function/BiFunction;)I" } : Jvm.MethodName) prog_29_method_12_code (4 : Nat) (Option.some Jvm.ClassFile.FieldType.int) ∈ gwA := gwA_at 779 (by decide +kernel) rfl
theorem gw_780 : Jvm.Cond.methodLink "java/lang/StringUTF16" (393 : Nat) ({ cls := "java/lang/StringUTF16", name := "getChars", desc := "(II[B)I" } : Jvm.MethodName) ∈ gwA := gwA_at 780 (by decide +kernel) rfl
theorem gw_781 : Jvm.Cond.static ({ cls := "java/lang/StringUTF16", name := "getChars", desc := "(II[B)I" } : Jvm.MethodName) ∈ gwA := gwA_at 781 (by decide +kernel) rfl
theorem gw_782 : Jvm.Cond.code ({ cls := "java/lang/StringUTF16", name := "getChars", desc := "(II[B)I" } : Jvm.MethodName) prog_24_method_89_code (7 : Nat) (Option.some Jvm.ClassFile.FieldType.int) ∈ gwA := gwA_at 782 (by decide +kernel) rfl
theorem gw_786 : Jvm.Cond.methodLink "java/util/Arrays" (50 : Nat) ({ cls := "java/lang/StringBuilder", name := "append", desc := "(Ljava/lang/String;)Ljava/lang/StringBuilder;" } : Jvm.MethodName) ∈ gwA := gwA_at 786 (by decide +kernel) rfl
theorem gw_787 : Jvm.Cond.instanceMethod ({ cls := "java/lang/StringBuilder", name := "append", desc := "(Ljava/lang/String;)Ljava/lang/StringBuilder;" } : Jvm.MethodName) ∈ gwA := gwA_at 787 (by decide +kernel) rfl
theorem gw_788 : Jvm.Cond.selects "java/lang/StringBuilder" ({ cls := "java/lang/StringBuilder", name := "append", desc := "(Ljava/lang/String;)Ljava/lang/StringBuilder;" } : Jvm.MethodName) ({ cls := "java/lang/StringBuilder", name := "append", desc := "(Ljava/lang/String;)Ljava/lang/StringBuilder;" } : Jvm.MethodName) ∈ gwA := gwA_at 788 (by decide +kernel) rfl
theorem gw_789 : Jvm.Cond.code ({ cls := "java/lang/StringBuilder", name := "append", desc := "(Ljava/lang/String;)Ljava/lang/StringBuilder;" } : Jvm.MethodName) prog_21_method_7_code (2 : Nat) (Option.some (Jvm.ClassFile.FieldType.object "java/lang/StringBuilder")) ∈ gwA := gwA_at 789 (by decide +kernel) rfl
theorem gw_790 : Jvm.Cond.methodLink "java/lang/StringBuilder" (29 : Nat) ({ cls := "java/lang/AbstractStringBuilder", name := "append", desc := "(Ljava/lang/String;)Ljava/lang/AbstractStringBuilder;" } : Jvm.MethodName) ∈ gwA := gwA_at 790 (by decide +kernel) rfl
theorem gw_792 : Jvm.Cond.code ({ cls := "java/lang/AbstractStringBuilder", name := "append", desc := "(Ljava/lang/String;)Ljava/lang/AbstractStringBuilder;" } : Jvm.MethodName) prog_10_method_22_code (3 : Nat) (Option.some (Jvm.ClassFile.FieldType.object "java/lang/AbstractStringBuilder")) ∈ gwA := gwA_at 792 (by decide +kernel) rfl
theorem gw_793 : Jvm.Cond.methodLink "java/lang/AbstractStringBuilder" (204 : Nat) ({ cls := "java/lang/AbstractStringBuilder", name := "appendNull", desc := "()Ljava/lang/AbstractStringBuilder;" } : Jvm.MethodName) ∈ gwA := gwA_at 793 (by decide +kernel) rfl
theorem gw_796 : Jvm.Cond.code ({ cls := "java/lang/AbstractStringBuilder", name := "appendNull", desc := "()Ljava/lang/AbstractStringBuilder;" } : Jvm.MethodName) prog_10_method_26_code (3 : Nat) (Option.some (Jvm.ClassFile.FieldType.object "java/lang/AbstractStringBuilder")) ∈ gwA := gwA_at 796 (by decide +kernel) rfl
theorem gw_797 : Jvm.Cond.methodLink "java/lang/AbstractStringBuilder" (226 : Nat) ({ cls := "java/lang/StringUTF16", name := "putCharsAt", desc := "([BICCCC)I" } : Jvm.MethodName) ∈ gwA := gwA_at 797 (by decide +kernel) rfl
theorem gw_798 : Jvm.Cond.static ({ cls := "java/lang/StringUTF16", name := "putCharsAt", desc := "([BICCCC)I" } : Jvm.MethodName) ∈ gwA := gwA_at 798 (by decide +kernel) rfl
theorem gw_799 : Jvm.Cond.code ({ cls := "java/lang/StringUTF16", name := "putCharsAt", desc := "([BICCCC)I" } : Jvm.MethodName) prog_24_method_81_code (7 : Nat) (Option.some Jvm.ClassFile.FieldType.int) ∈ gwA := gwA_at 799 (by decide +kernel) rfl
theorem gw_800 : Jvm.Cond.methodLink "java/lang/AbstractStringBuilder" (32 : Nat) ({ cls := "java/lang/String", name := "length", desc := "()I" } : Jvm.MethodName) ∈ gwA := gwA_at 800 (by decide +kernel) rfl
theorem gw_801 : Jvm.Cond.methodLink "java/lang/AbstractStringBuilder" (208 : Nat) ({ cls := "java/lang/AbstractStringBuilder", name := "putStringAt", desc := "(ILjava/lang/String;)V" } : Jvm.MethodName) ∈ gwA := gwA_at 801 (by decide +kernel) rfl
theorem gw_804 : Jvm.Cond.code ({ cls := "java/lang/AbstractStringBuilder", name := "putStringAt", desc := "(ILjava/lang/String;)V" } : Jvm.MethodName) prog_10_method_73_code (3 : Nat) (Option.none : Option Jvm.ClassFile.FieldType) ∈ gwA := gwA_at 804 (by decide +kernel) rfl
theorem gw_805 : Jvm.Cond.methodLink "java/lang/AbstractStringBuilder" (397 : Nat) ({ cls := "java/lang/AbstractStringBuilder", name := "inflateIfNeededFor", desc := "(Ljava/lang/String;)V" } : Jvm.MethodName) ∈ gwA := gwA_at 805 (by decide +kernel) rfl
theorem gw_808 : Jvm.Cond.code ({ cls := "java/lang/AbstractStringBuilder", name := "inflateIfNeededFor", desc := "(Ljava/lang/String;)V" } : Jvm.MethodName) prog_10_method_71_code (2 : Nat) (Option.none : Option Jvm.ClassFile.FieldType) ∈ gwA := gwA_at 808 (by decide +kernel) rfl
theorem gw_809 : Jvm.Cond.methodLink "java/lang/AbstractStringBuilder" (40 : Nat) ({ cls := "java/lang/String", name := "coder", desc := "()B" } : Jvm.MethodName) ∈ gwA := gwA_at 809 (by decide +kernel) rfl
theorem gw_810 : Jvm.Cond.methodLink "java/lang/AbstractStringBuilder" (399 : Nat) ({ cls := "java/lang/String", name := "getBytes", desc := "([BIB)V" } : Jvm.MethodName) ∈ gwA := gwA_at 810 (by decide +kernel) rfl
theorem gw_811 : Jvm.Cond.instanceMethod ({ cls := "java/lang/String", name := "getBytes", desc := "([BIB)V" } : Jvm.MethodName) ∈ gwA := gwA_at 811 (by decide +kernel) rfl
theorem gw_812 : Jvm.Cond.selects "java/lang/String" ({ cls := "java/lang/String", name := "getBytes", desc := "([BIB)V" } : Jvm.MethodName) ({ cls := "java/lang/String", name := "getBytes", desc := "([BIB)V" } : Jvm.MethodName) ∈ gwA := gwA_at 812 (by decide +kernel) rfl
theorem gw_813 : Jvm.Cond.code ({ cls := "java/lang/String", name := "getBytes", desc := "([BIB)V" } : Jvm.MethodName) prog_20_method_147_code (4 : Nat) (Option.none : Option Jvm.ClassFile.FieldType) ∈ gwA := gwA_at 813 (by decide +kernel) rfl
theorem gw_815 : Jvm.Cond.methodLink "java/lang/String" (106 : Nat) ({ cls := "java/lang/StringLatin1", name := "inflate", desc := "([BI[BII)V" } : Jvm.MethodName) ∈ gwA := gwA_at 815 (by decide +kernel) rfl
theorem gw_816 : Jvm.Cond.methodLink "java/util/Arrays" (61 : Nat) ({ cls := "java/lang/StringBuilder", name := "toString", desc := "()Ljava/lang/String;" } : Jvm.MethodName) ∈ gwA := gwA_at 816 (by decide +kernel) rfl
theorem gw_818 : Jvm.Cond.methodLink "java/lang/String" (1051 : Nat) ({ cls := "java/lang/StringUTF16", name := "compress", desc := "([BII)[B" } : Jvm.MethodName) ∈ gwA := gwA_at 818 (by decide +kernel) rfl
theorem gw_819 : Jvm.Cond.static ({ cls := "java/lang/StringUTF16", name := "compress", desc := "([BII)[B" } : Jvm.MethodName) ∈ gwA := gwA_at 819 (by decide +kernel) rfl
theorem gw_820 : Jvm.Cond.code ({ cls := "java/lang/StringUTF16", name := "compress", desc := "([BII)[B" } : Jvm.MethodName) prog_24_method_17_code (6 : Nat) (Option.some (Jvm.ClassFile.FieldType.array Jvm.ClassFile.FieldType.byte)) ∈ gwA := gwA_at 820 (by decide +kernel) rfl
theorem gw_821 : Jvm.Cond.methodLink "java/lang/StringUTF16" (123 : Nat) ({ cls := "java/lang/StringUTF16", name := "compress", desc := "([BI[BII)I" } : Jvm.MethodName) ∈ gwA := gwA_at 821 (by decide +kernel) rfl
theorem gw_822 : Jvm.Cond.static ({ cls := "java/lang/StringUTF16", name := "compress", desc := "([BI[BII)I" } : Jvm.MethodName) ∈ gwA := gwA_at 822 (by decide +kernel) rfl
theorem gw_823 : Jvm.Cond.code ({ cls := "java/lang/StringUTF16", name := "compress", desc := "([BI[BII)I" } : Jvm.MethodName) prog_24_method_22_code (7 : Nat) (Option.some Jvm.ClassFile.FieldType.int) ∈ gwA := gwA_at 823 (by decide +kernel) rfl
theorem gw_824 : Jvm.Cond.methodLink "java/lang/StringUTF16" (126 : Nat) ({ cls := "java/util/Arrays", name := "copyOfRange", desc := "([BII)[B" } : Jvm.MethodName) ∈ gwA := gwA_at 824 (by decide +kernel) rfl
theorem gw_825 : Jvm.Cond.methodLink "java/lang/String" (47 : Nat) ({ cls := "java/lang/StringUTF16", name := "coderFromArrayLen", desc := "([BI)B" } : Jvm.MethodName) ∈ gwA := gwA_at 825 (by decide +kernel) rfl
theorem gw_826 : Jvm.Cond.static ({ cls := "java/lang/StringUTF16", name := "coderFromArrayLen", desc := "([BI)B" } : Jvm.MethodName) ∈ gwA := gwA_at 826 (by decide +kernel) rfl
theorem gw_827 : Jvm.Cond.code ({ cls := "java/lang/StringUTF16", name := "coderFromArrayLen", desc := "([BI)B" } : Jvm.MethodName) prog_24_method_15_code (2 : Nat) (Option.some Jvm.ClassFile.FieldType.byte) ∈ gwA := gwA_at 827 (by decide +kernel) rfl
theorem gw_828 : Jvm.Cond.fieldLink "java/lang/String" (9 : Nat) "java/lang/String" "value" "[B" ∈ gwA := gwA_at 828 (by decide +kernel) rfl
theorem gw_829 : Jvm.Cond.fieldLink "java/lang/String" (15 : Nat) "java/lang/String" "coder" "B" ∈ gwA := gwA_at 829 (by decide +kernel) rfl
theorem gw_839 : Jvm.Cond.methodLink "GraticulePress" (100 : Nat) ({ cls := "GraticulePress$Spelling", name := "<init>", desc := "(ILjava/lang/String;)V" } : Jvm.MethodName) ∈ gwA := gwA_at 839 (by decide +kernel) rfl
theorem gw_840 : Jvm.Cond.instanceMethod ({ cls := "GraticulePress$Spelling", name := "<init>", desc := "(ILjava/lang/String;)V" } : Jvm.MethodName) ∈ gwA := gwA_at 840 (by decide +kernel) rfl
theorem gw_841 : Jvm.Cond.code ({ cls := "GraticulePress$Spelling", name := "<init>", desc := "(ILjava/lang/String;)V" } : Jvm.MethodName) prog_6_method_1_code (3 : Nat) (Option.none : Option Jvm.ClassFile.FieldType) ∈ gwA := gwA_at 841 (by decide +kernel) rfl
theorem gw_842 : Jvm.Cond.methodLink "GraticulePress$Spelling" (1 : Nat) ({ cls := "java/lang/Object", name := "<init>", desc := "()V" } : Jvm.MethodName) ∈ gwA := gwA_at 842 (by decide +kernel) rfl
theorem gw_843 : Jvm.Cond.fieldLink "GraticulePress$Spelling" (7 : Nat) "GraticulePress$Spelling" "day" "I" ∈ gwA := gwA_at 843 (by decide +kernel) rfl
theorem gw_844 : Jvm.Cond.fieldLink "GraticulePress$Place" (30 : Nat) "GraticulePress$Spelling" "day" "I" ∈ gwA := gwA_at 844 (by decide +kernel) rfl
theorem gw_845 : Jvm.Cond.fieldLink "GraticulePress$Spelling" (13 : Nat) "GraticulePress$Spelling" "word" "Ljava/lang/String;" ∈ gwA := gwA_at 845 (by decide +kernel) rfl
theorem gw_846 : Jvm.Cond.fieldLink "GraticulePress$Place" (33 : Nat) "GraticulePress$Spelling" "word" "Ljava/lang/String;" ∈ gwA := gwA_at 846 (by decide +kernel) rfl
theorem gw_852 : Jvm.Cond.methodLink "GraticulePress" (103 : Nat) ({ cls := "GraticulePress$Place", name := "tell", desc := "(LGraticulePress$Spelling;)V" } : Jvm.MethodName) ∈ gwA := gwA_at 852 (by decide +kernel) rfl
theorem gw_853 : Jvm.Cond.instanceMethod ({ cls := "GraticulePress$Place", name := "tell", desc := "(LGraticulePress$Spelling;)V" } : Jvm.MethodName) ∈ gwA := gwA_at 853 (by decide +kernel) rfl
theorem gw_854 : Jvm.Cond.selects "GraticulePress$Place" ({ cls := "GraticulePress$Place", name := "tell", desc := "(LGraticulePress$Spelling;)V" } : Jvm.MethodName) ({ cls := "GraticulePress$Place", name := "tell", desc := "(LGraticulePress$Spelling;)V" } : Jvm.MethodName) ∈ gwA := gwA_at 854 (by decide +kernel) rfl
theorem gw_855 : Jvm.Cond.code ({ cls := "GraticulePress$Place", name := "tell", desc := "(LGraticulePress$Spelling;)V" } : Jvm.MethodName) prog_4_method_3_code (2 : Nat) (Option.none : Option Jvm.ClassFile.FieldType) ∈ gwA := gwA_at 855 (by decide +kernel) rfl
theorem gw_856 : Jvm.Cond.methodLink "GraticulePress" (107 : Nat) ({ cls := "java/lang/StringBuilder", name := "setLength", desc := "(I)V" } : Jvm.MethodName) ∈ gwA := gwA_at 856 (by decide +kernel) rfl
theorem gw_857 : Jvm.Cond.instanceMethod ({ cls := "java/lang/StringBuilder", name := "setLength", desc := "(I)V" } : Jvm.MethodName) ∈ gwA := gwA_at 857 (by decide +kernel) rfl
theorem gw_858 : Jvm.Cond.selects "java/lang/StringBuilder" ({ cls := "java/lang/StringBuilder", name := "setLength", desc := "(I)V" } : Jvm.MethodName) ({ cls := "java/lang/StringBuilder", name := "setLength", desc := "(I)V" } : Jvm.MethodName) ∈ gwA := gwA_at 858 (by decide +kernel) rfl
theorem gw_859 : Jvm.Cond.code ({ cls := "java/lang/StringBuilder", name := "setLength", desc := "(I)V" } : Jvm.MethodName) prog_21_method_89_code (2 : Nat) (Option.none : Option Jvm.ClassFile.FieldType) ∈ gwA := gwA_at 859 (by decide +kernel) rfl
theorem gw_860 : Jvm.Cond.methodLink "java/lang/StringBuilder" (333 : Nat) ({ cls := "java/lang/AbstractStringBuilder", name := "setLength", desc := "(I)V" } : Jvm.MethodName) ∈ gwA := gwA_at 860 (by decide +kernel) rfl
theorem gw_862 : Jvm.Cond.code ({ cls := "java/lang/AbstractStringBuilder", name := "setLength", desc := "(I)V" } : Jvm.MethodName) prog_10_method_13_code (2 : Nat) (Option.none : Option Jvm.ClassFile.FieldType) ∈ gwA := gwA_at 862 (by decide +kernel) rfl
theorem gw_865 : Jvm.Cond.methodLink "java/lang/AbstractStringBuilder" (131 : Nat) ({ cls := "java/lang/StringIndexOutOfBoundsException", name := "<init>", desc := "(I)V" } : Jvm.MethodName) ∈ gwA := gwA_at 865 (by decide +kernel) rfl
theorem gw_866 : Jvm.Cond.instanceMethod ({ cls := "java/lang/StringIndexOutOfBoundsException", name := "<init>", desc := "(I)V" } : Jvm.MethodName) ∈ gwA := gwA_at 866 (by decide +kernel) rfl
theorem gw_867 : Jvm.Cond.code ({ cls := "java/lang/StringIndexOutOfBoundsException", name := "<init>", desc := "(I)V" } : Jvm.MethodName) prog_22_method_3_code (2 : Nat) (Option.none : Option Jvm.ClassFile.FieldType) ∈ gwA := gwA_at 867 (by decide +kernel) rfl
theorem gw_868 : Jvm.Cond.classLink "java/lang/StringIndexOutOfBoundsException" (10 : Nat) "java/lang/StringBuilder" ∈ gwA := gwA_at 868 (by decide +kernel) rfl
theorem gw_869 : Jvm.Cond.methodLink "java/lang/StringIndexOutOfBoundsException" (12 : Nat) ({ cls := "java/lang/StringBuilder", name := "<init>", desc := "()V" } : Jvm.MethodName) ∈ gwA := gwA_at 869 (by decide +kernel) rfl
theorem gw_871 : Jvm.Cond.methodLink "java/lang/StringIndexOutOfBoundsException" (15 : Nat) ({ cls := "java/lang/StringBuilder", name := "append", desc := "(Ljava/lang/String;)Ljava/lang/StringBuilder;" } : Jvm.MethodName) ∈ gwA := gwA_at 871 (by decide +kernel) rfl
theorem gw_872 : Jvm.Cond.methodLink "java/lang/StringIndexOutOfBoundsException" (19 : Nat) ({ cls := "java/lang/StringBuilder", name := "append", desc := "(I)Ljava/lang/StringBuilder;" } : Jvm.MethodName) ∈ gwA := gwA_at 872 (by decide +kernel) rfl
theorem gw_873 : Jvm.Cond.methodLink "java/lang/StringIndexOutOfBoundsException" (22 : Nat) ({ cls := "java/lang/StringBuilder", name := "toString", desc := "()Ljava/lang/String;" } : Jvm.MethodName) ∈ gwA := gwA_at 873 (by decide +kernel) rfl
theorem gw_882 : Jvm.Cond.methodLink "java/lang/AbstractStringBuilder" (133 : Nat) ({ cls := "java/lang/StringLatin1", name := "fillNull", desc := "([BII)V" } : Jvm.MethodName) ∈ gwA := gwA_at 882 (by decide +kernel) rfl
theorem gw_883 : Jvm.Cond.static ({ cls := "java/lang/StringLatin1", name := "fillNull", desc := "([BII)V" } : Jvm.MethodName) ∈ gwA := gwA_at 883 (by decide +kernel) rfl
theorem gw_884 : Jvm.Cond.code ({ cls := "java/lang/StringLatin1", name := "fillNull", desc := "([BII)V" } : Jvm.MethodName) prog_23_method_48_code (3 : Nat) (Option.none : Option Jvm.ClassFile.FieldType) ∈ gwA := gwA_at 884 (by decide +kernel) rfl
theorem gw_885 : Jvm.Cond.methodLink "java/lang/StringLatin1" (236 : Nat) ({ cls := "java/util/Arrays", name := "fill", desc := "([BIIB)V" } : Jvm.MethodName) ∈ gwA := gwA_at 885 (by decide +kernel) rfl
theorem gw_886 : Jvm.Cond.static ({ cls := "java/util/Arrays", name := "fill", desc := "([BIIB)V" } : Jvm.MethodName) ∈ gwA := gwA_at 886 (by decide +kernel) rfl
theorem gw_887 : Jvm.Cond.code ({ cls := "java/util/Arrays", name := "fill", desc := "([BIIB)V" } : Jvm.MethodName) prog_27_method_110_code (5 : Nat) (Option.none : Option Jvm.ClassFile.FieldType) ∈ gwA := gwA_at 887 (by decide +kernel) rfl
theorem gw_888 : Jvm.Cond.methodLink "java/util/Arrays" (13 : Nat) ({ cls := "java/util/Arrays", name := "rangeCheck", desc := "(III)V" } : Jvm.MethodName) ∈ gwA := gwA_at 888 (by decide +kernel) rfl
theorem gw_889 : Jvm.Cond.static ({ cls := "java/util/Arrays", name := "rangeCheck", desc := "(III)V" } : Jvm.MethodName) ∈ gwA := gwA_at 889 (by decide +kernel) rfl
theorem gw_890 : Jvm.Cond.code ({ cls := "java/util/Arrays", name := "rangeCheck", desc := "(III)V" } : Jvm.MethodName) prog_27_method_30_code (3 : Nat) (Option.none : Option Jvm.ClassFile.FieldType) ∈ gwA := gwA_at 890 (by decide +kernel) rfl
theorem gw_905 : Jvm.Cond.methodLink "java/util/Arrays" (70 : Nat) ({ cls := "java/lang/ArrayIndexOutOfBoundsException", name := "<init>", desc := "(I)V" } : Jvm.MethodName) ∈ gwA := gwA_at 905 (by decide +kernel) rfl
theorem gw_906 : Jvm.Cond.instanceMethod ({ cls := "java/lang/ArrayIndexOutOfBoundsException", name := "<init>", desc := "(I)V" } : Jvm.MethodName) ∈ gwA := gwA_at 906 (by decide +kernel) rfl
theorem gw_907 : Jvm.Cond.code ({ cls := "java/lang/ArrayIndexOutOfBoundsException", name := "<init>", desc := "(I)V" } : Jvm.MethodName) prog_11_method_3_code (2 : Nat) (Option.none : Option Jvm.ClassFile.FieldType) ∈ gwA := gwA_at 907 (by decide +kernel) rfl
theorem gw_908 : Jvm.Cond.classLink "java/lang/ArrayIndexOutOfBoundsException" (10 : Nat) "java/lang/StringBuilder" ∈ gwA := gwA_at 908 (by decide +kernel) rfl
theorem gw_909 : Jvm.Cond.methodLink "java/lang/ArrayIndexOutOfBoundsException" (12 : Nat) ({ cls := "java/lang/StringBuilder", name := "<init>", desc := "()V" } : Jvm.MethodName) ∈ gwA := gwA_at 909 (by decide +kernel) rfl
theorem gw_911 : Jvm.Cond.methodLink "java/lang/ArrayIndexOutOfBoundsException" (15 : Nat) ({ cls := "java/lang/StringBuilder", name := "append", desc := "(Ljava/lang/String;)Ljava/lang/StringBuilder;" } : Jvm.MethodName) ∈ gwA := gwA_at 911 (by decide +kernel) rfl
theorem gw_912 : Jvm.Cond.methodLink "java/lang/ArrayIndexOutOfBoundsException" (19 : Nat) ({ cls := "java/lang/StringBuilder", name := "append", desc := "(I)Ljava/lang/StringBuilder;" } : Jvm.MethodName) ∈ gwA := gwA_at 912 (by decide +kernel) rfl
theorem gw_913 : Jvm.Cond.methodLink "java/lang/ArrayIndexOutOfBoundsException" (22 : Nat) ({ cls := "java/lang/StringBuilder", name := "toString", desc := "()Ljava/lang/String;" } : Jvm.MethodName) ∈ gwA := gwA_at 913 (by decide +kernel) rfl
theorem gw_917 : Jvm.Cond.methodLink "java/lang/AbstractStringBuilder" (137 : Nat) ({ cls := "java/lang/StringUTF16", name := "fillNull", desc := "([BII)V" } : Jvm.MethodName) ∈ gwA := gwA_at 917 (by decide +kernel) rfl
theorem gw_918 : Jvm.Cond.static ({ cls := "java/lang/StringUTF16", name := "fillNull", desc := "([BII)V" } : Jvm.MethodName) ∈ gwA := gwA_at 918 (by decide +kernel) rfl
theorem gw_919 : Jvm.Cond.code ({ cls := "java/lang/StringUTF16", name := "fillNull", desc := "([BII)V" } : Jvm.MethodName) prog_24_method_70_code (3 : Nat) (Option.none : Option Jvm.ClassFile.FieldType) ∈ gwA := gwA_at 919 (by decide +kernel) rfl
theorem gw_920 : Jvm.Cond.methodLink "java/lang/StringUTF16" (380 : Nat) ({ cls := "java/util/Arrays", name := "fill", desc := "([BIIB)V" } : Jvm.MethodName) ∈ gwA := gwA_at 920 (by decide +kernel) rfl
theorem gw_921 : Jvm.Cond.methodLink "GraticulePress" (111 : Nat) ({ cls := "GraticulePress", name := "placeAllSheetsAnew", desc := "(I)I" } : Jvm.MethodName) ∈ gwA := gwA_at 921 (by decide +kernel) rfl
theorem gw_923 : Jvm.Cond.instanceMethod ({ cls := "GraticulePress", name := "placeAllSheetsAnew", desc := "(I)I" } : Jvm.MethodName) ∈ gwA := gwA_at 923 (by decide +kernel) rfl
theorem gw_924 : Jvm.Cond.code ({ cls := "GraticulePress", name := "placeAllSheetsAnew", desc := "(I)I" } : Jvm.MethodName) prog_1_method_22_code (5 : Nat) (Option.some Jvm.ClassFile.FieldType.int) ∈ gwA := gwA_at 924 (by decide +kernel) rfl
theorem gw_925 : Jvm.Cond.methodLink "GraticulePress" (220 : Nat) ({ cls := "GraticulePress$Sheet", name := "pushedBeside", desc := "(I)I" } : Jvm.MethodName) ∈ gwA := gwA_at 925 (by decide +kernel) rfl
theorem gw_926 : Jvm.Cond.instanceMethod ({ cls := "GraticulePress$Sheet", name := "pushedBeside", desc := "(I)I" } : Jvm.MethodName) ∈ gwA := gwA_at 926 (by decide +kernel) rfl
theorem gw_927 : Jvm.Cond.selects "GraticulePress$Sheet" ({ cls := "GraticulePress$Sheet", name := "pushedBeside", desc := "(I)I" } : Jvm.MethodName) ({ cls := "GraticulePress$Sheet", name := "pushedBeside", desc := "(I)I" } : Jvm.MethodName) ∈ gwA := gwA_at 927 (by decide +kernel) rfl
theorem gw_928 : Jvm.Cond.code ({ cls := "GraticulePress$Sheet", name := "pushedBeside", desc := "(I)I" } : Jvm.MethodName) prog_5_method_10_code (5 : Nat) (Option.some Jvm.ClassFile.FieldType.int) ∈ gwA := gwA_at 928 (by decide +kernel) rfl
theorem gw_929 : Jvm.Cond.methodLink "GraticulePress$Sheet" (110 : Nat) ({ cls := "GraticulePress$Spot", name := "isPushed", desc := "()Z" } : Jvm.MethodName) ∈ gwA := gwA_at 929 (by decide +kernel) rfl
theorem gw_930 : Jvm.Cond.instanceMethod ({ cls := "GraticulePress$Spot", name := "isPushed", desc := "()Z" } : Jvm.MethodName) ∈ gwA := gwA_at 930 (by decide +kernel) rfl
theorem gw_931 : Jvm.Cond.selects "GraticulePress$Spot" ({ cls := "GraticulePress$Spot", name := "isPushed", desc := "()Z" } : Jvm.MethodName) ({ cls := "GraticulePress$Spot", name := "isPushed", desc := "()Z" } : Jvm.MethodName) ∈ gwA := gwA_at 931 (by decide +kernel) rfl
theorem gw_932 : Jvm.Cond.code ({ cls := "GraticulePress$Spot", name := "isPushed", desc := "()Z" } : Jvm.MethodName) prog_7_method_5_code (1 : Nat) (Option.some Jvm.ClassFile.FieldType.boolean) ∈ gwA := gwA_at 932 (by decide +kernel) rfl
theorem gw_936 : Jvm.Cond.methodLink "GraticulePressLaw" (37 : Nat) ({ cls := "GraticulePress", name := "pass", desc := "(I)I" } : Jvm.MethodName) ∈ gwA := gwA_at 936 (by decide +kernel) rfl
theorem gw_937 : Jvm.Cond.instanceMethod ({ cls := "GraticulePress", name := "pass", desc := "(I)I" } : Jvm.MethodName) ∈ gwA := gwA_at 937 (by decide +kernel) rfl
theorem gw_938 : Jvm.Cond.selects "GraticulePress" ({ cls := "GraticulePress", name := "pass", desc := "(I)I" } : Jvm.MethodName) ({ cls := "GraticulePress", name := "pass", desc := "(I)I" } : Jvm.MethodName) ∈ gwA := gwA_at 938 (by decide +kernel) rfl
theorem gw_939 : Jvm.Cond.code ({ cls := "GraticulePress", name := "pass", desc := "(I)I" } : Jvm.MethodName) prog_1_method_6_code (2 : Nat) (Option.some Jvm.ClassFile.FieldType.int) ∈ gwA := gwA_at 939 (by decide +kernel) rfl
theorem gw_942 : Jvm.Cond.methodLink "GraticulePressLaw" (122 : Nat) ({ cls := "GraticulePressLaw", name := "prints", desc := "(LGraticulePress;[I[II)Z" } : Jvm.MethodName) ∈ gwA := gwA_at 942 (by decide +kernel) rfl
theorem gw_943 : Jvm.Cond.static ({ cls := "GraticulePressLaw", name := "prints", desc := "(LGraticulePress;[I[II)Z" } : Jvm.MethodName) ∈ gwA := gwA_at 943 (by decide +kernel) rfl
theorem gw_944 : Jvm.Cond.code ({ cls := "GraticulePressLaw", name := "prints", desc := "(LGraticulePress;[I[II)Z" } : Jvm.MethodName) method_23_code (9 : Nat) (Option.some Jvm.ClassFile.FieldType.boolean) ∈ gwA := gwA_at 944 (by decide +kernel) rfl
theorem gw_948 : Jvm.Cond.methodLink "GraticulePressLaw" (51 : Nat) ({ cls := "GraticulePress", name := "drawn", desc := "(III)C" } : Jvm.MethodName) ∈ gwA := gwA_at 948 (by decide +kernel) rfl
theorem gw_949 : Jvm.Cond.instanceMethod ({ cls := "GraticulePress", name := "drawn", desc := "(III)C" } : Jvm.MethodName) ∈ gwA := gwA_at 949 (by decide +kernel) rfl
theorem gw_950 : Jvm.Cond.selects "GraticulePress" ({ cls := "GraticulePress", name := "drawn", desc := "(III)C" } : Jvm.MethodName) ({ cls := "GraticulePress", name := "drawn", desc := "(III)C" } : Jvm.MethodName) ∈ gwA := gwA_at 950 (by decide +kernel) rfl
theorem gw_951 : Jvm.Cond.code ({ cls := "GraticulePress", name := "drawn", desc := "(III)C" } : Jvm.MethodName) prog_1_method_10_code (5 : Nat) (Option.some Jvm.ClassFile.FieldType.char) ∈ gwA := gwA_at 951 (by decide +kernel) rfl
theorem gw_953 : Jvm.Cond.methodLink "GraticulePress" (177 : Nat) ({ cls := "GraticulePress$Grid", name := "signAt", desc := "(II)C" } : Jvm.MethodName) ∈ gwA := gwA_at 953 (by decide +kernel) rfl
theorem gw_957 : Jvm.Cond.methodLink "GraticulePressLaw" (60 : Nat) ({ cls := "GraticulePress", name := "print", desc := "()I" } : Jvm.MethodName) ∈ gwA := gwA_at 957 (by decide +kernel) rfl
theorem gw_958 : Jvm.Cond.instanceMethod ({ cls := "GraticulePress", name := "print", desc := "()I" } : Jvm.MethodName) ∈ gwA := gwA_at 958 (by decide +kernel) rfl
theorem gw_959 : Jvm.Cond.selects "GraticulePress" ({ cls := "GraticulePress", name := "print", desc := "()I" } : Jvm.MethodName) ({ cls := "GraticulePress", name := "print", desc := "()I" } : Jvm.MethodName) ∈ gwA := gwA_at 959 (by decide +kernel) rfl
theorem gw_960 : Jvm.Cond.code ({ cls := "GraticulePress", name := "print", desc := "()I" } : Jvm.MethodName) prog_1_method_13_code (4 : Nat) (Option.some Jvm.ClassFile.FieldType.int) ∈ gwA := gwA_at 960 (by decide +kernel) rfl
theorem gw_962 : Jvm.Cond.instantiable "GraticulePress$Edition" (1 : Nat) ∈ gwA := gwA_at 962 (by decide +kernel) rfl
theorem gw_963 : Jvm.Cond.methodLink "GraticulePress" (196 : Nat) ({ cls := "GraticulePress$Edition", name := "<init>", desc := "()V" } : Jvm.MethodName) ∈ gwA := gwA_at 963 (by decide +kernel) rfl
theorem gw_964 : Jvm.Cond.instanceMethod ({ cls := "GraticulePress$Edition", name := "<init>", desc := "()V" } : Jvm.MethodName) ∈ gwA := gwA_at 964 (by decide +kernel) rfl
theorem gw_965 : Jvm.Cond.code ({ cls := "GraticulePress$Edition", name := "<init>", desc := "()V" } : Jvm.MethodName) prog_2_method_1_code (1 : Nat) (Option.none : Option Jvm.ClassFile.FieldType) ∈ gwA := gwA_at 965 (by decide +kernel) rfl
theorem gw_966 : Jvm.Cond.methodLink "GraticulePress$Edition" (3 : Nat) ({ cls := "java/lang/Object", name := "<init>", desc := "()V" } : Jvm.MethodName) ∈ gwA := gwA_at 966 (by decide +kernel) rfl
theorem gw_967 : Jvm.Cond.classLink "GraticulePress$Edition" (9 : Nat) "GraticulePress$Grid" ∈ gwA := gwA_at 967 (by decide +kernel) rfl
theorem gw_969 : Jvm.Cond.fieldLink "GraticulePress$Edition" (11 : Nat) "GraticulePress$Edition" "pictures" "[LGraticulePress$Grid;" ∈ gwA := gwA_at 969 (by decide +kernel) rfl
theorem gw_973 : Jvm.Cond.methodLink "GraticulePress" (197 : Nat) ({ cls := "GraticulePress$Edition", name := "keep", desc := "(ILGraticulePress$Grid;)V" } : Jvm.MethodName) ∈ gwA := gwA_at 973 (by decide +kernel) rfl
theorem gw_974 : Jvm.Cond.instanceMethod ({ cls := "GraticulePress$Edition", name := "keep", desc := "(ILGraticulePress$Grid;)V" } : Jvm.MethodName) ∈ gwA := gwA_at 974 (by decide +kernel) rfl
theorem gw_975 : Jvm.Cond.selects "GraticulePress$Edition" ({ cls := "GraticulePress$Edition", name := "keep", desc := "(ILGraticulePress$Grid;)V" } : Jvm.MethodName) ({ cls := "GraticulePress$Edition", name := "keep", desc := "(ILGraticulePress$Grid;)V" } : Jvm.MethodName) ∈ gwA := gwA_at 975 (by decide +kernel) rfl
theorem gw_976 : Jvm.Cond.code ({ cls := "GraticulePress$Edition", name := "keep", desc := "(ILGraticulePress$Grid;)V" } : Jvm.MethodName) prog_2_method_2_code (4 : Nat) (Option.none : Option Jvm.ClassFile.FieldType) ∈ gwA := gwA_at 976 (by decide +kernel) rfl
theorem gw_977 : Jvm.Cond.methodLink "GraticulePress$Edition" (17 : Nat) ({ cls := "GraticulePress$Grid", name := "<init>", desc := "()V" } : Jvm.MethodName) ∈ gwA := gwA_at 977 (by decide +kernel) rfl
theorem gw_978 : Jvm.Cond.methodLink "GraticulePress$Edition" (18 : Nat) ({ cls := "GraticulePress$Grid", name := "copyFrom", desc := "(LGraticulePress$Grid;)V" } : Jvm.MethodName) ∈ gwA := gwA_at 978 (by decide +kernel) rfl
theorem gw_979 : Jvm.Cond.instanceMethod ({ cls := "GraticulePress$Grid", name := "copyFrom", desc := "(LGraticulePress$Grid;)V" } : Jvm.MethodName) ∈ gwA := gwA_at 979 (by decide +kernel) rfl
theorem gw_980 : Jvm.Cond.selects "GraticulePress$Grid" ({ cls := "GraticulePress$Grid", name := "copyFrom", desc := "(LGraticulePress$Grid;)V" } : Jvm.MethodName) ({ cls := "GraticulePress$Grid", name := "copyFrom", desc := "(LGraticulePress$Grid;)V" } : Jvm.MethodName) ∈ gwA := gwA_at 980 (by decide +kernel) rfl
theorem gw_981 : Jvm.Cond.code ({ cls := "GraticulePress$Grid", name := "copyFrom", desc := "(LGraticulePress$Grid;)V" } : Jvm.MethodName) prog_3_method_3_code (3 : Nat) (Option.none : Option Jvm.ClassFile.FieldType) ∈ gwA := gwA_at 981 (by decide +kernel) rfl
theorem gw_982 : Jvm.Cond.methodLink "GraticulePressLaw" (129 : Nat) ({ cls := "GraticulePressLaw", name := "isRow", desc := "(LGraticulePress;[I[I[III)Z" } : Jvm.MethodName) ∈ gwA := gwA_at 982 (by decide +kernel) rfl
theorem gw_983 : Jvm.Cond.static ({ cls := "GraticulePressLaw", name := "isRow", desc := "(LGraticulePress;[I[I[III)Z" } : Jvm.MethodName) ∈ gwA := gwA_at 983 (by decide +kernel) rfl
theorem gw_984 : Jvm.Cond.code ({ cls := "GraticulePressLaw", name := "isRow", desc := "(LGraticulePress;[I[I[III)Z" } : Jvm.MethodName) method_19_code (12 : Nat) (Option.some Jvm.ClassFile.FieldType.boolean) ∈ gwA := gwA_at 984 (by decide +kernel) rfl
theorem gwu_0 : ∀ w ∈ u_ws RJ0 TJ0 4, w ∈ gwA := gwA_all (by decide +kernel)
theorem gwu_1 : ∀ w ∈ u_ws RJ4 TJ4 4, w ∈ gwA := gwA_all (by decide +kernel)
theorem gwu_2 : ∀ w ∈ u_ws RJx00060 TJx00060 6, w ∈ gwA := gwA_all (by decide +kernel)
theorem gwu_3 : ∀ w ∈ u_ws RJx7c733 TJx7c733 6, w ∈ gwA := gwA_all (by decide +kernel)
theorem gwu_4 : ∀ w ∈ u_ws RX0 TX0 1, w ∈ gwA := gwA_all (by decide +kernel)
theorem gwu_5 : ∀ w ∈ u_ws RX1 TX1 1, w ∈ gwA := gwA_all (by decide +kernel)
theorem gwu_6 : ∀ w ∈ u_ws RX2 TX2 5, w ∈ gwA := gwA_all (by decide +kernel)
theorem gwu_7 : ∀ w ∈ u_ws RX3 TX3 9, w ∈ gwA := gwA_all (by decide +kernel)
theorem gwu_8 : ∀ w ∈ u_ws RX4 TX4 2, w ∈ gwA := gwA_all (by decide +kernel)
theorem gwu_9 : ∀ w ∈ u_ws RX5 TX5 7, w ∈ gwA := gwA_all (by decide +kernel)
theorem gwu_10 : ∀ w ∈ u_ws RX6 TX6 8, w ∈ gwA := gwA_all (by decide +kernel)
theorem gf_RJ5_15 : gFd RJ5 15 1 0 := ⟨RJ4, TJ4, 4, rfl, gwu_1, by decide, gw_53⟩
theorem gp_RJ5_15 : gFw RJ5 15 1 0 false (tyJ4 0) := ⟨RJ4, TJ4, 4, rfl, gwu_1, by decide, gw_53, ⟨tyJ4, tyJ4_ok, rfl⟩, nmJ4, rfl, fun h => by cases h⟩
theorem gf_RJ5_22 : gFd RJ5 22 1 1 := ⟨RJ4, TJ4, 4, rfl, gwu_1, by decide, gw_54⟩
theorem gp_RJ5_22 : gFw RJ5 22 1 1 false (tyJ4 1) := ⟨RJ4, TJ4, 4, rfl, gwu_1, by decide, gw_54, ⟨tyJ4, tyJ4_ok, rfl⟩, nmJ4, rfl, fun h => by cases h⟩
theorem gf_RJ5_73 : gFd RJ5 73 1 2 := ⟨RJ4, TJ4, 4, rfl, gwu_1, by decide, gw_55⟩
theorem gp_RJ5_73 : gFw RJ5 73 1 2 false (tyJ4 2) := ⟨RJ4, TJ4, 4, rfl, gwu_1, by decide, gw_55, ⟨tyJ4, tyJ4_ok, rfl⟩, nmJ4, rfl, fun h => by cases h⟩
theorem gf_RJ0_1048 : gFd RJ0 1048 1 2 := ⟨RJ4, TJ4, 4, rfl, gwu_1, by decide, gw_56⟩
theorem gp_RJ0_1048 : gFw RJ0 1048 1 2 false (tyJ4 2) := ⟨RJ4, TJ4, 4, rfl, gwu_1, by decide, gw_56, ⟨tyJ4, tyJ4_ok, rfl⟩, nmJ4, rfl, fun h => by cases h⟩
theorem gf_RJ5_79 : gFd RJ5 79 1 3 := ⟨RJ4, TJ4, 4, rfl, gwu_1, by decide, gw_57⟩
theorem gp_RJ5_79 : gFw RJ5 79 1 3 false (tyJ4 3) := ⟨RJ4, TJ4, 4, rfl, gwu_1, by decide, gw_57, ⟨tyJ4, tyJ4_ok, rfl⟩, nmJ4, rfl, fun h => by cases h⟩
theorem gf_RX6_10 : gFd RX6 10 10 0 := ⟨RX6, TX6, 8, rfl, gwu_10, by decide, gw_74⟩
theorem gp_RX6_10 : gFw RX6 10 10 0 true (tyX6 0) := ⟨RX6, TX6, 8, rfl, gwu_10, by decide, gw_74, ⟨tyX6, tyX6_ok, rfl⟩, nmX6, rfl, fun _ => rfl⟩
theorem gf_RX6_18 : gFd RX6 18 10 1 := ⟨RX6, TX6, 8, rfl, gwu_10, by decide, gw_75⟩
theorem gp_RX6_18 : gFw RX6 18 10 1 true (tyX6 1) := ⟨RX6, TX6, 8, rfl, gwu_10, by decide, gw_75, ⟨tyX6, tyX6_ok, rfl⟩, nmX6, rfl, fun _ => rfl⟩
theorem gf_RX6_24 : gFd RX6 24 10 2 := ⟨RX6, TX6, 8, rfl, gwu_10, by decide, gw_76⟩
theorem gp_RX6_24 : gFw RX6 24 10 2 true (tyX6 2) := ⟨RX6, TX6, 8, rfl, gwu_10, by decide, gw_76, ⟨tyX6, tyX6_ok, rfl⟩, nmX6, rfl, fun _ => rfl⟩
theorem gf_RX6_30 : gFd RX6 30 10 3 := ⟨RX6, TX6, 8, rfl, gwu_10, by decide, gw_77⟩
theorem gp_RX6_30 : gFw RX6 30 10 3 true (tyX6 3) := ⟨RX6, TX6, 8, rfl, gwu_10, by decide, gw_77, ⟨tyX6, tyX6_ok, rfl⟩, nmX6, rfl, fun _ => rfl⟩
theorem gf_RX6_34 : gFd RX6 34 10 4 := ⟨RX6, TX6, 8, rfl, gwu_10, by decide, gw_78⟩
theorem gp_RX6_34 : gFw RX6 34 10 4 false (tyX6 4) := ⟨RX6, TX6, 8, rfl, gwu_10, by decide, gw_78, ⟨tyX6, tyX6_ok, rfl⟩, nmX6, rfl, fun h => by cases h⟩
theorem gf_RX6_38 : gFd RX6 38 10 5 := ⟨RX6, TX6, 8, rfl, gwu_10, by decide, gw_79⟩
theorem gp_RX6_38 : gFw RX6 38 10 5 false (tyX6 5) := ⟨RX6, TX6, 8, rfl, gwu_10, by decide, gw_79, ⟨tyX6, tyX6_ok, rfl⟩, nmX6, rfl, fun h => by cases h⟩
theorem gf_RX6_41 : gFd RX6 41 10 6 := ⟨RX6, TX6, 8, rfl, gwu_10, by decide, gw_80⟩
theorem gp_RX6_41 : gFw RX6 41 10 6 false (tyX6 6) := ⟨RX6, TX6, 8, rfl, gwu_10, by decide, gw_80, ⟨tyX6, tyX6_ok, rfl⟩, nmX6, rfl, fun h => by cases h⟩
theorem gf_RX6_44 : gFd RX6 44 10 7 := ⟨RX6, TX6, 8, rfl, gwu_10, by decide, gw_81⟩
theorem gp_RX6_44 : gFw RX6 44 10 7 false (tyX6 7) := ⟨RX6, TX6, 8, rfl, gwu_10, by decide, gw_81, ⟨tyX6, tyX6_ok, rfl⟩, nmX6, rfl, fun h => by cases h⟩
theorem gf_RX1_9 : gFd RX1 9 5 0 := ⟨RX1, TX1, 1, rfl, gwu_5, by decide, gw_409⟩
theorem gp_RX1_9 : gFw RX1 9 5 0 true (tyX1 0) := ⟨RX1, TX1, 1, rfl, gwu_5, by decide, gw_409, ⟨tyX1, tyX1_ok, rfl⟩, nmX1, rfl, fun _ => rfl⟩
theorem gf_RX3_24 : gFd RX3 24 7 0 := ⟨RX3, TX3, 9, rfl, gwu_7, by decide, gw_416⟩
theorem gp_RX3_24 : gFw RX3 24 7 0 true (tyX3 0) := ⟨RX3, TX3, 9, rfl, gwu_7, by decide, gw_416, ⟨tyX3, tyX3_ok, rfl⟩, nmX3, rfl, fun _ => rfl⟩
theorem gf_RX6_173 : gFd RX6 173 7 0 := ⟨RX3, TX3, 9, rfl, gwu_7, by decide, gw_417⟩
theorem gf_RX3_28 : gFd RX3 28 7 1 := ⟨RX3, TX3, 9, rfl, gwu_7, by decide, gw_418⟩
theorem gp_RX3_28 : gFw RX3 28 7 1 true (tyX3 1) := ⟨RX3, TX3, 9, rfl, gwu_7, by decide, gw_418, ⟨tyX3, tyX3_ok, rfl⟩, nmX3, rfl, fun _ => rfl⟩
theorem gf_RX3_9 : gFd RX3 9 7 2 := ⟨RX3, TX3, 9, rfl, gwu_7, by decide, gw_419⟩
theorem gp_RX3_9 : gFw RX3 9 7 2 true (tyX3 2) := ⟨RX3, TX3, 9, rfl, gwu_7, by decide, gw_419, ⟨tyX3, tyX3_ok, rfl⟩, nmX3, rfl, fun _ => rfl⟩
theorem gf_RX3_15 : gFd RX3 15 7 3 := ⟨RX3, TX3, 9, rfl, gwu_7, by decide, gw_420⟩
theorem gp_RX3_15 : gFw RX3 15 7 3 true (tyX3 3) := ⟨RX3, TX3, 9, rfl, gwu_7, by decide, gw_420, ⟨tyX3, tyX3_ok, rfl⟩, nmX3, rfl, fun _ => rfl⟩
theorem gf_RX3_18 : gFd RX3 18 7 4 := ⟨RX3, TX3, 9, rfl, gwu_7, by decide, gw_421⟩
theorem gp_RX3_18 : gFw RX3 18 7 4 true (tyX3 4) := ⟨RX3, TX3, 9, rfl, gwu_7, by decide, gw_421, ⟨tyX3, tyX3_ok, rfl⟩, nmX3, rfl, fun _ => rfl⟩
theorem gf_RX3_33 : gFd RX3 33 7 5 := ⟨RX3, TX3, 9, rfl, gwu_7, by decide, gw_422⟩
theorem gp_RX3_33 : gFw RX3 33 7 5 true (tyX3 5) := ⟨RX3, TX3, 9, rfl, gwu_7, by decide, gw_422, ⟨tyX3, tyX3_ok, rfl⟩, nmX3, rfl, fun _ => rfl⟩
theorem gf_RX3_40 : gFd RX3 40 7 6 := ⟨RX3, TX3, 9, rfl, gwu_7, by decide, gw_423⟩
theorem gp_RX3_40 : gFw RX3 40 7 6 false (tyX3 6) := ⟨RX3, TX3, 9, rfl, gwu_7, by decide, gw_423, ⟨tyX3, tyX3_ok, rfl⟩, nmX3, rfl, fun h => by cases h⟩
theorem gf_RX3_37 : gFd RX3 37 7 7 := ⟨RX3, TX3, 9, rfl, gwu_7, by decide, gw_424⟩
theorem gp_RX3_37 : gFw RX3 37 7 7 true (tyX3 7) := ⟨RX3, TX3, 9, rfl, gwu_7, by decide, gw_424, ⟨tyX3, tyX3_ok, rfl⟩, nmX3, rfl, fun _ => rfl⟩
theorem gf_RX3_43 : gFd RX3 43 7 8 := ⟨RX3, TX3, 9, rfl, gwu_7, by decide, gw_425⟩
theorem gp_RX3_43 : gFw RX3 43 7 8 false (tyX3 8) := ⟨RX3, TX3, 9, rfl, gwu_7, by decide, gw_425, ⟨tyX3, tyX3_ok, rfl⟩, nmX3, rfl, fun h => by cases h⟩
theorem gf_RX5_21 : gFd RX5 21 9 0 := ⟨RX5, TX5, 7, rfl, gwu_9, by decide, gw_472⟩
theorem gp_RX5_21 : gFw RX5 21 9 0 true (tyX5 0) := ⟨RX5, TX5, 7, rfl, gwu_9, by decide, gw_472, ⟨tyX5, tyX5_ok, rfl⟩, nmX5, rfl, fun _ => rfl⟩
theorem gf_RX3_87 : gFd RX3 87 9 0 := ⟨RX5, TX5, 7, rfl, gwu_9, by decide, gw_473⟩
theorem gf_RX5_22 : gFd RX5 22 9 1 := ⟨RX5, TX5, 7, rfl, gwu_9, by decide, gw_474⟩
theorem gp_RX5_22 : gFw RX5 22 9 1 true (tyX5 1) := ⟨RX5, TX5, 7, rfl, gwu_9, by decide, gw_474, ⟨tyX5, tyX5_ok, rfl⟩, nmX5, rfl, fun _ => rfl⟩
theorem gf_RX6_157 : gFd RX6 157 9 1 := ⟨RX5, TX5, 7, rfl, gwu_9, by decide, gw_475⟩
theorem gf_RX3_103 : gFd RX3 103 9 1 := ⟨RX5, TX5, 7, rfl, gwu_9, by decide, gw_476⟩
theorem gf_RX5_25 : gFd RX5 25 9 2 := ⟨RX5, TX5, 7, rfl, gwu_9, by decide, gw_477⟩
theorem gp_RX5_25 : gFw RX5 25 9 2 true (tyX5 2) := ⟨RX5, TX5, 7, rfl, gwu_9, by decide, gw_477, ⟨tyX5, tyX5_ok, rfl⟩, nmX5, rfl, fun _ => rfl⟩
theorem gf_RX6_152 : gFd RX6 152 9 2 := ⟨RX5, TX5, 7, rfl, gwu_9, by decide, gw_478⟩
theorem gf_RX3_100 : gFd RX3 100 9 2 := ⟨RX5, TX5, 7, rfl, gwu_9, by decide, gw_479⟩
theorem gf_RX5_9 : gFd RX5 9 9 3 := ⟨RX5, TX5, 7, rfl, gwu_9, by decide, gw_480⟩
theorem gp_RX5_9 : gFw RX5 9 9 3 true (tyX5 3) := ⟨RX5, TX5, 7, rfl, gwu_9, by decide, gw_480, ⟨tyX5, tyX5_ok, rfl⟩, nmX5, rfl, fun _ => rfl⟩
theorem gf_RX5_28 : gFd RX5 28 9 4 := ⟨RX5, TX5, 7, rfl, gwu_9, by decide, gw_481⟩
theorem gp_RX5_28 : gFw RX5 28 9 4 false (tyX5 4) := ⟨RX5, TX5, 7, rfl, gwu_9, by decide, gw_481, ⟨tyX5, tyX5_ok, rfl⟩, nmX5, rfl, fun h => by cases h⟩
theorem gf_RX5_32 : gFd RX5 32 9 5 := ⟨RX5, TX5, 7, rfl, gwu_9, by decide, gw_482⟩
theorem gp_RX5_32 : gFw RX5 32 9 5 false (tyX5 5) := ⟨RX5, TX5, 7, rfl, gwu_9, by decide, gw_482, ⟨tyX5, tyX5_ok, rfl⟩, nmX5, rfl, fun h => by cases h⟩
theorem gf_RX5_35 : gFd RX5 35 9 6 := ⟨RX5, TX5, 7, rfl, gwu_9, by decide, gw_485⟩
theorem gp_RX5_35 : gFw RX5 35 9 6 false (tyX5 6) := ⟨RX5, TX5, 7, rfl, gwu_9, by decide, gw_485, ⟨tyX5, tyX5_ok, rfl⟩, nmX5, rfl, fun h => by cases h⟩
theorem gf_RX2_9 : gFd RX2 9 6 0 := ⟨RX2, TX2, 5, rfl, gwu_6, by decide, gw_545⟩
theorem gp_RX2_9 : gFw RX2 9 6 0 true (tyX2 0) := ⟨RX2, TX2, 5, rfl, gwu_6, by decide, gw_545, ⟨tyX2, tyX2_ok, rfl⟩, nmX2, rfl, fun _ => rfl⟩
theorem gf_RX3_60 : gFd RX3 60 6 0 := ⟨RX2, TX2, 5, rfl, gwu_6, by decide, gw_546⟩
theorem gf_RX2_15 : gFd RX2 15 6 1 := ⟨RX2, TX2, 5, rfl, gwu_6, by decide, gw_547⟩
theorem gp_RX2_15 : gFw RX2 15 6 1 true (tyX2 1) := ⟨RX2, TX2, 5, rfl, gwu_6, by decide, gw_547, ⟨tyX2, tyX2_ok, rfl⟩, nmX2, rfl, fun _ => rfl⟩
theorem gf_RX3_67 : gFd RX3 67 6 1 := ⟨RX2, TX2, 5, rfl, gwu_6, by decide, gw_548⟩
theorem gf_RX5_15 : gFd RX5 15 6 2 := ⟨RX2, TX2, 5, rfl, gwu_6, by decide, gw_549⟩
theorem gf_RX2_18 : gFd RX2 18 6 2 := ⟨RX2, TX2, 5, rfl, gwu_6, by decide, gw_550⟩
theorem gp_RX2_18 : gFw RX2 18 6 2 true (tyX2 2) := ⟨RX2, TX2, 5, rfl, gwu_6, by decide, gw_550, ⟨tyX2, tyX2_ok, rfl⟩, nmX2, rfl, fun _ => rfl⟩
theorem gf_RX2_23 : gFd RX2 23 6 3 := ⟨RX2, TX2, 5, rfl, gwu_6, by decide, gw_551⟩
theorem gp_RX2_23 : gFw RX2 23 6 3 true (tyX2 3) := ⟨RX2, TX2, 5, rfl, gwu_6, by decide, gw_551, ⟨tyX2, tyX2_ok, rfl⟩, nmX2, rfl, fun _ => rfl⟩
theorem gf_RX2_27 : gFd RX2 27 6 4 := ⟨RX2, TX2, 5, rfl, gwu_6, by decide, gw_552⟩
theorem gp_RX2_27 : gFw RX2 27 6 4 false (tyX2 4) := ⟨RX2, TX2, 5, rfl, gwu_6, by decide, gw_552, ⟨tyX2, tyX2_ok, rfl⟩, nmX2, rfl, fun h => by cases h⟩
theorem gf_RJ0_9 : gFd RJ0 9 0 0 := ⟨RJ0, TJ0, 4, rfl, gwu_0, by decide, gw_828⟩
theorem gp_RJ0_9 : gFw RJ0 9 0 0 true (tyJ0 0) := ⟨RJ0, TJ0, 4, rfl, gwu_0, by decide, gw_828, ⟨tyJ0, tyJ0_ok, rfl⟩, nmJ0, rfl, fun _ => rfl⟩
theorem gf_RJ0_15 : gFd RJ0 15 0 1 := ⟨RJ0, TJ0, 4, rfl, gwu_0, by decide, gw_829⟩
theorem gp_RJ0_15 : gFw RJ0 15 0 1 true (tyJ0 1) := ⟨RJ0, TJ0, 4, rfl, gwu_0, by decide, gw_829, ⟨tyJ0, tyJ0_ok, rfl⟩, nmJ0, rfl, fun _ => rfl⟩
theorem gf_RX4_7 : gFd RX4 7 8 0 := ⟨RX4, TX4, 2, rfl, gwu_8, by decide, gw_843⟩
theorem gp_RX4_7 : gFw RX4 7 8 0 true (tyX4 0) := ⟨RX4, TX4, 2, rfl, gwu_8, by decide, gw_843, ⟨tyX4, tyX4_ok, rfl⟩, nmX4, rfl, fun _ => rfl⟩
theorem gf_RX2_30 : gFd RX2 30 8 0 := ⟨RX4, TX4, 2, rfl, gwu_8, by decide, gw_844⟩
theorem gf_RX4_13 : gFd RX4 13 8 1 := ⟨RX4, TX4, 2, rfl, gwu_8, by decide, gw_845⟩
theorem gp_RX4_13 : gFw RX4 13 8 1 true (tyX4 1) := ⟨RX4, TX4, 2, rfl, gwu_8, by decide, gw_845, ⟨tyX4, tyX4_ok, rfl⟩, nmX4, rfl, fun _ => rfl⟩
theorem gf_RX2_33 : gFd RX2 33 8 1 := ⟨RX4, TX4, 2, rfl, gwu_8, by decide, gw_846⟩
theorem gf_RX0_11 : gFd RX0 11 4 0 := ⟨RX0, TX0, 1, rfl, gwu_4, by decide, gw_969⟩
theorem gp_RX0_11 : gFw RX0 11 4 0 true (tyX0 0) := ⟨RX0, TX0, 1, rfl, gwu_4, by decide, gw_969, ⟨tyX0, tyX0_ok, rfl⟩, nmX0, rfl, fun _ => rfl⟩
theorem gc_RL_136 : gCi RL 136 yX6_init cX6_init 1 0 := ⟨⟨gw_31, gw_29, gw_1, ⟨by decide +kernel, by decide +kernel, by decide +kernel⟩⟩, gw_30, rfl⟩
theorem gc_RX6_9 : gCi RX6 9 yJ4_init_da8c8 cJ4_init_da8c8 1 0 := ⟨⟨gw_39, gw_37, gw_3, ⟨by decide +kernel, by decide +kernel, by decide +kernel⟩⟩, gw_38, rfl⟩
theorem gc_RJ4_1 : gCi RJ4 1 yJ5_init_d00df cJ5_init_d00df 2 1 := ⟨⟨gw_42, gw_40, gw_2, ⟨by decide +kernel, by decide +kernel, by decide +kernel⟩⟩, gw_41, rfl⟩
theorem gc_RJ5_26 : gCs RJ5 26 yJ2_newBytesFor_77867 cJ2_newBytesFor_77867 1 (some (Jvm.ClassFile.FieldType.array Jvm.ClassFile.FieldType.byte)) 1 := ⟨⟨gw_48, gw_46, gw_5, ⟨by decide +kernel, by decide +kernel, by decide +kernel⟩⟩, gw_47⟩
theorem gc_RJ2_11 : gCs RJ2 11 yJ2_newBytesLength_0f7a4 cJ2_newBytesLength_0f7a4 1 (some Jvm.ClassFile.FieldType.int) 1 := ⟨⟨gw_51, gw_49, gw_5, ⟨by decide +kernel, by decide +kernel, by decide +kernel⟩⟩, gw_50⟩
theorem gc_RL_137 : gCs RL 137 yL_at cL_at 2 (some Jvm.ClassFile.FieldType.int) 2 := ⟨⟨gw_101, gw_99, gw_0, ⟨by decide +kernel, by decide +kernel, by decide +kernel⟩⟩, gw_100⟩
theorem gc_RL_132 : gCs RL 132 yL_isSheet cL_isSheet 18 (some Jvm.ClassFile.FieldType.boolean) 5 := ⟨⟨gw_106, gw_104, gw_0, ⟨by decide +kernel, by decide +kernel, by decide +kernel⟩⟩, gw_105⟩
theorem gc_RL_43 : gCv RL 43 yX6_dot cX6_dot 5 (some Jvm.ClassFile.FieldType.int) 3 := ⟨⟨gw_114, gw_111, gw_1, ⟨by decide +kernel, by decide +kernel, by decide +kernel⟩⟩, gw_112, gw_113⟩
theorem gc_RX6_148 : gCv RX6 148 yX6_spotOn cX6_spotOn 4 (some (Jvm.ClassFile.FieldType.object "GraticulePress$Spot")) 2 := ⟨⟨gw_118, gw_115, gw_1, ⟨by decide +kernel, by decide +kernel, by decide +kernel⟩⟩, gw_117, (gwA_mem (by unfold lw_tbl; exact List.mem_append_left _ (List.mem_of_getElem? (i := 0) (by decide +kernel))) rfl)⟩
theorem gc_RX6_163 : gCv RX6 163 yX6_sheetNumbered cX6_sheetNumbered 2 (some (Jvm.ClassFile.FieldType.object "GraticulePress$Sheet")) 1 := ⟨⟨gw_122, gw_119, gw_1, ⟨by decide +kernel, by decide +kernel, by decide +kernel⟩⟩, gw_121, (gwA_mem (by unfold lw_tbl; exact List.mem_append_left _ (List.mem_of_getElem? (i := 1) (by decide +kernel))) rfl)⟩
theorem gc_RX6_216 : gCv RX6 216 yX3_spotOf cX3_spotOf 2 (some (Jvm.ClassFile.FieldType.object "GraticulePress$Spot")) 1 := ⟨⟨gw_196, gw_193, gw_11, ⟨by decide +kernel, by decide +kernel, by decide +kernel⟩⟩, gw_194, gw_195⟩
theorem gc_RL_47 : gCv RL 47 yX6_side cX6_side 3 (some Jvm.ClassFile.FieldType.int) 2 := ⟨⟨gw_205, gw_202, gw_1, ⟨by decide +kernel, by decide +kernel, by decide +kernel⟩⟩, gw_203, gw_204⟩
theorem gc_RL_76 : gCs RL 76 yL_isOn cL_isOn 6 (some Jvm.ClassFile.FieldType.boolean) 4 := ⟨⟨gw_208, gw_206, gw_0, ⟨by decide +kernel, by decide +kernel, by decide +kernel⟩⟩, gw_207⟩
theorem gc_RL_54 : gCv RL 54 yX6_worth cX6_worth 2 (some Jvm.ClassFile.FieldType.int) 1 := ⟨⟨gw_215, gw_212, gw_1, ⟨by decide +kernel, by decide +kernel, by decide +kernel⟩⟩, gw_213, gw_214⟩
theorem gc_RX6_183 : gCv RX6 183 yX3_worthToday cX3_worthToday 4 (some Jvm.ClassFile.FieldType.int) 0 := ⟨⟨gw_219, gw_216, gw_11, ⟨by decide +kernel, by decide +kernel, by decide +kernel⟩⟩, gw_217, gw_218⟩
theorem gc_RL_57 : gCv RL 57 yX6_best cX6_best 3 (some Jvm.ClassFile.FieldType.int) 1 := ⟨⟨gw_227, gw_224, gw_1, ⟨by decide +kernel, by decide +kernel, by decide +kernel⟩⟩, gw_225, gw_226⟩
theorem gc_RX6_191 : gCv RX6 191 yX3_greatestWorth cX3_greatestWorth 1 (some Jvm.ClassFile.FieldType.int) 0 := ⟨⟨gw_247, gw_244, gw_11, ⟨by decide +kernel, by decide +kernel, by decide +kernel⟩⟩, gw_245, gw_246⟩
theorem gc_RX3_80 : gCv RX3 80 yX3_drawDots cX3_drawDots 4 none 1 := ⟨⟨gw_252, gw_248, gw_11, ⟨by decide +kernel, by decide +kernel, by decide +kernel⟩⟩, gw_250, (gwA_mem (by unfold lw_tbl; exact List.mem_append_left _ (List.mem_of_getElem? (i := 3) (by decide +kernel))) rfl)⟩
theorem gc_RX3_94 : gCv RX3 94 yX1_clear cX1_clear 2 none 0 := ⟨⟨gw_256, gw_253, gw_12, ⟨by decide +kernel, by decide +kernel, by decide +kernel⟩⟩, gw_254, gw_255⟩
theorem gc_RX3_97 : gCv RX3 97 yX5_isOnSheet cX5_isOnSheet 1 (some Jvm.ClassFile.FieldType.boolean) 0 := ⟨⟨gw_260, gw_257, gw_13, ⟨by decide +kernel, by decide +kernel, by decide +kernel⟩⟩, gw_258, gw_259⟩
theorem gc_RX3_106 : gCv RX3 106 yX1_setSign cX1_setSign 4 none 3 := ⟨⟨gw_264, gw_261, gw_12, ⟨by decide +kernel, by decide +kernel, by decide +kernel⟩⟩, gw_262, gw_263⟩
theorem gc_RX1_15 : gCn RX1 RX6 15 yX6_isOnGrid cX6_isOnGrid 2 (some Jvm.ClassFile.FieldType.boolean) 2 := ⟨gw_267, List.mem_append_right _ (List.mem_of_getElem? (i := 265) (by decide +kernel)), gw_1, ⟨by decide +kernel, by decide +kernel, by decide +kernel⟩, gw_266⟩
theorem gc_RX3_116 : gCs RX3 116 yX3_greatestFrom cX3_greatestFrom 9 (some Jvm.ClassFile.FieldType.int) 4 := ⟨⟨gw_270, gw_268, gw_11, ⟨by decide +kernel, by decide +kernel, by decide +kernel⟩⟩, gw_269⟩
theorem gc_RX3_120 : gCs RX3 120 yX3_ranksFrom cX3_ranksFrom 6 (some Jvm.ClassFile.FieldType.int) 3 := ⟨⟨gw_273, gw_271, gw_11, ⟨by decide +kernel, by decide +kernel, by decide +kernel⟩⟩, gw_272⟩
theorem gc_RX3_132 : gCs RX3 132 yJ9_max_7cf53 cJ9_max_7cf53 2 (some Jvm.ClassFile.FieldType.int) 2 := ⟨⟨gw_276, gw_274, gw_19, ⟨by decide +kernel, by decide +kernel, by decide +kernel⟩⟩, gw_275⟩
theorem gc_RX3_124 : gCv RX3 124 yX5_mayStand cX5_mayStand 4 (some Jvm.ClassFile.FieldType.boolean) 2 := ⟨⟨gw_280, gw_277, gw_13, ⟨by decide +kernel, by decide +kernel, by decide +kernel⟩⟩, gw_278, gw_279⟩
theorem gc_RX5_46 : gCv RX5 46 yJ0_length_8abf5 cJ0_length_8abf5 1 (some Jvm.ClassFile.FieldType.int) 0 := ⟨⟨gw_284, gw_281, gw_4, ⟨by decide +kernel, by decide +kernel, by decide +kernel⟩⟩, gw_282, gw_283⟩
theorem gc_RJ0_335 : gCv RJ0 335 yJ0_coder_7d493 cJ0_coder_7d493 1 (some Jvm.ClassFile.FieldType.byte) 0 := ⟨⟨gw_288, gw_285, gw_4, ⟨by decide +kernel, by decide +kernel, by decide +kernel⟩⟩, gw_286, gw_287⟩
theorem gc_RX5_52 : gCv RX5 52 yX5_rowAt cX5_rowAt 2 (some Jvm.ClassFile.FieldType.int) 1 := ⟨⟨gw_294, gw_290, gw_13, ⟨by decide +kernel, by decide +kernel, by decide +kernel⟩⟩, gw_292, (gwA_mem (by unfold lw_tbl; exact List.mem_append_left _ (List.mem_of_getElem? (i := 4) (by decide +kernel))) rfl)⟩
theorem gc_RX5_56 : gCv RX5 56 yX5_firstColumnAt cX5_firstColumnAt 3 (some Jvm.ClassFile.FieldType.int) 2 := ⟨⟨gw_298, gw_295, gw_13, ⟨by decide +kernel, by decide +kernel, by decide +kernel⟩⟩, gw_297, (gwA_mem (by unfold lw_tbl; exact List.mem_append_left _ (List.mem_of_getElem? (i := 5) (by decide +kernel))) rfl)⟩
theorem gc_RX5_60 : gCv RX5 60 yX1_isFree cX1_isFree 5 (some Jvm.ClassFile.FieldType.boolean) 3 := ⟨⟨gw_302, gw_299, gw_12, ⟨by decide +kernel, by decide +kernel, by decide +kernel⟩⟩, gw_300, gw_301⟩
theorem gc_RX1_33 : gCv RX1 33 yX1_signAt cX1_signAt 3 (some Jvm.ClassFile.FieldType.char) 2 := ⟨⟨gw_306, gw_303, gw_12, ⟨by decide +kernel, by decide +kernel, by decide +kernel⟩⟩, gw_304, gw_305⟩
theorem gc_RX3_128 : gCv RX3 128 yX5_write cX5_write 3 none 2 := ⟨⟨gw_310, gw_307, gw_13, ⟨by decide +kernel, by decide +kernel, by decide +kernel⟩⟩, gw_308, gw_309⟩
theorem gc_RX5_66 : gCv RX5 66 yX1_write cX1_write 5 none 3 := ⟨⟨gw_314, gw_311, gw_12, ⟨by decide +kernel, by decide +kernel, by decide +kernel⟩⟩, gw_312, gw_313⟩
theorem gc_RX1_19 : gCv RX1 19 yJ0_length_8abf5 cJ0_length_8abf5 1 (some Jvm.ClassFile.FieldType.int) 0 := ⟨⟨gw_284, gw_315, gw_4, ⟨by decide +kernel, by decide +kernel, by decide +kernel⟩⟩, gw_282, gw_283⟩
theorem gc_RX1_25 : gCv RX1 25 yJ0_charAt_5068e cJ0_charAt_5068e 2 (some Jvm.ClassFile.FieldType.char) 1 := ⟨⟨gw_319, gw_316, gw_4, ⟨by decide +kernel, by decide +kernel, by decide +kernel⟩⟩, gw_317, gw_318⟩
theorem gc_RJ0_492 : gCv RJ0 492 yJ0_isLatin1_aae02 cJ0_isLatin1_aae02 1 (some Jvm.ClassFile.FieldType.boolean) 0 := ⟨⟨gw_323, gw_320, gw_4, ⟨by decide +kernel, by decide +kernel, by decide +kernel⟩⟩, gw_321, gw_322⟩
theorem gc_RJ0_495 : gCs RJ0 495 yJ1_charAt_3b067 cJ1_charAt_3b067 2 (some Jvm.ClassFile.FieldType.char) 2 := ⟨⟨gw_326, gw_324, gw_14, ⟨by decide +kernel, by decide +kernel, by decide +kernel⟩⟩, gw_325⟩
theorem gc_RJ1_9 : gCs RJ1 9 yJ0_checkIndex_df160 cJ0_checkIndex_df160 2 none 2 := ⟨⟨gw_329, gw_327, gw_4, ⟨by decide +kernel, by decide +kernel, by decide +kernel⟩⟩, gw_328⟩
theorem gc_RJ0_1059 : gCs RJ0 1059 yJ3_checkIndex_8e157 cJ3_checkIndex_8e157 3 (some Jvm.ClassFile.FieldType.int) 3 := ⟨⟨gw_334, gw_332, gw_15, ⟨by decide +kernel, by decide +kernel, by decide +kernel⟩⟩, gw_333⟩
theorem gc_RJ0_498 : gCs RJ0 498 yJ2_charAt_3b067 cJ2_charAt_3b067 2 (some Jvm.ClassFile.FieldType.char) 2 := ⟨⟨gw_337, gw_335, gw_5, ⟨by decide +kernel, by decide +kernel, by decide +kernel⟩⟩, gw_336⟩
theorem gc_RJ2_67 : gCs RJ2 67 yJ2_checkIndex_2214a cJ2_checkIndex_2214a 2 none 2 := ⟨⟨gw_340, gw_338, gw_5, ⟨by decide +kernel, by decide +kernel, by decide +kernel⟩⟩, gw_339⟩
theorem gc_RJ2_48 : gCs RJ2 48 yJ2_length_9d52b cJ2_length_9d52b 1 (some Jvm.ClassFile.FieldType.int) 1 := ⟨⟨gw_343, gw_341, gw_5, ⟨by decide +kernel, by decide +kernel, by decide +kernel⟩⟩, gw_342⟩
theorem gc_RJ2_414 : gCs RJ2 414 yJ0_checkIndex_df160 cJ0_checkIndex_df160 2 none 2 := ⟨⟨gw_329, gw_344, gw_4, ⟨by decide +kernel, by decide +kernel, by decide +kernel⟩⟩, gw_328⟩
theorem gc_RJ2_71 : gCs RJ2 71 yJ2_getChar_3b067 cJ2_getChar_3b067 2 (some Jvm.ClassFile.FieldType.char) 2 := ⟨⟨gw_347, gw_345, gw_5, ⟨by decide +kernel, by decide +kernel, by decide +kernel⟩⟩, gw_346⟩
theorem gc_RX1_29 : gCv RX1 29 yX1_setSign cX1_setSign 4 none 3 := ⟨⟨gw_264, gw_354, gw_12, ⟨by decide +kernel, by decide +kernel, by decide +kernel⟩⟩, gw_262, gw_263⟩
theorem gc_RX3_138 : gCv RX3 138 yX5_erase cX5_erase 4 none 2 := ⟨⟨gw_358, gw_355, gw_13, ⟨by decide +kernel, by decide +kernel, by decide +kernel⟩⟩, gw_356, gw_357⟩
theorem gc_RX5_70 : gCv RX5 70 yX1_erase cX1_erase 5 none 3 := ⟨⟨gw_362, gw_359, gw_12, ⟨by decide +kernel, by decide +kernel, by decide +kernel⟩⟩, gw_360, gw_361⟩
theorem gc_RL_108 : gCs RL 108 yL_makes cL_makes 10 (some Jvm.ClassFile.FieldType.boolean) 6 := ⟨⟨gw_366, gw_364, gw_0, ⟨by decide +kernel, by decide +kernel, by decide +kernel⟩⟩, gw_365⟩
theorem gc_RL_90 : gCs RL 90 yL_low cL_low 2 (some Jvm.ClassFile.FieldType.int) 2 := ⟨⟨gw_369, gw_367, gw_0, ⟨by decide +kernel, by decide +kernel, by decide +kernel⟩⟩, gw_368⟩
theorem gc_RL_40 : gCv RL 40 yX6_sheet cX6_sheet 6 (some Jvm.ClassFile.FieldType.int) 3 := ⟨⟨gw_378, gw_375, gw_1, ⟨by decide +kernel, by decide +kernel, by decide +kernel⟩⟩, gw_376, gw_377⟩
theorem gc_RX6_67 : gCs RX6 67 yX6_isWithin cX6_isWithin 3 (some Jvm.ClassFile.FieldType.boolean) 3 := ⟨⟨gw_381, gw_379, gw_1, ⟨by decide +kernel, by decide +kernel, by decide +kernel⟩⟩, gw_380⟩
theorem gc_RX6_141 : gCi RX6 141 yX3_init cX3_init 4 3 := ⟨⟨gw_401, gw_399, gw_11, ⟨by decide +kernel, by decide +kernel, by decide +kernel⟩⟩, gw_400, rfl⟩
theorem gc_RX3_23 : gCi RX3 23 yX1_init cX1_init 1 0 := ⟨⟨gw_407, gw_405, gw_12, ⟨by decide +kernel, by decide +kernel, by decide +kernel⟩⟩, gw_406, rfl⟩
theorem gc_RX6_142 : gCv RX6 142 yX3_show cX3_show 2 none 1 := ⟨⟨gw_449, gw_446, gw_11, ⟨by decide +kernel, by decide +kernel, by decide +kernel⟩⟩, gw_447, gw_448⟩
theorem gc_RX3_46 : gCv RX3 46 yX3_has cX3_has 2 (some Jvm.ClassFile.FieldType.boolean) 1 := ⟨⟨gw_453, gw_450, gw_11, ⟨by decide +kernel, by decide +kernel, by decide +kernel⟩⟩, gw_452, (gwA_mem (by unfold lw_tbl; exact List.mem_append_left _ (List.mem_of_getElem? (i := 6) (by decide +kernel))) rfl)⟩
theorem gc_RX3_63 : gCn RX3 RX6 63 yX6_isWithin cX6_isWithin 3 (some Jvm.ClassFile.FieldType.boolean) 3 := ⟨gw_381, List.mem_append_right _ (List.mem_of_getElem? (i := 454) (by decide +kernel)), gw_1, ⟨by decide +kernel, by decide +kernel, by decide +kernel⟩, gw_380⟩
theorem gc_RX3_50 : gCv RX3 50 yX3_columnOf cX3_columnOf 5 (some Jvm.ClassFile.FieldType.int) 1 := ⟨⟨gw_458, gw_455, gw_11, ⟨by decide +kernel, by decide +kernel, by decide +kernel⟩⟩, gw_457, (gwA_mem (by unfold lw_tbl; exact List.mem_append_left _ (List.mem_of_getElem? (i := 7) (by decide +kernel))) rfl)⟩
theorem gc_RX3_54 : gCv RX3 54 yX3_rowOf cX3_rowOf 2 (some Jvm.ClassFile.FieldType.int) 1 := ⟨⟨gw_467, gw_464, gw_11, ⟨by decide +kernel, by decide +kernel, by decide +kernel⟩⟩, gw_466, (gwA_mem (by unfold lw_tbl; exact List.mem_append_left _ (List.mem_of_getElem? (i := 8) (by decide +kernel))) rfl)⟩
theorem gc_RX3_57 : gCi RX3 57 yX5_init cX5_init 4 3 := ⟨⟨gw_470, gw_468, gw_13, ⟨by decide +kernel, by decide +kernel, by decide +kernel⟩⟩, gw_469, rfl⟩
theorem gc_RX6_145 : gCv RX6 145 yX3_placeAnew cX3_placeAnew 4 none 1 := ⟨⟨gw_504, gw_501, gw_11, ⟨by decide +kernel, by decide +kernel, by decide +kernel⟩⟩, gw_502, gw_503⟩
theorem gc_RX3_73 : gCv RX3 73 yX5_takeUp cX5_takeUp 2 none 1 := ⟨⟨gw_508, gw_505, gw_13, ⟨by decide +kernel, by decide +kernel, by decide +kernel⟩⟩, gw_506, gw_507⟩
theorem gc_RX5_38 : gCv RX5 38 yX2_wordOn cX2_wordOn 5 (some (Jvm.ClassFile.FieldType.object "java/lang/String")) 1 := ⟨⟨gw_512, gw_509, gw_16, ⟨by decide +kernel, by decide +kernel, by decide +kernel⟩⟩, gw_510, gw_511⟩
theorem gc_RX3_77 : gCv RX3 77 yX3_listNamed cX3_listNamed 4 none 0 := ⟨⟨gw_516, gw_513, gw_11, ⟨by decide +kernel, by decide +kernel, by decide +kernel⟩⟩, gw_515, (gwA_mem (by unfold lw_tbl; exact List.mem_append_left _ (List.mem_of_getElem? (i := 9) (by decide +kernel))) rfl)⟩
theorem gc_RX3_90 : gCv RX3 90 yX5_isNamed cX5_isNamed 1 (some Jvm.ClassFile.FieldType.boolean) 0 := ⟨⟨gw_520, gw_517, gw_13, ⟨by decide +kernel, by decide +kernel, by decide +kernel⟩⟩, gw_518, gw_519⟩
theorem gc_RX5_42 : gCv RX5 42 yX5_isOnSheet cX5_isOnSheet 1 (some Jvm.ClassFile.FieldType.boolean) 0 := ⟨⟨gw_260, gw_521, gw_13, ⟨by decide +kernel, by decide +kernel, by decide +kernel⟩⟩, gw_258, gw_259⟩
theorem gc_RX3_84 : gCv RX3 84 yX5_standAtFirstFree cX5_standAtFirstFree 3 none 1 := ⟨⟨gw_525, gw_522, gw_13, ⟨by decide +kernel, by decide +kernel, by decide +kernel⟩⟩, gw_523, gw_524⟩
theorem gc_RX5_74 : gCv RX5 74 yX5_mayStand cX5_mayStand 4 (some Jvm.ClassFile.FieldType.boolean) 2 := ⟨⟨gw_280, gw_526, gw_13, ⟨by decide +kernel, by decide +kernel, by decide +kernel⟩⟩, gw_278, gw_279⟩
theorem gc_RX5_78 : gCv RX5 78 yX5_write cX5_write 3 none 2 := ⟨⟨gw_310, gw_527, gw_13, ⟨by decide +kernel, by decide +kernel, by decide +kernel⟩⟩, gw_308, gw_309⟩
theorem gc_RL_22 : gCv RL 22 yX6_place cX6_place 5 (some Jvm.ClassFile.FieldType.int) 3 := ⟨⟨gw_535, gw_532, gw_1, ⟨by decide +kernel, by decide +kernel, by decide +kernel⟩⟩, gw_533, gw_534⟩
theorem gc_RX6_75 : gCi RX6 75 yX2_init cX2_init 4 3 := ⟨⟨gw_541, gw_539, gw_16, ⟨by decide +kernel, by decide +kernel, by decide +kernel⟩⟩, gw_540, rfl⟩
theorem gc_RX6_78 : gCv RX6 78 yX6_showOnAllSheets cX6_showOnAllSheets 4 none 1 := ⟨⟨gw_567, gw_564, gw_1, ⟨by decide +kernel, by decide +kernel, by decide +kernel⟩⟩, gw_566, (gwA_mem (by unfold lw_tbl; exact List.mem_append_left _ (List.mem_of_getElem? (i := 10) (by decide +kernel))) rfl)⟩
theorem gc_RL_33 : gCv RL 33 yX6_spelled cX6_spelled 6 (some Jvm.ClassFile.FieldType.char) 3 := ⟨⟨gw_574, gw_571, gw_1, ⟨by decide +kernel, by decide +kernel, by decide +kernel⟩⟩, gw_572, gw_573⟩
theorem gc_RX6_82 : gCv RX6 82 yX6_placeNumbered cX6_placeNumbered 2 (some (Jvm.ClassFile.FieldType.object "GraticulePress$Place")) 1 := ⟨⟨gw_578, gw_575, gw_1, ⟨by decide +kernel, by decide +kernel, by decide +kernel⟩⟩, gw_577, (gwA_mem (by unfold lw_tbl; exact List.mem_append_left _ (List.mem_of_getElem? (i := 11) (by decide +kernel))) rfl)⟩
theorem gc_RX6_122 : gCv RX6 122 yX2_wordOn cX2_wordOn 5 (some (Jvm.ClassFile.FieldType.object "java/lang/String")) 1 := ⟨⟨gw_512, gw_581, gw_16, ⟨by decide +kernel, by decide +kernel, by decide +kernel⟩⟩, gw_510, gw_511⟩
theorem gc_RX6_126 : gCv RX6 126 yJ0_length_8abf5 cJ0_length_8abf5 1 (some Jvm.ClassFile.FieldType.int) 0 := ⟨⟨gw_284, gw_582, gw_4, ⟨by decide +kernel, by decide +kernel, by decide +kernel⟩⟩, gw_282, gw_283⟩
theorem gc_RX6_129 : gCv RX6 129 yJ0_charAt_5068e cJ0_charAt_5068e 2 (some Jvm.ClassFile.FieldType.char) 1 := ⟨⟨gw_319, gw_583, gw_4, ⟨by decide +kernel, by decide +kernel, by decide +kernel⟩⟩, gw_317, gw_318⟩
theorem gc_RL_125 : gCs RL 125 yL_arePrinted cL_arePrinted 5 (some Jvm.ClassFile.FieldType.boolean) 3 := ⟨⟨gw_586, gw_584, gw_0, ⟨by decide +kernel, by decide +kernel, by decide +kernel⟩⟩, gw_585⟩
theorem gc_RL_64 : gCv RL 64 yX6_printed cX6_printed 6 (some Jvm.ClassFile.FieldType.char) 4 := ⟨⟨gw_593, gw_590, gw_1, ⟨by decide +kernel, by decide +kernel, by decide +kernel⟩⟩, gw_591, gw_592⟩
theorem gc_RX6_201 : gCv RX6 201 yX6_editionNumbered cX6_editionNumbered 2 (some (Jvm.ClassFile.FieldType.object "GraticulePress$Edition")) 1 := ⟨⟨gw_597, gw_594, gw_1, ⟨by decide +kernel, by decide +kernel, by decide +kernel⟩⟩, gw_596, (gwA_mem (by unfold lw_tbl; exact List.mem_append_left _ (List.mem_of_getElem? (i := 12) (by decide +kernel))) rfl)⟩
theorem gc_RX6_167 : gCs RX6 167 yX6_isOnGrid cX6_isOnGrid 2 (some Jvm.ClassFile.FieldType.boolean) 2 := ⟨⟨gw_267, gw_599, gw_1, ⟨by decide +kernel, by decide +kernel, by decide +kernel⟩⟩, gw_266⟩
theorem gc_RX6_207 : gCv RX6 207 yX0_signAt cX0_signAt 4 (some Jvm.ClassFile.FieldType.char) 3 := ⟨⟨gw_604, gw_601, gw_26, ⟨by decide +kernel, by decide +kernel, by decide +kernel⟩⟩, gw_602, gw_603⟩
theorem gc_RX0_22 : gCv RX0 22 yX1_signAt cX1_signAt 3 (some Jvm.ClassFile.FieldType.char) 2 := ⟨⟨gw_306, gw_605, gw_12, ⟨by decide +kernel, by decide +kernel, by decide +kernel⟩⟩, gw_304, gw_305⟩
theorem gc_RL_141 : gCs RL 141 yL_acts cL_acts 9 (some Jvm.ClassFile.FieldType.boolean) 7 := ⟨⟨gw_608, gw_606, gw_0, ⟨by decide +kernel, by decide +kernel, by decide +kernel⟩⟩, gw_607⟩
theorem gc_RL_112 : gCs RL 112 yL_types cL_types 7 (some Jvm.ClassFile.FieldType.boolean) 4 := ⟨⟨gw_611, gw_609, gw_0, ⟨by decide +kernel, by decide +kernel, by decide +kernel⟩⟩, gw_610⟩
theorem gc_RL_10 : gCv RL 10 yX6_letter cX6_letter 2 (some Jvm.ClassFile.FieldType.int) 1 := ⟨⟨gw_618, gw_615, gw_1, ⟨by decide +kernel, by decide +kernel, by decide +kernel⟩⟩, gw_616, gw_617⟩
theorem gc_RX6_54 : gCv RX6 54 yJ4_length_8abf5 cJ4_length_8abf5 1 (some Jvm.ClassFile.FieldType.int) 0 := ⟨⟨gw_623, gw_620, gw_3, ⟨by decide +kernel, by decide +kernel, by decide +kernel⟩⟩, gw_621, gw_622⟩
theorem gc_RX6_63 : gCv RX6 63 yJ4_append_cf468 cJ4_append_cf468 2 (some (Jvm.ClassFile.FieldType.object "java/lang/StringBuilder")) 1 := ⟨⟨gw_631, gw_628, gw_3, ⟨by decide +kernel, by decide +kernel, by decide +kernel⟩⟩, gw_629, gw_630⟩
theorem gc_RJ5_114 : gCs RJ5 114 yJ8_newLength_cabcc cJ8_newLength_cabcc 4 (some Jvm.ClassFile.FieldType.int) 3 := ⟨⟨gw_645, gw_643, gw_18, ⟨by decide +kernel, by decide +kernel, by decide +kernel⟩⟩, gw_644⟩
theorem gc_RJ8_194 : gCs RJ8 194 yJ9_max_7cf53 cJ9_max_7cf53 2 (some Jvm.ClassFile.FieldType.int) 2 := ⟨⟨gw_276, gw_646, gw_19, ⟨by decide +kernel, by decide +kernel, by decide +kernel⟩⟩, gw_275⟩
theorem gc_RJ8_201 : gCs RJ8 201 yJ8_hugeLength_7cf53 cJ8_hugeLength_7cf53 3 (some Jvm.ClassFile.FieldType.int) 2 := ⟨⟨gw_650, gw_648, gw_18, ⟨by decide +kernel, by decide +kernel, by decide +kernel⟩⟩, gw_649⟩
theorem gc_RJ5_108 : gCs RJ5 108 yJ7_copyOf_9075b cJ7_copyOf_9075b 3 (some (Jvm.ClassFile.FieldType.array Jvm.ClassFile.FieldType.byte)) 2 := ⟨⟨gw_654, gw_652, gw_20, ⟨by decide +kernel, by decide +kernel, by decide +kernel⟩⟩, gw_653⟩
theorem gc_RJ7_304 : gCs RJ7 304 yJ9_min_7cf53 cJ9_min_7cf53 2 (some Jvm.ClassFile.FieldType.int) 2 := ⟨⟨gw_664, gw_662, gw_19, ⟨by decide +kernel, by decide +kernel, by decide +kernel⟩⟩, gw_663⟩
theorem gc_RJ5_191 : gCs RJ5 191 yJ1_canEncode_fc78d cJ1_canEncode_fc78d 1 (some Jvm.ClassFile.FieldType.boolean) 1 := ⟨⟨gw_675, gw_673, gw_14, ⟨by decide +kernel, by decide +kernel, by decide +kernel⟩⟩, gw_674⟩
theorem gc_RJ5_125 : gCs RJ5 125 yJ1_inflate_0e8fd cJ1_inflate_0e8fd 5 none 5 := ⟨⟨gw_682, gw_680, gw_14, ⟨by decide +kernel, by decide +kernel, by decide +kernel⟩⟩, gw_681⟩
theorem gc_RJ1_240 : gCs RJ1 240 yJ2_inflate_0e8fd cJ2_inflate_0e8fd 6 none 5 := ⟨⟨gw_685, gw_683, gw_5, ⟨by decide +kernel, by decide +kernel, by decide +kernel⟩⟩, gw_684⟩
theorem gc_RJ2_173 : gCs RJ2 173 yJ2_checkBoundsOffCount_d044e cJ2_checkBoundsOffCount_d044e 3 none 3 := ⟨⟨gw_688, gw_686, gw_5, ⟨by decide +kernel, by decide +kernel, by decide +kernel⟩⟩, gw_687⟩
theorem gc_RJ2_419 : gCs RJ2 419 yJ0_checkBoundsOffCount_cabcc cJ0_checkBoundsOffCount_cabcc 3 (some Jvm.ClassFile.FieldType.int) 3 := ⟨⟨gw_691, gw_689, gw_4, ⟨by decide +kernel, by decide +kernel, by decide +kernel⟩⟩, gw_690⟩
theorem gc_RJ0_1065 : gCs RJ0 1065 yJ3_checkFromIndexSize_8c36e cJ3_checkFromIndexSize_8c36e 4 (some Jvm.ClassFile.FieldType.int) 4 := ⟨⟨gw_694, gw_692, gw_15, ⟨by decide +kernel, by decide +kernel, by decide +kernel⟩⟩, gw_693⟩
theorem gc_RJ2_111 : gCs RJ2 111 yJ2_putChar_b72d1 cJ2_putChar_b72d1 3 none 3 := ⟨⟨gw_697, gw_695, gw_5, ⟨by decide +kernel, by decide +kernel, by decide +kernel⟩⟩, gw_696⟩
theorem gc_RJ5_197 : gCs RJ5 197 yJ2_putCharSB_b72d1 cJ2_putCharSB_b72d1 3 none 3 := ⟨⟨gw_700, gw_698, gw_5, ⟨by decide +kernel, by decide +kernel, by decide +kernel⟩⟩, gw_699⟩
theorem gc_RL_116 : gCs RL 116 yL_names cL_names 5 (some Jvm.ClassFile.FieldType.boolean) 4 := ⟨⟨gw_703, gw_701, gw_0, ⟨by decide +kernel, by decide +kernel, by decide +kernel⟩⟩, gw_702⟩
theorem gc_RL_26 : gCv RL 26 yX6_name cX6_name 3 (some Jvm.ClassFile.FieldType.int) 1 := ⟨⟨gw_710, gw_707, gw_1, ⟨by decide +kernel, by decide +kernel, by decide +kernel⟩⟩, gw_708, gw_709⟩
theorem gc_RX6_88 : gCv RX6 88 yX2_isToldOut cX2_isToldOut 1 (some Jvm.ClassFile.FieldType.boolean) 0 := ⟨⟨gw_715, gw_712, gw_16, ⟨by decide +kernel, by decide +kernel, by decide +kernel⟩⟩, gw_713, gw_714⟩
theorem gc_RX6_96 : gCv RX6 96 yJ4_toString_0e30d cJ4_toString_0e30d 1 (some (Jvm.ClassFile.FieldType.object "java/lang/String")) 0 := ⟨⟨gw_722, gw_719, gw_3, ⟨by decide +kernel, by decide +kernel, by decide +kernel⟩⟩, gw_720, gw_721⟩
theorem gc_RJ4_137 : gCi RJ4 137 yJ0_init_81219 cJ0_init_81219 2 1 := ⟨⟨gw_727, gw_725, gw_4, ⟨by decide +kernel, by decide +kernel, by decide +kernel⟩⟩, gw_726, rfl⟩
theorem gc_RJ0_489 : gCi RJ0 489 yJ0_init_db425 cJ0_init_db425 5 2 := ⟨⟨gw_730, gw_728, gw_4, ⟨by decide +kernel, by decide +kernel, by decide +kernel⟩⟩, gw_729, rfl⟩
theorem gc_RJ0_54 : gCs RJ0 54 yJ7_copyOfRange_39247 cJ7_copyOfRange_39247 3 (some (Jvm.ClassFile.FieldType.array Jvm.ClassFile.FieldType.byte)) 3 := ⟨⟨gw_741, gw_739, gw_20, ⟨by decide +kernel, by decide +kernel, by decide +kernel⟩⟩, gw_740⟩
theorem gc_RJ7_339 : gCs RJ7 339 yJ7_copyOfRangeByte_39247 cJ7_copyOfRangeByte_39247 5 (some (Jvm.ClassFile.FieldType.array Jvm.ClassFile.FieldType.byte)) 3 := ⟨⟨gw_744, gw_742, gw_20, ⟨by decide +kernel, by decide +kernel, by decide +kernel⟩⟩, gw_743⟩
theorem gc_RJ7_343 : gCs RJ7 343 yJ7_checkLength_df160 cJ7_checkLength_df160 2 none 2 := ⟨⟨gw_747, gw_745, gw_20, ⟨by decide +kernel, by decide +kernel, by decide +kernel⟩⟩, gw_746⟩
theorem gc_RJ7_47 : gCi RJ7 47 yJ4_init_da8c8 cJ4_init_da8c8 1 0 := ⟨⟨gw_39, gw_750, gw_3, ⟨by decide +kernel, by decide +kernel, by decide +kernel⟩⟩, gw_38, rfl⟩
theorem gc_RJ7_54 : gCv RJ7 54 yJ4_append_bf812 cJ4_append_bf812 2 (some (Jvm.ClassFile.FieldType.object "java/lang/StringBuilder")) 1 := ⟨⟨gw_754, gw_751, gw_3, ⟨by decide +kernel, by decide +kernel, by decide +kernel⟩⟩, gw_752, gw_753⟩
theorem gc_RJ5_245 : gCs RJ5 245 yJ6_stringSize_0f7a4 cJ6_stringSize_0f7a4 4 (some Jvm.ClassFile.FieldType.int) 1 := ⟨⟨gw_760, gw_758, gw_23, ⟨by decide +kernel, by decide +kernel, by decide +kernel⟩⟩, gw_759⟩
theorem gc_RJ5_248 : gCs RJ5 248 yJ6_getChars_ba4f3 cJ6_getChars_ba4f3 7 (some Jvm.ClassFile.FieldType.int) 3 := ⟨⟨gw_763, gw_761, gw_23, ⟨by decide +kernel, by decide +kernel, by decide +kernel⟩⟩, gw_762⟩
theorem gc_RJ5_251 : gCs RJ5 251 yJ2_getChars_46870 cJ2_getChars_46870 5 (some Jvm.ClassFile.FieldType.int) 4 := ⟨⟨gw_770, gw_768, gw_5, ⟨by decide +kernel, by decide +kernel, by decide +kernel⟩⟩, gw_769⟩
theorem gc_RJ2_96 : gCs RJ2 96 yJ2_checkBoundsBeginEnd_d044e cJ2_checkBoundsBeginEnd_d044e 3 none 3 := ⟨⟨gw_773, gw_771, gw_5, ⟨by decide +kernel, by decide +kernel, by decide +kernel⟩⟩, gw_772⟩
theorem gc_RJ2_241 : gCs RJ2 241 yJ0_checkBoundsBeginEnd_23922 cJ0_checkBoundsBeginEnd_23922 3 none 3 := ⟨⟨gw_776, gw_774, gw_4, ⟨by decide +kernel, by decide +kernel, by decide +kernel⟩⟩, gw_775⟩
theorem gc_RJ0_1062 : gCs RJ0 1062 yJ3_checkFromToIndex_8c36e cJ3_checkFromToIndex_8c36e 4 (some Jvm.ClassFile.FieldType.int) 4 := ⟨⟨gw_779, gw_777, gw_15, ⟨by decide +kernel, by decide +kernel, by decide +kernel⟩⟩, gw_778⟩
theorem gc_RJ2_393 : gCs RJ2 393 yJ2_getChars_ba4f3 cJ2_getChars_ba4f3 7 (some Jvm.ClassFile.FieldType.int) 3 := ⟨⟨gw_782, gw_780, gw_5, ⟨by decide +kernel, by decide +kernel, by decide +kernel⟩⟩, gw_781⟩
theorem gc_RJ7_50 : gCv RJ7 50 yJ4_append_15ec4 cJ4_append_15ec4 2 (some (Jvm.ClassFile.FieldType.object "java/lang/StringBuilder")) 1 := ⟨⟨gw_789, gw_786, gw_3, ⟨by decide +kernel, by decide +kernel, by decide +kernel⟩⟩, gw_787, gw_788⟩
theorem gc_RJ5_226 : gCs RJ5 226 yJ2_putCharsAt_cd4e5 cJ2_putCharsAt_cd4e5 7 (some Jvm.ClassFile.FieldType.int) 6 := ⟨⟨gw_799, gw_797, gw_5, ⟨by decide +kernel, by decide +kernel, by decide +kernel⟩⟩, gw_798⟩
theorem gc_RJ5_32 : gCv RJ5 32 yJ0_length_8abf5 cJ0_length_8abf5 1 (some Jvm.ClassFile.FieldType.int) 0 := ⟨⟨gw_284, gw_800, gw_4, ⟨by decide +kernel, by decide +kernel, by decide +kernel⟩⟩, gw_282, gw_283⟩
theorem gc_RJ5_40 : gCv RJ5 40 yJ0_coder_7d493 cJ0_coder_7d493 1 (some Jvm.ClassFile.FieldType.byte) 0 := ⟨⟨gw_288, gw_809, gw_4, ⟨by decide +kernel, by decide +kernel, by decide +kernel⟩⟩, gw_286, gw_287⟩
theorem gc_RJ5_399 : gCv RJ5 399 yJ0_getBytes_840e7 cJ0_getBytes_840e7 4 none 3 := ⟨⟨gw_813, gw_810, gw_4, ⟨by decide +kernel, by decide +kernel, by decide +kernel⟩⟩, gw_811, gw_812⟩
theorem gc_RJ0_106 : gCs RJ0 106 yJ1_inflate_0e8fd cJ1_inflate_0e8fd 5 none 5 := ⟨⟨gw_682, gw_815, gw_14, ⟨by decide +kernel, by decide +kernel, by decide +kernel⟩⟩, gw_681⟩
theorem gc_RJ7_61 : gCv RJ7 61 yJ4_toString_0e30d cJ4_toString_0e30d 1 (some (Jvm.ClassFile.FieldType.object "java/lang/String")) 0 := ⟨⟨gw_722, gw_816, gw_3, ⟨by decide +kernel, by decide +kernel, by decide +kernel⟩⟩, gw_720, gw_721⟩
theorem gc_RJ0_1051 : gCs RJ0 1051 yJ2_compress_39247 cJ2_compress_39247 6 (some (Jvm.ClassFile.FieldType.array Jvm.ClassFile.FieldType.byte)) 3 := ⟨⟨gw_820, gw_818, gw_5, ⟨by decide +kernel, by decide +kernel, by decide +kernel⟩⟩, gw_819⟩
theorem gc_RJ2_123 : gCs RJ2 123 yJ2_compress_5af95 cJ2_compress_5af95 7 (some Jvm.ClassFile.FieldType.int) 5 := ⟨⟨gw_823, gw_821, gw_5, ⟨by decide +kernel, by decide +kernel, by decide +kernel⟩⟩, gw_822⟩
theorem gc_RJ2_126 : gCs RJ2 126 yJ7_copyOfRange_39247 cJ7_copyOfRange_39247 3 (some (Jvm.ClassFile.FieldType.array Jvm.ClassFile.FieldType.byte)) 3 := ⟨⟨gw_741, gw_824, gw_20, ⟨by decide +kernel, by decide +kernel, by decide +kernel⟩⟩, gw_740⟩
theorem gc_RJ0_47 : gCs RJ0 47 yJ2_coderFromArrayLen_85cad cJ2_coderFromArrayLen_85cad 2 (some Jvm.ClassFile.FieldType.byte) 2 := ⟨⟨gw_827, gw_825, gw_5, ⟨by decide +kernel, by decide +kernel, by decide +kernel⟩⟩, gw_826⟩
theorem gc_RX6_100 : gCi RX6 100 yX4_init cX4_init 3 2 := ⟨⟨gw_841, gw_839, gw_22, ⟨by decide +kernel, by decide +kernel, by decide +kernel⟩⟩, gw_840, rfl⟩
theorem gc_RX6_103 : gCv RX6 103 yX2_tell cX2_tell 2 none 1 := ⟨⟨gw_855, gw_852, gw_16, ⟨by decide +kernel, by decide +kernel, by decide +kernel⟩⟩, gw_853, gw_854⟩
theorem gc_RX6_107 : gCv RX6 107 yJ4_setLength_d00df cJ4_setLength_d00df 2 none 1 := ⟨⟨gw_859, gw_856, gw_3, ⟨by decide +kernel, by decide +kernel, by decide +kernel⟩⟩, gw_857, gw_858⟩
theorem gc_RJ5_131 : gCi RJ5 131 yJx7c733_init_d00df cJx7c733_init_d00df 2 1 := ⟨⟨gw_867, gw_865, gw_24, ⟨by decide +kernel, by decide +kernel, by decide +kernel⟩⟩, gw_866, rfl⟩
theorem gc_RJx7c733_12 : gCi RJx7c733 12 yJ4_init_da8c8 cJ4_init_da8c8 1 0 := ⟨⟨gw_39, gw_869, gw_3, ⟨by decide +kernel, by decide +kernel, by decide +kernel⟩⟩, gw_38, rfl⟩
theorem gc_RJx7c733_15 : gCv RJx7c733 15 yJ4_append_15ec4 cJ4_append_15ec4 2 (some (Jvm.ClassFile.FieldType.object "java/lang/StringBuilder")) 1 := ⟨⟨gw_789, gw_871, gw_3, ⟨by decide +kernel, by decide +kernel, by decide +kernel⟩⟩, gw_787, gw_788⟩
theorem gc_RJx7c733_19 : gCv RJx7c733 19 yJ4_append_bf812 cJ4_append_bf812 2 (some (Jvm.ClassFile.FieldType.object "java/lang/StringBuilder")) 1 := ⟨⟨gw_754, gw_872, gw_3, ⟨by decide +kernel, by decide +kernel, by decide +kernel⟩⟩, gw_752, gw_753⟩
theorem gc_RJx7c733_22 : gCv RJx7c733 22 yJ4_toString_0e30d cJ4_toString_0e30d 1 (some (Jvm.ClassFile.FieldType.object "java/lang/String")) 0 := ⟨⟨gw_722, gw_873, gw_3, ⟨by decide +kernel, by decide +kernel, by decide +kernel⟩⟩, gw_720, gw_721⟩
theorem gc_RJ5_133 : gCs RJ5 133 yJ1_fillNull_b72d1 cJ1_fillNull_b72d1 3 none 3 := ⟨⟨gw_884, gw_882, gw_14, ⟨by decide +kernel, by decide +kernel, by decide +kernel⟩⟩, gw_883⟩
theorem gc_RJ1_236 : gCs RJ1 236 yJ7_fill_eb02e cJ7_fill_eb02e 5 none 4 := ⟨⟨gw_887, gw_885, gw_20, ⟨by decide +kernel, by decide +kernel, by decide +kernel⟩⟩, gw_886⟩
theorem gc_RJ7_13 : gCs RJ7 13 yJ7_rangeCheck_23922 cJ7_rangeCheck_23922 3 none 3 := ⟨⟨gw_890, gw_888, gw_20, ⟨by decide +kernel, by decide +kernel, by decide +kernel⟩⟩, gw_889⟩
theorem gc_RJ7_70 : gCi RJ7 70 yJx00060_init_d00df cJx00060_init_d00df 2 1 := ⟨⟨gw_907, gw_905, gw_25, ⟨by decide +kernel, by decide +kernel, by decide +kernel⟩⟩, gw_906, rfl⟩
theorem gc_RJx00060_12 : gCi RJx00060 12 yJ4_init_da8c8 cJ4_init_da8c8 1 0 := ⟨⟨gw_39, gw_909, gw_3, ⟨by decide +kernel, by decide +kernel, by decide +kernel⟩⟩, gw_38, rfl⟩
theorem gc_RJx00060_15 : gCv RJx00060 15 yJ4_append_15ec4 cJ4_append_15ec4 2 (some (Jvm.ClassFile.FieldType.object "java/lang/StringBuilder")) 1 := ⟨⟨gw_789, gw_911, gw_3, ⟨by decide +kernel, by decide +kernel, by decide +kernel⟩⟩, gw_787, gw_788⟩
theorem gc_RJx00060_19 : gCv RJx00060 19 yJ4_append_bf812 cJ4_append_bf812 2 (some (Jvm.ClassFile.FieldType.object "java/lang/StringBuilder")) 1 := ⟨⟨gw_754, gw_912, gw_3, ⟨by decide +kernel, by decide +kernel, by decide +kernel⟩⟩, gw_752, gw_753⟩
theorem gc_RJx00060_22 : gCv RJx00060 22 yJ4_toString_0e30d cJ4_toString_0e30d 1 (some (Jvm.ClassFile.FieldType.object "java/lang/String")) 0 := ⟨⟨gw_722, gw_913, gw_3, ⟨by decide +kernel, by decide +kernel, by decide +kernel⟩⟩, gw_720, gw_721⟩
theorem gc_RJ5_137 : gCs RJ5 137 yJ2_fillNull_b72d1 cJ2_fillNull_b72d1 3 none 3 := ⟨⟨gw_919, gw_917, gw_5, ⟨by decide +kernel, by decide +kernel, by decide +kernel⟩⟩, gw_918⟩
theorem gc_RJ2_380 : gCs RJ2 380 yJ7_fill_eb02e cJ7_fill_eb02e 5 none 4 := ⟨⟨gw_887, gw_920, gw_20, ⟨by decide +kernel, by decide +kernel, by decide +kernel⟩⟩, gw_886⟩
theorem gc_RX6_111 : gCv RX6 111 yX6_placeAllSheetsAnew cX6_placeAllSheetsAnew 5 (some Jvm.ClassFile.FieldType.int) 1 := ⟨⟨gw_924, gw_921, gw_1, ⟨by decide +kernel, by decide +kernel, by decide +kernel⟩⟩, gw_923, (gwA_mem (by unfold lw_tbl; exact List.mem_append_left _ (List.mem_of_getElem? (i := 13) (by decide +kernel))) rfl)⟩
theorem gc_RX6_220 : gCv RX6 220 yX3_pushedBeside cX3_pushedBeside 5 (some Jvm.ClassFile.FieldType.int) 1 := ⟨⟨gw_928, gw_925, gw_11, ⟨by decide +kernel, by decide +kernel, by decide +kernel⟩⟩, gw_926, gw_927⟩
theorem gc_RX3_110 : gCv RX3 110 yX5_isPushed cX5_isPushed 1 (some Jvm.ClassFile.FieldType.boolean) 0 := ⟨⟨gw_932, gw_929, gw_13, ⟨by decide +kernel, by decide +kernel, by decide +kernel⟩⟩, gw_930, gw_931⟩
theorem gc_RL_37 : gCv RL 37 yX6_pass cX6_pass 2 (some Jvm.ClassFile.FieldType.int) 1 := ⟨⟨gw_939, gw_936, gw_1, ⟨by decide +kernel, by decide +kernel, by decide +kernel⟩⟩, gw_937, gw_938⟩
theorem gc_RL_122 : gCs RL 122 yL_prints cL_prints 9 (some Jvm.ClassFile.FieldType.boolean) 4 := ⟨⟨gw_944, gw_942, gw_0, ⟨by decide +kernel, by decide +kernel, by decide +kernel⟩⟩, gw_943⟩
theorem gc_RL_51 : gCv RL 51 yX6_drawn cX6_drawn 5 (some Jvm.ClassFile.FieldType.char) 3 := ⟨⟨gw_951, gw_948, gw_1, ⟨by decide +kernel, by decide +kernel, by decide +kernel⟩⟩, gw_949, gw_950⟩
theorem gc_RX6_177 : gCv RX6 177 yX1_signAt cX1_signAt 3 (some Jvm.ClassFile.FieldType.char) 2 := ⟨⟨gw_306, gw_953, gw_12, ⟨by decide +kernel, by decide +kernel, by decide +kernel⟩⟩, gw_304, gw_305⟩
theorem gc_RL_60 : gCv RL 60 yX6_print cX6_print 4 (some Jvm.ClassFile.FieldType.int) 0 := ⟨⟨gw_960, gw_957, gw_1, ⟨by decide +kernel, by decide +kernel, by decide +kernel⟩⟩, gw_958, gw_959⟩
theorem gc_RX6_196 : gCi RX6 196 yX0_init cX0_init 1 0 := ⟨⟨gw_965, gw_963, gw_26, ⟨by decide +kernel, by decide +kernel, by decide +kernel⟩⟩, gw_964, rfl⟩
theorem gc_RX6_197 : gCv RX6 197 yX0_keep cX0_keep 4 none 2 := ⟨⟨gw_976, gw_973, gw_26, ⟨by decide +kernel, by decide +kernel, by decide +kernel⟩⟩, gw_974, gw_975⟩
theorem gc_RX0_17 : gCi RX0 17 yX1_init cX1_init 1 0 := ⟨⟨gw_407, gw_977, gw_12, ⟨by decide +kernel, by decide +kernel, by decide +kernel⟩⟩, gw_406, rfl⟩
theorem gc_RX0_18 : gCv RX0 18 yX1_copyFrom cX1_copyFrom 3 none 1 := ⟨⟨gw_981, gw_978, gw_12, ⟨by decide +kernel, by decide +kernel, by decide +kernel⟩⟩, gw_979, gw_980⟩
theorem gc_RL_129 : gCs RL 129 yL_isRow cL_isRow 12 (some Jvm.ClassFile.FieldType.boolean) 6 := ⟨⟨gw_984, gw_982, gw_0, ⟨by decide +kernel, by decide +kernel, by decide +kernel⟩⟩, gw_983⟩
theorem gn_RL_11 : gNw RL 11 10 8 [.null, .null, .null, .null, vi 0, vi 0, vi 0, vi 0] := ⟨RX6, TX6, rfl, gwu_10, gw_27, gw_28, gw_1, tyX6, tyX6_ok, fun j hj => by rcases (show j = 0 ∨ j = 1 ∨ j = 2 ∨ j = 3 ∨ j = 4 ∨ j = 5 ∨ j = 6 ∨ j = 7 by omega) with rfl | rfl | rfl | rfl | rfl | rfl | rfl | rfl <;> rfl⟩
theorem gn_RX6_7 : gNw RX6 7 1 4 [.null, vi 0, vi 0, vi 0] := ⟨RJ4, TJ4, rfl, gwu_1, gw_35, gw_36, gw_3, tyJ4, tyJ4_ok, fun j hj => by rcases (show j = 0 ∨ j = 1 ∨ j = 2 ∨ j = 3 by omega) with rfl | rfl | rfl | rfl <;> rfl⟩
theorem gn_RX6_16 : gNw RX6 16 6 5 [vi 0, vi 0, vi 0, .null, vi 0] := ⟨RX2, TX2, rfl, gwu_6, gw_68, gw_538, gw_16, tyX2, tyX2_ok, fun j hj => by rcases (show j = 0 ∨ j = 1 ∨ j = 2 ∨ j = 3 ∨ j = 4 by omega) with rfl | rfl | rfl | rfl | rfl <;> rfl⟩
theorem ga_RX6_16 : Cond.classLink RX6 16 RX2 ∈ gwA ∧ RX2 ∈ gAo := ⟨gw_68, by decide⟩
theorem gn_RX6_22 : gNw RX6 22 7 9 [.null, .null, vi 0, vi 0, vi 0, .null, vi 0, .null, vi 0] := ⟨RX3, TX3, rfl, gwu_7, gw_70, gw_251, gw_11, tyX3, tyX3_ok, fun j hj => by rcases (show j = 0 ∨ j = 1 ∨ j = 2 ∨ j = 3 ∨ j = 4 ∨ j = 5 ∨ j = 6 ∨ j = 7 ∨ j = 8 by omega) with rfl | rfl | rfl | rfl | rfl | rfl | rfl | rfl | rfl <;> rfl⟩
theorem ga_RX6_22 : Cond.classLink RX6 22 RX3 ∈ gwA ∧ RX3 ∈ gAo := ⟨gw_70, by decide⟩
theorem gn_RX6_28 : gNw RX6 28 4 1 [.null] := ⟨RX0, TX0, rfl, gwu_4, gw_72, gw_962, gw_26, tyX0, tyX0_ok, fun j hj => by rcases (show j = 0 by omega) with rfl <;> rfl⟩
theorem ga_RX6_28 : Cond.classLink RX6 28 RX0 ∈ gwA ∧ RX0 ∈ gAo := ⟨gw_72, by decide⟩
theorem gn_RX3_21 : gNw RX3 21 5 1 [.null] := ⟨RX1, TX1, rfl, gwu_5, gw_403, gw_404, gw_12, tyX1, tyX1_ok, fun j hj => by rcases (show j = 0 by omega) with rfl <;> rfl⟩
theorem ga_RX3_21 : Cond.classLink RX3 21 RX1 ∈ gwA ∧ RX1 ∈ gAo := ⟨gw_403, by decide⟩
theorem gn_RX3_31 : gNw RX3 31 9 7 [vi 0, vi 0, vi 0, .null, .null, vi 0, vi 0] := ⟨RX5, TX5, rfl, gwu_9, gw_414, gw_293, gw_13, tyX5, tyX5_ok, fun j hj => by rcases (show j = 0 ∨ j = 1 ∨ j = 2 ∨ j = 3 ∨ j = 4 ∨ j = 5 ∨ j = 6 by omega) with rfl | rfl | rfl | rfl | rfl | rfl | rfl <;> rfl⟩
theorem ga_RX3_31 : Cond.classLink RX3 31 RX5 ∈ gwA ∧ RX5 ∈ gAo := ⟨gw_414, by decide⟩
theorem gn_RX2_21 : gNw RX2 21 8 2 [vi 0, .null] := ⟨RX4, TX4, rfl, gwu_8, gw_543, gw_718, gw_22, tyX4, tyX4_ok, fun j hj => by rcases (show j = 0 ∨ j = 1 by omega) with rfl | rfl <;> rfl⟩
theorem ga_RX2_21 : Cond.classLink RX2 21 RX4 ∈ gwA ∧ RX4 ∈ gAo := ⟨gw_543, by decide⟩
theorem gn_RX6_94 : gNw RX6 94 8 2 [vi 0, .null] := ⟨RX4, TX4, rfl, gwu_8, gw_717, gw_718, gw_22, tyX4, tyX4_ok, fun j hj => by rcases (show j = 0 ∨ j = 1 by omega) with rfl | rfl <;> rfl⟩
theorem ga_RX6_94 : Cond.classLink RX6 94 RX4 ∈ gwA ∧ RX4 ∈ gAo := ⟨gw_717, by decide⟩
theorem gn_RJ4_18 : gNw RJ4 18 0 4 [.null, vi 0, vi 0, vi 0] := ⟨RJ0, TJ0, rfl, gwu_0, gw_723, gw_724, gw_4, tyJ0, tyJ0_ok, fun j hj => by rcases (show j = 0 ∨ j = 1 ∨ j = 2 ∨ j = 3 by omega) with rfl | rfl | rfl | rfl <;> rfl⟩
theorem gn_RJ7_45 : gNw RJ7 45 1 4 [.null, vi 0, vi 0, vi 0] := ⟨RJ4, TJ4, rfl, gwu_1, gw_749, gw_36, gw_3, tyJ4, tyJ4_ok, fun j hj => by rcases (show j = 0 ∨ j = 1 ∨ j = 2 ∨ j = 3 by omega) with rfl | rfl | rfl | rfl <;> rfl⟩
theorem gn_RJx7c733_10 : gNw RJx7c733 10 1 4 [.null, vi 0, vi 0, vi 0] := ⟨RJ4, TJ4, rfl, gwu_1, gw_868, gw_36, gw_3, tyJ4, tyJ4_ok, fun j hj => by rcases (show j = 0 ∨ j = 1 ∨ j = 2 ∨ j = 3 by omega) with rfl | rfl | rfl | rfl <;> rfl⟩
theorem gn_RJx00060_10 : gNw RJx00060 10 1 4 [.null, vi 0, vi 0, vi 0] := ⟨RJ4, TJ4, rfl, gwu_1, gw_908, gw_36, gw_3, tyJ4, tyJ4_ok, fun j hj => by rcases (show j = 0 ∨ j = 1 ∨ j = 2 ∨ j = 3 by omega) with rfl | rfl | rfl | rfl <;> rfl⟩
theorem gn_RX0_9 : gNw RX0 9 5 1 [.null] := ⟨RX1, TX1, rfl, gwu_5, gw_967, gw_404, gw_12, tyX1, tyX1_ok, fun j hj => by rcases (show j = 0 by omega) with rfl <;> rfl⟩
theorem ga_RX0_9 : Cond.classLink RX0 9 RX1 ∈ gwA ∧ RX1 ∈ gAo := ⟨gw_967, by decide⟩
theorem ga_char : Cond.arrayClass .char ∈ gwA := gw_413
theorem ga_int : Cond.arrayClass .int ∈ gwA := gw_192
theorem ga_byte : Cond.arrayClass .byte ∈ gwA := gw_67
theorem go_RX6 : Cond.methodLink RX6 1 objectInit ∈ gwA := gw_32
theorem go_RJ5 : Cond.methodLink RJ5 3 objectInit ∈ gwA := gw_43
theorem go_RX3 : Cond.methodLink RX3 3 objectInit ∈ gwA := gw_402
theorem go_RX1 : Cond.methodLink RX1 3 objectInit ∈ gwA := gw_408
theorem go_RX5 : Cond.methodLink RX5 3 objectInit ∈ gwA := gw_471
theorem go_RX2 : Cond.methodLink RX2 3 objectInit ∈ gwA := gw_542
theorem go_RJ0 : Cond.methodLink RJ0 1 objectInit ∈ gwA := gw_731
theorem go_RX4 : Cond.methodLink RX4 1 objectInit ∈ gwA := gw_842
theorem go_RX0 : Cond.methodLink RX0 3 objectInit ∈ gwA := gw_966
theorem go_i : Cond.instanceMethod objectInit ∈ gwA := gw_33
theorem go_c : Cond.code objectInit ⟨#[0xb1]⟩ 1 none ∈ gwA := gw_34
theorem gt5_51 : (vx_atS RX6 51 "java/lang/IllegalArgumentException" ["java/lang/RuntimeException", "java/lang/Exception"]).all (fun w => decide (w ∈ lw_tbl) && (goodWord w || gBk w)) = true := by decide +kernel
theorem gt6_51 : (Cond.classLink RX6 47 "java/lang/IllegalArgumentException" :: Cond.initialized "java/lang/IllegalArgumentException" :: vx_atS RX6 51 "java/lang/IllegalArgumentException" ["java/lang/RuntimeException", "java/lang/Exception"]).all vx_ot = true := by decide +kernel
theorem gt_49_51 : gTh RX6 47 49 51 "java/lang/IllegalArgumentException" "the letter is none of a to z" := gTh.of (by decide) gw_382 gw_9 (by decide) gt5_51 gt6_51
theorem gt5_62 : (vx_atS RX6 62 "java/lang/IllegalStateException" ["java/lang/RuntimeException", "java/lang/Exception"]).all (fun w => decide (w ∈ lw_tbl) && (goodWord w || gBk w)) = true := by decide +kernel
theorem gt6_62 : (Cond.classLink RX6 58 "java/lang/IllegalStateException" :: Cond.initialized "java/lang/IllegalStateException" :: vx_atS RX6 62 "java/lang/IllegalStateException" ["java/lang/RuntimeException", "java/lang/Exception"]).all vx_ot = true := by decide +kernel
theorem gt_60_62 : gTh RX6 58 60 62 "java/lang/IllegalStateException" "the word has 8 letters" := gTh.of (by decide) gw_228 gw_10 (by decide) gt5_62 gt6_62
theorem gt_71_51 : gTh RX6 47 71 51 "java/lang/IllegalArgumentException" "length, breadth or rank is out of range" := gTh.of (by decide) gw_382 gw_9 (by decide) gt5_51 gt6_51
theorem gt_73_62 : gTh RX6 58 73 62 "java/lang/IllegalStateException" "there are 14 places" := gTh.of (by decide) gw_228 gw_10 (by decide) gt5_62 gt6_62
theorem gt_86_62 : gTh RX6 58 86 62 "java/lang/IllegalStateException" "nothing is typed" := gTh.of (by decide) gw_228 gw_10 (by decide) gt5_62 gt6_62
theorem gt_92_62 : gTh RX6 58 92 62 "java/lang/IllegalStateException" "the place was told 6 names" := gTh.of (by decide) gw_228 gw_10 (by decide) gt5_62 gt6_62
theorem gt5_119 : (vx_atS RX6 119 "java/lang/IndexOutOfBoundsException" ["java/lang/RuntimeException", "java/lang/Exception"]).all (fun w => decide (w ∈ lw_tbl) && (goodWord w || gBk w)) = true := by decide +kernel
theorem gt6_119 : (Cond.classLink RX6 115 "java/lang/IndexOutOfBoundsException" :: Cond.initialized "java/lang/IndexOutOfBoundsException" :: vx_atS RX6 119 "java/lang/IndexOutOfBoundsException" ["java/lang/RuntimeException", "java/lang/Exception"]).all vx_ot = true := by decide +kernel
theorem gt_117_119 : gTh RX6 115 117 119 "java/lang/IndexOutOfBoundsException" "there is no such letter" := gTh.of (by decide) gw_123 gw_17 (by decide) gt5_119 gt6_119
theorem gt_120_51 : gTh RX6 47 120 51 "java/lang/IllegalArgumentException" "the day is out of range" := gTh.of (by decide) gw_382 gw_9 (by decide) gt5_51 gt6_51
theorem gt_133_51 : gTh RX6 47 133 51 "java/lang/IllegalArgumentException" "days is out of range" := gTh.of (by decide) gw_382 gw_9 (by decide) gt5_51 gt6_51
theorem gt_135_62 : gTh RX6 58 135 62 "java/lang/IllegalStateException" "the day would be above 10000" := gTh.of (by decide) gw_228 gw_10 (by decide) gt5_62 gt6_62
theorem gt_137_51 : gTh RX6 47 137 51 "java/lang/IllegalArgumentException" "length, breadth or kind is out of range" := gTh.of (by decide) gw_382 gw_9 (by decide) gt5_51 gt6_51
theorem gt_139_62 : gTh RX6 58 139 62 "java/lang/IllegalStateException" "there are 4 sheets" := gTh.of (by decide) gw_228 gw_10 (by decide) gt5_62 gt6_62
theorem gt_171_119 : gTh RX6 115 171 119 "java/lang/IndexOutOfBoundsException" "there is no such row or column" := gTh.of (by decide) gw_123 gw_17 (by decide) gt5_119 gt6_119
theorem gt_189_62 : gTh RX6 58 189 62 "java/lang/IllegalStateException" "more than 4 places with a name are on the sheet" := gTh.of (by decide) gw_228 gw_10 (by decide) gt5_62 gt6_62
theorem gt_194_62 : gTh RX6 58 194 62 "java/lang/IllegalStateException" "there are 5 editions" := gTh.of (by decide) gw_228 gw_10 (by decide) gt5_62 gt6_62
theorem gt_205_119 : gTh RX6 115 205 119 "java/lang/IndexOutOfBoundsException" "there is no such sheet, row or column" := gTh.of (by decide) gw_123 gw_17 (by decide) gt5_119 gt6_119
theorem gt_210_119 : gTh RX6 115 210 119 "java/lang/IndexOutOfBoundsException" "there is no such place" := gTh.of (by decide) gw_123 gw_17 (by decide) gt5_119 gt6_119
theorem gt_212_119 : gTh RX6 115 212 119 "java/lang/IndexOutOfBoundsException" "there is no such sheet" := gTh.of (by decide) gw_123 gw_17 (by decide) gt5_119 gt6_119
theorem gt_214_119 : gTh RX6 115 214 119 "java/lang/IndexOutOfBoundsException" "there is no such edition" := gTh.of (by decide) gw_123 gw_17 (by decide) gt5_119 gt6_119
theorem gmx_RX3 : Cond.methodLink RX3 132 Lib.Math.max.name ∈ gwA := gw_274
theorem gmx_RJ8 : Cond.methodLink RJ8 194 Lib.Math.max.name ∈ gwA := gw_646
theorem gmx_s : Cond.static Lib.Math.max.name ∈ gwA := gw_275
theorem gmx_i : Cond.initialized "java/lang/Math" ∈ gwA := gw_19
theorem gmx_c : Cond.code Lib.Math.max.name Lib.Math.max.code 2 (some .int) ∈ gwA := gw_276
theorem gk_RX3_68 : Cond.constantFloat RX3 68 (1017370378 : UInt32) ∈ gwA := gw_459
theorem gk_RX3_69 : Cond.constantFloat RX3 69 (1097859072 : UInt32) ∈ gwA := gw_460
theorem gk_RX3_70 : Cond.constantFloat RX3 70 (1082130432 : UInt32) ∈ gwA := gw_461
theorem gk_RX3_71 : Cond.constantFloat RX3 71 (1077936128 : UInt32) ∈ gwA := gw_462
theorem gk_RX3_72 : Cond.constantFloat RX3 72 (1101004800 : UInt32) ∈ gwA := gw_463
