/-! the fields' types, a new object's fields (printed) -/
/-- a new object's fields -/
def jdf (k : Nat) : Nat → Value := fun f => defaultValue (jTy k f)
/-- the first n fields of a new object -/
def jdl (k n : Nat) : List Value := (List.range n).map (jdf k)
theorem ty0_0 : jTy 0 0 = .object "ChartHouse$Names" := rfl
theorem ty0_1 : jTy 0 1 = .array .int := rfl
theorem ty0_2 : jTy 0 2 = .int := rfl
theorem ty0_3 : jTy 0 3 = .array .int := rfl
theorem ty0_4 : jTy 0 4 = .array .int := rfl
theorem ty0_5 : jTy 0 5 = .array .int := rfl
theorem ty0_6 : jTy 0 6 = .int := rfl
theorem ty0_7 : jTy 0 7 = .array .long := rfl
theorem ty0_8 : jTy 0 8 = .array .long := rfl
theorem ty0_9 : jTy 0 9 = .array .boolean := rfl
theorem ty0_10 : jTy 0 10 = .array .int := rfl
theorem ty0_11 : jTy 0 11 = .array .int := rfl
theorem ty0_12 : jTy 0 12 = .int := rfl
theorem dl0 : jdl 0 13 = [.null, .null, .int 0, .null, .null, .null, .int 0, .null, .null, .null, .null, .null, .int 0] := by decide +kernel
theorem ty1_0 : jTy 1 0 = .array .int := rfl
theorem ty1_1 : jTy 1 1 = .array .int := rfl
theorem ty1_2 : jTy 1 2 = .array .int := rfl
theorem ty1_3 : jTy 1 3 = .array .int := rfl
theorem ty1_4 : jTy 1 4 = .int := rfl
theorem dl1 : jdl 1 5 = [.null, .null, .null, .null, .int 0] := by decide +kernel
theorem ty2_0 : jTy 2 0 = .int := rfl
theorem ty2_1 : jTy 2 1 = .int := rfl
theorem ty2_2 : jTy 2 2 = .int := rfl
theorem ty2_3 : jTy 2 3 = .int := rfl
theorem ty2_4 : jTy 2 4 = .int := rfl
theorem ty2_5 : jTy 2 5 = .int := rfl
theorem ty2_6 : jTy 2 6 = .array .int := rfl
theorem ty2_7 : jTy 2 7 = .int := rfl
theorem ty2_8 : jTy 2 8 = .array .int := rfl
theorem ty2_9 : jTy 2 9 = .array .int := rfl
theorem ty2_10 : jTy 2 10 = .array .int := rfl
theorem ty2_11 : jTy 2 11 = .array .int := rfl
theorem ty2_12 : jTy 2 12 = .int := rfl
theorem ty2_13 : jTy 2 13 = .array .int := rfl
theorem ty2_14 : jTy 2 14 = .array .int := rfl
theorem dl2 : jdl 2 15 = [.int 0, .int 0, .int 0, .int 0, .int 0, .int 0, .null, .int 0, .null, .null, .null, .null, .int 0, .null, .null] := by decide +kernel
theorem ty3_0 : jTy 3 0 = .array .long := rfl
theorem ty3_1 : jTy 3 1 = .array .int := rfl
theorem ty3_2 : jTy 3 2 = .int := rfl
theorem dl3 : jdl 3 3 = [.null, .null, .int 0] := by decide +kernel
theorem ty4_0 : jTy 4 0 = .object "ChartHouse$Tokens" := rfl
theorem ty4_1 : jTy 4 1 = .object "ChartHouse$Plan" := rfl
theorem ty4_2 : jTy 4 2 = .object "ChartHouse$Code" := rfl
theorem ty4_3 : jTy 4 3 = .int := rfl
theorem ty4_4 : jTy 4 4 = .int := rfl
theorem ty4_5 : jTy 4 5 = .int := rfl
theorem ty4_6 : jTy 4 6 = .int := rfl
theorem ty4_7 : jTy 4 7 = .int := rfl
theorem ty4_8 : jTy 4 8 = .int := rfl
theorem ty4_9 : jTy 4 9 = .int := rfl
theorem dl4 : jdl 4 10 = [.null, .null, .null, .int 0, .int 0, .int 0, .int 0, .int 0, .int 0, .int 0] := by decide +kernel
theorem ty5_0 : jTy 5 0 = .object "ChartHouse$Names" := rfl
theorem ty5_1 : jTy 5 1 = .int := rfl
theorem ty5_2 : jTy 5 2 = .object "ChartHouse$Code" := rfl
theorem ty5_3 : jTy 5 3 = .int := rfl
theorem ty5_4 : jTy 5 4 = .array .int := rfl
theorem ty5_5 : jTy 5 5 = .array .int := rfl
theorem ty5_6 : jTy 5 6 = .array .int := rfl
theorem ty5_7 : jTy 5 7 = .array .int := rfl
theorem ty5_8 : jTy 5 8 = .array .int := rfl
theorem ty5_9 : jTy 5 9 = .array .int := rfl
theorem ty5_10 : jTy 5 10 = .array .int := rfl
theorem ty5_11 : jTy 5 11 = .array .int := rfl
theorem ty5_12 : jTy 5 12 = .array .int := rfl
theorem ty5_13 : jTy 5 13 = .array .int := rfl
theorem ty5_14 : jTy 5 14 = .array .int := rfl
theorem ty5_15 : jTy 5 15 = .array .int := rfl
theorem ty5_16 : jTy 5 16 = .array .int := rfl
theorem ty5_17 : jTy 5 17 = .array .int := rfl
theorem dl5 : jdl 5 18 = [.null, .int 0, .null, .int 0, .null, .null, .null, .null, .null, .null, .null, .null, .null, .null, .null, .null, .null, .null] := by decide +kernel
theorem ty6_0 : jTy 6 0 = .array .long := rfl
theorem ty6_1 : jTy 6 1 = .array .int := rfl
theorem ty6_2 : jTy 6 2 = .array .int := rfl
theorem ty6_3 : jTy 6 3 = .array .int := rfl
theorem ty6_4 : jTy 6 4 = .array .long := rfl
theorem ty6_5 : jTy 6 5 = .array .int := rfl
theorem ty6_6 : jTy 6 6 = .int := rfl
theorem dl6 : jdl 6 7 = [.null, .null, .null, .null, .null, .null, .int 0] := by decide +kernel
theorem ty7_0 : jTy 7 0 = .array .int := rfl
theorem ty7_1 : jTy 7 1 = .array .int := rfl
theorem ty7_2 : jTy 7 2 = .array .int := rfl
theorem ty7_3 : jTy 7 3 = .array .int := rfl
theorem ty7_4 : jTy 7 4 = .array .int := rfl
theorem ty7_5 : jTy 7 5 = .array .int := rfl
theorem ty7_6 : jTy 7 6 = .int := rfl
theorem ty7_7 : jTy 7 7 = .boolean := rfl
theorem dl7 : jdl 7 8 = [.null, .null, .null, .null, .null, .null, .int 0, .int 0] := by decide +kernel
theorem ty8_0 : jTy 8 0 = .object "ChartHouse$World" := rfl
theorem ty8_1 : jTy 8 1 = .array .int := rfl
theorem ty8_2 : jTy 8 2 = .array .int := rfl
theorem ty8_3 : jTy 8 3 = .array .int := rfl
theorem ty8_4 : jTy 8 4 = .array .int := rfl
theorem ty8_5 : jTy 8 5 = .array .int := rfl
theorem ty8_6 : jTy 8 6 = .array .int := rfl
theorem ty8_7 : jTy 8 7 = .array .int := rfl
theorem ty8_8 : jTy 8 8 = .array .int := rfl
theorem ty8_9 : jTy 8 9 = .int := rfl
theorem ty8_10 : jTy 8 10 = .int := rfl
theorem ty8_11 : jTy 8 11 = .int := rfl
theorem ty8_12 : jTy 8 12 = .int := rfl
theorem ty8_13 : jTy 8 13 = .array .int := rfl
theorem ty8_14 : jTy 8 14 = .int := rfl
theorem ty8_15 : jTy 8 15 = .int := rfl
theorem dl8 : jdl 8 16 = [.null, .null, .null, .null, .null, .null, .null, .null, .null, .int 0, .int 0, .int 0, .int 0, .null, .int 0, .int 0] := by decide +kernel
theorem ty9_0 : jTy 9 0 = .object "ChartHouse$Plan" := rfl
theorem ty9_1 : jTy 9 1 = .object "ChartHouse$Trace" := rfl
theorem ty9_2 : jTy 9 2 = .array (.object "ChartHouse$Instance") := rfl
theorem ty9_3 : jTy 9 3 = .int := rfl
theorem ty9_4 : jTy 9 4 = .int := rfl
theorem ty9_5 : jTy 9 5 = .int := rfl
theorem ty9_6 : jTy 9 6 = .int := rfl
theorem ty9_7 : jTy 9 7 = .int := rfl
theorem ty9_8 : jTy 9 8 = .int := rfl
theorem ty9_9 : jTy 9 9 = .array .int := rfl
theorem ty9_10 : jTy 9 10 = .int := rfl
theorem ty9_11 : jTy 9 11 = .int := rfl
theorem ty9_12 : jTy 9 12 = .int := rfl
theorem dl9 : jdl 9 13 = [.null, .null, .null, .int 0, .int 0, .int 0, .int 0, .int 0, .int 0, .null, .int 0, .int 0, .int 0] := by decide +kernel
theorem ty10_0 : jTy 10 0 = .array .byte := rfl
theorem ty10_1 : jTy 10 1 = .int := rfl
theorem ty10_2 : jTy 10 2 = .array .byte := rfl
theorem ty10_3 : jTy 10 3 = .int := rfl
theorem ty10_4 : jTy 10 4 = .object "ChartHouse$Tokens" := rfl
theorem ty10_5 : jTy 10 5 = .object "ChartHouse$Parser" := rfl
theorem ty10_6 : jTy 10 6 = .object "ChartHouse$World" := rfl
theorem ty10_7 : jTy 10 7 = .object "ChartHouse$Walker" := rfl
theorem ty10_8 : jTy 10 8 = .object "ChartHouse$Plan" := rfl
theorem ty10_9 : jTy 10 9 = .object "ChartHouse$Plan" := rfl
theorem ty10_10 : jTy 10 10 = .boolean := rfl
theorem ty10_11 : jTy 10 11 = .object "ChartHouse$Chart" := rfl
theorem ty10_12 : jTy 10 12 = .object "ChartHouse$Chart" := rfl
theorem ty10_13 : jTy 10 13 = .boolean := rfl
theorem dl10 : jdl 10 14 = [.null, .int 0, .null, .int 0, .null, .null, .null, .null, .null, .null, .int 0, .null, .null, .int 0] := by decide +kernel
theorem ty11_0 : jTy 11 0 = .object "java/lang/Throwable" := rfl
theorem ty11_1 : jTy 11 1 = .array (.object "java/lang/StackTraceElement") := rfl
theorem ty11_2 : jTy 11 2 = .object "java/util/List" := rfl
theorem ty11_3 : jTy 11 3 = .object "java/lang/String" := rfl
theorem ty11_4 : jTy 11 4 = .object "java/lang/Object" := rfl
theorem ty11_5 : jTy 11 5 = .int := rfl
theorem dl11 : jdl 11 6 = [.null, .null, .null, .null, .null, .int 0] := by decide +kernel
theorem ty12_0 : jTy 12 0 = .int := rfl
theorem ty12_1 : jTy 12 1 = .object "ChartHouseModel$Fault" := rfl
theorem ty12_2 : jTy 12 2 = .int := rfl
theorem ty12_3 : jTy 12 3 = .array .byte := rfl
theorem ty12_4 : jTy 12 4 = .array .int := rfl
theorem ty12_5 : jTy 12 5 = .array .int := rfl
theorem ty12_6 : jTy 12 6 = .array .int := rfl
theorem ty12_7 : jTy 12 7 = .array .int := rfl
theorem ty12_8 : jTy 12 8 = .int := rfl
theorem ty12_9 : jTy 12 9 = .int := rfl
theorem ty12_10 : jTy 12 10 = .array .byte := rfl
theorem ty12_11 : jTy 12 11 = .array .byte := rfl
theorem ty12_12 : jTy 12 12 = .array .byte := rfl
theorem ty12_13 : jTy 12 13 = .int := rfl
theorem ty12_14 : jTy 12 14 = .int := rfl
theorem ty12_15 : jTy 12 15 = .int := rfl
theorem ty12_16 : jTy 12 16 = .int := rfl
theorem ty12_17 : jTy 12 17 = .int := rfl
theorem ty12_18 : jTy 12 18 = .int := rfl
theorem ty12_19 : jTy 12 19 = .int := rfl
theorem ty12_20 : jTy 12 20 = .int := rfl
theorem ty12_21 : jTy 12 21 = .array .int := rfl
theorem ty12_22 : jTy 12 22 = .array .int := rfl
theorem ty12_23 : jTy 12 23 = .array .int := rfl
theorem ty12_24 : jTy 12 24 = .array .int := rfl
theorem ty12_25 : jTy 12 25 = .array .int := rfl
theorem ty12_26 : jTy 12 26 = .array .int := rfl
theorem ty12_27 : jTy 12 27 = .array .int := rfl
theorem ty12_28 : jTy 12 28 = .array .int := rfl
theorem ty12_29 : jTy 12 29 = .int := rfl
theorem ty12_30 : jTy 12 30 = .int := rfl
theorem ty12_31 : jTy 12 31 = .int := rfl
theorem ty12_32 : jTy 12 32 = .int := rfl
theorem ty12_33 : jTy 12 33 = .boolean := rfl
theorem ty12_34 : jTy 12 34 = .int := rfl
theorem ty12_35 : jTy 12 35 = .array .int := rfl
theorem ty12_36 : jTy 12 36 = .int := rfl
theorem ty12_37 : jTy 12 37 = .int := rfl
theorem ty12_38 : jTy 12 38 = .int := rfl
theorem ty12_39 : jTy 12 39 = .int := rfl
theorem ty12_40 : jTy 12 40 = .int := rfl
theorem ty12_41 : jTy 12 41 = .int := rfl
theorem ty12_42 : jTy 12 42 = .array .int := rfl
theorem ty12_43 : jTy 12 43 = .array .int := rfl
theorem ty12_44 : jTy 12 44 = .array .int := rfl
theorem ty12_45 : jTy 12 45 = .array .int := rfl
theorem ty12_46 : jTy 12 46 = .array .int := rfl
theorem ty12_47 : jTy 12 47 = .array .int := rfl
theorem ty12_48 : jTy 12 48 = .array .int := rfl
theorem ty12_49 : jTy 12 49 = .array .int := rfl
theorem ty12_50 : jTy 12 50 = .array .int := rfl
theorem ty12_51 : jTy 12 51 = .array .int := rfl
theorem ty12_52 : jTy 12 52 = .array .int := rfl
theorem ty12_53 : jTy 12 53 = .array .int := rfl
theorem ty12_54 : jTy 12 54 = .array .int := rfl
theorem ty12_55 : jTy 12 55 = .array .int := rfl
theorem ty12_56 : jTy 12 56 = .array .int := rfl
theorem ty12_57 : jTy 12 57 = .array .int := rfl
theorem ty12_58 : jTy 12 58 = .array .int := rfl
theorem ty12_59 : jTy 12 59 = .array .int := rfl
theorem ty12_60 : jTy 12 60 = .array .int := rfl
theorem ty12_61 : jTy 12 61 = .array .int := rfl
theorem ty12_62 : jTy 12 62 = .array .int := rfl
theorem ty12_63 : jTy 12 63 = .array .boolean := rfl
theorem ty12_64 : jTy 12 64 = .int := rfl
theorem ty12_65 : jTy 12 65 = .boolean := rfl
theorem ty12_66 : jTy 12 66 = .boolean := rfl
theorem ty12_67 : jTy 12 67 = .boolean := rfl
theorem ty12_68 : jTy 12 68 = .boolean := rfl
theorem ty12_69 : jTy 12 69 = .int := rfl
theorem ty12_70 : jTy 12 70 = .int := rfl
theorem ty12_71 : jTy 12 71 = .int := rfl
theorem ty12_72 : jTy 12 72 = .int := rfl
theorem ty12_73 : jTy 12 73 = .int := rfl
theorem ty12_74 : jTy 12 74 = .int := rfl
theorem ty12_75 : jTy 12 75 = .array .int := rfl
theorem ty12_76 : jTy 12 76 = .array .int := rfl
theorem ty12_77 : jTy 12 77 = .array .int := rfl
theorem ty12_78 : jTy 12 78 = .array .int := rfl
theorem ty12_79 : jTy 12 79 = .array .int := rfl
theorem ty12_80 : jTy 12 80 = .int := rfl
theorem ty12_81 : jTy 12 81 = .int := rfl
theorem ty12_82 : jTy 12 82 = .int := rfl
theorem ty12_83 : jTy 12 83 = .boolean := rfl
theorem ty12_84 : jTy 12 84 = .int := rfl
theorem ty12_85 : jTy 12 85 = .int := rfl
theorem ty12_86 : jTy 12 86 = .int := rfl
theorem ty12_87 : jTy 12 87 = .int := rfl
theorem ty12_88 : jTy 12 88 = .int := rfl
theorem ty12_89 : jTy 12 89 = .array .int := rfl
theorem ty12_90 : jTy 12 90 = .array .int := rfl
theorem ty12_91 : jTy 12 91 = .array .int := rfl
theorem ty12_92 : jTy 12 92 = .array .int := rfl
theorem ty12_93 : jTy 12 93 = .array .int := rfl
theorem ty12_94 : jTy 12 94 = .array .int := rfl
theorem ty12_95 : jTy 12 95 = .array .int := rfl
theorem ty12_96 : jTy 12 96 = .array .int := rfl
theorem ty12_97 : jTy 12 97 = .array .boolean := rfl
theorem ty12_98 : jTy 12 98 = .array .boolean := rfl
theorem ty12_99 : jTy 12 99 = .array .int := rfl
theorem ty12_100 : jTy 12 100 = .array .int := rfl
theorem dl12 : jdl 12 101 = [.int 0, .null, .int 0, .null, .null, .null, .null, .null, .int 0, .int 0, .null, .null, .null, .int 0, .int 0, .int 0, .int 0, .int 0, .int 0, .int 0, .int 0, .null, .null, .null, .null, .null, .null, .null, .null, .int 0, .int 0, .int 0, .int 0, .int 0, .int 0, .null, .int 0, .int 0, .int 0, .int 0, .int 0, .int 0, .null, .null, .null, .null, .null, .null, .null, .null, .null, .null, .null, .null, .null, .null, .null, .null, .null, .null, .null, .null, .null, .null, .int 0, .int 0, .int 0, .int 0, .int 0, .int 0, .int 0, .int 0, .int 0, .int 0, .int 0, .null, .null, .null, .null, .null, .int 0, .int 0, .int 0, .int 0, .int 0, .int 0, .int 0, .int 0, .int 0, .null, .null, .null, .null, .null, .null, .null, .null, .null, .null, .null, .null] := by decide +kernel
