/-! part 19: the methods by number (by wip/whole/elem.py) -/
set_option maxRecDepth 20000 in
theorem am_my_0 : am_ms[0]? = some (⟨"DogNotary", "<init>", "()V"⟩, prog_1_method_1_code, 2, none, 10, 1, 3, 61) := rfl
set_option maxRecDepth 20000 in
theorem am_my_1 : am_ms[1]? = some (⟨"DogNotary$Told", "<init>", "()V"⟩, prog_11_method_1_code, 2, none, 8, 1, 2, 40) := rfl
set_option maxRecDepth 20000 in
theorem am_my_2 : am_ms[2]? = some (⟨"DogNotary$Fell", "<init>", "()V"⟩, prog_5_method_1_code, 1, none, 3, 1, 1, 20) := rfl
set_option maxRecDepth 20000 in
theorem am_my_3 : am_ms[3]? = some (⟨"DogNotary$Fell", "clear", "()V"⟩, prog_5_method_2_code, 1, none, 3, 1, 0, 0) := rfl
set_option maxRecDepth 20000 in
theorem am_my_4 : am_ms[4]? = some (⟨"DogNotary$Drive", "<init>", "()V"⟩, prog_4_method_1_code, 1, none, 2, 1, 1, 20) := rfl
set_option maxRecDepth 20000 in
theorem am_my_5 : am_ms[5]? = some (⟨"DogNotary$Book", "<init>", "()V"⟩, prog_2_method_1_code, 1, none, 0, 1, 1, 20) := rfl
set_option maxRecDepth 20000 in
theorem am_my_6 : am_ms[6]? = some (⟨"DogNotary$Log", "<init>", "()V"⟩, prog_8_method_1_code, 1, none, 5, 1, 1, 20) := rfl
set_option maxRecDepth 20000 in
theorem am_my_7 : am_ms[7]? = some (⟨"DogNotary$Reader", "<init>", "()V"⟩, prog_10_method_1_code, 1, none, 7, 1, 2, 40) := rfl
set_option maxRecDepth 20000 in
theorem am_my_8 : am_ms[8]? = some (⟨"DogNotary$Flock", "<init>", "()V"⟩, prog_6_method_1_code, 1, none, 4, 1, 2, 40) := rfl
set_option maxRecDepth 20000 in
theorem am_my_9 : am_ms[9]? = some (⟨"DogNotary$Walk", "<init>", "()V"⟩, prog_12_method_1_code, 1, none, 9, 1, 1, 20) := rfl
set_option maxRecDepth 20000 in
theorem am_my_10 : am_ms[10]? = some (⟨"DogNotary$Chase", "<init>", "()V"⟩, prog_3_method_1_code, 1, none, 1, 1, 1, 20) := rfl
set_option maxRecDepth 20000 in
theorem am_my_11 : am_ms[11]? = some (⟨"DogNotary$Notaries", "<init>", "()V"⟩, prog_9_method_1_code, 1, none, 6, 1, 1, 20) := rfl
set_option maxRecDepth 20000 in
theorem am_my_12 : am_ms[12]? = some (⟨"DogNotary", "feed", "(IIIII)I"⟩, prog_1_method_2_code, 6, (some .int), 10, 6, 1, 22) := rfl
set_option maxRecDepth 20000 in
theorem am_my_13 : am_ms[13]? = some (⟨"DogNotary$Told", "append", "(I)V"⟩, prog_11_method_3_code, 3, none, 8, 2, 0, 0) := rfl
set_option maxRecDepth 20000 in
theorem am_my_14 : am_ms[14]? = some (⟨"DogNotary", "end", "(I)I"⟩, prog_1_method_3_code, 2, (some .int), 10, 2, 0, 0) := rfl
set_option maxRecDepth 20000 in
theorem am_my_15 : am_ms[15]? = some (⟨"DogNotary", "text", "(II)I"⟩, prog_1_method_4_code, 6, (some .int), 10, 3, 9, 200) := rfl
set_option maxRecDepth 20000 in
theorem am_my_16 : am_ms[16]? = some (⟨"DogNotary", "numberOfText", "(II)I"⟩, prog_1_method_5_code, 3, (some .int), 10, 3, 1, 22) := rfl
set_option maxRecDepth 20000 in
theorem am_my_17 : am_ms[17]? = some (⟨"DogNotary$Told", "has", "(II)Z"⟩, prog_11_method_4_code, 3, (some .boolean), 8, 3, 0, 0) := rfl
set_option maxRecDepth 20000 in
theorem am_my_18 : am_ms[18]? = some (⟨"DogNotary$Reader", "reads", "([BII)Z"⟩, prog_10_method_2_code, 5, (some .boolean), 7, 4, 8, 176) := rfl
set_option maxRecDepth 20000 in
theorem am_my_19 : am_ms[19]? = some (⟨"DogNotary$Reader", "clearDrafts", "()V"⟩, prog_10_method_3_code, 1, none, 7, 1, 1, 20) := rfl
set_option maxRecDepth 20000 in
theorem am_my_20 : am_ms[20]? = some (⟨"DogNotary$Book", "clear", "()V"⟩, prog_2_method_2_code, 1, none, 0, 1, 0, 0) := rfl
set_option maxRecDepth 20000 in
theorem am_my_21 : am_ms[21]? = some (⟨"DogNotary$Reader", "readToken", "()V"⟩, prog_10_method_12_code, 1, none, 7, 1, 2, 40) := rfl
set_option maxRecDepth 20000 in
theorem am_my_22 : am_ms[22]? = some (⟨"DogNotary$Reader", "isLetter", "(B)Z"⟩, prog_10_method_13_code, 1, (some .boolean), 7, 1, 0, 0) := rfl
set_option maxRecDepth 20000 in
theorem am_my_23 : am_ms[23]? = some (⟨"DogNotary$Reader", "readWord", "()V"⟩, prog_10_method_15_code, 1, none, 7, 1, 1, 20) := rfl
set_option maxRecDepth 20000 in
theorem am_my_24 : am_ms[24]? = some (⟨"DogNotary$Reader", "isDigit", "(B)Z"⟩, prog_10_method_14_code, 1, (some .boolean), 7, 1, 0, 0) := rfl
set_option maxRecDepth 20000 in
theorem am_my_25 : am_ms[25]? = some (⟨"DogNotary$Reader", "readNumber", "()V"⟩, prog_10_method_16_code, 1, none, 7, 1, 1, 20) := rfl
set_option maxRecDepth 20000 in
theorem am_my_26 : am_ms[26]? = some (⟨"DogNotary$Reader", "readLine", "(I)V"⟩, prog_10_method_4_code, 4, none, 7, 2, 7, 153) := rfl
set_option maxRecDepth 20000 in
theorem am_my_27 : am_ms[27]? = some (⟨"DogNotary$Reader", "lineAt", "(I)LDogNotary$Line;"⟩, prog_10_method_5_code, 6, (some (.object "DogNotary$Line")), 7, 2, 6, 128) := rfl
set_option maxRecDepth 20000 in
theorem am_my_28 : am_ms[28]? = some (⟨"DogNotary$Reader", "isWord", "(Ljava/lang/String;)Z"⟩, prog_10_method_6_code, 3, (some .boolean), 7, 2, 5, 106) := rfl
set_option maxRecDepth 20000 in
theorem am_my_29 : am_ms[29]? = some (⟨"java/lang/String", "length", "()I"⟩, prog_19_method_54_code, 1, (some .int), 17, 1, 1, 20) := rfl
set_option maxRecDepth 20000 in
theorem am_my_30 : am_ms[30]? = some (⟨"java/lang/String", "coder", "()B"⟩, prog_19_method_152_code, 1, (some .byte), 17, 1, 0, 0) := rfl
set_option maxRecDepth 20000 in
theorem am_my_31 : am_ms[31]? = some (⟨"java/lang/String", "charAt", "(I)C"⟩, prog_19_method_56_code, 2, (some .char), 17, 2, 4, 85) := rfl
set_option maxRecDepth 20000 in
theorem am_my_32 : am_ms[32]? = some (⟨"java/lang/String", "isLatin1", "()Z"⟩, prog_19_method_154_code, 1, (some .boolean), 17, 1, 0, 0) := rfl
set_option maxRecDepth 20000 in
theorem am_my_33 : am_ms[33]? = some (⟨"java/lang/StringLatin1", "charAt", "([BI)C"⟩, prog_20_method_2_code, 2, (some .char), 18, 2, 2, 43) := rfl
set_option maxRecDepth 20000 in
theorem am_my_34 : am_ms[34]? = some (⟨"java/lang/String", "checkIndex", "(II)V"⟩, prog_19_method_155_code, 2, none, 17, 2, 1, 22) := rfl
set_option maxRecDepth 20000 in
theorem am_my_35 : am_ms[35]? = some (⟨"jdk/internal/util/Preconditions", "checkIndex", "(IILjava/util/function/BiFunction;)I"⟩, prog_24_method_11_code, 3, (some .int), 21, 3, 0, 0) := rfl
set_option maxRecDepth 20000 in
theorem am_my_36 : am_ms[36]? = some (⟨"java/lang/StringUTF16", "charAt", "([BI)C"⟩, prog_21_method_83_code, 2, (some .char), 19, 2, 3, 64) := rfl
set_option maxRecDepth 20000 in
theorem am_my_37 : am_ms[37]? = some (⟨"java/lang/StringUTF16", "checkIndex", "(I[B)V"⟩, prog_21_method_91_code, 2, none, 19, 2, 2, 43) := rfl
set_option maxRecDepth 20000 in
theorem am_my_38 : am_ms[38]? = some (⟨"java/lang/StringUTF16", "length", "([B)I"⟩, prog_21_method_6_code, 1, (some .int), 19, 1, 0, 0) := rfl
set_option maxRecDepth 20000 in
theorem am_my_39 : am_ms[39]? = some (⟨"java/lang/StringUTF16", "getChar", "([BI)C"⟩, prog_21_method_5_code, 2, (some .char), 19, 2, 1, 20) := rfl
set_option maxRecDepth 20000 in
theorem am_my_40 : am_ms[40]? = some (⟨"DogNotary$Reader", "breakOff", "()V"⟩, prog_10_method_11_code, 1, none, 7, 1, 0, 0) := rfl
set_option maxRecDepth 20000 in
theorem am_my_41 : am_ms[41]? = some (⟨"DogNotary$Reader", "isFull", "(LDogNotary$Line;)Z"⟩, prog_10_method_7_code, 2, (some .boolean), 7, 2, 1, 21) := rfl
set_option maxRecDepth 20000 in
theorem am_my_42 : am_ms[42]? = some (⟨"DogNotary$Book", "isFull", "(I)Z"⟩, prog_2_method_5_code, 2, (some .boolean), 0, 2, 0, 0) := rfl
set_option maxRecDepth 20000 in
theorem am_my_43 : am_ms[43]? = some (⟨"DogNotary$Reader", "note", "(II)V"⟩, prog_10_method_10_code, 3, none, 7, 3, 0, 0) := rfl
set_option maxRecDepth 20000 in
theorem am_my_44 : am_ms[44]? = some (⟨"DogNotary$Reader", "canBe", "(C)Z"⟩, prog_10_method_8_code, 2, (some .boolean), 7, 2, 0, 0) := rfl
set_option maxRecDepth 20000 in
theorem am_my_45 : am_ms[45]? = some (⟨"DogNotary$Reader", "keep", "(LDogNotary$Line;)V"⟩, prog_10_method_9_code, 2, none, 7, 2, 2, 45) := rfl
set_option maxRecDepth 20000 in
theorem am_my_46 : am_ms[46]? = some (⟨"DogNotary$Fell", "keep", "(I[I)V"⟩, prog_5_method_6_code, 4, none, 3, 3, 1, 22) := rfl
set_option maxRecDepth 20000 in
theorem am_my_47 : am_ms[47]? = some (⟨"DogNotary$Fell", "addBeast", "(II)V"⟩, prog_5_method_7_code, 3, none, 3, 3, 0, 0) := rfl
set_option maxRecDepth 20000 in
theorem am_my_48 : am_ms[48]? = some (⟨"DogNotary$Drive", "keep", "(I[I)V"⟩, prog_4_method_3_code, 3, none, 2, 3, 0, 0) := rfl
set_option maxRecDepth 20000 in
theorem am_my_49 : am_ms[49]? = some (⟨"DogNotary$Book", "keep", "(I[I)V"⟩, prog_2_method_4_code, 3, none, 0, 3, 0, 0) := rfl
set_option maxRecDepth 20000 in
theorem am_my_50 : am_ms[50]? = some (⟨"DogNotary$Log", "keep", "(I[I)V"⟩, prog_8_method_3_code, 3, none, 5, 3, 0, 0) := rfl
set_option maxRecDepth 20000 in
theorem am_my_51 : am_ms[51]? = some (⟨"DogNotary$Fell", "flaw", "()I"⟩, prog_5_method_8_code, 4, (some .int), 3, 1, 1, 22) := rfl
set_option maxRecDepth 20000 in
theorem am_my_52 : am_ms[52]? = some (⟨"DogNotary$Fell", "isInside", "(I)Z"⟩, prog_5_method_9_code, 2, (some .boolean), 3, 2, 0, 0) := rfl
set_option maxRecDepth 20000 in
theorem am_my_53 : am_ms[53]? = some (⟨"DogNotary$Fell", "isWall", "(I)Z"⟩, prog_5_method_10_code, 2, (some .boolean), 3, 2, 0, 0) := rfl
set_option maxRecDepth 20000 in
theorem am_my_54 : am_ms[54]? = some (⟨"DogNotary$Fell", "beastAt", "(I)I"⟩, prog_5_method_11_code, 3, (some .int), 3, 2, 0, 0) := rfl
set_option maxRecDepth 20000 in
theorem am_my_55 : am_ms[55]? = some (⟨"DogNotary$Told", "keep", "(LDogNotary$Reader;II)V"⟩, prog_11_method_5_code, 4, none, 8, 4, 2, 50) := rfl
set_option maxRecDepth 20000 in
theorem am_my_56 : am_ms[56]? = some (⟨"DogNotary$Fell", "copy", "(LDogNotary$Fell;)V"⟩, prog_5_method_3_code, 2, none, 3, 2, 1, 29) := rfl
set_option maxRecDepth 20000 in
theorem am_my_57 : am_ms[57]? = some (⟨"DogNotary$Drive", "copy", "(LDogNotary$Drive;)V"⟩, prog_4_method_2_code, 2, none, 2, 2, 1, 29) := rfl
set_option maxRecDepth 20000 in
theorem am_my_58 : am_ms[58]? = some (⟨"DogNotary$Book", "copy", "(LDogNotary$Book;)V"⟩, prog_2_method_3_code, 2, none, 0, 2, 1, 29) := rfl
set_option maxRecDepth 20000 in
theorem am_my_59 : am_ms[59]? = some (⟨"DogNotary$Log", "copy", "(LDogNotary$Log;)V"⟩, prog_8_method_2_code, 2, none, 5, 2, 1, 29) := rfl
set_option maxRecDepth 20000 in
theorem am_my_60 : am_ms[60]? = some (⟨"DogNotary", "fault", "(I)I"⟩, prog_1_method_6_code, 2, (some .int), 10, 2, 0, 0) := rfl
set_option maxRecDepth 20000 in
theorem am_my_61 : am_ms[61]? = some (⟨"DogNotary", "count", "(I)I"⟩, prog_1_method_7_code, 2, (some .int), 10, 2, 0, 0) := rfl
set_option maxRecDepth 20000 in
theorem am_my_62 : am_ms[62]? = some (⟨"DogNotary", "image", "(I)Z"⟩, prog_1_method_8_code, 2, (some .boolean), 10, 2, 3, 72) := rfl
set_option maxRecDepth 20000 in
theorem am_my_63 : am_ms[63]? = some (⟨"DogNotary$Told", "copy", "(LDogNotary$Told;)V"⟩, prog_11_method_2_code, 3, none, 8, 2, 2, 50) := rfl
set_option maxRecDepth 20000 in
theorem am_my_64 : am_ms[64]? = some (⟨"DogNotary", "again", "(I)Z"⟩, prog_1_method_9_code, 2, (some .boolean), 10, 2, 3, 72) := rfl
set_option maxRecDepth 20000 in
theorem am_my_65 : am_ms[65]? = some (⟨"DogNotary", "fell", "(II)I"⟩, prog_1_method_10_code, 3, (some .int), 10, 3, 3, 64) := rfl
set_option maxRecDepth 20000 in
theorem am_my_66 : am_ms[66]? = some (⟨"DogNotary$Fell", "answer", "(I)I"⟩, prog_5_method_16_code, 2, (some .int), 3, 2, 2, 43) := rfl
set_option maxRecDepth 20000 in
theorem am_my_67 : am_ms[67]? = some (⟨"DogNotary$Fell", "numberOf", "(I)I"⟩, prog_5_method_14_code, 2, (some .int), 3, 2, 0, 0) := rfl
set_option maxRecDepth 20000 in
theorem am_my_68 : am_ms[68]? = some (⟨"DogNotary$Fell", "answerOfOne", "(I)I"⟩, prog_5_method_17_code, 3, (some .int), 3, 2, 1, 21) := rfl
set_option maxRecDepth 20000 in
theorem am_my_69 : am_ms[69]? = some (⟨"DogNotary$Fell", "cellOf", "(I)I"⟩, prog_5_method_15_code, 2, (some .int), 3, 2, 0, 0) := rfl
set_option maxRecDepth 20000 in
theorem am_my_70 : am_ms[70]? = some (⟨"DogNotary", "shy", "(II)I"⟩, prog_1_method_12_code, 4, (some .int), 10, 3, 4, 90) := rfl
set_option maxRecDepth 20000 in
theorem am_my_71 : am_ms[71]? = some (⟨"DogNotary", "hasBeast", "(II)Z"⟩, prog_1_method_11_code, 3, (some .boolean), 10, 3, 1, 22) := rfl
set_option maxRecDepth 20000 in
theorem am_my_72 : am_ms[72]? = some (⟨"DogNotary$Flock", "begin", "(LDogNotary$Fell;)V"⟩, prog_6_method_2_code, 2, none, 4, 2, 1, 29) := rfl
set_option maxRecDepth 20000 in
theorem am_my_73 : am_ms[73]? = some (⟨"java/util/Arrays", "fill", "([II)V"⟩, prog_23_method_103_code, 4, none, 20, 2, 0, 0) := rfl
set_option maxRecDepth 20000 in
theorem am_my_74 : am_ms[74]? = some (⟨"DogNotary$Flock", "goes", "(I)Z"⟩, prog_6_method_10_code, 3, (some .boolean), 4, 2, 3, 68) := rfl
set_option maxRecDepth 20000 in
theorem am_my_75 : am_ms[75]? = some (⟨"DogNotary$Flock", "isDriven", "(I)Z"⟩, prog_6_method_6_code, 2, (some .boolean), 4, 2, 2, 42) := rfl
set_option maxRecDepth 20000 in
theorem am_my_76 : am_ms[76]? = some (⟨"DogNotary$Flock", "isPenned", "(I)Z"⟩, prog_6_method_4_code, 2, (some .boolean), 4, 2, 0, 0) := rfl
set_option maxRecDepth 20000 in
theorem am_my_77 : am_ms[77]? = some (⟨"DogNotary$Flock", "apart", "(II)I"⟩, prog_6_method_5_code, 2, (some .int), 4, 2, 1, 21) := rfl
set_option maxRecDepth 20000 in
theorem am_my_78 : am_ms[78]? = some (⟨"DogNotary$Flock", "wayOpen", "(I)I"⟩, prog_6_method_8_code, 7, (some .int), 4, 2, 2, 42) := rfl
set_option maxRecDepth 20000 in
theorem am_my_79 : am_ms[79]? = some (⟨"DogNotary$Fell", "next", "(II)I"⟩, prog_5_method_13_code, 6, (some .int), 3, 3, 0, 0) := rfl
set_option maxRecDepth 20000 in
theorem am_my_80 : am_ms[80]? = some (⟨"DogNotary$Flock", "isBeasts", "(I)Z"⟩, prog_6_method_9_code, 3, (some .boolean), 4, 2, 0, 0) := rfl
set_option maxRecDepth 20000 in
theorem am_my_81 : am_ms[81]? = some (⟨"DogNotary$Flock", "step", "(II)V"⟩, prog_6_method_11_code, 3, none, 4, 3, 1, 25) := rfl
set_option maxRecDepth 20000 in
theorem am_my_82 : am_ms[82]? = some (⟨"DogNotary", "driven", "(III)I"⟩, prog_1_method_13_code, 4, (some .int), 10, 4, 6, 138) := rfl
set_option maxRecDepth 20000 in
theorem am_my_83 : am_ms[83]? = some (⟨"DogNotary", "seek", "(II)V"⟩, prog_1_method_14_code, 3, none, 10, 3, 5, 116) := rfl
set_option maxRecDepth 20000 in
theorem am_my_84 : am_ms[84]? = some (⟨"DogNotary$Fell", "leaveAlone", "(I)V"⟩, prog_5_method_4_code, 2, none, 3, 2, 0, 0) := rfl
set_option maxRecDepth 20000 in
theorem am_my_85 : am_ms[85]? = some (⟨"DogNotary$Chase", "seek", "(LDogNotary$Flock;)V"⟩, prog_3_method_2_code, 7, none, 1, 2, 4, 90) := rfl
set_option maxRecDepth 20000 in
theorem am_my_86 : am_ms[86]? = some (⟨"java/util/Arrays", "fill", "([JJ)V"⟩, prog_23_method_101_code, 5, none, 20, 2, 0, 0) := rfl
set_option maxRecDepth 20000 in
theorem am_my_87 : am_ms[87]? = some (⟨"DogNotary$Chase", "goOn", "(LDogNotary$Flock;II)V"⟩, prog_3_method_3_code, 6, none, 1, 4, 2, 47) := rfl
set_option maxRecDepth 20000 in
theorem am_my_88 : am_ms[88]? = some (⟨"DogNotary$Flock", "dogGoes", "(I)Z"⟩, prog_6_method_14_code, 3, (some .boolean), 4, 2, 1, 25) := rfl
set_option maxRecDepth 20000 in
theorem am_my_89 : am_ms[89]? = some (⟨"DogNotary$Chase", "put", "(IIII)V"⟩, prog_3_method_4_code, 5, none, 1, 5, 0, 0) := rfl
set_option maxRecDepth 20000 in
theorem am_my_90 : am_ms[90]? = some (⟨"java/lang/Long", "bitCount", "(J)I"⟩, prog_17_method_50_code, 2, (some .int), 14, 1, 0, 0) := rfl
set_option maxRecDepth 20000 in
theorem am_my_91 : am_ms[91]? = some (⟨"DogNotary", "heard", "(IIIZ)J"⟩, prog_1_method_15_code, 5, (some .long), 10, 5, 6, 138) := rfl
set_option maxRecDepth 20000 in
theorem am_my_92 : am_ms[92]? = some (⟨"DogNotary", "leastTerms", "(JJZ)J"⟩, prog_1_method_58_code, 12, (some .long), 10, 3, 0, 0) := rfl
set_option maxRecDepth 20000 in
theorem am_my_93 : am_ms[93]? = some (⟨"DogNotary", "safe", "(IZ)I"⟩, prog_1_method_16_code, 7, (some .int), 10, 3, 5, 111) := rfl
set_option maxRecDepth 20000 in
theorem am_my_94 : am_ms[94]? = some (⟨"DogNotary$Fell", "isPlaceForDog", "(I)Z"⟩, prog_5_method_12_code, 2, (some .boolean), 3, 2, 1, 22) := rfl
set_option maxRecDepth 20000 in
theorem am_my_95 : am_ms[95]? = some (⟨"DogNotary$Flock", "wouldGo", "()I"⟩, prog_6_method_13_code, 3, (some .int), 4, 1, 4, 89) := rfl
set_option maxRecDepth 20000 in
theorem am_my_96 : am_ms[96]? = some (⟨"DogNotary$Flock", "wayDriven", "(I)I"⟩, prog_6_method_7_code, 2, (some .int), 4, 2, 3, 68) := rfl
set_option maxRecDepth 20000 in
theorem am_my_97 : am_ms[97]? = some (⟨"DogNotary", "nearest", "(IIZ)I"⟩, prog_1_method_17_code, 10, (some .int), 10, 4, 2, 51) := rfl
set_option maxRecDepth 20000 in
theorem am_my_98 : am_ms[98]? = some (⟨"DogNotary$Walk", "from", "(LDogNotary$Fell;I)V"⟩, prog_12_method_2_code, 7, none, 9, 3, 1, 25) := rfl
set_option maxRecDepth 20000 in
theorem am_my_99 : am_ms[99]? = some (⟨"DogNotary", "middle", "(IZ)I"⟩, prog_1_method_18_code, 8, (some .int), 10, 3, 3, 65) := rfl
set_option maxRecDepth 20000 in
theorem am_my_100 : am_ms[100]? = some (⟨"DogNotary$Flock", "stepsTo", "(I)I"⟩, prog_6_method_17_code, 4, (some .int), 4, 2, 2, 42) := rfl
set_option maxRecDepth 20000 in
theorem am_my_101 : am_ms[101]? = some (⟨"DogNotary", "post", "(IIIZ)I"⟩, prog_1_method_19_code, 9, (some .int), 10, 5, 4, 89) := rfl
set_option maxRecDepth 20000 in
theorem am_my_102 : am_ms[102]? = some (⟨"DogNotary", "cornered", "(I)I"⟩, prog_1_method_20_code, 5, (some .int), 10, 2, 5, 111) := rfl
set_option maxRecDepth 20000 in
theorem am_my_103 : am_ms[103]? = some (⟨"DogNotary", "lined", "(II)I"⟩, prog_1_method_21_code, 5, (some .int), 10, 3, 2, 51) := rfl
set_option maxRecDepth 20000 in
theorem am_my_104 : am_ms[104]? = some (⟨"DogNotary", "aheadInLine", "(LDogNotary$Fell;I)I"⟩, prog_1_method_22_code, 7, (some .int), 10, 3, 0, 0) := rfl
set_option maxRecDepth 20000 in
theorem am_my_105 : am_ms[105]? = some (⟨"DogNotary", "greedy", "(III)I"⟩, prog_1_method_23_code, 6, (some .int), 10, 4, 7, 159) := rfl
set_option maxRecDepth 20000 in
theorem am_my_106 : am_ms[106]? = some (⟨"DogNotary", "goesGreedily", "(LDogNotary$Fell;)Z"⟩, prog_1_method_24_code, 6, (some .boolean), 10, 2, 6, 134) := rfl
set_option maxRecDepth 20000 in
theorem am_my_107 : am_ms[107]? = some (⟨"DogNotary$Flock", "copy", "(LDogNotary$Flock;)V"⟩, prog_6_method_3_code, 2, none, 4, 2, 1, 29) := rfl
set_option maxRecDepth 20000 in
theorem am_my_108 : am_ms[108]? = some (⟨"DogNotary$Flock", "obeys", "(I)Z"⟩, prog_6_method_15_code, 3, (some .boolean), 4, 2, 5, 112) := rfl
set_option maxRecDepth 20000 in
theorem am_my_109 : am_ms[109]? = some (⟨"DogNotary$Flock", "allGo", "()I"⟩, prog_6_method_12_code, 3, (some .int), 4, 1, 4, 90) := rfl
set_option maxRecDepth 20000 in
theorem am_my_110 : am_ms[110]? = some (⟨"DogNotary", "stir", "(IZ)I"⟩, prog_1_method_25_code, 8, (some .int), 10, 3, 5, 112) := rfl
set_option maxRecDepth 20000 in
theorem am_my_111 : am_ms[111]? = some (⟨"DogNotary", "whistle", "(III)I"⟩, prog_1_method_26_code, 4, (some .int), 10, 4, 1, 23) := rfl
set_option maxRecDepth 20000 in
theorem am_my_112 : am_ms[112]? = some (⟨"DogNotary$Drive", "answer", "(II)I"⟩, prog_4_method_4_code, 4, (some .int), 2, 3, 0, 0) := rfl
set_option maxRecDepth 20000 in
theorem am_my_113 : am_ms[113]? = some (⟨"DogNotary", "till", "(II)I"⟩, prog_1_method_28_code, 3, (some .int), 10, 3, 7, 157) := rfl
set_option maxRecDepth 20000 in
theorem am_my_114 : am_ms[114]? = some (⟨"DogNotary", "hasBoth", "(II)Z"⟩, prog_1_method_27_code, 3, (some .boolean), 10, 3, 1, 22) := rfl
set_option maxRecDepth 20000 in
theorem am_my_115 : am_ms[115]? = some (⟨"DogNotary$Flock", "follows", "(LDogNotary$Drive;I)I"⟩, prog_6_method_16_code, 4, (some .int), 4, 3, 6, 134) := rfl
set_option maxRecDepth 20000 in
theorem am_my_116 : am_ms[116]? = some (⟨"DogNotary", "state", "(IIII)I"⟩, prog_1_method_29_code, 5, (some .int), 10, 5, 7, 157) := rfl
set_option maxRecDepth 20000 in
theorem am_my_117 : am_ms[117]? = some (⟨"DogNotary$Flock", "answer", "(I)I"⟩, prog_6_method_19_code, 2, (some .int), 4, 2, 2, 42) := rfl
set_option maxRecDepth 20000 in
theorem am_my_118 : am_ms[118]? = some (⟨"DogNotary$Flock", "wentInAll", "()I"⟩, prog_6_method_20_code, 3, (some .int), 4, 1, 0, 0) := rfl
set_option maxRecDepth 20000 in
theorem am_my_119 : am_ms[119]? = some (⟨"DogNotary$Flock", "answerOfOne", "(I)I"⟩, prog_6_method_21_code, 2, (some .int), 4, 2, 1, 21) := rfl
set_option maxRecDepth 20000 in
theorem am_my_120 : am_ms[120]? = some (⟨"DogNotary", "caught", "(III)I"⟩, prog_1_method_30_code, 6, (some .int), 10, 4, 6, 134) := rfl
set_option maxRecDepth 20000 in
theorem am_my_121 : am_ms[121]? = some (⟨"DogNotary", "spread", "(III)I"⟩, prog_1_method_31_code, 4, (some .int), 10, 4, 7, 157) := rfl
set_option maxRecDepth 20000 in
theorem am_my_122 : am_ms[122]? = some (⟨"DogNotary$Flock", "widest", "()I"⟩, prog_6_method_18_code, 4, (some .int), 4, 1, 2, 42) := rfl
set_option maxRecDepth 20000 in
theorem am_my_123 : am_ms[123]? = some (⟨"DogNotary", "thrice", "(II)I"⟩, prog_1_method_32_code, 5, (some .int), 10, 3, 7, 157) := rfl
set_option maxRecDepth 20000 in
theorem am_my_124 : am_ms[124]? = some (⟨"DogNotary", "drawn", "(IIII)I"⟩, prog_1_method_33_code, 8, (some .int), 10, 5, 6, 134) := rfl
set_option maxRecDepth 20000 in
theorem am_my_125 : am_ms[125]? = some (⟨"DogNotary", "nextSeed", "(I)I"⟩, prog_1_method_34_code, 1, (some .int), 10, 1, 0, 0) := rfl
set_option maxRecDepth 20000 in
theorem am_my_126 : am_ms[126]? = some (⟨"DogNotary", "book", "(II)I"⟩, prog_1_method_35_code, 3, (some .int), 10, 3, 1, 22) := rfl
set_option maxRecDepth 20000 in
theorem am_my_127 : am_ms[127]? = some (⟨"DogNotary$Book", "answer", "(I)I"⟩, prog_2_method_7_code, 2, (some .int), 0, 2, 0, 0) := rfl
set_option maxRecDepth 20000 in
theorem am_my_128 : am_ms[128]? = some (⟨"DogNotary", "notary", "(II)I"⟩, prog_1_method_36_code, 4, (some .int), 10, 3, 5, 117) := rfl
set_option maxRecDepth 20000 in
theorem am_my_129 : am_ms[129]? = some (⟨"DogNotary$Notaries", "most", "(LDogNotary$Book;I)I"⟩, prog_9_method_2_code, 3, (some .int), 6, 3, 3, 71) := rfl
set_option maxRecDepth 20000 in
theorem am_my_130 : am_ms[130]? = some (⟨"DogNotary$Notaries", "mostFrom", "(LDogNotary$Book;I)I"⟩, prog_9_method_3_code, 8, (some .int), 6, 3, 2, 44) := rfl
set_option maxRecDepth 20000 in
theorem am_my_131 : am_ms[131]? = some (⟨"DogNotary$Notaries", "weighRooms", "(LDogNotary$Book;I)V"⟩, prog_9_method_4_code, 5, none, 6, 3, 0, 0) := rfl
set_option maxRecDepth 20000 in
theorem am_my_132 : am_ms[132]? = some (⟨"DogNotary$Notaries", "worthOf", "(LDogNotary$Book;I)I"⟩, prog_9_method_5_code, 4, (some .int), 6, 2, 0, 0) := rfl
set_option maxRecDepth 20000 in
theorem am_my_133 : am_ms[133]? = some (⟨"DogNotary$Notaries", "canBeDriven", "(LDogNotary$Book;II)Z"⟩, prog_9_method_6_code, 5, (some .boolean), 6, 4, 1, 20) := rfl
set_option maxRecDepth 20000 in
theorem am_my_134 : am_ms[134]? = some (⟨"java/lang/Integer", "bitCount", "(I)I"⟩, prog_16_method_49_code, 1, (some .int), 13, 1, 0, 0) := rfl
set_option maxRecDepth 20000 in
theorem am_my_135 : am_ms[135]? = some (⟨"DogNotary$Notaries", "assign", "(LDogNotary$Book;)V"⟩, prog_9_method_7_code, 5, none, 6, 2, 4, 93) := rfl
set_option maxRecDepth 20000 in
theorem am_my_136 : am_ms[136]? = some (⟨"DogNotary", "dear", "(II)I"⟩, prog_1_method_37_code, 4, (some .int), 10, 3, 4, 93) := rfl
set_option maxRecDepth 20000 in
theorem am_my_137 : am_ms[137]? = some (⟨"DogNotary", "idle", "(I)I"⟩, prog_1_method_38_code, 5, (some .int), 10, 2, 5, 117) := rfl
set_option maxRecDepth 20000 in
theorem am_my_138 : am_ms[138]? = some (⟨"DogNotary", "parted", "(III)I"⟩, prog_1_method_39_code, 4, (some .int), 10, 4, 4, 97) := rfl
set_option maxRecDepth 20000 in
theorem am_my_139 : am_ms[139]? = some (⟨"DogNotary$Notaries", "part", "(LDogNotary$Book;II)I"⟩, prog_9_method_8_code, 7, (some .int), 6, 4, 3, 71) := rfl
set_option maxRecDepth 20000 in
theorem am_my_140 : am_ms[140]? = some (⟨"DogNotary$Notaries", "mostOfLeast", "(LDogNotary$Book;II)I"⟩, prog_9_method_9_code, 7, (some .int), 6, 4, 2, 45) := rfl
set_option maxRecDepth 20000 in
theorem am_my_141 : am_ms[141]? = some (⟨"DogNotary$Book", "together", "(II)I"⟩, prog_2_method_6_code, 5, (some .int), 0, 3, 1, 21) := rfl
set_option maxRecDepth 20000 in
theorem am_my_142 : am_ms[142]? = some (⟨"DogNotary$Notaries", "nextCut", "(LDogNotary$Book;III)I"⟩, prog_9_method_10_code, 6, (some .int), 6, 5, 2, 45) := rfl
set_option maxRecDepth 20000 in
theorem am_my_143 : am_ms[143]? = some (⟨"DogNotary", "run", "(IIZ)I"⟩, prog_1_method_40_code, 9, (some .int), 10, 4, 2, 45) := rfl
set_option maxRecDepth 20000 in
theorem am_my_144 : am_ms[144]? = some (⟨"DogNotary", "fact", "(III)I"⟩, prog_1_method_41_code, 4, (some .int), 10, 4, 1, 22) := rfl
set_option maxRecDepth 20000 in
theorem am_my_145 : am_ms[145]? = some (⟨"DogNotary$Log", "answer", "(II)I"⟩, prog_8_method_5_code, 3, (some .int), 5, 3, 0, 0) := rfl
set_option maxRecDepth 20000 in
theorem am_my_146 : am_ms[146]? = some (⟨"DogNotary", "fits", "(II)I"⟩, prog_1_method_42_code, 6, (some .int), 10, 3, 7, 160) := rfl
set_option maxRecDepth 20000 in
theorem am_my_147 : am_ms[147]? = some (⟨"DogNotary", "fitting", "(LDogNotary$Log;)J"⟩, prog_1_method_43_code, 5, (some .long), 10, 2, 6, 136) := rfl
set_option maxRecDepth 20000 in
theorem am_my_148 : am_ms[148]? = some (⟨"DogNotary", "fitsEach", "(LDogNotary$Log;I)Z"⟩, prog_1_method_44_code, 4, (some .boolean), 10, 3, 5, 113) := rfl
set_option maxRecDepth 20000 in
theorem am_my_149 : am_ms[149]? = some (⟨"DogNotary", "cellBehindMinute", "(III)I"⟩, prog_1_method_45_code, 4, (some .int), 10, 4, 4, 90) := rfl
set_option maxRecDepth 20000 in
theorem am_my_150 : am_ms[150]? = some (⟨"DogNotary$Fell", "open", "(III)V"⟩, prog_5_method_5_code, 4, none, 3, 4, 0, 0) := rfl
set_option maxRecDepth 20000 in
theorem am_my_151 : am_ms[151]? = some (⟨"DogNotary$Log", "cellTold", "(ILDogNotary$Fell;)I"⟩, prog_8_method_4_code, 4, (some .int), 5, 3, 1, 25) := rfl
set_option maxRecDepth 20000 in
theorem am_my_152 : am_ms[152]? = some (⟨"DogNotary", "sure", "(JZ)I"⟩, prog_1_method_46_code, 6, (some .int), 10, 2, 0, 0) := rfl
set_option maxRecDepth 20000 in
theorem am_my_153 : am_ms[153]? = some (⟨"DogNotary", "bitOf", "(JI)I"⟩, prog_1_method_47_code, 5, (some .int), 10, 2, 0, 0) := rfl
set_option maxRecDepth 20000 in
theorem am_my_154 : am_ms[154]? = some (⟨"DogNotary", "ask", "(II)I"⟩, prog_1_method_48_code, 9, (some .int), 10, 3, 7, 160) := rfl
set_option maxRecDepth 20000 in
theorem am_my_155 : am_ms[155]? = some (⟨"DogNotary", "mostAlike", "(JII)I"⟩, prog_1_method_49_code, 9, (some .int), 10, 4, 5, 113) := rfl
set_option maxRecDepth 20000 in
theorem am_my_156 : am_ms[156]? = some (⟨"DogNotary", "would", "(IIII)I"⟩, prog_1_method_50_code, 6, (some .int), 10, 5, 7, 160) := rfl
set_option maxRecDepth 20000 in
theorem am_my_157 : am_ms[157]? = some (⟨"DogNotary", "holding", "(III)I"⟩, prog_1_method_51_code, 6, (some .int), 10, 4, 3, 67) := rfl
set_option maxRecDepth 20000 in
theorem am_my_158 : am_ms[158]? = some (⟨"DogNotary", "rests", "(IIII)Z"⟩, prog_1_method_52_code, 5, (some .boolean), 10, 4, 2, 43) := rfl
set_option maxRecDepth 20000 in
theorem am_my_159 : am_ms[159]? = some (⟨"DogNotary", "firstWins", "(III)I"⟩, prog_1_method_53_code, 3, (some .int), 10, 3, 1, 21) := rfl
set_option maxRecDepth 20000 in
theorem am_my_160 : am_ms[160]? = some (⟨"DogNotary", "secondWins", "(III)I"⟩, prog_1_method_54_code, 3, (some .int), 10, 3, 1, 21) := rfl
set_option maxRecDepth 20000 in
theorem am_my_161 : am_ms[161]? = some (⟨"DogNotary", "reply", "(II)I"⟩, prog_1_method_55_code, 5, (some .int), 10, 3, 2, 43) := rfl
set_option maxRecDepth 20000 in
theorem am_my_162 : am_ms[162]? = some (⟨"DogNotary", "fog", "(IIII)J"⟩, prog_1_method_56_code, 12, (some .long), 10, 5, 1, 31) := rfl
set_option maxRecDepth 20000 in
theorem am_my_163 : am_ms[163]? = some (⟨"DogNotary", "soon", "(I)I"⟩, prog_1_method_57_code, 6, (some .int), 10, 1, 0, 0) := rfl
set_option maxRecDepth 20000 in
theorem am_my_164 : am_ms[164]? = some (⟨"DogNotaryModel", "<init>", "()V"⟩, prog_14_method_1_code, 1, none, 11, 1, 1, 20) := rfl
set_option maxRecDepth 20000 in
theorem am_my_165 : am_ms[165]? = some (⟨"DogNotaryModel", "feed", "(IIIII)I"⟩, prog_14_method_13_code, 6, (some .int), 11, 6, 1, 22) := rfl
set_option maxRecDepth 20000 in
theorem am_my_166 : am_ms[166]? = some (⟨"DogNotaryModel", "four", "(I)V"⟩, prog_14_method_14_code, 3, none, 11, 2, 0, 0) := rfl
set_option maxRecDepth 20000 in
theorem am_my_167 : am_ms[167]? = some (⟨"DogNotaryModel", "end", "(I)I"⟩, prog_14_method_15_code, 2, (some .int), 11, 2, 1, 22) := rfl
set_option maxRecDepth 20000 in
theorem am_my_168 : am_ms[168]? = some (⟨"DogNotaryModel", "in", "(III)Z"⟩, prog_14_method_3_code, 3, (some .boolean), 11, 3, 0, 0) := rfl
set_option maxRecDepth 20000 in
theorem am_my_169 : am_ms[169]? = some (⟨"DogNotaryModel", "text", "(II)I"⟩, prog_14_method_42_code, 4, (some .int), 11, 3, 11, 249) := rfl
set_option maxRecDepth 20000 in
theorem am_my_170 : am_ms[170]? = some (⟨"DogNotaryModel", "is", "(II)Z"⟩, prog_14_method_12_code, 3, (some .boolean), 11, 3, 1, 22) := rfl
set_option maxRecDepth 20000 in
theorem am_my_171 : am_ms[171]? = some (⟨"DogNotaryModel", "readText", "(I)Z"⟩, prog_14_method_39_code, 3, (some .boolean), 11, 2, 10, 227) := rfl
set_option maxRecDepth 20000 in
theorem am_my_172 : am_ms[172]? = some (⟨"DogNotaryModel", "blank", "(I)V"⟩, prog_14_method_34_code, 3, none, 11, 2, 0, 0) := rfl
set_option maxRecDepth 20000 in
theorem am_my_173 : am_ms[173]? = some (⟨"DogNotaryModel", "token", "()V"⟩, prog_14_method_17_code, 3, none, 11, 1, 1, 22) := rfl
set_option maxRecDepth 20000 in
theorem am_my_174 : am_ms[174]? = some (⟨"DogNotaryModel", "see", "()I"⟩, prog_14_method_16_code, 1, (some .int), 11, 1, 0, 0) := rfl
set_option maxRecDepth 20000 in
theorem am_my_175 : am_ms[175]? = some (⟨"DogNotaryModel", "lines", "(I)Z"⟩, prog_14_method_33_code, 4, (some .boolean), 11, 2, 9, 204) := rfl
set_option maxRecDepth 20000 in
theorem am_my_176 : am_ms[176]? = some (⟨"DogNotaryModel", "lineOf", "(IJI)Z"⟩, prog_14_method_32_code, 5, (some .boolean), 11, 4, 8, 180) := rfl
set_option maxRecDepth 20000 in
theorem am_my_177 : am_ms[177]? = some (⟨"DogNotaryModel", "fellLine", "(JI)Z"⟩, prog_14_method_27_code, 6, (some .boolean), 11, 3, 7, 155) := rfl
set_option maxRecDepth 20000 in
theorem am_my_178 : am_ms[178]? = some (⟨"DogNotaryModel", "kindBy", "(J)I"⟩, prog_14_method_25_code, 2, (some .int), 11, 1, 0, 0) := rfl
set_option maxRecDepth 20000 in
theorem am_my_179 : am_ms[179]? = some (⟨"DogNotaryModel", "fails", "()Z"⟩, prog_14_method_18_code, 1, (some .boolean), 11, 1, 0, 0) := rfl
set_option maxRecDepth 20000 in
theorem am_my_180 : am_ms[180]? = some (⟨"DogNotaryModel", "full", "(III)V"⟩, prog_14_method_24_code, 4, none, 11, 4, 1, 22) := rfl
set_option maxRecDepth 20000 in
theorem am_my_181 : am_ms[181]? = some (⟨"DogNotaryModel", "later", "(II)V"⟩, prog_14_method_19_code, 3, none, 11, 3, 0, 0) := rfl
set_option maxRecDepth 20000 in
theorem am_my_182 : am_ms[182]? = some (⟨"DogNotaryModel", "beastLine", "(I)Z"⟩, prog_14_method_26_code, 3, (some .boolean), 11, 2, 6, 133) := rfl
set_option maxRecDepth 20000 in
theorem am_my_183 : am_ms[183]? = some (⟨"DogNotaryModel", "takeCell", "(I)Z"⟩, prog_14_method_23_code, 2, (some .boolean), 11, 2, 5, 112) := rfl
set_option maxRecDepth 20000 in
theorem am_my_184 : am_ms[184]? = some (⟨"DogNotaryModel", "takeSeven", "(I)Z"⟩, prog_14_method_22_code, 2, (some .boolean), 11, 2, 4, 91) := rfl
set_option maxRecDepth 20000 in
theorem am_my_185 : am_ms[185]? = some (⟨"DogNotaryModel", "take", "(III)Z"⟩, prog_14_method_21_code, 4, (some .boolean), 11, 4, 3, 68) := rfl
set_option maxRecDepth 20000 in
theorem am_my_186 : am_ms[186]? = some (⟨"DogNotaryModel", "takeBut", "(IIII)Z"⟩, prog_14_method_20_code, 5, (some .boolean), 11, 5, 2, 44) := rfl
set_option maxRecDepth 20000 in
theorem am_my_187 : am_ms[187]? = some (⟨"DogNotaryModel", "greater", "(II)I"⟩, prog_14_method_5_code, 2, (some .int), 11, 2, 0, 0) := rfl
set_option maxRecDepth 20000 in
theorem am_my_188 : am_ms[188]? = some (⟨"DogNotaryModel", "driveLine", "(JI)Z"⟩, prog_14_method_29_code, 5, (some .boolean), 11, 3, 4, 91) := rfl
set_option maxRecDepth 20000 in
theorem am_my_189 : am_ms[189]? = some (⟨"DogNotaryModel", "keep", "(II)V"⟩, prog_14_method_28_code, 5, none, 11, 3, 0, 0) := rfl
set_option maxRecDepth 20000 in
theorem am_my_190 : am_ms[190]? = some (⟨"DogNotaryModel", "bookLine", "(JI)Z"⟩, prog_14_method_30_code, 7, (some .boolean), 11, 3, 4, 91) := rfl
set_option maxRecDepth 20000 in
theorem am_my_191 : am_ms[191]? = some (⟨"DogNotaryModel", "logLine", "(JI)Z"⟩, prog_14_method_31_code, 5, (some .boolean), 11, 3, 5, 112) := rfl
set_option maxRecDepth 20000 in
theorem am_my_192 : am_ms[192]? = some (⟨"DogNotaryModel", "isFarOff", "()Z"⟩, prog_14_method_38_code, 1, (some .boolean), 11, 1, 1, 21) := rfl
set_option maxRecDepth 20000 in
theorem am_my_193 : am_ms[193]? = some (⟨"DogNotaryModel", "clash", "()Z"⟩, prog_14_method_37_code, 3, (some .boolean), 11, 1, 2, 43) := rfl
set_option maxRecDepth 20000 in
theorem am_my_194 : am_ms[194]? = some (⟨"DogNotaryModel", "isWallTold", "(II)Z"⟩, prog_14_method_35_code, 3, (some .boolean), 11, 3, 1, 21) := rfl
set_option maxRecDepth 20000 in
theorem am_my_195 : am_ms[195]? = some (⟨"DogNotaryModel", "has", "(II)Z"⟩, prog_14_method_4_code, 2, (some .boolean), 11, 2, 0, 0) := rfl
set_option maxRecDepth 20000 in
theorem am_my_196 : am_ms[196]? = some (⟨"DogNotaryModel", "alike", "(IIII)Z"⟩, prog_14_method_36_code, 5, (some .boolean), 11, 5, 0, 0) := rfl
set_option maxRecDepth 20000 in
theorem am_my_197 : am_ms[197]? = some (⟨"DogNotaryModel", "storeAll", "(II)V"⟩, prog_14_method_41_code, 3, none, 11, 3, 1, 24) := rfl
set_option maxRecDepth 20000 in
theorem am_my_198 : am_ms[198]? = some (⟨"DogNotaryModel", "store", "([III)V"⟩, prog_14_method_40_code, 5, none, 11, 4, 0, 0) := rfl
set_option maxRecDepth 20000 in
theorem am_my_199 : am_ms[199]? = some (⟨"DogNotaryModel", "fault", "(I)I"⟩, prog_14_method_43_code, 2, (some .int), 11, 2, 0, 0) := rfl
set_option maxRecDepth 20000 in
theorem am_my_200 : am_ms[200]? = some (⟨"DogNotaryModel", "fell", "(II)I"⟩, prog_14_method_56_code, 3, (some .int), 11, 3, 3, 66) := rfl
set_option maxRecDepth 20000 in
theorem am_my_201 : am_ms[201]? = some (⟨"DogNotaryModel", "hand", "(I)Z"⟩, prog_14_method_45_code, 3, (some .boolean), 11, 2, 2, 44) := rfl
set_option maxRecDepth 20000 in
theorem am_my_202 : am_ms[202]? = some (⟨"DogNotaryModel", "of", "(I)I"⟩, prog_14_method_44_code, 2, (some .int), 11, 2, 0, 0) := rfl
set_option maxRecDepth 20000 in
theorem am_my_203 : am_ms[203]? = some (⟨"DogNotaryModel", "isBeast", "(I)Z"⟩, prog_14_method_47_code, 2, (some .boolean), 11, 2, 1, 22) := rfl
set_option maxRecDepth 20000 in
theorem am_my_204 : am_ms[204]? = some (⟨"DogNotaryModel", "whistle", "(III)I"⟩, prog_14_method_60_code, 4, (some .int), 11, 4, 3, 65) := rfl
set_option maxRecDepth 20000 in
theorem am_my_205 : am_ms[205]? = some (⟨"DogNotaryModel", "hasDrive", "(I)Z"⟩, prog_14_method_59_code, 2, (some .boolean), 11, 2, 2, 44) := rfl
set_option maxRecDepth 20000 in
theorem am_my_206 : am_ms[206]? = some (⟨"DogNotaryModel", "whistles", "()I"⟩, prog_14_method_57_code, 1, (some .int), 11, 1, 0, 0) := rfl
set_option maxRecDepth 20000 in
theorem am_my_207 : am_ms[207]? = some (⟨"DogNotaryModel", "whistleOf", "(II)I"⟩, prog_14_method_58_code, 3, (some .int), 11, 3, 0, 0) := rfl
set_option maxRecDepth 20000 in
theorem am_my_208 : am_ms[208]? = some (⟨"DogNotaryModel", "till", "(II)I"⟩, prog_14_method_67_code, 3, (some .int), 11, 3, 8, 177) := rfl
set_option maxRecDepth 20000 in
theorem am_my_209 : am_ms[209]? = some (⟨"DogNotaryModel", "layAll", "(II)Z"⟩, prog_14_method_66_code, 3, (some .boolean), 11, 3, 3, 66) := rfl
set_option maxRecDepth 20000 in
theorem am_my_210 : am_ms[210]? = some (⟨"DogNotaryModel", "play", "(I)I"⟩, prog_14_method_65_code, 3, (some .int), 11, 2, 7, 155) := rfl
set_option maxRecDepth 20000 in
theorem am_my_211 : am_ms[211]? = some (⟨"DogNotaryModel", "does", "(II)Z"⟩, prog_14_method_64_code, 4, (some .boolean), 11, 3, 6, 132) := rfl
set_option maxRecDepth 20000 in
theorem am_my_212 : am_ms[212]? = some (⟨"DogNotaryModel", "dogGoes", "(I)Z"⟩, prog_14_method_62_code, 3, (some .boolean), 11, 2, 3, 64) := rfl
set_option maxRecDepth 20000 in
theorem am_my_213 : am_ms[213]? = some (⟨"DogNotaryModel", "next", "(II)I"⟩, prog_14_method_49_code, 3, (some .int), 11, 3, 0, 0) := rfl
set_option maxRecDepth 20000 in
theorem am_my_214 : am_ms[214]? = some (⟨"DogNotaryModel", "mayStand", "(I)Z"⟩, prog_14_method_61_code, 2, (some .boolean), 11, 2, 2, 43) := rfl
set_option maxRecDepth 20000 in
theorem am_my_215 : am_ms[215]? = some (⟨"DogNotaryModel", "isBeastAt", "(I)Z"⟩, prog_14_method_50_code, 3, (some .boolean), 11, 2, 1, 21) := rfl
set_option maxRecDepth 20000 in
theorem am_my_216 : am_ms[216]? = some (⟨"DogNotaryModel", "liesDown", "(Z)Z"⟩, prog_14_method_63_code, 3, (some .boolean), 11, 2, 0, 0) := rfl
set_option maxRecDepth 20000 in
theorem am_my_217 : am_ms[217]? = some (⟨"DogNotaryModel", "allGo", "()V"⟩, prog_14_method_55_code, 2, none, 11, 1, 5, 111) := rfl
set_option maxRecDepth 20000 in
theorem am_my_218 : am_ms[218]? = some (⟨"DogNotaryModel", "goes", "(I)V"⟩, prog_14_method_54_code, 2, none, 11, 2, 4, 90) := rfl
set_option maxRecDepth 20000 in
theorem am_my_219 : am_ms[219]? = some (⟨"DogNotaryModel", "isDriven", "(I)Z"⟩, prog_14_method_52_code, 2, (some .boolean), 11, 2, 2, 43) := rfl
set_option maxRecDepth 20000 in
theorem am_my_220 : am_ms[220]? = some (⟨"DogNotaryModel", "steps", "(II)I"⟩, prog_14_method_48_code, 3, (some .int), 11, 3, 1, 21) := rfl
set_option maxRecDepth 20000 in
theorem am_my_221 : am_ms[221]? = some (⟨"DogNotaryModel", "apart", "(II)I"⟩, prog_14_method_7_code, 2, (some .int), 11, 2, 0, 0) := rfl
set_option maxRecDepth 20000 in
theorem am_my_222 : am_ms[222]? = some (⟨"DogNotaryModel", "stepsOn", "(I)V"⟩, prog_14_method_53_code, 3, none, 11, 2, 3, 68) := rfl
set_option maxRecDepth 20000 in
theorem am_my_223 : am_ms[223]? = some (⟨"DogNotaryModel", "wayOf", "(I)I"⟩, prog_14_method_51_code, 6, (some .int), 11, 2, 2, 43) := rfl
set_option maxRecDepth 20000 in
theorem am_my_224 : am_ms[224]? = some (⟨"DogNotaryModel", "state", "(IIII)I"⟩, prog_14_method_70_code, 5, (some .int), 11, 5, 8, 177) := rfl
set_option maxRecDepth 20000 in
theorem am_my_225 : am_ms[225]? = some (⟨"DogNotaryModel", "ofState", "(I)I"⟩, prog_14_method_69_code, 2, (some .int), 11, 2, 2, 43) := rfl
set_option maxRecDepth 20000 in
theorem am_my_226 : am_ms[226]? = some (⟨"DogNotaryModel", "allWent", "()I"⟩, prog_14_method_68_code, 3, (some .int), 11, 1, 0, 0) := rfl
set_option maxRecDepth 20000 in
theorem am_my_227 : am_ms[227]? = some (⟨"DogNotaryModel", "shy", "(II)I"⟩, prog_14_method_76_code, 3, (some .int), 11, 3, 5, 111) := rfl
set_option maxRecDepth 20000 in
theorem am_my_228 : am_ms[228]? = some (⟨"DogNotaryModel", "driven", "(III)I"⟩, prog_14_method_77_code, 4, (some .int), 11, 4, 6, 135) := rfl
set_option maxRecDepth 20000 in
theorem am_my_229 : am_ms[229]? = some (⟨"DogNotaryModel", "findGoings", "(I)V"⟩, prog_14_method_73_code, 5, none, 11, 2, 5, 111) := rfl
set_option maxRecDepth 20000 in
theorem am_my_230 : am_ms[230]? = some (⟨"DogNotaryModel", "alone", "(I)V"⟩, prog_14_method_71_code, 2, none, 11, 2, 0, 0) := rfl
set_option maxRecDepth 20000 in
theorem am_my_231 : am_ms[231]? = some (⟨"DogNotaryModel", "meets", "(III)V"⟩, prog_14_method_72_code, 4, none, 11, 4, 0, 0) := rfl
set_option maxRecDepth 20000 in
theorem am_my_232 : am_ms[232]? = some (⟨"DogNotaryModel", "reach", "()I"⟩, prog_14_method_75_code, 5, (some .int), 11, 1, 0, 0) := rfl
set_option maxRecDepth 20000 in
theorem am_my_233 : am_ms[233]? = some (⟨"DogNotaryModel", "best", "(Z)I"⟩, prog_14_method_74_code, 6, (some .int), 11, 2, 0, 0) := rfl
set_option maxRecDepth 20000 in
theorem am_my_234 : am_ms[234]? = some (⟨"DogNotaryModel", "heard", "(IIIZ)J"⟩, prog_14_method_78_code, 6, (some .long), 11, 5, 6, 135) := rfl
set_option maxRecDepth 20000 in
theorem am_my_235 : am_ms[235]? = some (⟨"DogNotaryModel", "part", "(JJZ)J"⟩, prog_14_method_9_code, 5, (some .long), 11, 3, 1, 29) := rfl
set_option maxRecDepth 20000 in
theorem am_my_236 : am_ms[236]? = some (⟨"DogNotaryModel", "common", "(JJ)J"⟩, prog_14_method_8_code, 10, (some .long), 11, 2, 0, 0) := rfl
set_option maxRecDepth 20000 in
theorem am_my_237 : am_ms[237]? = some (⟨"DogNotaryModel", "safe", "(IZ)I"⟩, prog_14_method_80_code, 8, (some .int), 11, 3, 4, 90) := rfl
set_option maxRecDepth 20000 in
theorem am_my_238 : am_ms[238]? = some (⟨"DogNotaryModel", "wouldGo", "(II)Z"⟩, prog_14_method_79_code, 3, (some .boolean), 11, 3, 3, 68) := rfl
set_option maxRecDepth 20000 in
theorem am_my_239 : am_ms[239]? = some (⟨"DogNotaryModel", "nearest", "(IIZ)I"⟩, prog_14_method_82_code, 7, (some .int), 11, 4, 3, 66) := rfl
set_option maxRecDepth 20000 in
theorem am_my_240 : am_ms[240]? = some (⟨"DogNotaryModel", "isCell", "(I)Z"⟩, prog_14_method_46_code, 2, (some .boolean), 11, 2, 1, 22) := rfl
set_option maxRecDepth 20000 in
theorem am_my_241 : am_ms[241]? = some (⟨"DogNotaryModel", "findWalk", "(I)V"⟩, prog_14_method_81_code, 5, none, 11, 2, 1, 22) := rfl
set_option maxRecDepth 20000 in
theorem am_my_242 : am_ms[242]? = some (⟨"DogNotaryModel", "lesser", "(II)I"⟩, prog_14_method_6_code, 2, (some .int), 11, 2, 0, 0) := rfl
set_option maxRecDepth 20000 in
theorem am_my_243 : am_ms[243]? = some (⟨"DogNotaryModel", "book", "(II)I"⟩, prog_14_method_85_code, 4, (some .int), 11, 3, 3, 65) := rfl
set_option maxRecDepth 20000 in
theorem am_my_244 : am_ms[244]? = some (⟨"DogNotaryModel", "hasBook", "(I)Z"⟩, prog_14_method_84_code, 2, (some .boolean), 11, 2, 2, 44) := rfl
set_option maxRecDepth 20000 in
theorem am_my_245 : am_ms[245]? = some (⟨"DogNotaryModel", "ofBook", "(I)I"⟩, prog_14_method_83_code, 2, (some .int), 11, 2, 0, 0) := rfl
set_option maxRecDepth 20000 in
theorem am_my_246 : am_ms[246]? = some (⟨"DogNotaryModel", "notary", "(II)I"⟩, prog_14_method_91_code, 3, (some .int), 11, 3, 3, 71) := rfl
set_option maxRecDepth 20000 in
theorem am_my_247 : am_ms[247]? = some (⟨"DogNotaryModel", "findWorths", "()V"⟩, prog_14_method_88_code, 6, none, 11, 1, 2, 45) := rfl
set_option maxRecDepth 20000 in
theorem am_my_248 : am_ms[248]? = some (⟨"DogNotaryModel", "mayDrive", "(III)Z"⟩, prog_14_method_87_code, 4, (some .boolean), 11, 4, 1, 22) := rfl
set_option maxRecDepth 20000 in
theorem am_my_249 : am_ms[249]? = some (⟨"DogNotaryModel", "turnsLeft", "(II)I"⟩, prog_14_method_86_code, 3, (some .int), 11, 3, 0, 0) := rfl
set_option maxRecDepth 20000 in
theorem am_my_250 : am_ms[250]? = some (⟨"DogNotaryModel", "allTurns", "()I"⟩, prog_14_method_89_code, 3, (some .int), 11, 1, 1, 21) := rfl
set_option maxRecDepth 20000 in
theorem am_my_251 : am_ms[251]? = some (⟨"DogNotaryModel", "driverOf", "(I)I"⟩, prog_14_method_90_code, 7, (some .int), 11, 2, 2, 45) := rfl
set_option maxRecDepth 20000 in
theorem am_my_252 : am_ms[252]? = some (⟨"DogNotaryModel", "parted", "(III)I"⟩, prog_14_method_95_code, 8, (some .int), 11, 4, 4, 94) := rfl
set_option maxRecDepth 20000 in
theorem am_my_253 : am_ms[253]? = some (⟨"DogNotaryModel", "findParts", "(I)V"⟩, prog_14_method_94_code, 7, none, 11, 2, 3, 68) := rfl
set_option maxRecDepth 20000 in
theorem am_my_254 : am_ms[254]? = some (⟨"DogNotaryModel", "sumOf", "(II)I"⟩, prog_14_method_92_code, 5, (some .int), 11, 3, 1, 21) := rfl
set_option maxRecDepth 20000 in
theorem am_my_255 : am_ms[255]? = some (⟨"DogNotaryModel", "partBy", "(III)I"⟩, prog_14_method_93_code, 4, (some .int), 11, 4, 2, 45) := rfl
set_option maxRecDepth 20000 in
theorem am_my_256 : am_ms[256]? = some (⟨"DogNotaryModel", "fact", "(III)I"⟩, prog_14_method_99_code, 4, (some .int), 11, 4, 3, 66) := rfl
set_option maxRecDepth 20000 in
theorem am_my_257 : am_ms[257]? = some (⟨"DogNotaryModel", "hasLog", "(I)Z"⟩, prog_14_method_97_code, 3, (some .boolean), 11, 2, 2, 44) := rfl
set_option maxRecDepth 20000 in
theorem am_my_258 : am_ms[258]? = some (⟨"DogNotaryModel", "facts", "()I"⟩, prog_14_method_98_code, 1, (some .int), 11, 1, 0, 0) := rfl
set_option maxRecDepth 20000 in
theorem am_my_259 : am_ms[259]? = some (⟨"DogNotaryModel", "factOf", "(II)I"⟩, prog_14_method_96_code, 3, (some .int), 11, 3, 0, 0) := rfl
set_option maxRecDepth 20000 in
theorem am_my_260 : am_ms[260]? = some (⟨"DogNotaryModel", "fits", "(II)I"⟩, prog_14_method_104_code, 3, (some .int), 11, 3, 6, 135) := rfl
set_option maxRecDepth 20000 in
theorem am_my_261 : am_ms[261]? = some (⟨"DogNotaryModel", "findFits", "()V"⟩, prog_14_method_102_code, 2, none, 11, 1, 5, 114) := rfl
set_option maxRecDepth 20000 in
theorem am_my_262 : am_ms[262]? = some (⟨"DogNotaryModel", "isSo", "(I)Z"⟩, prog_14_method_101_code, 4, (some .boolean), 11, 2, 4, 91) := rfl
set_option maxRecDepth 20000 in
theorem am_my_263 : am_ms[263]? = some (⟨"DogNotaryModel", "goesBy", "(III)I"⟩, prog_14_method_100_code, 4, (some .int), 11, 4, 3, 68) := rfl
set_option maxRecDepth 20000 in
theorem am_my_264 : am_ms[264]? = some (⟨"DogNotaryModel", "sureOf", "(Z)I"⟩, prog_14_method_103_code, 4, (some .int), 11, 2, 0, 0) := rfl
set_option maxRecDepth 20000 in
theorem am_my_265 : am_ms[265]? = some (⟨"DogNotaryModel", "ask", "(II)I"⟩, prog_14_method_106_code, 7, (some .int), 11, 3, 6, 135) := rfl
set_option maxRecDepth 20000 in
theorem am_my_266 : am_ms[266]? = some (⟨"DogNotaryModel", "largest", "(II)I"⟩, prog_14_method_105_code, 6, (some .int), 11, 3, 4, 91) := rfl
set_option maxRecDepth 20000 in
theorem am_my_267 : am_ms[267]? = some (⟨"DogNotaryModel", "holding", "(III)I"⟩, prog_14_method_110_code, 6, (some .int), 11, 4, 3, 67) := rfl
set_option maxRecDepth 20000 in
theorem am_my_268 : am_ms[268]? = some (⟨"DogNotaryModel", "isRest", "(IIII)Z"⟩, prog_14_method_109_code, 5, (some .boolean), 11, 4, 2, 43) := rfl
set_option maxRecDepth 20000 in
theorem am_my_269 : am_ms[269]? = some (⟨"DogNotaryModel", "firstWins", "(III)I"⟩, prog_14_method_107_code, 3, (some .int), 11, 3, 1, 21) := rfl
set_option maxRecDepth 20000 in
theorem am_my_270 : am_ms[270]? = some (⟨"DogNotaryModel", "otherWins", "(III)I"⟩, prog_14_method_108_code, 3, (some .int), 11, 3, 1, 21) := rfl
set_option maxRecDepth 20000 in
theorem am_my_271 : am_ms[271]? = some (⟨"DogNotaryModel", "fog", "(IIII)J"⟩, prog_14_method_112_code, 8, (some .long), 11, 5, 2, 53) := rfl
set_option maxRecDepth 20000 in
theorem am_my_272 : am_ms[272]? = some (⟨"DogNotaryModel", "power", "(JI)J"⟩, prog_14_method_111_code, 6, (some .long), 11, 2, 0, 0) := rfl
set_option maxRecDepth 20000 in
theorem am_my_273 : am_ms[273]? = some (⟨"DogNotaryModel", "drawn", "(IIII)I"⟩, prog_14_method_114_code, 7, (some .int), 11, 5, 7, 155) := rfl
set_option maxRecDepth 20000 in
theorem am_my_274 : am_ms[274]? = some (⟨"DogNotaryModel", "draw", "(I)I"⟩, prog_14_method_113_code, 2, (some .int), 11, 2, 0, 0) := rfl
set_option maxRecDepth 20000 in
theorem am_my_275 : am_ms[275]? = some (⟨"DogNotaryModel", "middle", "(IZ)I"⟩, prog_14_method_115_code, 8, (some .int), 11, 3, 3, 66) := rfl
set_option maxRecDepth 20000 in
theorem am_my_276 : am_ms[276]? = some (⟨"DogNotaryModel", "post", "(IIIZ)I"⟩, prog_14_method_116_code, 8, (some .int), 11, 5, 4, 90) := rfl
set_option maxRecDepth 20000 in
theorem am_my_277 : am_ms[277]? = some (⟨"DogNotaryModel", "cornered", "(I)I"⟩, prog_14_method_117_code, 5, (some .int), 11, 2, 4, 90) := rfl
set_option maxRecDepth 20000 in
theorem am_my_278 : am_ms[278]? = some (⟨"DogNotaryModel", "lined", "(II)I"⟩, prog_14_method_118_code, 7, (some .int), 11, 3, 3, 66) := rfl
set_option maxRecDepth 20000 in
theorem am_my_279 : am_ms[279]? = some (⟨"DogNotaryModel", "greedy", "(III)I"⟩, prog_14_method_123_code, 6, (some .int), 11, 4, 8, 178) := rfl
set_option maxRecDepth 20000 in
theorem am_my_280 : am_ms[280]? = some (⟨"DogNotaryModel", "greedyWay", "()I"⟩, prog_14_method_122_code, 4, (some .int), 11, 1, 7, 155) := rfl
set_option maxRecDepth 20000 in
theorem am_my_281 : am_ms[281]? = some (⟨"DogNotaryModel", "keepAll", "()V"⟩, prog_14_method_119_code, 2, none, 11, 1, 0, 0) := rfl
set_option maxRecDepth 20000 in
theorem am_my_282 : am_ms[282]? = some (⟨"DogNotaryModel", "toPen", "()I"⟩, prog_14_method_121_code, 3, (some .int), 11, 1, 2, 43) := rfl
set_option maxRecDepth 20000 in
theorem am_my_283 : am_ms[283]? = some (⟨"DogNotaryModel", "backAll", "()V"⟩, prog_14_method_120_code, 2, none, 11, 1, 0, 0) := rfl
set_option maxRecDepth 20000 in
theorem am_my_284 : am_ms[284]? = some (⟨"DogNotaryModel", "caught", "(III)I"⟩, prog_14_method_124_code, 5, (some .int), 11, 4, 7, 155) := rfl
set_option maxRecDepth 20000 in
theorem am_my_285 : am_ms[285]? = some (⟨"DogNotaryModel", "spread", "(III)I"⟩, prog_14_method_125_code, 7, (some .int), 11, 4, 8, 177) := rfl
set_option maxRecDepth 20000 in
theorem am_my_286 : am_ms[286]? = some (⟨"DogNotaryModel", "thrice", "(II)I"⟩, prog_14_method_126_code, 4, (some .int), 11, 3, 8, 177) := rfl
set_option maxRecDepth 20000 in
theorem am_my_287 : am_ms[287]? = some (⟨"DogNotaryModel", "stir", "(IZ)I"⟩, prog_14_method_127_code, 8, (some .int), 11, 3, 6, 132) := rfl
set_option maxRecDepth 20000 in
theorem am_my_288 : am_ms[288]? = some (⟨"DogNotaryModel", "dear", "(II)I"⟩, prog_14_method_128_code, 3, (some .int), 11, 3, 3, 70) := rfl
set_option maxRecDepth 20000 in
theorem am_my_289 : am_ms[289]? = some (⟨"DogNotaryModel", "idle", "(I)I"⟩, prog_14_method_129_code, 2, (some .int), 11, 2, 3, 71) := rfl
set_option maxRecDepth 20000 in
theorem am_my_290 : am_ms[290]? = some (⟨"DogNotaryModel", "run", "(IIZ)I"⟩, prog_14_method_130_code, 6, (some .int), 11, 4, 3, 65) := rfl
set_option maxRecDepth 20000 in
theorem am_my_291 : am_ms[291]? = some (⟨"DogNotaryModel", "would", "(IIII)I"⟩, prog_14_method_131_code, 5, (some .int), 11, 5, 6, 135) := rfl
set_option maxRecDepth 20000 in
theorem am_my_292 : am_ms[292]? = some (⟨"DogNotaryModel", "reply", "(II)I"⟩, prog_14_method_132_code, 5, (some .int), 11, 3, 2, 43) := rfl
set_option maxRecDepth 20000 in
theorem am_my_293 : am_ms[293]? = some (⟨"DogNotaryModel", "count", "(I)I"⟩, prog_14_method_133_code, 2, (some .int), 11, 2, 1, 22) := rfl
set_option maxRecDepth 20000 in
theorem am_my_294 : am_ms[294]? = some (⟨"DogNotaryModel", "image", "(I)Z"⟩, prog_14_method_134_code, 2, (some .boolean), 11, 2, 2, 47) := rfl
set_option maxRecDepth 20000 in
theorem am_my_295 : am_ms[295]? = some (⟨"DogNotaryModel", "copyAll", "(II)V"⟩, prog_14_method_11_code, 4, none, 11, 3, 1, 24) := rfl
set_option maxRecDepth 20000 in
theorem am_my_296 : am_ms[296]? = some (⟨"DogNotaryModel", "copyRow", "([IIII)V"⟩, prog_14_method_10_code, 5, none, 11, 4, 0, 0) := rfl
set_option maxRecDepth 20000 in
theorem am_my_297 : am_ms[297]? = some (⟨"DogNotaryModel", "again", "(I)Z"⟩, prog_14_method_135_code, 2, (some .boolean), 11, 2, 2, 47) := rfl
set_option maxRecDepth 20000 in
theorem am_my_298 : am_ms[298]? = some (x, code, maxLocals, ret, 12, 1, 14, 546) := rfl
