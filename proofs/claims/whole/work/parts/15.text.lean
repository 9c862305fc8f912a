/-! texts and keywords: String constants, the keywords' array and fields; contracts laid by wip/whole/lay2.py -/
theorem fw_srecv {E : fw_E} {s : State} {H : Heap} {locs : List Loc} (hSt : fw_S E s s.heap) (hS : va_S (fw_A E) s.heap H locs) {k : Nat} (hk : k < 8) : ∃ cell : Cell, H[fw_x E 5 k]? = some cell ∧ cell.vm.isStatics = false ∧ s.vm.findClass "java/lang/String" = some cell.cls := by
  obtain ⟨cell, h1, h2, h3, -⟩ := ((hSt.2.2.2.2.1.2 k hk).1).kept hS.2.1
  exact ⟨cell, h1, h2, h3⟩
theorem fw_bld {p : Program} {l : Launch} {e : Env} {R : Room} {s : State} {m : MethodId} {args : Array Value} {below : List Frame} {meth : Method} {c : Code} {H : Heap} {locs : List Loc} {cells slots : Nat} {Q : State → Prop} {cc : ByteArray} {pc : Nat} {ls : Array Slot} {rest : List Value} {E : fw_E} {k : Nat}
    (hexec : p.tables.exec = Jvm.exec) (hb : c.code = cc) (hSt : fw_S E s s.heap) (hS : va_S (fw_A E) s.heap H locs) (hk : k < 8) {i : Int32} (hin : vp_in i (fw_sl k)) (hdg : decode cc pc = .ok (.baload, 1))
    (kk : W p l e R s m args below meth c H locs cells slots Q (F0 m (pc + 1) ls (.int (fw_sc k i.toNatClampNeg) :: rest))) : W p l e R s m args below meth c H locs cells slots Q (F0 m pc ls (.int i :: .ref (fw_x E 6 k) :: rest)) := va_tb hexec hb (hSt.2.2.2.2.1.2 k hk).2.2.2 hS hin rfl hdg kk
theorem fw_er0 {s : State} {args : Array Value} {H : Heap} {locs : List Loc} {E : fw_E} {o : Int64} {d : UInt64} {μ : fw_M} {v r : Unit} (h : some v = some r) (hP : fw_P E o d μ H) (hS : va_S (fw_A E) s.heap H locs) : ∀ t : State, t.heap = H → s.WarmedH t.vm → fw_Q E o d none μ args s (.returned none) t := by
  cases h
  exact fun t ht _ => ⟨rfl, by rw [ht]; exact hP, hS.F ht⟩
theorem fw_kv_neg {E : fw_E} {a : Int32} (h : a < 0) : fw_kv E a = .null := by
  unfold fw_kv
  rw [if_pos h]
theorem fw_kv_n {E : fw_E} {a : Int32} (h : fw_in a 6 = true) : narrow (.object "LaundryService$Keyword") (fw_kv E a) = fw_kv E a := by
  rw [fw_kv_pos h]
  rfl
theorem fw_kv_f {E : fw_E} {a : Int32} (h : fw_in a 6 = true) : fits (.object "LaundryService$Keyword") (fw_kv E a) = true := by
  rw [fw_kv_pos h]
  rfl
theorem fw_kwld {p : Program} {l : Launch} {e : Env} {R : Room} {s : State} {m : MethodId} {args : Array Value} {below : List Frame} {meth : Method} {c : Code} {H : Heap} {locs : List Loc} {cells slots : Nat} {Q : State → Prop} {cc : ByteArray} {pc : Nat} {ls : Array Slot} {rest : List Value} {E : fw_E}
    (hexec : p.tables.exec = Jvm.exec) (hb : c.code = cc) (hK : va_K (fw_D E) vwCl (fw_tys E) s) (hSt : fw_S E s s.heap) (hS : va_S (fw_A E) s.heap H locs) {i : Int32} (hin : vp_in i 6) (hdg : decode cc pc = .ok (.aaload, 1))
    (kk : W p l e R s m args below meth c H locs cells slots Q (F0 m (pc + 1) ls (.ref (fw_x E 0 i.toNatClampNeg) :: rest))) : W p l e R s m args below meth c H locs cells slots Q (F0 m pc ls (.int i :: .ref (fw_x E 4 0) :: rest)) := vb_tq hexec hb (C := "LaundryService$Keyword") (v := .ref (fw_x E 0 i.toNatClampNeg)) hSt.2.2.2.2.1.1 hS hin rfl hdg kk
theorem inUJ0 : ∀ w ∈ wsJ00, w ∈ fw_U := fw_inUs [414, 416] (by decide +kernel) (by decide +kernel)
theorem m_955 : (Cond.fieldLink RJ0 38 "java/lang/String" "COMPACT_STRINGS" "Z") ∈ fw_U := fw_inU (i := 955) (by decide +kernel) (by decide +kernel)
theorem m_1579 : (Cond.fieldLink RJ0 15 "java/lang/String" "coder" "B") ∈ fw_U := fw_inU (i := 1579) (by decide +kernel) (by decide +kernel)
theorem m_1580 : (Cond.fieldLink RJ0 9 "java/lang/String" "value" "[B") ∈ fw_U := fw_inU (i := 1580) (by decide +kernel) (by decide +kernel)
theorem m_954 : (Cond.code yJ0_coder_7d493 cJ0_coder_7d493 1 (some .byte)) ∈ fw_U := fw_inU (i := 954) (by decide +kernel) (by decide +kernel)
theorem m_951 : (Cond.methodLink RJ0 335 yJ0_coder_7d493) ∈ fw_U := fw_inU (i := 951) (by decide +kernel) (by decide +kernel)
theorem m_952 : (Cond.instanceMethod yJ0_coder_7d493) ∈ fw_U := fw_inU (i := 952) (by decide +kernel) (by decide +kernel)
theorem m_953 : (Cond.selects RJ0 yJ0_coder_7d493 yJ0_coder_7d493) ∈ fw_U := fw_inU (i := 953) (by decide +kernel) (by decide +kernel)
theorem m_15 : (Cond.initialized RJ0) ∈ fw_U := fw_inU (i := 15) (by decide +kernel) (by decide +kernel)
theorem m_975 : (Cond.code yJ3_checkIndex_8e157 cJ3_checkIndex_8e157 3 (some .int)) ∈ fw_U := fw_inU (i := 975) (by decide +kernel) (by decide +kernel)
theorem m_973 : (Cond.methodLink RJ0 1059 yJ3_checkIndex_8e157) ∈ fw_U := fw_inU (i := 973) (by decide +kernel) (by decide +kernel)
theorem m_974 : (Cond.static yJ3_checkIndex_8e157) ∈ fw_U := fw_inU (i := 974) (by decide +kernel) (by decide +kernel)
theorem m_26 : (Cond.initialized RJ3) ∈ fw_U := fw_inU (i := 26) (by decide +kernel) (by decide +kernel)
theorem m_971 : (Cond.fieldLink RJ0 1053 "jdk/internal/util/Preconditions" "SIOOBE_FORMATTER" "Ljava/util/function/BiFunction;") ∈ fw_U := fw_inU (i := 971) (by decide +kernel) (by decide +kernel)
theorem m_970 : (Cond.code yJ0_checkIndex_df160 cJ0_checkIndex_df160 2 none) ∈ fw_U := fw_inU (i := 970) (by decide +kernel) (by decide +kernel)
theorem m_968 : (Cond.methodLink RJ1 9 yJ0_checkIndex_df160) ∈ fw_U := fw_inU (i := 968) (by decide +kernel) (by decide +kernel)
theorem m_969 : (Cond.static yJ0_checkIndex_df160) ∈ fw_U := fw_inU (i := 969) (by decide +kernel) (by decide +kernel)
theorem m_964 : (Cond.code yJ0_isLatin1_aae02 cJ0_isLatin1_aae02 1 (some .boolean)) ∈ fw_U := fw_inU (i := 964) (by decide +kernel) (by decide +kernel)
theorem m_961 : (Cond.methodLink RJ0 492 yJ0_isLatin1_aae02) ∈ fw_U := fw_inU (i := 961) (by decide +kernel) (by decide +kernel)
theorem m_962 : (Cond.instanceMethod yJ0_isLatin1_aae02) ∈ fw_U := fw_inU (i := 962) (by decide +kernel) (by decide +kernel)
theorem m_963 : (Cond.selects RJ0 yJ0_isLatin1_aae02 yJ0_isLatin1_aae02) ∈ fw_U := fw_inU (i := 963) (by decide +kernel) (by decide +kernel)
theorem m_967 : (Cond.code yJ1_charAt_3b067 cJ1_charAt_3b067 2 (some .char)) ∈ fw_U := fw_inU (i := 967) (by decide +kernel) (by decide +kernel)
theorem m_965 : (Cond.methodLink RJ0 495 yJ1_charAt_3b067) ∈ fw_U := fw_inU (i := 965) (by decide +kernel) (by decide +kernel)
theorem m_966 : (Cond.static yJ1_charAt_3b067) ∈ fw_U := fw_inU (i := 966) (by decide +kernel) (by decide +kernel)
theorem m_25 : (Cond.initialized RJ1) ∈ fw_U := fw_inU (i := 25) (by decide +kernel) (by decide +kernel)
theorem m_950 : (Cond.code yJ0_length_8abf5 cJ0_length_8abf5 1 (some .int)) ∈ fw_U := fw_inU (i := 950) (by decide +kernel) (by decide +kernel)
theorem m_947 : (Cond.methodLink RX1 84 yJ0_length_8abf5) ∈ fw_U := fw_inU (i := 947) (by decide +kernel) (by decide +kernel)
theorem m_948 : (Cond.instanceMethod yJ0_length_8abf5) ∈ fw_U := fw_inU (i := 948) (by decide +kernel) (by decide +kernel)
theorem m_949 : (Cond.selects RJ0 yJ0_length_8abf5 yJ0_length_8abf5) ∈ fw_U := fw_inU (i := 949) (by decide +kernel) (by decide +kernel)
theorem m_960 : (Cond.code yJ0_charAt_5068e cJ0_charAt_5068e 2 (some .char)) ∈ fw_U := fw_inU (i := 960) (by decide +kernel) (by decide +kernel)
theorem m_957 : (Cond.methodLink RX1 95 yJ0_charAt_5068e) ∈ fw_U := fw_inU (i := 957) (by decide +kernel) (by decide +kernel)
theorem m_958 : (Cond.instanceMethod yJ0_charAt_5068e) ∈ fw_U := fw_inU (i := 958) (by decide +kernel) (by decide +kernel)
theorem m_959 : (Cond.selects RJ0 yJ0_charAt_5068e yJ0_charAt_5068e) ∈ fw_U := fw_inU (i := 959) (by decide +kernel) (by decide +kernel)
theorem m_1581 : (Cond.fieldLink RX1 76 "LaundryService$Keyword" "word" "Ljava/lang/String;") ∈ fw_U := fw_inU (i := 1581) (by decide +kernel) (by decide +kernel)
theorem m_946 : (Cond.code yX1_sameLetters cX1_sameLetters 3 (some .int)) ∈ fw_U := fw_inU (i := 946) (by decide +kernel) (by decide +kernel)
theorem m_943 : (Cond.methodLink RX1 80 yX1_sameLetters) ∈ fw_U := fw_inU (i := 943) (by decide +kernel) (by decide +kernel)
theorem m_944 : (Cond.instanceMethod yX1_sameLetters) ∈ fw_U := fw_inU (i := 944) (by decide +kernel) (by decide +kernel)
theorem m_945 : (Cond.selects RX1 yX1_sameLetters yX1_sameLetters) ∈ fw_U := fw_inU (i := 945) (by decide +kernel) (by decide +kernel)
theorem m_995 : (Cond.methodLink RX1 89 yJ9_max_7cf53) ∈ fw_U := fw_inU (i := 995) (by decide +kernel) (by decide +kernel)
theorem m_940 : (Cond.code yX1_readKeyword cX1_readKeyword 5 (some (.object "LaundryService$Keyword"))) ∈ fw_U := fw_inU (i := 940) (by decide +kernel) (by decide +kernel)
theorem m_937 : (Cond.methodLink RX1 40 yX1_readKeyword) ∈ fw_U := fw_inU (i := 937) (by decide +kernel) (by decide +kernel)
theorem m_938 : (Cond.instanceMethod yX1_readKeyword) ∈ fw_U := fw_inU (i := 938) (by decide +kernel) (by decide +kernel)
theorem m_939 : (Cond.selects RX1 yX1_readKeyword yX1_readKeyword) ∈ fw_U := fw_inU (i := 939) (by decide +kernel) (by decide +kernel)
theorem m_137 : (Cond.fieldLink RX1 44 "LaundryService$Command" "keyword" "LLaundryService$Keyword;") ∈ fw_U := fw_inU (i := 137) (by decide +kernel) (by decide +kernel)
theorem m_1582 : (Cond.fieldLink RX1 48 "LaundryService$Keyword" "firstDigits" "I") ∈ fw_U := fw_inU (i := 1582) (by decide +kernel) (by decide +kernel)
theorem m_999 : (Cond.code yX1_readNumber cX1_readNumber 4 (some .int)) ∈ fw_U := fw_inU (i := 999) (by decide +kernel) (by decide +kernel)
theorem m_996 : (Cond.methodLink RX1 53 yX1_readNumber) ∈ fw_U := fw_inU (i := 996) (by decide +kernel) (by decide +kernel)
theorem m_997 : (Cond.instanceMethod yX1_readNumber) ∈ fw_U := fw_inU (i := 997) (by decide +kernel) (by decide +kernel)
theorem m_998 : (Cond.selects RX1 yX1_readNumber yX1_readNumber) ∈ fw_U := fw_inU (i := 998) (by decide +kernel) (by decide +kernel)
theorem m_140 : (Cond.fieldLink RX1 57 "LaundryService$Command" "first" "I") ∈ fw_U := fw_inU (i := 140) (by decide +kernel) (by decide +kernel)
theorem m_1583 : (Cond.fieldLink RX1 60 "LaundryService$Keyword" "secondDigits" "I") ∈ fw_U := fw_inU (i := 1583) (by decide +kernel) (by decide +kernel)
theorem m_143 : (Cond.fieldLink RX1 63 "LaundryService$Command" "second" "I") ∈ fw_U := fw_inU (i := 143) (by decide +kernel) (by decide +kernel)
theorem m_1584 : (Cond.fieldLink RX1 66 "LaundryService$Keyword" "thirdDigits" "I") ∈ fw_U := fw_inU (i := 1584) (by decide +kernel) (by decide +kernel)
theorem m_146 : (Cond.fieldLink RX1 69 "LaundryService$Command" "third" "I") ∈ fw_U := fw_inU (i := 146) (by decide +kernel) (by decide +kernel)
theorem m_165 : (Cond.fieldLink RX1 28 "LaundryService$CommandText" "commandCount" "I") ∈ fw_U := fw_inU (i := 165) (by decide +kernel) (by decide +kernel)
theorem m_163 : (Cond.fieldLink RX1 24 "LaundryService$CommandText" "commands" "[LLaundryService$Command;") ∈ fw_U := fw_inU (i := 163) (by decide +kernel) (by decide +kernel)
theorem m_936 : (Cond.code yX1_readCommand cX1_readCommand 3 (some .boolean)) ∈ fw_U := fw_inU (i := 936) (by decide +kernel) (by decide +kernel)
theorem m_933 : (Cond.methodLink RX1 32 yX1_readCommand) ∈ fw_U := fw_inU (i := 933) (by decide +kernel) (by decide +kernel)
theorem m_934 : (Cond.instanceMethod yX1_readCommand) ∈ fw_U := fw_inU (i := 934) (by decide +kernel) (by decide +kernel)
theorem m_935 : (Cond.selects RX1 yX1_readCommand yX1_readCommand) ∈ fw_U := fw_inU (i := 935) (by decide +kernel) (by decide +kernel)
theorem m_932 : (Cond.code yX1_parse cX1_parse 2 (some .boolean)) ∈ fw_U := fw_inU (i := 932) (by decide +kernel) (by decide +kernel)
theorem m_929 : (Cond.methodLink RX9 258 yX1_parse) ∈ fw_U := fw_inU (i := 929) (by decide +kernel) (by decide +kernel)
theorem m_930 : (Cond.instanceMethod yX1_parse) ∈ fw_U := fw_inU (i := 930) (by decide +kernel) (by decide +kernel)
theorem m_931 : (Cond.selects RX1 yX1_parse yX1_parse) ∈ fw_U := fw_inU (i := 931) (by decide +kernel) (by decide +kernel)
theorem m_1011 : (Cond.code yX1_empty cX1_empty 1 none) ∈ fw_U := fw_inU (i := 1011) (by decide +kernel) (by decide +kernel)
theorem m_1008 : (Cond.methodLink RX9 261 yX1_empty) ∈ fw_U := fw_inU (i := 1008) (by decide +kernel) (by decide +kernel)
theorem m_1009 : (Cond.instanceMethod yX1_empty) ∈ fw_U := fw_inU (i := 1009) (by decide +kernel) (by decide +kernel)
theorem m_1010 : (Cond.selects RX1 yX1_empty yX1_empty) ∈ fw_U := fw_inU (i := 1010) (by decide +kernel) (by decide +kernel)
theorem m_162 : (Cond.fieldLink RX9 264 "LaundryService$CommandText" "position" "I") ∈ fw_U := fw_inU (i := 162) (by decide +kernel) (by decide +kernel)
theorem m_1013 : (Cond.methodLink RX9 272 yX3_prepare) ∈ fw_U := fw_inU (i := 1013) (by decide +kernel) (by decide +kernel)
theorem m_1017 : (Cond.code yX9_carryOutUntilFault cX9_carryOutUntilFault 3 (some .int)) ∈ fw_U := fw_inU (i := 1017) (by decide +kernel) (by decide +kernel)
theorem m_1014 : (Cond.methodLink RX9 275 yX9_carryOutUntilFault) ∈ fw_U := fw_inU (i := 1014) (by decide +kernel) (by decide +kernel)
theorem m_1016 : (Cond.instanceMethod yX9_carryOutUntilFault) ∈ fw_U := fw_inU (i := 1016) (by decide +kernel) (by decide +kernel)
theorem ms_7 : (Cond.selects RX9 yX9_carryOutUntilFault yX9_carryOutUntilFault) ∈ fw_U := fw_inS (i := 7) (by decide +kernel) (by decide +kernel)
theorem m_1042 : (Cond.methodLink RX9 287 yX3_keepPrepared) ∈ fw_U := fw_inU (i := 1042) (by decide +kernel) (by decide +kernel)
theorem m_1040 : (Cond.code yX3_takePreparedBack cX3_takePreparedBack 2 none) ∈ fw_U := fw_inU (i := 1040) (by decide +kernel) (by decide +kernel)
theorem m_1037 : (Cond.methodLink RX9 282 yX3_takePreparedBack) ∈ fw_U := fw_inU (i := 1037) (by decide +kernel) (by decide +kernel)
theorem m_1038 : (Cond.instanceMethod yX3_takePreparedBack) ∈ fw_U := fw_inU (i := 1038) (by decide +kernel) (by decide +kernel)
theorem m_1039 : (Cond.selects RX3 yX3_takePreparedBack yX3_takePreparedBack) ∈ fw_U := fw_inU (i := 1039) (by decide +kernel) (by decide +kernel)
theorem m_1362 : (Cond.methodLink RX10 164 yJ0_charAt_5068e) ∈ fw_U := fw_inU (i := 1362) (by decide +kernel) (by decide +kernel)
theorem m_1506 : (Cond.methodLink RX10 197 yJ0_length_8abf5) ∈ fw_U := fw_inU (i := 1506) (by decide +kernel) (by decide +kernel)
theorem m_1136 : (Cond.fieldLink RX10 200 "LaundryServiceModel" "isWrong" "Z") ∈ fw_U := fw_inU (i := 1136) (by decide +kernel) (by decide +kernel)
theorem m_1496 : (Cond.code yX10_here cX10_here 2 (some .int)) ∈ fw_U := fw_inU (i := 1496) (by decide +kernel) (by decide +kernel)
theorem m_1493 : (Cond.methodLink RX10 204 yX10_here) ∈ fw_U := fw_inU (i := 1493) (by decide +kernel) (by decide +kernel)
theorem m_1495 : (Cond.instanceMethod yX10_here) ∈ fw_U := fw_inU (i := 1495) (by decide +kernel) (by decide +kernel)
theorem ms_41 : (Cond.selects RX10 yX10_here yX10_here) ∈ fw_U := fw_inS (i := 41) (by decide +kernel) (by decide +kernel)
theorem m_1505 : (Cond.code yX10_says cX10_says 3 none) ∈ fw_U := fw_inU (i := 1505) (by decide +kernel) (by decide +kernel)
theorem m_1502 : (Cond.methodLink RX10 209 yX10_says) ∈ fw_U := fw_inU (i := 1502) (by decide +kernel) (by decide +kernel)
theorem m_1504 : (Cond.instanceMethod yX10_says) ∈ fw_U := fw_inU (i := 1504) (by decide +kernel) (by decide +kernel)
theorem ms_43 : (Cond.selects RX10 yX10_says yX10_says) ∈ fw_U := fw_inS (i := 43) (by decide +kernel) (by decide +kernel)
theorem m_1125 : (Cond.fieldLink RX10 25 "LaundryServiceModel" "told" "[I") ∈ fw_U := fw_inU (i := 1125) (by decide +kernel) (by decide +kernel)
theorem m_1135 : (Cond.fieldLink RX10 213 "LaundryServiceModel" "commands" "I") ∈ fw_U := fw_inU (i := 1135) (by decide +kernel) (by decide +kernel)
theorem m_1510 : (Cond.code yX10_number cX10_number 5 none) ∈ fw_U := fw_inU (i := 1510) (by decide +kernel) (by decide +kernel)
theorem m_1507 : (Cond.methodLink RX10 216 yX10_number) ∈ fw_U := fw_inU (i := 1507) (by decide +kernel) (by decide +kernel)
theorem m_1509 : (Cond.instanceMethod yX10_number) ∈ fw_U := fw_inU (i := 1509) (by decide +kernel) (by decide +kernel)
theorem ms_44 : (Cond.selects RX10 yX10_number yX10_number) ∈ fw_U := fw_inS (i := 44) (by decide +kernel) (by decide +kernel)
theorem m_1501 : (Cond.code yX10_one cX10_one 5 none) ∈ fw_U := fw_inU (i := 1501) (by decide +kernel) (by decide +kernel)
theorem m_1498 : (Cond.methodLink RX10 222 yX10_one) ∈ fw_U := fw_inU (i := 1498) (by decide +kernel) (by decide +kernel)
theorem m_1500 : (Cond.instanceMethod yX10_one) ∈ fw_U := fw_inU (i := 1500) (by decide +kernel) (by decide +kernel)
theorem ms_42 : (Cond.selects RX10 yX10_one yX10_one) ∈ fw_U := fw_inS (i := 42) (by decide +kernel) (by decide +kernel)
theorem m_1492 : (Cond.code yX10_readsOne cX10_readsOne 1 none) ∈ fw_U := fw_inU (i := 1492) (by decide +kernel) (by decide +kernel)
theorem m_1489 : (Cond.methodLink RX10 235 yX10_readsOne) ∈ fw_U := fw_inU (i := 1489) (by decide +kernel) (by decide +kernel)
theorem m_1491 : (Cond.instanceMethod yX10_readsOne) ∈ fw_U := fw_inU (i := 1491) (by decide +kernel) (by decide +kernel)
theorem ms_40 : (Cond.selects RX10 yX10_readsOne yX10_readsOne) ∈ fw_U := fw_inS (i := 40) (by decide +kernel) (by decide +kernel)
theorem m_1520 : (Cond.code yX10_does cX10_does 4 (some .int)) ∈ fw_U := fw_inU (i := 1520) (by decide +kernel) (by decide +kernel)
theorem m_1517 : (Cond.methodLink RX10 238 yX10_does) ∈ fw_U := fw_inU (i := 1517) (by decide +kernel) (by decide +kernel)
theorem m_1519 : (Cond.instanceMethod yX10_does) ∈ fw_U := fw_inU (i := 1519) (by decide +kernel) (by decide +kernel)
theorem ms_45 : (Cond.selects RX10 yX10_does yX10_does) ∈ fw_U := fw_inS (i := 45) (by decide +kernel) (by decide +kernel)
def f_J0_coder_7d493 (μ : fw_M) (k0 : Nat) : Option Int32 :=
  some (0 : Int32)
def f_J0_length_8abf5 (μ : fw_M) (k0 : Nat) : Option Int32 :=
  fw_b1 (f_J0_coder_7d493 μ k0) (fun r1 =>
  some ((nI (fw_sl k0)) >>> (r1 &&& (31 : Int32))))
def f_J0_isLatin1_aae02 (μ : fw_M) (k0 : Nat) : Option Int32 :=
  some (1 : Int32)
def f_J3_checkIndex_8e157 (μ : fw_M) (x0 : Int32) (x1 : Int32) : Option Int32 :=
  if x0 < 0 then
    none
  else
    if x0 < x1 then
      some x0
    else
      none
def f_J0_checkIndex_df160 (μ : fw_M) (x0 : Int32) (x1 : Int32) : Option Unit :=
  fw_b1 (f_J3_checkIndex_8e157 μ x0 x1) (fun r1 =>
  some ())
def f_J1_charAt_3b067 (μ : fw_M) (k0 : Nat) (x1 : Int32) : Option Int32 :=
  fw_b1 (f_J0_checkIndex_df160 μ x1 (nI (fw_sl k0))) (fun r1 =>
  fw_g (fw_in x1 (fw_sl k0)) (
  some ((((fw_sc k0 x1.toNatClampNeg) &&& (255 : Int32)).toUInt32 % 65536).toInt32)))
def f_J0_charAt_5068e (μ : fw_M) (k0 : Nat) (x1 : Int32) : Option Int32 :=
  fw_b1 (f_J0_isLatin1_aae02 μ k0) (fun r1 =>
  if r1 = 0 then
    none
  else
    fw_b1 (f_J1_charAt_3b067 μ k0 x1) (fun r3 =>
    fw_g (fw_ch r3) (some r3)))
def f_X1_sameLetters_L2 (μ : fw_M) (k0 : Nat) : Nat → Int32 → Option Int32
  | 0, _ => none
  | n + 1, x2 =>
    fw_b1 (f_J0_length_8abf5 μ k0) (fun r1 =>
    if r1 ≤ x2 then
      some x2
    else
      if (μ 0 13 1) ≤ ((μ 0 13 2) + x2) then
        some x2
      else
        fw_g (fw_in ((μ 0 13 2) + x2) 60) (
        fw_b1 (f_J0_charAt_5068e μ k0 x2) (fun r5 =>
        if (μ 0 14 ((μ 0 13 2) + x2).toNatClampNeg) = r5 then
          f_X1_sameLetters_L2 μ k0 n (x2 + (1 : Int32))
        else
          some x2)))
def f_X1_sameLetters (μ : fw_M) (k0 : Nat) : Option Int32 :=
  f_X1_sameLetters_L2 μ k0 1000 (0 : Int32)
def f_X1_readKeyword_L4 : Nat → fw_M → Int32 → Int32 → Option (fw_M × Int32)
  | 0, _, _, _ => none
  | n + 1, μ, x1, x2 =>
    if (6 : Int32) ≤ x2 then
      fw_l (fw_u μ 0 13 2 ((μ 0 13 2) + x1)) (fun μ2 =>
      some (μ2, (-1 : Int32)))
    else
      fw_g (fw_in x2 6) (
      fw_b1 (f_X1_sameLetters μ (x2.toNatClampNeg)) (fun r4 =>
      fw_b1 (f_J0_length_8abf5 μ (x2.toNatClampNeg)) (fun r5 =>
      if r4 = r5 then
        fw_l (fw_u μ 0 13 2 ((μ 0 13 2) + r4)) (fun μ7 =>
        some (μ7, x2))
      else
        f_X1_readKeyword_L4 n μ (if x1 < r4 then r4 else x1) (x2 + (1 : Int32)))))
def f_X1_readKeyword (μ : fw_M) : Option (fw_M × Int32) :=
  f_X1_readKeyword_L4 1000 μ (0 : Int32) (0 : Int32)
def f_X1_readCommand (μ : fw_M) (j0 : Nat) : Option (fw_M × Int32) :=
  fw_b2 (f_X1_readKeyword μ) (fun μ1 r1 =>
  if r1 < 0 then
    some (μ1, (0 : Int32))
  else
  fw_g (fw_in r1 6) (
  fw_l (fw_u μ1 j0 9 0 r1) (fun μ3 =>
  fw_b2 (f_X1_readNumber μ3 (fw_kd 0 (r1.toNatClampNeg))) (fun μ4 r4 =>
  fw_l (fw_u μ4 j0 9 1 r4) (fun μ5 =>
  if 0 ≤ (μ5 j0 9 1) then
    fw_b2 (f_X1_readNumber μ5 (fw_kd 1 (r1.toNatClampNeg))) (fun μ7 r7 =>
    fw_l (fw_u μ7 j0 9 2 r7) (fun μ8 =>
    if 0 ≤ (μ8 j0 9 2) then
      fw_b2 (f_X1_readNumber μ8 (fw_kd 2 (r1.toNatClampNeg))) (fun μ10 r10 =>
      fw_l (fw_u μ10 j0 9 3 r10) (fun μ11 =>
      if (μ11 j0 9 3) < 0 then
        some (μ11, (0 : Int32))
      else
        some (μ11, (1 : Int32))))
    else
      some (μ8, (0 : Int32))))
  else
    some (μ5, (0 : Int32)))))))
def f_X1_parse_L12 : Nat → fw_M → Int32 → Option (fw_M × Int32)
  | 0, _, _ => none
  | n + 1, μ, x1 =>
    if (12 : Int32) ≤ x1 then
      some (μ, (0 : Int32))
    else
      fw_g (fw_in x1 12) (
      fw_b2 (f_X1_readCommand μ (x1.toNatClampNeg)) (fun μ5 r5 =>
      if r5 = 0 then
        some (μ5, (0 : Int32))
      else
        fw_l (fw_u μ5 0 13 4 ((μ5 0 13 4) + (1 : Int32))) (fun μ7 =>
        fw_b2 (f_X1_accept μ7 (59 : Int32)) (fun μ8 r8 =>
        if r8 = 0 then
          if (μ8 0 13 2) = (μ8 0 13 1) then
            some (μ8, (1 : Int32))
          else
            some (μ8, (0 : Int32))
        else
          f_X1_parse_L12 n μ8 (x1 + (1 : Int32))))))
def f_X1_parse (μ : fw_M) : Option (fw_M × Int32) :=
  fw_l (fw_u μ 0 13 2 (0 : Int32)) (fun μ1 =>
  fw_l (fw_u μ1 0 13 4 (0 : Int32)) (fun μ2 =>
  f_X1_parse_L12 1000 μ2 (0 : Int32)))
set_option maxHeartbeats 4000000 in
set_option maxRecDepth 100000 in
theorem k_J0_coder_7d493 (l : Launch) {E : fw_E} {o : Int64} {d : UInt64} (hE : fw_ok E) {μ : fw_M} {k0 : Nat} (hk0 : k0 < 8) {r : Int32} (h : f_J0_coder_7d493 μ k0 = some r) : Met l yJ0_coder_7d493 (fw_ws yJ0_coder_7d493 cJ0_coder_7d493 1 (some .byte)) ({ frames := 0, cells := 0, slots := 0, locals := 0 } : Room) (va_Pc [.ref (fw_x E 5 k0)] (fw_Pre E o d μ)) (fw_Q E o d (some (.int r)) μ) 0 0 (fw_A E) := by
  refine Met.ofW (cc := cJ0_coder_7d493) (maxL := 1) (ret := (some .byte)) (by decide) rfl ?_
  intro p e s m args below meth c s₁ B hml hv
  obtain ⟨ha, hK, hP, hSt⟩ := hv
  have hx := B.exec
  have hb := B.bytes
  have hr := B.returns
  have hts := atoms_spec (ws := fw_ws yJ0_coder_7d493 cJ0_coder_7d493 1 (some .byte)) B.pre
  have hU : ∀ w ∈ fw_U, w.before args s = true := fun w hw => hts w (List.mem_cons_of_mem _ hw)
  have hown : s.vm.findClass RJ0 = some m.cls := findClass_of_methodNamed B.named
  have hlocks := B.notSynchronized
  have EN : ∀ (H : Heap) (locs : List Loc) (ls : Array Slot), fw_P E o d μ H → va_S (fw_A E) s.heap H locs → lv_has ls 1 [(0, .ref (fw_x E 5 k0))] → W p l e (headSpec (fw_ws yJ0_coder_7d493 cJ0_coder_7d493 1 (some .byte)) ({ frames := 0, cells := 0, slots := 0, locals := 0 } : Room)).room s m args below meth c H locs 0 0 (MQ below (fw_Q E o d (some (.int r)) μ) args s 0 0 (fw_A E)) (F0 m 0 ls []) := by
    intro H locs ls hP hS hl
    unfold f_J0_coder_7d493 at h
    refine va_gets (v := .int (1 : Int32)) hx hb (hSt.2.1 _ (List.mem_of_getElem? (i := 12) rfl)) hS hown (hU (Cond.fieldLink RJ0 38 "java/lang/String" "COMPACT_STRINGS" "Z") m_955) (fun _ h9 => h9) dJ0_coder_7d493_0 ?_
    refine lv_if_eq (tgt := 13) hx hb dJ0_coder_7d493_3 (by decide) (fun c1 => absurd c1 (by decide)) (fun c1 => ?_)
    refine lv_aload_n hx hb dJ0_coder_7d493_6 rfl (lv_at hl 0 rfl) ?_
    refine vk_getf (v := .int (0 : Int32)) hx hb (hSt.2.2.2.2.1.2 _ hk0).2.1 hS hown (hU (Cond.fieldLink RJ0 15 "java/lang/String" "coder" "B") m_1579) (fun _ h9 => h9) dJ0_coder_7d493_7 ?_
    refine lv_goto (tgt := 14) hx hb dJ0_coder_7d493_10 (by decide) ?_
    exact W.zret (v := (0 : Int32)) hx hb hr rfl (fw_er (mk := Value.int) h hP hS) hS.2.2 dJ0_coder_7d493_14
  subst ha
  have hl := lv_entry ([.ref (fw_x E 5 k0)]) (n := 1) (Nat.le_of_ble_eq_true rfl)
  rw [lg_entry_eq]
  generalize (lg_sl ([.ref (fw_x E 5 k0)]) ++ List.replicate (1 - (lg_sl ([.ref (fw_x E 5 k0)])).length) Slot.unset).toArray = ls at hl ⊢
  exact EN s.heap [] ls hP va_S.rf hl
set_option maxHeartbeats 4000000 in
set_option maxRecDepth 100000 in
theorem k_J0_length_8abf5 (l : Launch) {E : fw_E} {o : Int64} {d : UInt64} (hE : fw_ok E) {μ : fw_M} {k0 : Nat} (hk0 : k0 < 8) {r : Int32} (h : f_J0_length_8abf5 μ k0 = some r) : Met l yJ0_length_8abf5 (fw_ws yJ0_length_8abf5 cJ0_length_8abf5 1 (some .int)) ({ frames := 1, cells := 0, slots := 0, locals := 20 } : Room) (va_Pc [.ref (fw_x E 5 k0)] (fw_Pre E o d μ)) (fw_Q E o d (some (.int r)) μ) 0 0 (fw_A E) := by
  refine Met.ofW (cc := cJ0_length_8abf5) (maxL := 1) (ret := (some .int)) (by decide) rfl ?_
  intro p e s m args below meth c s₁ B hml hv
  obtain ⟨ha, hK, hP, hSt⟩ := hv
  have hx := B.exec
  have hb := B.bytes
  have hr := B.returns
  have hts := atoms_spec (ws := fw_ws yJ0_length_8abf5 cJ0_length_8abf5 1 (some .int)) B.pre
  have hU : ∀ w ∈ fw_U, w.before args s = true := fun w hw => hts w (List.mem_cons_of_mem _ hw)
  have hown : s.vm.findClass RJ0 = some m.cls := findClass_of_methodNamed B.named
  have hlocks := B.notSynchronized
  have EN : ∀ (H : Heap) (locs : List Loc) (ls : Array Slot), fw_P E o d μ H → va_S (fw_A E) s.heap H locs → lv_has ls 1 [(0, .ref (fw_x E 5 k0))] → W p l e (headSpec (fw_ws yJ0_length_8abf5 cJ0_length_8abf5 1 (some .int)) ({ frames := 1, cells := 0, slots := 0, locals := 20 } : Room)).room s m args below meth c H locs 0 0 (MQ below (fw_Q E o d (some (.int r)) μ) args s 0 0 (fw_A E)) (F0 m 0 ls []) := by
    intro H locs ls hP hS hl
    unfold f_J0_length_8abf5 at h
    refine lv_aload_n hx hb dJ0_length_8abf5_0 rfl (lv_at hl 0 rfl) ?_
    refine vk_getf (v := .ref (fw_x E 6 k0)) hx hb (hSt.2.2.2.2.1.2 _ hk0).2.2.1 hS hown (hU (Cond.fieldLink RJ0 9 "java/lang/String" "value" "[B") m_1580) (fun _ h9 => h9) dJ0_length_8abf5_1 ?_
    refine va_tlen (v := nI (fw_sl k0)) hx hb (hSt.2.2.2.2.1.2 _ hk0).2.2.2 hS rfl dJ0_length_8abf5_4 ?_
    refine lv_aload_n hx hb dJ0_length_8abf5_5 rfl (lv_at hl 0 rfl) ?_
    obtain ⟨r1, hc1, h⟩ := fw_b1_e h
    refine fw_ret (va_runV (As := []) (rest := [.int (nI (fw_sl k0))]) ⟨hx, hb, hml, hown, hU⟩ (k_J0_coder_7d493 l hE hk0 hc1) (cwV 0 hU (fw_gV m_951 m_952 m_953 m_15 m_954) rfl rfl rfl (by decide +kernel) ⟨(Nat.le_of_ble_eq_true rfl), (Nat.le_of_ble_eq_true rfl)⟩) ⟨fw_blind, fw_srecv hSt hS hk0, fun U hU9 hW9 => ⟨rfl, fw_pre hK hP hSt hS U hU9 hW9⟩⟩ rfl rfl hl.1 rfl (lv_room (Nat.le_of_ble_eq_true rfl)) dJ0_length_8abf5_6 ⟨Nat.zero_le _, Nat.zero_le _⟩) hS (fun H locs hP hS => ?_)
    refine lv_ishr hx hb dJ0_length_8abf5_9 ?_
    exact W.iret (v := ((nI (fw_sl k0)) >>> (r1 &&& (31 : Int32)))) hx hb hr (fw_er (mk := Value.int) h hP hS) hS.2.2 dJ0_length_8abf5_10
  subst ha
  have hl := lv_entry ([.ref (fw_x E 5 k0)]) (n := 1) (Nat.le_of_ble_eq_true rfl)
  rw [lg_entry_eq]
  generalize (lg_sl ([.ref (fw_x E 5 k0)]) ++ List.replicate (1 - (lg_sl ([.ref (fw_x E 5 k0)])).length) Slot.unset).toArray = ls at hl ⊢
  exact EN s.heap [] ls hP va_S.rf hl
set_option maxHeartbeats 4000000 in
set_option maxRecDepth 100000 in
theorem k_J0_isLatin1_aae02 (l : Launch) {E : fw_E} {o : Int64} {d : UInt64} (hE : fw_ok E) {μ : fw_M} {k0 : Nat} (hk0 : k0 < 8) {r : Int32} (h : f_J0_isLatin1_aae02 μ k0 = some r) : Met l yJ0_isLatin1_aae02 (fw_ws yJ0_isLatin1_aae02 cJ0_isLatin1_aae02 1 (some .boolean)) ({ frames := 0, cells := 0, slots := 0, locals := 0 } : Room) (va_Pc [.ref (fw_x E 5 k0)] (fw_Pre E o d μ)) (fw_Q E o d (some (.int r)) μ) 0 0 (fw_A E) := by
  refine Met.ofW (cc := cJ0_isLatin1_aae02) (maxL := 1) (ret := (some .boolean)) (by decide) rfl ?_
  intro p e s m args below meth c s₁ B hml hv
  obtain ⟨ha, hK, hP, hSt⟩ := hv
  have hx := B.exec
  have hb := B.bytes
  have hr := B.returns
  have hts := atoms_spec (ws := fw_ws yJ0_isLatin1_aae02 cJ0_isLatin1_aae02 1 (some .boolean)) B.pre
  have hU : ∀ w ∈ fw_U, w.before args s = true := fun w hw => hts w (List.mem_cons_of_mem _ hw)
  have hown : s.vm.findClass RJ0 = some m.cls := findClass_of_methodNamed B.named
  have hlocks := B.notSynchronized
  have EN : ∀ (H : Heap) (locs : List Loc) (ls : Array Slot), fw_P E o d μ H → va_S (fw_A E) s.heap H locs → lv_has ls 1 [(0, .ref (fw_x E 5 k0))] → W p l e (headSpec (fw_ws yJ0_isLatin1_aae02 cJ0_isLatin1_aae02 1 (some .boolean)) ({ frames := 0, cells := 0, slots := 0, locals := 0 } : Room)).room s m args below meth c H locs 0 0 (MQ below (fw_Q E o d (some (.int r)) μ) args s 0 0 (fw_A E)) (F0 m 0 ls []) := by
    intro H locs ls hP hS hl
    unfold f_J0_isLatin1_aae02 at h
    refine va_gets (v := .int (1 : Int32)) hx hb (hSt.2.1 _ (List.mem_of_getElem? (i := 12) rfl)) hS hown (hU (Cond.fieldLink RJ0 38 "java/lang/String" "COMPACT_STRINGS" "Z") m_955) (fun _ h9 => h9) dJ0_isLatin1_aae02_0 ?_
    refine lv_if_eq (tgt := 17) hx hb dJ0_isLatin1_aae02_3 (by decide) (fun c1 => absurd c1 (by decide)) (fun c1 => ?_)
    refine lv_aload_n hx hb dJ0_isLatin1_aae02_6 rfl (lv_at hl 0 rfl) ?_
    refine vk_getf (v := .int (0 : Int32)) hx hb (hSt.2.2.2.2.1.2 _ hk0).2.1 hS hown (hU (Cond.fieldLink RJ0 15 "java/lang/String" "coder" "B") m_1579) (fun _ h9 => h9) dJ0_isLatin1_aae02_7 ?_
    refine lv_if_ne (tgt := 17) hx hb dJ0_isLatin1_aae02_10 (by decide) (fun c2 => absurd c2 (by decide)) (fun c2 => ?_)
    refine lv_iconst (v := (1 : Int32)) hx hb dJ0_isLatin1_aae02_13 (by decide) ?_
    refine lv_goto (tgt := 18) hx hb dJ0_isLatin1_aae02_14 (by decide) ?_
    exact W.zret (v := (1 : Int32)) hx hb hr rfl (fw_er (mk := Value.int) h hP hS) hS.2.2 dJ0_isLatin1_aae02_18
  subst ha
  have hl := lv_entry ([.ref (fw_x E 5 k0)]) (n := 1) (Nat.le_of_ble_eq_true rfl)
  rw [lg_entry_eq]
  generalize (lg_sl ([.ref (fw_x E 5 k0)]) ++ List.replicate (1 - (lg_sl ([.ref (fw_x E 5 k0)])).length) Slot.unset).toArray = ls at hl ⊢
  exact EN s.heap [] ls hP va_S.rf hl
set_option maxHeartbeats 4000000 in
set_option maxRecDepth 100000 in
theorem k_J3_checkIndex_8e157_n (l : Launch) {E : fw_E} {o : Int64} {d : UInt64} (hE : fw_ok E) {μ : fw_M} (x0 : Int32) (x1 : Int32) {r : Int32} (h : f_J3_checkIndex_8e157 μ x0 x1 = some r) : Met l yJ3_checkIndex_8e157 (fw_ws yJ3_checkIndex_8e157 cJ3_checkIndex_8e157 3 (some .int)) ({ frames := 0, cells := 0, slots := 0, locals := 0 } : Room) (va_Pc [.int x0, .int x1, .null] (fw_Pre E o d μ)) (fw_Q E o d (some (.int r)) μ) 0 0 (fw_A E) := by
  refine Met.ofW (cc := cJ3_checkIndex_8e157) (maxL := 3) (ret := (some .int)) (by decide) rfl ?_
  intro p e s m args below meth c s₁ B hml hv
  obtain ⟨ha, hK, hP, hSt⟩ := hv
  have hx := B.exec
  have hb := B.bytes
  have hr := B.returns
  have hts := atoms_spec (ws := fw_ws yJ3_checkIndex_8e157 cJ3_checkIndex_8e157 3 (some .int)) B.pre
  have hU : ∀ w ∈ fw_U, w.before args s = true := fun w hw => hts w (List.mem_cons_of_mem _ hw)
  have hown : s.vm.findClass RJ3 = some m.cls := findClass_of_methodNamed B.named
  have hlocks := B.notSynchronized
  have EN : ∀ (H : Heap) (locs : List Loc) (ls : Array Slot), fw_P E o d μ H → va_S (fw_A E) s.heap H locs → lv_has ls 3 [(0, .int x0), (1, .int x1), (2, .null)] → W p l e (headSpec (fw_ws yJ3_checkIndex_8e157 cJ3_checkIndex_8e157 3 (some .int)) ({ frames := 0, cells := 0, slots := 0, locals := 0 } : Room)).room s m args below meth c H locs 0 0 (MQ below (fw_Q E o d (some (.int r)) μ) args s 0 0 (fw_A E)) (F0 m 0 ls []) := by
    intro H locs ls hP hS hl
    unfold f_J3_checkIndex_8e157 at h
    refine lv_iload_n hx hb dJ3_checkIndex_8e157_0 rfl (lv_at hl 0 rfl) ?_
    refine lv_if_lt (tgt := 9) hx hb dJ3_checkIndex_8e157_1 (by decide) (fun c1 => ?_) (fun c1 => ?_)
    · rw [if_pos c1] at h
      refine lv_aload_nN hx hb dJ3_checkIndex_8e157_9 rfl (lv_at hl 2 rfl) ?_
      refine lv_iload_n hx hb dJ3_checkIndex_8e157_10 rfl (lv_at hl 0 rfl) ?_
      refine lv_iload_n hx hb dJ3_checkIndex_8e157_11 rfl (lv_at hl 1 rfl) ?_
      cases h
    · rw [if_neg c1] at h
      refine lv_iload_n hx hb dJ3_checkIndex_8e157_4 rfl (lv_at hl 0 rfl) ?_
      refine lv_iload_n hx hb dJ3_checkIndex_8e157_5 rfl (lv_at hl 1 rfl) ?_
      refine lv_icmp_lt (tgt := 16) hx hb dJ3_checkIndex_8e157_6 (by decide) (fun c2 => ?_) (fun c2 => ?_)
      · rw [if_pos c2] at h
        refine lv_iload_n hx hb dJ3_checkIndex_8e157_16 rfl (lv_at hl 0 rfl) ?_
        exact W.iret (v := x0) hx hb hr (fw_er (mk := Value.int) h hP hS) hS.2.2 dJ3_checkIndex_8e157_17
      · rw [if_neg c2] at h
        refine lv_aload_nN hx hb dJ3_checkIndex_8e157_9 rfl (lv_at hl 2 rfl) ?_
        refine lv_iload_n hx hb dJ3_checkIndex_8e157_10 rfl (lv_at hl 0 rfl) ?_
        refine lv_iload_n hx hb dJ3_checkIndex_8e157_11 rfl (lv_at hl 1 rfl) ?_
        cases h
  subst ha
  have hl := lv_entry ([.int x0, .int x1, .null]) (n := 3) (Nat.le_of_ble_eq_true rfl)
  rw [lg_entry_eq]
  generalize (lg_sl ([.int x0, .int x1, .null]) ++ List.replicate (3 - (lg_sl ([.int x0, .int x1, .null])).length) Slot.unset).toArray = ls at hl ⊢
  exact EN s.heap [] ls hP va_S.rf hl
set_option maxHeartbeats 4000000 in
set_option maxRecDepth 100000 in
theorem k_J3_checkIndex_8e157_r {t9 : Nat} (l : Launch) {E : fw_E} {o : Int64} {d : UInt64} (hE : fw_ok E) {μ : fw_M} (x0 : Int32) (x1 : Int32) {r : Int32} (h : f_J3_checkIndex_8e157 μ x0 x1 = some r) : Met l yJ3_checkIndex_8e157 (fw_ws yJ3_checkIndex_8e157 cJ3_checkIndex_8e157 3 (some .int)) ({ frames := 0, cells := 0, slots := 0, locals := 0 } : Room) (va_Pc [.int x0, .int x1, .ref t9] (fw_Pre E o d μ)) (fw_Q E o d (some (.int r)) μ) 0 0 (fw_A E) := by
  refine Met.ofW (cc := cJ3_checkIndex_8e157) (maxL := 3) (ret := (some .int)) (by decide) rfl ?_
  intro p e s m args below meth c s₁ B hml hv
  obtain ⟨ha, hK, hP, hSt⟩ := hv
  have hx := B.exec
  have hb := B.bytes
  have hr := B.returns
  have hts := atoms_spec (ws := fw_ws yJ3_checkIndex_8e157 cJ3_checkIndex_8e157 3 (some .int)) B.pre
  have hU : ∀ w ∈ fw_U, w.before args s = true := fun w hw => hts w (List.mem_cons_of_mem _ hw)
  have hown : s.vm.findClass RJ3 = some m.cls := findClass_of_methodNamed B.named
  have hlocks := B.notSynchronized
  have EN : ∀ (H : Heap) (locs : List Loc) (ls : Array Slot), fw_P E o d μ H → va_S (fw_A E) s.heap H locs → lv_has ls 3 [(0, .int x0), (1, .int x1), (2, .ref t9)] → W p l e (headSpec (fw_ws yJ3_checkIndex_8e157 cJ3_checkIndex_8e157 3 (some .int)) ({ frames := 0, cells := 0, slots := 0, locals := 0 } : Room)).room s m args below meth c H locs 0 0 (MQ below (fw_Q E o d (some (.int r)) μ) args s 0 0 (fw_A E)) (F0 m 0 ls []) := by
    intro H locs ls hP hS hl
    unfold f_J3_checkIndex_8e157 at h
    refine lv_iload_n hx hb dJ3_checkIndex_8e157_0 rfl (lv_at hl 0 rfl) ?_
    refine lv_if_lt (tgt := 9) hx hb dJ3_checkIndex_8e157_1 (by decide) (fun c1 => ?_) (fun c1 => ?_)
    · rw [if_pos c1] at h
      refine lv_aload_n hx hb dJ3_checkIndex_8e157_9 rfl (lv_at hl 2 rfl) ?_
      refine lv_iload_n hx hb dJ3_checkIndex_8e157_10 rfl (lv_at hl 0 rfl) ?_
      refine lv_iload_n hx hb dJ3_checkIndex_8e157_11 rfl (lv_at hl 1 rfl) ?_
      cases h
    · rw [if_neg c1] at h
      refine lv_iload_n hx hb dJ3_checkIndex_8e157_4 rfl (lv_at hl 0 rfl) ?_
      refine lv_iload_n hx hb dJ3_checkIndex_8e157_5 rfl (lv_at hl 1 rfl) ?_
      refine lv_icmp_lt (tgt := 16) hx hb dJ3_checkIndex_8e157_6 (by decide) (fun c2 => ?_) (fun c2 => ?_)
      · rw [if_pos c2] at h
        refine lv_iload_n hx hb dJ3_checkIndex_8e157_16 rfl (lv_at hl 0 rfl) ?_
        exact W.iret (v := x0) hx hb hr (fw_er (mk := Value.int) h hP hS) hS.2.2 dJ3_checkIndex_8e157_17
      · rw [if_neg c2] at h
        refine lv_aload_n hx hb dJ3_checkIndex_8e157_9 rfl (lv_at hl 2 rfl) ?_
        refine lv_iload_n hx hb dJ3_checkIndex_8e157_10 rfl (lv_at hl 0 rfl) ?_
        refine lv_iload_n hx hb dJ3_checkIndex_8e157_11 rfl (lv_at hl 1 rfl) ?_
        cases h
  subst ha
  have hl := lv_entry ([.int x0, .int x1, .ref t9]) (n := 3) (Nat.le_of_ble_eq_true rfl)
  rw [lg_entry_eq]
  generalize (lg_sl ([.int x0, .int x1, .ref t9]) ++ List.replicate (3 - (lg_sl ([.int x0, .int x1, .ref t9])).length) Slot.unset).toArray = ls at hl ⊢
  exact EN s.heap [] ls hP va_S.rf hl
set_option maxHeartbeats 4000000 in
set_option maxRecDepth 100000 in
theorem k_J0_checkIndex_df160 (l : Launch) {E : fw_E} {o : Int64} {d : UInt64} (hE : fw_ok E) {μ : fw_M} (x0 : Int32) (x1 : Int32) {r : Unit} (h : f_J0_checkIndex_df160 μ x0 x1 = some r) : Met l yJ0_checkIndex_df160 (fw_ws yJ0_checkIndex_df160 cJ0_checkIndex_df160 2 none) ({ frames := 1, cells := 0, slots := 0, locals := 22 } : Room) (va_Pc [.int x0, .int x1] (fw_Pre E o d μ)) (fw_Q E o d none μ) 0 0 (fw_A E) := by
  refine Met.ofW (cc := cJ0_checkIndex_df160) (maxL := 2) (ret := none) (by decide) rfl ?_
  intro p e s m args below meth c s₁ B hml hv
  obtain ⟨ha, hK, hP, hSt⟩ := hv
  have hx := B.exec
  have hb := B.bytes
  have hr := B.returns
  have hts := atoms_spec (ws := fw_ws yJ0_checkIndex_df160 cJ0_checkIndex_df160 2 none) B.pre
  have hU : ∀ w ∈ fw_U, w.before args s = true := fun w hw => hts w (List.mem_cons_of_mem _ hw)
  have hown : s.vm.findClass RJ0 = some m.cls := findClass_of_methodNamed B.named
  have hlocks := B.notSynchronized
  have EN : ∀ (H : Heap) (locs : List Loc) (ls : Array Slot), fw_P E o d μ H → va_S (fw_A E) s.heap H locs → lv_has ls 2 [(0, .int x0), (1, .int x1)] → W p l e (headSpec (fw_ws yJ0_checkIndex_df160 cJ0_checkIndex_df160 2 none) ({ frames := 1, cells := 0, slots := 0, locals := 22 } : Room)).room s m args below meth c H locs 0 0 (MQ below (fw_Q E o d none μ) args s 0 0 (fw_A E)) (F0 m 0 ls []) := by
    intro H locs ls hP hS hl
    unfold f_J0_checkIndex_df160 at h
    refine lv_iload_n hx hb dJ0_checkIndex_df160_0 rfl (lv_at hl 0 rfl) ?_
    refine lv_iload_n hx hb dJ0_checkIndex_df160_1 rfl (lv_at hl 1 rfl) ?_
    rcases (hSt.2.2.1 _ (List.mem_of_getElem? (i := 2) rfl)).1 with hz | ⟨t9, hz⟩
    · refine va_gets (v := .null) hx hb hz hS hown (hU (Cond.fieldLink RJ0 1053 "jdk/internal/util/Preconditions" "SIOOBE_FORMATTER" "Ljava/util/function/BiFunction;") m_971) (fun _ h9 => h9) dJ0_checkIndex_df160_2 ?_
      obtain ⟨r1, hc1, h⟩ := fw_b1_e h
      refine fw_ret (va_runS (As := [.int x0, .int x1, .null]) (rest := []) ⟨hx, hb, hml, hown, hU⟩ (k_J3_checkIndex_8e157_n l hE x0 x1 hc1) (va_cwS 3 hU (fw_gS m_973 m_974 m_26 m_975) rfl rfl rfl (by decide +kernel) ⟨(Nat.le_of_ble_eq_true rfl), (Nat.le_of_ble_eq_true rfl)⟩) ⟨fw_blind, fun U hU9 hW9 => ⟨rfl, fw_pre hK hP hSt hS U hU9 hW9⟩⟩ rfl rfl hl.1 rfl (lv_room (Nat.le_of_ble_eq_true rfl)) dJ0_checkIndex_df160_5 ⟨Nat.zero_le _, Nat.zero_le _⟩) hS (fun H locs hP hS => ?_)
      refine lv_pop hx hb dJ0_checkIndex_df160_8 rfl ?_
      exact W.vret hx hb hr (fw_er0 h hP hS) hS.2.2 dJ0_checkIndex_df160_9
    · refine va_gets (v := .ref t9) hx hb hz hS hown (hU (Cond.fieldLink RJ0 1053 "jdk/internal/util/Preconditions" "SIOOBE_FORMATTER" "Ljava/util/function/BiFunction;") m_971) (fun _ h9 => h9) dJ0_checkIndex_df160_2 ?_
      obtain ⟨r2, hc2, h⟩ := fw_b1_e h
      refine fw_ret (va_runS (As := [.int x0, .int x1, .ref t9]) (rest := []) ⟨hx, hb, hml, hown, hU⟩ (k_J3_checkIndex_8e157_r l hE x0 x1 hc2) (va_cwS 3 hU (fw_gS m_973 m_974 m_26 m_975) rfl rfl rfl (by decide +kernel) ⟨(Nat.le_of_ble_eq_true rfl), (Nat.le_of_ble_eq_true rfl)⟩) ⟨fw_blind, fun U hU9 hW9 => ⟨rfl, fw_pre hK hP hSt hS U hU9 hW9⟩⟩ rfl rfl hl.1 rfl (lv_room (Nat.le_of_ble_eq_true rfl)) dJ0_checkIndex_df160_5 ⟨Nat.zero_le _, Nat.zero_le _⟩) hS (fun H locs hP hS => ?_)
      refine lv_pop hx hb dJ0_checkIndex_df160_8 rfl ?_
      exact W.vret hx hb hr (fw_er0 h hP hS) hS.2.2 dJ0_checkIndex_df160_9
  subst ha
  have hl := lv_entry ([.int x0, .int x1]) (n := 2) (Nat.le_of_ble_eq_true rfl)
  rw [lg_entry_eq]
  generalize (lg_sl ([.int x0, .int x1]) ++ List.replicate (2 - (lg_sl ([.int x0, .int x1])).length) Slot.unset).toArray = ls at hl ⊢
  exact EN s.heap [] ls hP va_S.rf hl
set_option maxHeartbeats 4000000 in
set_option maxRecDepth 100000 in
theorem k_J1_charAt_3b067 (l : Launch) {E : fw_E} {o : Int64} {d : UInt64} (hE : fw_ok E) {μ : fw_M} {k0 : Nat} (hk0 : k0 < 8) (x1 : Int32) {r : Int32} (h : f_J1_charAt_3b067 μ k0 x1 = some r) : Met l yJ1_charAt_3b067 (fw_ws yJ1_charAt_3b067 cJ1_charAt_3b067 2 (some .char)) ({ frames := 2, cells := 0, slots := 0, locals := 43 } : Room) (va_Pc [.ref (fw_x E 6 k0), .int x1] (fw_Pre E o d μ)) (fw_Q E o d (some (.int r)) μ) 0 0 (fw_A E) := by
  refine Met.ofW (cc := cJ1_charAt_3b067) (maxL := 2) (ret := (some .char)) (by decide) rfl ?_
  intro p e s m args below meth c s₁ B hml hv
  obtain ⟨ha, hK, hP, hSt⟩ := hv
  have hx := B.exec
  have hb := B.bytes
  have hr := B.returns
  have hts := atoms_spec (ws := fw_ws yJ1_charAt_3b067 cJ1_charAt_3b067 2 (some .char)) B.pre
  have hU : ∀ w ∈ fw_U, w.before args s = true := fun w hw => hts w (List.mem_cons_of_mem _ hw)
  have hown : s.vm.findClass RJ1 = some m.cls := findClass_of_methodNamed B.named
  have hlocks := B.notSynchronized
  have EN : ∀ (H : Heap) (locs : List Loc) (ls : Array Slot), fw_P E o d μ H → va_S (fw_A E) s.heap H locs → lv_has ls 2 [(0, .ref (fw_x E 6 k0)), (1, .int x1)] → W p l e (headSpec (fw_ws yJ1_charAt_3b067 cJ1_charAt_3b067 2 (some .char)) ({ frames := 2, cells := 0, slots := 0, locals := 43 } : Room)).room s m args below meth c H locs 0 0 (MQ below (fw_Q E o d (some (.int r)) μ) args s 0 0 (fw_A E)) (F0 m 0 ls []) := by
    intro H locs ls hP hS hl
    unfold f_J1_charAt_3b067 at h
    refine lv_iload_n hx hb dJ1_charAt_3b067_0 rfl (lv_at hl 1 rfl) ?_
    refine lv_aload_n hx hb dJ1_charAt_3b067_1 rfl (lv_at hl 0 rfl) ?_
    refine va_tlen (v := nI (fw_sl k0)) hx hb (hSt.2.2.2.2.1.2 _ hk0).2.2.2 hS rfl dJ1_charAt_3b067_2 ?_
    obtain ⟨r1, hc1, h⟩ := fw_b1_e h
    refine fw_retv (va_runS (As := [.int x1, .int (nI (fw_sl k0))]) (rest := []) ⟨hx, hb, hml, hown, hU⟩ (k_J0_checkIndex_df160 l hE x1 (nI (fw_sl k0)) hc1) (va_cwS 2 hU (fw_gS m_968 m_969 m_15 m_970) rfl rfl rfl (by decide +kernel) ⟨(Nat.le_of_ble_eq_true rfl), (Nat.le_of_ble_eq_true rfl)⟩) ⟨fw_blind, fun U hU9 hW9 => ⟨rfl, fw_pre hK hP hSt hS U hU9 hW9⟩⟩ rfl rfl hl.1 rfl (lv_room (Nat.le_of_ble_eq_true rfl)) dJ1_charAt_3b067_3 ⟨Nat.zero_le _, Nat.zero_le _⟩) hS (fun H locs hP hS => ?_)
    refine lv_aload_n hx hb dJ1_charAt_3b067_6 rfl (lv_at hl 0 rfl) ?_
    refine lv_iload_n hx hb dJ1_charAt_3b067_7 rfl (lv_at hl 1 rfl) ?_
    obtain ⟨g2, h⟩ := fw_g_e h
    refine fw_bld hx hb hSt hS hk0 (fw_in_e g2) dJ1_charAt_3b067_8 ?_
    refine lv_sipush (v := (255 : Int32)) hx hb dJ1_charAt_3b067_9 (by decide) ?_
    refine lv_iand hx hb dJ1_charAt_3b067_12 ?_
    refine lv_i2c (v := (((fw_sc k0 x1.toNatClampNeg) &&& (255 : Int32)).toUInt32 % 65536).toInt32) hx hb dJ1_charAt_3b067_13 rfl ?_
    exact W.zret (v := (((fw_sc k0 x1.toNatClampNeg) &&& (255 : Int32)).toUInt32 % 65536).toInt32) hx hb hr (pk_nc _) (fw_er (mk := Value.int) h hP hS) hS.2.2 dJ1_charAt_3b067_14
  subst ha
  have hl := lv_entry ([.ref (fw_x E 6 k0), .int x1]) (n := 2) (Nat.le_of_ble_eq_true rfl)
  rw [lg_entry_eq]
  generalize (lg_sl ([.ref (fw_x E 6 k0), .int x1]) ++ List.replicate (2 - (lg_sl ([.ref (fw_x E 6 k0), .int x1])).length) Slot.unset).toArray = ls at hl ⊢
  exact EN s.heap [] ls hP va_S.rf hl
set_option maxHeartbeats 4000000 in
set_option maxRecDepth 100000 in
theorem k_J0_charAt_5068e (l : Launch) {E : fw_E} {o : Int64} {d : UInt64} (hE : fw_ok E) {μ : fw_M} {k0 : Nat} (hk0 : k0 < 8) (x1 : Int32) {r : Int32} (h : f_J0_charAt_5068e μ k0 x1 = some r) : Met l yJ0_charAt_5068e (fw_ws yJ0_charAt_5068e cJ0_charAt_5068e 2 (some .char)) ({ frames := 3, cells := 0, slots := 0, locals := 64 } : Room) (va_Pc [.ref (fw_x E 5 k0), .int x1] (fw_Pre E o d μ)) (fw_Q E o d (some (.int r)) μ) 0 0 (fw_A E) := by
  refine Met.ofW (cc := cJ0_charAt_5068e) (maxL := 2) (ret := (some .char)) (by decide) rfl ?_
  intro p e s m args below meth c s₁ B hml hv
  obtain ⟨ha, hK, hP, hSt⟩ := hv
  have hx := B.exec
  have hb := B.bytes
  have hr := B.returns
  have hts := atoms_spec (ws := fw_ws yJ0_charAt_5068e cJ0_charAt_5068e 2 (some .char)) B.pre
  have hU : ∀ w ∈ fw_U, w.before args s = true := fun w hw => hts w (List.mem_cons_of_mem _ hw)
  have hown : s.vm.findClass RJ0 = some m.cls := findClass_of_methodNamed B.named
  have hlocks := B.notSynchronized
  have EN : ∀ (H : Heap) (locs : List Loc) (ls : Array Slot), fw_P E o d μ H → va_S (fw_A E) s.heap H locs → lv_has ls 2 [(0, .ref (fw_x E 5 k0)), (1, .int x1)] → W p l e (headSpec (fw_ws yJ0_charAt_5068e cJ0_charAt_5068e 2 (some .char)) ({ frames := 3, cells := 0, slots := 0, locals := 64 } : Room)).room s m args below meth c H locs 0 0 (MQ below (fw_Q E o d (some (.int r)) μ) args s 0 0 (fw_A E)) (F0 m 0 ls []) := by
    intro H locs ls hP hS hl
    unfold f_J0_charAt_5068e at h
    refine lv_aload_n hx hb dJ0_charAt_5068e_0 rfl (lv_at hl 0 rfl) ?_
    obtain ⟨r1, hc1, h⟩ := fw_b1_e h
    refine fw_ret (va_runV (As := []) (rest := []) ⟨hx, hb, hml, hown, hU⟩ (k_J0_isLatin1_aae02 l hE hk0 hc1) (cwV 0 hU (fw_gV m_961 m_962 m_963 m_15 m_964) rfl rfl rfl (by decide +kernel) ⟨(Nat.le_of_ble_eq_true rfl), (Nat.le_of_ble_eq_true rfl)⟩) ⟨fw_blind, fw_srecv hSt hS hk0, fun U hU9 hW9 => ⟨rfl, fw_pre hK hP hSt hS U hU9 hW9⟩⟩ rfl rfl hl.1 rfl (lv_room (Nat.le_of_ble_eq_true rfl)) dJ0_charAt_5068e_1 ⟨Nat.zero_le _, Nat.zero_le _⟩) hS (fun H locs hP hS => ?_)
    refine lv_if_eq (tgt := 16) hx hb dJ0_charAt_5068e_4 (by decide) (fun c2 => ?_) (fun c2 => ?_)
    · rw [if_pos c2] at h
      refine lv_aload_n hx hb dJ0_charAt_5068e_16 rfl (lv_at hl 0 rfl) ?_
      refine vk_getf (v := .ref (fw_x E 6 k0)) hx hb (hSt.2.2.2.2.1.2 _ hk0).2.2.1 hS hown (hU (Cond.fieldLink RJ0 9 "java/lang/String" "value" "[B") m_1580) (fun _ h9 => h9) dJ0_charAt_5068e_17 ?_
      refine lv_iload_n hx hb dJ0_charAt_5068e_20 rfl (lv_at hl 1 rfl) ?_
      cases h
    · rw [if_neg c2] at h
      refine lv_aload_n hx hb dJ0_charAt_5068e_7 rfl (lv_at hl 0 rfl) ?_
      refine vk_getf (v := .ref (fw_x E 6 k0)) hx hb (hSt.2.2.2.2.1.2 _ hk0).2.2.1 hS hown (hU (Cond.fieldLink RJ0 9 "java/lang/String" "value" "[B") m_1580) (fun _ h9 => h9) dJ0_charAt_5068e_8 ?_
      refine lv_iload_n hx hb dJ0_charAt_5068e_11 rfl (lv_at hl 1 rfl) ?_
      obtain ⟨r3, hc3, h⟩ := fw_b1_e h
      refine fw_ret (va_runS (As := [.ref (fw_x E 6 k0), .int x1]) (rest := []) ⟨hx, hb, hml, hown, hU⟩ (k_J1_charAt_3b067 l hE hk0 x1 hc3) (va_cwS 2 hU (fw_gS m_965 m_966 m_25 m_967) rfl rfl rfl (by decide +kernel) ⟨(Nat.le_of_ble_eq_true rfl), (Nat.le_of_ble_eq_true rfl)⟩) ⟨fw_blind, fun U hU9 hW9 => ⟨rfl, fw_pre hK hP hSt hS U hU9 hW9⟩⟩ rfl rfl hl.1 rfl (lv_room (Nat.le_of_ble_eq_true rfl)) dJ0_charAt_5068e_12 ⟨Nat.zero_le _, Nat.zero_le _⟩) hS (fun H locs hP hS => ?_)
      obtain ⟨g4, h⟩ := fw_g_e h
      exact W.zret (v := r3) hx hb hr (fw_ch_e g4) (fw_er (mk := Value.int) h hP hS) hS.2.2 dJ0_charAt_5068e_15
  subst ha
  have hl := lv_entry ([.ref (fw_x E 5 k0), .int x1]) (n := 2) (Nat.le_of_ble_eq_true rfl)
  rw [lg_entry_eq]
  generalize (lg_sl ([.ref (fw_x E 5 k0), .int x1]) ++ List.replicate (2 - (lg_sl ([.ref (fw_x E 5 k0), .int x1])).length) Slot.unset).toArray = ls at hl ⊢
  exact EN s.heap [] ls hP va_S.rf hl
set_option maxHeartbeats 4000000 in
set_option maxRecDepth 100000 in
theorem k_X1_sameLetters (l : Launch) {E : fw_E} {o : Int64} {d : UInt64} (hE : fw_ok E) {μ : fw_M} {k0 : Nat} (hk0 : k0 < 8) {r : Int32} (h : f_X1_sameLetters μ k0 = some r) : Met l yX1_sameLetters (fw_ws yX1_sameLetters cX1_sameLetters 3 (some .int)) ({ frames := 4, cells := 0, slots := 0, locals := 85 } : Room) (va_Pc [.ref (fw_ad E 0 13), .ref (fw_x E 5 k0)] (fw_Pre E o d μ)) (fw_Q E o d (some (.int r)) μ) 0 0 (fw_A E) := by
  refine Met.ofW (cc := cX1_sameLetters) (maxL := 3) (ret := (some .int)) (by decide) rfl ?_
  intro p e s m args below meth c s₁ B hml hv
  obtain ⟨ha, hK, hP, hSt⟩ := hv
  have hx := B.exec
  have hb := B.bytes
  have hr := B.returns
  have hts := atoms_spec (ws := fw_ws yX1_sameLetters cX1_sameLetters 3 (some .int)) B.pre
  have hU : ∀ w ∈ fw_U, w.before args s = true := fun w hw => hts w (List.mem_cons_of_mem _ hw)
  have hown : s.vm.findClass RX1 = some m.cls := findClass_of_methodNamed B.named
  have hlocks := B.notSynchronized
  have L2 : ∀ (n : Nat) (x2 : Int32) (H : Heap) (locs : List Loc) (ls : Array Slot), f_X1_sameLetters_L2 μ k0 n x2 = some r → fw_P E o d μ H → va_S (fw_A E) s.heap H locs → lv_has ls 3 [(0, .ref (fw_ad E 0 13)), (1, .ref (fw_x E 5 k0)), (2, .int x2)] → W p l e (headSpec (fw_ws yX1_sameLetters cX1_sameLetters 3 (some .int)) ({ frames := 4, cells := 0, slots := 0, locals := 85 } : Room)).room s m args below meth c H locs 0 0 (MQ below (fw_Q E o d (some (.int r)) μ) args s 0 0 (fw_A E)) (F0 m 2 ls []) := by
    intro n2
    induction n2 with
    | zero => intro x2 H locs ls h; rw [f_X1_sameLetters_L2] at h; cases h
    | succ n2 ih2 =>
      intro x2 H locs ls h hP hS hl
      rw [f_X1_sameLetters_L2] at h
      refine lv_iload_n hx hb dX1_sameLetters_2 rfl (lv_at hl 2 rfl) ?_
      refine lv_aload_n hx hb dX1_sameLetters_3 rfl (lv_at hl 1 rfl) ?_
      obtain ⟨r1, hc1, h⟩ := fw_b1_e h
      refine fw_ret (va_runV (As := []) (rest := [.int x2]) ⟨hx, hb, hml, hown, hU⟩ (k_J0_length_8abf5 l hE hk0 hc1) (cwV 0 hU (fw_gV m_947 m_948 m_949 m_15 m_950) rfl rfl rfl (by decide +kernel) ⟨(Nat.le_of_ble_eq_true rfl), (Nat.le_of_ble_eq_true rfl)⟩) ⟨fw_blind, fw_srecv hSt hS hk0, fun U hU9 hW9 => ⟨rfl, fw_pre hK hP hSt hS U hU9 hW9⟩⟩ rfl rfl hl.1 rfl (lv_room (Nat.le_of_ble_eq_true rfl)) dX1_sameLetters_4 ⟨Nat.zero_le _, Nat.zero_le _⟩) hS (fun H locs hP hS => ?_)
      refine lv_icmp_ge (tgt := 48) hx hb dX1_sameLetters_7 (by decide) (fun c2 => ?_) (fun c2 => ?_)
      · rw [if_pos c2] at h
        refine lv_iload_n hx hb dX1_sameLetters_48 rfl (lv_at hl 2 rfl) ?_
        exact W.iret (v := x2) hx hb hr (fw_er (mk := Value.int) h hP hS) hS.2.2 dX1_sameLetters_49
      · rw [if_neg c2] at h
        refine lv_aload_n hx hb dX1_sameLetters_10 rfl (lv_at hl 0 rfl) ?_
        refine va_get (D := fw_D E) (ci := 3) (v := .int (μ 0 13 2)) (C := RX1) (T := TX1) (N := 5) hx hb hU inU1 hown hK (fw_at hP (fw_V0 (f := 13) (by decide) (by decide))) 0 rfl rfl 2 (by decide) (hU (Cond.fieldLink RX1 19 "LaundryService$CommandText" "position" "I") m_161) (fun _ h9 => h9) rfl dX1_sameLetters_11 ?_
        refine lv_iload_n hx hb dX1_sameLetters_14 rfl (lv_at hl 2 rfl) ?_
        refine lv_iadd hx hb dX1_sameLetters_15 ?_
        refine lv_aload_n hx hb dX1_sameLetters_16 rfl (lv_at hl 0 rfl) ?_
        refine va_get (D := fw_D E) (ci := 3) (v := .int (μ 0 13 1)) (C := RX1) (T := TX1) (N := 5) hx hb hU inU1 hown hK (fw_at hP (fw_V0 (f := 13) (by decide) (by decide))) 0 rfl rfl 1 (by decide) (hU (Cond.fieldLink RX1 15 "LaundryService$CommandText" "length" "I") m_159) (fun _ h9 => h9) rfl dX1_sameLetters_17 ?_
        refine lv_icmp_ge (tgt := 48) hx hb dX1_sameLetters_20 (by decide) (fun c3 => ?_) (fun c3 => ?_)
        · rw [if_pos c3] at h
          refine lv_iload_n hx hb dX1_sameLetters_48 rfl (lv_at hl 2 rfl) ?_
          exact W.iret (v := x2) hx hb hr (fw_er (mk := Value.int) h hP hS) hS.2.2 dX1_sameLetters_49
        · rw [if_neg c3] at h
          refine lv_aload_n hx hb dX1_sameLetters_23 rfl (lv_at hl 0 rfl) ?_
          refine va_get (D := fw_D E) (ci := 3) (v := .ref (fw_ad E 0 14)) (C := RX1) (T := TX1) (N := 5) hx hb hU inU1 hown hK (fw_at hP (fw_V0 (f := 13) (by decide) (by decide))) 0 rfl rfl 0 (by decide) (hU (Cond.fieldLink RX1 9 "LaundryService$CommandText" "characters" "[C") m_158) (fun _ h9 => h9) rfl dX1_sameLetters_24 ?_
          refine lv_aload_n hx hb dX1_sameLetters_27 rfl (lv_at hl 0 rfl) ?_
          refine va_get (D := fw_D E) (ci := 3) (v := .int (μ 0 13 2)) (C := RX1) (T := TX1) (N := 5) hx hb hU inU1 hown hK (fw_at hP (fw_V0 (f := 13) (by decide) (by decide))) 0 rfl rfl 2 (by decide) (hU (Cond.fieldLink RX1 19 "LaundryService$CommandText" "position" "I") m_161) (fun _ h9 => h9) rfl dX1_sameLetters_28 ?_
          refine lv_iload_n hx hb dX1_sameLetters_31 rfl (lv_at hl 2 rfl) ?_
          refine lv_iadd hx hb dX1_sameLetters_32 ?_
          obtain ⟨g4, h⟩ := fw_g_e h
          refine va_cald (D := fw_D E) hx hb hK (fw_at hP (fw_V0 (f := 14) (by decide) (by decide))) 0 2 rfl rfl (fw_in_e g4) dX1_sameLetters_33 ?_
          refine lv_aload_n hx hb dX1_sameLetters_34 rfl (lv_at hl 1 rfl) ?_
          refine lv_iload_n hx hb dX1_sameLetters_35 rfl (lv_at hl 2 rfl) ?_
          obtain ⟨r5, hc5, h⟩ := fw_b1_e h
          refine fw_ret (va_runV (As := [.int x2]) (rest := [.int (μ 0 14 ((μ 0 13 2) + x2).toNatClampNeg)]) ⟨hx, hb, hml, hown, hU⟩ (k_J0_charAt_5068e l hE hk0 x2 hc5) (cwV 1 hU (fw_gV m_957 m_958 m_959 m_15 m_960) rfl rfl rfl (by decide +kernel) ⟨(Nat.le_of_ble_eq_true rfl), (Nat.le_of_ble_eq_true rfl)⟩) ⟨fw_blind, fw_srecv hSt hS hk0, fun U hU9 hW9 => ⟨rfl, fw_pre hK hP hSt hS U hU9 hW9⟩⟩ rfl rfl hl.1 rfl (lv_room (Nat.le_of_ble_eq_true rfl)) dX1_sameLetters_36 ⟨Nat.zero_le _, Nat.zero_le _⟩) hS (fun H locs hP hS => ?_)
          refine lv_icmp_ne (tgt := 48) hx hb dX1_sameLetters_39 (by decide) (fun c6 => ?_) (fun c6 => ?_)
          · rw [if_neg c6] at h
            refine lv_iload_n hx hb dX1_sameLetters_48 rfl (lv_at hl 2 rfl) ?_
            exact W.iret (v := x2) hx hb hr (fw_er (mk := Value.int) h hP hS) hS.2.2 dX1_sameLetters_49
          · rw [if_pos c6] at h
            refine lv_iinc (v := (x2 + (1 : Int32))) (lv' := [(2, .int (x2 + (1 : Int32))), (0, .ref (fw_ad E 0 13)), (1, .ref (fw_x E 5 k0))]) hx hb dX1_sameLetters_42 hl (k := 2) rfl rfl (by decide) rfl (fun ls hl => ?_)
            refine lv_goto (tgt := 2) hx hb dX1_sameLetters_45 (by decide) ?_
            exact ih2 (x2 + (1 : Int32)) H locs ls h hP hS (lv_sub hl [1, 2, 0] rfl)
  have EN : ∀ (H : Heap) (locs : List Loc) (ls : Array Slot), fw_P E o d μ H → va_S (fw_A E) s.heap H locs → lv_has ls 3 [(0, .ref (fw_ad E 0 13)), (1, .ref (fw_x E 5 k0))] → W p l e (headSpec (fw_ws yX1_sameLetters cX1_sameLetters 3 (some .int)) ({ frames := 4, cells := 0, slots := 0, locals := 85 } : Room)).room s m args below meth c H locs 0 0 (MQ below (fw_Q E o d (some (.int r)) μ) args s 0 0 (fw_A E)) (F0 m 0 ls []) := by
    intro H locs ls hP hS hl
    unfold f_X1_sameLetters at h
    refine lv_iconst (v := (0 : Int32)) hx hb dX1_sameLetters_0 (by decide) ?_
    refine lv_istore_n (lv' := [(2, .int (0 : Int32)), (0, .ref (fw_ad E 0 13)), (1, .ref (fw_x E 5 k0))]) hx hb dX1_sameLetters_1 rfl hl (by decide) rfl (fun ls hl => ?_)
    exact L2 1000 (0 : Int32) H locs ls h hP hS (lv_sub hl [1, 2, 0] rfl)
  subst ha
  have hl := lv_entry ([.ref (fw_ad E 0 13), .ref (fw_x E 5 k0)]) (n := 3) (Nat.le_of_ble_eq_true rfl)
  rw [lg_entry_eq]
  generalize (lg_sl ([.ref (fw_ad E 0 13), .ref (fw_x E 5 k0)]) ++ List.replicate (3 - (lg_sl ([.ref (fw_ad E 0 13), .ref (fw_x E 5 k0)])).length) Slot.unset).toArray = ls at hl ⊢
  exact EN s.heap [] ls hP va_S.rf hl
set_option maxHeartbeats 4000000 in
set_option maxRecDepth 100000 in
theorem k_X1_readKeyword (l : Launch) {E : fw_E} {o : Int64} {d : UInt64} (hE : fw_ok E) {μ μ' : fw_M} {r : Int32} (h : f_X1_readKeyword μ = some (μ', r)) : Met l yX1_readKeyword (fw_ws yX1_readKeyword cX1_readKeyword 5 (some (.object "LaundryService$Keyword"))) ({ frames := 5, cells := 0, slots := 0, locals := 107 } : Room) (va_Pc [.ref (fw_ad E 0 13)] (fw_Pre E o d μ)) (fw_Q E o d (some (fw_kv E r)) μ') 0 0 (fw_A E) := by
  refine Met.ofW (cc := cX1_readKeyword) (maxL := 5) (ret := (some (.object "LaundryService$Keyword"))) (by decide) rfl ?_
  intro p e s m args below meth c s₁ B hml hv
  obtain ⟨ha, hK, hP, hSt⟩ := hv
  have hx := B.exec
  have hb := B.bytes
  have hr := B.returns
  have hts := atoms_spec (ws := fw_ws yX1_readKeyword cX1_readKeyword 5 (some (.object "LaundryService$Keyword"))) B.pre
  have hU : ∀ w ∈ fw_U, w.before args s = true := fun w hw => hts w (List.mem_cons_of_mem _ hw)
  have hown : s.vm.findClass RX1 = some m.cls := findClass_of_methodNamed B.named
  have hlocks := B.notSynchronized
  have L4 : ∀ (n : Nat) (μ : fw_M) (x1 : Int32) (x2 : Int32) (H : Heap) (locs : List Loc) (ls : Array Slot), f_X1_readKeyword_L4 n μ x1 x2 = some (μ', r) → fw_P E o d μ H → va_S (fw_A E) s.heap H locs → lv_has ls 5 [(0, .ref (fw_ad E 0 13)), (1, .int x1), (2, .int x2)] → W p l e (headSpec (fw_ws yX1_readKeyword cX1_readKeyword 5 (some (.object "LaundryService$Keyword"))) ({ frames := 5, cells := 0, slots := 0, locals := 107 } : Room)).room s m args below meth c H locs 0 0 (MQ below (fw_Q E o d (some (fw_kv E r)) μ') args s 0 0 (fw_A E)) (F0 m 4 ls []) := by
    intro n4
    induction n4 with
    | zero => intro μ x1 x2 H locs ls h; rw [f_X1_readKeyword_L4] at h; cases h
    | succ n4 ih4 =>
      intro μ x1 x2 H locs ls h hP hS hl
      rw [f_X1_readKeyword_L4] at h
      refine lv_iload_n hx hb dX1_readKeyword_4 rfl (lv_at hl 2 rfl) ?_
      refine va_getsN (v := .ref (fw_x E 4 0)) hx hb (hSt.2.1 _ (List.mem_of_getElem? (i := 11) rfl)) hS hown (va_Nw.use rfl hSt.1.2.2.2) (fun _ h9 => h9) dX1_readKeyword_5 ?_
      refine va_tlen (v := (6 : Int32)) hx hb hSt.2.2.2.2.1.1 hS rfl dX1_readKeyword_8 ?_
      refine lv_icmp_ge (tgt := 66) hx hb dX1_readKeyword_9 (by decide) (fun c1 => ?_) (fun c1 => ?_)
      · rw [if_pos c1] at h
        refine lv_aload_n hx hb dX1_readKeyword_66 rfl (lv_at hl 0 rfl) ?_
        refine lv_dup hx hb dX1_readKeyword_67 rfl ?_
        refine va_get (D := fw_D E) (ci := 3) (v := .int (μ 0 13 2)) (C := RX1) (T := TX1) (N := 5) hx hb hU inU1 hown hK (fw_at hP (fw_V0 (f := 13) (by decide) (by decide))) 0 rfl rfl 2 (by decide) (hU (Cond.fieldLink RX1 19 "LaundryService$CommandText" "position" "I") m_161) (fun _ h9 => h9) rfl dX1_readKeyword_68 ?_
        refine lv_iload_n hx hb dX1_readKeyword_71 rfl (lv_at hl 1 rfl) ?_
        refine lv_iadd hx hb dX1_readKeyword_72 ?_
        refine fw_put (ci := 3) (v := .int ((μ 0 13 2) + x1)) (ty := .int) (C := RX1) (T := TX1) (N := 5) hx hb hU inU1 tyX1 tyX1_ok nmX1 hown hK hP hE hS (fw_V0 (f := 13) (by decide) (by decide)) rfl rfl 2 (by decide) (hU (Cond.fieldLink RX1 19 "LaundryService$CommandText" "position" "I") m_161) (fun _ h9 => h9) rfl (by decide +kernel) rfl rfl (Nat.le_of_ble_eq_true rfl) 2 ((μ 0 13 2) + x1) (by rw [fw_u_c]; rfl) dX1_readKeyword_73 (fun H locs hP hS => ?_)
        obtain ⟨μ2, eμ2, h⟩ := fw_l_e h
        rw [← eμ2] at hP
        refine lv_null hx hb dX1_readKeyword_76 ?_
        rw [← fw_kv_neg (E := E) (a := (-1 : Int32)) (by decide)]
        exact W.aret (v := fw_kv E (-1 : Int32)) hx hb hr (Or.inl ⟨_, rfl⟩) (fw_kv_or E _) (fw_ew (mk := fw_kv E) h hP hS) hS.2.2 dX1_readKeyword_77
      · rw [if_neg c1] at h
        refine va_getsN (v := .ref (fw_x E 4 0)) hx hb (hSt.2.1 _ (List.mem_of_getElem? (i := 11) rfl)) hS hown (va_Nw.use rfl hSt.1.2.2.2) (fun _ h9 => h9) dX1_readKeyword_12 ?_
        refine lv_iload_n hx hb dX1_readKeyword_15 rfl (lv_at hl 2 rfl) ?_
        obtain ⟨g3, h⟩ := fw_g_e h
        refine fw_kwld hx hb hK hSt hS (fw_in_e g3) dX1_readKeyword_16 ?_
        refine lv_astore_n (lv' := [(3, .ref (fw_x E 0 (x2.toNatClampNeg))), (0, .ref (fw_ad E 0 13)), (1, .int x1), (2, .int x2)]) hx hb dX1_readKeyword_17 rfl hl (by decide) rfl (fun ls hl => ?_)
        refine lv_aload_n hx hb dX1_readKeyword_18 rfl (lv_at hl 1 rfl) ?_
        refine lv_aload_n hx hb dX1_readKeyword_19 rfl (lv_at hl 0 rfl) ?_
        refine va_getX (i := (x2.toNatClampNeg)) hx hb (hSt.2.2.2.2.2 _ (List.mem_of_getElem? (i := 0) rfl)) (fw_in_lt g3) hS hown (hU (Cond.fieldLink RX1 76 "LaundryService$Keyword" "word" "Ljava/lang/String;") m_1581) (fun _ h9 => h9) dX1_readKeyword_20 ?_
        obtain ⟨r4, hc4, h⟩ := fw_b1_e h
        refine fw_ret (va_runV (As := [.ref (fw_x E 5 (x2.toNatClampNeg))]) (rest := []) ⟨hx, hb, hml, hown, hU⟩ (k_X1_sameLetters l hE (Nat.lt_of_lt_of_le (fw_in_lt g3) (by decide)) hc4) (cwV 1 hU (fw_gV m_943 m_944 m_945 m_4 m_946) rfl rfl rfl (by decide +kernel) ⟨(Nat.le_of_ble_eq_true rfl), (Nat.le_of_ble_eq_true rfl)⟩) ⟨fw_blind, fw_recv hK hP (fw_V0 (f := 13) (by decide) (by decide)) rfl rfl, fun U hU9 hW9 => ⟨rfl, fw_pre hK hP hSt hS U hU9 hW9⟩⟩ rfl rfl hl.1 rfl (lv_room (Nat.le_of_ble_eq_true rfl)) dX1_readKeyword_23 ⟨Nat.zero_le _, Nat.zero_le _⟩) hS (fun H locs hP hS => ?_)
        refine lv_istore (lv' := [(4, .int r4), (3, .ref (fw_x E 0 (x2.toNatClampNeg))), (0, .ref (fw_ad E 0 13)), (1, .int x1), (2, .int x2)]) hx hb dX1_readKeyword_26 hl (by decide) rfl (fun ls hl => ?_)
        refine lv_iload hx hb dX1_readKeyword_28 (lv_at hl 0 rfl) ?_
        refine lv_aload_n hx hb dX1_readKeyword_30 rfl (lv_at hl 1 rfl) ?_
        refine va_getX (i := (x2.toNatClampNeg)) hx hb (hSt.2.2.2.2.2 _ (List.mem_of_getElem? (i := 0) rfl)) (fw_in_lt g3) hS hown (hU (Cond.fieldLink RX1 76 "LaundryService$Keyword" "word" "Ljava/lang/String;") m_1581) (fun _ h9 => h9) dX1_readKeyword_31 ?_
        obtain ⟨r5, hc5, h⟩ := fw_b1_e h
        refine fw_ret (va_runV (As := []) (rest := [.int r4]) ⟨hx, hb, hml, hown, hU⟩ (k_J0_length_8abf5 l hE (Nat.lt_of_lt_of_le (fw_in_lt g3) (by decide)) hc5) (cwV 0 hU (fw_gV m_947 m_948 m_949 m_15 m_950) rfl rfl rfl (by decide +kernel) ⟨(Nat.le_of_ble_eq_true rfl), (Nat.le_of_ble_eq_true rfl)⟩) ⟨fw_blind, fw_srecv hSt hS (Nat.lt_of_lt_of_le (fw_in_lt g3) (by decide)), fun U hU9 hW9 => ⟨rfl, fw_pre hK hP hSt hS U hU9 hW9⟩⟩ rfl rfl hl.1 rfl (lv_room (Nat.le_of_ble_eq_true rfl)) dX1_readKeyword_34 ⟨Nat.zero_le _, Nat.zero_le _⟩) hS (fun H locs hP hS => ?_)
        refine lv_icmp_ne (tgt := 53) hx hb dX1_readKeyword_37 (by decide) (fun c6 => ?_) (fun c6 => ?_)
        · rw [if_neg c6] at h
          refine lv_iload_n hx hb dX1_readKeyword_53 rfl (lv_at hl 3 rfl) ?_
          refine lv_iload hx hb dX1_readKeyword_54 (lv_at hl 0 rfl) ?_
          refine va_mmax hx hb (hml.trans hl.1.symm) hown (hU (Cond.methodLink RX1 89 yJ9_max_7cf53) m_995) (hU (Cond.static yJ9_max_7cf53) m_260) (hU (Cond.initialized RJ9) m_20) (hU (Cond.code yJ9_max_7cf53 cJ9_max_7cf53 2 (some .int)) m_261) (Nat.le_of_ble_eq_true rfl) (Nat.le_of_ble_eq_true rfl) (Nat.zero_le _) (Nat.zero_le _) dX1_readKeyword_56 ?_
          refine lv_istore_n (lv' := [(1, .int (if x1 < r4 then r4 else x1)), (4, .int r4), (3, .ref (fw_x E 0 (x2.toNatClampNeg))), (0, .ref (fw_ad E 0 13)), (2, .int x2)]) hx hb dX1_readKeyword_59 rfl hl (by decide) rfl (fun ls hl => ?_)
          refine lv_iinc (v := (x2 + (1 : Int32))) (lv' := [(2, .int (x2 + (1 : Int32))), (1, .int (if x1 < r4 then r4 else x1)), (4, .int r4), (3, .ref (fw_x E 0 (x2.toNatClampNeg))), (0, .ref (fw_ad E 0 13))]) hx hb dX1_readKeyword_60 hl (k := 4) rfl rfl (by decide) rfl (fun ls hl => ?_)
          refine lv_goto (tgt := 4) hx hb dX1_readKeyword_63 (by decide) ?_
          exact ih4 μ (if x1 < r4 then r4 else x1) (x2 + (1 : Int32)) H locs ls h hP hS (lv_sub hl [4, 1, 0] rfl)
        · rw [if_pos c6] at h
          refine lv_aload_n hx hb dX1_readKeyword_40 rfl (lv_at hl 2 rfl) ?_
          refine lv_dup hx hb dX1_readKeyword_41 rfl ?_
          refine va_get (D := fw_D E) (ci := 3) (v := .int (μ 0 13 2)) (C := RX1) (T := TX1) (N := 5) hx hb hU inU1 hown hK (fw_at hP (fw_V0 (f := 13) (by decide) (by decide))) 0 rfl rfl 2 (by decide) (hU (Cond.fieldLink RX1 19 "LaundryService$CommandText" "position" "I") m_161) (fun _ h9 => h9) rfl dX1_readKeyword_42 ?_
          refine lv_iload hx hb dX1_readKeyword_45 (lv_at hl 0 rfl) ?_
          refine lv_iadd hx hb dX1_readKeyword_47 ?_
          refine fw_put (ci := 3) (v := .int ((μ 0 13 2) + r4)) (ty := .int) (C := RX1) (T := TX1) (N := 5) hx hb hU inU1 tyX1 tyX1_ok nmX1 hown hK hP hE hS (fw_V0 (f := 13) (by decide) (by decide)) rfl rfl 2 (by decide) (hU (Cond.fieldLink RX1 19 "LaundryService$CommandText" "position" "I") m_161) (fun _ h9 => h9) rfl (by decide +kernel) rfl rfl (Nat.le_of_ble_eq_true rfl) 2 ((μ 0 13 2) + r4) (by rw [fw_u_c]; rfl) dX1_readKeyword_48 (fun H locs hP hS => ?_)
          obtain ⟨μ7, eμ7, h⟩ := fw_l_e h
          rw [← eμ7] at hP
          refine lv_aload_n hx hb dX1_readKeyword_51 rfl (lv_at hl 1 rfl) ?_
          rw [← fw_kv_pos g3]
          exact W.aret (v := fw_kv E x2) hx hb hr (Or.inl ⟨_, rfl⟩) (fw_kv_or E _) (fw_ew (mk := fw_kv E) h hP hS) hS.2.2 dX1_readKeyword_52
  have EN : ∀ (H : Heap) (locs : List Loc) (ls : Array Slot), fw_P E o d μ H → va_S (fw_A E) s.heap H locs → lv_has ls 5 [(0, .ref (fw_ad E 0 13))] → W p l e (headSpec (fw_ws yX1_readKeyword cX1_readKeyword 5 (some (.object "LaundryService$Keyword"))) ({ frames := 5, cells := 0, slots := 0, locals := 107 } : Room)).room s m args below meth c H locs 0 0 (MQ below (fw_Q E o d (some (fw_kv E r)) μ') args s 0 0 (fw_A E)) (F0 m 0 ls []) := by
    intro H locs ls hP hS hl
    unfold f_X1_readKeyword at h
    refine lv_iconst (v := (0 : Int32)) hx hb dX1_readKeyword_0 (by decide) ?_
    refine lv_istore_n (lv' := [(1, .int (0 : Int32)), (0, .ref (fw_ad E 0 13))]) hx hb dX1_readKeyword_1 rfl hl (by decide) rfl (fun ls hl => ?_)
    refine lv_iconst (v := (0 : Int32)) hx hb dX1_readKeyword_2 (by decide) ?_
    refine lv_istore_n (lv' := [(2, .int (0 : Int32)), (1, .int (0 : Int32)), (0, .ref (fw_ad E 0 13))]) hx hb dX1_readKeyword_3 rfl hl (by decide) rfl (fun ls hl => ?_)
    exact L4 1000 μ (0 : Int32) (0 : Int32) H locs ls h hP hS (lv_sub hl [2, 1, 0] rfl)
  subst ha
  have hl := lv_entry ([.ref (fw_ad E 0 13)]) (n := 5) (Nat.le_of_ble_eq_true rfl)
  rw [lg_entry_eq]
  generalize (lg_sl ([.ref (fw_ad E 0 13)]) ++ List.replicate (5 - (lg_sl ([.ref (fw_ad E 0 13)])).length) Slot.unset).toArray = ls at hl ⊢
  exact EN s.heap [] ls hP va_S.rf hl
set_option maxHeartbeats 4000000 in
set_option maxRecDepth 100000 in
theorem k_X1_readCommand (l : Launch) {E : fw_E} {o : Int64} {d : UInt64} (hE : fw_ok E) {μ μ' : fw_M} {j0 : Nat} (hj0 : j0 < 12) {r : Int32} (h : f_X1_readCommand μ j0 = some (μ', r)) : Met l yX1_readCommand (fw_ws yX1_readCommand cX1_readCommand 3 (some .boolean)) ({ frames := 6, cells := 0, slots := 0, locals := 131 } : Room) (va_Pc [.ref (fw_ad E 0 13), .ref (fw_ad E j0 9)] (fw_Pre E o d μ)) (fw_Q E o d (some (.int r)) μ') 0 0 (fw_A E) := by
  refine Met.ofW (cc := cX1_readCommand) (maxL := 3) (ret := (some .boolean)) (by decide) rfl ?_
  intro p e s m args below meth c s₁ B hml hv
  obtain ⟨ha, hK, hP, hSt⟩ := hv
  have hx := B.exec
  have hb := B.bytes
  have hr := B.returns
  have hts := atoms_spec (ws := fw_ws yX1_readCommand cX1_readCommand 3 (some .boolean)) B.pre
  have hU : ∀ w ∈ fw_U, w.before args s = true := fun w hw => hts w (List.mem_cons_of_mem _ hw)
  have hown : s.vm.findClass RX1 = some m.cls := findClass_of_methodNamed B.named
  have hlocks := B.notSynchronized
  have EN : ∀ (H : Heap) (locs : List Loc) (ls : Array Slot), fw_P E o d μ H → va_S (fw_A E) s.heap H locs → lv_has ls 3 [(0, .ref (fw_ad E 0 13)), (1, .ref (fw_ad E j0 9))] → W p l e (headSpec (fw_ws yX1_readCommand cX1_readCommand 3 (some .boolean)) ({ frames := 6, cells := 0, slots := 0, locals := 131 } : Room)).room s m args below meth c H locs 0 0 (MQ below (fw_Q E o d (some (.int r)) μ') args s 0 0 (fw_A E)) (F0 m 0 ls []) := by
    intro H locs ls hP hS hl
    unfold f_X1_readCommand at h
    refine lv_aload_n hx hb dX1_readCommand_0 rfl (lv_at hl 0 rfl) ?_
    obtain ⟨μ1, r1, hc1, h⟩ := fw_b2_e h
    refine fw_ret (va_runV (As := []) (rest := []) ⟨hx, hb, hml, hown, hU⟩ (k_X1_readKeyword l hE hc1) (cwV 0 hU (fw_gV m_937 m_938 m_939 m_4 m_940) rfl rfl rfl (by decide +kernel) ⟨(Nat.le_of_ble_eq_true rfl), (Nat.le_of_ble_eq_true rfl)⟩) ⟨fw_blind, fw_recv hK hP (fw_V0 (f := 13) (by decide) (by decide)) rfl rfl, fun U hU9 hW9 => ⟨rfl, fw_pre hK hP hSt hS U hU9 hW9⟩⟩ rfl rfl hl.1 rfl (lv_room (Nat.le_of_ble_eq_true rfl)) dX1_readCommand_1 ⟨Nat.zero_le _, Nat.zero_le _⟩) hS (fun H locs hP hS => ?_)
    by_cases c2 : r1 < 0
    · rw [if_pos c2] at h
      rw [fw_kv_neg c2]
      refine lv_astore_nN (lv' := [(2, .null), (0, .ref (fw_ad E 0 13)), (1, .ref (fw_ad E j0 9))]) hx hb dX1_readCommand_4 rfl hl (by decide) rfl (fun ls hl => ?_)
      refine lv_aload_nN hx hb dX1_readCommand_5 rfl (lv_at hl 0 rfl) ?_
      refine lv_ifnonnullN hx hb dX1_readCommand_6 ?_
      refine lv_iconst (v := (0 : Int32)) hx hb dX1_readCommand_9 (by decide) ?_
      exact W.zret (v := (0 : Int32)) hx hb hr rfl (fw_ew (mk := Value.int) h hP hS) hS.2.2 dX1_readCommand_10
    · rw [if_neg c2] at h
      obtain ⟨g2, h⟩ := fw_g_e h
      rw [fw_kv_pos g2]
      refine lv_astore_n (lv' := [(2, .ref (fw_x E 0 (r1.toNatClampNeg))), (0, .ref (fw_ad E 0 13)), (1, .ref (fw_ad E j0 9))]) hx hb dX1_readCommand_4 rfl hl (by decide) rfl (fun ls hl => ?_)
      refine lv_aload_n hx hb dX1_readCommand_5 rfl (lv_at hl 0 rfl) ?_
      refine lv_ifnonnull (tgt := 11) hx hb dX1_readCommand_6 (by decide) ?_
      refine lv_aload_n hx hb dX1_readCommand_11 rfl (lv_at hl 2 rfl) ?_
      refine lv_aload_n hx hb dX1_readCommand_12 rfl (lv_at hl 0 rfl) ?_
      rw [← fw_kv_pos g2]
      refine fw_put (ci := 2) (v := fw_kv E r1) (ty := .object "LaundryService$Keyword") (C := RX0) (T := TX0) (N := 4) hx hb hU inU0 tyX0 tyX0_ok nmX0 hown hK hP hE hS (fw_Vs (f := 9) (by decide) hj0) rfl rfl 0 (by decide) (hU (Cond.fieldLink RX1 44 "LaundryService$Command" "keyword" "LLaundryService$Keyword;") m_137) (fun _ h9 => h9) rfl (by decide +kernel) (fw_kv_n g2) (fw_kv_f g2) (Nat.le_of_ble_eq_true rfl) 0 r1 (by rw [fw_u_c]; rfl) dX1_readCommand_13 (fun H locs hP hS => ?_)
      obtain ⟨μ3, eμ3, h⟩ := fw_l_e h
      rw [← eμ3] at hP
      refine lv_aload_n hx hb dX1_readCommand_16 rfl (lv_at hl 2 rfl) ?_
      refine lv_aload_n hx hb dX1_readCommand_17 rfl (lv_at hl 1 rfl) ?_
      refine lv_aload_n hx hb dX1_readCommand_18 rfl (lv_at hl 0 rfl) ?_
      refine va_getX (i := (r1.toNatClampNeg)) hx hb (hSt.2.2.2.2.2 _ (List.mem_of_getElem? (i := 1) rfl)) (fw_in_lt g2) hS hown (hU (Cond.fieldLink RX1 48 "LaundryService$Keyword" "firstDigits" "I") m_1582) (fun _ h9 => h9) dX1_readCommand_19 ?_
      obtain ⟨μ4, r4, hc4, h⟩ := fw_b2_e h
      refine fw_ret (va_runV (As := [.int (fw_kd 0 (r1.toNatClampNeg))]) (rest := [.ref (fw_ad E j0 9)]) ⟨hx, hb, hml, hown, hU⟩ (k_X1_readNumber l hE (fw_kd 0 (r1.toNatClampNeg)) hc4) (cwV 1 hU (fw_gV m_996 m_997 m_998 m_4 m_999) rfl rfl rfl (by decide +kernel) ⟨(Nat.le_of_ble_eq_true rfl), (Nat.le_of_ble_eq_true rfl)⟩) ⟨fw_blind, fw_recv hK hP (fw_V0 (f := 13) (by decide) (by decide)) rfl rfl, fun U hU9 hW9 => ⟨rfl, fw_pre hK hP hSt hS U hU9 hW9⟩⟩ rfl rfl hl.1 rfl (lv_room (Nat.le_of_ble_eq_true rfl)) dX1_readCommand_22 ⟨Nat.zero_le _, Nat.zero_le _⟩) hS (fun H locs hP hS => ?_)
      refine fw_put (ci := 2) (v := .int r4) (ty := .int) (C := RX0) (T := TX0) (N := 4) hx hb hU inU0 tyX0 tyX0_ok nmX0 hown hK hP hE hS (fw_Vs (f := 9) (by decide) hj0) rfl rfl 1 (by decide) (hU (Cond.fieldLink RX1 57 "LaundryService$Command" "first" "I") m_140) (fun _ h9 => h9) rfl (by decide +kernel) rfl rfl (Nat.le_of_ble_eq_true rfl) 1 r4 (by rw [fw_u_c]; rfl) dX1_readCommand_25 (fun H locs hP hS => ?_)
      obtain ⟨μ5, eμ5, h⟩ := fw_l_e h
      rw [← eμ5] at hP
      refine lv_aload_n hx hb dX1_readCommand_28 rfl (lv_at hl 2 rfl) ?_
      refine va_get (D := fw_D E) (ci := 2) (v := .int (μ5 j0 9 1)) (C := RX0) (T := TX0) (N := 4) hx hb hU inU0 hown hK (fw_at hP (fw_Vs (f := 9) (by decide) hj0)) 0 rfl rfl 1 (by decide) (hU (Cond.fieldLink RX1 57 "LaundryService$Command" "first" "I") m_140) (fun _ h9 => h9) rfl dX1_readCommand_29 ?_
      refine lv_if_ge (tgt := 37) hx hb dX1_readCommand_32 (by decide) (fun c6 => ?_) (fun c6 => ?_)
      · rw [if_pos c6] at h
        refine lv_aload_n hx hb dX1_readCommand_37 rfl (lv_at hl 2 rfl) ?_
        refine lv_aload_n hx hb dX1_readCommand_38 rfl (lv_at hl 1 rfl) ?_
        refine lv_aload_n hx hb dX1_readCommand_39 rfl (lv_at hl 0 rfl) ?_
        refine va_getX (i := (r1.toNatClampNeg)) hx hb (hSt.2.2.2.2.2 _ (List.mem_of_getElem? (i := 2) rfl)) (fw_in_lt g2) hS hown (hU (Cond.fieldLink RX1 60 "LaundryService$Keyword" "secondDigits" "I") m_1583) (fun _ h9 => h9) dX1_readCommand_40 ?_
        obtain ⟨μ7, r7, hc7, h⟩ := fw_b2_e h
        refine fw_ret (va_runV (As := [.int (fw_kd 1 (r1.toNatClampNeg))]) (rest := [.ref (fw_ad E j0 9)]) ⟨hx, hb, hml, hown, hU⟩ (k_X1_readNumber l hE (fw_kd 1 (r1.toNatClampNeg)) hc7) (cwV 1 hU (fw_gV m_996 m_997 m_998 m_4 m_999) rfl rfl rfl (by decide +kernel) ⟨(Nat.le_of_ble_eq_true rfl), (Nat.le_of_ble_eq_true rfl)⟩) ⟨fw_blind, fw_recv hK hP (fw_V0 (f := 13) (by decide) (by decide)) rfl rfl, fun U hU9 hW9 => ⟨rfl, fw_pre hK hP hSt hS U hU9 hW9⟩⟩ rfl rfl hl.1 rfl (lv_room (Nat.le_of_ble_eq_true rfl)) dX1_readCommand_43 ⟨Nat.zero_le _, Nat.zero_le _⟩) hS (fun H locs hP hS => ?_)
        refine fw_put (ci := 2) (v := .int r7) (ty := .int) (C := RX0) (T := TX0) (N := 4) hx hb hU inU0 tyX0 tyX0_ok nmX0 hown hK hP hE hS (fw_Vs (f := 9) (by decide) hj0) rfl rfl 2 (by decide) (hU (Cond.fieldLink RX1 63 "LaundryService$Command" "second" "I") m_143) (fun _ h9 => h9) rfl (by decide +kernel) rfl rfl (Nat.le_of_ble_eq_true rfl) 2 r7 (by rw [fw_u_c]; rfl) dX1_readCommand_46 (fun H locs hP hS => ?_)
        obtain ⟨μ8, eμ8, h⟩ := fw_l_e h
        rw [← eμ8] at hP
        refine lv_aload_n hx hb dX1_readCommand_49 rfl (lv_at hl 2 rfl) ?_
        refine va_get (D := fw_D E) (ci := 2) (v := .int (μ8 j0 9 2)) (C := RX0) (T := TX0) (N := 4) hx hb hU inU0 hown hK (fw_at hP (fw_Vs (f := 9) (by decide) hj0)) 0 rfl rfl 2 (by decide) (hU (Cond.fieldLink RX1 63 "LaundryService$Command" "second" "I") m_143) (fun _ h9 => h9) rfl dX1_readCommand_50 ?_
        refine lv_if_ge (tgt := 58) hx hb dX1_readCommand_53 (by decide) (fun c9 => ?_) (fun c9 => ?_)
        · rw [if_pos c9] at h
          refine lv_aload_n hx hb dX1_readCommand_58 rfl (lv_at hl 2 rfl) ?_
          refine lv_aload_n hx hb dX1_readCommand_59 rfl (lv_at hl 1 rfl) ?_
          refine lv_aload_n hx hb dX1_readCommand_60 rfl (lv_at hl 0 rfl) ?_
          refine va_getX (i := (r1.toNatClampNeg)) hx hb (hSt.2.2.2.2.2 _ (List.mem_of_getElem? (i := 3) rfl)) (fw_in_lt g2) hS hown (hU (Cond.fieldLink RX1 66 "LaundryService$Keyword" "thirdDigits" "I") m_1584) (fun _ h9 => h9) dX1_readCommand_61 ?_
          obtain ⟨μ10, r10, hc10, h⟩ := fw_b2_e h
          refine fw_ret (va_runV (As := [.int (fw_kd 2 (r1.toNatClampNeg))]) (rest := [.ref (fw_ad E j0 9)]) ⟨hx, hb, hml, hown, hU⟩ (k_X1_readNumber l hE (fw_kd 2 (r1.toNatClampNeg)) hc10) (cwV 1 hU (fw_gV m_996 m_997 m_998 m_4 m_999) rfl rfl rfl (by decide +kernel) ⟨(Nat.le_of_ble_eq_true rfl), (Nat.le_of_ble_eq_true rfl)⟩) ⟨fw_blind, fw_recv hK hP (fw_V0 (f := 13) (by decide) (by decide)) rfl rfl, fun U hU9 hW9 => ⟨rfl, fw_pre hK hP hSt hS U hU9 hW9⟩⟩ rfl rfl hl.1 rfl (lv_room (Nat.le_of_ble_eq_true rfl)) dX1_readCommand_64 ⟨Nat.zero_le _, Nat.zero_le _⟩) hS (fun H locs hP hS => ?_)
          refine fw_put (ci := 2) (v := .int r10) (ty := .int) (C := RX0) (T := TX0) (N := 4) hx hb hU inU0 tyX0 tyX0_ok nmX0 hown hK hP hE hS (fw_Vs (f := 9) (by decide) hj0) rfl rfl 3 (by decide) (hU (Cond.fieldLink RX1 69 "LaundryService$Command" "third" "I") m_146) (fun _ h9 => h9) rfl (by decide +kernel) rfl rfl (Nat.le_of_ble_eq_true rfl) 3 r10 (by rw [fw_u_c]; rfl) dX1_readCommand_67 (fun H locs hP hS => ?_)
          obtain ⟨μ11, eμ11, h⟩ := fw_l_e h
          rw [← eμ11] at hP
          refine lv_aload_n hx hb dX1_readCommand_70 rfl (lv_at hl 2 rfl) ?_
          refine va_get (D := fw_D E) (ci := 2) (v := .int (μ11 j0 9 3)) (C := RX0) (T := TX0) (N := 4) hx hb hU inU0 hown hK (fw_at hP (fw_Vs (f := 9) (by decide) hj0)) 0 rfl rfl 3 (by decide) (hU (Cond.fieldLink RX1 69 "LaundryService$Command" "third" "I") m_146) (fun _ h9 => h9) rfl dX1_readCommand_71 ?_
          refine lv_if_lt (tgt := 81) hx hb dX1_readCommand_74 (by decide) (fun c12 => ?_) (fun c12 => ?_)
          · rw [if_pos c12] at h
            refine lv_iconst (v := (0 : Int32)) hx hb dX1_readCommand_81 (by decide) ?_
            exact W.zret (v := (0 : Int32)) hx hb hr rfl (fw_ew (mk := Value.int) h hP hS) hS.2.2 dX1_readCommand_82
          · rw [if_neg c12] at h
            refine lv_iconst (v := (1 : Int32)) hx hb dX1_readCommand_77 (by decide) ?_
            refine lv_goto (tgt := 82) hx hb dX1_readCommand_78 (by decide) ?_
            exact W.zret (v := (1 : Int32)) hx hb hr rfl (fw_ew (mk := Value.int) h hP hS) hS.2.2 dX1_readCommand_82
        · rw [if_neg c9] at h
          refine lv_iconst (v := (0 : Int32)) hx hb dX1_readCommand_56 (by decide) ?_
          exact W.zret (v := (0 : Int32)) hx hb hr rfl (fw_ew (mk := Value.int) h hP hS) hS.2.2 dX1_readCommand_57
      · rw [if_neg c6] at h
        refine lv_iconst (v := (0 : Int32)) hx hb dX1_readCommand_35 (by decide) ?_
        exact W.zret (v := (0 : Int32)) hx hb hr rfl (fw_ew (mk := Value.int) h hP hS) hS.2.2 dX1_readCommand_36
  subst ha
  have hl := lv_entry ([.ref (fw_ad E 0 13), .ref (fw_ad E j0 9)]) (n := 3) (Nat.le_of_ble_eq_true rfl)
  rw [lg_entry_eq]
  generalize (lg_sl ([.ref (fw_ad E 0 13), .ref (fw_ad E j0 9)]) ++ List.replicate (3 - (lg_sl ([.ref (fw_ad E 0 13), .ref (fw_ad E j0 9)])).length) Slot.unset).toArray = ls at hl ⊢
  exact EN s.heap [] ls hP va_S.rf hl
set_option maxHeartbeats 4000000 in
set_option maxRecDepth 100000 in
theorem k_X1_parse (l : Launch) {E : fw_E} {o : Int64} {d : UInt64} (hE : fw_ok E) {μ μ' : fw_M} {r : Int32} (h : f_X1_parse μ = some (μ', r)) : Met l yX1_parse (fw_ws yX1_parse cX1_parse 2 (some .boolean)) ({ frames := 7, cells := 0, slots := 0, locals := 153 } : Room) (va_Pc [.ref (fw_ad E 0 13)] (fw_Pre E o d μ)) (fw_Q E o d (some (.int r)) μ') 0 0 (fw_A E) := by
  refine Met.ofW (cc := cX1_parse) (maxL := 2) (ret := (some .boolean)) (by decide) rfl ?_
  intro p e s m args below meth c s₁ B hml hv
  obtain ⟨ha, hK, hP, hSt⟩ := hv
  have hx := B.exec
  have hb := B.bytes
  have hr := B.returns
  have hts := atoms_spec (ws := fw_ws yX1_parse cX1_parse 2 (some .boolean)) B.pre
  have hU : ∀ w ∈ fw_U, w.before args s = true := fun w hw => hts w (List.mem_cons_of_mem _ hw)
  have hown : s.vm.findClass RX1 = some m.cls := findClass_of_methodNamed B.named
  have hlocks := B.notSynchronized
  have L12 : ∀ (n : Nat) (μ : fw_M) (x1 : Int32) (H : Heap) (locs : List Loc) (ls : Array Slot), f_X1_parse_L12 n μ x1 = some (μ', r) → fw_P E o d μ H → va_S (fw_A E) s.heap H locs → lv_has ls 2 [(0, .ref (fw_ad E 0 13)), (1, .int x1)] → W p l e (headSpec (fw_ws yX1_parse cX1_parse 2 (some .boolean)) ({ frames := 7, cells := 0, slots := 0, locals := 153 } : Room)).room s m args below meth c H locs 0 0 (MQ below (fw_Q E o d (some (.int r)) μ') args s 0 0 (fw_A E)) (F0 m 12 ls []) := by
    intro n12
    induction n12 with
    | zero => intro μ x1 H locs ls h; rw [f_X1_parse_L12] at h; cases h
    | succ n12 ih12 =>
      intro μ x1 H locs ls h hP hS hl
      rw [f_X1_parse_L12] at h
      refine lv_iload_n hx hb dX1_parse_12 rfl (lv_at hl 1 rfl) ?_
      refine lv_aload_n hx hb dX1_parse_13 rfl (lv_at hl 0 rfl) ?_
      refine va_get (D := fw_D E) (ci := 3) (v := .ref (fw_ad E 0 15)) (C := RX1) (T := TX1) (N := 5) hx hb hU inU1 hown hK (fw_at hP (fw_V0 (f := 13) (by decide) (by decide))) 0 rfl rfl 3 (by decide) (hU (Cond.fieldLink RX1 24 "LaundryService$CommandText" "commands" "[LLaundryService$Command;") m_163) (fun _ h9 => h9) rfl dX1_parse_14 ?_
      refine va_alen (D := fw_D E) (v := (12 : Int32)) hx hb hK (fw_at hP (fw_V0 (f := 15) (by decide) (by decide))) 0 4 rfl rfl rfl dX1_parse_17 ?_
      refine lv_icmp_ge (tgt := 78) hx hb dX1_parse_18 (by decide) (fun c3 => ?_) (fun c3 => ?_)
      · rw [if_pos c3] at h
        refine lv_iconst (v := (0 : Int32)) hx hb dX1_parse_78 (by decide) ?_
        exact W.zret (v := (0 : Int32)) hx hb hr rfl (fw_ew (mk := Value.int) h hP hS) hS.2.2 dX1_parse_79
      · rw [if_neg c3] at h
        refine lv_aload_n hx hb dX1_parse_21 rfl (lv_at hl 0 rfl) ?_
        refine lv_aload_n hx hb dX1_parse_22 rfl (lv_at hl 0 rfl) ?_
        refine va_get (D := fw_D E) (ci := 3) (v := .ref (fw_ad E 0 15)) (C := RX1) (T := TX1) (N := 5) hx hb hU inU1 hown hK (fw_at hP (fw_V0 (f := 13) (by decide) (by decide))) 0 rfl rfl 3 (by decide) (hU (Cond.fieldLink RX1 24 "LaundryService$CommandText" "commands" "[LLaundryService$Command;") m_163) (fun _ h9 => h9) rfl dX1_parse_23 ?_
        refine lv_iload_n hx hb dX1_parse_26 rfl (lv_at hl 1 rfl) ?_
        obtain ⟨g4, h⟩ := fw_g_e h
        refine fw_cmdld hx hb hK hP (fw_in_e g4) dX1_parse_27 ?_
        obtain ⟨μ5, r5, hc5, h⟩ := fw_b2_e h
        refine fw_ret (va_runV (As := [.ref (fw_ad E (x1.toNatClampNeg) 9)]) (rest := []) ⟨hx, hb, hml, hown, hU⟩ (k_X1_readCommand l hE (fw_in_lt g4) hc5) (cwV 1 hU (fw_gV m_933 m_934 m_935 m_4 m_936) rfl rfl rfl (by decide +kernel) ⟨(Nat.le_of_ble_eq_true rfl), (Nat.le_of_ble_eq_true rfl)⟩) ⟨fw_blind, fw_recv hK hP (fw_V0 (f := 13) (by decide) (by decide)) rfl rfl, fun U hU9 hW9 => ⟨rfl, fw_pre hK hP hSt hS U hU9 hW9⟩⟩ rfl rfl hl.1 rfl (lv_room (Nat.le_of_ble_eq_true rfl)) dX1_parse_28 ⟨Nat.zero_le _, Nat.zero_le _⟩) hS (fun H locs hP hS => ?_)
        refine lv_if_ne (tgt := 36) hx hb dX1_parse_31 (by decide) (fun c6 => ?_) (fun c6 => ?_)
        · rw [if_neg c6] at h
          refine lv_aload_n hx hb dX1_parse_36 rfl (lv_at hl 0 rfl) ?_
          refine lv_dup hx hb dX1_parse_37 rfl ?_
          refine va_get (D := fw_D E) (ci := 3) (v := .int (μ5 0 13 4)) (C := RX1) (T := TX1) (N := 5) hx hb hU inU1 hown hK (fw_at hP (fw_V0 (f := 13) (by decide) (by decide))) 0 rfl rfl 4 (by decide) (hU (Cond.fieldLink RX1 28 "LaundryService$CommandText" "commandCount" "I") m_165) (fun _ h9 => h9) rfl dX1_parse_38 ?_
          refine lv_iconst (v := (1 : Int32)) hx hb dX1_parse_41 (by decide) ?_
          refine lv_iadd hx hb dX1_parse_42 ?_
          refine fw_put (ci := 3) (v := .int ((μ5 0 13 4) + (1 : Int32))) (ty := .int) (C := RX1) (T := TX1) (N := 5) hx hb hU inU1 tyX1 tyX1_ok nmX1 hown hK hP hE hS (fw_V0 (f := 13) (by decide) (by decide)) rfl rfl 4 (by decide) (hU (Cond.fieldLink RX1 28 "LaundryService$CommandText" "commandCount" "I") m_165) (fun _ h9 => h9) rfl (by decide +kernel) rfl rfl (Nat.le_of_ble_eq_true rfl) 4 ((μ5 0 13 4) + (1 : Int32)) (by rw [fw_u_c]; rfl) dX1_parse_43 (fun H locs hP hS => ?_)
          obtain ⟨μ7, eμ7, h⟩ := fw_l_e h
          rw [← eμ7] at hP
          refine lv_aload_n hx hb dX1_parse_46 rfl (lv_at hl 0 rfl) ?_
          refine lv_bipush (v := (59 : Int32)) hx hb dX1_parse_47 (by decide) ?_
          obtain ⟨μ8, r8, hc8, h⟩ := fw_b2_e h
          refine fw_ret (va_runV (As := [.int (59 : Int32)]) (rest := []) ⟨hx, hb, hml, hown, hU⟩ (k_X1_accept l hE (59 : Int32) hc8) (cwV 1 hU (fw_gV m_1000 m_1001 m_1002 m_4 m_1003) rfl rfl rfl (by decide +kernel) ⟨(Nat.le_of_ble_eq_true rfl), (Nat.le_of_ble_eq_true rfl)⟩) ⟨fw_blind, fw_recv hK hP (fw_V0 (f := 13) (by decide) (by decide)) rfl rfl, fun U hU9 hW9 => ⟨rfl, fw_pre hK hP hSt hS U hU9 hW9⟩⟩ rfl rfl hl.1 rfl (lv_room (Nat.le_of_ble_eq_true rfl)) dX1_parse_49 ⟨Nat.zero_le _, Nat.zero_le _⟩) hS (fun H locs hP hS => ?_)
          refine lv_if_ne (tgt := 72) hx hb dX1_parse_52 (by decide) (fun c9 => ?_) (fun c9 => ?_)
          · rw [if_neg c9] at h
            refine lv_iinc (v := (x1 + (1 : Int32))) (lv' := [(1, .int (x1 + (1 : Int32))), (0, .ref (fw_ad E 0 13))]) hx hb dX1_parse_72 hl (k := 1) rfl rfl (by decide) rfl (fun ls hl => ?_)
            refine lv_goto (tgt := 12) hx hb dX1_parse_75 (by decide) ?_
            exact ih12 μ8 (x1 + (1 : Int32)) H locs ls h hP hS (lv_sub hl [1, 0] rfl)
          · rw [if_pos c9] at h
            refine lv_aload_n hx hb dX1_parse_55 rfl (lv_at hl 0 rfl) ?_
            refine va_get (D := fw_D E) (ci := 3) (v := .int (μ8 0 13 2)) (C := RX1) (T := TX1) (N := 5) hx hb hU inU1 hown hK (fw_at hP (fw_V0 (f := 13) (by decide) (by decide))) 0 rfl rfl 2 (by decide) (hU (Cond.fieldLink RX1 19 "LaundryService$CommandText" "position" "I") m_161) (fun _ h9 => h9) rfl dX1_parse_56 ?_
            refine lv_aload_n hx hb dX1_parse_59 rfl (lv_at hl 0 rfl) ?_
            refine va_get (D := fw_D E) (ci := 3) (v := .int (μ8 0 13 1)) (C := RX1) (T := TX1) (N := 5) hx hb hU inU1 hown hK (fw_at hP (fw_V0 (f := 13) (by decide) (by decide))) 0 rfl rfl 1 (by decide) (hU (Cond.fieldLink RX1 15 "LaundryService$CommandText" "length" "I") m_159) (fun _ h9 => h9) rfl dX1_parse_60 ?_
            refine lv_icmp_ne (tgt := 70) hx hb dX1_parse_63 (by decide) (fun c10 => ?_) (fun c10 => ?_)
            · rw [if_neg c10] at h
              refine lv_iconst (v := (0 : Int32)) hx hb dX1_parse_70 (by decide) ?_
              exact W.zret (v := (0 : Int32)) hx hb hr rfl (fw_ew (mk := Value.int) h hP hS) hS.2.2 dX1_parse_71
            · rw [if_pos c10] at h
              refine lv_iconst (v := (1 : Int32)) hx hb dX1_parse_66 (by decide) ?_
              refine lv_goto (tgt := 71) hx hb dX1_parse_67 (by decide) ?_
              exact W.zret (v := (1 : Int32)) hx hb hr rfl (fw_ew (mk := Value.int) h hP hS) hS.2.2 dX1_parse_71
        · rw [if_pos c6] at h
          refine lv_iconst (v := (0 : Int32)) hx hb dX1_parse_34 (by decide) ?_
          exact W.zret (v := (0 : Int32)) hx hb hr rfl (fw_ew (mk := Value.int) h hP hS) hS.2.2 dX1_parse_35
  have EN : ∀ (H : Heap) (locs : List Loc) (ls : Array Slot), fw_P E o d μ H → va_S (fw_A E) s.heap H locs → lv_has ls 2 [(0, .ref (fw_ad E 0 13))] → W p l e (headSpec (fw_ws yX1_parse cX1_parse 2 (some .boolean)) ({ frames := 7, cells := 0, slots := 0, locals := 153 } : Room)).room s m args below meth c H locs 0 0 (MQ below (fw_Q E o d (some (.int r)) μ') args s 0 0 (fw_A E)) (F0 m 0 ls []) := by
    intro H locs ls hP hS hl
    unfold f_X1_parse at h
    refine lv_aload_n hx hb dX1_parse_0 rfl (lv_at hl 0 rfl) ?_
    refine lv_iconst (v := (0 : Int32)) hx hb dX1_parse_1 (by decide) ?_
    refine fw_put (ci := 3) (v := .int (0 : Int32)) (ty := .int) (C := RX1) (T := TX1) (N := 5) hx hb hU inU1 tyX1 tyX1_ok nmX1 hown hK hP hE hS (fw_V0 (f := 13) (by decide) (by decide)) rfl rfl 2 (by decide) (hU (Cond.fieldLink RX1 19 "LaundryService$CommandText" "position" "I") m_161) (fun _ h9 => h9) rfl (by decide +kernel) rfl rfl (Nat.le_of_ble_eq_true rfl) 2 (0 : Int32) (by rw [fw_u_c]; rfl) dX1_parse_2 (fun H locs hP hS => ?_)
    obtain ⟨μ1, eμ1, h⟩ := fw_l_e h
    rw [← eμ1] at hP
    refine lv_aload_n hx hb dX1_parse_5 rfl (lv_at hl 0 rfl) ?_
    refine lv_iconst (v := (0 : Int32)) hx hb dX1_parse_6 (by decide) ?_
    refine fw_put (ci := 3) (v := .int (0 : Int32)) (ty := .int) (C := RX1) (T := TX1) (N := 5) hx hb hU inU1 tyX1 tyX1_ok nmX1 hown hK hP hE hS (fw_V0 (f := 13) (by decide) (by decide)) rfl rfl 4 (by decide) (hU (Cond.fieldLink RX1 28 "LaundryService$CommandText" "commandCount" "I") m_165) (fun _ h9 => h9) rfl (by decide +kernel) rfl rfl (Nat.le_of_ble_eq_true rfl) 4 (0 : Int32) (by rw [fw_u_c]; rfl) dX1_parse_7 (fun H locs hP hS => ?_)
    obtain ⟨μ2, eμ2, h⟩ := fw_l_e h
    rw [← eμ2] at hP
    refine lv_iconst (v := (0 : Int32)) hx hb dX1_parse_10 (by decide) ?_
    refine lv_istore_n (lv' := [(1, .int (0 : Int32)), (0, .ref (fw_ad E 0 13))]) hx hb dX1_parse_11 rfl hl (by decide) rfl (fun ls hl => ?_)
    exact L12 1000 μ2 (0 : Int32) H locs ls h hP hS (lv_sub hl [1, 0] rfl)
  subst ha
  have hl := lv_entry ([.ref (fw_ad E 0 13)]) (n := 2) (Nat.le_of_ble_eq_true rfl)
  rw [lg_entry_eq]
  generalize (lg_sl ([.ref (fw_ad E 0 13)]) ++ List.replicate (2 - (lg_sl ([.ref (fw_ad E 0 13)])).length) Slot.unset).toArray = ls at hl ⊢
  exact EN s.heap [] ls hP va_S.rf hl
