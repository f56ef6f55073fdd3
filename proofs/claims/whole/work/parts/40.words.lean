theorem lx_0 : Cond.code yX11_init cX11_init 1 none ∈ lw_tbl := lw_t1 20 rfl
theorem lx_1 : Cond.fieldLink RX11 43 "TwiceStolen" "trail" "LTwiceStolen$Ring;" ∈ lw_tbl := lw_t2 40 rfl
theorem lx_2 : Cond.initialized RX4 ∈ lw_tbl := lw_t1 8 rfl
theorem lx_3 : Cond.instantiable RX4 6 ∈ lw_tbl := lw_t1 166 rfl
theorem lx_4 : Cond.classLink RX11 40 RX4 ∈ lw_tbl := lw_t1 165 rfl
theorem lx_5 : Cond.fieldLink RX11 36 "TwiceStolen" "packed" "LTwiceStolen$Sack;" ∈ lw_tbl := lw_t2 39 rfl
theorem lx_6 : Cond.initialized RX6 ∈ lw_tbl := lw_t1 7 rfl
theorem lx_7 : Cond.instantiable RX6 2 ∈ lw_tbl := lw_t1 151 rfl
theorem lx_8 : Cond.classLink RX11 33 RX6 ∈ lw_tbl := lw_t1 150 rfl
theorem lx_9 : Cond.fieldLink RX11 29 "TwiceStolen" "trial" "LTwiceStolen$Trial;" ∈ lw_tbl := lw_t2 38 rfl
theorem lx_10 : Cond.initialized RX9 ∈ lw_tbl := lw_t1 6 rfl
theorem lx_11 : Cond.instantiable RX9 8 ∈ lw_tbl := lw_t1 110 rfl
theorem lx_12 : Cond.classLink RX11 26 RX9 ∈ lw_tbl := lw_t1 109 rfl
theorem lx_13 : Cond.fieldLink RX11 22 "TwiceStolen" "pad" "LTwiceStolen$Pad;" ∈ lw_tbl := lw_t2 37 rfl
theorem lx_14 : Cond.initialized RX3 ∈ lw_tbl := lw_t1 5 rfl
theorem lx_15 : Cond.instantiable RX3 2 ∈ lw_tbl := lw_t1 95 rfl
theorem lx_16 : Cond.classLink RX11 19 RX3 ∈ lw_tbl := lw_t1 94 rfl
theorem lx_17 : Cond.fieldLink RX11 16 "TwiceStolen" "dreamt" "LTwiceStolen$World;" ∈ lw_tbl := lw_t2 36 rfl
theorem lx_18 : Cond.fieldLink RX11 10 "TwiceStolen" "now" "LTwiceStolen$World;" ∈ lw_tbl := lw_t2 35 rfl
theorem lx_19 : Cond.initialized RX10 ∈ lw_tbl := lw_t1 2 rfl
theorem lx_20 : Cond.instantiable RX10 9 ∈ lw_tbl := lw_t1 25 rfl
theorem lx_21 : Cond.classLink RX11 7 RX10 ∈ lw_tbl := lw_t1 24 rfl
theorem lx_22 : Cond.code objectInit ⟨#[0xb1]⟩ 1 none ∈ lw_tbl := lw_t1 23 rfl
theorem lx_23 : Cond.instanceMethod objectInit ∈ lw_tbl := lw_t1 22 rfl
theorem lx_24 : Cond.methodLink RX11 1 objectInit ∈ lw_tbl := lw_t1 21 rfl
set_option maxRecDepth 20000 in
theorem lxwsX11_init_r1 : ∀ w ∈ wsX11_init_r1, w ∈ lw_tbl := List.forall_mem_cons.mpr ⟨lx_24, List.forall_mem_cons.mpr ⟨lx_23, List.forall_mem_cons.mpr ⟨lx_22, List.forall_mem_cons.mpr ⟨lx_21, List.forall_mem_cons.mpr ⟨lx_20, List.forall_mem_cons.mpr ⟨lx_19, List.forall_mem_cons.mpr ⟨lx_18, List.forall_mem_cons.mpr ⟨lx_17, List.forall_mem_cons.mpr ⟨lx_16, List.forall_mem_cons.mpr ⟨lx_15, List.forall_mem_cons.mpr ⟨lx_14, List.forall_mem_cons.mpr ⟨lx_13, List.forall_mem_cons.mpr ⟨lx_12, List.forall_mem_cons.mpr ⟨lx_11, List.forall_mem_cons.mpr ⟨lx_10, List.forall_mem_cons.mpr ⟨lx_9, List.forall_mem_cons.mpr ⟨lx_8, List.forall_mem_cons.mpr ⟨lx_7, List.forall_mem_cons.mpr ⟨lx_6, List.forall_mem_cons.mpr ⟨lx_5, List.forall_mem_cons.mpr ⟨lx_4, List.forall_mem_cons.mpr ⟨lx_3, List.forall_mem_cons.mpr ⟨lx_2, List.forall_mem_cons.mpr ⟨lx_1, fun _ h => absurd h List.not_mem_nil⟩⟩⟩⟩⟩⟩⟩⟩⟩⟩⟩⟩⟩⟩⟩⟩⟩⟩⟩⟩⟩⟩⟩⟩
theorem lx_25 : Cond.arrayClass .int ∈ lw_tbl := lw_t1 47 rfl
theorem lx_26 : Cond.methodLink RX10 3 objectInit ∈ lw_tbl := lw_t1 29 rfl
theorem lx_27 : Cond.code yX10_init cX10_init 2 none ∈ lw_tbl := lw_t1 28 rfl
theorem lx_28 : Cond.instanceMethod yX10_init ∈ lw_tbl := lw_t1 27 rfl
theorem lx_29 : Cond.methodLink RX11 9 yX10_init ∈ lw_tbl := lw_t1 26 rfl
theorem lx_30 : Cond.fieldLink RX11 81 "TwiceStolen" "keptImages" "I" ∈ lw_tbl := lw_t2 47 rfl
theorem lx_31 : Cond.fieldLink RX11 78 "TwiceStolen" "secondImage" "LTwiceStolen$World;" ∈ lw_tbl := lw_t2 46 rfl
theorem lx_32 : Cond.fieldLink RX11 75 "TwiceStolen" "firstImage" "LTwiceStolen$World;" ∈ lw_tbl := lw_t2 45 rfl
theorem lx_33 : Cond.fieldLink RX11 71 "TwiceStolen" "chances" "LTwiceStolen$Chances;" ∈ lw_tbl := lw_t2 44 rfl
theorem lx_34 : Cond.initialized RX1 ∈ lw_tbl := lw_t1 12 rfl
theorem lx_35 : Cond.instantiable RX1 2 ∈ lw_tbl := lw_t2 21 rfl
theorem lx_36 : Cond.classLink RX11 68 RX1 ∈ lw_tbl := lw_t2 20 rfl
theorem lx_37 : Cond.fieldLink RX11 64 "TwiceStolen" "robbed" "LTwiceStolen$Shelf;" ∈ lw_tbl := lw_t2 43 rfl
theorem lx_38 : Cond.initialized RX7 ∈ lw_tbl := lw_t1 11 rfl
theorem lx_39 : Cond.instantiable RX7 3 ∈ lw_tbl := lw_t2 5 rfl
theorem lx_40 : Cond.classLink RX11 61 RX7 ∈ lw_tbl := lw_t2 4 rfl
theorem lx_41 : Cond.fieldLink RX11 57 "TwiceStolen" "hands" "LTwiceStolen$Hands;" ∈ lw_tbl := lw_t2 42 rfl
theorem lx_42 : Cond.initialized RX2 ∈ lw_tbl := lw_t1 10 rfl
theorem lx_43 : Cond.instantiable RX2 6 ∈ lw_tbl := lw_t1 218 rfl
theorem lx_44 : Cond.classLink RX11 54 RX2 ∈ lw_tbl := lw_t1 217 rfl
theorem lx_45 : Cond.fieldLink RX11 50 "TwiceStolen" "career" "LTwiceStolen$Career;" ∈ lw_tbl := lw_t2 41 rfl
theorem lx_46 : Cond.initialized RX0 ∈ lw_tbl := lw_t1 9 rfl
theorem lx_47 : Cond.instantiable RX0 5 ∈ lw_tbl := lw_t1 193 rfl
theorem lx_48 : Cond.classLink RX11 47 RX0 ∈ lw_tbl := lw_t1 192 rfl
set_option maxRecDepth 20000 in
theorem lxwsX11_init_r2 : ∀ w ∈ wsX11_init_r2, w ∈ lw_tbl := List.forall_mem_cons.mpr ⟨lx_48, List.forall_mem_cons.mpr ⟨lx_47, List.forall_mem_cons.mpr ⟨lx_46, List.forall_mem_cons.mpr ⟨lx_45, List.forall_mem_cons.mpr ⟨lx_44, List.forall_mem_cons.mpr ⟨lx_43, List.forall_mem_cons.mpr ⟨lx_42, List.forall_mem_cons.mpr ⟨lx_41, List.forall_mem_cons.mpr ⟨lx_40, List.forall_mem_cons.mpr ⟨lx_39, List.forall_mem_cons.mpr ⟨lx_38, List.forall_mem_cons.mpr ⟨lx_37, List.forall_mem_cons.mpr ⟨lx_36, List.forall_mem_cons.mpr ⟨lx_35, List.forall_mem_cons.mpr ⟨lx_34, List.forall_mem_cons.mpr ⟨lx_33, List.forall_mem_cons.mpr ⟨lx_32, List.forall_mem_cons.mpr ⟨lx_31, List.forall_mem_cons.mpr ⟨lx_30, List.forall_mem_cons.mpr ⟨lx_29, List.forall_mem_cons.mpr ⟨lx_28, List.forall_mem_cons.mpr ⟨lx_27, List.forall_mem_cons.mpr ⟨lx_26, List.forall_mem_cons.mpr ⟨lx_25, fun _ h => absurd h List.not_mem_nil⟩⟩⟩⟩⟩⟩⟩⟩⟩⟩⟩⟩⟩⟩⟩⟩⟩⟩⟩⟩⟩⟩⟩⟩
theorem lx_49 : Cond.methodLink RX10 50 yX5_fill ∈ lw_tbl := lw_t1 51 rfl
theorem lx_50 : Cond.code yX5_put cX5_put 3 none ∈ lw_tbl := lw_t1 50 rfl
theorem lx_51 : Cond.initialized RX5 ∈ lw_tbl := lw_t1 4 rfl
theorem lx_52 : Cond.static yX5_put ∈ lw_tbl := lw_t1 49 rfl
theorem lx_53 : Cond.methodLink RX10 44 yX5_put ∈ lw_tbl := lw_t1 48 rfl
theorem lx_54 : Cond.fieldLink RX8 16 "TwiceStolen$Sights" "count" "I" ∈ lw_tbl := lw_t1 38 rfl
theorem lx_55 : Cond.fieldLink RX8 13 "TwiceStolen$Sights" "later" "[I" ∈ lw_tbl := lw_t1 37 rfl
theorem lx_56 : Cond.fieldLink RX8 9 "TwiceStolen$Sights" "earlier" "[I" ∈ lw_tbl := lw_t1 36 rfl
theorem lx_57 : Cond.methodLink RX8 1 objectInit ∈ lw_tbl := lw_t1 35 rfl
theorem lx_58 : Cond.code yX8_init cX8_init 1 none ∈ lw_tbl := lw_t1 34 rfl
theorem lx_59 : Cond.instanceMethod yX8_init ∈ lw_tbl := lw_t1 33 rfl
theorem lx_60 : Cond.methodLink RX10 32 yX8_init ∈ lw_tbl := lw_t1 32 rfl
theorem lx_61 : Cond.fieldLink RX10 41 "TwiceStolen$World" "night" "I" ∈ lw_tbl := lw_t1 73 rfl
theorem lx_62 : Cond.fieldLink RX10 37 "TwiceStolen$World" "ajar" "I" ∈ lw_tbl := lw_t1 71 rfl
theorem lx_63 : Cond.fieldLink RX10 33 "TwiceStolen$World" "sights" "LTwiceStolen$Sights;" ∈ lw_tbl := lw_t1 69 rfl
theorem lx_64 : Cond.initialized RX8 ∈ lw_tbl := lw_t1 3 rfl
theorem lx_65 : Cond.instantiable RX8 3 ∈ lw_tbl := lw_t1 31 rfl
theorem lx_66 : Cond.classLink RX10 30 RX8 ∈ lw_tbl := lw_t1 30 rfl
theorem lx_67 : Cond.fieldLink RX10 27 "TwiceStolen$World" "kin" "[I" ∈ lw_tbl := lw_t1 67 rfl
theorem lx_68 : Cond.fieldLink RX10 24 "TwiceStolen$World" "coin" "[I" ∈ lw_tbl := lw_t1 65 rfl
theorem lx_69 : Cond.fieldLink RX10 21 "TwiceStolen$World" "weight" "[I" ∈ lw_tbl := lw_t1 62 rfl
theorem lx_70 : Cond.fieldLink RX10 18 "TwiceStolen$World" "worth" "[I" ∈ lw_tbl := lw_t1 59 rfl
theorem lx_71 : Cond.fieldLink RX10 15 "TwiceStolen$World" "taken" "[I" ∈ lw_tbl := lw_t1 57 rfl
theorem lx_72 : Cond.fieldLink RX10 9 "TwiceStolen$World" "holder" "[I" ∈ lw_tbl := lw_t1 54 rfl
set_option maxRecDepth 20000 in
theorem lxwsX11_init_r3 : ∀ w ∈ wsX11_init_r3, w ∈ lw_tbl := List.forall_mem_cons.mpr ⟨lx_72, List.forall_mem_cons.mpr ⟨lx_71, List.forall_mem_cons.mpr ⟨lx_70, List.forall_mem_cons.mpr ⟨lx_69, List.forall_mem_cons.mpr ⟨lx_68, List.forall_mem_cons.mpr ⟨lx_67, List.forall_mem_cons.mpr ⟨lx_66, List.forall_mem_cons.mpr ⟨lx_65, List.forall_mem_cons.mpr ⟨lx_64, List.forall_mem_cons.mpr ⟨lx_63, List.forall_mem_cons.mpr ⟨lx_62, List.forall_mem_cons.mpr ⟨lx_61, List.forall_mem_cons.mpr ⟨lx_60, List.forall_mem_cons.mpr ⟨lx_59, List.forall_mem_cons.mpr ⟨lx_58, List.forall_mem_cons.mpr ⟨lx_57, List.forall_mem_cons.mpr ⟨lx_56, List.forall_mem_cons.mpr ⟨lx_55, List.forall_mem_cons.mpr ⟨lx_54, List.forall_mem_cons.mpr ⟨lx_53, List.forall_mem_cons.mpr ⟨lx_52, List.forall_mem_cons.mpr ⟨lx_51, List.forall_mem_cons.mpr ⟨lx_50, List.forall_mem_cons.mpr ⟨lx_49, fun _ h => absurd h List.not_mem_nil⟩⟩⟩⟩⟩⟩⟩⟩⟩⟩⟩⟩⟩⟩⟩⟩⟩⟩⟩⟩⟩⟩⟩⟩
theorem lx_73 : Cond.code yX4_init cX4_init 1 none ∈ lw_tbl := lw_t1 169 rfl
theorem lx_74 : Cond.instanceMethod yX4_init ∈ lw_tbl := lw_t1 168 rfl
theorem lx_75 : Cond.methodLink RX11 42 yX4_init ∈ lw_tbl := lw_t1 167 rfl
theorem lx_76 : Cond.fieldLink RX6 15 "TwiceStolen$Sack" "things" "[I" ∈ lw_tbl := lw_t1 158 rfl
theorem lx_77 : Cond.fieldLink RX6 9 "TwiceStolen$Sack" "worth" "[I" ∈ lw_tbl := lw_t1 156 rfl
theorem lx_78 : Cond.methodLink RX6 3 objectInit ∈ lw_tbl := lw_t1 155 rfl
theorem lx_79 : Cond.code yX6_init cX6_init 1 none ∈ lw_tbl := lw_t1 154 rfl
theorem lx_80 : Cond.instanceMethod yX6_init ∈ lw_tbl := lw_t1 153 rfl
theorem lx_81 : Cond.methodLink RX11 35 yX6_init ∈ lw_tbl := lw_t1 152 rfl
theorem lx_82 : Cond.methodLink RX9 11 yX10_init ∈ lw_tbl := lw_t1 116 rfl
theorem lx_83 : Cond.fieldLink RX9 12 "TwiceStolen$Trial" "world" "LTwiceStolen$World;" ∈ lw_tbl := lw_t1 117 rfl
theorem lx_84 : Cond.classLink RX9 9 RX10 ∈ lw_tbl := lw_t1 115 rfl
theorem lx_85 : Cond.methodLink RX9 3 objectInit ∈ lw_tbl := lw_t1 114 rfl
theorem lx_86 : Cond.code yX9_init cX9_init 1 none ∈ lw_tbl := lw_t1 113 rfl
theorem lx_87 : Cond.instanceMethod yX9_init ∈ lw_tbl := lw_t1 112 rfl
theorem lx_88 : Cond.methodLink RX11 28 yX9_init ∈ lw_tbl := lw_t1 111 rfl
theorem lx_89 : Cond.fieldLink RX3 15 "TwiceStolen$Pad" "size" "I" ∈ lw_tbl := lw_t1 101 rfl
theorem lx_90 : Cond.fieldLink RX3 11 "TwiceStolen$Pad" "signs" "[I" ∈ lw_tbl := lw_t1 100 rfl
theorem lx_91 : Cond.methodLink RX3 3 objectInit ∈ lw_tbl := lw_t1 99 rfl
theorem lx_92 : Cond.code yX3_init cX3_init 1 none ∈ lw_tbl := lw_t1 98 rfl
theorem lx_93 : Cond.instanceMethod yX3_init ∈ lw_tbl := lw_t1 97 rfl
theorem lx_94 : Cond.methodLink RX11 21 yX3_init ∈ lw_tbl := lw_t1 96 rfl
theorem lx_95 : Cond.code yX5_fill cX5_fill 3 none ∈ lw_tbl := lw_t1 53 rfl
theorem lx_96 : Cond.static yX5_fill ∈ lw_tbl := lw_t1 52 rfl
set_option maxRecDepth 20000 in
theorem lxwsX11_init_r4 : ∀ w ∈ wsX11_init_r4, w ∈ lw_tbl := List.forall_mem_cons.mpr ⟨lx_96, List.forall_mem_cons.mpr ⟨lx_95, List.forall_mem_cons.mpr ⟨lx_94, List.forall_mem_cons.mpr ⟨lx_93, List.forall_mem_cons.mpr ⟨lx_92, List.forall_mem_cons.mpr ⟨lx_91, List.forall_mem_cons.mpr ⟨lx_90, List.forall_mem_cons.mpr ⟨lx_89, List.forall_mem_cons.mpr ⟨lx_88, List.forall_mem_cons.mpr ⟨lx_87, List.forall_mem_cons.mpr ⟨lx_86, List.forall_mem_cons.mpr ⟨lx_85, List.forall_mem_cons.mpr ⟨lx_84, List.forall_mem_cons.mpr ⟨lx_83, List.forall_mem_cons.mpr ⟨lx_82, List.forall_mem_cons.mpr ⟨lx_81, List.forall_mem_cons.mpr ⟨lx_80, List.forall_mem_cons.mpr ⟨lx_79, List.forall_mem_cons.mpr ⟨lx_78, List.forall_mem_cons.mpr ⟨lx_77, List.forall_mem_cons.mpr ⟨lx_76, List.forall_mem_cons.mpr ⟨lx_75, List.forall_mem_cons.mpr ⟨lx_74, List.forall_mem_cons.mpr ⟨lx_73, fun _ h => absurd h List.not_mem_nil⟩⟩⟩⟩⟩⟩⟩⟩⟩⟩⟩⟩⟩⟩⟩⟩⟩⟩⟩⟩⟩⟩⟩⟩
theorem lx_97 : Cond.instanceMethod yX1_init ∈ lw_tbl := lw_t2 23 rfl
theorem lx_98 : Cond.methodLink RX11 70 yX1_init ∈ lw_tbl := lw_t2 22 rfl
theorem lx_99 : Cond.fieldLink RX7 18 "TwiceStolen$Shelf" "isKnown" "Z" ∈ lw_tbl := lw_t2 12 rfl
theorem lx_100 : Cond.fieldLink RX7 15 "TwiceStolen$Shelf" "length" "[I" ∈ lw_tbl := lw_t2 11 rfl
theorem lx_101 : Cond.fieldLink RX7 11 "TwiceStolen$Shelf" "lost" "[I" ∈ lw_tbl := lw_t2 10 rfl
theorem lx_102 : Cond.methodLink RX7 3 objectInit ∈ lw_tbl := lw_t2 9 rfl
theorem lx_103 : Cond.code yX7_init cX7_init 1 none ∈ lw_tbl := lw_t2 8 rfl
theorem lx_104 : Cond.instanceMethod yX7_init ∈ lw_tbl := lw_t2 7 rfl
theorem lx_105 : Cond.methodLink RX11 63 yX7_init ∈ lw_tbl := lw_t2 6 rfl
theorem lx_106 : Cond.fieldLink RX2 15 "TwiceStolen$Hands" "times" "[I" ∈ lw_tbl := lw_t1 224 rfl
theorem lx_107 : Cond.fieldLink RX2 11 "TwiceStolen$Hands" "place" "[I" ∈ lw_tbl := lw_t1 223 rfl
theorem lx_108 : Cond.methodLink RX2 3 objectInit ∈ lw_tbl := lw_t1 222 rfl
theorem lx_109 : Cond.code yX2_init cX2_init 1 none ∈ lw_tbl := lw_t1 221 rfl
theorem lx_110 : Cond.instanceMethod yX2_init ∈ lw_tbl := lw_t1 220 rfl
theorem lx_111 : Cond.methodLink RX11 56 yX2_init ∈ lw_tbl := lw_t1 219 rfl
theorem lx_112 : Cond.fieldLink RX0 9 "TwiceStolen$Career" "worth" "[I" ∈ lw_tbl := lw_t1 198 rfl
theorem lx_113 : Cond.methodLink RX0 1 objectInit ∈ lw_tbl := lw_t1 197 rfl
theorem lx_114 : Cond.code yX0_init cX0_init 1 none ∈ lw_tbl := lw_t1 196 rfl
theorem lx_115 : Cond.instanceMethod yX0_init ∈ lw_tbl := lw_t1 195 rfl
theorem lx_116 : Cond.methodLink RX11 49 yX0_init ∈ lw_tbl := lw_t1 194 rfl
theorem lx_117 : Cond.fieldLink RX4 18 "TwiceStolen$Ring" "nightOf" "[I" ∈ lw_tbl := lw_t1 173 rfl
theorem lx_118 : Cond.fieldLink RX4 15 "TwiceStolen$Ring" "path" "[I" ∈ lw_tbl := lw_t1 172 rfl
theorem lx_119 : Cond.fieldLink RX4 9 "TwiceStolen$Ring" "next" "[I" ∈ lw_tbl := lw_t1 171 rfl
theorem lx_120 : Cond.methodLink RX4 3 objectInit ∈ lw_tbl := lw_t1 170 rfl
set_option maxRecDepth 20000 in
theorem lxwsX11_init_r5 : ∀ w ∈ wsX11_init_r5, w ∈ lw_tbl := List.forall_mem_cons.mpr ⟨lx_120, List.forall_mem_cons.mpr ⟨lx_119, List.forall_mem_cons.mpr ⟨lx_118, List.forall_mem_cons.mpr ⟨lx_117, List.forall_mem_cons.mpr ⟨lx_116, List.forall_mem_cons.mpr ⟨lx_115, List.forall_mem_cons.mpr ⟨lx_114, List.forall_mem_cons.mpr ⟨lx_113, List.forall_mem_cons.mpr ⟨lx_112, List.forall_mem_cons.mpr ⟨lx_111, List.forall_mem_cons.mpr ⟨lx_110, List.forall_mem_cons.mpr ⟨lx_109, List.forall_mem_cons.mpr ⟨lx_108, List.forall_mem_cons.mpr ⟨lx_107, List.forall_mem_cons.mpr ⟨lx_106, List.forall_mem_cons.mpr ⟨lx_105, List.forall_mem_cons.mpr ⟨lx_104, List.forall_mem_cons.mpr ⟨lx_103, List.forall_mem_cons.mpr ⟨lx_102, List.forall_mem_cons.mpr ⟨lx_101, List.forall_mem_cons.mpr ⟨lx_100, List.forall_mem_cons.mpr ⟨lx_99, List.forall_mem_cons.mpr ⟨lx_98, List.forall_mem_cons.mpr ⟨lx_97, fun _ h => absurd h List.not_mem_nil⟩⟩⟩⟩⟩⟩⟩⟩⟩⟩⟩⟩⟩⟩⟩⟩⟩⟩⟩⟩⟩⟩⟩⟩
theorem lx_121 : Cond.fieldLink RX1 9 "TwiceStolen$Chances" "ways" "[J" ∈ lw_tbl := lw_t2 26 rfl
theorem lx_122 : Cond.arrayClass .long ∈ lw_tbl := lw_t2 34 rfl
theorem lx_123 : Cond.methodLink RX1 1 objectInit ∈ lw_tbl := lw_t2 25 rfl
theorem lx_124 : Cond.code yX1_init cX1_init 1 none ∈ lw_tbl := lw_t2 24 rfl
set_option maxRecDepth 20000 in
theorem lxwsX11_init_r6 : ∀ w ∈ wsX11_init_r6, w ∈ lw_tbl := List.forall_mem_cons.mpr ⟨lx_124, List.forall_mem_cons.mpr ⟨lx_123, List.forall_mem_cons.mpr ⟨lx_122, List.forall_mem_cons.mpr ⟨lx_121, fun _ h => absurd h List.not_mem_nil⟩⟩⟩⟩
set_option maxRecDepth 20000 in
theorem lxwsX11_init : ∀ w ∈ wsX11_init, w ∈ lw_tbl := List.forall_mem_cons.mpr ⟨lx_0, List.forall_mem_append.mpr ⟨List.forall_mem_append.mpr ⟨List.forall_mem_append.mpr ⟨List.forall_mem_append.mpr ⟨List.forall_mem_append.mpr ⟨List.forall_mem_append.mpr ⟨List.forall_mem_append.mpr ⟨List.forall_mem_append.mpr ⟨List.forall_mem_append.mpr ⟨List.forall_mem_append.mpr ⟨List.forall_mem_append.mpr ⟨List.forall_mem_append.mpr ⟨lxwsX11_init_r1, List.forall_mem_append.mpr ⟨lxwsX11_init_r2, List.forall_mem_append.mpr ⟨lxwsX11_init_r3, List.forall_mem_append.mpr ⟨lxwsX11_init_r4, List.forall_mem_append.mpr ⟨lxwsX11_init_r5, lxwsX11_init_r6⟩⟩⟩⟩⟩, inX10⟩, inX11⟩, inX3⟩, inX9⟩, inX6⟩, inX4⟩, inX0⟩, inX2⟩, inX7⟩, inX1⟩, inX8⟩⟩
set_option maxRecDepth 20000 in
theorem gg_X11_init : GoodIn lw_tbl wsX11_init := goodIn_sub lxwsX11_init (by decide +kernel)
theorem lx_125 : Cond.code yX12_init cX12_init 2 none ∈ lw_tbl := lw_t3 237 rfl
theorem lx_126 : Cond.arrayClass .boolean ∈ lw_tbl := lw_t4 114 rfl
theorem lx_127 : Cond.fieldLink RX12 64 "TwiceStolenModel" "fit" "[I" ∈ lw_tbl := lw_t4 28 rfl
theorem lx_128 : Cond.fieldLink RX12 61 "TwiceStolenModel" "at" "[I" ∈ lw_tbl := lw_t4 27 rfl
theorem lx_129 : Cond.fieldLink RX12 58 "TwiceStolenModel" "digits" "[I" ∈ lw_tbl := lw_t4 26 rfl
theorem lx_130 : Cond.fieldLink RX12 55 "TwiceStolenModel" "met" "[I" ∈ lw_tbl := lw_t4 25 rfl
theorem lx_131 : Cond.fieldLink RX12 52 "TwiceStolenModel" "next" "[I" ∈ lw_tbl := lw_t4 24 rfl
theorem lx_132 : Cond.fieldLink RX12 49 "TwiceStolenModel" "had" "[I" ∈ lw_tbl := lw_t4 19 rfl
theorem lx_133 : Cond.fieldLink RX12 46 "TwiceStolenModel" "whom" "[I" ∈ lw_tbl := lw_t4 15 rfl
theorem lx_134 : Cond.fieldLink RX12 43 "TwiceStolenModel" "what" "[I" ∈ lw_tbl := lw_t4 14 rfl
theorem lx_135 : Cond.fieldLink RX12 40 "TwiceStolenModel" "who" "[I" ∈ lw_tbl := lw_t4 13 rfl
theorem lx_136 : Cond.fieldLink RX12 37 "TwiceStolenModel" "act" "[I" ∈ lw_tbl := lw_t4 12 rfl
theorem lx_137 : Cond.fieldLink RX12 34 "TwiceStolenModel" "pad" "[I" ∈ lw_tbl := lw_t4 10 rfl
theorem lx_138 : Cond.fieldLink RX12 31 "TwiceStolenModel" "sightSecond" "[I" ∈ lw_tbl := lw_t4 8 rfl
theorem lx_139 : Cond.fieldLink RX12 28 "TwiceStolenModel" "sightFirst" "[I" ∈ lw_tbl := lw_t4 7 rfl
theorem lx_140 : Cond.fieldLink RX12 25 "TwiceStolenModel" "kin" "[I" ∈ lw_tbl := lw_t4 4 rfl
theorem lx_141 : Cond.fieldLink RX12 22 "TwiceStolenModel" "coin" "[I" ∈ lw_tbl := lw_t4 3 rfl
theorem lx_142 : Cond.fieldLink RX12 19 "TwiceStolenModel" "weight" "[I" ∈ lw_tbl := lw_t4 2 rfl
theorem lx_143 : Cond.fieldLink RX12 16 "TwiceStolenModel" "worth" "[I" ∈ lw_tbl := lw_t4 1 rfl
theorem lx_144 : Cond.fieldLink RX12 13 "TwiceStolenModel" "taken" "[I" ∈ lw_tbl := lw_t4 0 rfl
theorem lx_145 : Cond.fieldLink RX12 7 "TwiceStolenModel" "holder" "[I" ∈ lw_tbl := lw_t3 239 rfl
theorem lx_146 : Cond.methodLink RX12 1 objectInit ∈ lw_tbl := lw_t3 238 rfl
set_option maxRecDepth 20000 in
theorem lxwsX12_init_r1 : ∀ w ∈ wsX12_init_r1, w ∈ lw_tbl := List.forall_mem_cons.mpr ⟨lx_146, List.forall_mem_cons.mpr ⟨lx_23, List.forall_mem_cons.mpr ⟨lx_22, List.forall_mem_cons.mpr ⟨lx_25, List.forall_mem_cons.mpr ⟨lx_145, List.forall_mem_cons.mpr ⟨lx_144, List.forall_mem_cons.mpr ⟨lx_143, List.forall_mem_cons.mpr ⟨lx_142, List.forall_mem_cons.mpr ⟨lx_141, List.forall_mem_cons.mpr ⟨lx_140, List.forall_mem_cons.mpr ⟨lx_139, List.forall_mem_cons.mpr ⟨lx_138, List.forall_mem_cons.mpr ⟨lx_137, List.forall_mem_cons.mpr ⟨lx_136, List.forall_mem_cons.mpr ⟨lx_135, List.forall_mem_cons.mpr ⟨lx_134, List.forall_mem_cons.mpr ⟨lx_133, List.forall_mem_cons.mpr ⟨lx_132, List.forall_mem_cons.mpr ⟨lx_131, List.forall_mem_cons.mpr ⟨lx_130, List.forall_mem_cons.mpr ⟨lx_129, List.forall_mem_cons.mpr ⟨lx_128, List.forall_mem_cons.mpr ⟨lx_127, List.forall_mem_cons.mpr ⟨lx_126, fun _ h => absurd h List.not_mem_nil⟩⟩⟩⟩⟩⟩⟩⟩⟩⟩⟩⟩⟩⟩⟩⟩⟩⟩⟩⟩⟩⟩⟩⟩
theorem lx_147 : Cond.fieldLink RX12 84 "TwiceStolenModel" "ajar" "I" ∈ lw_tbl := lw_t4 5 rfl
theorem lx_148 : Cond.fieldLink RX12 81 "TwiceStolenModel" "isKept" "[Z" ∈ lw_tbl := lw_t4 34 rfl
theorem lx_149 : Cond.fieldLink RX12 78 "TwiceStolenModel" "kept" "[I" ∈ lw_tbl := lw_t4 33 rfl
theorem lx_150 : Cond.fieldLink RX12 74 "TwiceStolenModel" "ways" "[J" ∈ lw_tbl := lw_t4 32 rfl
theorem lx_151 : Cond.fieldLink RX12 71 "TwiceStolenModel" "rows" "[I" ∈ lw_tbl := lw_t4 31 rfl
theorem lx_152 : Cond.fieldLink RX12 67 "TwiceStolenModel" "wins" "[Z" ∈ lw_tbl := lw_t4 30 rfl
set_option maxRecDepth 20000 in
theorem lxwsX12_init_r2 : ∀ w ∈ wsX12_init_r2, w ∈ lw_tbl := List.forall_mem_cons.mpr ⟨lx_152, List.forall_mem_cons.mpr ⟨lx_151, List.forall_mem_cons.mpr ⟨lx_122, List.forall_mem_cons.mpr ⟨lx_150, List.forall_mem_cons.mpr ⟨lx_149, List.forall_mem_cons.mpr ⟨lx_148, List.forall_mem_cons.mpr ⟨lx_147, fun _ h => absurd h List.not_mem_nil⟩⟩⟩⟩⟩⟩⟩
set_option maxRecDepth 20000 in
theorem lxwsX12_init : ∀ w ∈ wsX12_init, w ∈ lw_tbl := List.forall_mem_cons.mpr ⟨lx_125, List.forall_mem_append.mpr ⟨List.forall_mem_append.mpr ⟨lxwsX12_init_r1, lxwsX12_init_r2⟩, inX12⟩⟩
set_option maxRecDepth 20000 in
theorem gg_X12_init : GoodIn lw_tbl wsX12_init := goodIn_sub lxwsX12_init (by decide +kernel)
theorem lx_153 : Cond.code yX11_thing cX11_thing 7 (some .int) ∈ lw_tbl := lw_t2 78 rfl
theorem lx_154 : Cond.methodLink RX11 106 yX5_put ∈ lw_tbl := lw_t2 91 rfl
theorem lx_155 : Cond.code yX5_at cX5_at 2 (some .int) ∈ lw_tbl := lw_t2 90 rfl
theorem lx_156 : Cond.static yX5_at ∈ lw_tbl := lw_t2 89 rfl
theorem lx_157 : Cond.methodLink RX11 102 yX5_at ∈ lw_tbl := lw_t2 88 rfl
theorem lx_158 : Cond.code yX11_isOne cX11_isOne 1 (some .boolean) ∈ lw_tbl := lw_t2 87 rfl
theorem lx_159 : Cond.static yX11_isOne ∈ lw_tbl := lw_t2 86 rfl
theorem lx_160 : Cond.methodLink RX11 89 yX11_isOne ∈ lw_tbl := lw_t2 85 rfl
theorem lx_161 : Cond.code yX5_within cX5_within 3 (some .boolean) ∈ lw_tbl := lw_t2 84 rfl
theorem lx_162 : Cond.static yX5_within ∈ lw_tbl := lw_t2 83 rfl
theorem lx_163 : Cond.methodLink RX11 92 yX5_within ∈ lw_tbl := lw_t2 82 rfl
theorem lx_164 : Cond.code yX11_isThing cX11_isThing 1 (some .boolean) ∈ lw_tbl := lw_t2 81 rfl
theorem lx_165 : Cond.initialized RX11 ∈ lw_tbl := lw_t1 1 rfl
theorem lx_166 : Cond.static yX11_isThing ∈ lw_tbl := lw_t2 80 rfl
theorem lx_167 : Cond.methodLink RX11 85 yX11_isThing ∈ lw_tbl := lw_t2 79 rfl
theorem lx_168 : Cond.fieldLink RX11 116 "TwiceStolen$World" "weight" "[I" ∈ lw_tbl := lw_t1 64 rfl
theorem lx_169 : Cond.fieldLink RX11 113 "TwiceStolen$World" "worth" "[I" ∈ lw_tbl := lw_t1 61 rfl
theorem lx_170 : Cond.fieldLink RX11 110 "TwiceStolen$World" "taken" "[I" ∈ lw_tbl := lw_t1 58 rfl
theorem lx_171 : Cond.fieldLink RX11 98 "TwiceStolen$World" "holder" "[I" ∈ lw_tbl := lw_t1 56 rfl
set_option maxRecDepth 20000 in
theorem lxwsX11_thing : ∀ w ∈ wsX11_thing, w ∈ lw_tbl := List.forall_mem_cons.mpr ⟨lx_153, List.forall_mem_append.mpr ⟨List.forall_mem_append.mpr ⟨List.forall_mem_cons.mpr ⟨lx_18, List.forall_mem_cons.mpr ⟨lx_171, List.forall_mem_cons.mpr ⟨lx_170, List.forall_mem_cons.mpr ⟨lx_169, List.forall_mem_cons.mpr ⟨lx_168, List.forall_mem_cons.mpr ⟨lx_167, List.forall_mem_cons.mpr ⟨lx_166, List.forall_mem_cons.mpr ⟨lx_165, List.forall_mem_cons.mpr ⟨lx_164, List.forall_mem_cons.mpr ⟨lx_163, List.forall_mem_cons.mpr ⟨lx_162, List.forall_mem_cons.mpr ⟨lx_51, List.forall_mem_cons.mpr ⟨lx_161, List.forall_mem_cons.mpr ⟨lx_160, List.forall_mem_cons.mpr ⟨lx_159, List.forall_mem_cons.mpr ⟨lx_158, List.forall_mem_cons.mpr ⟨lx_157, List.forall_mem_cons.mpr ⟨lx_156, List.forall_mem_cons.mpr ⟨lx_155, List.forall_mem_cons.mpr ⟨lx_154, List.forall_mem_cons.mpr ⟨lx_52, List.forall_mem_cons.mpr ⟨lx_50, fun _ h => absurd h List.not_mem_nil⟩⟩⟩⟩⟩⟩⟩⟩⟩⟩⟩⟩⟩⟩⟩⟩⟩⟩⟩⟩⟩⟩, inX11⟩, inX10⟩⟩
set_option maxRecDepth 20000 in
theorem gg_X11_thing : GoodIn lw_tbl wsX11_thing := goodIn_sub lxwsX11_thing (by decide +kernel)
theorem lx_172 : Cond.selects RX11 yX11_thing yX11_thing ∈ lw_tbl := lw_t2 77 rfl
theorem lx_173 : Cond.instanceMethod yX11_thing ∈ lw_tbl := lw_t2 76 rfl
theorem lx_174 : Cond.methodLink RL 13 yX11_thing ∈ lw_tbl := lw_t2 75 rfl
set_option maxRecDepth 20000 in
theorem gL_X11_thing : GoodIn lw_tbl (wsV RL 13 RX11 yX11_thing wsX11_thing) := goodIn_app (goodIn_sub (List.forall_mem_cons.mpr ⟨lx_174, List.forall_mem_cons.mpr ⟨lx_173, List.forall_mem_cons.mpr ⟨lx_172, List.forall_mem_cons.mpr ⟨lx_165, fun _ h => absurd h List.not_mem_nil⟩⟩⟩⟩) (by decide +kernel)) gg_X11_thing
theorem lx_175 : Cond.code yX12_thing cX12_thing 7 (some .int) ∈ lw_tbl := lw_t4 118 rfl
theorem lx_176 : Cond.constantLong RX12 94 (7) ∈ lw_tbl := lw_t4 129 rfl
theorem lx_177 : Cond.code yX12_isOne cX12_isOne 1 (some .boolean) ∈ lw_tbl := lw_t4 128 rfl
theorem lx_178 : Cond.static yX12_isOne ∈ lw_tbl := lw_t4 127 rfl
theorem lx_179 : Cond.methodLink RX12 100 yX12_isOne ∈ lw_tbl := lw_t4 126 rfl
theorem lx_180 : Cond.code yX12_in cX12_in 6 (some .boolean) ∈ lw_tbl := lw_t4 125 rfl
theorem lx_181 : Cond.static yX12_in ∈ lw_tbl := lw_t4 124 rfl
theorem lx_182 : Cond.methodLink RX12 90 yX12_in ∈ lw_tbl := lw_t4 123 rfl
theorem lx_183 : Cond.constantLong RX12 88 (11) ∈ lw_tbl := lw_t4 122 rfl
theorem lx_184 : Cond.code yX12_isThing cX12_isThing 1 (some .boolean) ∈ lw_tbl := lw_t4 121 rfl
theorem lx_185 : Cond.initialized RX12 ∈ lw_tbl := lw_t1 13 rfl
theorem lx_186 : Cond.static yX12_isThing ∈ lw_tbl := lw_t4 120 rfl
theorem lx_187 : Cond.methodLink RX12 96 yX12_isThing ∈ lw_tbl := lw_t4 119 rfl
theorem lx_188 : Cond.constantLong RX12 105 (99) ∈ lw_tbl := lw_t4 131 rfl
theorem lx_189 : Cond.constantLong RX12 103 (9) ∈ lw_tbl := lw_t4 130 rfl
set_option maxRecDepth 20000 in
theorem lxwsX12_thing : ∀ w ∈ wsX12_thing, w ∈ lw_tbl := List.forall_mem_cons.mpr ⟨lx_175, List.forall_mem_append.mpr ⟨List.forall_mem_cons.mpr ⟨lx_189, List.forall_mem_cons.mpr ⟨lx_188, List.forall_mem_cons.mpr ⟨lx_145, List.forall_mem_cons.mpr ⟨lx_144, List.forall_mem_cons.mpr ⟨lx_143, List.forall_mem_cons.mpr ⟨lx_142, List.forall_mem_cons.mpr ⟨lx_187, List.forall_mem_cons.mpr ⟨lx_186, List.forall_mem_cons.mpr ⟨lx_185, List.forall_mem_cons.mpr ⟨lx_184, List.forall_mem_cons.mpr ⟨lx_183, List.forall_mem_cons.mpr ⟨lx_182, List.forall_mem_cons.mpr ⟨lx_181, List.forall_mem_cons.mpr ⟨lx_180, List.forall_mem_cons.mpr ⟨lx_179, List.forall_mem_cons.mpr ⟨lx_178, List.forall_mem_cons.mpr ⟨lx_177, List.forall_mem_cons.mpr ⟨lx_176, fun _ h => absurd h List.not_mem_nil⟩⟩⟩⟩⟩⟩⟩⟩⟩⟩⟩⟩⟩⟩⟩⟩⟩⟩, inX12⟩⟩
set_option maxRecDepth 20000 in
theorem gg_X12_thing : GoodIn lw_tbl wsX12_thing := goodIn_sub lxwsX12_thing (by decide +kernel)
theorem lx_190 : Cond.selects RX12 yX12_thing yX12_thing ∈ lw_tbl := lw_t4 117 rfl
theorem lx_191 : Cond.instanceMethod yX12_thing ∈ lw_tbl := lw_t4 116 rfl
theorem lx_192 : Cond.methodLink RL 17 yX12_thing ∈ lw_tbl := lw_t4 115 rfl
set_option maxRecDepth 20000 in
theorem gL_X12_thing : GoodIn lw_tbl (wsV RL 17 RX12 yX12_thing wsX12_thing) := goodIn_app (goodIn_sub (List.forall_mem_cons.mpr ⟨lx_192, List.forall_mem_cons.mpr ⟨lx_191, List.forall_mem_cons.mpr ⟨lx_190, List.forall_mem_cons.mpr ⟨lx_185, fun _ h => absurd h List.not_mem_nil⟩⟩⟩⟩) (by decide +kernel)) gg_X12_thing
theorem lx_193 : Cond.code yX11_one cX11_one 5 (some .int) ∈ lw_tbl := lw_t2 95 rfl
theorem lx_194 : Cond.fieldLink RX11 122 "TwiceStolen$World" "ajar" "I" ∈ lw_tbl := lw_t1 72 rfl
theorem lx_195 : Cond.fieldLink RX11 119 "TwiceStolen$World" "coin" "[I" ∈ lw_tbl := lw_t1 66 rfl
set_option maxRecDepth 20000 in
theorem lxwsX11_one : ∀ w ∈ wsX11_one, w ∈ lw_tbl := List.forall_mem_cons.mpr ⟨lx_193, List.forall_mem_append.mpr ⟨List.forall_mem_append.mpr ⟨List.forall_mem_cons.mpr ⟨lx_18, List.forall_mem_cons.mpr ⟨lx_195, List.forall_mem_cons.mpr ⟨lx_194, List.forall_mem_cons.mpr ⟨lx_160, List.forall_mem_cons.mpr ⟨lx_159, List.forall_mem_cons.mpr ⟨lx_165, List.forall_mem_cons.mpr ⟨lx_158, List.forall_mem_cons.mpr ⟨lx_163, List.forall_mem_cons.mpr ⟨lx_162, List.forall_mem_cons.mpr ⟨lx_51, List.forall_mem_cons.mpr ⟨lx_161, List.forall_mem_cons.mpr ⟨lx_157, List.forall_mem_cons.mpr ⟨lx_156, List.forall_mem_cons.mpr ⟨lx_155, List.forall_mem_cons.mpr ⟨lx_154, List.forall_mem_cons.mpr ⟨lx_52, List.forall_mem_cons.mpr ⟨lx_50, fun _ h => absurd h List.not_mem_nil⟩⟩⟩⟩⟩⟩⟩⟩⟩⟩⟩⟩⟩⟩⟩⟩⟩, inX11⟩, inX10⟩⟩
set_option maxRecDepth 20000 in
theorem gg_X11_one : GoodIn lw_tbl wsX11_one := goodIn_sub lxwsX11_one (by decide +kernel)
theorem lx_196 : Cond.selects RX11 yX11_one yX11_one ∈ lw_tbl := lw_t2 94 rfl
theorem lx_197 : Cond.instanceMethod yX11_one ∈ lw_tbl := lw_t2 93 rfl
theorem lx_198 : Cond.methodLink RL 18 yX11_one ∈ lw_tbl := lw_t2 92 rfl
set_option maxRecDepth 20000 in
theorem gL_X11_one : GoodIn lw_tbl (wsV RL 18 RX11 yX11_one wsX11_one) := goodIn_app (goodIn_sub (List.forall_mem_cons.mpr ⟨lx_198, List.forall_mem_cons.mpr ⟨lx_197, List.forall_mem_cons.mpr ⟨lx_196, List.forall_mem_cons.mpr ⟨lx_165, fun _ h => absurd h List.not_mem_nil⟩⟩⟩⟩) (by decide +kernel)) gg_X11_one
theorem lx_199 : Cond.code yX12_one cX12_one 5 (some .int) ∈ lw_tbl := lw_t4 135 rfl
theorem lx_200 : Cond.code yX12_with cX12_with 3 (some .int) ∈ lw_tbl := lw_t4 139 rfl
theorem lx_201 : Cond.static yX12_with ∈ lw_tbl := lw_t4 138 rfl
theorem lx_202 : Cond.methodLink RX12 109 yX12_with ∈ lw_tbl := lw_t4 137 rfl
theorem lx_203 : Cond.constantLong RX12 107 (9999) ∈ lw_tbl := lw_t4 136 rfl
set_option maxRecDepth 20000 in
theorem lxwsX12_one : ∀ w ∈ wsX12_one, w ∈ lw_tbl := List.forall_mem_cons.mpr ⟨lx_199, List.forall_mem_append.mpr ⟨List.forall_mem_cons.mpr ⟨lx_203, List.forall_mem_cons.mpr ⟨lx_141, List.forall_mem_cons.mpr ⟨lx_147, List.forall_mem_cons.mpr ⟨lx_179, List.forall_mem_cons.mpr ⟨lx_178, List.forall_mem_cons.mpr ⟨lx_185, List.forall_mem_cons.mpr ⟨lx_177, List.forall_mem_cons.mpr ⟨lx_176, List.forall_mem_cons.mpr ⟨lx_182, List.forall_mem_cons.mpr ⟨lx_181, List.forall_mem_cons.mpr ⟨lx_180, List.forall_mem_cons.mpr ⟨lx_202, List.forall_mem_cons.mpr ⟨lx_201, List.forall_mem_cons.mpr ⟨lx_200, fun _ h => absurd h List.not_mem_nil⟩⟩⟩⟩⟩⟩⟩⟩⟩⟩⟩⟩⟩⟩, inX12⟩⟩
set_option maxRecDepth 20000 in
theorem gg_X12_one : GoodIn lw_tbl wsX12_one := goodIn_sub lxwsX12_one (by decide +kernel)
theorem lx_204 : Cond.selects RX12 yX12_one yX12_one ∈ lw_tbl := lw_t4 134 rfl
theorem lx_205 : Cond.instanceMethod yX12_one ∈ lw_tbl := lw_t4 133 rfl
theorem lx_206 : Cond.methodLink RL 22 yX12_one ∈ lw_tbl := lw_t4 132 rfl
set_option maxRecDepth 20000 in
theorem gL_X12_one : GoodIn lw_tbl (wsV RL 22 RX12 yX12_one wsX12_one) := goodIn_app (goodIn_sub (List.forall_mem_cons.mpr ⟨lx_206, List.forall_mem_cons.mpr ⟨lx_205, List.forall_mem_cons.mpr ⟨lx_204, List.forall_mem_cons.mpr ⟨lx_185, fun _ h => absurd h List.not_mem_nil⟩⟩⟩⟩) (by decide +kernel)) gg_X12_one
theorem lx_207 : Cond.code yX11_brothers cX11_brothers 4 (some .int) ∈ lw_tbl := lw_t2 99 rfl
theorem lx_208 : Cond.selects RX10 yX10_pairsOfBrothers yX10_pairsOfBrothers ∈ lw_tbl := lw_t2 107 rfl
theorem lx_209 : Cond.instanceMethod yX10_pairsOfBrothers ∈ lw_tbl := lw_t2 106 rfl
theorem lx_210 : Cond.methodLink RX11 129 yX10_pairsOfBrothers ∈ lw_tbl := lw_t2 105 rfl
theorem lx_211 : Cond.methodLink RX10 61 yX5_at ∈ lw_tbl := lw_t2 104 rfl
theorem lx_212 : Cond.code yX10_bind cX10_bind 5 none ∈ lw_tbl := lw_t2 103 rfl
theorem lx_213 : Cond.selects RX10 yX10_bind yX10_bind ∈ lw_tbl := lw_t2 102 rfl
theorem lx_214 : Cond.instanceMethod yX10_bind ∈ lw_tbl := lw_t2 101 rfl
theorem lx_215 : Cond.methodLink RX11 125 yX10_bind ∈ lw_tbl := lw_t2 100 rfl
set_option maxRecDepth 20000 in
theorem lxwsX11_brothers_r1 : ∀ w ∈ wsX11_brothers_r1, w ∈ lw_tbl := List.forall_mem_cons.mpr ⟨lx_18, List.forall_mem_cons.mpr ⟨lx_160, List.forall_mem_cons.mpr ⟨lx_159, List.forall_mem_cons.mpr ⟨lx_165, List.forall_mem_cons.mpr ⟨lx_158, List.forall_mem_cons.mpr ⟨lx_163, List.forall_mem_cons.mpr ⟨lx_162, List.forall_mem_cons.mpr ⟨lx_51, List.forall_mem_cons.mpr ⟨lx_161, List.forall_mem_cons.mpr ⟨lx_215, List.forall_mem_cons.mpr ⟨lx_214, List.forall_mem_cons.mpr ⟨lx_213, List.forall_mem_cons.mpr ⟨lx_19, List.forall_mem_cons.mpr ⟨lx_212, List.forall_mem_cons.mpr ⟨lx_67, List.forall_mem_cons.mpr ⟨lx_211, List.forall_mem_cons.mpr ⟨lx_156, List.forall_mem_cons.mpr ⟨lx_155, List.forall_mem_cons.mpr ⟨lx_53, List.forall_mem_cons.mpr ⟨lx_52, List.forall_mem_cons.mpr ⟨lx_50, List.forall_mem_cons.mpr ⟨lx_210, List.forall_mem_cons.mpr ⟨lx_209, List.forall_mem_cons.mpr ⟨lx_208, fun _ h => absurd h List.not_mem_nil⟩⟩⟩⟩⟩⟩⟩⟩⟩⟩⟩⟩⟩⟩⟩⟩⟩⟩⟩⟩⟩⟩⟩⟩
theorem lx_216 : Cond.constant RJ6 267 (252645135) ∈ lw_tbl := lw_t2 114 rfl
theorem lx_217 : Cond.constant RJ6 266 (858993459) ∈ lw_tbl := lw_t2 113 rfl
theorem lx_218 : Cond.constant RJ6 265 (1431655765) ∈ lw_tbl := lw_t2 112 rfl
theorem lx_219 : Cond.code yJ6_bitCount_0f7a4 cJ6_bitCount_0f7a4 1 (some .int) ∈ lw_tbl := lw_t2 111 rfl
theorem lx_220 : Cond.initialized RJ6 ∈ lw_tbl := lw_t1 14 rfl
theorem lx_221 : Cond.static yJ6_bitCount_0f7a4 ∈ lw_tbl := lw_t2 110 rfl
theorem lx_222 : Cond.methodLink RX10 65 yJ6_bitCount_0f7a4 ∈ lw_tbl := lw_t2 109 rfl
theorem lx_223 : Cond.code yX10_pairsOfBrothers cX10_pairsOfBrothers 3 (some .int) ∈ lw_tbl := lw_t2 108 rfl
set_option maxRecDepth 20000 in
theorem lxwsX11_brothers_r2 : ∀ w ∈ wsX11_brothers_r2, w ∈ lw_tbl := List.forall_mem_cons.mpr ⟨lx_223, List.forall_mem_cons.mpr ⟨lx_222, List.forall_mem_cons.mpr ⟨lx_221, List.forall_mem_cons.mpr ⟨lx_220, List.forall_mem_cons.mpr ⟨lx_219, List.forall_mem_cons.mpr ⟨lx_218, List.forall_mem_cons.mpr ⟨lx_217, List.forall_mem_cons.mpr ⟨lx_216, fun _ h => absurd h List.not_mem_nil⟩⟩⟩⟩⟩⟩⟩⟩
set_option maxRecDepth 20000 in
theorem lxwsX11_brothers : ∀ w ∈ wsX11_brothers, w ∈ lw_tbl := List.forall_mem_cons.mpr ⟨lx_207, List.forall_mem_append.mpr ⟨List.forall_mem_append.mpr ⟨List.forall_mem_append.mpr ⟨lxwsX11_brothers_r1, lxwsX11_brothers_r2⟩, inX11⟩, inX10⟩⟩
set_option maxRecDepth 20000 in
theorem gg_X11_brothers : GoodIn lw_tbl wsX11_brothers := goodIn_sub lxwsX11_brothers (by decide +kernel)
theorem lx_224 : Cond.selects RX11 yX11_brothers yX11_brothers ∈ lw_tbl := lw_t2 98 rfl
theorem lx_225 : Cond.instanceMethod yX11_brothers ∈ lw_tbl := lw_t2 97 rfl
theorem lx_226 : Cond.methodLink RL 23 yX11_brothers ∈ lw_tbl := lw_t2 96 rfl
set_option maxRecDepth 20000 in
theorem gL_X11_brothers : GoodIn lw_tbl (wsV RL 23 RX11 yX11_brothers wsX11_brothers) := goodIn_app (goodIn_sub (List.forall_mem_cons.mpr ⟨lx_226, List.forall_mem_cons.mpr ⟨lx_225, List.forall_mem_cons.mpr ⟨lx_224, List.forall_mem_cons.mpr ⟨lx_165, fun _ h => absurd h List.not_mem_nil⟩⟩⟩⟩) (by decide +kernel)) gg_X11_brothers
theorem lx_227 : Cond.code yX12_brothers cX12_brothers 6 (some .int) ∈ lw_tbl := lw_t4 143 rfl
theorem lx_228 : Cond.code yX12_ones cX12_ones 3 (some .int) ∈ lw_tbl := lw_t4 146 rfl
theorem lx_229 : Cond.static yX12_ones ∈ lw_tbl := lw_t4 145 rfl
theorem lx_230 : Cond.methodLink RX12 113 yX12_ones ∈ lw_tbl := lw_t4 144 rfl
set_option maxRecDepth 20000 in
theorem lxwsX12_brothers : ∀ w ∈ wsX12_brothers, w ∈ lw_tbl := List.forall_mem_cons.mpr ⟨lx_227, List.forall_mem_append.mpr ⟨List.forall_mem_cons.mpr ⟨lx_140, List.forall_mem_cons.mpr ⟨lx_179, List.forall_mem_cons.mpr ⟨lx_178, List.forall_mem_cons.mpr ⟨lx_185, List.forall_mem_cons.mpr ⟨lx_177, List.forall_mem_cons.mpr ⟨lx_176, List.forall_mem_cons.mpr ⟨lx_182, List.forall_mem_cons.mpr ⟨lx_181, List.forall_mem_cons.mpr ⟨lx_180, List.forall_mem_cons.mpr ⟨lx_202, List.forall_mem_cons.mpr ⟨lx_201, List.forall_mem_cons.mpr ⟨lx_200, List.forall_mem_cons.mpr ⟨lx_230, List.forall_mem_cons.mpr ⟨lx_229, List.forall_mem_cons.mpr ⟨lx_228, fun _ h => absurd h List.not_mem_nil⟩⟩⟩⟩⟩⟩⟩⟩⟩⟩⟩⟩⟩⟩⟩, inX12⟩⟩
set_option maxRecDepth 20000 in
theorem gg_X12_brothers : GoodIn lw_tbl wsX12_brothers := goodIn_sub lxwsX12_brothers (by decide +kernel)
theorem lx_231 : Cond.selects RX12 yX12_brothers yX12_brothers ∈ lw_tbl := lw_t4 142 rfl
theorem lx_232 : Cond.instanceMethod yX12_brothers ∈ lw_tbl := lw_t4 141 rfl
theorem lx_233 : Cond.methodLink RL 27 yX12_brothers ∈ lw_tbl := lw_t4 140 rfl
set_option maxRecDepth 20000 in
theorem gL_X12_brothers : GoodIn lw_tbl (wsV RL 27 RX12 yX12_brothers wsX12_brothers) := goodIn_app (goodIn_sub (List.forall_mem_cons.mpr ⟨lx_233, List.forall_mem_cons.mpr ⟨lx_232, List.forall_mem_cons.mpr ⟨lx_231, List.forall_mem_cons.mpr ⟨lx_185, fun _ h => absurd h List.not_mem_nil⟩⟩⟩⟩) (by decide +kernel)) gg_X12_brothers
theorem lx_234 : Cond.code yX11_say cX11_say 2 (some .int) ∈ lw_tbl := lw_t2 118 rfl
theorem lx_235 : Cond.methodLink RX3 19 yX5_put ∈ lw_tbl := lw_t2 123 rfl
theorem lx_236 : Cond.code yX3_add cX3_add 2 none ∈ lw_tbl := lw_t2 122 rfl
theorem lx_237 : Cond.selects RX3 yX3_add yX3_add ∈ lw_tbl := lw_t2 121 rfl
theorem lx_238 : Cond.instanceMethod yX3_add ∈ lw_tbl := lw_t2 120 rfl
theorem lx_239 : Cond.methodLink RX11 136 yX3_add ∈ lw_tbl := lw_t2 119 rfl
theorem lx_240 : Cond.fieldLink RX11 133 "TwiceStolen$Pad" "size" "I" ∈ lw_tbl := lw_t1 103 rfl
set_option maxRecDepth 20000 in
theorem lxwsX11_say : ∀ w ∈ wsX11_say, w ∈ lw_tbl := List.forall_mem_cons.mpr ⟨lx_234, List.forall_mem_append.mpr ⟨List.forall_mem_append.mpr ⟨List.forall_mem_cons.mpr ⟨lx_13, List.forall_mem_cons.mpr ⟨lx_240, List.forall_mem_cons.mpr ⟨lx_163, List.forall_mem_cons.mpr ⟨lx_162, List.forall_mem_cons.mpr ⟨lx_51, List.forall_mem_cons.mpr ⟨lx_161, List.forall_mem_cons.mpr ⟨lx_239, List.forall_mem_cons.mpr ⟨lx_238, List.forall_mem_cons.mpr ⟨lx_237, List.forall_mem_cons.mpr ⟨lx_14, List.forall_mem_cons.mpr ⟨lx_236, List.forall_mem_cons.mpr ⟨lx_89, List.forall_mem_cons.mpr ⟨lx_90, List.forall_mem_cons.mpr ⟨lx_235, List.forall_mem_cons.mpr ⟨lx_52, List.forall_mem_cons.mpr ⟨lx_50, fun _ h => absurd h List.not_mem_nil⟩⟩⟩⟩⟩⟩⟩⟩⟩⟩⟩⟩⟩⟩⟩⟩, inX11⟩, inX3⟩⟩
set_option maxRecDepth 20000 in
theorem gg_X11_say : GoodIn lw_tbl wsX11_say := goodIn_sub lxwsX11_say (by decide +kernel)
theorem lx_241 : Cond.selects RX11 yX11_say yX11_say ∈ lw_tbl := lw_t2 117 rfl
theorem lx_242 : Cond.instanceMethod yX11_say ∈ lw_tbl := lw_t2 116 rfl
theorem lx_243 : Cond.methodLink RL 28 yX11_say ∈ lw_tbl := lw_t2 115 rfl
set_option maxRecDepth 20000 in
theorem gL_X11_say : GoodIn lw_tbl (wsV RL 28 RX11 yX11_say wsX11_say) := goodIn_app (goodIn_sub (List.forall_mem_cons.mpr ⟨lx_243, List.forall_mem_cons.mpr ⟨lx_242, List.forall_mem_cons.mpr ⟨lx_241, List.forall_mem_cons.mpr ⟨lx_165, fun _ h => absurd h List.not_mem_nil⟩⟩⟩⟩) (by decide +kernel)) gg_X11_say
theorem lx_244 : Cond.code yX12_say cX12_say 2 (some .int) ∈ lw_tbl := lw_t4 150 rfl
theorem lx_245 : Cond.fieldLink RX12 121 "TwiceStolenModel" "padMany" "I" ∈ lw_tbl := lw_t4 11 rfl
theorem lx_246 : Cond.constantLong RX12 119 (126) ∈ lw_tbl := lw_t4 152 rfl
theorem lx_247 : Cond.constantLong RX12 117 (33) ∈ lw_tbl := lw_t4 151 rfl
set_option maxRecDepth 20000 in
theorem lxwsX12_say : ∀ w ∈ wsX12_say, w ∈ lw_tbl := List.forall_mem_cons.mpr ⟨lx_244, List.forall_mem_append.mpr ⟨List.forall_mem_cons.mpr ⟨lx_247, List.forall_mem_cons.mpr ⟨lx_246, List.forall_mem_cons.mpr ⟨lx_245, List.forall_mem_cons.mpr ⟨lx_137, List.forall_mem_cons.mpr ⟨lx_182, List.forall_mem_cons.mpr ⟨lx_181, List.forall_mem_cons.mpr ⟨lx_185, List.forall_mem_cons.mpr ⟨lx_180, fun _ h => absurd h List.not_mem_nil⟩⟩⟩⟩⟩⟩⟩⟩, inX12⟩⟩
set_option maxRecDepth 20000 in
theorem gg_X12_say : GoodIn lw_tbl wsX12_say := goodIn_sub lxwsX12_say (by decide +kernel)
theorem lx_248 : Cond.selects RX12 yX12_say yX12_say ∈ lw_tbl := lw_t4 149 rfl
theorem lx_249 : Cond.instanceMethod yX12_say ∈ lw_tbl := lw_t4 148 rfl
theorem lx_250 : Cond.methodLink RL 32 yX12_say ∈ lw_tbl := lw_t4 147 rfl
set_option maxRecDepth 20000 in
theorem gL_X12_say : GoodIn lw_tbl (wsV RL 32 RX12 yX12_say wsX12_say) := goodIn_app (goodIn_sub (List.forall_mem_cons.mpr ⟨lx_250, List.forall_mem_cons.mpr ⟨lx_249, List.forall_mem_cons.mpr ⟨lx_248, List.forall_mem_cons.mpr ⟨lx_185, fun _ h => absurd h List.not_mem_nil⟩⟩⟩⟩) (by decide +kernel)) gg_X12_say
theorem lx_251 : Cond.code yX11_wipe cX11_wipe 2 (some .int) ∈ lw_tbl := lw_t2 127 rfl
set_option maxRecDepth 20000 in
theorem lxwsX11_wipe : ∀ w ∈ wsX11_wipe, w ∈ lw_tbl := List.forall_mem_cons.mpr ⟨lx_251, List.forall_mem_append.mpr ⟨List.forall_mem_append.mpr ⟨List.forall_mem_cons.mpr ⟨lx_13, List.forall_mem_cons.mpr ⟨lx_240, fun _ h => absurd h List.not_mem_nil⟩⟩, inX11⟩, inX3⟩⟩
set_option maxRecDepth 20000 in
theorem gg_X11_wipe : GoodIn lw_tbl wsX11_wipe := goodIn_sub lxwsX11_wipe (by decide +kernel)
theorem lx_252 : Cond.selects RX11 yX11_wipe yX11_wipe ∈ lw_tbl := lw_t2 126 rfl
theorem lx_253 : Cond.instanceMethod yX11_wipe ∈ lw_tbl := lw_t2 125 rfl
theorem lx_254 : Cond.methodLink RL 33 yX11_wipe ∈ lw_tbl := lw_t2 124 rfl
set_option maxRecDepth 20000 in
theorem gL_X11_wipe : GoodIn lw_tbl (wsV RL 33 RX11 yX11_wipe wsX11_wipe) := goodIn_app (goodIn_sub (List.forall_mem_cons.mpr ⟨lx_254, List.forall_mem_cons.mpr ⟨lx_253, List.forall_mem_cons.mpr ⟨lx_252, List.forall_mem_cons.mpr ⟨lx_165, fun _ h => absurd h List.not_mem_nil⟩⟩⟩⟩) (by decide +kernel)) gg_X11_wipe
theorem lx_255 : Cond.code yX12_wipe cX12_wipe 2 (some .int) ∈ lw_tbl := lw_t4 156 rfl
set_option maxRecDepth 20000 in
theorem lxwsX12_wipe : ∀ w ∈ wsX12_wipe, w ∈ lw_tbl := List.forall_mem_cons.mpr ⟨lx_255, List.forall_mem_append.mpr ⟨List.forall_mem_cons.mpr ⟨lx_245, fun _ h => absurd h List.not_mem_nil⟩, inX12⟩⟩
set_option maxRecDepth 20000 in
theorem gg_X12_wipe : GoodIn lw_tbl wsX12_wipe := goodIn_sub lxwsX12_wipe (by decide +kernel)
theorem lx_256 : Cond.selects RX12 yX12_wipe yX12_wipe ∈ lw_tbl := lw_t4 155 rfl
theorem lx_257 : Cond.instanceMethod yX12_wipe ∈ lw_tbl := lw_t4 154 rfl
theorem lx_258 : Cond.methodLink RL 37 yX12_wipe ∈ lw_tbl := lw_t4 153 rfl
set_option maxRecDepth 20000 in
theorem gL_X12_wipe : GoodIn lw_tbl (wsV RL 37 RX12 yX12_wipe wsX12_wipe) := goodIn_app (goodIn_sub (List.forall_mem_cons.mpr ⟨lx_258, List.forall_mem_cons.mpr ⟨lx_257, List.forall_mem_cons.mpr ⟨lx_256, List.forall_mem_cons.mpr ⟨lx_185, fun _ h => absurd h List.not_mem_nil⟩⟩⟩⟩) (by decide +kernel)) gg_X12_wipe
theorem lx_259 : Cond.code yX11_fault cX11_fault 1 (some .int) ∈ lw_tbl := lw_t2 131 rfl
theorem lx_260 : Cond.methodLink RX3 37 yX5_within ∈ lw_tbl := lw_t2 144 rfl
theorem lx_261 : Cond.code yX3_dueBehind cX3_dueBehind 4 (some .int) ∈ lw_tbl := lw_t2 143 rfl
theorem lx_262 : Cond.static yX3_dueBehind ∈ lw_tbl := lw_t2 142 rfl
theorem lx_263 : Cond.methodLink RX3 33 yX3_dueBehind ∈ lw_tbl := lw_t2 141 rfl
theorem lx_264 : Cond.methodLink RX3 25 yX5_at ∈ lw_tbl := lw_t2 140 rfl
theorem lx_265 : Cond.code yX3_signAt cX3_signAt 2 (some .int) ∈ lw_tbl := lw_t2 139 rfl
theorem lx_266 : Cond.selects RX3 yX3_signAt yX3_signAt ∈ lw_tbl := lw_t2 138 rfl
theorem lx_267 : Cond.instanceMethod yX3_signAt ∈ lw_tbl := lw_t2 137 rfl
theorem lx_268 : Cond.methodLink RX3 29 yX3_signAt ∈ lw_tbl := lw_t2 136 rfl
theorem lx_269 : Cond.code yX3_faultPlace cX3_faultPlace 3 (some .int) ∈ lw_tbl := lw_t2 135 rfl
theorem lx_270 : Cond.selects RX3 yX3_faultPlace yX3_faultPlace ∈ lw_tbl := lw_t2 134 rfl
theorem lx_271 : Cond.instanceMethod yX3_faultPlace ∈ lw_tbl := lw_t2 133 rfl
theorem lx_272 : Cond.methodLink RX11 140 yX3_faultPlace ∈ lw_tbl := lw_t2 132 rfl
set_option maxRecDepth 20000 in
theorem lxwsX11_fault : ∀ w ∈ wsX11_fault, w ∈ lw_tbl := List.forall_mem_cons.mpr ⟨lx_259, List.forall_mem_append.mpr ⟨List.forall_mem_append.mpr ⟨List.forall_mem_cons.mpr ⟨lx_13, List.forall_mem_cons.mpr ⟨lx_272, List.forall_mem_cons.mpr ⟨lx_271, List.forall_mem_cons.mpr ⟨lx_270, List.forall_mem_cons.mpr ⟨lx_14, List.forall_mem_cons.mpr ⟨lx_269, List.forall_mem_cons.mpr ⟨lx_89, List.forall_mem_cons.mpr ⟨lx_268, List.forall_mem_cons.mpr ⟨lx_267, List.forall_mem_cons.mpr ⟨lx_266, List.forall_mem_cons.mpr ⟨lx_265, List.forall_mem_cons.mpr ⟨lx_90, List.forall_mem_cons.mpr ⟨lx_264, List.forall_mem_cons.mpr ⟨lx_156, List.forall_mem_cons.mpr ⟨lx_51, List.forall_mem_cons.mpr ⟨lx_155, List.forall_mem_cons.mpr ⟨lx_263, List.forall_mem_cons.mpr ⟨lx_262, List.forall_mem_cons.mpr ⟨lx_261, List.forall_mem_cons.mpr ⟨lx_260, List.forall_mem_cons.mpr ⟨lx_162, List.forall_mem_cons.mpr ⟨lx_161, fun _ h => absurd h List.not_mem_nil⟩⟩⟩⟩⟩⟩⟩⟩⟩⟩⟩⟩⟩⟩⟩⟩⟩⟩⟩⟩⟩⟩, inX11⟩, inX3⟩⟩
set_option maxRecDepth 20000 in
theorem gg_X11_fault : GoodIn lw_tbl wsX11_fault := goodIn_sub lxwsX11_fault (by decide +kernel)
theorem lx_273 : Cond.selects RX11 yX11_fault yX11_fault ∈ lw_tbl := lw_t2 130 rfl
theorem lx_274 : Cond.instanceMethod yX11_fault ∈ lw_tbl := lw_t2 129 rfl
theorem lx_275 : Cond.methodLink RL 38 yX11_fault ∈ lw_tbl := lw_t2 128 rfl
set_option maxRecDepth 20000 in
theorem gL_X11_fault : GoodIn lw_tbl (wsV RL 38 RX11 yX11_fault wsX11_fault) := goodIn_app (goodIn_sub (List.forall_mem_cons.mpr ⟨lx_275, List.forall_mem_cons.mpr ⟨lx_274, List.forall_mem_cons.mpr ⟨lx_273, List.forall_mem_cons.mpr ⟨lx_165, fun _ h => absurd h List.not_mem_nil⟩⟩⟩⟩) (by decide +kernel)) gg_X11_fault
theorem lx_276 : Cond.code yX12_fault cX12_fault 3 (some .int) ∈ lw_tbl := lw_t4 160 rfl
theorem lx_277 : Cond.methodLink RX12 138 yX12_close ∈ lw_tbl := lw_t4 174 rfl
theorem lx_278 : Cond.constantLong RX12 129 (72) ∈ lw_tbl := lw_t4 173 rfl
theorem lx_279 : Cond.constantLong RX12 127 (65) ∈ lw_tbl := lw_t4 172 rfl
theorem lx_280 : Cond.code yX12_isName cX12_isName 1 (some .boolean) ∈ lw_tbl := lw_t4 171 rfl
theorem lx_281 : Cond.static yX12_isName ∈ lw_tbl := lw_t4 170 rfl
theorem lx_282 : Cond.methodLink RX12 135 yX12_isName ∈ lw_tbl := lw_t4 169 rfl
theorem lx_283 : Cond.code yX12_begin cX12_begin 2 (some .int) ∈ lw_tbl := lw_t4 168 rfl
theorem lx_284 : Cond.selects RX12 yX12_begin yX12_begin ∈ lw_tbl := lw_s2 7 rfl rfl
theorem lx_285 : Cond.instanceMethod yX12_begin ∈ lw_tbl := lw_t4 167 rfl
theorem lx_286 : Cond.methodLink RX12 147 yX12_begin ∈ lw_tbl := lw_t4 165 rfl
theorem lx_287 : Cond.code yX12_readOn cX12_readOn 3 (some .int) ∈ lw_tbl := lw_t4 164 rfl
theorem lx_288 : Cond.selects RX12 yX12_readOn yX12_readOn ∈ lw_tbl := lw_s2 6 rfl rfl
theorem lx_289 : Cond.instanceMethod yX12_readOn ∈ lw_tbl := lw_t4 163 rfl
theorem lx_290 : Cond.methodLink RX12 160 yX12_readOn ∈ lw_tbl := lw_t4 161 rfl
theorem lx_291 : Cond.fieldLink RX12 124 "TwiceStolenModel" "acts" "I" ∈ lw_tbl := lw_t4 16 rfl
set_option maxRecDepth 20000 in
theorem lxwsX12_fault_r1 : ∀ w ∈ wsX12_fault_r1, w ∈ lw_tbl := List.forall_mem_cons.mpr ⟨lx_291, List.forall_mem_cons.mpr ⟨lx_245, List.forall_mem_cons.mpr ⟨lx_137, List.forall_mem_cons.mpr ⟨lx_290, List.forall_mem_cons.mpr ⟨lx_289, List.forall_mem_cons.mpr ⟨lx_288, List.forall_mem_cons.mpr ⟨lx_185, List.forall_mem_cons.mpr ⟨lx_287, List.forall_mem_cons.mpr ⟨lx_286, List.forall_mem_cons.mpr ⟨lx_285, List.forall_mem_cons.mpr ⟨lx_284, List.forall_mem_cons.mpr ⟨lx_283, List.forall_mem_cons.mpr ⟨lx_135, List.forall_mem_cons.mpr ⟨lx_134, List.forall_mem_cons.mpr ⟨lx_133, List.forall_mem_cons.mpr ⟨lx_282, List.forall_mem_cons.mpr ⟨lx_281, List.forall_mem_cons.mpr ⟨lx_280, List.forall_mem_cons.mpr ⟨lx_279, List.forall_mem_cons.mpr ⟨lx_278, List.forall_mem_cons.mpr ⟨lx_182, List.forall_mem_cons.mpr ⟨lx_181, List.forall_mem_cons.mpr ⟨lx_180, List.forall_mem_cons.mpr ⟨lx_277, fun _ h => absurd h List.not_mem_nil⟩⟩⟩⟩⟩⟩⟩⟩⟩⟩⟩⟩⟩⟩⟩⟩⟩⟩⟩⟩⟩⟩⟩⟩
theorem lx_292 : Cond.selects RX12 yX12_toWhom yX12_toWhom ∈ lw_tbl := lw_s2 12 rfl rfl
theorem lx_293 : Cond.instanceMethod yX12_toWhom ∈ lw_tbl := lw_t4 197 rfl
theorem lx_294 : Cond.methodLink RX12 157 yX12_toWhom ∈ lw_tbl := lw_t4 195 rfl
theorem lx_295 : Cond.code yX12_piece cX12_piece 3 (some .int) ∈ lw_tbl := lw_t4 194 rfl
theorem lx_296 : Cond.selects RX12 yX12_piece yX12_piece ∈ lw_tbl := lw_s2 11 rfl rfl
theorem lx_297 : Cond.instanceMethod yX12_piece ∈ lw_tbl := lw_t4 193 rfl
theorem lx_298 : Cond.methodLink RX12 153 yX12_piece ∈ lw_tbl := lw_t4 191 rfl
theorem lx_299 : Cond.constantLong RX12 133 (108) ∈ lw_tbl := lw_t4 190 rfl
theorem lx_300 : Cond.constantLong RX12 131 (97) ∈ lw_tbl := lw_t4 189 rfl
theorem lx_301 : Cond.code yX12_isPiece cX12_isPiece 1 (some .boolean) ∈ lw_tbl := lw_t4 188 rfl
theorem lx_302 : Cond.static yX12_isPiece ∈ lw_tbl := lw_t4 187 rfl
theorem lx_303 : Cond.methodLink RX12 141 yX12_isPiece ∈ lw_tbl := lw_t4 186 rfl
theorem lx_304 : Cond.code yX12_takeIt cX12_takeIt 2 (some .int) ∈ lw_tbl := lw_t4 185 rfl
theorem lx_305 : Cond.selects RX12 yX12_takeIt yX12_takeIt ∈ lw_tbl := lw_s2 10 rfl rfl
theorem lx_306 : Cond.instanceMethod yX12_takeIt ∈ lw_tbl := lw_t4 184 rfl
theorem lx_307 : Cond.methodLink RX12 144 yX12_takeIt ∈ lw_tbl := lw_t4 182 rfl
theorem lx_308 : Cond.code yX12_deed cX12_deed 2 (some .int) ∈ lw_tbl := lw_t4 181 rfl
theorem lx_309 : Cond.selects RX12 yX12_deed yX12_deed ∈ lw_tbl := lw_s2 9 rfl rfl
theorem lx_310 : Cond.instanceMethod yX12_deed ∈ lw_tbl := lw_t4 180 rfl
theorem lx_311 : Cond.methodLink RX12 150 yX12_deed ∈ lw_tbl := lw_t4 178 rfl
theorem lx_312 : Cond.code yX12_close cX12_close 2 (some .int) ∈ lw_tbl := lw_t4 177 rfl
theorem lx_313 : Cond.selects RX12 yX12_close yX12_close ∈ lw_tbl := lw_s2 8 rfl rfl
theorem lx_314 : Cond.instanceMethod yX12_close ∈ lw_tbl := lw_t4 176 rfl
set_option maxRecDepth 20000 in
theorem lxwsX12_fault_r2 : ∀ w ∈ wsX12_fault_r2, w ∈ lw_tbl := List.forall_mem_cons.mpr ⟨lx_314, List.forall_mem_cons.mpr ⟨lx_313, List.forall_mem_cons.mpr ⟨lx_312, List.forall_mem_cons.mpr ⟨lx_136, List.forall_mem_cons.mpr ⟨lx_311, List.forall_mem_cons.mpr ⟨lx_310, List.forall_mem_cons.mpr ⟨lx_309, List.forall_mem_cons.mpr ⟨lx_308, List.forall_mem_cons.mpr ⟨lx_307, List.forall_mem_cons.mpr ⟨lx_306, List.forall_mem_cons.mpr ⟨lx_305, List.forall_mem_cons.mpr ⟨lx_304, List.forall_mem_cons.mpr ⟨lx_303, List.forall_mem_cons.mpr ⟨lx_302, List.forall_mem_cons.mpr ⟨lx_301, List.forall_mem_cons.mpr ⟨lx_300, List.forall_mem_cons.mpr ⟨lx_299, List.forall_mem_cons.mpr ⟨lx_298, List.forall_mem_cons.mpr ⟨lx_297, List.forall_mem_cons.mpr ⟨lx_296, List.forall_mem_cons.mpr ⟨lx_295, List.forall_mem_cons.mpr ⟨lx_294, List.forall_mem_cons.mpr ⟨lx_293, List.forall_mem_cons.mpr ⟨lx_292, fun _ h => absurd h List.not_mem_nil⟩⟩⟩⟩⟩⟩⟩⟩⟩⟩⟩⟩⟩⟩⟩⟩⟩⟩⟩⟩⟩⟩⟩⟩
theorem lx_315 : Cond.code yX12_toWhom cX12_toWhom 3 (some .int) ∈ lw_tbl := lw_t4 198 rfl
set_option maxRecDepth 20000 in
theorem lxwsX12_fault_r3 : ∀ w ∈ wsX12_fault_r3, w ∈ lw_tbl := List.forall_mem_cons.mpr ⟨lx_315, fun _ h => absurd h List.not_mem_nil⟩
set_option maxRecDepth 20000 in
theorem lxwsX12_fault : ∀ w ∈ wsX12_fault, w ∈ lw_tbl := List.forall_mem_cons.mpr ⟨lx_276, List.forall_mem_append.mpr ⟨List.forall_mem_append.mpr ⟨lxwsX12_fault_r1, List.forall_mem_append.mpr ⟨lxwsX12_fault_r2, lxwsX12_fault_r3⟩⟩, inX12⟩⟩
set_option maxRecDepth 20000 in
theorem gg_X12_fault : GoodIn lw_tbl wsX12_fault := goodIn_sub lxwsX12_fault (by decide +kernel)
theorem lx_316 : Cond.selects RX12 yX12_fault yX12_fault ∈ lw_tbl := lw_t4 159 rfl
theorem lx_317 : Cond.instanceMethod yX12_fault ∈ lw_tbl := lw_t4 158 rfl
theorem lx_318 : Cond.methodLink RL 41 yX12_fault ∈ lw_tbl := lw_t4 157 rfl
set_option maxRecDepth 20000 in
theorem gL_X12_fault : GoodIn lw_tbl (wsV RL 41 RX12 yX12_fault wsX12_fault) := goodIn_app (goodIn_sub (List.forall_mem_cons.mpr ⟨lx_318, List.forall_mem_cons.mpr ⟨lx_317, List.forall_mem_cons.mpr ⟨lx_316, List.forall_mem_cons.mpr ⟨lx_185, fun _ h => absurd h List.not_mem_nil⟩⟩⟩⟩) (by decide +kernel)) gg_X12_fault
theorem lx_319 : Cond.code yX11_judge cX11_judge 3 (some .int) ∈ lw_tbl := lw_t2 148 rfl
theorem lx_320 : Cond.methodLink RX9 18 yX3_faultPlace ∈ lw_tbl := lw_t2 153 rfl
theorem lx_321 : Cond.code Lib.Math.max.name Lib.Math.max.code 2 (some .int) ∈ lw_tbl := lw_t2 237 rfl
theorem lx_322 : Cond.initialized "java/lang/Math" ∈ lw_tbl := lw_t1 15 rfl
theorem lx_323 : Cond.static Lib.Math.max.name ∈ lw_tbl := lw_t2 236 rfl
theorem lx_324 : Cond.methodLink RX9 46 Lib.Math.max.name ∈ lw_tbl := lw_t2 235 rfl
theorem lx_325 : Cond.fieldLink RX9 32 "TwiceStolen$Trial" "failed" "I" ∈ lw_tbl := lw_t1 121 rfl
theorem lx_326 : Cond.fieldLink RX9 28 "TwiceStolen$Pad" "size" "I" ∈ lw_tbl := lw_t1 102 rfl
theorem lx_327 : Cond.code yX9_run cX9_run 5 (some .int) ∈ lw_tbl := lw_t2 152 rfl
theorem lx_328 : Cond.selects RX9 yX9_run yX9_run ∈ lw_tbl := lw_t2 151 rfl
theorem lx_329 : Cond.instanceMethod yX9_run ∈ lw_tbl := lw_t2 150 rfl
theorem lx_330 : Cond.methodLink RX11 143 yX9_run ∈ lw_tbl := lw_t2 149 rfl
theorem lx_331 : Cond.fieldLink RX11 153 "TwiceStolen$Trial" "sales" "I" ∈ lw_tbl := lw_t1 126 rfl
theorem lx_332 : Cond.fieldLink RX11 150 "TwiceStolen$Trial" "why" "I" ∈ lw_tbl := lw_t1 124 rfl
theorem lx_333 : Cond.fieldLink RX11 147 "TwiceStolen$Trial" "failed" "I" ∈ lw_tbl := lw_t1 122 rfl
set_option maxRecDepth 20000 in
theorem lxwsX11_judge_r1 : ∀ w ∈ wsX11_judge_r1, w ∈ lw_tbl := List.forall_mem_cons.mpr ⟨lx_9, List.forall_mem_cons.mpr ⟨lx_18, List.forall_mem_cons.mpr ⟨lx_13, List.forall_mem_cons.mpr ⟨lx_333, List.forall_mem_cons.mpr ⟨lx_332, List.forall_mem_cons.mpr ⟨lx_331, List.forall_mem_cons.mpr ⟨lx_163, List.forall_mem_cons.mpr ⟨lx_162, List.forall_mem_cons.mpr ⟨lx_51, List.forall_mem_cons.mpr ⟨lx_161, List.forall_mem_cons.mpr ⟨lx_330, List.forall_mem_cons.mpr ⟨lx_329, List.forall_mem_cons.mpr ⟨lx_328, List.forall_mem_cons.mpr ⟨lx_10, List.forall_mem_cons.mpr ⟨lx_327, List.forall_mem_cons.mpr ⟨lx_326, List.forall_mem_cons.mpr ⟨lx_325, List.forall_mem_cons.mpr ⟨lx_324, List.forall_mem_cons.mpr ⟨lx_323, List.forall_mem_cons.mpr ⟨lx_322, List.forall_mem_cons.mpr ⟨lx_321, List.forall_mem_cons.mpr ⟨lx_320, List.forall_mem_cons.mpr ⟨lx_271, List.forall_mem_cons.mpr ⟨lx_270, fun _ h => absurd h List.not_mem_nil⟩⟩⟩⟩⟩⟩⟩⟩⟩⟩⟩⟩⟩⟩⟩⟩⟩⟩⟩⟩⟩⟩⟩⟩
theorem lx_334 : Cond.fieldLink RX9 64 "TwiceStolen$Trial" "firstSale" "I" ∈ lw_tbl := lw_t1 127 rfl
theorem lx_335 : Cond.fieldLink RX9 61 "TwiceStolen$Trial" "sales" "I" ∈ lw_tbl := lw_t1 125 rfl
theorem lx_336 : Cond.fieldLink RX9 58 "TwiceStolen$Trial" "why" "I" ∈ lw_tbl := lw_t1 123 rfl
theorem lx_337 : Cond.fieldLink RX9 55 "TwiceStolen$Trial" "acts" "I" ∈ lw_tbl := lw_t1 119 rfl
theorem lx_338 : Cond.code yX9_begin cX9_begin 2 none ∈ lw_tbl := lw_t2 157 rfl
theorem lx_339 : Cond.selects RX9 yX9_begin yX9_begin ∈ lw_tbl := lw_s1 0 rfl rfl
theorem lx_340 : Cond.instanceMethod yX9_begin ∈ lw_tbl := lw_t2 156 rfl
theorem lx_341 : Cond.methodLink RX9 24 yX9_begin ∈ lw_tbl := lw_t2 154 rfl
set_option maxRecDepth 20000 in
theorem lxwsX11_judge_r2 : ∀ w ∈ wsX11_judge_r2, w ∈ lw_tbl := List.forall_mem_cons.mpr ⟨lx_14, List.forall_mem_cons.mpr ⟨lx_269, List.forall_mem_cons.mpr ⟨lx_89, List.forall_mem_cons.mpr ⟨lx_268, List.forall_mem_cons.mpr ⟨lx_267, List.forall_mem_cons.mpr ⟨lx_266, List.forall_mem_cons.mpr ⟨lx_265, List.forall_mem_cons.mpr ⟨lx_90, List.forall_mem_cons.mpr ⟨lx_264, List.forall_mem_cons.mpr ⟨lx_156, List.forall_mem_cons.mpr ⟨lx_155, List.forall_mem_cons.mpr ⟨lx_263, List.forall_mem_cons.mpr ⟨lx_262, List.forall_mem_cons.mpr ⟨lx_261, List.forall_mem_cons.mpr ⟨lx_260, List.forall_mem_cons.mpr ⟨lx_341, List.forall_mem_cons.mpr ⟨lx_340, List.forall_mem_cons.mpr ⟨lx_339, List.forall_mem_cons.mpr ⟨lx_338, List.forall_mem_cons.mpr ⟨lx_83, List.forall_mem_cons.mpr ⟨lx_337, List.forall_mem_cons.mpr ⟨lx_336, List.forall_mem_cons.mpr ⟨lx_335, List.forall_mem_cons.mpr ⟨lx_334, fun _ h => absurd h List.not_mem_nil⟩⟩⟩⟩⟩⟩⟩⟩⟩⟩⟩⟩⟩⟩⟩⟩⟩⟩⟩⟩⟩⟩⟩⟩
theorem lx_342 : Cond.selects RX8 yX8_copy yX8_copy ∈ lw_tbl := lw_t2 168 rfl
theorem lx_343 : Cond.instanceMethod yX8_copy ∈ lw_tbl := lw_t2 167 rfl
theorem lx_344 : Cond.methodLink RX10 58 yX8_copy ∈ lw_tbl := lw_t2 166 rfl
theorem lx_345 : Cond.methodLink RX5 7 yX5_at ∈ lw_tbl := lw_t2 165 rfl
theorem lx_346 : Cond.code yX5_copy cX5_copy 3 none ∈ lw_tbl := lw_t2 164 rfl
theorem lx_347 : Cond.static yX5_copy ∈ lw_tbl := lw_t2 163 rfl
theorem lx_348 : Cond.methodLink RX10 54 yX5_copy ∈ lw_tbl := lw_t2 162 rfl
theorem lx_349 : Cond.code yX10_copy cX10_copy 2 none ∈ lw_tbl := lw_t2 161 rfl
theorem lx_350 : Cond.selects RX10 yX10_copy yX10_copy ∈ lw_tbl := lw_t2 160 rfl
theorem lx_351 : Cond.instanceMethod yX10_copy ∈ lw_tbl := lw_t2 159 rfl
theorem lx_352 : Cond.methodLink RX9 52 yX10_copy ∈ lw_tbl := lw_t2 158 rfl
theorem lx_353 : Cond.fieldLink RX9 70 "TwiceStolen$Trial" "cameTo" "I" ∈ lw_tbl := lw_t1 131 rfl
theorem lx_354 : Cond.fieldLink RX9 67 "TwiceStolen$Trial" "firstSold" "I" ∈ lw_tbl := lw_t1 129 rfl
set_option maxRecDepth 20000 in
theorem lxwsX11_judge_r3 : ∀ w ∈ wsX11_judge_r3, w ∈ lw_tbl := List.forall_mem_cons.mpr ⟨lx_354, List.forall_mem_cons.mpr ⟨lx_353, List.forall_mem_cons.mpr ⟨lx_352, List.forall_mem_cons.mpr ⟨lx_351, List.forall_mem_cons.mpr ⟨lx_350, List.forall_mem_cons.mpr ⟨lx_19, List.forall_mem_cons.mpr ⟨lx_349, List.forall_mem_cons.mpr ⟨lx_72, List.forall_mem_cons.mpr ⟨lx_71, List.forall_mem_cons.mpr ⟨lx_70, List.forall_mem_cons.mpr ⟨lx_69, List.forall_mem_cons.mpr ⟨lx_68, List.forall_mem_cons.mpr ⟨lx_67, List.forall_mem_cons.mpr ⟨lx_63, List.forall_mem_cons.mpr ⟨lx_62, List.forall_mem_cons.mpr ⟨lx_61, List.forall_mem_cons.mpr ⟨lx_348, List.forall_mem_cons.mpr ⟨lx_347, List.forall_mem_cons.mpr ⟨lx_346, List.forall_mem_cons.mpr ⟨lx_345, List.forall_mem_cons.mpr ⟨lx_344, List.forall_mem_cons.mpr ⟨lx_343, List.forall_mem_cons.mpr ⟨lx_342, List.forall_mem_cons.mpr ⟨lx_64, fun _ h => absurd h List.not_mem_nil⟩⟩⟩⟩⟩⟩⟩⟩⟩⟩⟩⟩⟩⟩⟩⟩⟩⟩⟩⟩⟩⟩⟩⟩
theorem lx_355 : Cond.methodLink RX10 75 yX10_take ∈ lw_tbl := lw_t2 188 rfl
theorem lx_356 : Cond.code yX10_act cX10_act 5 (some .int) ∈ lw_tbl := lw_t2 187 rfl
theorem lx_357 : Cond.selects RX10 yX10_act yX10_act ∈ lw_tbl := lw_t2 186 rfl
theorem lx_358 : Cond.instanceMethod yX10_act ∈ lw_tbl := lw_t2 185 rfl
theorem lx_359 : Cond.methodLink RX9 79 yX10_act ∈ lw_tbl := lw_t2 184 rfl
theorem lx_360 : Cond.code yX10_priceOf cX10_priceOf 3 (some .int) ∈ lw_tbl := lw_t2 183 rfl
theorem lx_361 : Cond.selects RX10 yX10_priceOf yX10_priceOf ∈ lw_tbl := lw_t2 182 rfl
theorem lx_362 : Cond.instanceMethod yX10_priceOf ∈ lw_tbl := lw_t2 181 rfl
theorem lx_363 : Cond.methodLink RX9 76 yX10_priceOf ∈ lw_tbl := lw_t2 180 rfl
theorem lx_364 : Cond.methodLink RX9 73 yX3_signAt ∈ lw_tbl := lw_t2 179 rfl
theorem lx_365 : Cond.code yX9_tryAct cX9_tryAct 9 none ∈ lw_tbl := lw_t2 178 rfl
theorem lx_366 : Cond.selects RX9 yX9_tryAct yX9_tryAct ∈ lw_tbl := lw_s1 1 rfl rfl
theorem lx_367 : Cond.instanceMethod yX9_tryAct ∈ lw_tbl := lw_t2 177 rfl
theorem lx_368 : Cond.methodLink RX9 39 yX9_tryAct ∈ lw_tbl := lw_t2 175 rfl
theorem lx_369 : Cond.code yX3_kindAt cX3_kindAt 2 (some .int) ∈ lw_tbl := lw_t2 174 rfl
theorem lx_370 : Cond.selects RX3 yX3_kindAt yX3_kindAt ∈ lw_tbl := lw_t2 173 rfl
theorem lx_371 : Cond.instanceMethod yX3_kindAt ∈ lw_tbl := lw_t2 172 rfl
theorem lx_372 : Cond.methodLink RX9 35 yX3_kindAt ∈ lw_tbl := lw_t2 171 rfl
theorem lx_373 : Cond.methodLink RX8 26 yX5_copy ∈ lw_tbl := lw_t2 170 rfl
theorem lx_374 : Cond.code yX8_copy cX8_copy 2 none ∈ lw_tbl := lw_t2 169 rfl
set_option maxRecDepth 20000 in
theorem lxwsX11_judge_r4 : ∀ w ∈ wsX11_judge_r4, w ∈ lw_tbl := List.forall_mem_cons.mpr ⟨lx_374, List.forall_mem_cons.mpr ⟨lx_56, List.forall_mem_cons.mpr ⟨lx_55, List.forall_mem_cons.mpr ⟨lx_54, List.forall_mem_cons.mpr ⟨lx_373, List.forall_mem_cons.mpr ⟨lx_372, List.forall_mem_cons.mpr ⟨lx_371, List.forall_mem_cons.mpr ⟨lx_370, List.forall_mem_cons.mpr ⟨lx_369, List.forall_mem_cons.mpr ⟨lx_368, List.forall_mem_cons.mpr ⟨lx_367, List.forall_mem_cons.mpr ⟨lx_366, List.forall_mem_cons.mpr ⟨lx_365, List.forall_mem_cons.mpr ⟨lx_364, List.forall_mem_cons.mpr ⟨lx_363, List.forall_mem_cons.mpr ⟨lx_362, List.forall_mem_cons.mpr ⟨lx_361, List.forall_mem_cons.mpr ⟨lx_360, List.forall_mem_cons.mpr ⟨lx_211, List.forall_mem_cons.mpr ⟨lx_359, List.forall_mem_cons.mpr ⟨lx_358, List.forall_mem_cons.mpr ⟨lx_357, List.forall_mem_cons.mpr ⟨lx_356, List.forall_mem_cons.mpr ⟨lx_355, fun _ h => absurd h List.not_mem_nil⟩⟩⟩⟩⟩⟩⟩⟩⟩⟩⟩⟩⟩⟩⟩⟩⟩⟩⟩⟩⟩⟩⟩⟩
theorem lx_375 : Cond.selects RX10 yX10_reasonAgainstHanding yX10_reasonAgainstHanding ∈ lw_tbl := lw_s1 4 rfl rfl
theorem lx_376 : Cond.instanceMethod yX10_reasonAgainstHanding ∈ lw_tbl := lw_t2 209 rfl
theorem lx_377 : Cond.methodLink RX10 102 yX10_reasonAgainstHanding ∈ lw_tbl := lw_t2 207 rfl
theorem lx_378 : Cond.code yX10_sell cX10_sell 6 (some .int) ∈ lw_tbl := lw_t2 206 rfl
theorem lx_379 : Cond.selects RX10 yX10_sell yX10_sell ∈ lw_tbl := lw_s1 3 rfl rfl
theorem lx_380 : Cond.instanceMethod yX10_sell ∈ lw_tbl := lw_t2 205 rfl
theorem lx_381 : Cond.methodLink RX10 79 yX10_sell ∈ lw_tbl := lw_t2 203 rfl
theorem lx_382 : Cond.code yX10_areBrothers cX10_areBrothers 3 (some .boolean) ∈ lw_tbl := lw_t2 199 rfl
theorem lx_383 : Cond.selects RX10 yX10_areBrothers yX10_areBrothers ∈ lw_tbl := lw_t2 198 rfl
theorem lx_384 : Cond.instanceMethod yX10_areBrothers ∈ lw_tbl := lw_t2 197 rfl
theorem lx_385 : Cond.methodLink RX10 93 yX10_areBrothers ∈ lw_tbl := lw_t2 196 rfl
theorem lx_386 : Cond.code yX10_isAjar cX10_isAjar 2 (some .boolean) ∈ lw_tbl := lw_t2 195 rfl
theorem lx_387 : Cond.selects RX10 yX10_isAjar yX10_isAjar ∈ lw_tbl := lw_t2 194 rfl
theorem lx_388 : Cond.instanceMethod yX10_isAjar ∈ lw_tbl := lw_t2 193 rfl
theorem lx_389 : Cond.methodLink RX10 90 yX10_isAjar ∈ lw_tbl := lw_t2 192 rfl
theorem lx_390 : Cond.code Lib.Math.min.name Lib.Math.min.code 2 (some .int) ∈ lw_tbl := lw_t2 202 rfl
theorem lx_391 : Cond.static Lib.Math.min.name ∈ lw_tbl := lw_t2 201 rfl
theorem lx_392 : Cond.methodLink RX10 97 Lib.Math.min.name ∈ lw_tbl := lw_t2 200 rfl
theorem lx_393 : Cond.code yX10_take cX10_take 4 (some .int) ∈ lw_tbl := lw_t2 191 rfl
theorem lx_394 : Cond.selects RX10 yX10_take yX10_take ∈ lw_tbl := lw_s1 2 rfl rfl
theorem lx_395 : Cond.instanceMethod yX10_take ∈ lw_tbl := lw_t2 190 rfl
set_option maxRecDepth 20000 in
theorem lxwsX11_judge_r5 : ∀ w ∈ wsX11_judge_r5, w ∈ lw_tbl := List.forall_mem_cons.mpr ⟨lx_395, List.forall_mem_cons.mpr ⟨lx_394, List.forall_mem_cons.mpr ⟨lx_393, List.forall_mem_cons.mpr ⟨lx_392, List.forall_mem_cons.mpr ⟨lx_391, List.forall_mem_cons.mpr ⟨lx_390, List.forall_mem_cons.mpr ⟨lx_389, List.forall_mem_cons.mpr ⟨lx_388, List.forall_mem_cons.mpr ⟨lx_387, List.forall_mem_cons.mpr ⟨lx_386, List.forall_mem_cons.mpr ⟨lx_385, List.forall_mem_cons.mpr ⟨lx_384, List.forall_mem_cons.mpr ⟨lx_383, List.forall_mem_cons.mpr ⟨lx_382, List.forall_mem_cons.mpr ⟨lx_53, List.forall_mem_cons.mpr ⟨lx_52, List.forall_mem_cons.mpr ⟨lx_50, List.forall_mem_cons.mpr ⟨lx_381, List.forall_mem_cons.mpr ⟨lx_380, List.forall_mem_cons.mpr ⟨lx_379, List.forall_mem_cons.mpr ⟨lx_378, List.forall_mem_cons.mpr ⟨lx_377, List.forall_mem_cons.mpr ⟨lx_376, List.forall_mem_cons.mpr ⟨lx_375, fun _ h => absurd h List.not_mem_nil⟩⟩⟩⟩⟩⟩⟩⟩⟩⟩⟩⟩⟩⟩⟩⟩⟩⟩⟩⟩⟩⟩⟩⟩
theorem lx_396 : Cond.static yX3_lengthOf ∈ lw_tbl := lw_t2 233 rfl
theorem lx_397 : Cond.methodLink RX9 43 yX3_lengthOf ∈ lw_tbl := lw_t2 232 rfl
theorem lx_398 : Cond.code yX9_noteSale cX9_noteSale 3 none ∈ lw_tbl := lw_t2 231 rfl
theorem lx_399 : Cond.selects RX9 yX9_noteSale yX9_noteSale ∈ lw_tbl := lw_s1 8 rfl rfl
theorem lx_400 : Cond.instanceMethod yX9_noteSale ∈ lw_tbl := lw_t2 230 rfl
theorem lx_401 : Cond.methodLink RX9 83 yX9_noteSale ∈ lw_tbl := lw_t2 228 rfl
theorem lx_402 : Cond.code yX10_passNight cX10_passNight 2 (some .int) ∈ lw_tbl := lw_t2 227 rfl
theorem lx_403 : Cond.selects RX10 yX10_passNight yX10_passNight ∈ lw_tbl := lw_s1 7 rfl rfl
theorem lx_404 : Cond.instanceMethod yX10_passNight ∈ lw_tbl := lw_t2 226 rfl
theorem lx_405 : Cond.methodLink RX10 86 yX10_passNight ∈ lw_tbl := lw_t2 224 rfl
theorem lx_406 : Cond.code yX10_give cX10_give 5 (some .int) ∈ lw_tbl := lw_t2 223 rfl
theorem lx_407 : Cond.selects RX10 yX10_give yX10_give ∈ lw_tbl := lw_s1 6 rfl rfl
theorem lx_408 : Cond.instanceMethod yX10_give ∈ lw_tbl := lw_t2 222 rfl
theorem lx_409 : Cond.methodLink RX10 83 yX10_give ∈ lw_tbl := lw_t2 220 rfl
theorem lx_410 : Cond.code yX10_hand cX10_hand 3 none ∈ lw_tbl := lw_t2 219 rfl
theorem lx_411 : Cond.selects RX10 yX10_hand yX10_hand ∈ lw_tbl := lw_s1 5 rfl rfl
theorem lx_412 : Cond.instanceMethod yX10_hand ∈ lw_tbl := lw_t2 218 rfl
theorem lx_413 : Cond.methodLink RX10 108 yX10_hand ∈ lw_tbl := lw_t2 216 rfl
theorem lx_414 : Cond.methodLink RX10 105 yX10_priceOf ∈ lw_tbl := lw_t2 215 rfl
theorem lx_415 : Cond.code yX10_isFitForSale cX10_isFitForSale 2 (some .boolean) ∈ lw_tbl := lw_t2 214 rfl
theorem lx_416 : Cond.selects RX10 yX10_isFitForSale yX10_isFitForSale ∈ lw_tbl := lw_t2 213 rfl
theorem lx_417 : Cond.instanceMethod yX10_isFitForSale ∈ lw_tbl := lw_t2 212 rfl
theorem lx_418 : Cond.methodLink RX10 71 yX10_isFitForSale ∈ lw_tbl := lw_t2 211 rfl
theorem lx_419 : Cond.code yX10_reasonAgainstHanding cX10_reasonAgainstHanding 4 (some .int) ∈ lw_tbl := lw_t2 210 rfl
set_option maxRecDepth 20000 in
theorem lxwsX11_judge_r6 : ∀ w ∈ wsX11_judge_r6, w ∈ lw_tbl := List.forall_mem_cons.mpr ⟨lx_419, List.forall_mem_cons.mpr ⟨lx_418, List.forall_mem_cons.mpr ⟨lx_417, List.forall_mem_cons.mpr ⟨lx_416, List.forall_mem_cons.mpr ⟨lx_415, List.forall_mem_cons.mpr ⟨lx_414, List.forall_mem_cons.mpr ⟨lx_413, List.forall_mem_cons.mpr ⟨lx_412, List.forall_mem_cons.mpr ⟨lx_411, List.forall_mem_cons.mpr ⟨lx_410, List.forall_mem_cons.mpr ⟨lx_409, List.forall_mem_cons.mpr ⟨lx_408, List.forall_mem_cons.mpr ⟨lx_407, List.forall_mem_cons.mpr ⟨lx_406, List.forall_mem_cons.mpr ⟨lx_405, List.forall_mem_cons.mpr ⟨lx_404, List.forall_mem_cons.mpr ⟨lx_403, List.forall_mem_cons.mpr ⟨lx_402, List.forall_mem_cons.mpr ⟨lx_401, List.forall_mem_cons.mpr ⟨lx_400, List.forall_mem_cons.mpr ⟨lx_399, List.forall_mem_cons.mpr ⟨lx_398, List.forall_mem_cons.mpr ⟨lx_397, List.forall_mem_cons.mpr ⟨lx_396, fun _ h => absurd h List.not_mem_nil⟩⟩⟩⟩⟩⟩⟩⟩⟩⟩⟩⟩⟩⟩⟩⟩⟩⟩⟩⟩⟩⟩⟩⟩
theorem lx_420 : Cond.code yX3_lengthOf cX3_lengthOf 1 (some .int) ∈ lw_tbl := lw_t2 234 rfl
set_option maxRecDepth 20000 in
theorem lxwsX11_judge_r7 : ∀ w ∈ wsX11_judge_r7, w ∈ lw_tbl := List.forall_mem_cons.mpr ⟨lx_420, fun _ h => absurd h List.not_mem_nil⟩
set_option maxRecDepth 20000 in
theorem lxwsX11_judge : ∀ w ∈ wsX11_judge, w ∈ lw_tbl := List.forall_mem_cons.mpr ⟨lx_319, List.forall_mem_append.mpr ⟨List.forall_mem_append.mpr ⟨List.forall_mem_append.mpr ⟨List.forall_mem_append.mpr ⟨List.forall_mem_append.mpr ⟨List.forall_mem_append.mpr ⟨lxwsX11_judge_r1, List.forall_mem_append.mpr ⟨lxwsX11_judge_r2, List.forall_mem_append.mpr ⟨lxwsX11_judge_r3, List.forall_mem_append.mpr ⟨lxwsX11_judge_r4, List.forall_mem_append.mpr ⟨lxwsX11_judge_r5, List.forall_mem_append.mpr ⟨lxwsX11_judge_r6, lxwsX11_judge_r7⟩⟩⟩⟩⟩⟩, inX11⟩, inX9⟩, inX3⟩, inX10⟩, inX8⟩⟩
set_option maxRecDepth 20000 in
theorem gg_X11_judge : GoodIn lw_tbl wsX11_judge := goodIn_sub lxwsX11_judge (by decide +kernel)
theorem lx_421 : Cond.selects RX11 yX11_judge yX11_judge ∈ lw_tbl := lw_t2 147 rfl
theorem lx_422 : Cond.instanceMethod yX11_judge ∈ lw_tbl := lw_t2 146 rfl
theorem lx_423 : Cond.methodLink RL 42 yX11_judge ∈ lw_tbl := lw_t2 145 rfl
set_option maxRecDepth 20000 in
theorem gL_X11_judge : GoodIn lw_tbl (wsV RL 42 RX11 yX11_judge wsX11_judge) := goodIn_app (goodIn_sub (List.forall_mem_cons.mpr ⟨lx_423, List.forall_mem_cons.mpr ⟨lx_422, List.forall_mem_cons.mpr ⟨lx_421, List.forall_mem_cons.mpr ⟨lx_165, fun _ h => absurd h List.not_mem_nil⟩⟩⟩⟩) (by decide +kernel)) gg_X11_judge
theorem lx_424 : Cond.code yX12_judge cX12_judge 3 (some .int) ∈ lw_tbl := lw_t4 202 rfl
theorem lx_425 : Cond.methodLink RX12 230 yX12_fault ∈ lw_tbl := lw_t4 212 rfl
theorem lx_426 : Cond.fieldLink RX12 180 "TwiceStolenModel" "nights" "I" ∈ lw_tbl := lw_t4 6 rfl
theorem lx_427 : Cond.code yX12_keepNow cX12_keepNow 2 none ∈ lw_tbl := lw_t4 211 rfl
theorem lx_428 : Cond.selects RX12 yX12_keepNow yX12_keepNow ∈ lw_tbl := lw_s2 14 rfl rfl
theorem lx_429 : Cond.instanceMethod yX12_keepNow ∈ lw_tbl := lw_t4 210 rfl
theorem lx_430 : Cond.methodLink RX12 227 yX12_keepNow ∈ lw_tbl := lw_t4 208 rfl
theorem lx_431 : Cond.code yX12_refusal cX12_refusal 1 (some .int) ∈ lw_tbl := lw_t4 207 rfl
theorem lx_432 : Cond.selects RX12 yX12_refusal yX12_refusal ∈ lw_tbl := lw_s2 13 rfl rfl
theorem lx_433 : Cond.instanceMethod yX12_refusal ∈ lw_tbl := lw_t4 206 rfl
theorem lx_434 : Cond.methodLink RX12 239 yX12_refusal ∈ lw_tbl := lw_t4 204 rfl
theorem lx_435 : Cond.fieldLink RX12 183 "TwiceStolenModel" "soldMany" "I" ∈ lw_tbl := lw_t4 17 rfl
theorem lx_436 : Cond.fieldLink RX12 216 "TwiceStolenModel" "badWhy" "I" ∈ lw_tbl := lw_t4 21 rfl
theorem lx_437 : Cond.fieldLink RX12 213 "TwiceStolenModel" "badAct" "I" ∈ lw_tbl := lw_t4 20 rfl
theorem lx_438 : Cond.constantLong RX12 237 (2) ∈ lw_tbl := lw_t4 203 rfl
set_option maxRecDepth 20000 in
theorem lxwsX12_judge_r1 : ∀ w ∈ wsX12_judge_r1, w ∈ lw_tbl := List.forall_mem_cons.mpr ⟨lx_438, List.forall_mem_cons.mpr ⟨lx_437, List.forall_mem_cons.mpr ⟨lx_436, List.forall_mem_cons.mpr ⟨lx_435, List.forall_mem_cons.mpr ⟨lx_182, List.forall_mem_cons.mpr ⟨lx_181, List.forall_mem_cons.mpr ⟨lx_185, List.forall_mem_cons.mpr ⟨lx_180, List.forall_mem_cons.mpr ⟨lx_434, List.forall_mem_cons.mpr ⟨lx_433, List.forall_mem_cons.mpr ⟨lx_432, List.forall_mem_cons.mpr ⟨lx_431, List.forall_mem_cons.mpr ⟨lx_430, List.forall_mem_cons.mpr ⟨lx_429, List.forall_mem_cons.mpr ⟨lx_428, List.forall_mem_cons.mpr ⟨lx_427, List.forall_mem_cons.mpr ⟨lx_132, List.forall_mem_cons.mpr ⟨lx_145, List.forall_mem_cons.mpr ⟨lx_144, List.forall_mem_cons.mpr ⟨lx_141, List.forall_mem_cons.mpr ⟨lx_147, List.forall_mem_cons.mpr ⟨lx_426, List.forall_mem_cons.mpr ⟨lx_425, List.forall_mem_cons.mpr ⟨lx_317, fun _ h => absurd h List.not_mem_nil⟩⟩⟩⟩⟩⟩⟩⟩⟩⟩⟩⟩⟩⟩⟩⟩⟩⟩⟩⟩⟩⟩⟩⟩
set_option maxRecDepth 20000 in
theorem lxwsX12_judge_r2 : ∀ w ∈ wsX12_judge_r2, w ∈ lw_tbl := List.forall_mem_cons.mpr ⟨lx_316, List.forall_mem_cons.mpr ⟨lx_276, List.forall_mem_cons.mpr ⟨lx_291, List.forall_mem_cons.mpr ⟨lx_245, List.forall_mem_cons.mpr ⟨lx_137, List.forall_mem_cons.mpr ⟨lx_290, List.forall_mem_cons.mpr ⟨lx_289, List.forall_mem_cons.mpr ⟨lx_288, List.forall_mem_cons.mpr ⟨lx_287, List.forall_mem_cons.mpr ⟨lx_286, List.forall_mem_cons.mpr ⟨lx_285, List.forall_mem_cons.mpr ⟨lx_284, List.forall_mem_cons.mpr ⟨lx_283, List.forall_mem_cons.mpr ⟨lx_135, List.forall_mem_cons.mpr ⟨lx_134, List.forall_mem_cons.mpr ⟨lx_133, List.forall_mem_cons.mpr ⟨lx_282, List.forall_mem_cons.mpr ⟨lx_281, List.forall_mem_cons.mpr ⟨lx_280, List.forall_mem_cons.mpr ⟨lx_279, List.forall_mem_cons.mpr ⟨lx_278, List.forall_mem_cons.mpr ⟨lx_277, List.forall_mem_cons.mpr ⟨lx_314, List.forall_mem_cons.mpr ⟨lx_313, fun _ h => absurd h List.not_mem_nil⟩⟩⟩⟩⟩⟩⟩⟩⟩⟩⟩⟩⟩⟩⟩⟩⟩⟩⟩⟩⟩⟩⟩⟩
theorem lx_439 : Cond.methodLink RX12 234 yX12_goNights ∈ lw_tbl := lw_t4 213 rfl
set_option maxRecDepth 20000 in
theorem lxwsX12_judge_r3 : ∀ w ∈ wsX12_judge_r3, w ∈ lw_tbl := List.forall_mem_cons.mpr ⟨lx_312, List.forall_mem_cons.mpr ⟨lx_136, List.forall_mem_cons.mpr ⟨lx_311, List.forall_mem_cons.mpr ⟨lx_310, List.forall_mem_cons.mpr ⟨lx_309, List.forall_mem_cons.mpr ⟨lx_308, List.forall_mem_cons.mpr ⟨lx_307, List.forall_mem_cons.mpr ⟨lx_306, List.forall_mem_cons.mpr ⟨lx_305, List.forall_mem_cons.mpr ⟨lx_304, List.forall_mem_cons.mpr ⟨lx_303, List.forall_mem_cons.mpr ⟨lx_302, List.forall_mem_cons.mpr ⟨lx_301, List.forall_mem_cons.mpr ⟨lx_300, List.forall_mem_cons.mpr ⟨lx_299, List.forall_mem_cons.mpr ⟨lx_298, List.forall_mem_cons.mpr ⟨lx_297, List.forall_mem_cons.mpr ⟨lx_296, List.forall_mem_cons.mpr ⟨lx_295, List.forall_mem_cons.mpr ⟨lx_294, List.forall_mem_cons.mpr ⟨lx_293, List.forall_mem_cons.mpr ⟨lx_292, List.forall_mem_cons.mpr ⟨lx_315, List.forall_mem_cons.mpr ⟨lx_439, fun _ h => absurd h List.not_mem_nil⟩⟩⟩⟩⟩⟩⟩⟩⟩⟩⟩⟩⟩⟩⟩⟩⟩⟩⟩⟩⟩⟩⟩⟩
theorem lx_440 : Cond.selects RX12 yX12_whyNoGift yX12_whyNoGift ∈ lw_tbl := lw_s3 3 rfl rfl
theorem lx_441 : Cond.instanceMethod yX12_whyNoGift ∈ lw_tbl := lw_t4 234 rfl
theorem lx_442 : Cond.methodLink RX12 167 yX12_whyNoGift ∈ lw_tbl := lw_t4 232 rfl
theorem lx_443 : Cond.code yX12_whyNoSale cX12_whyNoSale 5 (some .int) ∈ lw_tbl := lw_t4 231 rfl
theorem lx_444 : Cond.selects RX12 yX12_whyNoSale yX12_whyNoSale ∈ lw_tbl := lw_s3 2 rfl rfl
theorem lx_445 : Cond.instanceMethod yX12_whyNoSale ∈ lw_tbl := lw_t4 230 rfl
theorem lx_446 : Cond.methodLink RX12 177 yX12_whyNoSale ∈ lw_tbl := lw_t4 228 rfl
theorem lx_447 : Cond.code yX12_has cX12_has 2 (some .boolean) ∈ lw_tbl := lw_t4 227 rfl
theorem lx_448 : Cond.static yX12_has ∈ lw_tbl := lw_t4 226 rfl
theorem lx_449 : Cond.methodLink RX12 163 yX12_has ∈ lw_tbl := lw_t4 225 rfl
theorem lx_450 : Cond.code yX12_whyNoTake cX12_whyNoTake 3 (some .int) ∈ lw_tbl := lw_t4 224 rfl
theorem lx_451 : Cond.selects RX12 yX12_whyNoTake yX12_whyNoTake ∈ lw_tbl := lw_s3 1 rfl rfl
theorem lx_452 : Cond.instanceMethod yX12_whyNoTake ∈ lw_tbl := lw_t4 223 rfl
theorem lx_453 : Cond.methodLink RX12 174 yX12_whyNoTake ∈ lw_tbl := lw_t4 221 rfl
theorem lx_454 : Cond.code yX12_whyNot cX12_whyNot 5 (some .int) ∈ lw_tbl := lw_t4 220 rfl
theorem lx_455 : Cond.selects RX12 yX12_whyNot yX12_whyNot ∈ lw_tbl := lw_s3 0 rfl rfl
theorem lx_456 : Cond.instanceMethod yX12_whyNot ∈ lw_tbl := lw_t4 219 rfl
theorem lx_457 : Cond.methodLink RX12 219 yX12_whyNot ∈ lw_tbl := lw_t4 217 rfl
theorem lx_458 : Cond.fieldLink RX12 186 "TwiceStolenModel" "soldFor" "I" ∈ lw_tbl := lw_t4 18 rfl
theorem lx_459 : Cond.fieldLink RX12 210 "TwiceStolenModel" "firstThing" "I" ∈ lw_tbl := lw_t4 23 rfl
theorem lx_460 : Cond.fieldLink RX12 207 "TwiceStolenModel" "firstAct" "I" ∈ lw_tbl := lw_t4 22 rfl
theorem lx_461 : Cond.code yX12_goNights cX12_goNights 3 none ∈ lw_tbl := lw_t4 216 rfl
theorem lx_462 : Cond.selects RX12 yX12_goNights yX12_goNights ∈ lw_tbl := lw_s2 15 rfl rfl
theorem lx_463 : Cond.instanceMethod yX12_goNights ∈ lw_tbl := lw_t4 215 rfl
set_option maxRecDepth 20000 in
theorem lxwsX12_judge_r4 : ∀ w ∈ wsX12_judge_r4, w ∈ lw_tbl := List.forall_mem_cons.mpr ⟨lx_463, List.forall_mem_cons.mpr ⟨lx_462, List.forall_mem_cons.mpr ⟨lx_461, List.forall_mem_cons.mpr ⟨lx_460, List.forall_mem_cons.mpr ⟨lx_459, List.forall_mem_cons.mpr ⟨lx_458, List.forall_mem_cons.mpr ⟨lx_457, List.forall_mem_cons.mpr ⟨lx_456, List.forall_mem_cons.mpr ⟨lx_455, List.forall_mem_cons.mpr ⟨lx_454, List.forall_mem_cons.mpr ⟨lx_453, List.forall_mem_cons.mpr ⟨lx_452, List.forall_mem_cons.mpr ⟨lx_451, List.forall_mem_cons.mpr ⟨lx_450, List.forall_mem_cons.mpr ⟨lx_449, List.forall_mem_cons.mpr ⟨lx_448, List.forall_mem_cons.mpr ⟨lx_447, List.forall_mem_cons.mpr ⟨lx_446, List.forall_mem_cons.mpr ⟨lx_445, List.forall_mem_cons.mpr ⟨lx_444, List.forall_mem_cons.mpr ⟨lx_443, List.forall_mem_cons.mpr ⟨lx_442, List.forall_mem_cons.mpr ⟨lx_441, List.forall_mem_cons.mpr ⟨lx_440, fun _ h => absurd h List.not_mem_nil⟩⟩⟩⟩⟩⟩⟩⟩⟩⟩⟩⟩⟩⟩⟩⟩⟩⟩⟩⟩⟩⟩⟩⟩
theorem lx_464 : Cond.methodLink RX12 189 yX12_give ∈ lw_tbl := lw_t5 16 rfl
theorem lx_465 : Cond.code yX12_sell cX12_sell 5 none ∈ lw_tbl := lw_t5 15 rfl
theorem lx_466 : Cond.selects RX12 yX12_sell yX12_sell ∈ lw_tbl := lw_s3 8 rfl rfl
theorem lx_467 : Cond.instanceMethod yX12_sell ∈ lw_tbl := lw_t5 14 rfl
theorem lx_468 : Cond.methodLink RX12 196 yX12_sell ∈ lw_tbl := lw_t5 12 rfl
theorem lx_469 : Cond.code yX12_take cX12_take 4 none ∈ lw_tbl := lw_t5 11 rfl
theorem lx_470 : Cond.selects RX12 yX12_take yX12_take ∈ lw_tbl := lw_s3 7 rfl rfl
theorem lx_471 : Cond.instanceMethod yX12_take ∈ lw_tbl := lw_t5 10 rfl
theorem lx_472 : Cond.methodLink RX12 193 yX12_take ∈ lw_tbl := lw_t5 8 rfl
theorem lx_473 : Cond.code yX12_happen cX12_happen 5 none ∈ lw_tbl := lw_t5 7 rfl
theorem lx_474 : Cond.selects RX12 yX12_happen yX12_happen ∈ lw_tbl := lw_s3 6 rfl rfl
theorem lx_475 : Cond.instanceMethod yX12_happen ∈ lw_tbl := lw_t5 6 rfl
theorem lx_476 : Cond.methodLink RX12 203 yX12_happen ∈ lw_tbl := lw_t5 4 rfl
theorem lx_477 : Cond.code yX12_goOne cX12_goOne 3 none ∈ lw_tbl := lw_t5 3 rfl
theorem lx_478 : Cond.selects RX12 yX12_goOne yX12_goOne ∈ lw_tbl := lw_s3 5 rfl rfl
theorem lx_479 : Cond.instanceMethod yX12_goOne ∈ lw_tbl := lw_t5 2 rfl
theorem lx_480 : Cond.methodLink RX12 223 yX12_goOne ∈ lw_tbl := lw_t5 0 rfl
theorem lx_481 : Cond.code yX12_price cX12_price 2 (some .int) ∈ lw_tbl := lw_t4 239 rfl
theorem lx_482 : Cond.selects RX12 yX12_price yX12_price ∈ lw_tbl := lw_s3 4 rfl rfl
theorem lx_483 : Cond.instanceMethod yX12_price ∈ lw_tbl := lw_t4 238 rfl
theorem lx_484 : Cond.methodLink RX12 171 yX12_price ∈ lw_tbl := lw_t4 236 rfl
theorem lx_485 : Cond.code yX12_whyNoGift cX12_whyNoGift 4 (some .int) ∈ lw_tbl := lw_t4 235 rfl
set_option maxRecDepth 20000 in
theorem lxwsX12_judge_r5 : ∀ w ∈ wsX12_judge_r5, w ∈ lw_tbl := List.forall_mem_cons.mpr ⟨lx_485, List.forall_mem_cons.mpr ⟨lx_484, List.forall_mem_cons.mpr ⟨lx_483, List.forall_mem_cons.mpr ⟨lx_482, List.forall_mem_cons.mpr ⟨lx_481, List.forall_mem_cons.mpr ⟨lx_143, List.forall_mem_cons.mpr ⟨lx_480, List.forall_mem_cons.mpr ⟨lx_479, List.forall_mem_cons.mpr ⟨lx_478, List.forall_mem_cons.mpr ⟨lx_477, List.forall_mem_cons.mpr ⟨lx_476, List.forall_mem_cons.mpr ⟨lx_475, List.forall_mem_cons.mpr ⟨lx_474, List.forall_mem_cons.mpr ⟨lx_473, List.forall_mem_cons.mpr ⟨lx_472, List.forall_mem_cons.mpr ⟨lx_471, List.forall_mem_cons.mpr ⟨lx_470, List.forall_mem_cons.mpr ⟨lx_469, List.forall_mem_cons.mpr ⟨lx_140, List.forall_mem_cons.mpr ⟨lx_468, List.forall_mem_cons.mpr ⟨lx_467, List.forall_mem_cons.mpr ⟨lx_466, List.forall_mem_cons.mpr ⟨lx_465, List.forall_mem_cons.mpr ⟨lx_464, fun _ h => absurd h List.not_mem_nil⟩⟩⟩⟩⟩⟩⟩⟩⟩⟩⟩⟩⟩⟩⟩⟩⟩⟩⟩⟩⟩⟩⟩⟩
theorem lx_486 : Cond.code yX12_back cX12_back 3 (some .int) ∈ lw_tbl := lw_t5 27 rfl
theorem lx_487 : Cond.selects RX12 yX12_back yX12_back ∈ lw_tbl := lw_s3 11 rfl rfl
theorem lx_488 : Cond.instanceMethod yX12_back ∈ lw_tbl := lw_t5 26 rfl
theorem lx_489 : Cond.methodLink RX12 242 yX12_back ∈ lw_tbl := lw_t5 24 rfl
theorem lx_490 : Cond.code yX12_passNight cX12_passNight 2 none ∈ lw_tbl := lw_t5 23 rfl
theorem lx_491 : Cond.selects RX12 yX12_passNight yX12_passNight ∈ lw_tbl := lw_s3 10 rfl rfl
theorem lx_492 : Cond.instanceMethod yX12_passNight ∈ lw_tbl := lw_t5 22 rfl
theorem lx_493 : Cond.methodLink RX12 200 yX12_passNight ∈ lw_tbl := lw_t5 20 rfl
theorem lx_494 : Cond.code yX12_give cX12_give 3 none ∈ lw_tbl := lw_t5 19 rfl
theorem lx_495 : Cond.selects RX12 yX12_give yX12_give ∈ lw_tbl := lw_s3 9 rfl rfl
theorem lx_496 : Cond.instanceMethod yX12_give ∈ lw_tbl := lw_t5 18 rfl
set_option maxRecDepth 20000 in
theorem lxwsX12_judge_r6 : ∀ w ∈ wsX12_judge_r6, w ∈ lw_tbl := List.forall_mem_cons.mpr ⟨lx_496, List.forall_mem_cons.mpr ⟨lx_495, List.forall_mem_cons.mpr ⟨lx_494, List.forall_mem_cons.mpr ⟨lx_493, List.forall_mem_cons.mpr ⟨lx_492, List.forall_mem_cons.mpr ⟨lx_491, List.forall_mem_cons.mpr ⟨lx_490, List.forall_mem_cons.mpr ⟨lx_489, List.forall_mem_cons.mpr ⟨lx_488, List.forall_mem_cons.mpr ⟨lx_487, List.forall_mem_cons.mpr ⟨lx_486, fun _ h => absurd h List.not_mem_nil⟩⟩⟩⟩⟩⟩⟩⟩⟩⟩⟩
set_option maxRecDepth 20000 in
theorem lxwsX12_judge : ∀ w ∈ wsX12_judge, w ∈ lw_tbl := List.forall_mem_cons.mpr ⟨lx_424, List.forall_mem_append.mpr ⟨List.forall_mem_append.mpr ⟨lxwsX12_judge_r1, List.forall_mem_append.mpr ⟨lxwsX12_judge_r2, List.forall_mem_append.mpr ⟨lxwsX12_judge_r3, List.forall_mem_append.mpr ⟨lxwsX12_judge_r4, List.forall_mem_append.mpr ⟨lxwsX12_judge_r5, lxwsX12_judge_r6⟩⟩⟩⟩⟩, inX12⟩⟩
set_option maxRecDepth 20000 in
theorem gg_X12_judge : GoodIn lw_tbl wsX12_judge := goodIn_sub lxwsX12_judge (by decide +kernel)
theorem lx_497 : Cond.selects RX12 yX12_judge yX12_judge ∈ lw_tbl := lw_t4 201 rfl
theorem lx_498 : Cond.instanceMethod yX12_judge ∈ lw_tbl := lw_t4 200 rfl
theorem lx_499 : Cond.methodLink RL 45 yX12_judge ∈ lw_tbl := lw_t4 199 rfl
set_option maxRecDepth 20000 in
theorem gL_X12_judge : GoodIn lw_tbl (wsV RL 45 RX12 yX12_judge wsX12_judge) := goodIn_app (goodIn_sub (List.forall_mem_cons.mpr ⟨lx_499, List.forall_mem_cons.mpr ⟨lx_498, List.forall_mem_cons.mpr ⟨lx_497, List.forall_mem_cons.mpr ⟨lx_185, fun _ h => absurd h List.not_mem_nil⟩⟩⟩⟩) (by decide +kernel)) gg_X12_judge
theorem lx_500 : Cond.code yX11_behind cX11_behind 4 (some .int) ∈ lw_tbl := lw_t3 1 rfl
theorem lx_501 : Cond.fieldLink RX11 156 "TwiceStolen$Trial" "world" "LTwiceStolen$World;" ∈ lw_tbl := lw_t1 118 rfl
set_option maxRecDepth 20000 in
theorem lxwsX11_behind_r1 : ∀ w ∈ wsX11_behind_r1, w ∈ lw_tbl := List.forall_mem_cons.mpr ⟨lx_9, List.forall_mem_cons.mpr ⟨lx_18, List.forall_mem_cons.mpr ⟨lx_13, List.forall_mem_cons.mpr ⟨lx_501, List.forall_mem_cons.mpr ⟨lx_171, List.forall_mem_cons.mpr ⟨lx_170, List.forall_mem_cons.mpr ⟨lx_167, List.forall_mem_cons.mpr ⟨lx_166, List.forall_mem_cons.mpr ⟨lx_165, List.forall_mem_cons.mpr ⟨lx_164, List.forall_mem_cons.mpr ⟨lx_163, List.forall_mem_cons.mpr ⟨lx_162, List.forall_mem_cons.mpr ⟨lx_51, List.forall_mem_cons.mpr ⟨lx_161, List.forall_mem_cons.mpr ⟨lx_330, List.forall_mem_cons.mpr ⟨lx_329, List.forall_mem_cons.mpr ⟨lx_328, List.forall_mem_cons.mpr ⟨lx_10, List.forall_mem_cons.mpr ⟨lx_327, List.forall_mem_cons.mpr ⟨lx_326, List.forall_mem_cons.mpr ⟨lx_325, List.forall_mem_cons.mpr ⟨lx_324, List.forall_mem_cons.mpr ⟨lx_323, List.forall_mem_cons.mpr ⟨lx_322, fun _ h => absurd h List.not_mem_nil⟩⟩⟩⟩⟩⟩⟩⟩⟩⟩⟩⟩⟩⟩⟩⟩⟩⟩⟩⟩⟩⟩⟩⟩
set_option maxRecDepth 20000 in
theorem lxwsX11_behind_r2 : ∀ w ∈ wsX11_behind_r2, w ∈ lw_tbl := List.forall_mem_cons.mpr ⟨lx_321, List.forall_mem_cons.mpr ⟨lx_320, List.forall_mem_cons.mpr ⟨lx_271, List.forall_mem_cons.mpr ⟨lx_270, List.forall_mem_cons.mpr ⟨lx_14, List.forall_mem_cons.mpr ⟨lx_269, List.forall_mem_cons.mpr ⟨lx_89, List.forall_mem_cons.mpr ⟨lx_268, List.forall_mem_cons.mpr ⟨lx_267, List.forall_mem_cons.mpr ⟨lx_266, List.forall_mem_cons.mpr ⟨lx_265, List.forall_mem_cons.mpr ⟨lx_90, List.forall_mem_cons.mpr ⟨lx_264, List.forall_mem_cons.mpr ⟨lx_156, List.forall_mem_cons.mpr ⟨lx_155, List.forall_mem_cons.mpr ⟨lx_263, List.forall_mem_cons.mpr ⟨lx_262, List.forall_mem_cons.mpr ⟨lx_261, List.forall_mem_cons.mpr ⟨lx_260, List.forall_mem_cons.mpr ⟨lx_341, List.forall_mem_cons.mpr ⟨lx_340, List.forall_mem_cons.mpr ⟨lx_339, List.forall_mem_cons.mpr ⟨lx_338, List.forall_mem_cons.mpr ⟨lx_83, fun _ h => absurd h List.not_mem_nil⟩⟩⟩⟩⟩⟩⟩⟩⟩⟩⟩⟩⟩⟩⟩⟩⟩⟩⟩⟩⟩⟩⟩⟩
set_option maxRecDepth 20000 in
theorem lxwsX11_behind_r3 : ∀ w ∈ wsX11_behind_r3, w ∈ lw_tbl := List.forall_mem_cons.mpr ⟨lx_337, List.forall_mem_cons.mpr ⟨lx_336, List.forall_mem_cons.mpr ⟨lx_335, List.forall_mem_cons.mpr ⟨lx_334, List.forall_mem_cons.mpr ⟨lx_354, List.forall_mem_cons.mpr ⟨lx_353, List.forall_mem_cons.mpr ⟨lx_352, List.forall_mem_cons.mpr ⟨lx_351, List.forall_mem_cons.mpr ⟨lx_350, List.forall_mem_cons.mpr ⟨lx_19, List.forall_mem_cons.mpr ⟨lx_349, List.forall_mem_cons.mpr ⟨lx_72, List.forall_mem_cons.mpr ⟨lx_71, List.forall_mem_cons.mpr ⟨lx_70, List.forall_mem_cons.mpr ⟨lx_69, List.forall_mem_cons.mpr ⟨lx_68, List.forall_mem_cons.mpr ⟨lx_67, List.forall_mem_cons.mpr ⟨lx_63, List.forall_mem_cons.mpr ⟨lx_62, List.forall_mem_cons.mpr ⟨lx_61, List.forall_mem_cons.mpr ⟨lx_348, List.forall_mem_cons.mpr ⟨lx_347, List.forall_mem_cons.mpr ⟨lx_346, List.forall_mem_cons.mpr ⟨lx_345, fun _ h => absurd h List.not_mem_nil⟩⟩⟩⟩⟩⟩⟩⟩⟩⟩⟩⟩⟩⟩⟩⟩⟩⟩⟩⟩⟩⟩⟩⟩
set_option maxRecDepth 20000 in
theorem lxwsX11_behind_r4 : ∀ w ∈ wsX11_behind_r4, w ∈ lw_tbl := List.forall_mem_cons.mpr ⟨lx_344, List.forall_mem_cons.mpr ⟨lx_343, List.forall_mem_cons.mpr ⟨lx_342, List.forall_mem_cons.mpr ⟨lx_64, List.forall_mem_cons.mpr ⟨lx_374, List.forall_mem_cons.mpr ⟨lx_56, List.forall_mem_cons.mpr ⟨lx_55, List.forall_mem_cons.mpr ⟨lx_54, List.forall_mem_cons.mpr ⟨lx_373, List.forall_mem_cons.mpr ⟨lx_372, List.forall_mem_cons.mpr ⟨lx_371, List.forall_mem_cons.mpr ⟨lx_370, List.forall_mem_cons.mpr ⟨lx_369, List.forall_mem_cons.mpr ⟨lx_368, List.forall_mem_cons.mpr ⟨lx_367, List.forall_mem_cons.mpr ⟨lx_366, List.forall_mem_cons.mpr ⟨lx_365, List.forall_mem_cons.mpr ⟨lx_364, List.forall_mem_cons.mpr ⟨lx_363, List.forall_mem_cons.mpr ⟨lx_362, List.forall_mem_cons.mpr ⟨lx_361, List.forall_mem_cons.mpr ⟨lx_360, List.forall_mem_cons.mpr ⟨lx_211, List.forall_mem_cons.mpr ⟨lx_359, fun _ h => absurd h List.not_mem_nil⟩⟩⟩⟩⟩⟩⟩⟩⟩⟩⟩⟩⟩⟩⟩⟩⟩⟩⟩⟩⟩⟩⟩⟩
set_option maxRecDepth 20000 in
theorem lxwsX11_behind_r5 : ∀ w ∈ wsX11_behind_r5, w ∈ lw_tbl := List.forall_mem_cons.mpr ⟨lx_358, List.forall_mem_cons.mpr ⟨lx_357, List.forall_mem_cons.mpr ⟨lx_356, List.forall_mem_cons.mpr ⟨lx_355, List.forall_mem_cons.mpr ⟨lx_395, List.forall_mem_cons.mpr ⟨lx_394, List.forall_mem_cons.mpr ⟨lx_393, List.forall_mem_cons.mpr ⟨lx_392, List.forall_mem_cons.mpr ⟨lx_391, List.forall_mem_cons.mpr ⟨lx_390, List.forall_mem_cons.mpr ⟨lx_389, List.forall_mem_cons.mpr ⟨lx_388, List.forall_mem_cons.mpr ⟨lx_387, List.forall_mem_cons.mpr ⟨lx_386, List.forall_mem_cons.mpr ⟨lx_385, List.forall_mem_cons.mpr ⟨lx_384, List.forall_mem_cons.mpr ⟨lx_383, List.forall_mem_cons.mpr ⟨lx_382, List.forall_mem_cons.mpr ⟨lx_53, List.forall_mem_cons.mpr ⟨lx_52, List.forall_mem_cons.mpr ⟨lx_50, List.forall_mem_cons.mpr ⟨lx_381, List.forall_mem_cons.mpr ⟨lx_380, List.forall_mem_cons.mpr ⟨lx_379, fun _ h => absurd h List.not_mem_nil⟩⟩⟩⟩⟩⟩⟩⟩⟩⟩⟩⟩⟩⟩⟩⟩⟩⟩⟩⟩⟩⟩⟩⟩
set_option maxRecDepth 20000 in
theorem lxwsX11_behind_r6 : ∀ w ∈ wsX11_behind_r6, w ∈ lw_tbl := List.forall_mem_cons.mpr ⟨lx_378, List.forall_mem_cons.mpr ⟨lx_377, List.forall_mem_cons.mpr ⟨lx_376, List.forall_mem_cons.mpr ⟨lx_375, List.forall_mem_cons.mpr ⟨lx_419, List.forall_mem_cons.mpr ⟨lx_418, List.forall_mem_cons.mpr ⟨lx_417, List.forall_mem_cons.mpr ⟨lx_416, List.forall_mem_cons.mpr ⟨lx_415, List.forall_mem_cons.mpr ⟨lx_414, List.forall_mem_cons.mpr ⟨lx_413, List.forall_mem_cons.mpr ⟨lx_412, List.forall_mem_cons.mpr ⟨lx_411, List.forall_mem_cons.mpr ⟨lx_410, List.forall_mem_cons.mpr ⟨lx_409, List.forall_mem_cons.mpr ⟨lx_408, List.forall_mem_cons.mpr ⟨lx_407, List.forall_mem_cons.mpr ⟨lx_406, List.forall_mem_cons.mpr ⟨lx_405, List.forall_mem_cons.mpr ⟨lx_404, List.forall_mem_cons.mpr ⟨lx_403, List.forall_mem_cons.mpr ⟨lx_402, List.forall_mem_cons.mpr ⟨lx_401, List.forall_mem_cons.mpr ⟨lx_400, fun _ h => absurd h List.not_mem_nil⟩⟩⟩⟩⟩⟩⟩⟩⟩⟩⟩⟩⟩⟩⟩⟩⟩⟩⟩⟩⟩⟩⟩⟩
theorem lx_502 : Cond.methodLink RX11 162 yX10_priceOf ∈ lw_tbl := lw_t3 3 rfl
theorem lx_503 : Cond.methodLink RX11 159 yX10_isFitForSale ∈ lw_tbl := lw_t3 2 rfl
set_option maxRecDepth 20000 in
theorem lxwsX11_behind_r7 : ∀ w ∈ wsX11_behind_r7, w ∈ lw_tbl := List.forall_mem_cons.mpr ⟨lx_399, List.forall_mem_cons.mpr ⟨lx_398, List.forall_mem_cons.mpr ⟨lx_397, List.forall_mem_cons.mpr ⟨lx_396, List.forall_mem_cons.mpr ⟨lx_420, List.forall_mem_cons.mpr ⟨lx_157, List.forall_mem_cons.mpr ⟨lx_503, List.forall_mem_cons.mpr ⟨lx_502, fun _ h => absurd h List.not_mem_nil⟩⟩⟩⟩⟩⟩⟩⟩
set_option maxRecDepth 20000 in
theorem lxwsX11_behind : ∀ w ∈ wsX11_behind, w ∈ lw_tbl := List.forall_mem_cons.mpr ⟨lx_500, List.forall_mem_append.mpr ⟨List.forall_mem_append.mpr ⟨List.forall_mem_append.mpr ⟨List.forall_mem_append.mpr ⟨List.forall_mem_append.mpr ⟨List.forall_mem_append.mpr ⟨lxwsX11_behind_r1, List.forall_mem_append.mpr ⟨lxwsX11_behind_r2, List.forall_mem_append.mpr ⟨lxwsX11_behind_r3, List.forall_mem_append.mpr ⟨lxwsX11_behind_r4, List.forall_mem_append.mpr ⟨lxwsX11_behind_r5, List.forall_mem_append.mpr ⟨lxwsX11_behind_r6, lxwsX11_behind_r7⟩⟩⟩⟩⟩⟩, inX11⟩, inX9⟩, inX10⟩, inX3⟩, inX8⟩⟩
set_option maxRecDepth 20000 in
theorem gg_X11_behind : GoodIn lw_tbl wsX11_behind := goodIn_sub lxwsX11_behind (by decide +kernel)
theorem lx_504 : Cond.selects RX11 yX11_behind yX11_behind ∈ lw_tbl := lw_t3 0 rfl
theorem lx_505 : Cond.instanceMethod yX11_behind ∈ lw_tbl := lw_t2 239 rfl
theorem lx_506 : Cond.methodLink RL 46 yX11_behind ∈ lw_tbl := lw_t2 238 rfl
set_option maxRecDepth 20000 in
theorem gL_X11_behind : GoodIn lw_tbl (wsV RL 46 RX11 yX11_behind wsX11_behind) := goodIn_app (goodIn_sub (List.forall_mem_cons.mpr ⟨lx_506, List.forall_mem_cons.mpr ⟨lx_505, List.forall_mem_cons.mpr ⟨lx_504, List.forall_mem_cons.mpr ⟨lx_165, fun _ h => absurd h List.not_mem_nil⟩⟩⟩⟩) (by decide +kernel)) gg_X11_behind
theorem lx_507 : Cond.code yX12_behind cX12_behind 4 (some .int) ∈ lw_tbl := lw_t5 31 rfl
set_option maxRecDepth 20000 in
theorem lxwsX12_behind_r1 : ∀ w ∈ wsX12_behind_r1, w ∈ lw_tbl := List.forall_mem_cons.mpr ⟨lx_438, List.forall_mem_cons.mpr ⟨lx_145, List.forall_mem_cons.mpr ⟨lx_144, List.forall_mem_cons.mpr ⟨lx_187, List.forall_mem_cons.mpr ⟨lx_186, List.forall_mem_cons.mpr ⟨lx_185, List.forall_mem_cons.mpr ⟨lx_184, List.forall_mem_cons.mpr ⟨lx_183, List.forall_mem_cons.mpr ⟨lx_182, List.forall_mem_cons.mpr ⟨lx_181, List.forall_mem_cons.mpr ⟨lx_180, List.forall_mem_cons.mpr ⟨lx_434, List.forall_mem_cons.mpr ⟨lx_433, List.forall_mem_cons.mpr ⟨lx_432, List.forall_mem_cons.mpr ⟨lx_431, List.forall_mem_cons.mpr ⟨lx_437, List.forall_mem_cons.mpr ⟨lx_430, List.forall_mem_cons.mpr ⟨lx_429, List.forall_mem_cons.mpr ⟨lx_428, List.forall_mem_cons.mpr ⟨lx_427, List.forall_mem_cons.mpr ⟨lx_132, List.forall_mem_cons.mpr ⟨lx_141, List.forall_mem_cons.mpr ⟨lx_147, List.forall_mem_cons.mpr ⟨lx_426, fun _ h => absurd h List.not_mem_nil⟩⟩⟩⟩⟩⟩⟩⟩⟩⟩⟩⟩⟩⟩⟩⟩⟩⟩⟩⟩⟩⟩⟩⟩
set_option maxRecDepth 20000 in
theorem lxwsX12_behind_r2 : ∀ w ∈ wsX12_behind_r2, w ∈ lw_tbl := List.forall_mem_cons.mpr ⟨lx_425, List.forall_mem_cons.mpr ⟨lx_317, List.forall_mem_cons.mpr ⟨lx_316, List.forall_mem_cons.mpr ⟨lx_276, List.forall_mem_cons.mpr ⟨lx_291, List.forall_mem_cons.mpr ⟨lx_245, List.forall_mem_cons.mpr ⟨lx_137, List.forall_mem_cons.mpr ⟨lx_290, List.forall_mem_cons.mpr ⟨lx_289, List.forall_mem_cons.mpr ⟨lx_288, List.forall_mem_cons.mpr ⟨lx_287, List.forall_mem_cons.mpr ⟨lx_286, List.forall_mem_cons.mpr ⟨lx_285, List.forall_mem_cons.mpr ⟨lx_284, List.forall_mem_cons.mpr ⟨lx_283, List.forall_mem_cons.mpr ⟨lx_135, List.forall_mem_cons.mpr ⟨lx_134, List.forall_mem_cons.mpr ⟨lx_133, List.forall_mem_cons.mpr ⟨lx_282, List.forall_mem_cons.mpr ⟨lx_281, List.forall_mem_cons.mpr ⟨lx_280, List.forall_mem_cons.mpr ⟨lx_279, List.forall_mem_cons.mpr ⟨lx_278, List.forall_mem_cons.mpr ⟨lx_277, fun _ h => absurd h List.not_mem_nil⟩⟩⟩⟩⟩⟩⟩⟩⟩⟩⟩⟩⟩⟩⟩⟩⟩⟩⟩⟩⟩⟩⟩⟩
set_option maxRecDepth 20000 in
theorem lxwsX12_behind_r3 : ∀ w ∈ wsX12_behind_r3, w ∈ lw_tbl := List.forall_mem_cons.mpr ⟨lx_314, List.forall_mem_cons.mpr ⟨lx_313, List.forall_mem_cons.mpr ⟨lx_312, List.forall_mem_cons.mpr ⟨lx_136, List.forall_mem_cons.mpr ⟨lx_311, List.forall_mem_cons.mpr ⟨lx_310, List.forall_mem_cons.mpr ⟨lx_309, List.forall_mem_cons.mpr ⟨lx_308, List.forall_mem_cons.mpr ⟨lx_307, List.forall_mem_cons.mpr ⟨lx_306, List.forall_mem_cons.mpr ⟨lx_305, List.forall_mem_cons.mpr ⟨lx_304, List.forall_mem_cons.mpr ⟨lx_303, List.forall_mem_cons.mpr ⟨lx_302, List.forall_mem_cons.mpr ⟨lx_301, List.forall_mem_cons.mpr ⟨lx_300, List.forall_mem_cons.mpr ⟨lx_299, List.forall_mem_cons.mpr ⟨lx_298, List.forall_mem_cons.mpr ⟨lx_297, List.forall_mem_cons.mpr ⟨lx_296, List.forall_mem_cons.mpr ⟨lx_295, List.forall_mem_cons.mpr ⟨lx_294, List.forall_mem_cons.mpr ⟨lx_293, List.forall_mem_cons.mpr ⟨lx_292, fun _ h => absurd h List.not_mem_nil⟩⟩⟩⟩⟩⟩⟩⟩⟩⟩⟩⟩⟩⟩⟩⟩⟩⟩⟩⟩⟩⟩⟩⟩
set_option maxRecDepth 20000 in
theorem lxwsX12_behind_r4 : ∀ w ∈ wsX12_behind_r4, w ∈ lw_tbl := List.forall_mem_cons.mpr ⟨lx_315, List.forall_mem_cons.mpr ⟨lx_439, List.forall_mem_cons.mpr ⟨lx_463, List.forall_mem_cons.mpr ⟨lx_462, List.forall_mem_cons.mpr ⟨lx_461, List.forall_mem_cons.mpr ⟨lx_436, List.forall_mem_cons.mpr ⟨lx_460, List.forall_mem_cons.mpr ⟨lx_459, List.forall_mem_cons.mpr ⟨lx_435, List.forall_mem_cons.mpr ⟨lx_458, List.forall_mem_cons.mpr ⟨lx_457, List.forall_mem_cons.mpr ⟨lx_456, List.forall_mem_cons.mpr ⟨lx_455, List.forall_mem_cons.mpr ⟨lx_454, List.forall_mem_cons.mpr ⟨lx_453, List.forall_mem_cons.mpr ⟨lx_452, List.forall_mem_cons.mpr ⟨lx_451, List.forall_mem_cons.mpr ⟨lx_450, List.forall_mem_cons.mpr ⟨lx_449, List.forall_mem_cons.mpr ⟨lx_448, List.forall_mem_cons.mpr ⟨lx_447, List.forall_mem_cons.mpr ⟨lx_446, List.forall_mem_cons.mpr ⟨lx_445, List.forall_mem_cons.mpr ⟨lx_444, fun _ h => absurd h List.not_mem_nil⟩⟩⟩⟩⟩⟩⟩⟩⟩⟩⟩⟩⟩⟩⟩⟩⟩⟩⟩⟩⟩⟩⟩⟩
set_option maxRecDepth 20000 in
theorem lxwsX12_behind_r5 : ∀ w ∈ wsX12_behind_r5, w ∈ lw_tbl := List.forall_mem_cons.mpr ⟨lx_443, List.forall_mem_cons.mpr ⟨lx_442, List.forall_mem_cons.mpr ⟨lx_441, List.forall_mem_cons.mpr ⟨lx_440, List.forall_mem_cons.mpr ⟨lx_485, List.forall_mem_cons.mpr ⟨lx_484, List.forall_mem_cons.mpr ⟨lx_483, List.forall_mem_cons.mpr ⟨lx_482, List.forall_mem_cons.mpr ⟨lx_481, List.forall_mem_cons.mpr ⟨lx_143, List.forall_mem_cons.mpr ⟨lx_480, List.forall_mem_cons.mpr ⟨lx_479, List.forall_mem_cons.mpr ⟨lx_478, List.forall_mem_cons.mpr ⟨lx_477, List.forall_mem_cons.mpr ⟨lx_476, List.forall_mem_cons.mpr ⟨lx_475, List.forall_mem_cons.mpr ⟨lx_474, List.forall_mem_cons.mpr ⟨lx_473, List.forall_mem_cons.mpr ⟨lx_472, List.forall_mem_cons.mpr ⟨lx_471, List.forall_mem_cons.mpr ⟨lx_470, List.forall_mem_cons.mpr ⟨lx_469, List.forall_mem_cons.mpr ⟨lx_140, List.forall_mem_cons.mpr ⟨lx_468, fun _ h => absurd h List.not_mem_nil⟩⟩⟩⟩⟩⟩⟩⟩⟩⟩⟩⟩⟩⟩⟩⟩⟩⟩⟩⟩⟩⟩⟩⟩
set_option maxRecDepth 20000 in
theorem lxwsX12_behind_r6 : ∀ w ∈ wsX12_behind_r6, w ∈ lw_tbl := List.forall_mem_cons.mpr ⟨lx_467, List.forall_mem_cons.mpr ⟨lx_466, List.forall_mem_cons.mpr ⟨lx_465, List.forall_mem_cons.mpr ⟨lx_464, List.forall_mem_cons.mpr ⟨lx_496, List.forall_mem_cons.mpr ⟨lx_495, List.forall_mem_cons.mpr ⟨lx_494, List.forall_mem_cons.mpr ⟨lx_493, List.forall_mem_cons.mpr ⟨lx_492, List.forall_mem_cons.mpr ⟨lx_491, List.forall_mem_cons.mpr ⟨lx_490, List.forall_mem_cons.mpr ⟨lx_489, List.forall_mem_cons.mpr ⟨lx_488, List.forall_mem_cons.mpr ⟨lx_487, List.forall_mem_cons.mpr ⟨lx_486, fun _ h => absurd h List.not_mem_nil⟩⟩⟩⟩⟩⟩⟩⟩⟩⟩⟩⟩⟩⟩⟩
set_option maxRecDepth 20000 in
theorem lxwsX12_behind : ∀ w ∈ wsX12_behind, w ∈ lw_tbl := List.forall_mem_cons.mpr ⟨lx_507, List.forall_mem_append.mpr ⟨List.forall_mem_append.mpr ⟨lxwsX12_behind_r1, List.forall_mem_append.mpr ⟨lxwsX12_behind_r2, List.forall_mem_append.mpr ⟨lxwsX12_behind_r3, List.forall_mem_append.mpr ⟨lxwsX12_behind_r4, List.forall_mem_append.mpr ⟨lxwsX12_behind_r5, lxwsX12_behind_r6⟩⟩⟩⟩⟩, inX12⟩⟩
set_option maxRecDepth 20000 in
theorem gg_X12_behind : GoodIn lw_tbl wsX12_behind := goodIn_sub lxwsX12_behind (by decide +kernel)
theorem lx_508 : Cond.selects RX12 yX12_behind yX12_behind ∈ lw_tbl := lw_t5 30 rfl
theorem lx_509 : Cond.instanceMethod yX12_behind ∈ lw_tbl := lw_t5 29 rfl
theorem lx_510 : Cond.methodLink RL 50 yX12_behind ∈ lw_tbl := lw_t5 28 rfl
set_option maxRecDepth 20000 in
theorem gL_X12_behind : GoodIn lw_tbl (wsV RL 50 RX12 yX12_behind wsX12_behind) := goodIn_app (goodIn_sub (List.forall_mem_cons.mpr ⟨lx_510, List.forall_mem_cons.mpr ⟨lx_509, List.forall_mem_cons.mpr ⟨lx_508, List.forall_mem_cons.mpr ⟨lx_185, fun _ h => absurd h List.not_mem_nil⟩⟩⟩⟩) (by decide +kernel)) gg_X12_behind
theorem lx_511 : Cond.code yX11_purse cX11_purse 4 (some .int) ∈ lw_tbl := lw_t3 7 rfl
set_option maxRecDepth 20000 in
theorem lxwsX11_purse_r1 : ∀ w ∈ wsX11_purse_r1, w ∈ lw_tbl := List.forall_mem_cons.mpr ⟨lx_9, List.forall_mem_cons.mpr ⟨lx_18, List.forall_mem_cons.mpr ⟨lx_13, List.forall_mem_cons.mpr ⟨lx_501, List.forall_mem_cons.mpr ⟨lx_195, List.forall_mem_cons.mpr ⟨lx_160, List.forall_mem_cons.mpr ⟨lx_159, List.forall_mem_cons.mpr ⟨lx_165, List.forall_mem_cons.mpr ⟨lx_158, List.forall_mem_cons.mpr ⟨lx_163, List.forall_mem_cons.mpr ⟨lx_162, List.forall_mem_cons.mpr ⟨lx_51, List.forall_mem_cons.mpr ⟨lx_161, List.forall_mem_cons.mpr ⟨lx_330, List.forall_mem_cons.mpr ⟨lx_329, List.forall_mem_cons.mpr ⟨lx_328, List.forall_mem_cons.mpr ⟨lx_10, List.forall_mem_cons.mpr ⟨lx_327, List.forall_mem_cons.mpr ⟨lx_326, List.forall_mem_cons.mpr ⟨lx_325, List.forall_mem_cons.mpr ⟨lx_324, List.forall_mem_cons.mpr ⟨lx_323, List.forall_mem_cons.mpr ⟨lx_322, List.forall_mem_cons.mpr ⟨lx_321, fun _ h => absurd h List.not_mem_nil⟩⟩⟩⟩⟩⟩⟩⟩⟩⟩⟩⟩⟩⟩⟩⟩⟩⟩⟩⟩⟩⟩⟩⟩
set_option maxRecDepth 20000 in
theorem lxwsX11_purse_r2 : ∀ w ∈ wsX11_purse_r2, w ∈ lw_tbl := List.forall_mem_cons.mpr ⟨lx_320, List.forall_mem_cons.mpr ⟨lx_271, List.forall_mem_cons.mpr ⟨lx_270, List.forall_mem_cons.mpr ⟨lx_14, List.forall_mem_cons.mpr ⟨lx_269, List.forall_mem_cons.mpr ⟨lx_89, List.forall_mem_cons.mpr ⟨lx_268, List.forall_mem_cons.mpr ⟨lx_267, List.forall_mem_cons.mpr ⟨lx_266, List.forall_mem_cons.mpr ⟨lx_265, List.forall_mem_cons.mpr ⟨lx_90, List.forall_mem_cons.mpr ⟨lx_264, List.forall_mem_cons.mpr ⟨lx_156, List.forall_mem_cons.mpr ⟨lx_155, List.forall_mem_cons.mpr ⟨lx_263, List.forall_mem_cons.mpr ⟨lx_262, List.forall_mem_cons.mpr ⟨lx_261, List.forall_mem_cons.mpr ⟨lx_260, List.forall_mem_cons.mpr ⟨lx_341, List.forall_mem_cons.mpr ⟨lx_340, List.forall_mem_cons.mpr ⟨lx_339, List.forall_mem_cons.mpr ⟨lx_338, List.forall_mem_cons.mpr ⟨lx_83, List.forall_mem_cons.mpr ⟨lx_337, fun _ h => absurd h List.not_mem_nil⟩⟩⟩⟩⟩⟩⟩⟩⟩⟩⟩⟩⟩⟩⟩⟩⟩⟩⟩⟩⟩⟩⟩⟩
set_option maxRecDepth 20000 in
theorem lxwsX11_purse_r3 : ∀ w ∈ wsX11_purse_r3, w ∈ lw_tbl := List.forall_mem_cons.mpr ⟨lx_336, List.forall_mem_cons.mpr ⟨lx_335, List.forall_mem_cons.mpr ⟨lx_334, List.forall_mem_cons.mpr ⟨lx_354, List.forall_mem_cons.mpr ⟨lx_353, List.forall_mem_cons.mpr ⟨lx_352, List.forall_mem_cons.mpr ⟨lx_351, List.forall_mem_cons.mpr ⟨lx_350, List.forall_mem_cons.mpr ⟨lx_19, List.forall_mem_cons.mpr ⟨lx_349, List.forall_mem_cons.mpr ⟨lx_72, List.forall_mem_cons.mpr ⟨lx_71, List.forall_mem_cons.mpr ⟨lx_70, List.forall_mem_cons.mpr ⟨lx_69, List.forall_mem_cons.mpr ⟨lx_68, List.forall_mem_cons.mpr ⟨lx_67, List.forall_mem_cons.mpr ⟨lx_63, List.forall_mem_cons.mpr ⟨lx_62, List.forall_mem_cons.mpr ⟨lx_61, List.forall_mem_cons.mpr ⟨lx_348, List.forall_mem_cons.mpr ⟨lx_347, List.forall_mem_cons.mpr ⟨lx_346, List.forall_mem_cons.mpr ⟨lx_345, List.forall_mem_cons.mpr ⟨lx_344, fun _ h => absurd h List.not_mem_nil⟩⟩⟩⟩⟩⟩⟩⟩⟩⟩⟩⟩⟩⟩⟩⟩⟩⟩⟩⟩⟩⟩⟩⟩
set_option maxRecDepth 20000 in
theorem lxwsX11_purse_r4 : ∀ w ∈ wsX11_purse_r4, w ∈ lw_tbl := List.forall_mem_cons.mpr ⟨lx_343, List.forall_mem_cons.mpr ⟨lx_342, List.forall_mem_cons.mpr ⟨lx_64, List.forall_mem_cons.mpr ⟨lx_374, List.forall_mem_cons.mpr ⟨lx_56, List.forall_mem_cons.mpr ⟨lx_55, List.forall_mem_cons.mpr ⟨lx_54, List.forall_mem_cons.mpr ⟨lx_373, List.forall_mem_cons.mpr ⟨lx_372, List.forall_mem_cons.mpr ⟨lx_371, List.forall_mem_cons.mpr ⟨lx_370, List.forall_mem_cons.mpr ⟨lx_369, List.forall_mem_cons.mpr ⟨lx_368, List.forall_mem_cons.mpr ⟨lx_367, List.forall_mem_cons.mpr ⟨lx_366, List.forall_mem_cons.mpr ⟨lx_365, List.forall_mem_cons.mpr ⟨lx_364, List.forall_mem_cons.mpr ⟨lx_363, List.forall_mem_cons.mpr ⟨lx_362, List.forall_mem_cons.mpr ⟨lx_361, List.forall_mem_cons.mpr ⟨lx_360, List.forall_mem_cons.mpr ⟨lx_211, List.forall_mem_cons.mpr ⟨lx_359, List.forall_mem_cons.mpr ⟨lx_358, fun _ h => absurd h List.not_mem_nil⟩⟩⟩⟩⟩⟩⟩⟩⟩⟩⟩⟩⟩⟩⟩⟩⟩⟩⟩⟩⟩⟩⟩⟩
set_option maxRecDepth 20000 in
theorem lxwsX11_purse_r5 : ∀ w ∈ wsX11_purse_r5, w ∈ lw_tbl := List.forall_mem_cons.mpr ⟨lx_357, List.forall_mem_cons.mpr ⟨lx_356, List.forall_mem_cons.mpr ⟨lx_355, List.forall_mem_cons.mpr ⟨lx_395, List.forall_mem_cons.mpr ⟨lx_394, List.forall_mem_cons.mpr ⟨lx_393, List.forall_mem_cons.mpr ⟨lx_392, List.forall_mem_cons.mpr ⟨lx_391, List.forall_mem_cons.mpr ⟨lx_390, List.forall_mem_cons.mpr ⟨lx_389, List.forall_mem_cons.mpr ⟨lx_388, List.forall_mem_cons.mpr ⟨lx_387, List.forall_mem_cons.mpr ⟨lx_386, List.forall_mem_cons.mpr ⟨lx_385, List.forall_mem_cons.mpr ⟨lx_384, List.forall_mem_cons.mpr ⟨lx_383, List.forall_mem_cons.mpr ⟨lx_382, List.forall_mem_cons.mpr ⟨lx_53, List.forall_mem_cons.mpr ⟨lx_52, List.forall_mem_cons.mpr ⟨lx_50, List.forall_mem_cons.mpr ⟨lx_381, List.forall_mem_cons.mpr ⟨lx_380, List.forall_mem_cons.mpr ⟨lx_379, List.forall_mem_cons.mpr ⟨lx_378, fun _ h => absurd h List.not_mem_nil⟩⟩⟩⟩⟩⟩⟩⟩⟩⟩⟩⟩⟩⟩⟩⟩⟩⟩⟩⟩⟩⟩⟩⟩
set_option maxRecDepth 20000 in
theorem lxwsX11_purse_r6 : ∀ w ∈ wsX11_purse_r6, w ∈ lw_tbl := List.forall_mem_cons.mpr ⟨lx_377, List.forall_mem_cons.mpr ⟨lx_376, List.forall_mem_cons.mpr ⟨lx_375, List.forall_mem_cons.mpr ⟨lx_419, List.forall_mem_cons.mpr ⟨lx_418, List.forall_mem_cons.mpr ⟨lx_417, List.forall_mem_cons.mpr ⟨lx_416, List.forall_mem_cons.mpr ⟨lx_415, List.forall_mem_cons.mpr ⟨lx_414, List.forall_mem_cons.mpr ⟨lx_413, List.forall_mem_cons.mpr ⟨lx_412, List.forall_mem_cons.mpr ⟨lx_411, List.forall_mem_cons.mpr ⟨lx_410, List.forall_mem_cons.mpr ⟨lx_409, List.forall_mem_cons.mpr ⟨lx_408, List.forall_mem_cons.mpr ⟨lx_407, List.forall_mem_cons.mpr ⟨lx_406, List.forall_mem_cons.mpr ⟨lx_405, List.forall_mem_cons.mpr ⟨lx_404, List.forall_mem_cons.mpr ⟨lx_403, List.forall_mem_cons.mpr ⟨lx_402, List.forall_mem_cons.mpr ⟨lx_401, List.forall_mem_cons.mpr ⟨lx_400, List.forall_mem_cons.mpr ⟨lx_399, fun _ h => absurd h List.not_mem_nil⟩⟩⟩⟩⟩⟩⟩⟩⟩⟩⟩⟩⟩⟩⟩⟩⟩⟩⟩⟩⟩⟩⟩⟩
theorem lx_512 : Cond.methodLink RX11 169 yX10_isAjar ∈ lw_tbl := lw_t3 12 rfl
theorem lx_513 : Cond.code yX10_thingsOf cX10_thingsOf 4 (some .int) ∈ lw_tbl := lw_t3 11 rfl
theorem lx_514 : Cond.selects RX10 yX10_thingsOf yX10_thingsOf ∈ lw_tbl := lw_t3 10 rfl
theorem lx_515 : Cond.instanceMethod yX10_thingsOf ∈ lw_tbl := lw_t3 9 rfl
theorem lx_516 : Cond.methodLink RX11 166 yX10_thingsOf ∈ lw_tbl := lw_t3 8 rfl
set_option maxRecDepth 20000 in
theorem lxwsX11_purse_r7 : ∀ w ∈ wsX11_purse_r7, w ∈ lw_tbl := List.forall_mem_cons.mpr ⟨lx_398, List.forall_mem_cons.mpr ⟨lx_397, List.forall_mem_cons.mpr ⟨lx_396, List.forall_mem_cons.mpr ⟨lx_420, List.forall_mem_cons.mpr ⟨lx_157, List.forall_mem_cons.mpr ⟨lx_516, List.forall_mem_cons.mpr ⟨lx_515, List.forall_mem_cons.mpr ⟨lx_514, List.forall_mem_cons.mpr ⟨lx_513, List.forall_mem_cons.mpr ⟨lx_512, fun _ h => absurd h List.not_mem_nil⟩⟩⟩⟩⟩⟩⟩⟩⟩⟩
set_option maxRecDepth 20000 in
theorem lxwsX11_purse : ∀ w ∈ wsX11_purse, w ∈ lw_tbl := List.forall_mem_cons.mpr ⟨lx_511, List.forall_mem_append.mpr ⟨List.forall_mem_append.mpr ⟨List.forall_mem_append.mpr ⟨List.forall_mem_append.mpr ⟨List.forall_mem_append.mpr ⟨List.forall_mem_append.mpr ⟨lxwsX11_purse_r1, List.forall_mem_append.mpr ⟨lxwsX11_purse_r2, List.forall_mem_append.mpr ⟨lxwsX11_purse_r3, List.forall_mem_append.mpr ⟨lxwsX11_purse_r4, List.forall_mem_append.mpr ⟨lxwsX11_purse_r5, List.forall_mem_append.mpr ⟨lxwsX11_purse_r6, lxwsX11_purse_r7⟩⟩⟩⟩⟩⟩, inX11⟩, inX9⟩, inX10⟩, inX3⟩, inX8⟩⟩
set_option maxRecDepth 20000 in
theorem gg_X11_purse : GoodIn lw_tbl wsX11_purse := goodIn_sub lxwsX11_purse (by decide +kernel)
theorem lx_517 : Cond.selects RX11 yX11_purse yX11_purse ∈ lw_tbl := lw_t3 6 rfl
theorem lx_518 : Cond.instanceMethod yX11_purse ∈ lw_tbl := lw_t3 5 rfl
theorem lx_519 : Cond.methodLink RL 51 yX11_purse ∈ lw_tbl := lw_t3 4 rfl
set_option maxRecDepth 20000 in
theorem gL_X11_purse : GoodIn lw_tbl (wsV RL 51 RX11 yX11_purse wsX11_purse) := goodIn_app (goodIn_sub (List.forall_mem_cons.mpr ⟨lx_519, List.forall_mem_cons.mpr ⟨lx_518, List.forall_mem_cons.mpr ⟨lx_517, List.forall_mem_cons.mpr ⟨lx_165, fun _ h => absurd h List.not_mem_nil⟩⟩⟩⟩) (by decide +kernel)) gg_X11_purse
theorem lx_520 : Cond.code yX12_purse cX12_purse 4 (some .int) ∈ lw_tbl := lw_t5 35 rfl
set_option maxRecDepth 20000 in
theorem lxwsX12_purse_r1 : ∀ w ∈ wsX12_purse_r1, w ∈ lw_tbl := List.forall_mem_cons.mpr ⟨lx_438, List.forall_mem_cons.mpr ⟨lx_141, List.forall_mem_cons.mpr ⟨lx_147, List.forall_mem_cons.mpr ⟨lx_179, List.forall_mem_cons.mpr ⟨lx_178, List.forall_mem_cons.mpr ⟨lx_185, List.forall_mem_cons.mpr ⟨lx_177, List.forall_mem_cons.mpr ⟨lx_176, List.forall_mem_cons.mpr ⟨lx_182, List.forall_mem_cons.mpr ⟨lx_181, List.forall_mem_cons.mpr ⟨lx_180, List.forall_mem_cons.mpr ⟨lx_434, List.forall_mem_cons.mpr ⟨lx_433, List.forall_mem_cons.mpr ⟨lx_432, List.forall_mem_cons.mpr ⟨lx_431, List.forall_mem_cons.mpr ⟨lx_437, List.forall_mem_cons.mpr ⟨lx_430, List.forall_mem_cons.mpr ⟨lx_429, List.forall_mem_cons.mpr ⟨lx_428, List.forall_mem_cons.mpr ⟨lx_427, List.forall_mem_cons.mpr ⟨lx_132, List.forall_mem_cons.mpr ⟨lx_145, List.forall_mem_cons.mpr ⟨lx_144, List.forall_mem_cons.mpr ⟨lx_426, fun _ h => absurd h List.not_mem_nil⟩⟩⟩⟩⟩⟩⟩⟩⟩⟩⟩⟩⟩⟩⟩⟩⟩⟩⟩⟩⟩⟩⟩⟩
set_option maxRecDepth 20000 in
theorem lxwsX12_purse_r2 : ∀ w ∈ wsX12_purse_r2, w ∈ lw_tbl := List.forall_mem_cons.mpr ⟨lx_425, List.forall_mem_cons.mpr ⟨lx_317, List.forall_mem_cons.mpr ⟨lx_316, List.forall_mem_cons.mpr ⟨lx_276, List.forall_mem_cons.mpr ⟨lx_291, List.forall_mem_cons.mpr ⟨lx_245, List.forall_mem_cons.mpr ⟨lx_137, List.forall_mem_cons.mpr ⟨lx_290, List.forall_mem_cons.mpr ⟨lx_289, List.forall_mem_cons.mpr ⟨lx_288, List.forall_mem_cons.mpr ⟨lx_287, List.forall_mem_cons.mpr ⟨lx_286, List.forall_mem_cons.mpr ⟨lx_285, List.forall_mem_cons.mpr ⟨lx_284, List.forall_mem_cons.mpr ⟨lx_283, List.forall_mem_cons.mpr ⟨lx_135, List.forall_mem_cons.mpr ⟨lx_134, List.forall_mem_cons.mpr ⟨lx_133, List.forall_mem_cons.mpr ⟨lx_282, List.forall_mem_cons.mpr ⟨lx_281, List.forall_mem_cons.mpr ⟨lx_280, List.forall_mem_cons.mpr ⟨lx_279, List.forall_mem_cons.mpr ⟨lx_278, List.forall_mem_cons.mpr ⟨lx_277, fun _ h => absurd h List.not_mem_nil⟩⟩⟩⟩⟩⟩⟩⟩⟩⟩⟩⟩⟩⟩⟩⟩⟩⟩⟩⟩⟩⟩⟩⟩
set_option maxRecDepth 20000 in
theorem lxwsX12_purse_r3 : ∀ w ∈ wsX12_purse_r3, w ∈ lw_tbl := List.forall_mem_cons.mpr ⟨lx_314, List.forall_mem_cons.mpr ⟨lx_313, List.forall_mem_cons.mpr ⟨lx_312, List.forall_mem_cons.mpr ⟨lx_136, List.forall_mem_cons.mpr ⟨lx_311, List.forall_mem_cons.mpr ⟨lx_310, List.forall_mem_cons.mpr ⟨lx_309, List.forall_mem_cons.mpr ⟨lx_308, List.forall_mem_cons.mpr ⟨lx_307, List.forall_mem_cons.mpr ⟨lx_306, List.forall_mem_cons.mpr ⟨lx_305, List.forall_mem_cons.mpr ⟨lx_304, List.forall_mem_cons.mpr ⟨lx_303, List.forall_mem_cons.mpr ⟨lx_302, List.forall_mem_cons.mpr ⟨lx_301, List.forall_mem_cons.mpr ⟨lx_300, List.forall_mem_cons.mpr ⟨lx_299, List.forall_mem_cons.mpr ⟨lx_298, List.forall_mem_cons.mpr ⟨lx_297, List.forall_mem_cons.mpr ⟨lx_296, List.forall_mem_cons.mpr ⟨lx_295, List.forall_mem_cons.mpr ⟨lx_294, List.forall_mem_cons.mpr ⟨lx_293, List.forall_mem_cons.mpr ⟨lx_292, fun _ h => absurd h List.not_mem_nil⟩⟩⟩⟩⟩⟩⟩⟩⟩⟩⟩⟩⟩⟩⟩⟩⟩⟩⟩⟩⟩⟩⟩⟩
set_option maxRecDepth 20000 in
theorem lxwsX12_purse_r4 : ∀ w ∈ wsX12_purse_r4, w ∈ lw_tbl := List.forall_mem_cons.mpr ⟨lx_315, List.forall_mem_cons.mpr ⟨lx_439, List.forall_mem_cons.mpr ⟨lx_463, List.forall_mem_cons.mpr ⟨lx_462, List.forall_mem_cons.mpr ⟨lx_461, List.forall_mem_cons.mpr ⟨lx_436, List.forall_mem_cons.mpr ⟨lx_460, List.forall_mem_cons.mpr ⟨lx_459, List.forall_mem_cons.mpr ⟨lx_435, List.forall_mem_cons.mpr ⟨lx_458, List.forall_mem_cons.mpr ⟨lx_457, List.forall_mem_cons.mpr ⟨lx_456, List.forall_mem_cons.mpr ⟨lx_455, List.forall_mem_cons.mpr ⟨lx_454, List.forall_mem_cons.mpr ⟨lx_453, List.forall_mem_cons.mpr ⟨lx_452, List.forall_mem_cons.mpr ⟨lx_451, List.forall_mem_cons.mpr ⟨lx_450, List.forall_mem_cons.mpr ⟨lx_449, List.forall_mem_cons.mpr ⟨lx_448, List.forall_mem_cons.mpr ⟨lx_447, List.forall_mem_cons.mpr ⟨lx_446, List.forall_mem_cons.mpr ⟨lx_445, List.forall_mem_cons.mpr ⟨lx_444, fun _ h => absurd h List.not_mem_nil⟩⟩⟩⟩⟩⟩⟩⟩⟩⟩⟩⟩⟩⟩⟩⟩⟩⟩⟩⟩⟩⟩⟩⟩
set_option maxRecDepth 20000 in
theorem lxwsX12_purse_r5 : ∀ w ∈ wsX12_purse_r5, w ∈ lw_tbl := List.forall_mem_cons.mpr ⟨lx_443, List.forall_mem_cons.mpr ⟨lx_442, List.forall_mem_cons.mpr ⟨lx_441, List.forall_mem_cons.mpr ⟨lx_440, List.forall_mem_cons.mpr ⟨lx_485, List.forall_mem_cons.mpr ⟨lx_484, List.forall_mem_cons.mpr ⟨lx_483, List.forall_mem_cons.mpr ⟨lx_482, List.forall_mem_cons.mpr ⟨lx_481, List.forall_mem_cons.mpr ⟨lx_143, List.forall_mem_cons.mpr ⟨lx_480, List.forall_mem_cons.mpr ⟨lx_479, List.forall_mem_cons.mpr ⟨lx_478, List.forall_mem_cons.mpr ⟨lx_477, List.forall_mem_cons.mpr ⟨lx_476, List.forall_mem_cons.mpr ⟨lx_475, List.forall_mem_cons.mpr ⟨lx_474, List.forall_mem_cons.mpr ⟨lx_473, List.forall_mem_cons.mpr ⟨lx_472, List.forall_mem_cons.mpr ⟨lx_471, List.forall_mem_cons.mpr ⟨lx_470, List.forall_mem_cons.mpr ⟨lx_469, List.forall_mem_cons.mpr ⟨lx_140, List.forall_mem_cons.mpr ⟨lx_468, fun _ h => absurd h List.not_mem_nil⟩⟩⟩⟩⟩⟩⟩⟩⟩⟩⟩⟩⟩⟩⟩⟩⟩⟩⟩⟩⟩⟩⟩⟩
theorem lx_521 : Cond.code yX12_manyOf cX12_manyOf 4 (some .int) ∈ lw_tbl := lw_t5 39 rfl
theorem lx_522 : Cond.selects RX12 yX12_manyOf yX12_manyOf ∈ lw_tbl := lw_s3 12 rfl rfl
theorem lx_523 : Cond.instanceMethod yX12_manyOf ∈ lw_tbl := lw_t5 38 rfl
theorem lx_524 : Cond.methodLink RX12 245 yX12_manyOf ∈ lw_tbl := lw_t5 36 rfl
set_option maxRecDepth 20000 in
theorem lxwsX12_purse_r6 : ∀ w ∈ wsX12_purse_r6, w ∈ lw_tbl := List.forall_mem_cons.mpr ⟨lx_467, List.forall_mem_cons.mpr ⟨lx_466, List.forall_mem_cons.mpr ⟨lx_465, List.forall_mem_cons.mpr ⟨lx_464, List.forall_mem_cons.mpr ⟨lx_496, List.forall_mem_cons.mpr ⟨lx_495, List.forall_mem_cons.mpr ⟨lx_494, List.forall_mem_cons.mpr ⟨lx_493, List.forall_mem_cons.mpr ⟨lx_492, List.forall_mem_cons.mpr ⟨lx_491, List.forall_mem_cons.mpr ⟨lx_490, List.forall_mem_cons.mpr ⟨lx_524, List.forall_mem_cons.mpr ⟨lx_523, List.forall_mem_cons.mpr ⟨lx_522, List.forall_mem_cons.mpr ⟨lx_521, List.forall_mem_cons.mpr ⟨lx_489, List.forall_mem_cons.mpr ⟨lx_488, List.forall_mem_cons.mpr ⟨lx_487, List.forall_mem_cons.mpr ⟨lx_486, fun _ h => absurd h List.not_mem_nil⟩⟩⟩⟩⟩⟩⟩⟩⟩⟩⟩⟩⟩⟩⟩⟩⟩⟩⟩
set_option maxRecDepth 20000 in
theorem lxwsX12_purse : ∀ w ∈ wsX12_purse, w ∈ lw_tbl := List.forall_mem_cons.mpr ⟨lx_520, List.forall_mem_append.mpr ⟨List.forall_mem_append.mpr ⟨lxwsX12_purse_r1, List.forall_mem_append.mpr ⟨lxwsX12_purse_r2, List.forall_mem_append.mpr ⟨lxwsX12_purse_r3, List.forall_mem_append.mpr ⟨lxwsX12_purse_r4, List.forall_mem_append.mpr ⟨lxwsX12_purse_r5, lxwsX12_purse_r6⟩⟩⟩⟩⟩, inX12⟩⟩
set_option maxRecDepth 20000 in
theorem gg_X12_purse : GoodIn lw_tbl wsX12_purse := goodIn_sub lxwsX12_purse (by decide +kernel)
theorem lx_525 : Cond.selects RX12 yX12_purse yX12_purse ∈ lw_tbl := lw_t5 34 rfl
theorem lx_526 : Cond.instanceMethod yX12_purse ∈ lw_tbl := lw_t5 33 rfl
theorem lx_527 : Cond.methodLink RL 54 yX12_purse ∈ lw_tbl := lw_t5 32 rfl
set_option maxRecDepth 20000 in
theorem gL_X12_purse : GoodIn lw_tbl (wsV RL 54 RX12 yX12_purse wsX12_purse) := goodIn_app (goodIn_sub (List.forall_mem_cons.mpr ⟨lx_527, List.forall_mem_cons.mpr ⟨lx_526, List.forall_mem_cons.mpr ⟨lx_525, List.forall_mem_cons.mpr ⟨lx_185, fun _ h => absurd h List.not_mem_nil⟩⟩⟩⟩) (by decide +kernel)) gg_X12_purse
theorem lx_528 : Cond.code yX11_sold cX11_sold 3 (some .int) ∈ lw_tbl := lw_t3 16 rfl
theorem lx_529 : Cond.fieldLink RX11 178 "TwiceStolen$Trial" "cameTo" "I" ∈ lw_tbl := lw_t1 132 rfl
theorem lx_530 : Cond.fieldLink RX11 175 "TwiceStolen$Trial" "firstSold" "I" ∈ lw_tbl := lw_t1 130 rfl
theorem lx_531 : Cond.fieldLink RX11 172 "TwiceStolen$Trial" "firstSale" "I" ∈ lw_tbl := lw_t1 128 rfl
set_option maxRecDepth 20000 in
theorem lxwsX11_sold_r1 : ∀ w ∈ wsX11_sold_r1, w ∈ lw_tbl := List.forall_mem_cons.mpr ⟨lx_9, List.forall_mem_cons.mpr ⟨lx_18, List.forall_mem_cons.mpr ⟨lx_13, List.forall_mem_cons.mpr ⟨lx_531, List.forall_mem_cons.mpr ⟨lx_530, List.forall_mem_cons.mpr ⟨lx_529, List.forall_mem_cons.mpr ⟨lx_163, List.forall_mem_cons.mpr ⟨lx_162, List.forall_mem_cons.mpr ⟨lx_51, List.forall_mem_cons.mpr ⟨lx_161, List.forall_mem_cons.mpr ⟨lx_330, List.forall_mem_cons.mpr ⟨lx_329, List.forall_mem_cons.mpr ⟨lx_328, List.forall_mem_cons.mpr ⟨lx_10, List.forall_mem_cons.mpr ⟨lx_327, List.forall_mem_cons.mpr ⟨lx_326, List.forall_mem_cons.mpr ⟨lx_325, List.forall_mem_cons.mpr ⟨lx_324, List.forall_mem_cons.mpr ⟨lx_323, List.forall_mem_cons.mpr ⟨lx_322, List.forall_mem_cons.mpr ⟨lx_321, List.forall_mem_cons.mpr ⟨lx_320, List.forall_mem_cons.mpr ⟨lx_271, List.forall_mem_cons.mpr ⟨lx_270, fun _ h => absurd h List.not_mem_nil⟩⟩⟩⟩⟩⟩⟩⟩⟩⟩⟩⟩⟩⟩⟩⟩⟩⟩⟩⟩⟩⟩⟩⟩
set_option maxRecDepth 20000 in
theorem lxwsX11_sold_r2 : ∀ w ∈ wsX11_sold_r2, w ∈ lw_tbl := List.forall_mem_cons.mpr ⟨lx_14, List.forall_mem_cons.mpr ⟨lx_269, List.forall_mem_cons.mpr ⟨lx_89, List.forall_mem_cons.mpr ⟨lx_268, List.forall_mem_cons.mpr ⟨lx_267, List.forall_mem_cons.mpr ⟨lx_266, List.forall_mem_cons.mpr ⟨lx_265, List.forall_mem_cons.mpr ⟨lx_90, List.forall_mem_cons.mpr ⟨lx_264, List.forall_mem_cons.mpr ⟨lx_156, List.forall_mem_cons.mpr ⟨lx_155, List.forall_mem_cons.mpr ⟨lx_263, List.forall_mem_cons.mpr ⟨lx_262, List.forall_mem_cons.mpr ⟨lx_261, List.forall_mem_cons.mpr ⟨lx_260, List.forall_mem_cons.mpr ⟨lx_341, List.forall_mem_cons.mpr ⟨lx_340, List.forall_mem_cons.mpr ⟨lx_339, List.forall_mem_cons.mpr ⟨lx_338, List.forall_mem_cons.mpr ⟨lx_83, List.forall_mem_cons.mpr ⟨lx_337, List.forall_mem_cons.mpr ⟨lx_336, List.forall_mem_cons.mpr ⟨lx_335, List.forall_mem_cons.mpr ⟨lx_334, fun _ h => absurd h List.not_mem_nil⟩⟩⟩⟩⟩⟩⟩⟩⟩⟩⟩⟩⟩⟩⟩⟩⟩⟩⟩⟩⟩⟩⟩⟩
set_option maxRecDepth 20000 in
theorem lxwsX11_sold_r3 : ∀ w ∈ wsX11_sold_r3, w ∈ lw_tbl := List.forall_mem_cons.mpr ⟨lx_354, List.forall_mem_cons.mpr ⟨lx_353, List.forall_mem_cons.mpr ⟨lx_352, List.forall_mem_cons.mpr ⟨lx_351, List.forall_mem_cons.mpr ⟨lx_350, List.forall_mem_cons.mpr ⟨lx_19, List.forall_mem_cons.mpr ⟨lx_349, List.forall_mem_cons.mpr ⟨lx_72, List.forall_mem_cons.mpr ⟨lx_71, List.forall_mem_cons.mpr ⟨lx_70, List.forall_mem_cons.mpr ⟨lx_69, List.forall_mem_cons.mpr ⟨lx_68, List.forall_mem_cons.mpr ⟨lx_67, List.forall_mem_cons.mpr ⟨lx_63, List.forall_mem_cons.mpr ⟨lx_62, List.forall_mem_cons.mpr ⟨lx_61, List.forall_mem_cons.mpr ⟨lx_348, List.forall_mem_cons.mpr ⟨lx_347, List.forall_mem_cons.mpr ⟨lx_346, List.forall_mem_cons.mpr ⟨lx_345, List.forall_mem_cons.mpr ⟨lx_344, List.forall_mem_cons.mpr ⟨lx_343, List.forall_mem_cons.mpr ⟨lx_342, List.forall_mem_cons.mpr ⟨lx_64, fun _ h => absurd h List.not_mem_nil⟩⟩⟩⟩⟩⟩⟩⟩⟩⟩⟩⟩⟩⟩⟩⟩⟩⟩⟩⟩⟩⟩⟩⟩
set_option maxRecDepth 20000 in
theorem lxwsX11_sold_r4 : ∀ w ∈ wsX11_sold_r4, w ∈ lw_tbl := List.forall_mem_cons.mpr ⟨lx_374, List.forall_mem_cons.mpr ⟨lx_56, List.forall_mem_cons.mpr ⟨lx_55, List.forall_mem_cons.mpr ⟨lx_54, List.forall_mem_cons.mpr ⟨lx_373, List.forall_mem_cons.mpr ⟨lx_372, List.forall_mem_cons.mpr ⟨lx_371, List.forall_mem_cons.mpr ⟨lx_370, List.forall_mem_cons.mpr ⟨lx_369, List.forall_mem_cons.mpr ⟨lx_368, List.forall_mem_cons.mpr ⟨lx_367, List.forall_mem_cons.mpr ⟨lx_366, List.forall_mem_cons.mpr ⟨lx_365, List.forall_mem_cons.mpr ⟨lx_364, List.forall_mem_cons.mpr ⟨lx_363, List.forall_mem_cons.mpr ⟨lx_362, List.forall_mem_cons.mpr ⟨lx_361, List.forall_mem_cons.mpr ⟨lx_360, List.forall_mem_cons.mpr ⟨lx_211, List.forall_mem_cons.mpr ⟨lx_359, List.forall_mem_cons.mpr ⟨lx_358, List.forall_mem_cons.mpr ⟨lx_357, List.forall_mem_cons.mpr ⟨lx_356, List.forall_mem_cons.mpr ⟨lx_355, fun _ h => absurd h List.not_mem_nil⟩⟩⟩⟩⟩⟩⟩⟩⟩⟩⟩⟩⟩⟩⟩⟩⟩⟩⟩⟩⟩⟩⟩⟩
set_option maxRecDepth 20000 in
theorem lxwsX11_sold_r5 : ∀ w ∈ wsX11_sold_r5, w ∈ lw_tbl := List.forall_mem_cons.mpr ⟨lx_395, List.forall_mem_cons.mpr ⟨lx_394, List.forall_mem_cons.mpr ⟨lx_393, List.forall_mem_cons.mpr ⟨lx_392, List.forall_mem_cons.mpr ⟨lx_391, List.forall_mem_cons.mpr ⟨lx_390, List.forall_mem_cons.mpr ⟨lx_389, List.forall_mem_cons.mpr ⟨lx_388, List.forall_mem_cons.mpr ⟨lx_387, List.forall_mem_cons.mpr ⟨lx_386, List.forall_mem_cons.mpr ⟨lx_385, List.forall_mem_cons.mpr ⟨lx_384, List.forall_mem_cons.mpr ⟨lx_383, List.forall_mem_cons.mpr ⟨lx_382, List.forall_mem_cons.mpr ⟨lx_53, List.forall_mem_cons.mpr ⟨lx_52, List.forall_mem_cons.mpr ⟨lx_50, List.forall_mem_cons.mpr ⟨lx_381, List.forall_mem_cons.mpr ⟨lx_380, List.forall_mem_cons.mpr ⟨lx_379, List.forall_mem_cons.mpr ⟨lx_378, List.forall_mem_cons.mpr ⟨lx_377, List.forall_mem_cons.mpr ⟨lx_376, List.forall_mem_cons.mpr ⟨lx_375, fun _ h => absurd h List.not_mem_nil⟩⟩⟩⟩⟩⟩⟩⟩⟩⟩⟩⟩⟩⟩⟩⟩⟩⟩⟩⟩⟩⟩⟩⟩
set_option maxRecDepth 20000 in
theorem lxwsX11_sold_r6 : ∀ w ∈ wsX11_sold_r6, w ∈ lw_tbl := List.forall_mem_cons.mpr ⟨lx_419, List.forall_mem_cons.mpr ⟨lx_418, List.forall_mem_cons.mpr ⟨lx_417, List.forall_mem_cons.mpr ⟨lx_416, List.forall_mem_cons.mpr ⟨lx_415, List.forall_mem_cons.mpr ⟨lx_414, List.forall_mem_cons.mpr ⟨lx_413, List.forall_mem_cons.mpr ⟨lx_412, List.forall_mem_cons.mpr ⟨lx_411, List.forall_mem_cons.mpr ⟨lx_410, List.forall_mem_cons.mpr ⟨lx_409, List.forall_mem_cons.mpr ⟨lx_408, List.forall_mem_cons.mpr ⟨lx_407, List.forall_mem_cons.mpr ⟨lx_406, List.forall_mem_cons.mpr ⟨lx_405, List.forall_mem_cons.mpr ⟨lx_404, List.forall_mem_cons.mpr ⟨lx_403, List.forall_mem_cons.mpr ⟨lx_402, List.forall_mem_cons.mpr ⟨lx_401, List.forall_mem_cons.mpr ⟨lx_400, List.forall_mem_cons.mpr ⟨lx_399, List.forall_mem_cons.mpr ⟨lx_398, List.forall_mem_cons.mpr ⟨lx_397, List.forall_mem_cons.mpr ⟨lx_396, fun _ h => absurd h List.not_mem_nil⟩⟩⟩⟩⟩⟩⟩⟩⟩⟩⟩⟩⟩⟩⟩⟩⟩⟩⟩⟩⟩⟩⟩⟩
set_option maxRecDepth 20000 in
theorem lxwsX11_sold_r7 : ∀ w ∈ wsX11_sold_r7, w ∈ lw_tbl := List.forall_mem_cons.mpr ⟨lx_420, fun _ h => absurd h List.not_mem_nil⟩
set_option maxRecDepth 20000 in
theorem lxwsX11_sold : ∀ w ∈ wsX11_sold, w ∈ lw_tbl := List.forall_mem_cons.mpr ⟨lx_528, List.forall_mem_append.mpr ⟨List.forall_mem_append.mpr ⟨List.forall_mem_append.mpr ⟨List.forall_mem_append.mpr ⟨List.forall_mem_append.mpr ⟨List.forall_mem_append.mpr ⟨lxwsX11_sold_r1, List.forall_mem_append.mpr ⟨lxwsX11_sold_r2, List.forall_mem_append.mpr ⟨lxwsX11_sold_r3, List.forall_mem_append.mpr ⟨lxwsX11_sold_r4, List.forall_mem_append.mpr ⟨lxwsX11_sold_r5, List.forall_mem_append.mpr ⟨lxwsX11_sold_r6, lxwsX11_sold_r7⟩⟩⟩⟩⟩⟩, inX11⟩, inX9⟩, inX3⟩, inX10⟩, inX8⟩⟩
set_option maxRecDepth 20000 in
theorem gg_X11_sold : GoodIn lw_tbl wsX11_sold := goodIn_sub lxwsX11_sold (by decide +kernel)
theorem lx_532 : Cond.selects RX11 yX11_sold yX11_sold ∈ lw_tbl := lw_t3 15 rfl
theorem lx_533 : Cond.instanceMethod yX11_sold ∈ lw_tbl := lw_t3 14 rfl
theorem lx_534 : Cond.methodLink RL 55 yX11_sold ∈ lw_tbl := lw_t3 13 rfl
set_option maxRecDepth 20000 in
theorem gL_X11_sold : GoodIn lw_tbl (wsV RL 55 RX11 yX11_sold wsX11_sold) := goodIn_app (goodIn_sub (List.forall_mem_cons.mpr ⟨lx_534, List.forall_mem_cons.mpr ⟨lx_533, List.forall_mem_cons.mpr ⟨lx_532, List.forall_mem_cons.mpr ⟨lx_165, fun _ h => absurd h List.not_mem_nil⟩⟩⟩⟩) (by decide +kernel)) gg_X11_sold
theorem lx_535 : Cond.code yX12_sold cX12_sold 3 (some .int) ∈ lw_tbl := lw_t5 43 rfl
set_option maxRecDepth 20000 in
theorem lxwsX12_sold_r1 : ∀ w ∈ wsX12_sold_r1, w ∈ lw_tbl := List.forall_mem_cons.mpr ⟨lx_438, List.forall_mem_cons.mpr ⟨lx_460, List.forall_mem_cons.mpr ⟨lx_459, List.forall_mem_cons.mpr ⟨lx_458, List.forall_mem_cons.mpr ⟨lx_182, List.forall_mem_cons.mpr ⟨lx_181, List.forall_mem_cons.mpr ⟨lx_185, List.forall_mem_cons.mpr ⟨lx_180, List.forall_mem_cons.mpr ⟨lx_434, List.forall_mem_cons.mpr ⟨lx_433, List.forall_mem_cons.mpr ⟨lx_432, List.forall_mem_cons.mpr ⟨lx_431, List.forall_mem_cons.mpr ⟨lx_437, List.forall_mem_cons.mpr ⟨lx_430, List.forall_mem_cons.mpr ⟨lx_429, List.forall_mem_cons.mpr ⟨lx_428, List.forall_mem_cons.mpr ⟨lx_427, List.forall_mem_cons.mpr ⟨lx_132, List.forall_mem_cons.mpr ⟨lx_145, List.forall_mem_cons.mpr ⟨lx_144, List.forall_mem_cons.mpr ⟨lx_141, List.forall_mem_cons.mpr ⟨lx_147, List.forall_mem_cons.mpr ⟨lx_426, List.forall_mem_cons.mpr ⟨lx_425, fun _ h => absurd h List.not_mem_nil⟩⟩⟩⟩⟩⟩⟩⟩⟩⟩⟩⟩⟩⟩⟩⟩⟩⟩⟩⟩⟩⟩⟩⟩
set_option maxRecDepth 20000 in
theorem lxwsX12_sold_r2 : ∀ w ∈ wsX12_sold_r2, w ∈ lw_tbl := List.forall_mem_cons.mpr ⟨lx_317, List.forall_mem_cons.mpr ⟨lx_316, List.forall_mem_cons.mpr ⟨lx_276, List.forall_mem_cons.mpr ⟨lx_291, List.forall_mem_cons.mpr ⟨lx_245, List.forall_mem_cons.mpr ⟨lx_137, List.forall_mem_cons.mpr ⟨lx_290, List.forall_mem_cons.mpr ⟨lx_289, List.forall_mem_cons.mpr ⟨lx_288, List.forall_mem_cons.mpr ⟨lx_287, List.forall_mem_cons.mpr ⟨lx_286, List.forall_mem_cons.mpr ⟨lx_285, List.forall_mem_cons.mpr ⟨lx_284, List.forall_mem_cons.mpr ⟨lx_283, List.forall_mem_cons.mpr ⟨lx_135, List.forall_mem_cons.mpr ⟨lx_134, List.forall_mem_cons.mpr ⟨lx_133, List.forall_mem_cons.mpr ⟨lx_282, List.forall_mem_cons.mpr ⟨lx_281, List.forall_mem_cons.mpr ⟨lx_280, List.forall_mem_cons.mpr ⟨lx_279, List.forall_mem_cons.mpr ⟨lx_278, List.forall_mem_cons.mpr ⟨lx_277, List.forall_mem_cons.mpr ⟨lx_314, fun _ h => absurd h List.not_mem_nil⟩⟩⟩⟩⟩⟩⟩⟩⟩⟩⟩⟩⟩⟩⟩⟩⟩⟩⟩⟩⟩⟩⟩⟩
set_option maxRecDepth 20000 in
theorem lxwsX12_sold_r3 : ∀ w ∈ wsX12_sold_r3, w ∈ lw_tbl := List.forall_mem_cons.mpr ⟨lx_313, List.forall_mem_cons.mpr ⟨lx_312, List.forall_mem_cons.mpr ⟨lx_136, List.forall_mem_cons.mpr ⟨lx_311, List.forall_mem_cons.mpr ⟨lx_310, List.forall_mem_cons.mpr ⟨lx_309, List.forall_mem_cons.mpr ⟨lx_308, List.forall_mem_cons.mpr ⟨lx_307, List.forall_mem_cons.mpr ⟨lx_306, List.forall_mem_cons.mpr ⟨lx_305, List.forall_mem_cons.mpr ⟨lx_304, List.forall_mem_cons.mpr ⟨lx_303, List.forall_mem_cons.mpr ⟨lx_302, List.forall_mem_cons.mpr ⟨lx_301, List.forall_mem_cons.mpr ⟨lx_300, List.forall_mem_cons.mpr ⟨lx_299, List.forall_mem_cons.mpr ⟨lx_298, List.forall_mem_cons.mpr ⟨lx_297, List.forall_mem_cons.mpr ⟨lx_296, List.forall_mem_cons.mpr ⟨lx_295, List.forall_mem_cons.mpr ⟨lx_294, List.forall_mem_cons.mpr ⟨lx_293, List.forall_mem_cons.mpr ⟨lx_292, List.forall_mem_cons.mpr ⟨lx_315, fun _ h => absurd h List.not_mem_nil⟩⟩⟩⟩⟩⟩⟩⟩⟩⟩⟩⟩⟩⟩⟩⟩⟩⟩⟩⟩⟩⟩⟩⟩
set_option maxRecDepth 20000 in
theorem lxwsX12_sold_r4 : ∀ w ∈ wsX12_sold_r4, w ∈ lw_tbl := List.forall_mem_cons.mpr ⟨lx_439, List.forall_mem_cons.mpr ⟨lx_463, List.forall_mem_cons.mpr ⟨lx_462, List.forall_mem_cons.mpr ⟨lx_461, List.forall_mem_cons.mpr ⟨lx_436, List.forall_mem_cons.mpr ⟨lx_435, List.forall_mem_cons.mpr ⟨lx_457, List.forall_mem_cons.mpr ⟨lx_456, List.forall_mem_cons.mpr ⟨lx_455, List.forall_mem_cons.mpr ⟨lx_454, List.forall_mem_cons.mpr ⟨lx_453, List.forall_mem_cons.mpr ⟨lx_452, List.forall_mem_cons.mpr ⟨lx_451, List.forall_mem_cons.mpr ⟨lx_450, List.forall_mem_cons.mpr ⟨lx_449, List.forall_mem_cons.mpr ⟨lx_448, List.forall_mem_cons.mpr ⟨lx_447, List.forall_mem_cons.mpr ⟨lx_446, List.forall_mem_cons.mpr ⟨lx_445, List.forall_mem_cons.mpr ⟨lx_444, List.forall_mem_cons.mpr ⟨lx_443, List.forall_mem_cons.mpr ⟨lx_442, List.forall_mem_cons.mpr ⟨lx_441, List.forall_mem_cons.mpr ⟨lx_440, fun _ h => absurd h List.not_mem_nil⟩⟩⟩⟩⟩⟩⟩⟩⟩⟩⟩⟩⟩⟩⟩⟩⟩⟩⟩⟩⟩⟩⟩⟩
set_option maxRecDepth 20000 in
theorem lxwsX12_sold_r5 : ∀ w ∈ wsX12_sold_r5, w ∈ lw_tbl := List.forall_mem_cons.mpr ⟨lx_485, List.forall_mem_cons.mpr ⟨lx_484, List.forall_mem_cons.mpr ⟨lx_483, List.forall_mem_cons.mpr ⟨lx_482, List.forall_mem_cons.mpr ⟨lx_481, List.forall_mem_cons.mpr ⟨lx_143, List.forall_mem_cons.mpr ⟨lx_480, List.forall_mem_cons.mpr ⟨lx_479, List.forall_mem_cons.mpr ⟨lx_478, List.forall_mem_cons.mpr ⟨lx_477, List.forall_mem_cons.mpr ⟨lx_476, List.forall_mem_cons.mpr ⟨lx_475, List.forall_mem_cons.mpr ⟨lx_474, List.forall_mem_cons.mpr ⟨lx_473, List.forall_mem_cons.mpr ⟨lx_472, List.forall_mem_cons.mpr ⟨lx_471, List.forall_mem_cons.mpr ⟨lx_470, List.forall_mem_cons.mpr ⟨lx_469, List.forall_mem_cons.mpr ⟨lx_140, List.forall_mem_cons.mpr ⟨lx_468, List.forall_mem_cons.mpr ⟨lx_467, List.forall_mem_cons.mpr ⟨lx_466, List.forall_mem_cons.mpr ⟨lx_465, List.forall_mem_cons.mpr ⟨lx_464, fun _ h => absurd h List.not_mem_nil⟩⟩⟩⟩⟩⟩⟩⟩⟩⟩⟩⟩⟩⟩⟩⟩⟩⟩⟩⟩⟩⟩⟩⟩
set_option maxRecDepth 20000 in
theorem lxwsX12_sold_r6 : ∀ w ∈ wsX12_sold_r6, w ∈ lw_tbl := List.forall_mem_cons.mpr ⟨lx_496, List.forall_mem_cons.mpr ⟨lx_495, List.forall_mem_cons.mpr ⟨lx_494, List.forall_mem_cons.mpr ⟨lx_493, List.forall_mem_cons.mpr ⟨lx_492, List.forall_mem_cons.mpr ⟨lx_491, List.forall_mem_cons.mpr ⟨lx_490, List.forall_mem_cons.mpr ⟨lx_489, List.forall_mem_cons.mpr ⟨lx_488, List.forall_mem_cons.mpr ⟨lx_487, List.forall_mem_cons.mpr ⟨lx_486, fun _ h => absurd h List.not_mem_nil⟩⟩⟩⟩⟩⟩⟩⟩⟩⟩⟩
set_option maxRecDepth 20000 in
theorem lxwsX12_sold : ∀ w ∈ wsX12_sold, w ∈ lw_tbl := List.forall_mem_cons.mpr ⟨lx_535, List.forall_mem_append.mpr ⟨List.forall_mem_append.mpr ⟨lxwsX12_sold_r1, List.forall_mem_append.mpr ⟨lxwsX12_sold_r2, List.forall_mem_append.mpr ⟨lxwsX12_sold_r3, List.forall_mem_append.mpr ⟨lxwsX12_sold_r4, List.forall_mem_append.mpr ⟨lxwsX12_sold_r5, lxwsX12_sold_r6⟩⟩⟩⟩⟩, inX12⟩⟩
set_option maxRecDepth 20000 in
theorem gg_X12_sold : GoodIn lw_tbl wsX12_sold := goodIn_sub lxwsX12_sold (by decide +kernel)
theorem lx_536 : Cond.selects RX12 yX12_sold yX12_sold ∈ lw_tbl := lw_t5 42 rfl
theorem lx_537 : Cond.instanceMethod yX12_sold ∈ lw_tbl := lw_t5 41 rfl
theorem lx_538 : Cond.methodLink RL 58 yX12_sold ∈ lw_tbl := lw_t5 40 rfl
set_option maxRecDepth 20000 in
theorem gL_X12_sold : GoodIn lw_tbl (wsV RL 58 RX12 yX12_sold wsX12_sold) := goodIn_app (goodIn_sub (List.forall_mem_cons.mpr ⟨lx_538, List.forall_mem_cons.mpr ⟨lx_537, List.forall_mem_cons.mpr ⟨lx_536, List.forall_mem_cons.mpr ⟨lx_185, fun _ h => absurd h List.not_mem_nil⟩⟩⟩⟩) (by decide +kernel)) gg_X12_sold
theorem lx_539 : Cond.code yX11_done cX11_done 2 (some .int) ∈ lw_tbl := lw_t3 20 rfl
theorem lx_540 : Cond.fieldLink RX11 185 "TwiceStolen$Trial" "acts" "I" ∈ lw_tbl := lw_t1 120 rfl
set_option maxRecDepth 20000 in
theorem lxwsX11_done_r1 : ∀ w ∈ wsX11_done_r1, w ∈ lw_tbl := List.forall_mem_cons.mpr ⟨lx_9, List.forall_mem_cons.mpr ⟨lx_18, List.forall_mem_cons.mpr ⟨lx_13, List.forall_mem_cons.mpr ⟨lx_501, List.forall_mem_cons.mpr ⟨lx_240, List.forall_mem_cons.mpr ⟨lx_540, List.forall_mem_cons.mpr ⟨lx_330, List.forall_mem_cons.mpr ⟨lx_329, List.forall_mem_cons.mpr ⟨lx_328, List.forall_mem_cons.mpr ⟨lx_10, List.forall_mem_cons.mpr ⟨lx_327, List.forall_mem_cons.mpr ⟨lx_326, List.forall_mem_cons.mpr ⟨lx_325, List.forall_mem_cons.mpr ⟨lx_324, List.forall_mem_cons.mpr ⟨lx_323, List.forall_mem_cons.mpr ⟨lx_322, List.forall_mem_cons.mpr ⟨lx_321, List.forall_mem_cons.mpr ⟨lx_320, List.forall_mem_cons.mpr ⟨lx_271, List.forall_mem_cons.mpr ⟨lx_270, List.forall_mem_cons.mpr ⟨lx_14, List.forall_mem_cons.mpr ⟨lx_269, List.forall_mem_cons.mpr ⟨lx_89, List.forall_mem_cons.mpr ⟨lx_268, fun _ h => absurd h List.not_mem_nil⟩⟩⟩⟩⟩⟩⟩⟩⟩⟩⟩⟩⟩⟩⟩⟩⟩⟩⟩⟩⟩⟩⟩⟩
set_option maxRecDepth 20000 in
theorem lxwsX11_done_r2 : ∀ w ∈ wsX11_done_r2, w ∈ lw_tbl := List.forall_mem_cons.mpr ⟨lx_267, List.forall_mem_cons.mpr ⟨lx_266, List.forall_mem_cons.mpr ⟨lx_265, List.forall_mem_cons.mpr ⟨lx_90, List.forall_mem_cons.mpr ⟨lx_264, List.forall_mem_cons.mpr ⟨lx_156, List.forall_mem_cons.mpr ⟨lx_51, List.forall_mem_cons.mpr ⟨lx_155, List.forall_mem_cons.mpr ⟨lx_263, List.forall_mem_cons.mpr ⟨lx_262, List.forall_mem_cons.mpr ⟨lx_261, List.forall_mem_cons.mpr ⟨lx_260, List.forall_mem_cons.mpr ⟨lx_162, List.forall_mem_cons.mpr ⟨lx_161, List.forall_mem_cons.mpr ⟨lx_341, List.forall_mem_cons.mpr ⟨lx_340, List.forall_mem_cons.mpr ⟨lx_339, List.forall_mem_cons.mpr ⟨lx_338, List.forall_mem_cons.mpr ⟨lx_83, List.forall_mem_cons.mpr ⟨lx_337, List.forall_mem_cons.mpr ⟨lx_336, List.forall_mem_cons.mpr ⟨lx_335, List.forall_mem_cons.mpr ⟨lx_334, List.forall_mem_cons.mpr ⟨lx_354, fun _ h => absurd h List.not_mem_nil⟩⟩⟩⟩⟩⟩⟩⟩⟩⟩⟩⟩⟩⟩⟩⟩⟩⟩⟩⟩⟩⟩⟩⟩
set_option maxRecDepth 20000 in
theorem lxwsX11_done_r3 : ∀ w ∈ wsX11_done_r3, w ∈ lw_tbl := List.forall_mem_cons.mpr ⟨lx_353, List.forall_mem_cons.mpr ⟨lx_352, List.forall_mem_cons.mpr ⟨lx_351, List.forall_mem_cons.mpr ⟨lx_350, List.forall_mem_cons.mpr ⟨lx_19, List.forall_mem_cons.mpr ⟨lx_349, List.forall_mem_cons.mpr ⟨lx_72, List.forall_mem_cons.mpr ⟨lx_71, List.forall_mem_cons.mpr ⟨lx_70, List.forall_mem_cons.mpr ⟨lx_69, List.forall_mem_cons.mpr ⟨lx_68, List.forall_mem_cons.mpr ⟨lx_67, List.forall_mem_cons.mpr ⟨lx_63, List.forall_mem_cons.mpr ⟨lx_62, List.forall_mem_cons.mpr ⟨lx_61, List.forall_mem_cons.mpr ⟨lx_348, List.forall_mem_cons.mpr ⟨lx_347, List.forall_mem_cons.mpr ⟨lx_346, List.forall_mem_cons.mpr ⟨lx_345, List.forall_mem_cons.mpr ⟨lx_344, List.forall_mem_cons.mpr ⟨lx_343, List.forall_mem_cons.mpr ⟨lx_342, List.forall_mem_cons.mpr ⟨lx_64, List.forall_mem_cons.mpr ⟨lx_374, fun _ h => absurd h List.not_mem_nil⟩⟩⟩⟩⟩⟩⟩⟩⟩⟩⟩⟩⟩⟩⟩⟩⟩⟩⟩⟩⟩⟩⟩⟩
set_option maxRecDepth 20000 in
theorem lxwsX11_done_r4 : ∀ w ∈ wsX11_done_r4, w ∈ lw_tbl := List.forall_mem_cons.mpr ⟨lx_56, List.forall_mem_cons.mpr ⟨lx_55, List.forall_mem_cons.mpr ⟨lx_54, List.forall_mem_cons.mpr ⟨lx_373, List.forall_mem_cons.mpr ⟨lx_372, List.forall_mem_cons.mpr ⟨lx_371, List.forall_mem_cons.mpr ⟨lx_370, List.forall_mem_cons.mpr ⟨lx_369, List.forall_mem_cons.mpr ⟨lx_368, List.forall_mem_cons.mpr ⟨lx_367, List.forall_mem_cons.mpr ⟨lx_366, List.forall_mem_cons.mpr ⟨lx_365, List.forall_mem_cons.mpr ⟨lx_364, List.forall_mem_cons.mpr ⟨lx_363, List.forall_mem_cons.mpr ⟨lx_362, List.forall_mem_cons.mpr ⟨lx_361, List.forall_mem_cons.mpr ⟨lx_360, List.forall_mem_cons.mpr ⟨lx_211, List.forall_mem_cons.mpr ⟨lx_359, List.forall_mem_cons.mpr ⟨lx_358, List.forall_mem_cons.mpr ⟨lx_357, List.forall_mem_cons.mpr ⟨lx_356, List.forall_mem_cons.mpr ⟨lx_355, List.forall_mem_cons.mpr ⟨lx_395, fun _ h => absurd h List.not_mem_nil⟩⟩⟩⟩⟩⟩⟩⟩⟩⟩⟩⟩⟩⟩⟩⟩⟩⟩⟩⟩⟩⟩⟩⟩
set_option maxRecDepth 20000 in
theorem lxwsX11_done_r5 : ∀ w ∈ wsX11_done_r5, w ∈ lw_tbl := List.forall_mem_cons.mpr ⟨lx_394, List.forall_mem_cons.mpr ⟨lx_393, List.forall_mem_cons.mpr ⟨lx_392, List.forall_mem_cons.mpr ⟨lx_391, List.forall_mem_cons.mpr ⟨lx_390, List.forall_mem_cons.mpr ⟨lx_389, List.forall_mem_cons.mpr ⟨lx_388, List.forall_mem_cons.mpr ⟨lx_387, List.forall_mem_cons.mpr ⟨lx_386, List.forall_mem_cons.mpr ⟨lx_385, List.forall_mem_cons.mpr ⟨lx_384, List.forall_mem_cons.mpr ⟨lx_383, List.forall_mem_cons.mpr ⟨lx_382, List.forall_mem_cons.mpr ⟨lx_53, List.forall_mem_cons.mpr ⟨lx_52, List.forall_mem_cons.mpr ⟨lx_50, List.forall_mem_cons.mpr ⟨lx_381, List.forall_mem_cons.mpr ⟨lx_380, List.forall_mem_cons.mpr ⟨lx_379, List.forall_mem_cons.mpr ⟨lx_378, List.forall_mem_cons.mpr ⟨lx_377, List.forall_mem_cons.mpr ⟨lx_376, List.forall_mem_cons.mpr ⟨lx_375, List.forall_mem_cons.mpr ⟨lx_419, fun _ h => absurd h List.not_mem_nil⟩⟩⟩⟩⟩⟩⟩⟩⟩⟩⟩⟩⟩⟩⟩⟩⟩⟩⟩⟩⟩⟩⟩⟩
set_option maxRecDepth 20000 in
theorem lxwsX11_done_r6 : ∀ w ∈ wsX11_done_r6, w ∈ lw_tbl := List.forall_mem_cons.mpr ⟨lx_418, List.forall_mem_cons.mpr ⟨lx_417, List.forall_mem_cons.mpr ⟨lx_416, List.forall_mem_cons.mpr ⟨lx_415, List.forall_mem_cons.mpr ⟨lx_414, List.forall_mem_cons.mpr ⟨lx_413, List.forall_mem_cons.mpr ⟨lx_412, List.forall_mem_cons.mpr ⟨lx_411, List.forall_mem_cons.mpr ⟨lx_410, List.forall_mem_cons.mpr ⟨lx_409, List.forall_mem_cons.mpr ⟨lx_408, List.forall_mem_cons.mpr ⟨lx_407, List.forall_mem_cons.mpr ⟨lx_406, List.forall_mem_cons.mpr ⟨lx_405, List.forall_mem_cons.mpr ⟨lx_404, List.forall_mem_cons.mpr ⟨lx_403, List.forall_mem_cons.mpr ⟨lx_402, List.forall_mem_cons.mpr ⟨lx_401, List.forall_mem_cons.mpr ⟨lx_400, List.forall_mem_cons.mpr ⟨lx_399, List.forall_mem_cons.mpr ⟨lx_398, List.forall_mem_cons.mpr ⟨lx_397, List.forall_mem_cons.mpr ⟨lx_396, List.forall_mem_cons.mpr ⟨lx_420, fun _ h => absurd h List.not_mem_nil⟩⟩⟩⟩⟩⟩⟩⟩⟩⟩⟩⟩⟩⟩⟩⟩⟩⟩⟩⟩⟩⟩⟩⟩
theorem lx_541 : Cond.methodLink RX11 181 yX10_copy ∈ lw_tbl := lw_t3 21 rfl
set_option maxRecDepth 20000 in
theorem lxwsX11_done_r7 : ∀ w ∈ wsX11_done_r7, w ∈ lw_tbl := List.forall_mem_cons.mpr ⟨lx_541, fun _ h => absurd h List.not_mem_nil⟩
set_option maxRecDepth 20000 in
theorem lxwsX11_done : ∀ w ∈ wsX11_done, w ∈ lw_tbl := List.forall_mem_cons.mpr ⟨lx_539, List.forall_mem_append.mpr ⟨List.forall_mem_append.mpr ⟨List.forall_mem_append.mpr ⟨List.forall_mem_append.mpr ⟨List.forall_mem_append.mpr ⟨List.forall_mem_append.mpr ⟨lxwsX11_done_r1, List.forall_mem_append.mpr ⟨lxwsX11_done_r2, List.forall_mem_append.mpr ⟨lxwsX11_done_r3, List.forall_mem_append.mpr ⟨lxwsX11_done_r4, List.forall_mem_append.mpr ⟨lxwsX11_done_r5, List.forall_mem_append.mpr ⟨lxwsX11_done_r6, lxwsX11_done_r7⟩⟩⟩⟩⟩⟩, inX11⟩, inX9⟩, inX3⟩, inX10⟩, inX8⟩⟩
set_option maxRecDepth 20000 in
theorem gg_X11_done : GoodIn lw_tbl wsX11_done := goodIn_sub lxwsX11_done (by decide +kernel)
theorem lx_542 : Cond.selects RX11 yX11_done yX11_done ∈ lw_tbl := lw_t3 19 rfl
theorem lx_543 : Cond.instanceMethod yX11_done ∈ lw_tbl := lw_t3 18 rfl
theorem lx_544 : Cond.methodLink RL 59 yX11_done ∈ lw_tbl := lw_t3 17 rfl
set_option maxRecDepth 20000 in
theorem gL_X11_done : GoodIn lw_tbl (wsV RL 59 RX11 yX11_done wsX11_done) := goodIn_app (goodIn_sub (List.forall_mem_cons.mpr ⟨lx_544, List.forall_mem_cons.mpr ⟨lx_543, List.forall_mem_cons.mpr ⟨lx_542, List.forall_mem_cons.mpr ⟨lx_165, fun _ h => absurd h List.not_mem_nil⟩⟩⟩⟩) (by decide +kernel)) gg_X11_done
theorem lx_545 : Cond.code yX12_done cX12_done 2 (some .int) ∈ lw_tbl := lw_t5 47 rfl
set_option maxRecDepth 20000 in
theorem lxwsX12_done_r1 : ∀ w ∈ wsX12_done_r1, w ∈ lw_tbl := List.forall_mem_cons.mpr ⟨lx_245, List.forall_mem_cons.mpr ⟨lx_291, List.forall_mem_cons.mpr ⟨lx_434, List.forall_mem_cons.mpr ⟨lx_433, List.forall_mem_cons.mpr ⟨lx_432, List.forall_mem_cons.mpr ⟨lx_185, List.forall_mem_cons.mpr ⟨lx_431, List.forall_mem_cons.mpr ⟨lx_437, List.forall_mem_cons.mpr ⟨lx_430, List.forall_mem_cons.mpr ⟨lx_429, List.forall_mem_cons.mpr ⟨lx_428, List.forall_mem_cons.mpr ⟨lx_427, List.forall_mem_cons.mpr ⟨lx_132, List.forall_mem_cons.mpr ⟨lx_145, List.forall_mem_cons.mpr ⟨lx_144, List.forall_mem_cons.mpr ⟨lx_141, List.forall_mem_cons.mpr ⟨lx_147, List.forall_mem_cons.mpr ⟨lx_426, List.forall_mem_cons.mpr ⟨lx_425, List.forall_mem_cons.mpr ⟨lx_317, List.forall_mem_cons.mpr ⟨lx_316, List.forall_mem_cons.mpr ⟨lx_276, List.forall_mem_cons.mpr ⟨lx_137, List.forall_mem_cons.mpr ⟨lx_290, fun _ h => absurd h List.not_mem_nil⟩⟩⟩⟩⟩⟩⟩⟩⟩⟩⟩⟩⟩⟩⟩⟩⟩⟩⟩⟩⟩⟩⟩⟩
set_option maxRecDepth 20000 in
theorem lxwsX12_done_r2 : ∀ w ∈ wsX12_done_r2, w ∈ lw_tbl := List.forall_mem_cons.mpr ⟨lx_289, List.forall_mem_cons.mpr ⟨lx_288, List.forall_mem_cons.mpr ⟨lx_287, List.forall_mem_cons.mpr ⟨lx_286, List.forall_mem_cons.mpr ⟨lx_285, List.forall_mem_cons.mpr ⟨lx_284, List.forall_mem_cons.mpr ⟨lx_283, List.forall_mem_cons.mpr ⟨lx_135, List.forall_mem_cons.mpr ⟨lx_134, List.forall_mem_cons.mpr ⟨lx_133, List.forall_mem_cons.mpr ⟨lx_282, List.forall_mem_cons.mpr ⟨lx_281, List.forall_mem_cons.mpr ⟨lx_280, List.forall_mem_cons.mpr ⟨lx_279, List.forall_mem_cons.mpr ⟨lx_278, List.forall_mem_cons.mpr ⟨lx_182, List.forall_mem_cons.mpr ⟨lx_181, List.forall_mem_cons.mpr ⟨lx_180, List.forall_mem_cons.mpr ⟨lx_277, List.forall_mem_cons.mpr ⟨lx_314, List.forall_mem_cons.mpr ⟨lx_313, List.forall_mem_cons.mpr ⟨lx_312, List.forall_mem_cons.mpr ⟨lx_136, List.forall_mem_cons.mpr ⟨lx_311, fun _ h => absurd h List.not_mem_nil⟩⟩⟩⟩⟩⟩⟩⟩⟩⟩⟩⟩⟩⟩⟩⟩⟩⟩⟩⟩⟩⟩⟩⟩
set_option maxRecDepth 20000 in
theorem lxwsX12_done_r3 : ∀ w ∈ wsX12_done_r3, w ∈ lw_tbl := List.forall_mem_cons.mpr ⟨lx_310, List.forall_mem_cons.mpr ⟨lx_309, List.forall_mem_cons.mpr ⟨lx_308, List.forall_mem_cons.mpr ⟨lx_307, List.forall_mem_cons.mpr ⟨lx_306, List.forall_mem_cons.mpr ⟨lx_305, List.forall_mem_cons.mpr ⟨lx_304, List.forall_mem_cons.mpr ⟨lx_303, List.forall_mem_cons.mpr ⟨lx_302, List.forall_mem_cons.mpr ⟨lx_301, List.forall_mem_cons.mpr ⟨lx_300, List.forall_mem_cons.mpr ⟨lx_299, List.forall_mem_cons.mpr ⟨lx_298, List.forall_mem_cons.mpr ⟨lx_297, List.forall_mem_cons.mpr ⟨lx_296, List.forall_mem_cons.mpr ⟨lx_295, List.forall_mem_cons.mpr ⟨lx_294, List.forall_mem_cons.mpr ⟨lx_293, List.forall_mem_cons.mpr ⟨lx_292, List.forall_mem_cons.mpr ⟨lx_315, List.forall_mem_cons.mpr ⟨lx_439, List.forall_mem_cons.mpr ⟨lx_463, List.forall_mem_cons.mpr ⟨lx_462, List.forall_mem_cons.mpr ⟨lx_461, fun _ h => absurd h List.not_mem_nil⟩⟩⟩⟩⟩⟩⟩⟩⟩⟩⟩⟩⟩⟩⟩⟩⟩⟩⟩⟩⟩⟩⟩⟩
set_option maxRecDepth 20000 in
theorem lxwsX12_done_r4 : ∀ w ∈ wsX12_done_r4, w ∈ lw_tbl := List.forall_mem_cons.mpr ⟨lx_436, List.forall_mem_cons.mpr ⟨lx_460, List.forall_mem_cons.mpr ⟨lx_459, List.forall_mem_cons.mpr ⟨lx_435, List.forall_mem_cons.mpr ⟨lx_458, List.forall_mem_cons.mpr ⟨lx_457, List.forall_mem_cons.mpr ⟨lx_456, List.forall_mem_cons.mpr ⟨lx_455, List.forall_mem_cons.mpr ⟨lx_454, List.forall_mem_cons.mpr ⟨lx_453, List.forall_mem_cons.mpr ⟨lx_452, List.forall_mem_cons.mpr ⟨lx_451, List.forall_mem_cons.mpr ⟨lx_450, List.forall_mem_cons.mpr ⟨lx_449, List.forall_mem_cons.mpr ⟨lx_448, List.forall_mem_cons.mpr ⟨lx_447, List.forall_mem_cons.mpr ⟨lx_446, List.forall_mem_cons.mpr ⟨lx_445, List.forall_mem_cons.mpr ⟨lx_444, List.forall_mem_cons.mpr ⟨lx_443, List.forall_mem_cons.mpr ⟨lx_442, List.forall_mem_cons.mpr ⟨lx_441, List.forall_mem_cons.mpr ⟨lx_440, List.forall_mem_cons.mpr ⟨lx_485, fun _ h => absurd h List.not_mem_nil⟩⟩⟩⟩⟩⟩⟩⟩⟩⟩⟩⟩⟩⟩⟩⟩⟩⟩⟩⟩⟩⟩⟩⟩
set_option maxRecDepth 20000 in
theorem lxwsX12_done_r5 : ∀ w ∈ wsX12_done_r5, w ∈ lw_tbl := List.forall_mem_cons.mpr ⟨lx_484, List.forall_mem_cons.mpr ⟨lx_483, List.forall_mem_cons.mpr ⟨lx_482, List.forall_mem_cons.mpr ⟨lx_481, List.forall_mem_cons.mpr ⟨lx_143, List.forall_mem_cons.mpr ⟨lx_480, List.forall_mem_cons.mpr ⟨lx_479, List.forall_mem_cons.mpr ⟨lx_478, List.forall_mem_cons.mpr ⟨lx_477, List.forall_mem_cons.mpr ⟨lx_476, List.forall_mem_cons.mpr ⟨lx_475, List.forall_mem_cons.mpr ⟨lx_474, List.forall_mem_cons.mpr ⟨lx_473, List.forall_mem_cons.mpr ⟨lx_472, List.forall_mem_cons.mpr ⟨lx_471, List.forall_mem_cons.mpr ⟨lx_470, List.forall_mem_cons.mpr ⟨lx_469, List.forall_mem_cons.mpr ⟨lx_140, List.forall_mem_cons.mpr ⟨lx_468, List.forall_mem_cons.mpr ⟨lx_467, List.forall_mem_cons.mpr ⟨lx_466, List.forall_mem_cons.mpr ⟨lx_465, List.forall_mem_cons.mpr ⟨lx_464, List.forall_mem_cons.mpr ⟨lx_496, fun _ h => absurd h List.not_mem_nil⟩⟩⟩⟩⟩⟩⟩⟩⟩⟩⟩⟩⟩⟩⟩⟩⟩⟩⟩⟩⟩⟩⟩⟩
set_option maxRecDepth 20000 in
theorem lxwsX12_done_r6 : ∀ w ∈ wsX12_done_r6, w ∈ lw_tbl := List.forall_mem_cons.mpr ⟨lx_495, List.forall_mem_cons.mpr ⟨lx_494, List.forall_mem_cons.mpr ⟨lx_493, List.forall_mem_cons.mpr ⟨lx_492, List.forall_mem_cons.mpr ⟨lx_491, List.forall_mem_cons.mpr ⟨lx_490, List.forall_mem_cons.mpr ⟨lx_489, List.forall_mem_cons.mpr ⟨lx_488, List.forall_mem_cons.mpr ⟨lx_487, List.forall_mem_cons.mpr ⟨lx_486, fun _ h => absurd h List.not_mem_nil⟩⟩⟩⟩⟩⟩⟩⟩⟩⟩
set_option maxRecDepth 20000 in
theorem lxwsX12_done : ∀ w ∈ wsX12_done, w ∈ lw_tbl := List.forall_mem_cons.mpr ⟨lx_545, List.forall_mem_append.mpr ⟨List.forall_mem_append.mpr ⟨lxwsX12_done_r1, List.forall_mem_append.mpr ⟨lxwsX12_done_r2, List.forall_mem_append.mpr ⟨lxwsX12_done_r3, List.forall_mem_append.mpr ⟨lxwsX12_done_r4, List.forall_mem_append.mpr ⟨lxwsX12_done_r5, lxwsX12_done_r6⟩⟩⟩⟩⟩, inX12⟩⟩
set_option maxRecDepth 20000 in
theorem gg_X12_done : GoodIn lw_tbl wsX12_done := goodIn_sub lxwsX12_done (by decide +kernel)
theorem lx_546 : Cond.selects RX12 yX12_done yX12_done ∈ lw_tbl := lw_t5 46 rfl
theorem lx_547 : Cond.instanceMethod yX12_done ∈ lw_tbl := lw_t5 45 rfl
theorem lx_548 : Cond.methodLink RL 62 yX12_done ∈ lw_tbl := lw_t5 44 rfl
set_option maxRecDepth 20000 in
theorem gL_X12_done : GoodIn lw_tbl (wsV RL 62 RX12 yX12_done wsX12_done) := goodIn_app (goodIn_sub (List.forall_mem_cons.mpr ⟨lx_548, List.forall_mem_cons.mpr ⟨lx_547, List.forall_mem_cons.mpr ⟨lx_546, List.forall_mem_cons.mpr ⟨lx_185, fun _ h => absurd h List.not_mem_nil⟩⟩⟩⟩) (by decide +kernel)) gg_X12_done
theorem lx_549 : Cond.code yX11_sack cX11_sack 4 (some .int) ∈ lw_tbl := lw_t3 25 rfl
theorem lx_550 : Cond.methodLink RX6 18 yX5_fill ∈ lw_tbl := lw_t3 30 rfl
theorem lx_551 : Cond.fieldLink RX6 34 "TwiceStolen$World" "weight" "[I" ∈ lw_tbl := lw_t1 63 rfl
theorem lx_552 : Cond.fieldLink RX6 33 "TwiceStolen$World" "worth" "[I" ∈ lw_tbl := lw_t1 60 rfl
theorem lx_553 : Cond.fieldLink RX6 24 "TwiceStolen$World" "holder" "[I" ∈ lw_tbl := lw_t1 55 rfl
theorem lx_554 : Cond.code yX6_fill cX6_fill 5 none ∈ lw_tbl := lw_t3 29 rfl
theorem lx_555 : Cond.selects RX6 yX6_fill yX6_fill ∈ lw_tbl := lw_t3 28 rfl
theorem lx_556 : Cond.instanceMethod yX6_fill ∈ lw_tbl := lw_t3 27 rfl
theorem lx_557 : Cond.methodLink RX11 188 yX6_fill ∈ lw_tbl := lw_t3 26 rfl
theorem lx_558 : Cond.fieldLink RX11 193 "TwiceStolen$Sack" "things" "[I" ∈ lw_tbl := lw_t1 159 rfl
theorem lx_559 : Cond.fieldLink RX11 192 "TwiceStolen$Sack" "worth" "[I" ∈ lw_tbl := lw_t1 157 rfl
set_option maxRecDepth 20000 in
theorem lxwsX11_sack_r1 : ∀ w ∈ wsX11_sack_r1, w ∈ lw_tbl := List.forall_mem_cons.mpr ⟨lx_5, List.forall_mem_cons.mpr ⟨lx_18, List.forall_mem_cons.mpr ⟨lx_559, List.forall_mem_cons.mpr ⟨lx_558, List.forall_mem_cons.mpr ⟨lx_160, List.forall_mem_cons.mpr ⟨lx_159, List.forall_mem_cons.mpr ⟨lx_165, List.forall_mem_cons.mpr ⟨lx_158, List.forall_mem_cons.mpr ⟨lx_163, List.forall_mem_cons.mpr ⟨lx_162, List.forall_mem_cons.mpr ⟨lx_51, List.forall_mem_cons.mpr ⟨lx_161, List.forall_mem_cons.mpr ⟨lx_557, List.forall_mem_cons.mpr ⟨lx_556, List.forall_mem_cons.mpr ⟨lx_555, List.forall_mem_cons.mpr ⟨lx_6, List.forall_mem_cons.mpr ⟨lx_554, List.forall_mem_cons.mpr ⟨lx_77, List.forall_mem_cons.mpr ⟨lx_76, List.forall_mem_cons.mpr ⟨lx_553, List.forall_mem_cons.mpr ⟨lx_552, List.forall_mem_cons.mpr ⟨lx_551, List.forall_mem_cons.mpr ⟨lx_550, List.forall_mem_cons.mpr ⟨lx_96, fun _ h => absurd h List.not_mem_nil⟩⟩⟩⟩⟩⟩⟩⟩⟩⟩⟩⟩⟩⟩⟩⟩⟩⟩⟩⟩⟩⟩⟩⟩
theorem lx_560 : Cond.methodLink RX6 41 yX5_put ∈ lw_tbl := lw_t3 36 rfl
theorem lx_561 : Cond.code yX6_offer cX6_offer 7 none ∈ lw_tbl := lw_t3 35 rfl
theorem lx_562 : Cond.selects RX6 yX6_offer yX6_offer ∈ lw_tbl := lw_s1 9 rfl rfl
theorem lx_563 : Cond.instanceMethod yX6_offer ∈ lw_tbl := lw_t3 34 rfl
theorem lx_564 : Cond.methodLink RX6 37 yX6_offer ∈ lw_tbl := lw_t3 32 rfl
theorem lx_565 : Cond.methodLink RX6 29 yX5_at ∈ lw_tbl := lw_t3 31 rfl
set_option maxRecDepth 20000 in
theorem lxwsX11_sack_r2 : ∀ w ∈ wsX11_sack_r2, w ∈ lw_tbl := List.forall_mem_cons.mpr ⟨lx_95, List.forall_mem_cons.mpr ⟨lx_565, List.forall_mem_cons.mpr ⟨lx_156, List.forall_mem_cons.mpr ⟨lx_155, List.forall_mem_cons.mpr ⟨lx_564, List.forall_mem_cons.mpr ⟨lx_563, List.forall_mem_cons.mpr ⟨lx_562, List.forall_mem_cons.mpr ⟨lx_561, List.forall_mem_cons.mpr ⟨lx_560, List.forall_mem_cons.mpr ⟨lx_52, List.forall_mem_cons.mpr ⟨lx_50, List.forall_mem_cons.mpr ⟨lx_157, fun _ h => absurd h List.not_mem_nil⟩⟩⟩⟩⟩⟩⟩⟩⟩⟩⟩⟩
set_option maxRecDepth 20000 in
theorem lxwsX11_sack : ∀ w ∈ wsX11_sack, w ∈ lw_tbl := List.forall_mem_cons.mpr ⟨lx_549, List.forall_mem_append.mpr ⟨List.forall_mem_append.mpr ⟨List.forall_mem_append.mpr ⟨List.forall_mem_append.mpr ⟨lxwsX11_sack_r1, lxwsX11_sack_r2⟩, inX11⟩, inX6⟩, inX10⟩⟩
set_option maxRecDepth 20000 in
theorem gg_X11_sack : GoodIn lw_tbl wsX11_sack := goodIn_sub lxwsX11_sack (by decide +kernel)
theorem lx_566 : Cond.selects RX11 yX11_sack yX11_sack ∈ lw_tbl := lw_t3 24 rfl
theorem lx_567 : Cond.instanceMethod yX11_sack ∈ lw_tbl := lw_t3 23 rfl
theorem lx_568 : Cond.methodLink RL 63 yX11_sack ∈ lw_tbl := lw_t3 22 rfl
set_option maxRecDepth 20000 in
theorem gL_X11_sack : GoodIn lw_tbl (wsV RL 63 RX11 yX11_sack wsX11_sack) := goodIn_app (goodIn_sub (List.forall_mem_cons.mpr ⟨lx_568, List.forall_mem_cons.mpr ⟨lx_567, List.forall_mem_cons.mpr ⟨lx_566, List.forall_mem_cons.mpr ⟨lx_165, fun _ h => absurd h List.not_mem_nil⟩⟩⟩⟩) (by decide +kernel)) gg_X11_sack
theorem lx_569 : Cond.code yX12_sack cX12_sack 10 (some .int) ∈ lw_tbl := lw_t5 51 rfl
theorem lx_570 : Cond.instanceMethod yX12_worthOf ∈ lw_tbl := lw_t5 62 rfl
theorem lx_571 : Cond.methodLink RX12 254 yX12_worthOf ∈ lw_tbl := lw_t5 60 rfl
theorem lx_572 : Cond.code yX12_weightOf cX12_weightOf 4 (some .int) ∈ lw_tbl := lw_t5 59 rfl
theorem lx_573 : Cond.selects RX12 yX12_weightOf yX12_weightOf ∈ lw_tbl := lw_s3 14 rfl rfl
theorem lx_574 : Cond.instanceMethod yX12_weightOf ∈ lw_tbl := lw_t5 58 rfl
theorem lx_575 : Cond.methodLink RX12 251 yX12_weightOf ∈ lw_tbl := lw_t5 56 rfl
theorem lx_576 : Cond.code yX12_notWith cX12_notWith 4 (some .int) ∈ lw_tbl := lw_t5 55 rfl
theorem lx_577 : Cond.selects RX12 yX12_notWith yX12_notWith ∈ lw_tbl := lw_s3 13 rfl rfl
theorem lx_578 : Cond.instanceMethod yX12_notWith ∈ lw_tbl := lw_t5 54 rfl
theorem lx_579 : Cond.methodLink RX12 248 yX12_notWith ∈ lw_tbl := lw_t5 52 rfl
set_option maxRecDepth 20000 in
theorem lxwsX12_sack_r1 : ∀ w ∈ wsX12_sack_r1, w ∈ lw_tbl := List.forall_mem_cons.mpr ⟨lx_188, List.forall_mem_cons.mpr ⟨lx_179, List.forall_mem_cons.mpr ⟨lx_178, List.forall_mem_cons.mpr ⟨lx_185, List.forall_mem_cons.mpr ⟨lx_177, List.forall_mem_cons.mpr ⟨lx_176, List.forall_mem_cons.mpr ⟨lx_182, List.forall_mem_cons.mpr ⟨lx_181, List.forall_mem_cons.mpr ⟨lx_180, List.forall_mem_cons.mpr ⟨lx_579, List.forall_mem_cons.mpr ⟨lx_578, List.forall_mem_cons.mpr ⟨lx_577, List.forall_mem_cons.mpr ⟨lx_576, List.forall_mem_cons.mpr ⟨lx_145, List.forall_mem_cons.mpr ⟨lx_575, List.forall_mem_cons.mpr ⟨lx_574, List.forall_mem_cons.mpr ⟨lx_573, List.forall_mem_cons.mpr ⟨lx_572, List.forall_mem_cons.mpr ⟨lx_142, List.forall_mem_cons.mpr ⟨lx_449, List.forall_mem_cons.mpr ⟨lx_448, List.forall_mem_cons.mpr ⟨lx_447, List.forall_mem_cons.mpr ⟨lx_571, List.forall_mem_cons.mpr ⟨lx_570, fun _ h => absurd h List.not_mem_nil⟩⟩⟩⟩⟩⟩⟩⟩⟩⟩⟩⟩⟩⟩⟩⟩⟩⟩⟩⟩⟩⟩⟩⟩
theorem lx_580 : Cond.code yX12_worthOf cX12_worthOf 4 (some .int) ∈ lw_tbl := lw_t5 63 rfl
theorem lx_581 : Cond.selects RX12 yX12_worthOf yX12_worthOf ∈ lw_tbl := lw_s3 15 rfl rfl
set_option maxRecDepth 20000 in
theorem lxwsX12_sack_r2 : ∀ w ∈ wsX12_sack_r2, w ∈ lw_tbl := List.forall_mem_cons.mpr ⟨lx_581, List.forall_mem_cons.mpr ⟨lx_580, List.forall_mem_cons.mpr ⟨lx_143, fun _ h => absurd h List.not_mem_nil⟩⟩⟩
set_option maxRecDepth 20000 in
theorem lxwsX12_sack : ∀ w ∈ wsX12_sack, w ∈ lw_tbl := List.forall_mem_cons.mpr ⟨lx_569, List.forall_mem_append.mpr ⟨List.forall_mem_append.mpr ⟨lxwsX12_sack_r1, lxwsX12_sack_r2⟩, inX12⟩⟩
set_option maxRecDepth 20000 in
theorem gg_X12_sack : GoodIn lw_tbl wsX12_sack := goodIn_sub lxwsX12_sack (by decide +kernel)
theorem lx_582 : Cond.selects RX12 yX12_sack yX12_sack ∈ lw_tbl := lw_t5 50 rfl
theorem lx_583 : Cond.instanceMethod yX12_sack ∈ lw_tbl := lw_t5 49 rfl
theorem lx_584 : Cond.methodLink RL 66 yX12_sack ∈ lw_tbl := lw_t5 48 rfl
set_option maxRecDepth 20000 in
theorem gL_X12_sack : GoodIn lw_tbl (wsV RL 66 RX12 yX12_sack wsX12_sack) := goodIn_app (goodIn_sub (List.forall_mem_cons.mpr ⟨lx_584, List.forall_mem_cons.mpr ⟨lx_583, List.forall_mem_cons.mpr ⟨lx_582, List.forall_mem_cons.mpr ⟨lx_185, fun _ h => absurd h List.not_mem_nil⟩⟩⟩⟩) (by decide +kernel)) gg_X12_sack
theorem lx_585 : Cond.code yX11_careers cX11_careers 3 (some .int) ∈ lw_tbl := lw_t3 40 rfl
theorem lx_586 : Cond.methodLink RX11 296 Lib.Math.max.name ∈ lw_tbl := lw_t3 45 rfl
theorem lx_587 : Cond.code yX11_fewestNights cX11_fewestNights 7 (some .int) ∈ lw_tbl := lw_t3 44 rfl
theorem lx_588 : Cond.selects RX11 yX11_fewestNights yX11_fewestNights ∈ lw_tbl := lw_s1 10 rfl rfl
theorem lx_589 : Cond.instanceMethod yX11_fewestNights ∈ lw_tbl := lw_t3 43 rfl
theorem lx_590 : Cond.methodLink RX11 196 yX11_fewestNights ∈ lw_tbl := lw_t3 41 rfl
set_option maxRecDepth 20000 in
theorem lxwsX11_careers : ∀ w ∈ wsX11_careers, w ∈ lw_tbl := List.forall_mem_cons.mpr ⟨lx_585, List.forall_mem_append.mpr ⟨List.forall_mem_append.mpr ⟨List.forall_mem_cons.mpr ⟨lx_163, List.forall_mem_cons.mpr ⟨lx_162, List.forall_mem_cons.mpr ⟨lx_51, List.forall_mem_cons.mpr ⟨lx_161, List.forall_mem_cons.mpr ⟨lx_590, List.forall_mem_cons.mpr ⟨lx_589, List.forall_mem_cons.mpr ⟨lx_588, List.forall_mem_cons.mpr ⟨lx_165, List.forall_mem_cons.mpr ⟨lx_587, List.forall_mem_cons.mpr ⟨lx_18, List.forall_mem_cons.mpr ⟨lx_170, List.forall_mem_cons.mpr ⟨lx_586, List.forall_mem_cons.mpr ⟨lx_323, List.forall_mem_cons.mpr ⟨lx_322, List.forall_mem_cons.mpr ⟨lx_321, List.forall_mem_cons.mpr ⟨lx_157, List.forall_mem_cons.mpr ⟨lx_156, List.forall_mem_cons.mpr ⟨lx_155, fun _ h => absurd h List.not_mem_nil⟩⟩⟩⟩⟩⟩⟩⟩⟩⟩⟩⟩⟩⟩⟩⟩⟩⟩, inX11⟩, inX10⟩⟩
set_option maxRecDepth 20000 in
theorem gg_X11_careers : GoodIn lw_tbl wsX11_careers := goodIn_sub lxwsX11_careers (by decide +kernel)
theorem lx_591 : Cond.selects RX11 yX11_careers yX11_careers ∈ lw_tbl := lw_t3 39 rfl
theorem lx_592 : Cond.instanceMethod yX11_careers ∈ lw_tbl := lw_t3 38 rfl
theorem lx_593 : Cond.methodLink RL 67 yX11_careers ∈ lw_tbl := lw_t3 37 rfl
set_option maxRecDepth 20000 in
theorem gL_X11_careers : GoodIn lw_tbl (wsV RL 67 RX11 yX11_careers wsX11_careers) := goodIn_app (goodIn_sub (List.forall_mem_cons.mpr ⟨lx_593, List.forall_mem_cons.mpr ⟨lx_592, List.forall_mem_cons.mpr ⟨lx_591, List.forall_mem_cons.mpr ⟨lx_165, fun _ h => absurd h List.not_mem_nil⟩⟩⟩⟩) (by decide +kernel)) gg_X11_careers
theorem lx_594 : Cond.code yX12_careers cX12_careers 7 (some .int) ∈ lw_tbl := lw_t5 67 rfl
theorem lx_595 : Cond.constantLong RX12 259 (4095) ∈ lw_tbl := lw_t5 69 rfl
theorem lx_596 : Cond.constantLong RX12 257 (8) ∈ lw_tbl := lw_t5 68 rfl
set_option maxRecDepth 20000 in
theorem lxwsX12_careers : ∀ w ∈ wsX12_careers, w ∈ lw_tbl := List.forall_mem_cons.mpr ⟨lx_594, List.forall_mem_append.mpr ⟨List.forall_mem_cons.mpr ⟨lx_596, List.forall_mem_cons.mpr ⟨lx_595, List.forall_mem_cons.mpr ⟨lx_144, List.forall_mem_cons.mpr ⟨lx_182, List.forall_mem_cons.mpr ⟨lx_181, List.forall_mem_cons.mpr ⟨lx_185, List.forall_mem_cons.mpr ⟨lx_180, List.forall_mem_cons.mpr ⟨lx_449, List.forall_mem_cons.mpr ⟨lx_448, List.forall_mem_cons.mpr ⟨lx_447, fun _ h => absurd h List.not_mem_nil⟩⟩⟩⟩⟩⟩⟩⟩⟩⟩, inX12⟩⟩
set_option maxRecDepth 20000 in
theorem gg_X12_careers : GoodIn lw_tbl wsX12_careers := goodIn_sub lxwsX12_careers (by decide +kernel)
theorem lx_597 : Cond.selects RX12 yX12_careers yX12_careers ∈ lw_tbl := lw_t5 66 rfl
theorem lx_598 : Cond.instanceMethod yX12_careers ∈ lw_tbl := lw_t5 65 rfl
theorem lx_599 : Cond.methodLink RL 70 yX12_careers ∈ lw_tbl := lw_t5 64 rfl
set_option maxRecDepth 20000 in
theorem gL_X12_careers : GoodIn lw_tbl (wsV RL 70 RX12 yX12_careers wsX12_careers) := goodIn_app (goodIn_sub (List.forall_mem_cons.mpr ⟨lx_599, List.forall_mem_cons.mpr ⟨lx_598, List.forall_mem_cons.mpr ⟨lx_597, List.forall_mem_cons.mpr ⟨lx_185, fun _ h => absurd h List.not_mem_nil⟩⟩⟩⟩) (by decide +kernel)) gg_X12_careers
theorem lx_600 : Cond.code yX11_ring cX11_ring 5 (some .int) ∈ lw_tbl := lw_t3 49 rfl
theorem lx_601 : Cond.methodLink RX5 13 yX5_put ∈ lw_tbl := lw_t3 58 rfl
theorem lx_602 : Cond.code yX5_readDigits cX5_readDigits 5 (some .boolean) ∈ lw_tbl := lw_t3 57 rfl
theorem lx_603 : Cond.static yX5_readDigits ∈ lw_tbl := lw_t3 56 rfl
theorem lx_604 : Cond.methodLink RX4 21 yX5_readDigits ∈ lw_tbl := lw_t3 55 rfl
theorem lx_605 : Cond.code yX4_read cX4_read 4 (some .boolean) ∈ lw_tbl := lw_t3 54 rfl
theorem lx_606 : Cond.selects RX4 yX4_read yX4_read ∈ lw_tbl := lw_t3 53 rfl
theorem lx_607 : Cond.instanceMethod yX4_read ∈ lw_tbl := lw_t3 52 rfl
theorem lx_608 : Cond.methodLink RX11 201 yX4_read ∈ lw_tbl := lw_t3 51 rfl
theorem lx_609 : Cond.fieldLink RX11 213 "TwiceStolen$Ring" "round" "I" ∈ lw_tbl := lw_t1 178 rfl
theorem lx_610 : Cond.fieldLink RX11 210 "TwiceStolen$Ring" "nights" "I" ∈ lw_tbl := lw_t1 175 rfl
theorem lx_611 : Cond.constant RX11 200 (999999999) ∈ lw_tbl := lw_t3 50 rfl
set_option maxRecDepth 20000 in
theorem lxwsX11_ring_r1 : ∀ w ∈ wsX11_ring_r1, w ∈ lw_tbl := List.forall_mem_cons.mpr ⟨lx_611, List.forall_mem_cons.mpr ⟨lx_1, List.forall_mem_cons.mpr ⟨lx_610, List.forall_mem_cons.mpr ⟨lx_609, List.forall_mem_cons.mpr ⟨lx_160, List.forall_mem_cons.mpr ⟨lx_159, List.forall_mem_cons.mpr ⟨lx_165, List.forall_mem_cons.mpr ⟨lx_158, List.forall_mem_cons.mpr ⟨lx_163, List.forall_mem_cons.mpr ⟨lx_162, List.forall_mem_cons.mpr ⟨lx_51, List.forall_mem_cons.mpr ⟨lx_161, List.forall_mem_cons.mpr ⟨lx_608, List.forall_mem_cons.mpr ⟨lx_607, List.forall_mem_cons.mpr ⟨lx_606, List.forall_mem_cons.mpr ⟨lx_2, List.forall_mem_cons.mpr ⟨lx_605, List.forall_mem_cons.mpr ⟨lx_119, List.forall_mem_cons.mpr ⟨lx_604, List.forall_mem_cons.mpr ⟨lx_603, List.forall_mem_cons.mpr ⟨lx_602, List.forall_mem_cons.mpr ⟨lx_601, List.forall_mem_cons.mpr ⟨lx_52, List.forall_mem_cons.mpr ⟨lx_50, fun _ h => absurd h List.not_mem_nil⟩⟩⟩⟩⟩⟩⟩⟩⟩⟩⟩⟩⟩⟩⟩⟩⟩⟩⟩⟩⟩⟩⟩⟩
theorem lx_612 : Cond.code yX4_holderBehind cX4_holderBehind 2 (some .int) ∈ lw_tbl := lw_t3 70 rfl
theorem lx_613 : Cond.selects RX4 yX4_holderBehind yX4_holderBehind ∈ lw_tbl := lw_t3 69 rfl
theorem lx_614 : Cond.instanceMethod yX4_holderBehind ∈ lw_tbl := lw_t3 68 rfl
theorem lx_615 : Cond.methodLink RX11 207 yX4_holderBehind ∈ lw_tbl := lw_t3 67 rfl
theorem lx_616 : Cond.methodLink RX4 43 yX5_put ∈ lw_tbl := lw_t3 66 rfl
theorem lx_617 : Cond.methodLink RX4 35 yX5_fill ∈ lw_tbl := lw_t3 65 rfl
theorem lx_618 : Cond.fieldLink RX4 50 "TwiceStolen$Ring" "round" "I" ∈ lw_tbl := lw_t1 177 rfl
theorem lx_619 : Cond.fieldLink RX4 47 "TwiceStolen$Ring" "lead" "I" ∈ lw_tbl := lw_t1 176 rfl
theorem lx_620 : Cond.fieldLink RX4 39 "TwiceStolen$Ring" "nights" "I" ∈ lw_tbl := lw_t1 174 rfl
theorem lx_621 : Cond.code yX4_follow cX4_follow 3 none ∈ lw_tbl := lw_t3 64 rfl
theorem lx_622 : Cond.selects RX4 yX4_follow yX4_follow ∈ lw_tbl := lw_t3 63 rfl
theorem lx_623 : Cond.instanceMethod yX4_follow ∈ lw_tbl := lw_t3 62 rfl
theorem lx_624 : Cond.methodLink RX11 204 yX4_follow ∈ lw_tbl := lw_t3 61 rfl
theorem lx_625 : Cond.methodLink RX4 31 yX5_within ∈ lw_tbl := lw_t3 60 rfl
theorem lx_626 : Cond.methodLink RX4 27 yX5_at ∈ lw_tbl := lw_t3 59 rfl
set_option maxRecDepth 20000 in
theorem lxwsX11_ring_r2 : ∀ w ∈ wsX11_ring_r2, w ∈ lw_tbl := List.forall_mem_cons.mpr ⟨lx_626, List.forall_mem_cons.mpr ⟨lx_156, List.forall_mem_cons.mpr ⟨lx_155, List.forall_mem_cons.mpr ⟨lx_625, List.forall_mem_cons.mpr ⟨lx_624, List.forall_mem_cons.mpr ⟨lx_623, List.forall_mem_cons.mpr ⟨lx_622, List.forall_mem_cons.mpr ⟨lx_621, List.forall_mem_cons.mpr ⟨lx_117, List.forall_mem_cons.mpr ⟨lx_620, List.forall_mem_cons.mpr ⟨lx_118, List.forall_mem_cons.mpr ⟨lx_619, List.forall_mem_cons.mpr ⟨lx_618, List.forall_mem_cons.mpr ⟨lx_617, List.forall_mem_cons.mpr ⟨lx_96, List.forall_mem_cons.mpr ⟨lx_95, List.forall_mem_cons.mpr ⟨lx_616, List.forall_mem_cons.mpr ⟨lx_615, List.forall_mem_cons.mpr ⟨lx_614, List.forall_mem_cons.mpr ⟨lx_613, List.forall_mem_cons.mpr ⟨lx_612, fun _ h => absurd h List.not_mem_nil⟩⟩⟩⟩⟩⟩⟩⟩⟩⟩⟩⟩⟩⟩⟩⟩⟩⟩⟩⟩⟩
set_option maxRecDepth 20000 in
theorem lxwsX11_ring : ∀ w ∈ wsX11_ring, w ∈ lw_tbl := List.forall_mem_cons.mpr ⟨lx_600, List.forall_mem_append.mpr ⟨List.forall_mem_append.mpr ⟨List.forall_mem_append.mpr ⟨lxwsX11_ring_r1, lxwsX11_ring_r2⟩, inX11⟩, inX4⟩⟩
set_option maxRecDepth 20000 in
theorem gg_X11_ring : GoodIn lw_tbl wsX11_ring := goodIn_sub lxwsX11_ring (by decide +kernel)
theorem lx_627 : Cond.selects RX11 yX11_ring yX11_ring ∈ lw_tbl := lw_t3 48 rfl
theorem lx_628 : Cond.instanceMethod yX11_ring ∈ lw_tbl := lw_t3 47 rfl
theorem lx_629 : Cond.methodLink RL 71 yX11_ring ∈ lw_tbl := lw_t3 46 rfl
set_option maxRecDepth 20000 in
theorem gL_X11_ring : GoodIn lw_tbl (wsV RL 71 RX11 yX11_ring wsX11_ring) := goodIn_app (goodIn_sub (List.forall_mem_cons.mpr ⟨lx_629, List.forall_mem_cons.mpr ⟨lx_628, List.forall_mem_cons.mpr ⟨lx_627, List.forall_mem_cons.mpr ⟨lx_165, fun _ h => absurd h List.not_mem_nil⟩⟩⟩⟩) (by decide +kernel)) gg_X11_ring
theorem lx_630 : Cond.code yX12_ring cX12_ring 9 (some .int) ∈ lw_tbl := lw_t5 73 rfl
theorem lx_631 : Cond.code yX12_walk cX12_walk 5 (some .int) ∈ lw_tbl := lw_t5 86 rfl
theorem lx_632 : Cond.selects RX12 yX12_walk yX12_walk ∈ lw_tbl := lw_s4 2 rfl rfl
theorem lx_633 : Cond.instanceMethod yX12_walk ∈ lw_tbl := lw_t5 85 rfl
theorem lx_634 : Cond.methodLink RX12 269 yX12_walk ∈ lw_tbl := lw_t5 83 rfl
theorem lx_635 : Cond.code yX12_goRing cX12_goRing 4 (some .int) ∈ lw_tbl := lw_t5 82 rfl
theorem lx_636 : Cond.selects RX12 yX12_goRing yX12_goRing ∈ lw_tbl := lw_s4 1 rfl rfl
theorem lx_637 : Cond.instanceMethod yX12_goRing ∈ lw_tbl := lw_t5 81 rfl
theorem lx_638 : Cond.methodLink RX12 266 yX12_goRing ∈ lw_tbl := lw_t5 79 rfl
theorem lx_639 : Cond.code yX12_readRing cX12_readRing 5 (some .boolean) ∈ lw_tbl := lw_t5 77 rfl
theorem lx_640 : Cond.selects RX12 yX12_readRing yX12_readRing ∈ lw_tbl := lw_s4 0 rfl rfl
theorem lx_641 : Cond.instanceMethod yX12_readRing ∈ lw_tbl := lw_t5 76 rfl
theorem lx_642 : Cond.methodLink RX12 261 yX12_readRing ∈ lw_tbl := lw_t5 74 rfl
theorem lx_643 : Cond.constantLong RX12 264 (999999999) ∈ lw_tbl := lw_t5 78 rfl
set_option maxRecDepth 20000 in
theorem lxwsX12_ring : ∀ w ∈ wsX12_ring, w ∈ lw_tbl := List.forall_mem_cons.mpr ⟨lx_630, List.forall_mem_append.mpr ⟨List.forall_mem_cons.mpr ⟨lx_643, List.forall_mem_cons.mpr ⟨lx_438, List.forall_mem_cons.mpr ⟨lx_130, List.forall_mem_cons.mpr ⟨lx_179, List.forall_mem_cons.mpr ⟨lx_178, List.forall_mem_cons.mpr ⟨lx_185, List.forall_mem_cons.mpr ⟨lx_177, List.forall_mem_cons.mpr ⟨lx_176, List.forall_mem_cons.mpr ⟨lx_182, List.forall_mem_cons.mpr ⟨lx_181, List.forall_mem_cons.mpr ⟨lx_180, List.forall_mem_cons.mpr ⟨lx_642, List.forall_mem_cons.mpr ⟨lx_641, List.forall_mem_cons.mpr ⟨lx_640, List.forall_mem_cons.mpr ⟨lx_639, List.forall_mem_cons.mpr ⟨lx_131, List.forall_mem_cons.mpr ⟨lx_638, List.forall_mem_cons.mpr ⟨lx_637, List.forall_mem_cons.mpr ⟨lx_636, List.forall_mem_cons.mpr ⟨lx_635, List.forall_mem_cons.mpr ⟨lx_634, List.forall_mem_cons.mpr ⟨lx_633, List.forall_mem_cons.mpr ⟨lx_632, List.forall_mem_cons.mpr ⟨lx_631, fun _ h => absurd h List.not_mem_nil⟩⟩⟩⟩⟩⟩⟩⟩⟩⟩⟩⟩⟩⟩⟩⟩⟩⟩⟩⟩⟩⟩⟩⟩, inX12⟩⟩
set_option maxRecDepth 20000 in
theorem gg_X12_ring : GoodIn lw_tbl wsX12_ring := goodIn_sub lxwsX12_ring (by decide +kernel)
theorem lx_644 : Cond.selects RX12 yX12_ring yX12_ring ∈ lw_tbl := lw_t5 72 rfl
theorem lx_645 : Cond.instanceMethod yX12_ring ∈ lw_tbl := lw_t5 71 rfl
theorem lx_646 : Cond.methodLink RL 75 yX12_ring ∈ lw_tbl := lw_t5 70 rfl
set_option maxRecDepth 20000 in
theorem gL_X12_ring : GoodIn lw_tbl (wsV RL 75 RX12 yX12_ring wsX12_ring) := goodIn_app (goodIn_sub (List.forall_mem_cons.mpr ⟨lx_646, List.forall_mem_cons.mpr ⟨lx_645, List.forall_mem_cons.mpr ⟨lx_644, List.forall_mem_cons.mpr ⟨lx_185, fun _ h => absurd h List.not_mem_nil⟩⟩⟩⟩) (by decide +kernel)) gg_X12_ring
theorem lx_647 : Cond.code yX11_stop cX11_stop 5 (some .long) ∈ lw_tbl := lw_t3 74 rfl
theorem lx_648 : Cond.instanceMethod yX0_judgeStops ∈ lw_tbl := lw_t3 83 rfl
theorem lx_649 : Cond.methodLink RX11 221 yX0_judgeStops ∈ lw_tbl := lw_t3 82 rfl
theorem lx_650 : Cond.methodLink RX0 23 yX5_readDigits ∈ lw_tbl := lw_t3 80 rfl
theorem lx_651 : Cond.methodLink RX0 13 yX5_within ∈ lw_tbl := lw_t3 79 rfl
theorem lx_652 : Cond.fieldLink RX0 19 "TwiceStolen$Career" "digits" "I" ∈ lw_tbl := lw_t1 199 rfl
theorem lx_653 : Cond.code yX0_read cX0_read 3 (some .boolean) ∈ lw_tbl := lw_t3 78 rfl
theorem lx_654 : Cond.selects RX0 yX0_read yX0_read ∈ lw_tbl := lw_t3 77 rfl
theorem lx_655 : Cond.instanceMethod yX0_read ∈ lw_tbl := lw_t3 76 rfl
theorem lx_656 : Cond.methodLink RX11 216 yX0_read ∈ lw_tbl := lw_t3 75 rfl
theorem lx_657 : Cond.fieldLink RX11 228 "TwiceStolen$Career" "lower" "J" ∈ lw_tbl := lw_t1 205 rfl
theorem lx_658 : Cond.fieldLink RX11 224 "TwiceStolen$Career" "upper" "J" ∈ lw_tbl := lw_t1 203 rfl
theorem lx_659 : Cond.constantLong RX11 219 (-1000000000000000002) ∈ lw_tbl := lw_t3 81 rfl
set_option maxRecDepth 20000 in
theorem lxwsX11_stop_r1 : ∀ w ∈ wsX11_stop_r1, w ∈ lw_tbl := List.forall_mem_cons.mpr ⟨lx_45, List.forall_mem_cons.mpr ⟨lx_659, List.forall_mem_cons.mpr ⟨lx_658, List.forall_mem_cons.mpr ⟨lx_657, List.forall_mem_cons.mpr ⟨lx_163, List.forall_mem_cons.mpr ⟨lx_162, List.forall_mem_cons.mpr ⟨lx_51, List.forall_mem_cons.mpr ⟨lx_161, List.forall_mem_cons.mpr ⟨lx_656, List.forall_mem_cons.mpr ⟨lx_655, List.forall_mem_cons.mpr ⟨lx_654, List.forall_mem_cons.mpr ⟨lx_46, List.forall_mem_cons.mpr ⟨lx_653, List.forall_mem_cons.mpr ⟨lx_652, List.forall_mem_cons.mpr ⟨lx_112, List.forall_mem_cons.mpr ⟨lx_651, List.forall_mem_cons.mpr ⟨lx_650, List.forall_mem_cons.mpr ⟨lx_603, List.forall_mem_cons.mpr ⟨lx_602, List.forall_mem_cons.mpr ⟨lx_601, List.forall_mem_cons.mpr ⟨lx_52, List.forall_mem_cons.mpr ⟨lx_50, List.forall_mem_cons.mpr ⟨lx_649, List.forall_mem_cons.mpr ⟨lx_648, fun _ h => absurd h List.not_mem_nil⟩⟩⟩⟩⟩⟩⟩⟩⟩⟩⟩⟩⟩⟩⟩⟩⟩⟩⟩⟩⟩⟩⟩⟩
theorem lx_660 : Cond.code yX1_greatestCommon cX1_greatestCommon 11 (some .long) ∈ lw_tbl := lw_t3 93 rfl
theorem lx_661 : Cond.static yX1_greatestCommon ∈ lw_tbl := lw_t3 92 rfl
theorem lx_662 : Cond.methodLink RX1 21 yX1_greatestCommon ∈ lw_tbl := lw_t3 91 rfl
theorem lx_663 : Cond.code yX1_inLowestTerms cX1_inLowestTerms 9 (some .long) ∈ lw_tbl := lw_t3 90 rfl
theorem lx_664 : Cond.static yX1_inLowestTerms ∈ lw_tbl := lw_t3 89 rfl
theorem lx_665 : Cond.methodLink RX11 231 yX1_inLowestTerms ∈ lw_tbl := lw_t3 88 rfl
theorem lx_666 : Cond.methodLink RX0 30 yX5_at ∈ lw_tbl := lw_t3 86 rfl
theorem lx_667 : Cond.constantLong RX0 41 (10) ∈ lw_tbl := lw_t3 87 rfl
theorem lx_668 : Cond.fieldLink RX0 38 "TwiceStolen$Career" "lower" "J" ∈ lw_tbl := lw_t1 204 rfl
theorem lx_669 : Cond.fieldLink RX0 34 "TwiceStolen$Career" "upper" "J" ∈ lw_tbl := lw_t1 202 rfl
theorem lx_670 : Cond.fieldLink RX0 27 "TwiceStolen$Career" "takings" "I" ∈ lw_tbl := lw_t1 200 rfl
theorem lx_671 : Cond.code yX0_judgeStops cX0_judgeStops 9 none ∈ lw_tbl := lw_t3 85 rfl
theorem lx_672 : Cond.selects RX0 yX0_judgeStops yX0_judgeStops ∈ lw_tbl := lw_t3 84 rfl
set_option maxRecDepth 20000 in
theorem lxwsX11_stop_r2 : ∀ w ∈ wsX11_stop_r2, w ∈ lw_tbl := List.forall_mem_cons.mpr ⟨lx_672, List.forall_mem_cons.mpr ⟨lx_671, List.forall_mem_cons.mpr ⟨lx_670, List.forall_mem_cons.mpr ⟨lx_669, List.forall_mem_cons.mpr ⟨lx_668, List.forall_mem_cons.mpr ⟨lx_667, List.forall_mem_cons.mpr ⟨lx_666, List.forall_mem_cons.mpr ⟨lx_156, List.forall_mem_cons.mpr ⟨lx_155, List.forall_mem_cons.mpr ⟨lx_665, List.forall_mem_cons.mpr ⟨lx_664, List.forall_mem_cons.mpr ⟨lx_34, List.forall_mem_cons.mpr ⟨lx_663, List.forall_mem_cons.mpr ⟨lx_662, List.forall_mem_cons.mpr ⟨lx_661, List.forall_mem_cons.mpr ⟨lx_660, fun _ h => absurd h List.not_mem_nil⟩⟩⟩⟩⟩⟩⟩⟩⟩⟩⟩⟩⟩⟩⟩⟩
set_option maxRecDepth 20000 in
theorem lxwsX11_stop : ∀ w ∈ wsX11_stop, w ∈ lw_tbl := List.forall_mem_cons.mpr ⟨lx_647, List.forall_mem_append.mpr ⟨List.forall_mem_append.mpr ⟨List.forall_mem_append.mpr ⟨lxwsX11_stop_r1, lxwsX11_stop_r2⟩, inX11⟩, inX0⟩⟩
set_option maxRecDepth 20000 in
theorem gg_X11_stop : GoodIn lw_tbl wsX11_stop := goodIn_sub lxwsX11_stop (by decide +kernel)
theorem lx_673 : Cond.selects RX11 yX11_stop yX11_stop ∈ lw_tbl := lw_t3 73 rfl
theorem lx_674 : Cond.instanceMethod yX11_stop ∈ lw_tbl := lw_t3 72 rfl
theorem lx_675 : Cond.methodLink RL 76 yX11_stop ∈ lw_tbl := lw_t3 71 rfl
set_option maxRecDepth 20000 in
theorem gL_X11_stop : GoodIn lw_tbl (wsV RL 76 RX11 yX11_stop wsX11_stop) := goodIn_app (goodIn_sub (List.forall_mem_cons.mpr ⟨lx_675, List.forall_mem_cons.mpr ⟨lx_674, List.forall_mem_cons.mpr ⟨lx_673, List.forall_mem_cons.mpr ⟨lx_165, fun _ h => absurd h List.not_mem_nil⟩⟩⟩⟩) (by decide +kernel)) gg_X11_stop
theorem lx_676 : Cond.code yX12_stop cX12_stop 5 (some .long) ∈ lw_tbl := lw_t5 90 rfl
theorem lx_677 : Cond.code yX12_meanOf cX12_meanOf 4 (some .long) ∈ lw_tbl := lw_t5 108 rfl
theorem lx_678 : Cond.selects RX12 yX12_meanOf yX12_meanOf ∈ lw_tbl := lw_s4 6 rfl rfl
theorem lx_679 : Cond.instanceMethod yX12_meanOf ∈ lw_tbl := lw_t5 107 rfl
theorem lx_680 : Cond.methodLink RX12 281 yX12_meanOf ∈ lw_tbl := lw_t5 105 rfl
theorem lx_681 : Cond.code yX12_bestOf cX12_bestOf 5 (some .int) ∈ lw_tbl := lw_t5 104 rfl
theorem lx_682 : Cond.selects RX12 yX12_bestOf yX12_bestOf ∈ lw_tbl := lw_s4 5 rfl rfl
theorem lx_683 : Cond.instanceMethod yX12_bestOf ∈ lw_tbl := lw_t5 103 rfl
theorem lx_684 : Cond.methodLink RX12 291 yX12_bestOf ∈ lw_tbl := lw_t5 101 rfl
theorem lx_685 : Cond.code yX12_readDigits cX12_readDigits 5 (some .boolean) ∈ lw_tbl := lw_t5 99 rfl
theorem lx_686 : Cond.selects RX12 yX12_readDigits yX12_readDigits ∈ lw_tbl := lw_s4 4 rfl rfl
theorem lx_687 : Cond.instanceMethod yX12_readDigits ∈ lw_tbl := lw_t5 98 rfl
theorem lx_688 : Cond.methodLink RX12 274 yX12_readDigits ∈ lw_tbl := lw_t5 96 rfl
theorem lx_689 : Cond.code yX12_isStop cX12_isStop 4 (some .boolean) ∈ lw_tbl := lw_t5 94 rfl
theorem lx_690 : Cond.selects RX12 yX12_isStop yX12_isStop ∈ lw_tbl := lw_s4 3 rfl rfl
theorem lx_691 : Cond.instanceMethod yX12_isStop ∈ lw_tbl := lw_t5 93 rfl
theorem lx_692 : Cond.methodLink RX12 285 yX12_isStop ∈ lw_tbl := lw_t5 91 rfl
theorem lx_693 : Cond.constantLong RX12 272 (10) ∈ lw_tbl := lw_t5 95 rfl
theorem lx_694 : Cond.constantLong RX12 289 (-1000000000000000002) ∈ lw_tbl := lw_t5 100 rfl
set_option maxRecDepth 20000 in
theorem lxwsX12_stop_r1 : ∀ w ∈ wsX12_stop_r1, w ∈ lw_tbl := List.forall_mem_cons.mpr ⟨lx_694, List.forall_mem_cons.mpr ⟨lx_693, List.forall_mem_cons.mpr ⟨lx_692, List.forall_mem_cons.mpr ⟨lx_691, List.forall_mem_cons.mpr ⟨lx_690, List.forall_mem_cons.mpr ⟨lx_185, List.forall_mem_cons.mpr ⟨lx_689, List.forall_mem_cons.mpr ⟨lx_189, List.forall_mem_cons.mpr ⟨lx_182, List.forall_mem_cons.mpr ⟨lx_181, List.forall_mem_cons.mpr ⟨lx_180, List.forall_mem_cons.mpr ⟨lx_688, List.forall_mem_cons.mpr ⟨lx_687, List.forall_mem_cons.mpr ⟨lx_686, List.forall_mem_cons.mpr ⟨lx_685, List.forall_mem_cons.mpr ⟨lx_129, List.forall_mem_cons.mpr ⟨lx_684, List.forall_mem_cons.mpr ⟨lx_683, List.forall_mem_cons.mpr ⟨lx_682, List.forall_mem_cons.mpr ⟨lx_681, List.forall_mem_cons.mpr ⟨lx_680, List.forall_mem_cons.mpr ⟨lx_679, List.forall_mem_cons.mpr ⟨lx_678, List.forall_mem_cons.mpr ⟨lx_677, fun _ h => absurd h List.not_mem_nil⟩⟩⟩⟩⟩⟩⟩⟩⟩⟩⟩⟩⟩⟩⟩⟩⟩⟩⟩⟩⟩⟩⟩⟩
theorem lx_695 : Cond.code yX12_lowest cX12_lowest 11 (some .long) ∈ lw_tbl := lw_t5 114 rfl
theorem lx_696 : Cond.static yX12_lowest ∈ lw_tbl := lw_t5 113 rfl
theorem lx_697 : Cond.methodLink RX12 294 yX12_lowest ∈ lw_tbl := lw_t5 112 rfl
theorem lx_698 : Cond.code yX12_power cX12_power 6 (some .long) ∈ lw_tbl := lw_t5 111 rfl
theorem lx_699 : Cond.static yX12_power ∈ lw_tbl := lw_t5 110 rfl
theorem lx_700 : Cond.methodLink RX12 277 yX12_power ∈ lw_tbl := lw_t5 109 rfl
set_option maxRecDepth 20000 in
theorem lxwsX12_stop_r2 : ∀ w ∈ wsX12_stop_r2, w ∈ lw_tbl := List.forall_mem_cons.mpr ⟨lx_700, List.forall_mem_cons.mpr ⟨lx_699, List.forall_mem_cons.mpr ⟨lx_698, List.forall_mem_cons.mpr ⟨lx_697, List.forall_mem_cons.mpr ⟨lx_696, List.forall_mem_cons.mpr ⟨lx_695, fun _ h => absurd h List.not_mem_nil⟩⟩⟩⟩⟩⟩
set_option maxRecDepth 20000 in
theorem lxwsX12_stop : ∀ w ∈ wsX12_stop, w ∈ lw_tbl := List.forall_mem_cons.mpr ⟨lx_676, List.forall_mem_append.mpr ⟨List.forall_mem_append.mpr ⟨lxwsX12_stop_r1, lxwsX12_stop_r2⟩, inX12⟩⟩
set_option maxRecDepth 20000 in
theorem gg_X12_stop : GoodIn lw_tbl wsX12_stop := goodIn_sub lxwsX12_stop (by decide +kernel)
theorem lx_701 : Cond.selects RX12 yX12_stop yX12_stop ∈ lw_tbl := lw_t5 89 rfl
theorem lx_702 : Cond.instanceMethod yX12_stop ∈ lw_tbl := lw_t5 88 rfl
theorem lx_703 : Cond.methodLink RL 80 yX12_stop ∈ lw_tbl := lw_t5 87 rfl
set_option maxRecDepth 20000 in
theorem gL_X12_stop : GoodIn lw_tbl (wsV RL 80 RX12 yX12_stop wsX12_stop) := goodIn_app (goodIn_sub (List.forall_mem_cons.mpr ⟨lx_703, List.forall_mem_cons.mpr ⟨lx_702, List.forall_mem_cons.mpr ⟨lx_701, List.forall_mem_cons.mpr ⟨lx_185, fun _ h => absurd h List.not_mem_nil⟩⟩⟩⟩) (by decide +kernel)) gg_X12_stop
theorem lx_704 : Cond.code yX11_sells cX11_sells 4 (some .int) ∈ lw_tbl := lw_t3 97 rfl
theorem lx_705 : Cond.fieldLink RX11 235 "TwiceStolen$Career" "takings" "I" ∈ lw_tbl := lw_t1 201 rfl
set_option maxRecDepth 20000 in
theorem lxwsX11_sells_r1 : ∀ w ∈ wsX11_sells_r1, w ∈ lw_tbl := List.forall_mem_cons.mpr ⟨lx_45, List.forall_mem_cons.mpr ⟨lx_705, List.forall_mem_cons.mpr ⟨lx_163, List.forall_mem_cons.mpr ⟨lx_162, List.forall_mem_cons.mpr ⟨lx_51, List.forall_mem_cons.mpr ⟨lx_161, List.forall_mem_cons.mpr ⟨lx_656, List.forall_mem_cons.mpr ⟨lx_655, List.forall_mem_cons.mpr ⟨lx_654, List.forall_mem_cons.mpr ⟨lx_46, List.forall_mem_cons.mpr ⟨lx_653, List.forall_mem_cons.mpr ⟨lx_652, List.forall_mem_cons.mpr ⟨lx_112, List.forall_mem_cons.mpr ⟨lx_651, List.forall_mem_cons.mpr ⟨lx_650, List.forall_mem_cons.mpr ⟨lx_603, List.forall_mem_cons.mpr ⟨lx_602, List.forall_mem_cons.mpr ⟨lx_601, List.forall_mem_cons.mpr ⟨lx_52, List.forall_mem_cons.mpr ⟨lx_50, List.forall_mem_cons.mpr ⟨lx_649, List.forall_mem_cons.mpr ⟨lx_648, List.forall_mem_cons.mpr ⟨lx_672, List.forall_mem_cons.mpr ⟨lx_671, fun _ h => absurd h List.not_mem_nil⟩⟩⟩⟩⟩⟩⟩⟩⟩⟩⟩⟩⟩⟩⟩⟩⟩⟩⟩⟩⟩⟩⟩⟩
set_option maxRecDepth 20000 in
theorem lxwsX11_sells_r2 : ∀ w ∈ wsX11_sells_r2, w ∈ lw_tbl := List.forall_mem_cons.mpr ⟨lx_670, List.forall_mem_cons.mpr ⟨lx_669, List.forall_mem_cons.mpr ⟨lx_668, List.forall_mem_cons.mpr ⟨lx_667, List.forall_mem_cons.mpr ⟨lx_666, List.forall_mem_cons.mpr ⟨lx_156, List.forall_mem_cons.mpr ⟨lx_155, fun _ h => absurd h List.not_mem_nil⟩⟩⟩⟩⟩⟩⟩
set_option maxRecDepth 20000 in
theorem lxwsX11_sells : ∀ w ∈ wsX11_sells, w ∈ lw_tbl := List.forall_mem_cons.mpr ⟨lx_704, List.forall_mem_append.mpr ⟨List.forall_mem_append.mpr ⟨List.forall_mem_append.mpr ⟨lxwsX11_sells_r1, lxwsX11_sells_r2⟩, inX11⟩, inX0⟩⟩
set_option maxRecDepth 20000 in
theorem gg_X11_sells : GoodIn lw_tbl wsX11_sells := goodIn_sub lxwsX11_sells (by decide +kernel)
theorem lx_706 : Cond.selects RX11 yX11_sells yX11_sells ∈ lw_tbl := lw_t3 96 rfl
theorem lx_707 : Cond.instanceMethod yX11_sells ∈ lw_tbl := lw_t3 95 rfl
theorem lx_708 : Cond.methodLink RL 81 yX11_sells ∈ lw_tbl := lw_t3 94 rfl
set_option maxRecDepth 20000 in
theorem gL_X11_sells : GoodIn lw_tbl (wsV RL 81 RX11 yX11_sells wsX11_sells) := goodIn_app (goodIn_sub (List.forall_mem_cons.mpr ⟨lx_708, List.forall_mem_cons.mpr ⟨lx_707, List.forall_mem_cons.mpr ⟨lx_706, List.forall_mem_cons.mpr ⟨lx_165, fun _ h => absurd h List.not_mem_nil⟩⟩⟩⟩) (by decide +kernel)) gg_X11_sells
theorem lx_709 : Cond.code yX12_sells cX12_sells 4 (some .int) ∈ lw_tbl := lw_t5 118 rfl
set_option maxRecDepth 20000 in
theorem lxwsX12_sells_r1 : ∀ w ∈ wsX12_sells_r1, w ∈ lw_tbl := List.forall_mem_cons.mpr ⟨lx_692, List.forall_mem_cons.mpr ⟨lx_691, List.forall_mem_cons.mpr ⟨lx_690, List.forall_mem_cons.mpr ⟨lx_185, List.forall_mem_cons.mpr ⟨lx_689, List.forall_mem_cons.mpr ⟨lx_189, List.forall_mem_cons.mpr ⟨lx_693, List.forall_mem_cons.mpr ⟨lx_182, List.forall_mem_cons.mpr ⟨lx_181, List.forall_mem_cons.mpr ⟨lx_180, List.forall_mem_cons.mpr ⟨lx_688, List.forall_mem_cons.mpr ⟨lx_687, List.forall_mem_cons.mpr ⟨lx_686, List.forall_mem_cons.mpr ⟨lx_685, List.forall_mem_cons.mpr ⟨lx_129, List.forall_mem_cons.mpr ⟨lx_684, List.forall_mem_cons.mpr ⟨lx_683, List.forall_mem_cons.mpr ⟨lx_682, List.forall_mem_cons.mpr ⟨lx_681, List.forall_mem_cons.mpr ⟨lx_680, List.forall_mem_cons.mpr ⟨lx_679, List.forall_mem_cons.mpr ⟨lx_678, List.forall_mem_cons.mpr ⟨lx_677, List.forall_mem_cons.mpr ⟨lx_700, fun _ h => absurd h List.not_mem_nil⟩⟩⟩⟩⟩⟩⟩⟩⟩⟩⟩⟩⟩⟩⟩⟩⟩⟩⟩⟩⟩⟩⟩⟩
set_option maxRecDepth 20000 in
theorem lxwsX12_sells_r2 : ∀ w ∈ wsX12_sells_r2, w ∈ lw_tbl := List.forall_mem_cons.mpr ⟨lx_699, List.forall_mem_cons.mpr ⟨lx_698, fun _ h => absurd h List.not_mem_nil⟩⟩
set_option maxRecDepth 20000 in
theorem lxwsX12_sells : ∀ w ∈ wsX12_sells, w ∈ lw_tbl := List.forall_mem_cons.mpr ⟨lx_709, List.forall_mem_append.mpr ⟨List.forall_mem_append.mpr ⟨lxwsX12_sells_r1, lxwsX12_sells_r2⟩, inX12⟩⟩
set_option maxRecDepth 20000 in
theorem gg_X12_sells : GoodIn lw_tbl wsX12_sells := goodIn_sub lxwsX12_sells (by decide +kernel)
theorem lx_710 : Cond.selects RX12 yX12_sells yX12_sells ∈ lw_tbl := lw_t5 117 rfl
theorem lx_711 : Cond.instanceMethod yX12_sells ∈ lw_tbl := lw_t5 116 rfl
theorem lx_712 : Cond.methodLink RL 84 yX12_sells ∈ lw_tbl := lw_t5 115 rfl
set_option maxRecDepth 20000 in
theorem gL_X12_sells : GoodIn lw_tbl (wsV RL 84 RX12 yX12_sells wsX12_sells) := goodIn_app (goodIn_sub (List.forall_mem_cons.mpr ⟨lx_712, List.forall_mem_cons.mpr ⟨lx_711, List.forall_mem_cons.mpr ⟨lx_710, List.forall_mem_cons.mpr ⟨lx_185, fun _ h => absurd h List.not_mem_nil⟩⟩⟩⟩) (by decide +kernel)) gg_X12_sells
theorem lx_713 : Cond.code yX11_ahead cX11_ahead 3 (some .int) ∈ lw_tbl := lw_t3 101 rfl
theorem lx_714 : Cond.methodLink RX8 20 yX5_put ∈ lw_tbl := lw_t3 106 rfl
theorem lx_715 : Cond.code yX8_add cX8_add 3 none ∈ lw_tbl := lw_t3 105 rfl
theorem lx_716 : Cond.selects RX8 yX8_add yX8_add ∈ lw_tbl := lw_t3 104 rfl
theorem lx_717 : Cond.instanceMethod yX8_add ∈ lw_tbl := lw_t3 103 rfl
theorem lx_718 : Cond.methodLink RX11 247 yX8_add ∈ lw_tbl := lw_t3 102 rfl
theorem lx_719 : Cond.fieldLink RX11 242 "TwiceStolen$Sights" "count" "I" ∈ lw_tbl := lw_t1 39 rfl
theorem lx_720 : Cond.fieldLink RX11 238 "TwiceStolen$World" "sights" "LTwiceStolen$Sights;" ∈ lw_tbl := lw_t1 70 rfl
set_option maxRecDepth 20000 in
theorem lxwsX11_ahead : ∀ w ∈ wsX11_ahead, w ∈ lw_tbl := List.forall_mem_cons.mpr ⟨lx_713, List.forall_mem_append.mpr ⟨List.forall_mem_append.mpr ⟨List.forall_mem_append.mpr ⟨List.forall_mem_cons.mpr ⟨lx_18, List.forall_mem_cons.mpr ⟨lx_720, List.forall_mem_cons.mpr ⟨lx_719, List.forall_mem_cons.mpr ⟨lx_163, List.forall_mem_cons.mpr ⟨lx_162, List.forall_mem_cons.mpr ⟨lx_51, List.forall_mem_cons.mpr ⟨lx_161, List.forall_mem_cons.mpr ⟨lx_718, List.forall_mem_cons.mpr ⟨lx_717, List.forall_mem_cons.mpr ⟨lx_716, List.forall_mem_cons.mpr ⟨lx_64, List.forall_mem_cons.mpr ⟨lx_715, List.forall_mem_cons.mpr ⟨lx_54, List.forall_mem_cons.mpr ⟨lx_56, List.forall_mem_cons.mpr ⟨lx_55, List.forall_mem_cons.mpr ⟨lx_714, List.forall_mem_cons.mpr ⟨lx_52, List.forall_mem_cons.mpr ⟨lx_50, fun _ h => absurd h List.not_mem_nil⟩⟩⟩⟩⟩⟩⟩⟩⟩⟩⟩⟩⟩⟩⟩⟩⟩⟩, inX11⟩, inX10⟩, inX8⟩⟩
set_option maxRecDepth 20000 in
theorem gg_X11_ahead : GoodIn lw_tbl wsX11_ahead := goodIn_sub lxwsX11_ahead (by decide +kernel)
theorem lx_721 : Cond.selects RX11 yX11_ahead yX11_ahead ∈ lw_tbl := lw_t3 100 rfl
theorem lx_722 : Cond.instanceMethod yX11_ahead ∈ lw_tbl := lw_t3 99 rfl
theorem lx_723 : Cond.methodLink RL 85 yX11_ahead ∈ lw_tbl := lw_t3 98 rfl
set_option maxRecDepth 20000 in
theorem gL_X11_ahead : GoodIn lw_tbl (wsV RL 85 RX11 yX11_ahead wsX11_ahead) := goodIn_app (goodIn_sub (List.forall_mem_cons.mpr ⟨lx_723, List.forall_mem_cons.mpr ⟨lx_722, List.forall_mem_cons.mpr ⟨lx_721, List.forall_mem_cons.mpr ⟨lx_165, fun _ h => absurd h List.not_mem_nil⟩⟩⟩⟩) (by decide +kernel)) gg_X11_ahead
theorem lx_724 : Cond.code yX12_ahead cX12_ahead 3 (some .int) ∈ lw_tbl := lw_t5 122 rfl
theorem lx_725 : Cond.fieldLink RX12 300 "TwiceStolenModel" "sights" "I" ∈ lw_tbl := lw_t4 9 rfl
theorem lx_726 : Cond.constantLong RX12 298 (4) ∈ lw_tbl := lw_t5 123 rfl
set_option maxRecDepth 20000 in
theorem lxwsX12_ahead : ∀ w ∈ wsX12_ahead, w ∈ lw_tbl := List.forall_mem_cons.mpr ⟨lx_724, List.forall_mem_append.mpr ⟨List.forall_mem_cons.mpr ⟨lx_726, List.forall_mem_cons.mpr ⟨lx_725, List.forall_mem_cons.mpr ⟨lx_139, List.forall_mem_cons.mpr ⟨lx_138, List.forall_mem_cons.mpr ⟨lx_182, List.forall_mem_cons.mpr ⟨lx_181, List.forall_mem_cons.mpr ⟨lx_185, List.forall_mem_cons.mpr ⟨lx_180, fun _ h => absurd h List.not_mem_nil⟩⟩⟩⟩⟩⟩⟩⟩, inX12⟩⟩
set_option maxRecDepth 20000 in
theorem gg_X12_ahead : GoodIn lw_tbl wsX12_ahead := goodIn_sub lxwsX12_ahead (by decide +kernel)
theorem lx_727 : Cond.selects RX12 yX12_ahead yX12_ahead ∈ lw_tbl := lw_t5 121 rfl
theorem lx_728 : Cond.instanceMethod yX12_ahead ∈ lw_tbl := lw_t5 120 rfl
theorem lx_729 : Cond.methodLink RL 88 yX12_ahead ∈ lw_tbl := lw_t5 119 rfl
set_option maxRecDepth 20000 in
theorem gL_X12_ahead : GoodIn lw_tbl (wsV RL 88 RX12 yX12_ahead wsX12_ahead) := goodIn_app (goodIn_sub (List.forall_mem_cons.mpr ⟨lx_729, List.forall_mem_cons.mpr ⟨lx_728, List.forall_mem_cons.mpr ⟨lx_727, List.forall_mem_cons.mpr ⟨lx_185, fun _ h => absurd h List.not_mem_nil⟩⟩⟩⟩) (by decide +kernel)) gg_X12_ahead
theorem lx_730 : Cond.code yX11_forget cX11_forget 2 (some .int) ∈ lw_tbl := lw_t3 110 rfl
set_option maxRecDepth 20000 in
theorem lxwsX11_forget : ∀ w ∈ wsX11_forget, w ∈ lw_tbl := List.forall_mem_cons.mpr ⟨lx_730, List.forall_mem_append.mpr ⟨List.forall_mem_append.mpr ⟨List.forall_mem_append.mpr ⟨List.forall_mem_cons.mpr ⟨lx_18, List.forall_mem_cons.mpr ⟨lx_720, List.forall_mem_cons.mpr ⟨lx_719, fun _ h => absurd h List.not_mem_nil⟩⟩⟩, inX11⟩, inX10⟩, inX8⟩⟩
set_option maxRecDepth 20000 in
theorem gg_X11_forget : GoodIn lw_tbl wsX11_forget := goodIn_sub lxwsX11_forget (by decide +kernel)
theorem lx_731 : Cond.selects RX11 yX11_forget yX11_forget ∈ lw_tbl := lw_t3 109 rfl
theorem lx_732 : Cond.instanceMethod yX11_forget ∈ lw_tbl := lw_t3 108 rfl
theorem lx_733 : Cond.methodLink RL 89 yX11_forget ∈ lw_tbl := lw_t3 107 rfl
set_option maxRecDepth 20000 in
theorem gL_X11_forget : GoodIn lw_tbl (wsV RL 89 RX11 yX11_forget wsX11_forget) := goodIn_app (goodIn_sub (List.forall_mem_cons.mpr ⟨lx_733, List.forall_mem_cons.mpr ⟨lx_732, List.forall_mem_cons.mpr ⟨lx_731, List.forall_mem_cons.mpr ⟨lx_165, fun _ h => absurd h List.not_mem_nil⟩⟩⟩⟩) (by decide +kernel)) gg_X11_forget
theorem lx_734 : Cond.code yX12_forget cX12_forget 2 (some .int) ∈ lw_tbl := lw_t5 127 rfl
set_option maxRecDepth 20000 in
theorem lxwsX12_forget : ∀ w ∈ wsX12_forget, w ∈ lw_tbl := List.forall_mem_cons.mpr ⟨lx_734, List.forall_mem_append.mpr ⟨List.forall_mem_cons.mpr ⟨lx_725, fun _ h => absurd h List.not_mem_nil⟩, inX12⟩⟩
set_option maxRecDepth 20000 in
theorem gg_X12_forget : GoodIn lw_tbl wsX12_forget := goodIn_sub lxwsX12_forget (by decide +kernel)
theorem lx_735 : Cond.selects RX12 yX12_forget yX12_forget ∈ lw_tbl := lw_t5 126 rfl
theorem lx_736 : Cond.instanceMethod yX12_forget ∈ lw_tbl := lw_t5 125 rfl
theorem lx_737 : Cond.methodLink RL 92 yX12_forget ∈ lw_tbl := lw_t5 124 rfl
set_option maxRecDepth 20000 in
theorem gL_X12_forget : GoodIn lw_tbl (wsV RL 92 RX12 yX12_forget wsX12_forget) := goodIn_app (goodIn_sub (List.forall_mem_cons.mpr ⟨lx_737, List.forall_mem_cons.mpr ⟨lx_736, List.forall_mem_cons.mpr ⟨lx_735, List.forall_mem_cons.mpr ⟨lx_185, fun _ h => absurd h List.not_mem_nil⟩⟩⟩⟩) (by decide +kernel)) gg_X12_forget
theorem lx_738 : Cond.code yX11_fits cX11_fits 2 (some .int) ∈ lw_tbl := lw_t3 114 rfl
theorem lx_739 : Cond.instanceMethod yX2_freeHand ∈ lw_tbl := lw_t3 127 rfl
theorem lx_740 : Cond.methodLink RX2 34 yX2_freeHand ∈ lw_tbl := lw_t3 125 rfl
theorem lx_741 : Cond.methodLink RX2 18 yX5_fill ∈ lw_tbl := lw_t3 123 rfl
theorem lx_742 : Cond.methodLink RX2 28 Lib.Math.max.name ∈ lw_tbl := lw_t3 124 rfl
theorem lx_743 : Cond.code yX2_layOut cX2_layOut 6 none ∈ lw_tbl := lw_t3 122 rfl
theorem lx_744 : Cond.selects RX2 yX2_layOut yX2_layOut ∈ lw_tbl := lw_s1 11 rfl rfl
theorem lx_745 : Cond.instanceMethod yX2_layOut ∈ lw_tbl := lw_t3 121 rfl
theorem lx_746 : Cond.methodLink RX2 46 yX2_layOut ∈ lw_tbl := lw_t3 119 rfl
theorem lx_747 : Cond.fieldLink RX2 24 "TwiceStolen$Hands" "row" "I" ∈ lw_tbl := lw_t1 225 rfl
theorem lx_748 : Cond.code yX2_fittingRow cX2_fittingRow 5 (some .int) ∈ lw_tbl := lw_t3 118 rfl
theorem lx_749 : Cond.selects RX2 yX2_fittingRow yX2_fittingRow ∈ lw_tbl := lw_t3 117 rfl
theorem lx_750 : Cond.instanceMethod yX2_fittingRow ∈ lw_tbl := lw_t3 116 rfl
theorem lx_751 : Cond.methodLink RX11 250 yX2_fittingRow ∈ lw_tbl := lw_t3 115 rfl
set_option maxRecDepth 20000 in
theorem lxwsX11_fits_r1 : ∀ w ∈ wsX11_fits_r1, w ∈ lw_tbl := List.forall_mem_cons.mpr ⟨lx_41, List.forall_mem_cons.mpr ⟨lx_18, List.forall_mem_cons.mpr ⟨lx_720, List.forall_mem_cons.mpr ⟨lx_751, List.forall_mem_cons.mpr ⟨lx_750, List.forall_mem_cons.mpr ⟨lx_749, List.forall_mem_cons.mpr ⟨lx_42, List.forall_mem_cons.mpr ⟨lx_748, List.forall_mem_cons.mpr ⟨lx_107, List.forall_mem_cons.mpr ⟨lx_747, List.forall_mem_cons.mpr ⟨lx_746, List.forall_mem_cons.mpr ⟨lx_745, List.forall_mem_cons.mpr ⟨lx_744, List.forall_mem_cons.mpr ⟨lx_743, List.forall_mem_cons.mpr ⟨lx_742, List.forall_mem_cons.mpr ⟨lx_323, List.forall_mem_cons.mpr ⟨lx_322, List.forall_mem_cons.mpr ⟨lx_321, List.forall_mem_cons.mpr ⟨lx_741, List.forall_mem_cons.mpr ⟨lx_96, List.forall_mem_cons.mpr ⟨lx_51, List.forall_mem_cons.mpr ⟨lx_95, List.forall_mem_cons.mpr ⟨lx_740, List.forall_mem_cons.mpr ⟨lx_739, fun _ h => absurd h List.not_mem_nil⟩⟩⟩⟩⟩⟩⟩⟩⟩⟩⟩⟩⟩⟩⟩⟩⟩⟩⟩⟩⟩⟩⟩⟩
theorem lx_752 : Cond.methodLink RX8 30 yX5_at ∈ lw_tbl := lw_t3 135 rfl
theorem lx_753 : Cond.code yX8_hold cX8_hold 3 (some .boolean) ∈ lw_tbl := lw_t3 134 rfl
theorem lx_754 : Cond.selects RX8 yX8_hold yX8_hold ∈ lw_tbl := lw_t3 133 rfl
theorem lx_755 : Cond.instanceMethod yX8_hold ∈ lw_tbl := lw_t3 132 rfl
theorem lx_756 : Cond.methodLink RX2 50 yX8_hold ∈ lw_tbl := lw_t3 131 rfl
theorem lx_757 : Cond.methodLink RX2 38 yX5_put ∈ lw_tbl := lw_t3 130 rfl
theorem lx_758 : Cond.methodLink RX2 42 yX5_at ∈ lw_tbl := lw_t3 129 rfl
theorem lx_759 : Cond.code yX2_freeHand cX2_freeHand 4 (some .int) ∈ lw_tbl := lw_t3 128 rfl
theorem lx_760 : Cond.selects RX2 yX2_freeHand yX2_freeHand ∈ lw_tbl := lw_s1 12 rfl rfl
set_option maxRecDepth 20000 in
theorem lxwsX11_fits_r2 : ∀ w ∈ wsX11_fits_r2, w ∈ lw_tbl := List.forall_mem_cons.mpr ⟨lx_760, List.forall_mem_cons.mpr ⟨lx_759, List.forall_mem_cons.mpr ⟨lx_758, List.forall_mem_cons.mpr ⟨lx_156, List.forall_mem_cons.mpr ⟨lx_155, List.forall_mem_cons.mpr ⟨lx_757, List.forall_mem_cons.mpr ⟨lx_52, List.forall_mem_cons.mpr ⟨lx_50, List.forall_mem_cons.mpr ⟨lx_756, List.forall_mem_cons.mpr ⟨lx_755, List.forall_mem_cons.mpr ⟨lx_754, List.forall_mem_cons.mpr ⟨lx_64, List.forall_mem_cons.mpr ⟨lx_753, List.forall_mem_cons.mpr ⟨lx_54, List.forall_mem_cons.mpr ⟨lx_56, List.forall_mem_cons.mpr ⟨lx_55, List.forall_mem_cons.mpr ⟨lx_752, fun _ h => absurd h List.not_mem_nil⟩⟩⟩⟩⟩⟩⟩⟩⟩⟩⟩⟩⟩⟩⟩⟩⟩
set_option maxRecDepth 20000 in
theorem lxwsX11_fits : ∀ w ∈ wsX11_fits, w ∈ lw_tbl := List.forall_mem_cons.mpr ⟨lx_738, List.forall_mem_append.mpr ⟨List.forall_mem_append.mpr ⟨List.forall_mem_append.mpr ⟨List.forall_mem_append.mpr ⟨List.forall_mem_append.mpr ⟨lxwsX11_fits_r1, lxwsX11_fits_r2⟩, inX11⟩, inX10⟩, inX2⟩, inX8⟩⟩
set_option maxRecDepth 20000 in
theorem gg_X11_fits : GoodIn lw_tbl wsX11_fits := goodIn_sub lxwsX11_fits (by decide +kernel)
theorem lx_761 : Cond.selects RX11 yX11_fits yX11_fits ∈ lw_tbl := lw_t3 113 rfl
theorem lx_762 : Cond.instanceMethod yX11_fits ∈ lw_tbl := lw_t3 112 rfl
theorem lx_763 : Cond.methodLink RL 93 yX11_fits ∈ lw_tbl := lw_t3 111 rfl
set_option maxRecDepth 20000 in
theorem gL_X11_fits : GoodIn lw_tbl (wsV RL 93 RX11 yX11_fits wsX11_fits) := goodIn_app (goodIn_sub (List.forall_mem_cons.mpr ⟨lx_763, List.forall_mem_cons.mpr ⟨lx_762, List.forall_mem_cons.mpr ⟨lx_761, List.forall_mem_cons.mpr ⟨lx_165, fun _ h => absurd h List.not_mem_nil⟩⟩⟩⟩) (by decide +kernel)) gg_X11_fits
theorem lx_764 : Cond.code yX12_fits cX12_fits 2 (some .int) ∈ lw_tbl := lw_t5 131 rfl
theorem lx_765 : Cond.code yX12_readRow cX12_readRow 5 (some .boolean) ∈ lw_tbl := lw_t5 144 rfl
theorem lx_766 : Cond.selects RX12 yX12_readRow yX12_readRow ∈ lw_tbl := lw_s4 9 rfl rfl
theorem lx_767 : Cond.instanceMethod yX12_readRow ∈ lw_tbl := lw_t5 143 rfl
theorem lx_768 : Cond.methodLink RX12 303 yX12_readRow ∈ lw_tbl := lw_t5 141 rfl
theorem lx_769 : Cond.code yX12_isFit cX12_isFit 4 (some .boolean) ∈ lw_tbl := lw_t5 140 rfl
theorem lx_770 : Cond.selects RX12 yX12_isFit yX12_isFit ∈ lw_tbl := lw_s4 8 rfl rfl
theorem lx_771 : Cond.instanceMethod yX12_isFit ∈ lw_tbl := lw_t5 139 rfl
theorem lx_772 : Cond.methodLink RX12 310 yX12_isFit ∈ lw_tbl := lw_t5 137 rfl
theorem lx_773 : Cond.constant RX12 309 (43210) ∈ lw_tbl := lw_t5 136 rfl
theorem lx_774 : Cond.code yX12_findFits cX12_findFits 2 none ∈ lw_tbl := lw_t5 135 rfl
theorem lx_775 : Cond.selects RX12 yX12_findFits yX12_findFits ∈ lw_tbl := lw_s4 7 rfl rfl
theorem lx_776 : Cond.instanceMethod yX12_findFits ∈ lw_tbl := lw_t5 134 rfl
theorem lx_777 : Cond.methodLink RX12 313 yX12_findFits ∈ lw_tbl := lw_t5 132 rfl
theorem lx_778 : Cond.fieldLink RX12 306 "TwiceStolenModel" "fitMany" "I" ∈ lw_tbl := lw_t4 29 rfl
set_option maxRecDepth 20000 in
theorem lxwsX12_fits : ∀ w ∈ wsX12_fits, w ∈ lw_tbl := List.forall_mem_cons.mpr ⟨lx_764, List.forall_mem_append.mpr ⟨List.forall_mem_cons.mpr ⟨lx_778, List.forall_mem_cons.mpr ⟨lx_127, List.forall_mem_cons.mpr ⟨lx_777, List.forall_mem_cons.mpr ⟨lx_776, List.forall_mem_cons.mpr ⟨lx_775, List.forall_mem_cons.mpr ⟨lx_185, List.forall_mem_cons.mpr ⟨lx_774, List.forall_mem_cons.mpr ⟨lx_773, List.forall_mem_cons.mpr ⟨lx_772, List.forall_mem_cons.mpr ⟨lx_771, List.forall_mem_cons.mpr ⟨lx_770, List.forall_mem_cons.mpr ⟨lx_769, List.forall_mem_cons.mpr ⟨lx_725, List.forall_mem_cons.mpr ⟨lx_128, List.forall_mem_cons.mpr ⟨lx_139, List.forall_mem_cons.mpr ⟨lx_138, List.forall_mem_cons.mpr ⟨lx_768, List.forall_mem_cons.mpr ⟨lx_767, List.forall_mem_cons.mpr ⟨lx_766, List.forall_mem_cons.mpr ⟨lx_765, List.forall_mem_cons.mpr ⟨lx_182, List.forall_mem_cons.mpr ⟨lx_181, List.forall_mem_cons.mpr ⟨lx_180, fun _ h => absurd h List.not_mem_nil⟩⟩⟩⟩⟩⟩⟩⟩⟩⟩⟩⟩⟩⟩⟩⟩⟩⟩⟩⟩⟩⟩⟩, inX12⟩⟩
set_option maxRecDepth 20000 in
theorem gg_X12_fits : GoodIn lw_tbl wsX12_fits := goodIn_sub lxwsX12_fits (by decide +kernel)
theorem lx_779 : Cond.selects RX12 yX12_fits yX12_fits ∈ lw_tbl := lw_t5 130 rfl
theorem lx_780 : Cond.instanceMethod yX12_fits ∈ lw_tbl := lw_t5 129 rfl
theorem lx_781 : Cond.methodLink RL 96 yX12_fits ∈ lw_tbl := lw_t5 128 rfl
set_option maxRecDepth 20000 in
theorem gL_X12_fits : GoodIn lw_tbl (wsV RL 96 RX12 yX12_fits wsX12_fits) := goodIn_app (goodIn_sub (List.forall_mem_cons.mpr ⟨lx_781, List.forall_mem_cons.mpr ⟨lx_780, List.forall_mem_cons.mpr ⟨lx_779, List.forall_mem_cons.mpr ⟨lx_185, fun _ h => absurd h List.not_mem_nil⟩⟩⟩⟩) (by decide +kernel)) gg_X12_fits
theorem lx_782 : Cond.code yX11_ask cX11_ask 2 (some .int) ∈ lw_tbl := lw_t3 139 rfl
theorem lx_783 : Cond.instanceMethod yX2_countPairs ∈ lw_tbl := lw_t3 146 rfl
theorem lx_784 : Cond.methodLink RX2 56 yX2_countPairs ∈ lw_tbl := lw_t3 144 rfl
theorem lx_785 : Cond.fieldLink RX2 66 "TwiceStolen$Hands" "fitting" "I" ∈ lw_tbl := lw_t1 226 rfl
theorem lx_786 : Cond.fieldLink RX2 63 "TwiceStolen$Hands" "leftAtMost" "I" ∈ lw_tbl := lw_t1 229 rfl
theorem lx_787 : Cond.fieldLink RX2 60 "TwiceStolen$Hands" "question" "I" ∈ lw_tbl := lw_t1 227 rfl
theorem lx_788 : Cond.code yX2_chooseQuestion cX2_chooseQuestion 6 none ∈ lw_tbl := lw_t3 143 rfl
theorem lx_789 : Cond.selects RX2 yX2_chooseQuestion yX2_chooseQuestion ∈ lw_tbl := lw_t3 142 rfl
theorem lx_790 : Cond.instanceMethod yX2_chooseQuestion ∈ lw_tbl := lw_t3 141 rfl
theorem lx_791 : Cond.methodLink RX11 254 yX2_chooseQuestion ∈ lw_tbl := lw_t3 140 rfl
theorem lx_792 : Cond.fieldLink RX11 261 "TwiceStolen$Hands" "leftAtMost" "I" ∈ lw_tbl := lw_t1 230 rfl
theorem lx_793 : Cond.fieldLink RX11 258 "TwiceStolen$Hands" "question" "I" ∈ lw_tbl := lw_t1 228 rfl
set_option maxRecDepth 20000 in
theorem lxwsX11_ask_r1 : ∀ w ∈ wsX11_ask_r1, w ∈ lw_tbl := List.forall_mem_cons.mpr ⟨lx_41, List.forall_mem_cons.mpr ⟨lx_18, List.forall_mem_cons.mpr ⟨lx_720, List.forall_mem_cons.mpr ⟨lx_793, List.forall_mem_cons.mpr ⟨lx_792, List.forall_mem_cons.mpr ⟨lx_163, List.forall_mem_cons.mpr ⟨lx_162, List.forall_mem_cons.mpr ⟨lx_51, List.forall_mem_cons.mpr ⟨lx_161, List.forall_mem_cons.mpr ⟨lx_791, List.forall_mem_cons.mpr ⟨lx_790, List.forall_mem_cons.mpr ⟨lx_789, List.forall_mem_cons.mpr ⟨lx_42, List.forall_mem_cons.mpr ⟨lx_788, List.forall_mem_cons.mpr ⟨lx_787, List.forall_mem_cons.mpr ⟨lx_786, List.forall_mem_cons.mpr ⟨lx_785, List.forall_mem_cons.mpr ⟨lx_106, List.forall_mem_cons.mpr ⟨lx_742, List.forall_mem_cons.mpr ⟨lx_323, List.forall_mem_cons.mpr ⟨lx_322, List.forall_mem_cons.mpr ⟨lx_321, List.forall_mem_cons.mpr ⟨lx_784, List.forall_mem_cons.mpr ⟨lx_783, fun _ h => absurd h List.not_mem_nil⟩⟩⟩⟩⟩⟩⟩⟩⟩⟩⟩⟩⟩⟩⟩⟩⟩⟩⟩⟩⟩⟩⟩⟩
theorem lx_794 : Cond.code yX2_countPairs cX2_countPairs 3 none ∈ lw_tbl := lw_t3 147 rfl
theorem lx_795 : Cond.selects RX2 yX2_countPairs yX2_countPairs ∈ lw_tbl := lw_s1 13 rfl rfl
set_option maxRecDepth 20000 in
theorem lxwsX11_ask_r2 : ∀ w ∈ wsX11_ask_r2, w ∈ lw_tbl := List.forall_mem_cons.mpr ⟨lx_795, List.forall_mem_cons.mpr ⟨lx_794, List.forall_mem_cons.mpr ⟨lx_107, List.forall_mem_cons.mpr ⟨lx_741, List.forall_mem_cons.mpr ⟨lx_96, List.forall_mem_cons.mpr ⟨lx_95, List.forall_mem_cons.mpr ⟨lx_746, List.forall_mem_cons.mpr ⟨lx_745, List.forall_mem_cons.mpr ⟨lx_744, List.forall_mem_cons.mpr ⟨lx_743, List.forall_mem_cons.mpr ⟨lx_747, List.forall_mem_cons.mpr ⟨lx_740, List.forall_mem_cons.mpr ⟨lx_739, List.forall_mem_cons.mpr ⟨lx_760, List.forall_mem_cons.mpr ⟨lx_759, List.forall_mem_cons.mpr ⟨lx_758, List.forall_mem_cons.mpr ⟨lx_156, List.forall_mem_cons.mpr ⟨lx_155, List.forall_mem_cons.mpr ⟨lx_757, List.forall_mem_cons.mpr ⟨lx_52, List.forall_mem_cons.mpr ⟨lx_50, List.forall_mem_cons.mpr ⟨lx_756, List.forall_mem_cons.mpr ⟨lx_755, List.forall_mem_cons.mpr ⟨lx_754, fun _ h => absurd h List.not_mem_nil⟩⟩⟩⟩⟩⟩⟩⟩⟩⟩⟩⟩⟩⟩⟩⟩⟩⟩⟩⟩⟩⟩⟩⟩
theorem lx_796 : Cond.code yX2_countPairsOfRow cX2_countPairsOfRow 4 none ∈ lw_tbl := lw_t3 151 rfl
theorem lx_797 : Cond.selects RX2 yX2_countPairsOfRow yX2_countPairsOfRow ∈ lw_tbl := lw_s1 14 rfl rfl
theorem lx_798 : Cond.instanceMethod yX2_countPairsOfRow ∈ lw_tbl := lw_t3 150 rfl
theorem lx_799 : Cond.methodLink RX2 69 yX2_countPairsOfRow ∈ lw_tbl := lw_t3 148 rfl
set_option maxRecDepth 20000 in
theorem lxwsX11_ask_r3 : ∀ w ∈ wsX11_ask_r3, w ∈ lw_tbl := List.forall_mem_cons.mpr ⟨lx_64, List.forall_mem_cons.mpr ⟨lx_753, List.forall_mem_cons.mpr ⟨lx_54, List.forall_mem_cons.mpr ⟨lx_56, List.forall_mem_cons.mpr ⟨lx_55, List.forall_mem_cons.mpr ⟨lx_752, List.forall_mem_cons.mpr ⟨lx_799, List.forall_mem_cons.mpr ⟨lx_798, List.forall_mem_cons.mpr ⟨lx_797, List.forall_mem_cons.mpr ⟨lx_796, fun _ h => absurd h List.not_mem_nil⟩⟩⟩⟩⟩⟩⟩⟩⟩⟩
set_option maxRecDepth 20000 in
theorem lxwsX11_ask : ∀ w ∈ wsX11_ask, w ∈ lw_tbl := List.forall_mem_cons.mpr ⟨lx_782, List.forall_mem_append.mpr ⟨List.forall_mem_append.mpr ⟨List.forall_mem_append.mpr ⟨List.forall_mem_append.mpr ⟨List.forall_mem_append.mpr ⟨lxwsX11_ask_r1, List.forall_mem_append.mpr ⟨lxwsX11_ask_r2, lxwsX11_ask_r3⟩⟩, inX11⟩, inX10⟩, inX2⟩, inX8⟩⟩
set_option maxRecDepth 20000 in
theorem gg_X11_ask : GoodIn lw_tbl wsX11_ask := goodIn_sub lxwsX11_ask (by decide +kernel)
theorem lx_800 : Cond.selects RX11 yX11_ask yX11_ask ∈ lw_tbl := lw_t3 138 rfl
theorem lx_801 : Cond.instanceMethod yX11_ask ∈ lw_tbl := lw_t3 137 rfl
theorem lx_802 : Cond.methodLink RL 97 yX11_ask ∈ lw_tbl := lw_t3 136 rfl
set_option maxRecDepth 20000 in
theorem gL_X11_ask : GoodIn lw_tbl (wsV RL 97 RX11 yX11_ask wsX11_ask) := goodIn_app (goodIn_sub (List.forall_mem_cons.mpr ⟨lx_802, List.forall_mem_cons.mpr ⟨lx_801, List.forall_mem_cons.mpr ⟨lx_800, List.forall_mem_cons.mpr ⟨lx_165, fun _ h => absurd h List.not_mem_nil⟩⟩⟩⟩) (by decide +kernel)) gg_X11_ask
theorem lx_803 : Cond.code yX12_ask cX12_ask 7 (some .int) ∈ lw_tbl := lw_t5 148 rfl
theorem lx_804 : Cond.methodLink RX12 316 yX12_mostLeft ∈ lw_tbl := lw_t5 149 rfl
set_option maxRecDepth 20000 in
theorem lxwsX12_ask_r1 : ∀ w ∈ wsX12_ask_r1, w ∈ lw_tbl := List.forall_mem_cons.mpr ⟨lx_778, List.forall_mem_cons.mpr ⟨lx_182, List.forall_mem_cons.mpr ⟨lx_181, List.forall_mem_cons.mpr ⟨lx_185, List.forall_mem_cons.mpr ⟨lx_180, List.forall_mem_cons.mpr ⟨lx_777, List.forall_mem_cons.mpr ⟨lx_776, List.forall_mem_cons.mpr ⟨lx_775, List.forall_mem_cons.mpr ⟨lx_774, List.forall_mem_cons.mpr ⟨lx_773, List.forall_mem_cons.mpr ⟨lx_127, List.forall_mem_cons.mpr ⟨lx_772, List.forall_mem_cons.mpr ⟨lx_771, List.forall_mem_cons.mpr ⟨lx_770, List.forall_mem_cons.mpr ⟨lx_769, List.forall_mem_cons.mpr ⟨lx_725, List.forall_mem_cons.mpr ⟨lx_128, List.forall_mem_cons.mpr ⟨lx_139, List.forall_mem_cons.mpr ⟨lx_138, List.forall_mem_cons.mpr ⟨lx_768, List.forall_mem_cons.mpr ⟨lx_767, List.forall_mem_cons.mpr ⟨lx_766, List.forall_mem_cons.mpr ⟨lx_765, List.forall_mem_cons.mpr ⟨lx_804, fun _ h => absurd h List.not_mem_nil⟩⟩⟩⟩⟩⟩⟩⟩⟩⟩⟩⟩⟩⟩⟩⟩⟩⟩⟩⟩⟩⟩⟩⟩
theorem lx_805 : Cond.code yX12_mostLeft cX12_mostLeft 5 (some .int) ∈ lw_tbl := lw_t5 152 rfl
theorem lx_806 : Cond.selects RX12 yX12_mostLeft yX12_mostLeft ∈ lw_tbl := lw_s4 10 rfl rfl
theorem lx_807 : Cond.instanceMethod yX12_mostLeft ∈ lw_tbl := lw_t5 151 rfl
set_option maxRecDepth 20000 in
theorem lxwsX12_ask_r2 : ∀ w ∈ wsX12_ask_r2, w ∈ lw_tbl := List.forall_mem_cons.mpr ⟨lx_807, List.forall_mem_cons.mpr ⟨lx_806, List.forall_mem_cons.mpr ⟨lx_805, fun _ h => absurd h List.not_mem_nil⟩⟩⟩
set_option maxRecDepth 20000 in
theorem lxwsX12_ask : ∀ w ∈ wsX12_ask, w ∈ lw_tbl := List.forall_mem_cons.mpr ⟨lx_803, List.forall_mem_append.mpr ⟨List.forall_mem_append.mpr ⟨lxwsX12_ask_r1, lxwsX12_ask_r2⟩, inX12⟩⟩
set_option maxRecDepth 20000 in
theorem gg_X12_ask : GoodIn lw_tbl wsX12_ask := goodIn_sub lxwsX12_ask (by decide +kernel)
theorem lx_808 : Cond.selects RX12 yX12_ask yX12_ask ∈ lw_tbl := lw_t5 147 rfl
theorem lx_809 : Cond.instanceMethod yX12_ask ∈ lw_tbl := lw_t5 146 rfl
theorem lx_810 : Cond.methodLink RL 100 yX12_ask ∈ lw_tbl := lw_t5 145 rfl
set_option maxRecDepth 20000 in
theorem gL_X12_ask : GoodIn lw_tbl (wsV RL 100 RX12 yX12_ask wsX12_ask) := goodIn_app (goodIn_sub (List.forall_mem_cons.mpr ⟨lx_810, List.forall_mem_cons.mpr ⟨lx_809, List.forall_mem_cons.mpr ⟨lx_808, List.forall_mem_cons.mpr ⟨lx_185, fun _ h => absurd h List.not_mem_nil⟩⟩⟩⟩) (by decide +kernel)) gg_X12_ask
theorem lx_811 : Cond.code yX11_shelf cX11_shelf 5 (some .int) ∈ lw_tbl := lw_t3 155 rfl
theorem lx_812 : Cond.code yX7_growToNext cX7_growToNext 3 none ∈ lw_tbl := lw_t3 168 rfl
theorem lx_813 : Cond.selects RX7 yX7_growToNext yX7_growToNext ∈ lw_tbl := lw_s2 0 rfl rfl
theorem lx_814 : Cond.instanceMethod yX7_growToNext ∈ lw_tbl := lw_t3 167 rfl
theorem lx_815 : Cond.methodLink RX7 39 yX7_growToNext ∈ lw_tbl := lw_t3 165 rfl
theorem lx_816 : Cond.methodLink RX7 35 yX5_fill ∈ lw_tbl := lw_t3 164 rfl
theorem lx_817 : Cond.code yX7_learn cX7_learn 3 none ∈ lw_tbl := lw_t3 163 rfl
theorem lx_818 : Cond.selects RX7 yX7_learn yX7_learn ∈ lw_tbl := lw_s1 15 rfl rfl
theorem lx_819 : Cond.instanceMethod yX7_learn ∈ lw_tbl := lw_t3 162 rfl
theorem lx_820 : Cond.methodLink RX7 22 yX7_learn ∈ lw_tbl := lw_t3 160 rfl
theorem lx_821 : Cond.code yX7_firstWinning cX7_firstWinning 4 (some .int) ∈ lw_tbl := lw_t3 159 rfl
theorem lx_822 : Cond.selects RX7 yX7_firstWinning yX7_firstWinning ∈ lw_tbl := lw_t3 158 rfl
theorem lx_823 : Cond.instanceMethod yX7_firstWinning ∈ lw_tbl := lw_t3 157 rfl
theorem lx_824 : Cond.methodLink RX11 264 yX7_firstWinning ∈ lw_tbl := lw_t3 156 rfl
set_option maxRecDepth 20000 in
theorem lxwsX11_shelf_r1 : ∀ w ∈ wsX11_shelf_r1, w ∈ lw_tbl := List.forall_mem_cons.mpr ⟨lx_37, List.forall_mem_cons.mpr ⟨lx_163, List.forall_mem_cons.mpr ⟨lx_162, List.forall_mem_cons.mpr ⟨lx_51, List.forall_mem_cons.mpr ⟨lx_161, List.forall_mem_cons.mpr ⟨lx_824, List.forall_mem_cons.mpr ⟨lx_823, List.forall_mem_cons.mpr ⟨lx_822, List.forall_mem_cons.mpr ⟨lx_38, List.forall_mem_cons.mpr ⟨lx_821, List.forall_mem_cons.mpr ⟨lx_99, List.forall_mem_cons.mpr ⟨lx_100, List.forall_mem_cons.mpr ⟨lx_820, List.forall_mem_cons.mpr ⟨lx_819, List.forall_mem_cons.mpr ⟨lx_818, List.forall_mem_cons.mpr ⟨lx_817, List.forall_mem_cons.mpr ⟨lx_101, List.forall_mem_cons.mpr ⟨lx_816, List.forall_mem_cons.mpr ⟨lx_96, List.forall_mem_cons.mpr ⟨lx_95, List.forall_mem_cons.mpr ⟨lx_815, List.forall_mem_cons.mpr ⟨lx_814, List.forall_mem_cons.mpr ⟨lx_813, List.forall_mem_cons.mpr ⟨lx_812, fun _ h => absurd h List.not_mem_nil⟩⟩⟩⟩⟩⟩⟩⟩⟩⟩⟩⟩⟩⟩⟩⟩⟩⟩⟩⟩⟩⟩⟩⟩
theorem lx_825 : Cond.code yX7_isLost cX7_isLost 2 (some .boolean) ∈ lw_tbl := lw_t3 183 rfl
theorem lx_826 : Cond.selects RX7 yX7_isLost yX7_isLost ∈ lw_tbl := lw_s2 3 rfl rfl
theorem lx_827 : Cond.instanceMethod yX7_isLost ∈ lw_tbl := lw_t3 182 rfl
theorem lx_828 : Cond.methodLink RX7 50 yX7_isLost ∈ lw_tbl := lw_t3 180 rfl
theorem lx_829 : Cond.methodLink RX7 54 Lib.Math.min.name ∈ lw_tbl := lw_t3 179 rfl
theorem lx_830 : Cond.code yX7_codeAfter cX7_codeAfter 6 (some .int) ∈ lw_tbl := lw_t3 178 rfl
theorem lx_831 : Cond.selects RX7 yX7_codeAfter yX7_codeAfter ∈ lw_tbl := lw_s2 2 rfl rfl
theorem lx_832 : Cond.instanceMethod yX7_codeAfter ∈ lw_tbl := lw_t3 177 rfl
theorem lx_833 : Cond.methodLink RX7 42 yX7_codeAfter ∈ lw_tbl := lw_t3 175 rfl
theorem lx_834 : Cond.code yX7_leastWinning cX7_leastWinning 3 (some .int) ∈ lw_tbl := lw_t3 174 rfl
theorem lx_835 : Cond.selects RX7 yX7_leastWinning yX7_leastWinning ∈ lw_tbl := lw_s2 1 rfl rfl
theorem lx_836 : Cond.instanceMethod yX7_leastWinning ∈ lw_tbl := lw_t3 173 rfl
theorem lx_837 : Cond.methodLink RX7 31 yX7_leastWinning ∈ lw_tbl := lw_t3 171 rfl
theorem lx_838 : Cond.methodLink RX7 25 yX5_put ∈ lw_tbl := lw_t3 170 rfl
theorem lx_839 : Cond.methodLink RX7 46 yX5_at ∈ lw_tbl := lw_t3 169 rfl
set_option maxRecDepth 20000 in
theorem lxwsX11_shelf_r2 : ∀ w ∈ wsX11_shelf_r2, w ∈ lw_tbl := List.forall_mem_cons.mpr ⟨lx_839, List.forall_mem_cons.mpr ⟨lx_156, List.forall_mem_cons.mpr ⟨lx_155, List.forall_mem_cons.mpr ⟨lx_838, List.forall_mem_cons.mpr ⟨lx_52, List.forall_mem_cons.mpr ⟨lx_50, List.forall_mem_cons.mpr ⟨lx_837, List.forall_mem_cons.mpr ⟨lx_836, List.forall_mem_cons.mpr ⟨lx_835, List.forall_mem_cons.mpr ⟨lx_834, List.forall_mem_cons.mpr ⟨lx_833, List.forall_mem_cons.mpr ⟨lx_832, List.forall_mem_cons.mpr ⟨lx_831, List.forall_mem_cons.mpr ⟨lx_830, List.forall_mem_cons.mpr ⟨lx_829, List.forall_mem_cons.mpr ⟨lx_391, List.forall_mem_cons.mpr ⟨lx_322, List.forall_mem_cons.mpr ⟨lx_390, List.forall_mem_cons.mpr ⟨lx_828, List.forall_mem_cons.mpr ⟨lx_827, List.forall_mem_cons.mpr ⟨lx_826, List.forall_mem_cons.mpr ⟨lx_825, fun _ h => absurd h List.not_mem_nil⟩⟩⟩⟩⟩⟩⟩⟩⟩⟩⟩⟩⟩⟩⟩⟩⟩⟩⟩⟩⟩⟩
set_option maxRecDepth 20000 in
theorem lxwsX11_shelf : ∀ w ∈ wsX11_shelf, w ∈ lw_tbl := List.forall_mem_cons.mpr ⟨lx_811, List.forall_mem_append.mpr ⟨List.forall_mem_append.mpr ⟨List.forall_mem_append.mpr ⟨lxwsX11_shelf_r1, lxwsX11_shelf_r2⟩, inX11⟩, inX7⟩⟩
set_option maxRecDepth 20000 in
theorem gg_X11_shelf : GoodIn lw_tbl wsX11_shelf := goodIn_sub lxwsX11_shelf (by decide +kernel)
theorem lx_840 : Cond.selects RX11 yX11_shelf yX11_shelf ∈ lw_tbl := lw_t3 154 rfl
theorem lx_841 : Cond.instanceMethod yX11_shelf ∈ lw_tbl := lw_t3 153 rfl
theorem lx_842 : Cond.methodLink RL 101 yX11_shelf ∈ lw_tbl := lw_t3 152 rfl
set_option maxRecDepth 20000 in
theorem gL_X11_shelf : GoodIn lw_tbl (wsV RL 101 RX11 yX11_shelf wsX11_shelf) := goodIn_app (goodIn_sub (List.forall_mem_cons.mpr ⟨lx_842, List.forall_mem_cons.mpr ⟨lx_841, List.forall_mem_cons.mpr ⟨lx_840, List.forall_mem_cons.mpr ⟨lx_165, fun _ h => absurd h List.not_mem_nil⟩⟩⟩⟩) (by decide +kernel)) gg_X11_shelf
theorem lx_843 : Cond.code yX12_shelf cX12_shelf 6 (some .int) ∈ lw_tbl := lw_t5 156 rfl
theorem lx_844 : Cond.code yX12_without cX12_without 6 (some .int) ∈ lw_tbl := lw_t5 169 rfl
theorem lx_845 : Cond.selects RX12 yX12_without yX12_without ∈ lw_tbl := lw_s4 13 rfl rfl
theorem lx_846 : Cond.instanceMethod yX12_without ∈ lw_tbl := lw_t5 168 rfl
theorem lx_847 : Cond.methodLink RX12 319 yX12_without ∈ lw_tbl := lw_t5 166 rfl
theorem lx_848 : Cond.code yX12_leastPoint cX12_leastPoint 3 (some .int) ∈ lw_tbl := lw_t5 165 rfl
theorem lx_849 : Cond.selects RX12 yX12_leastPoint yX12_leastPoint ∈ lw_tbl := lw_s4 12 rfl rfl
theorem lx_850 : Cond.instanceMethod yX12_leastPoint ∈ lw_tbl := lw_t5 164 rfl
theorem lx_851 : Cond.methodLink RX12 327 yX12_leastPoint ∈ lw_tbl := lw_t5 162 rfl
theorem lx_852 : Cond.code yX12_readShelf cX12_readShelf 5 (some .boolean) ∈ lw_tbl := lw_t5 161 rfl
theorem lx_853 : Cond.selects RX12 yX12_readShelf yX12_readShelf ∈ lw_tbl := lw_s4 11 rfl rfl
theorem lx_854 : Cond.instanceMethod yX12_readShelf ∈ lw_tbl := lw_t5 160 rfl
theorem lx_855 : Cond.methodLink RX12 324 yX12_readShelf ∈ lw_tbl := lw_t5 158 rfl
theorem lx_856 : Cond.constantLong RX12 322 (5) ∈ lw_tbl := lw_t5 157 rfl
set_option maxRecDepth 20000 in
theorem lxwsX12_shelf : ∀ w ∈ wsX12_shelf, w ∈ lw_tbl := List.forall_mem_cons.mpr ⟨lx_843, List.forall_mem_append.mpr ⟨List.forall_mem_cons.mpr ⟨lx_856, List.forall_mem_cons.mpr ⟨lx_152, List.forall_mem_cons.mpr ⟨lx_182, List.forall_mem_cons.mpr ⟨lx_181, List.forall_mem_cons.mpr ⟨lx_185, List.forall_mem_cons.mpr ⟨lx_180, List.forall_mem_cons.mpr ⟨lx_855, List.forall_mem_cons.mpr ⟨lx_854, List.forall_mem_cons.mpr ⟨lx_853, List.forall_mem_cons.mpr ⟨lx_852, List.forall_mem_cons.mpr ⟨lx_151, List.forall_mem_cons.mpr ⟨lx_851, List.forall_mem_cons.mpr ⟨lx_850, List.forall_mem_cons.mpr ⟨lx_849, List.forall_mem_cons.mpr ⟨lx_848, List.forall_mem_cons.mpr ⟨lx_847, List.forall_mem_cons.mpr ⟨lx_846, List.forall_mem_cons.mpr ⟨lx_845, List.forall_mem_cons.mpr ⟨lx_844, fun _ h => absurd h List.not_mem_nil⟩⟩⟩⟩⟩⟩⟩⟩⟩⟩⟩⟩⟩⟩⟩⟩⟩⟩⟩, inX12⟩⟩
set_option maxRecDepth 20000 in
theorem gg_X12_shelf : GoodIn lw_tbl wsX12_shelf := goodIn_sub lxwsX12_shelf (by decide +kernel)
theorem lx_857 : Cond.selects RX12 yX12_shelf yX12_shelf ∈ lw_tbl := lw_t5 155 rfl
theorem lx_858 : Cond.instanceMethod yX12_shelf ∈ lw_tbl := lw_t5 154 rfl
theorem lx_859 : Cond.methodLink RL 104 yX12_shelf ∈ lw_tbl := lw_t5 153 rfl
set_option maxRecDepth 20000 in
theorem gL_X12_shelf : GoodIn lw_tbl (wsV RL 104 RX12 yX12_shelf wsX12_shelf) := goodIn_app (goodIn_sub (List.forall_mem_cons.mpr ⟨lx_859, List.forall_mem_cons.mpr ⟨lx_858, List.forall_mem_cons.mpr ⟨lx_857, List.forall_mem_cons.mpr ⟨lx_185, fun _ h => absurd h List.not_mem_nil⟩⟩⟩⟩) (by decide +kernel)) gg_X12_shelf
theorem lx_860 : Cond.code yX11_doors cX11_doors 7 (some .long) ∈ lw_tbl := lw_t3 187 rfl
theorem lx_861 : Cond.methodLink RX11 270 yX1_waysTo ∈ lw_tbl := lw_t3 196 rfl
theorem lx_862 : Cond.code yX1_waysTo cX1_waysTo 2 (some .long) ∈ lw_tbl := lw_t3 195 rfl
theorem lx_863 : Cond.selects RX1 yX1_waysTo yX1_waysTo ∈ lw_tbl := lw_t3 194 rfl
theorem lx_864 : Cond.instanceMethod yX1_waysTo ∈ lw_tbl := lw_t3 193 rfl
theorem lx_865 : Cond.methodLink RX1 17 yX1_waysTo ∈ lw_tbl := lw_t3 192 rfl
theorem lx_866 : Cond.fieldLink RX1 13 "TwiceStolen$Chances" "allWays" "J" ∈ lw_tbl := lw_t2 27 rfl
theorem lx_867 : Cond.code yX1_countWays cX1_countWays 5 none ∈ lw_tbl := lw_t3 191 rfl
theorem lx_868 : Cond.selects RX1 yX1_countWays yX1_countWays ∈ lw_tbl := lw_t3 190 rfl
theorem lx_869 : Cond.instanceMethod yX1_countWays ∈ lw_tbl := lw_t3 189 rfl
theorem lx_870 : Cond.methodLink RX11 267 yX1_countWays ∈ lw_tbl := lw_t3 188 rfl
theorem lx_871 : Cond.fieldLink RX11 274 "TwiceStolen$Chances" "allWays" "J" ∈ lw_tbl := lw_t2 28 rfl
set_option maxRecDepth 20000 in
theorem lxwsX11_doors_r1 : ∀ w ∈ wsX11_doors_r1, w ∈ lw_tbl := List.forall_mem_cons.mpr ⟨lx_659, List.forall_mem_cons.mpr ⟨lx_33, List.forall_mem_cons.mpr ⟨lx_871, List.forall_mem_cons.mpr ⟨lx_163, List.forall_mem_cons.mpr ⟨lx_162, List.forall_mem_cons.mpr ⟨lx_51, List.forall_mem_cons.mpr ⟨lx_161, List.forall_mem_cons.mpr ⟨lx_870, List.forall_mem_cons.mpr ⟨lx_869, List.forall_mem_cons.mpr ⟨lx_868, List.forall_mem_cons.mpr ⟨lx_34, List.forall_mem_cons.mpr ⟨lx_867, List.forall_mem_cons.mpr ⟨lx_121, List.forall_mem_cons.mpr ⟨lx_866, List.forall_mem_cons.mpr ⟨lx_865, List.forall_mem_cons.mpr ⟨lx_864, List.forall_mem_cons.mpr ⟨lx_863, List.forall_mem_cons.mpr ⟨lx_862, List.forall_mem_cons.mpr ⟨lx_861, List.forall_mem_cons.mpr ⟨lx_665, List.forall_mem_cons.mpr ⟨lx_664, List.forall_mem_cons.mpr ⟨lx_663, List.forall_mem_cons.mpr ⟨lx_662, List.forall_mem_cons.mpr ⟨lx_661, fun _ h => absurd h List.not_mem_nil⟩⟩⟩⟩⟩⟩⟩⟩⟩⟩⟩⟩⟩⟩⟩⟩⟩⟩⟩⟩⟩⟩⟩⟩
set_option maxRecDepth 20000 in
theorem lxwsX11_doors_r2 : ∀ w ∈ wsX11_doors_r2, w ∈ lw_tbl := List.forall_mem_cons.mpr ⟨lx_660, fun _ h => absurd h List.not_mem_nil⟩
set_option maxRecDepth 20000 in
theorem lxwsX11_doors : ∀ w ∈ wsX11_doors, w ∈ lw_tbl := List.forall_mem_cons.mpr ⟨lx_860, List.forall_mem_append.mpr ⟨List.forall_mem_append.mpr ⟨List.forall_mem_append.mpr ⟨lxwsX11_doors_r1, lxwsX11_doors_r2⟩, inX11⟩, inX1⟩⟩
set_option maxRecDepth 20000 in
theorem gg_X11_doors : GoodIn lw_tbl wsX11_doors := goodIn_sub lxwsX11_doors (by decide +kernel)
theorem lx_872 : Cond.selects RX11 yX11_doors yX11_doors ∈ lw_tbl := lw_t3 186 rfl
theorem lx_873 : Cond.instanceMethod yX11_doors ∈ lw_tbl := lw_t3 185 rfl
theorem lx_874 : Cond.methodLink RL 105 yX11_doors ∈ lw_tbl := lw_t3 184 rfl
set_option maxRecDepth 20000 in
theorem gL_X11_doors : GoodIn lw_tbl (wsV RL 105 RX11 yX11_doors wsX11_doors) := goodIn_app (goodIn_sub (List.forall_mem_cons.mpr ⟨lx_874, List.forall_mem_cons.mpr ⟨lx_873, List.forall_mem_cons.mpr ⟨lx_872, List.forall_mem_cons.mpr ⟨lx_165, fun _ h => absurd h List.not_mem_nil⟩⟩⟩⟩) (by decide +kernel)) gg_X11_doors
theorem lx_875 : Cond.code yX12_doors cX12_doors 7 (some .long) ∈ lw_tbl := lw_t5 173 rfl
theorem lx_876 : Cond.code yX12_oneThief cX12_oneThief 3 none ∈ lw_tbl := lw_t5 178 rfl
theorem lx_877 : Cond.selects RX12 yX12_oneThief yX12_oneThief ∈ lw_tbl := lw_s4 14 rfl rfl
theorem lx_878 : Cond.instanceMethod yX12_oneThief ∈ lw_tbl := lw_t5 177 rfl
theorem lx_879 : Cond.methodLink RX12 332 yX12_oneThief ∈ lw_tbl := lw_t5 175 rfl
theorem lx_880 : Cond.constantLong RX12 330 (12) ∈ lw_tbl := lw_t5 174 rfl
set_option maxRecDepth 20000 in
theorem lxwsX12_doors : ∀ w ∈ wsX12_doors, w ∈ lw_tbl := List.forall_mem_cons.mpr ⟨lx_875, List.forall_mem_append.mpr ⟨List.forall_mem_cons.mpr ⟨lx_880, List.forall_mem_cons.mpr ⟨lx_693, List.forall_mem_cons.mpr ⟨lx_694, List.forall_mem_cons.mpr ⟨lx_150, List.forall_mem_cons.mpr ⟨lx_182, List.forall_mem_cons.mpr ⟨lx_181, List.forall_mem_cons.mpr ⟨lx_185, List.forall_mem_cons.mpr ⟨lx_180, List.forall_mem_cons.mpr ⟨lx_879, List.forall_mem_cons.mpr ⟨lx_878, List.forall_mem_cons.mpr ⟨lx_877, List.forall_mem_cons.mpr ⟨lx_876, List.forall_mem_cons.mpr ⟨lx_700, List.forall_mem_cons.mpr ⟨lx_699, List.forall_mem_cons.mpr ⟨lx_698, List.forall_mem_cons.mpr ⟨lx_697, List.forall_mem_cons.mpr ⟨lx_696, List.forall_mem_cons.mpr ⟨lx_695, fun _ h => absurd h List.not_mem_nil⟩⟩⟩⟩⟩⟩⟩⟩⟩⟩⟩⟩⟩⟩⟩⟩⟩⟩, inX12⟩⟩
set_option maxRecDepth 20000 in
theorem gg_X12_doors : GoodIn lw_tbl wsX12_doors := goodIn_sub lxwsX12_doors (by decide +kernel)
theorem lx_881 : Cond.selects RX12 yX12_doors yX12_doors ∈ lw_tbl := lw_t5 172 rfl
theorem lx_882 : Cond.instanceMethod yX12_doors ∈ lw_tbl := lw_t5 171 rfl
theorem lx_883 : Cond.methodLink RL 108 yX12_doors ∈ lw_tbl := lw_t5 170 rfl
set_option maxRecDepth 20000 in
theorem gL_X12_doors : GoodIn lw_tbl (wsV RL 108 RX12 yX12_doors wsX12_doors) := goodIn_app (goodIn_sub (List.forall_mem_cons.mpr ⟨lx_883, List.forall_mem_cons.mpr ⟨lx_882, List.forall_mem_cons.mpr ⟨lx_881, List.forall_mem_cons.mpr ⟨lx_185, fun _ h => absurd h List.not_mem_nil⟩⟩⟩⟩) (by decide +kernel)) gg_X12_doors
theorem lx_884 : Cond.code yX11_year cX11_year 4 (some .int) ∈ lw_tbl := lw_t3 200 rfl
set_option maxRecDepth 20000 in
theorem lxwsX11_year_r1 : ∀ w ∈ wsX11_year_r1, w ∈ lw_tbl := List.forall_mem_cons.mpr ⟨lx_17, List.forall_mem_cons.mpr ⟨lx_18, List.forall_mem_cons.mpr ⟨lx_195, List.forall_mem_cons.mpr ⟨lx_163, List.forall_mem_cons.mpr ⟨lx_162, List.forall_mem_cons.mpr ⟨lx_51, List.forall_mem_cons.mpr ⟨lx_161, List.forall_mem_cons.mpr ⟨lx_541, List.forall_mem_cons.mpr ⟨lx_351, List.forall_mem_cons.mpr ⟨lx_350, List.forall_mem_cons.mpr ⟨lx_19, List.forall_mem_cons.mpr ⟨lx_349, List.forall_mem_cons.mpr ⟨lx_72, List.forall_mem_cons.mpr ⟨lx_71, List.forall_mem_cons.mpr ⟨lx_70, List.forall_mem_cons.mpr ⟨lx_69, List.forall_mem_cons.mpr ⟨lx_68, List.forall_mem_cons.mpr ⟨lx_67, List.forall_mem_cons.mpr ⟨lx_63, List.forall_mem_cons.mpr ⟨lx_62, List.forall_mem_cons.mpr ⟨lx_61, List.forall_mem_cons.mpr ⟨lx_348, List.forall_mem_cons.mpr ⟨lx_347, List.forall_mem_cons.mpr ⟨lx_346, fun _ h => absurd h List.not_mem_nil⟩⟩⟩⟩⟩⟩⟩⟩⟩⟩⟩⟩⟩⟩⟩⟩⟩⟩⟩⟩⟩⟩⟩⟩
theorem lx_885 : Cond.methodLink RX11 305 yX10_act ∈ lw_tbl := lw_t3 208 rfl
theorem lx_886 : Cond.code yX11_kindInYear cX11_kindInYear 1 (some .int) ∈ lw_tbl := lw_t3 207 rfl
theorem lx_887 : Cond.static yX11_kindInYear ∈ lw_tbl := lw_t3 206 rfl
theorem lx_888 : Cond.methodLink RX11 302 yX11_kindInYear ∈ lw_tbl := lw_t3 205 rfl
theorem lx_889 : Cond.constant RX11 301 (65537) ∈ lw_tbl := lw_t3 204 rfl
theorem lx_890 : Cond.code yX11_liveThrough cX11_liveThrough 6 none ∈ lw_tbl := lw_t3 203 rfl
theorem lx_891 : Cond.static yX11_liveThrough ∈ lw_tbl := lw_t3 202 rfl
theorem lx_892 : Cond.methodLink RX11 277 yX11_liveThrough ∈ lw_tbl := lw_t3 201 rfl
set_option maxRecDepth 20000 in
theorem lxwsX11_year_r2 : ∀ w ∈ wsX11_year_r2, w ∈ lw_tbl := List.forall_mem_cons.mpr ⟨lx_345, List.forall_mem_cons.mpr ⟨lx_156, List.forall_mem_cons.mpr ⟨lx_155, List.forall_mem_cons.mpr ⟨lx_344, List.forall_mem_cons.mpr ⟨lx_343, List.forall_mem_cons.mpr ⟨lx_342, List.forall_mem_cons.mpr ⟨lx_64, List.forall_mem_cons.mpr ⟨lx_374, List.forall_mem_cons.mpr ⟨lx_56, List.forall_mem_cons.mpr ⟨lx_55, List.forall_mem_cons.mpr ⟨lx_54, List.forall_mem_cons.mpr ⟨lx_373, List.forall_mem_cons.mpr ⟨lx_892, List.forall_mem_cons.mpr ⟨lx_891, List.forall_mem_cons.mpr ⟨lx_165, List.forall_mem_cons.mpr ⟨lx_890, List.forall_mem_cons.mpr ⟨lx_889, List.forall_mem_cons.mpr ⟨lx_888, List.forall_mem_cons.mpr ⟨lx_887, List.forall_mem_cons.mpr ⟨lx_886, List.forall_mem_cons.mpr ⟨lx_885, List.forall_mem_cons.mpr ⟨lx_358, List.forall_mem_cons.mpr ⟨lx_357, List.forall_mem_cons.mpr ⟨lx_356, fun _ h => absurd h List.not_mem_nil⟩⟩⟩⟩⟩⟩⟩⟩⟩⟩⟩⟩⟩⟩⟩⟩⟩⟩⟩⟩⟩⟩⟩⟩
set_option maxRecDepth 20000 in
theorem lxwsX11_year_r3 : ∀ w ∈ wsX11_year_r3, w ∈ lw_tbl := List.forall_mem_cons.mpr ⟨lx_355, List.forall_mem_cons.mpr ⟨lx_395, List.forall_mem_cons.mpr ⟨lx_394, List.forall_mem_cons.mpr ⟨lx_393, List.forall_mem_cons.mpr ⟨lx_392, List.forall_mem_cons.mpr ⟨lx_391, List.forall_mem_cons.mpr ⟨lx_322, List.forall_mem_cons.mpr ⟨lx_390, List.forall_mem_cons.mpr ⟨lx_211, List.forall_mem_cons.mpr ⟨lx_389, List.forall_mem_cons.mpr ⟨lx_388, List.forall_mem_cons.mpr ⟨lx_387, List.forall_mem_cons.mpr ⟨lx_386, List.forall_mem_cons.mpr ⟨lx_385, List.forall_mem_cons.mpr ⟨lx_384, List.forall_mem_cons.mpr ⟨lx_383, List.forall_mem_cons.mpr ⟨lx_382, List.forall_mem_cons.mpr ⟨lx_53, List.forall_mem_cons.mpr ⟨lx_52, List.forall_mem_cons.mpr ⟨lx_50, List.forall_mem_cons.mpr ⟨lx_381, List.forall_mem_cons.mpr ⟨lx_380, List.forall_mem_cons.mpr ⟨lx_379, List.forall_mem_cons.mpr ⟨lx_378, fun _ h => absurd h List.not_mem_nil⟩⟩⟩⟩⟩⟩⟩⟩⟩⟩⟩⟩⟩⟩⟩⟩⟩⟩⟩⟩⟩⟩⟩⟩
set_option maxRecDepth 20000 in
theorem lxwsX11_year_r4 : ∀ w ∈ wsX11_year_r4, w ∈ lw_tbl := List.forall_mem_cons.mpr ⟨lx_377, List.forall_mem_cons.mpr ⟨lx_376, List.forall_mem_cons.mpr ⟨lx_375, List.forall_mem_cons.mpr ⟨lx_419, List.forall_mem_cons.mpr ⟨lx_418, List.forall_mem_cons.mpr ⟨lx_417, List.forall_mem_cons.mpr ⟨lx_416, List.forall_mem_cons.mpr ⟨lx_415, List.forall_mem_cons.mpr ⟨lx_414, List.forall_mem_cons.mpr ⟨lx_362, List.forall_mem_cons.mpr ⟨lx_361, List.forall_mem_cons.mpr ⟨lx_360, List.forall_mem_cons.mpr ⟨lx_413, List.forall_mem_cons.mpr ⟨lx_412, List.forall_mem_cons.mpr ⟨lx_411, List.forall_mem_cons.mpr ⟨lx_410, List.forall_mem_cons.mpr ⟨lx_409, List.forall_mem_cons.mpr ⟨lx_408, List.forall_mem_cons.mpr ⟨lx_407, List.forall_mem_cons.mpr ⟨lx_406, List.forall_mem_cons.mpr ⟨lx_405, List.forall_mem_cons.mpr ⟨lx_404, List.forall_mem_cons.mpr ⟨lx_403, List.forall_mem_cons.mpr ⟨lx_402, fun _ h => absurd h List.not_mem_nil⟩⟩⟩⟩⟩⟩⟩⟩⟩⟩⟩⟩⟩⟩⟩⟩⟩⟩⟩⟩⟩⟩⟩⟩
theorem lx_893 : Cond.code yX10_thingsFitForSale cX10_thingsFitForSale 3 (some .int) ∈ lw_tbl := lw_t3 212 rfl
theorem lx_894 : Cond.selects RX10 yX10_thingsFitForSale yX10_thingsFitForSale ∈ lw_tbl := lw_t3 211 rfl
theorem lx_895 : Cond.instanceMethod yX10_thingsFitForSale ∈ lw_tbl := lw_t3 210 rfl
theorem lx_896 : Cond.methodLink RX11 280 yX10_thingsFitForSale ∈ lw_tbl := lw_t3 209 rfl
set_option maxRecDepth 20000 in
theorem lxwsX11_year_r5 : ∀ w ∈ wsX11_year_r5, w ∈ lw_tbl := List.forall_mem_cons.mpr ⟨lx_896, List.forall_mem_cons.mpr ⟨lx_895, List.forall_mem_cons.mpr ⟨lx_894, List.forall_mem_cons.mpr ⟨lx_893, List.forall_mem_cons.mpr ⟨lx_157, List.forall_mem_cons.mpr ⟨lx_516, List.forall_mem_cons.mpr ⟨lx_515, List.forall_mem_cons.mpr ⟨lx_514, List.forall_mem_cons.mpr ⟨lx_513, fun _ h => absurd h List.not_mem_nil⟩⟩⟩⟩⟩⟩⟩⟩⟩
set_option maxRecDepth 20000 in
theorem lxwsX11_year : ∀ w ∈ wsX11_year, w ∈ lw_tbl := List.forall_mem_cons.mpr ⟨lx_884, List.forall_mem_append.mpr ⟨List.forall_mem_append.mpr ⟨List.forall_mem_append.mpr ⟨List.forall_mem_append.mpr ⟨lxwsX11_year_r1, List.forall_mem_append.mpr ⟨lxwsX11_year_r2, List.forall_mem_append.mpr ⟨lxwsX11_year_r3, List.forall_mem_append.mpr ⟨lxwsX11_year_r4, lxwsX11_year_r5⟩⟩⟩⟩, inX11⟩, inX10⟩, inX8⟩⟩
set_option maxRecDepth 20000 in
theorem gg_X11_year : GoodIn lw_tbl wsX11_year := goodIn_sub lxwsX11_year (by decide +kernel)
theorem lx_897 : Cond.selects RX11 yX11_year yX11_year ∈ lw_tbl := lw_t3 199 rfl
theorem lx_898 : Cond.instanceMethod yX11_year ∈ lw_tbl := lw_t3 198 rfl
theorem lx_899 : Cond.methodLink RL 109 yX11_year ∈ lw_tbl := lw_t3 197 rfl
set_option maxRecDepth 20000 in
theorem gL_X11_year : GoodIn lw_tbl (wsV RL 109 RX11 yX11_year wsX11_year) := goodIn_app (goodIn_sub (List.forall_mem_cons.mpr ⟨lx_899, List.forall_mem_cons.mpr ⟨lx_898, List.forall_mem_cons.mpr ⟨lx_897, List.forall_mem_cons.mpr ⟨lx_165, fun _ h => absurd h List.not_mem_nil⟩⟩⟩⟩) (by decide +kernel)) gg_X11_year
theorem lx_900 : Cond.code yX12_year cX12_year 9 (some .int) ∈ lw_tbl := lw_t5 182 rfl
theorem lx_901 : Cond.code yX12_actBy cX12_actBy 1 (some .int) ∈ lw_tbl := lw_t5 188 rfl
theorem lx_902 : Cond.static yX12_actBy ∈ lw_tbl := lw_t5 187 rfl
theorem lx_903 : Cond.methodLink RX12 341 yX12_actBy ∈ lw_tbl := lw_t5 186 rfl
theorem lx_904 : Cond.constantLong RX12 339 (65537) ∈ lw_tbl := lw_t5 185 rfl
theorem lx_905 : Cond.constantLong RX12 337 (74) ∈ lw_tbl := lw_t5 184 rfl
theorem lx_906 : Cond.constantLong RX12 335 (75) ∈ lw_tbl := lw_t5 183 rfl
set_option maxRecDepth 20000 in
theorem lxwsX12_year_r1 : ∀ w ∈ wsX12_year_r1, w ∈ lw_tbl := List.forall_mem_cons.mpr ⟨lx_203, List.forall_mem_cons.mpr ⟨lx_188, List.forall_mem_cons.mpr ⟨lx_438, List.forall_mem_cons.mpr ⟨lx_906, List.forall_mem_cons.mpr ⟨lx_905, List.forall_mem_cons.mpr ⟨lx_904, List.forall_mem_cons.mpr ⟨lx_141, List.forall_mem_cons.mpr ⟨lx_182, List.forall_mem_cons.mpr ⟨lx_181, List.forall_mem_cons.mpr ⟨lx_185, List.forall_mem_cons.mpr ⟨lx_180, List.forall_mem_cons.mpr ⟨lx_430, List.forall_mem_cons.mpr ⟨lx_429, List.forall_mem_cons.mpr ⟨lx_428, List.forall_mem_cons.mpr ⟨lx_427, List.forall_mem_cons.mpr ⟨lx_132, List.forall_mem_cons.mpr ⟨lx_145, List.forall_mem_cons.mpr ⟨lx_144, List.forall_mem_cons.mpr ⟨lx_147, List.forall_mem_cons.mpr ⟨lx_426, List.forall_mem_cons.mpr ⟨lx_903, List.forall_mem_cons.mpr ⟨lx_902, List.forall_mem_cons.mpr ⟨lx_901, List.forall_mem_cons.mpr ⟨lx_457, fun _ h => absurd h List.not_mem_nil⟩⟩⟩⟩⟩⟩⟩⟩⟩⟩⟩⟩⟩⟩⟩⟩⟩⟩⟩⟩⟩⟩⟩⟩
set_option maxRecDepth 20000 in
theorem lxwsX12_year_r2 : ∀ w ∈ wsX12_year_r2, w ∈ lw_tbl := List.forall_mem_cons.mpr ⟨lx_456, List.forall_mem_cons.mpr ⟨lx_455, List.forall_mem_cons.mpr ⟨lx_454, List.forall_mem_cons.mpr ⟨lx_453, List.forall_mem_cons.mpr ⟨lx_452, List.forall_mem_cons.mpr ⟨lx_451, List.forall_mem_cons.mpr ⟨lx_450, List.forall_mem_cons.mpr ⟨lx_449, List.forall_mem_cons.mpr ⟨lx_448, List.forall_mem_cons.mpr ⟨lx_447, List.forall_mem_cons.mpr ⟨lx_446, List.forall_mem_cons.mpr ⟨lx_445, List.forall_mem_cons.mpr ⟨lx_444, List.forall_mem_cons.mpr ⟨lx_443, List.forall_mem_cons.mpr ⟨lx_442, List.forall_mem_cons.mpr ⟨lx_441, List.forall_mem_cons.mpr ⟨lx_440, List.forall_mem_cons.mpr ⟨lx_485, List.forall_mem_cons.mpr ⟨lx_484, List.forall_mem_cons.mpr ⟨lx_483, List.forall_mem_cons.mpr ⟨lx_482, List.forall_mem_cons.mpr ⟨lx_481, List.forall_mem_cons.mpr ⟨lx_143, List.forall_mem_cons.mpr ⟨lx_476, fun _ h => absurd h List.not_mem_nil⟩⟩⟩⟩⟩⟩⟩⟩⟩⟩⟩⟩⟩⟩⟩⟩⟩⟩⟩⟩⟩⟩⟩⟩
theorem lx_907 : Cond.instanceMethod yX12_fitForSale ∈ lw_tbl := lw_t5 191 rfl
theorem lx_908 : Cond.methodLink RX12 344 yX12_fitForSale ∈ lw_tbl := lw_t5 189 rfl
set_option maxRecDepth 20000 in
theorem lxwsX12_year_r3 : ∀ w ∈ wsX12_year_r3, w ∈ lw_tbl := List.forall_mem_cons.mpr ⟨lx_475, List.forall_mem_cons.mpr ⟨lx_474, List.forall_mem_cons.mpr ⟨lx_473, List.forall_mem_cons.mpr ⟨lx_472, List.forall_mem_cons.mpr ⟨lx_471, List.forall_mem_cons.mpr ⟨lx_470, List.forall_mem_cons.mpr ⟨lx_469, List.forall_mem_cons.mpr ⟨lx_140, List.forall_mem_cons.mpr ⟨lx_468, List.forall_mem_cons.mpr ⟨lx_467, List.forall_mem_cons.mpr ⟨lx_466, List.forall_mem_cons.mpr ⟨lx_465, List.forall_mem_cons.mpr ⟨lx_435, List.forall_mem_cons.mpr ⟨lx_458, List.forall_mem_cons.mpr ⟨lx_464, List.forall_mem_cons.mpr ⟨lx_496, List.forall_mem_cons.mpr ⟨lx_495, List.forall_mem_cons.mpr ⟨lx_494, List.forall_mem_cons.mpr ⟨lx_493, List.forall_mem_cons.mpr ⟨lx_492, List.forall_mem_cons.mpr ⟨lx_491, List.forall_mem_cons.mpr ⟨lx_490, List.forall_mem_cons.mpr ⟨lx_908, List.forall_mem_cons.mpr ⟨lx_907, fun _ h => absurd h List.not_mem_nil⟩⟩⟩⟩⟩⟩⟩⟩⟩⟩⟩⟩⟩⟩⟩⟩⟩⟩⟩⟩⟩⟩⟩⟩
theorem lx_909 : Cond.code yX12_fitForSale cX12_fitForSale 3 (some .int) ∈ lw_tbl := lw_t5 192 rfl
theorem lx_910 : Cond.selects RX12 yX12_fitForSale yX12_fitForSale ∈ lw_tbl := lw_s4 15 rfl rfl
set_option maxRecDepth 20000 in
theorem lxwsX12_year_r4 : ∀ w ∈ wsX12_year_r4, w ∈ lw_tbl := List.forall_mem_cons.mpr ⟨lx_910, List.forall_mem_cons.mpr ⟨lx_909, List.forall_mem_cons.mpr ⟨lx_524, List.forall_mem_cons.mpr ⟨lx_523, List.forall_mem_cons.mpr ⟨lx_522, List.forall_mem_cons.mpr ⟨lx_521, List.forall_mem_cons.mpr ⟨lx_489, List.forall_mem_cons.mpr ⟨lx_488, List.forall_mem_cons.mpr ⟨lx_487, List.forall_mem_cons.mpr ⟨lx_486, fun _ h => absurd h List.not_mem_nil⟩⟩⟩⟩⟩⟩⟩⟩⟩⟩
set_option maxRecDepth 20000 in
theorem lxwsX12_year : ∀ w ∈ wsX12_year, w ∈ lw_tbl := List.forall_mem_cons.mpr ⟨lx_900, List.forall_mem_append.mpr ⟨List.forall_mem_append.mpr ⟨lxwsX12_year_r1, List.forall_mem_append.mpr ⟨lxwsX12_year_r2, List.forall_mem_append.mpr ⟨lxwsX12_year_r3, lxwsX12_year_r4⟩⟩⟩, inX12⟩⟩
set_option maxRecDepth 20000 in
theorem gg_X12_year : GoodIn lw_tbl wsX12_year := goodIn_sub lxwsX12_year (by decide +kernel)
theorem lx_911 : Cond.selects RX12 yX12_year yX12_year ∈ lw_tbl := lw_t5 181 rfl
theorem lx_912 : Cond.instanceMethod yX12_year ∈ lw_tbl := lw_t5 180 rfl
theorem lx_913 : Cond.methodLink RL 112 yX12_year ∈ lw_tbl := lw_t5 179 rfl
set_option maxRecDepth 20000 in
theorem gL_X12_year : GoodIn lw_tbl (wsV RL 112 RX12 yX12_year wsX12_year) := goodIn_app (goodIn_sub (List.forall_mem_cons.mpr ⟨lx_913, List.forall_mem_cons.mpr ⟨lx_912, List.forall_mem_cons.mpr ⟨lx_911, List.forall_mem_cons.mpr ⟨lx_185, fun _ h => absurd h List.not_mem_nil⟩⟩⟩⟩) (by decide +kernel)) gg_X12_year
theorem lx_914 : Cond.code yX11_image cX11_image 2 (some .int) ∈ lw_tbl := lw_t3 216 rfl
theorem lx_915 : Cond.code yX11_imageOf cX11_imageOf 2 (some (.object "TwiceStolen$World")) ∈ lw_tbl := lw_t3 220 rfl
theorem lx_916 : Cond.selects RX11 yX11_imageOf yX11_imageOf ∈ lw_tbl := lw_s2 4 rfl rfl
theorem lx_917 : Cond.instanceMethod yX11_imageOf ∈ lw_tbl := lw_t3 219 rfl
theorem lx_918 : Cond.methodLink RX11 283 yX11_imageOf ∈ lw_tbl := lw_t3 217 rfl
set_option maxRecDepth 20000 in
theorem lxwsX11_image_r1 : ∀ w ∈ wsX11_image_r1, w ∈ lw_tbl := List.forall_mem_cons.mpr ⟨lx_18, List.forall_mem_cons.mpr ⟨lx_30, List.forall_mem_cons.mpr ⟨lx_163, List.forall_mem_cons.mpr ⟨lx_162, List.forall_mem_cons.mpr ⟨lx_51, List.forall_mem_cons.mpr ⟨lx_161, List.forall_mem_cons.mpr ⟨lx_918, List.forall_mem_cons.mpr ⟨lx_917, List.forall_mem_cons.mpr ⟨lx_916, List.forall_mem_cons.mpr ⟨lx_165, List.forall_mem_cons.mpr ⟨lx_915, List.forall_mem_cons.mpr ⟨lx_32, List.forall_mem_cons.mpr ⟨lx_31, List.forall_mem_cons.mpr ⟨lx_541, List.forall_mem_cons.mpr ⟨lx_351, List.forall_mem_cons.mpr ⟨lx_350, List.forall_mem_cons.mpr ⟨lx_19, List.forall_mem_cons.mpr ⟨lx_349, List.forall_mem_cons.mpr ⟨lx_72, List.forall_mem_cons.mpr ⟨lx_71, List.forall_mem_cons.mpr ⟨lx_70, List.forall_mem_cons.mpr ⟨lx_69, List.forall_mem_cons.mpr ⟨lx_68, List.forall_mem_cons.mpr ⟨lx_67, fun _ h => absurd h List.not_mem_nil⟩⟩⟩⟩⟩⟩⟩⟩⟩⟩⟩⟩⟩⟩⟩⟩⟩⟩⟩⟩⟩⟩⟩⟩
set_option maxRecDepth 20000 in
theorem lxwsX11_image_r2 : ∀ w ∈ wsX11_image_r2, w ∈ lw_tbl := List.forall_mem_cons.mpr ⟨lx_63, List.forall_mem_cons.mpr ⟨lx_62, List.forall_mem_cons.mpr ⟨lx_61, List.forall_mem_cons.mpr ⟨lx_348, List.forall_mem_cons.mpr ⟨lx_347, List.forall_mem_cons.mpr ⟨lx_346, List.forall_mem_cons.mpr ⟨lx_345, List.forall_mem_cons.mpr ⟨lx_156, List.forall_mem_cons.mpr ⟨lx_155, List.forall_mem_cons.mpr ⟨lx_344, List.forall_mem_cons.mpr ⟨lx_343, List.forall_mem_cons.mpr ⟨lx_342, List.forall_mem_cons.mpr ⟨lx_64, List.forall_mem_cons.mpr ⟨lx_374, List.forall_mem_cons.mpr ⟨lx_56, List.forall_mem_cons.mpr ⟨lx_55, List.forall_mem_cons.mpr ⟨lx_54, List.forall_mem_cons.mpr ⟨lx_373, fun _ h => absurd h List.not_mem_nil⟩⟩⟩⟩⟩⟩⟩⟩⟩⟩⟩⟩⟩⟩⟩⟩⟩⟩
set_option maxRecDepth 20000 in
theorem lxwsX11_image : ∀ w ∈ wsX11_image, w ∈ lw_tbl := List.forall_mem_cons.mpr ⟨lx_914, List.forall_mem_append.mpr ⟨List.forall_mem_append.mpr ⟨List.forall_mem_append.mpr ⟨List.forall_mem_append.mpr ⟨lxwsX11_image_r1, lxwsX11_image_r2⟩, inX11⟩, inX10⟩, inX8⟩⟩
set_option maxRecDepth 20000 in
theorem gg_X11_image : GoodIn lw_tbl wsX11_image := goodIn_sub lxwsX11_image (by decide +kernel)
theorem lx_919 : Cond.selects RX11 yX11_image yX11_image ∈ lw_tbl := lw_t3 215 rfl
theorem lx_920 : Cond.instanceMethod yX11_image ∈ lw_tbl := lw_t3 214 rfl
theorem lx_921 : Cond.methodLink RL 113 yX11_image ∈ lw_tbl := lw_t3 213 rfl
set_option maxRecDepth 20000 in
theorem gL_X11_image : GoodIn lw_tbl (wsV RL 113 RX11 yX11_image wsX11_image) := goodIn_app (goodIn_sub (List.forall_mem_cons.mpr ⟨lx_921, List.forall_mem_cons.mpr ⟨lx_920, List.forall_mem_cons.mpr ⟨lx_919, List.forall_mem_cons.mpr ⟨lx_165, fun _ h => absurd h List.not_mem_nil⟩⟩⟩⟩) (by decide +kernel)) gg_X11_image
theorem lx_922 : Cond.code yX12_image cX12_image 2 (some .int) ∈ lw_tbl := lw_t5 196 rfl
theorem lx_923 : Cond.instanceMethod yX12_pass ∈ lw_tbl := lw_t5 203 rfl
theorem lx_924 : Cond.methodLink RX12 354 yX12_pass ∈ lw_tbl := lw_t5 201 rfl
theorem lx_925 : Cond.code yX12_passAll cX12_passAll 1 none ∈ lw_tbl := lw_t5 200 rfl
theorem lx_926 : Cond.selects RX12 yX12_passAll yX12_passAll ∈ lw_tbl := lw_s5 0 rfl rfl
theorem lx_927 : Cond.instanceMethod yX12_passAll ∈ lw_tbl := lw_t5 199 rfl
theorem lx_928 : Cond.methodLink RX12 361 yX12_passAll ∈ lw_tbl := lw_t5 197 rfl
theorem lx_929 : Cond.fieldLink RX12 347 "TwiceStolenModel" "isWriting" "Z" ∈ lw_tbl := lw_t4 36 rfl
theorem lx_930 : Cond.fieldLink RX12 351 "TwiceStolenModel" "keptAt" "I" ∈ lw_tbl := lw_t4 35 rfl
set_option maxRecDepth 20000 in
theorem lxwsX12_image_r1 : ∀ w ∈ wsX12_image_r1, w ∈ lw_tbl := List.forall_mem_cons.mpr ⟨lx_930, List.forall_mem_cons.mpr ⟨lx_929, List.forall_mem_cons.mpr ⟨lx_148, List.forall_mem_cons.mpr ⟨lx_182, List.forall_mem_cons.mpr ⟨lx_181, List.forall_mem_cons.mpr ⟨lx_185, List.forall_mem_cons.mpr ⟨lx_180, List.forall_mem_cons.mpr ⟨lx_928, List.forall_mem_cons.mpr ⟨lx_927, List.forall_mem_cons.mpr ⟨lx_926, List.forall_mem_cons.mpr ⟨lx_925, List.forall_mem_cons.mpr ⟨lx_147, List.forall_mem_cons.mpr ⟨lx_426, List.forall_mem_cons.mpr ⟨lx_725, List.forall_mem_cons.mpr ⟨lx_145, List.forall_mem_cons.mpr ⟨lx_144, List.forall_mem_cons.mpr ⟨lx_143, List.forall_mem_cons.mpr ⟨lx_142, List.forall_mem_cons.mpr ⟨lx_141, List.forall_mem_cons.mpr ⟨lx_140, List.forall_mem_cons.mpr ⟨lx_139, List.forall_mem_cons.mpr ⟨lx_138, List.forall_mem_cons.mpr ⟨lx_924, List.forall_mem_cons.mpr ⟨lx_923, fun _ h => absurd h List.not_mem_nil⟩⟩⟩⟩⟩⟩⟩⟩⟩⟩⟩⟩⟩⟩⟩⟩⟩⟩⟩⟩⟩⟩⟩⟩
theorem lx_931 : Cond.code yX12_passRow cX12_passRow 4 none ∈ lw_tbl := lw_t5 208 rfl
theorem lx_932 : Cond.selects RX12 yX12_passRow yX12_passRow ∈ lw_tbl := lw_s5 2 rfl rfl
theorem lx_933 : Cond.instanceMethod yX12_passRow ∈ lw_tbl := lw_t5 207 rfl
theorem lx_934 : Cond.methodLink RX12 357 yX12_passRow ∈ lw_tbl := lw_t5 205 rfl
theorem lx_935 : Cond.code yX12_pass cX12_pass 3 (some .int) ∈ lw_tbl := lw_t5 204 rfl
theorem lx_936 : Cond.selects RX12 yX12_pass yX12_pass ∈ lw_tbl := lw_s5 1 rfl rfl
set_option maxRecDepth 20000 in
theorem lxwsX12_image_r2 : ∀ w ∈ wsX12_image_r2, w ∈ lw_tbl := List.forall_mem_cons.mpr ⟨lx_936, List.forall_mem_cons.mpr ⟨lx_935, List.forall_mem_cons.mpr ⟨lx_149, List.forall_mem_cons.mpr ⟨lx_934, List.forall_mem_cons.mpr ⟨lx_933, List.forall_mem_cons.mpr ⟨lx_932, List.forall_mem_cons.mpr ⟨lx_931, fun _ h => absurd h List.not_mem_nil⟩⟩⟩⟩⟩⟩⟩
set_option maxRecDepth 20000 in
theorem lxwsX12_image : ∀ w ∈ wsX12_image, w ∈ lw_tbl := List.forall_mem_cons.mpr ⟨lx_922, List.forall_mem_append.mpr ⟨List.forall_mem_append.mpr ⟨lxwsX12_image_r1, lxwsX12_image_r2⟩, inX12⟩⟩
set_option maxRecDepth 20000 in
theorem gg_X12_image : GoodIn lw_tbl wsX12_image := goodIn_sub lxwsX12_image (by decide +kernel)
theorem lx_937 : Cond.selects RX12 yX12_image yX12_image ∈ lw_tbl := lw_t5 195 rfl
theorem lx_938 : Cond.instanceMethod yX12_image ∈ lw_tbl := lw_t5 194 rfl
theorem lx_939 : Cond.methodLink RL 116 yX12_image ∈ lw_tbl := lw_t5 193 rfl
set_option maxRecDepth 20000 in
theorem gL_X12_image : GoodIn lw_tbl (wsV RL 116 RX12 yX12_image wsX12_image) := goodIn_app (goodIn_sub (List.forall_mem_cons.mpr ⟨lx_939, List.forall_mem_cons.mpr ⟨lx_938, List.forall_mem_cons.mpr ⟨lx_937, List.forall_mem_cons.mpr ⟨lx_185, fun _ h => absurd h List.not_mem_nil⟩⟩⟩⟩) (by decide +kernel)) gg_X12_image
theorem lx_940 : Cond.code yX11_restore cX11_restore 2 (some .int) ∈ lw_tbl := lw_t3 224 rfl
set_option maxRecDepth 20000 in
theorem lxwsX11_restore_r1 : ∀ w ∈ wsX11_restore_r1, w ∈ lw_tbl := List.forall_mem_cons.mpr ⟨lx_30, List.forall_mem_cons.mpr ⟨lx_18, List.forall_mem_cons.mpr ⟨lx_163, List.forall_mem_cons.mpr ⟨lx_162, List.forall_mem_cons.mpr ⟨lx_51, List.forall_mem_cons.mpr ⟨lx_161, List.forall_mem_cons.mpr ⟨lx_918, List.forall_mem_cons.mpr ⟨lx_917, List.forall_mem_cons.mpr ⟨lx_916, List.forall_mem_cons.mpr ⟨lx_165, List.forall_mem_cons.mpr ⟨lx_915, List.forall_mem_cons.mpr ⟨lx_32, List.forall_mem_cons.mpr ⟨lx_31, List.forall_mem_cons.mpr ⟨lx_541, List.forall_mem_cons.mpr ⟨lx_351, List.forall_mem_cons.mpr ⟨lx_350, List.forall_mem_cons.mpr ⟨lx_19, List.forall_mem_cons.mpr ⟨lx_349, List.forall_mem_cons.mpr ⟨lx_72, List.forall_mem_cons.mpr ⟨lx_71, List.forall_mem_cons.mpr ⟨lx_70, List.forall_mem_cons.mpr ⟨lx_69, List.forall_mem_cons.mpr ⟨lx_68, List.forall_mem_cons.mpr ⟨lx_67, fun _ h => absurd h List.not_mem_nil⟩⟩⟩⟩⟩⟩⟩⟩⟩⟩⟩⟩⟩⟩⟩⟩⟩⟩⟩⟩⟩⟩⟩⟩
set_option maxRecDepth 20000 in
theorem lxwsX11_restore_r2 : ∀ w ∈ wsX11_restore_r2, w ∈ lw_tbl := List.forall_mem_cons.mpr ⟨lx_63, List.forall_mem_cons.mpr ⟨lx_62, List.forall_mem_cons.mpr ⟨lx_61, List.forall_mem_cons.mpr ⟨lx_348, List.forall_mem_cons.mpr ⟨lx_347, List.forall_mem_cons.mpr ⟨lx_346, List.forall_mem_cons.mpr ⟨lx_345, List.forall_mem_cons.mpr ⟨lx_156, List.forall_mem_cons.mpr ⟨lx_155, List.forall_mem_cons.mpr ⟨lx_344, List.forall_mem_cons.mpr ⟨lx_343, List.forall_mem_cons.mpr ⟨lx_342, List.forall_mem_cons.mpr ⟨lx_64, List.forall_mem_cons.mpr ⟨lx_374, List.forall_mem_cons.mpr ⟨lx_56, List.forall_mem_cons.mpr ⟨lx_55, List.forall_mem_cons.mpr ⟨lx_54, List.forall_mem_cons.mpr ⟨lx_373, fun _ h => absurd h List.not_mem_nil⟩⟩⟩⟩⟩⟩⟩⟩⟩⟩⟩⟩⟩⟩⟩⟩⟩⟩
set_option maxRecDepth 20000 in
theorem lxwsX11_restore : ∀ w ∈ wsX11_restore, w ∈ lw_tbl := List.forall_mem_cons.mpr ⟨lx_940, List.forall_mem_append.mpr ⟨List.forall_mem_append.mpr ⟨List.forall_mem_append.mpr ⟨List.forall_mem_append.mpr ⟨lxwsX11_restore_r1, lxwsX11_restore_r2⟩, inX11⟩, inX10⟩, inX8⟩⟩
set_option maxRecDepth 20000 in
theorem gg_X11_restore : GoodIn lw_tbl wsX11_restore := goodIn_sub lxwsX11_restore (by decide +kernel)
theorem lx_941 : Cond.selects RX11 yX11_restore yX11_restore ∈ lw_tbl := lw_t3 223 rfl
theorem lx_942 : Cond.instanceMethod yX11_restore ∈ lw_tbl := lw_t3 222 rfl
theorem lx_943 : Cond.methodLink RL 117 yX11_restore ∈ lw_tbl := lw_t3 221 rfl
set_option maxRecDepth 20000 in
theorem gL_X11_restore : GoodIn lw_tbl (wsV RL 117 RX11 yX11_restore wsX11_restore) := goodIn_app (goodIn_sub (List.forall_mem_cons.mpr ⟨lx_943, List.forall_mem_cons.mpr ⟨lx_942, List.forall_mem_cons.mpr ⟨lx_941, List.forall_mem_cons.mpr ⟨lx_165, fun _ h => absurd h List.not_mem_nil⟩⟩⟩⟩) (by decide +kernel)) gg_X11_restore
theorem lx_944 : Cond.code yX12_restore cX12_restore 2 (some .int) ∈ lw_tbl := lw_t5 212 rfl
set_option maxRecDepth 20000 in
theorem lxwsX12_restore_r1 : ∀ w ∈ wsX12_restore_r1, w ∈ lw_tbl := List.forall_mem_cons.mpr ⟨lx_148, List.forall_mem_cons.mpr ⟨lx_930, List.forall_mem_cons.mpr ⟨lx_929, List.forall_mem_cons.mpr ⟨lx_182, List.forall_mem_cons.mpr ⟨lx_181, List.forall_mem_cons.mpr ⟨lx_185, List.forall_mem_cons.mpr ⟨lx_180, List.forall_mem_cons.mpr ⟨lx_928, List.forall_mem_cons.mpr ⟨lx_927, List.forall_mem_cons.mpr ⟨lx_926, List.forall_mem_cons.mpr ⟨lx_925, List.forall_mem_cons.mpr ⟨lx_147, List.forall_mem_cons.mpr ⟨lx_426, List.forall_mem_cons.mpr ⟨lx_725, List.forall_mem_cons.mpr ⟨lx_145, List.forall_mem_cons.mpr ⟨lx_144, List.forall_mem_cons.mpr ⟨lx_143, List.forall_mem_cons.mpr ⟨lx_142, List.forall_mem_cons.mpr ⟨lx_141, List.forall_mem_cons.mpr ⟨lx_140, List.forall_mem_cons.mpr ⟨lx_139, List.forall_mem_cons.mpr ⟨lx_138, List.forall_mem_cons.mpr ⟨lx_924, List.forall_mem_cons.mpr ⟨lx_923, fun _ h => absurd h List.not_mem_nil⟩⟩⟩⟩⟩⟩⟩⟩⟩⟩⟩⟩⟩⟩⟩⟩⟩⟩⟩⟩⟩⟩⟩⟩
set_option maxRecDepth 20000 in
theorem lxwsX12_restore_r2 : ∀ w ∈ wsX12_restore_r2, w ∈ lw_tbl := List.forall_mem_cons.mpr ⟨lx_936, List.forall_mem_cons.mpr ⟨lx_935, List.forall_mem_cons.mpr ⟨lx_149, List.forall_mem_cons.mpr ⟨lx_934, List.forall_mem_cons.mpr ⟨lx_933, List.forall_mem_cons.mpr ⟨lx_932, List.forall_mem_cons.mpr ⟨lx_931, fun _ h => absurd h List.not_mem_nil⟩⟩⟩⟩⟩⟩⟩
set_option maxRecDepth 20000 in
theorem lxwsX12_restore : ∀ w ∈ wsX12_restore, w ∈ lw_tbl := List.forall_mem_cons.mpr ⟨lx_944, List.forall_mem_append.mpr ⟨List.forall_mem_append.mpr ⟨lxwsX12_restore_r1, lxwsX12_restore_r2⟩, inX12⟩⟩
set_option maxRecDepth 20000 in
theorem gg_X12_restore : GoodIn lw_tbl wsX12_restore := goodIn_sub lxwsX12_restore (by decide +kernel)
theorem lx_945 : Cond.selects RX12 yX12_restore yX12_restore ∈ lw_tbl := lw_t5 211 rfl
theorem lx_946 : Cond.instanceMethod yX12_restore ∈ lw_tbl := lw_t5 210 rfl
theorem lx_947 : Cond.methodLink RL 120 yX12_restore ∈ lw_tbl := lw_t5 209 rfl
set_option maxRecDepth 20000 in
theorem gL_X12_restore : GoodIn lw_tbl (wsV RL 120 RX12 yX12_restore wsX12_restore) := goodIn_app (goodIn_sub (List.forall_mem_cons.mpr ⟨lx_947, List.forall_mem_cons.mpr ⟨lx_946, List.forall_mem_cons.mpr ⟨lx_945, List.forall_mem_cons.mpr ⟨lx_185, fun _ h => absurd h List.not_mem_nil⟩⟩⟩⟩) (by decide +kernel)) gg_X12_restore
theorem lx_948 : Cond.code yX11_told cX11_told 2 (some .int) ∈ lw_tbl := lw_t3 228 rfl
theorem lx_949 : Cond.code yX11_toldOfThing cX11_toldOfThing 3 (some .int) ∈ lw_tbl := lw_t3 232 rfl
theorem lx_950 : Cond.selects RX11 yX11_toldOfThing yX11_toldOfThing ∈ lw_tbl := lw_s2 5 rfl rfl
theorem lx_951 : Cond.instanceMethod yX11_toldOfThing ∈ lw_tbl := lw_t3 231 rfl
theorem lx_952 : Cond.methodLink RX11 287 yX11_toldOfThing ∈ lw_tbl := lw_t3 229 rfl
theorem lx_953 : Cond.fieldLink RX11 293 "TwiceStolen$World" "night" "I" ∈ lw_tbl := lw_t1 74 rfl
theorem lx_954 : Cond.fieldLink RX11 290 "TwiceStolen$World" "kin" "[I" ∈ lw_tbl := lw_t1 68 rfl
set_option maxRecDepth 20000 in
theorem lxwsX11_told_r1 : ∀ w ∈ wsX11_told_r1, w ∈ lw_tbl := List.forall_mem_cons.mpr ⟨lx_18, List.forall_mem_cons.mpr ⟨lx_954, List.forall_mem_cons.mpr ⟨lx_195, List.forall_mem_cons.mpr ⟨lx_13, List.forall_mem_cons.mpr ⟨lx_240, List.forall_mem_cons.mpr ⟨lx_194, List.forall_mem_cons.mpr ⟨lx_953, List.forall_mem_cons.mpr ⟨lx_720, List.forall_mem_cons.mpr ⟨lx_719, List.forall_mem_cons.mpr ⟨lx_952, List.forall_mem_cons.mpr ⟨lx_951, List.forall_mem_cons.mpr ⟨lx_950, List.forall_mem_cons.mpr ⟨lx_165, List.forall_mem_cons.mpr ⟨lx_949, List.forall_mem_cons.mpr ⟨lx_171, List.forall_mem_cons.mpr ⟨lx_170, List.forall_mem_cons.mpr ⟨lx_169, List.forall_mem_cons.mpr ⟨lx_168, List.forall_mem_cons.mpr ⟨lx_167, List.forall_mem_cons.mpr ⟨lx_166, List.forall_mem_cons.mpr ⟨lx_164, List.forall_mem_cons.mpr ⟨lx_163, List.forall_mem_cons.mpr ⟨lx_162, List.forall_mem_cons.mpr ⟨lx_51, fun _ h => absurd h List.not_mem_nil⟩⟩⟩⟩⟩⟩⟩⟩⟩⟩⟩⟩⟩⟩⟩⟩⟩⟩⟩⟩⟩⟩⟩⟩
set_option maxRecDepth 20000 in
theorem lxwsX11_told_r2 : ∀ w ∈ wsX11_told_r2, w ∈ lw_tbl := List.forall_mem_cons.mpr ⟨lx_161, List.forall_mem_cons.mpr ⟨lx_157, List.forall_mem_cons.mpr ⟨lx_156, List.forall_mem_cons.mpr ⟨lx_155, fun _ h => absurd h List.not_mem_nil⟩⟩⟩⟩
set_option maxRecDepth 20000 in
theorem lxwsX11_told : ∀ w ∈ wsX11_told, w ∈ lw_tbl := List.forall_mem_cons.mpr ⟨lx_948, List.forall_mem_append.mpr ⟨List.forall_mem_append.mpr ⟨List.forall_mem_append.mpr ⟨List.forall_mem_append.mpr ⟨List.forall_mem_append.mpr ⟨lxwsX11_told_r1, lxwsX11_told_r2⟩, inX11⟩, inX10⟩, inX3⟩, inX8⟩⟩
set_option maxRecDepth 20000 in
theorem gg_X11_told : GoodIn lw_tbl wsX11_told := goodIn_sub lxwsX11_told (by decide +kernel)
theorem lx_955 : Cond.selects RX11 yX11_told yX11_told ∈ lw_tbl := lw_t3 227 rfl
theorem lx_956 : Cond.instanceMethod yX11_told ∈ lw_tbl := lw_t3 226 rfl
theorem lx_957 : Cond.methodLink RL 121 yX11_told ∈ lw_tbl := lw_t3 225 rfl
set_option maxRecDepth 20000 in
theorem gL_X11_told : GoodIn lw_tbl (wsV RL 121 RX11 yX11_told wsX11_told) := goodIn_app (goodIn_sub (List.forall_mem_cons.mpr ⟨lx_957, List.forall_mem_cons.mpr ⟨lx_956, List.forall_mem_cons.mpr ⟨lx_955, List.forall_mem_cons.mpr ⟨lx_165, fun _ h => absurd h List.not_mem_nil⟩⟩⟩⟩) (by decide +kernel)) gg_X11_told
theorem lx_958 : Cond.code yX12_told cX12_told 2 (some .int) ∈ lw_tbl := lw_t5 216 rfl
theorem lx_959 : Cond.code yX12_ofThing cX12_ofThing 3 (some .int) ∈ lw_tbl := lw_t5 222 rfl
theorem lx_960 : Cond.selects RX12 yX12_ofThing yX12_ofThing ∈ lw_tbl := lw_s5 3 rfl rfl
theorem lx_961 : Cond.instanceMethod yX12_ofThing ∈ lw_tbl := lw_t5 221 rfl
theorem lx_962 : Cond.methodLink RX12 368 yX12_ofThing ∈ lw_tbl := lw_t5 219 rfl
theorem lx_963 : Cond.constantLong RX12 375 (27) ∈ lw_tbl := lw_t5 225 rfl
theorem lx_964 : Cond.constantLong RX12 373 (20) ∈ lw_tbl := lw_t5 224 rfl
theorem lx_965 : Cond.constantLong RX12 371 (17) ∈ lw_tbl := lw_t5 223 rfl
theorem lx_966 : Cond.constantLong RX12 366 (219) ∈ lw_tbl := lw_t5 218 rfl
theorem lx_967 : Cond.constantLong RX12 364 (100) ∈ lw_tbl := lw_t5 217 rfl
set_option maxRecDepth 20000 in
theorem lxwsX12_told : ∀ w ∈ wsX12_told, w ∈ lw_tbl := List.forall_mem_cons.mpr ⟨lx_958, List.forall_mem_append.mpr ⟨List.forall_mem_cons.mpr ⟨lx_967, List.forall_mem_cons.mpr ⟨lx_966, List.forall_mem_cons.mpr ⟨lx_693, List.forall_mem_cons.mpr ⟨lx_965, List.forall_mem_cons.mpr ⟨lx_141, List.forall_mem_cons.mpr ⟨lx_964, List.forall_mem_cons.mpr ⟨lx_963, List.forall_mem_cons.mpr ⟨lx_140, List.forall_mem_cons.mpr ⟨lx_245, List.forall_mem_cons.mpr ⟨lx_147, List.forall_mem_cons.mpr ⟨lx_426, List.forall_mem_cons.mpr ⟨lx_725, List.forall_mem_cons.mpr ⟨lx_182, List.forall_mem_cons.mpr ⟨lx_181, List.forall_mem_cons.mpr ⟨lx_185, List.forall_mem_cons.mpr ⟨lx_180, List.forall_mem_cons.mpr ⟨lx_962, List.forall_mem_cons.mpr ⟨lx_961, List.forall_mem_cons.mpr ⟨lx_960, List.forall_mem_cons.mpr ⟨lx_959, List.forall_mem_cons.mpr ⟨lx_145, List.forall_mem_cons.mpr ⟨lx_144, List.forall_mem_cons.mpr ⟨lx_143, List.forall_mem_cons.mpr ⟨lx_142, fun _ h => absurd h List.not_mem_nil⟩⟩⟩⟩⟩⟩⟩⟩⟩⟩⟩⟩⟩⟩⟩⟩⟩⟩⟩⟩⟩⟩⟩⟩, inX12⟩⟩
set_option maxRecDepth 20000 in
theorem gg_X12_told : GoodIn lw_tbl wsX12_told := goodIn_sub lxwsX12_told (by decide +kernel)
theorem lx_968 : Cond.selects RX12 yX12_told yX12_told ∈ lw_tbl := lw_t5 215 rfl
theorem lx_969 : Cond.instanceMethod yX12_told ∈ lw_tbl := lw_t5 214 rfl
theorem lx_970 : Cond.methodLink RL 124 yX12_told ∈ lw_tbl := lw_t5 213 rfl
set_option maxRecDepth 20000 in
theorem gL_X12_told : GoodIn lw_tbl (wsV RL 124 RX12 yX12_told wsX12_told) := goodIn_app (goodIn_sub (List.forall_mem_cons.mpr ⟨lx_970, List.forall_mem_cons.mpr ⟨lx_969, List.forall_mem_cons.mpr ⟨lx_968, List.forall_mem_cons.mpr ⟨lx_185, fun _ h => absurd h List.not_mem_nil⟩⟩⟩⟩) (by decide +kernel)) gg_X12_told
theorem lx_971 : Cond.classLink RL 7 RX11 ∈ lw_tbl := lw_t1 16 rfl
theorem lc_RX11 : Cond.classLink RL 7 RX11 ∈ lw_tbl := lx_971
theorem lx_972 : Cond.instantiable RX11 13 ∈ lw_tbl := lw_t1 17 rfl
theorem li_RX11 : Cond.instantiable RX11 13 ∈ lw_tbl := lx_972
theorem lz_RX11 : Cond.initialized RX11 ∈ lw_tbl := lx_165
theorem lx_973 : Cond.classLink RL 10 RX12 ∈ lw_tbl := lw_t3 233 rfl
theorem lc_RX12 : Cond.classLink RL 10 RX12 ∈ lw_tbl := lx_973
theorem lx_974 : Cond.instantiable RX12 38 ∈ lw_tbl := lw_t3 234 rfl
theorem li_RX12 : Cond.instantiable RX12 38 ∈ lw_tbl := lx_974
theorem lz_RX12 : Cond.initialized RX12 ∈ lw_tbl := lx_185
theorem lx_975 : Cond.methodLink RL 9 yX11_init ∈ lw_tbl := lw_t1 18 rfl
theorem lm_X11_init : Cond.methodLink RL 9 yX11_init ∈ lw_tbl := lx_975
theorem lx_976 : Cond.instanceMethod yX11_init ∈ lw_tbl := lw_t1 19 rfl
theorem ln_X11_init : Cond.instanceMethod yX11_init ∈ lw_tbl := lx_976
theorem lx_977 : Cond.methodLink RL 12 yX12_init ∈ lw_tbl := lw_t3 235 rfl
theorem lm_X12_init : Cond.methodLink RL 12 yX12_init ∈ lw_tbl := lx_977
theorem lx_978 : Cond.instanceMethod yX12_init ∈ lw_tbl := lw_t3 236 rfl
theorem ln_X12_init : Cond.instanceMethod yX12_init ∈ lw_tbl := lx_978
theorem la_int : Cond.arrayClass .int ∈ lw_tbl := lx_25
theorem la_long : Cond.arrayClass .long ∈ lw_tbl := lx_122
theorem la_boolean : Cond.arrayClass .boolean ∈ lw_tbl := lx_126
theorem lI_RX0 : Cond.instantiable RX0 5 ∈ lw_tbl := lx_47
theorem lI_RX1 : Cond.instantiable RX1 2 ∈ lw_tbl := lx_35
theorem lI_RX10 : Cond.instantiable RX10 9 ∈ lw_tbl := lx_20
theorem lI_RX11 : Cond.instantiable RX11 13 ∈ lw_tbl := lx_972
theorem lI_RX12 : Cond.instantiable RX12 38 ∈ lw_tbl := lx_974
theorem lI_RX2 : Cond.instantiable RX2 6 ∈ lw_tbl := lx_43
theorem lI_RX3 : Cond.instantiable RX3 2 ∈ lw_tbl := lx_15
theorem lI_RX4 : Cond.instantiable RX4 6 ∈ lw_tbl := lx_3
theorem lI_RX6 : Cond.instantiable RX6 2 ∈ lw_tbl := lx_7
theorem lI_RX7 : Cond.instantiable RX7 3 ∈ lw_tbl := lx_39
theorem lI_RX8 : Cond.instantiable RX8 3 ∈ lw_tbl := lx_65
theorem lI_RX9 : Cond.instantiable RX9 8 ∈ lw_tbl := lx_11
