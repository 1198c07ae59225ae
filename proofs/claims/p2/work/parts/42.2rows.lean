theorem fsX6 : ∀ j, j < 3 → defaultValue (tyX6 j) = vp_V [.int 0, .null, .int 0] j := by decide +kernel
theorem kX6_init_1 {a : Array Value} {s : State} (hts : ∀ w ∈ wsX6_init, w.before a s = true) : (.methodLink RX6 3 objectInit : Cond).before a s = true := hts _ (List.mem_of_getElem? (i := 1) (by decide +kernel))
theorem kX6_init_2 {a : Array Value} {s : State} (hts : ∀ w ∈ wsX6_init, w.before a s = true) : (.instanceMethod objectInit : Cond).before a s = true := hts _ (List.mem_of_getElem? (i := 2) (by decide +kernel))
theorem kX6_init_3 {a : Array Value} {s : State} (hts : ∀ w ∈ wsX6_init, w.before a s = true) : (.code objectInit ⟨#[0xb1]⟩ 1 none : Cond).before a s = true := hts _ (List.mem_of_getElem? (i := 3) (by decide +kernel))
theorem kX6_init_4 {a : Array Value} {s : State} (hts : ∀ w ∈ wsX6_init, w.before a s = true) : (.fieldLink RX6 9 "SnowMules$Table" "width" "I" : Cond).before a s = true := hts _ (List.mem_of_getElem? (i := 4) (by decide +kernel))
theorem kX6_init_5 {a : Array Value} {s : State} (hts : ∀ w ∈ wsX6_init, w.before a s = true) : (.methodLink RX6 15 Lib.Math.max.name : Cond).before a s = true := hts _ (List.mem_of_getElem? (i := 5) (by decide +kernel))
theorem kX6_init_6 {a : Array Value} {s : State} (hts : ∀ w ∈ wsX6_init, w.before a s = true) : (.static Lib.Math.max.name : Cond).before a s = true := hts _ (List.mem_of_getElem? (i := 6) (by decide +kernel))
theorem kX6_init_7 {a : Array Value} {s : State} (hts : ∀ w ∈ wsX6_init, w.before a s = true) : (.initialized "java/lang/Math" : Cond).before a s = true := hts _ (List.mem_of_getElem? (i := 7) (by decide +kernel))
theorem kX6_init_8 {a : Array Value} {s : State} (hts : ∀ w ∈ wsX6_init, w.before a s = true) : (.code Lib.Math.max.name Lib.Math.max.code 2 (some .int) : Cond).before a s = true := hts _ (List.mem_of_getElem? (i := 8) (by decide +kernel))
theorem kX6_init_9 {a : Array Value} {s : State} (hts : ∀ w ∈ wsX6_init, w.before a s = true) : (.arrayClass .int : Cond).before a s = true := hts _ (List.mem_of_getElem? (i := 9) (by decide +kernel))
theorem kX6_init_10 {a : Array Value} {s : State} (hts : ∀ w ∈ wsX6_init, w.before a s = true) : (.fieldLink RX6 21 "SnowMules$Table" "cells" "[I" : Cond).before a s = true := hts _ (List.mem_of_getElem? (i := 10) (by decide +kernel))
theorem kX9_init_1 {a : Array Value} {s : State} (hts : ∀ w ∈ wsX9_init, w.before a s = true) : (.methodLink RX9 3 objectInit : Cond).before a s = true := hts _ (List.mem_of_getElem? (i := 1) (by decide +kernel))
theorem kX9_init_2 {a : Array Value} {s : State} (hts : ∀ w ∈ wsX9_init, w.before a s = true) : (.instanceMethod objectInit : Cond).before a s = true := hts _ (List.mem_of_getElem? (i := 2) (by decide +kernel))
theorem kX9_init_3 {a : Array Value} {s : State} (hts : ∀ w ∈ wsX9_init, w.before a s = true) : (.code objectInit ⟨#[0xb1]⟩ 1 none : Cond).before a s = true := hts _ (List.mem_of_getElem? (i := 3) (by decide +kernel))
theorem kX9_init_4 {a : Array Value} {s : State} (hts : ∀ w ∈ wsX9_init, w.before a s = true) : (.classLink RX9 9 RX6 : Cond).before a s = true := hts _ (List.mem_of_getElem? (i := 4) (by decide +kernel))
theorem kX9_init_5 {a : Array Value} {s : State} (hts : ∀ w ∈ wsX9_init, w.before a s = true) : (.instantiable RX6 3 : Cond).before a s = true := hts _ (List.mem_of_getElem? (i := 5) (by decide +kernel))
theorem kX9_init_6 {a : Array Value} {s : State} (hts : ∀ w ∈ wsX9_init, w.before a s = true) : (.initialized RX6 : Cond).before a s = true := hts _ (List.mem_of_getElem? (i := 6) (by decide +kernel))
theorem kX9_init_14 {a : Array Value} {s : State} (hts : ∀ w ∈ wsX9_init, w.before a s = true) : (.methodLink RX9 11 yX6_init : Cond).before a s = true := hts _ (List.mem_of_getElem? (i := 14) (by decide +kernel))
theorem kX9_init_15 {a : Array Value} {s : State} (hts : ∀ w ∈ wsX9_init, w.before a s = true) : (.instanceMethod yX6_init : Cond).before a s = true := hts _ (List.mem_of_getElem? (i := 15) (by decide +kernel))
theorem kX9_init_7 {a : Array Value} {s : State} (hts : ∀ w ∈ wsX9_init, w.before a s = true) : (.fieldLink RX9 14 "SnowMules$World" "nodes" "LSnowMules$Table;" : Cond).before a s = true := hts _ (List.mem_of_getElem? (i := 7) (by decide +kernel))
theorem kX9_init_8 {a : Array Value} {s : State} (hts : ∀ w ∈ wsX9_init, w.before a s = true) : (.fieldLink RX9 20 "SnowMules$World" "passes" "LSnowMules$Table;" : Cond).before a s = true := hts _ (List.mem_of_getElem? (i := 8) (by decide +kernel))
theorem kX9_init_9 {a : Array Value} {s : State} (hts : ∀ w ∈ wsX9_init, w.before a s = true) : (.fieldLink RX9 23 "SnowMules$World" "jars" "LSnowMules$Table;" : Cond).before a s = true := hts _ (List.mem_of_getElem? (i := 9) (by decide +kernel))
theorem kX9_init_10 {a : Array Value} {s : State} (hts : ∀ w ∈ wsX9_init, w.before a s = true) : (.fieldLink RX9 26 "SnowMules$World" "orders" "LSnowMules$Table;" : Cond).before a s = true := hts _ (List.mem_of_getElem? (i := 10) (by decide +kernel))
theorem kX9_init_11 {a : Array Value} {s : State} (hts : ∀ w ∈ wsX9_init, w.before a s = true) : (.fieldLink RX9 29 "SnowMules$World" "feasts" "LSnowMules$Table;" : Cond).before a s = true := hts _ (List.mem_of_getElem? (i := 11) (by decide +kernel))
theorem kX9_init_12 {a : Array Value} {s : State} (hts : ∀ w ∈ wsX9_init, w.before a s = true) : (.fieldLink RX9 32 "SnowMules$World" "way" "LSnowMules$Table;" : Cond).before a s = true := hts _ (List.mem_of_getElem? (i := 12) (by decide +kernel))
theorem kX9_init_13 {a : Array Value} {s : State} (hts : ∀ w ∈ wsX9_init, w.before a s = true) : (.fieldLink RX9 35 "SnowMules$World" "wayStart" "I" : Cond).before a s = true := hts _ (List.mem_of_getElem? (i := 13) (by decide +kernel))
theorem kX1_init_1 {a : Array Value} {s : State} (hts : ∀ w ∈ wsX1_init, w.before a s = true) : (.methodLink RX1 1 objectInit : Cond).before a s = true := hts _ (List.mem_of_getElem? (i := 1) (by decide +kernel))
theorem kX1_init_2 {a : Array Value} {s : State} (hts : ∀ w ∈ wsX1_init, w.before a s = true) : (.instanceMethod objectInit : Cond).before a s = true := hts _ (List.mem_of_getElem? (i := 2) (by decide +kernel))
theorem kX1_init_3 {a : Array Value} {s : State} (hts : ∀ w ∈ wsX1_init, w.before a s = true) : (.code objectInit ⟨#[0xb1]⟩ 1 none : Cond).before a s = true := hts _ (List.mem_of_getElem? (i := 3) (by decide +kernel))
theorem kX1_init_4 {a : Array Value} {s : State} (hts : ∀ w ∈ wsX1_init, w.before a s = true) : (.arrayClass .int : Cond).before a s = true := hts _ (List.mem_of_getElem? (i := 4) (by decide +kernel))
theorem kX1_init_5 {a : Array Value} {s : State} (hts : ∀ w ∈ wsX1_init, w.before a s = true) : (.fieldLink RX1 9 "SnowMules$Law" "sorts" "[I" : Cond).before a s = true := hts _ (List.mem_of_getElem? (i := 5) (by decide +kernel))
theorem kX1_init_6 {a : Array Value} {s : State} (hts : ∀ w ∈ wsX1_init, w.before a s = true) : (.fieldLink RX1 13 "SnowMules$Law" "sumStarts" "[I" : Cond).before a s = true := hts _ (List.mem_of_getElem? (i := 6) (by decide +kernel))
theorem kX1_init_7 {a : Array Value} {s : State} (hts : ∀ w ∈ wsX1_init, w.before a s = true) : (.fieldLink RX1 16 "SnowMules$Law" "sumStops" "[I" : Cond).before a s = true := hts _ (List.mem_of_getElem? (i := 7) (by decide +kernel))
theorem kX1_init_8 {a : Array Value} {s : State} (hts : ∀ w ∈ wsX1_init, w.before a s = true) : (.fieldLink RX1 19 "SnowMules$Law" "testStarts" "[I" : Cond).before a s = true := hts _ (List.mem_of_getElem? (i := 8) (by decide +kernel))
theorem kX1_init_9 {a : Array Value} {s : State} (hts : ∀ w ∈ wsX1_init, w.before a s = true) : (.fieldLink RX1 22 "SnowMules$Law" "testStops" "[I" : Cond).before a s = true := hts _ (List.mem_of_getElem? (i := 9) (by decide +kernel))
theorem kX1_init_10 {a : Array Value} {s : State} (hts : ∀ w ∈ wsX1_init, w.before a s = true) : (.fieldLink RX1 25 "SnowMules$Law" "joins" "[I" : Cond).before a s = true := hts _ (List.mem_of_getElem? (i := 10) (by decide +kernel))
theorem kX1_init_11 {a : Array Value} {s : State} (hts : ∀ w ∈ wsX1_init, w.before a s = true) : (.fieldLink RX1 28 "SnowMules$Law" "operands" "[I" : Cond).before a s = true := hts _ (List.mem_of_getElem? (i := 11) (by decide +kernel))
theorem kX1_init_12 {a : Array Value} {s : State} (hts : ∀ w ∈ wsX1_init, w.before a s = true) : (.fieldLink RX1 31 "SnowMules$Law" "factStarts" "[I" : Cond).before a s = true := hts _ (List.mem_of_getElem? (i := 12) (by decide +kernel))
theorem kX1_init_13 {a : Array Value} {s : State} (hts : ∀ w ∈ wsX1_init, w.before a s = true) : (.fieldLink RX1 34 "SnowMules$Law" "factMiddles" "[I" : Cond).before a s = true := hts _ (List.mem_of_getElem? (i := 13) (by decide +kernel))
theorem kX1_init_14 {a : Array Value} {s : State} (hts : ∀ w ∈ wsX1_init, w.before a s = true) : (.fieldLink RX1 37 "SnowMules$Law" "factStops" "[I" : Cond).before a s = true := hts _ (List.mem_of_getElem? (i := 14) (by decide +kernel))
theorem kX1_init_15 {a : Array Value} {s : State} (hts : ∀ w ∈ wsX1_init, w.before a s = true) : (.fieldLink RX1 40 "SnowMules$Law" "signs" "[I" : Cond).before a s = true := hts _ (List.mem_of_getElem? (i := 15) (by decide +kernel))
theorem kX1_init_16 {a : Array Value} {s : State} (hts : ∀ w ∈ wsX1_init, w.before a s = true) : (.fieldLink RX1 43 "SnowMules$Law" "tests" "[I" : Cond).before a s = true := hts _ (List.mem_of_getElem? (i := 16) (by decide +kernel))
theorem iX6_init_X6 : ∀ w ∈ wsX60, w ∈ wsX6_init := by decide +kernel
theorem iX9_init_X6 : ∀ w ∈ wsX60, w ∈ wsX9_init := by decide +kernel
theorem iX9_init_X9 : ∀ w ∈ wsX90, w ∈ wsX9_init := by decide +kernel
theorem iX1_init_X1 : ∀ w ∈ wsX10, w ∈ wsX1_init := by decide +kernel
theorem dX6_init_0 : decode cX6_init 0 = .ok (.aload_n 0, 1) := by decide +kernel
theorem dX6_init_1 : decode cX6_init 1 = .ok (.invokespecial 3, 3) := by decide +kernel
theorem dX6_init_4 : decode cX6_init 4 = .ok (.aload_n 0, 1) := by decide +kernel
theorem dX6_init_5 : decode cX6_init 5 = .ok (.iload_n 2, 1) := by decide +kernel
theorem dX6_init_6 : decode cX6_init 6 = .ok (.putfield 9, 3) := by decide +kernel
theorem dX6_init_9 : decode cX6_init 9 = .ok (.aload_n 0, 1) := by decide +kernel
theorem dX6_init_10 : decode cX6_init 10 = .ok (.iconst 0, 1) := by decide +kernel
theorem dX6_init_11 : decode cX6_init 11 = .ok (.iload_n 1, 1) := by decide +kernel
theorem dX6_init_12 : decode cX6_init 12 = .ok (.iload_n 2, 1) := by decide +kernel
theorem dX6_init_13 : decode cX6_init 13 = .ok (.imul, 1) := by decide +kernel
theorem dX6_init_14 : decode cX6_init 14 = .ok (.invokestatic 15, 3) := by decide +kernel
theorem dX6_init_17 : decode cX6_init 17 = .ok (.newarray .int, 2) := by decide +kernel
theorem dX6_init_19 : decode cX6_init 19 = .ok (.putfield 21, 3) := by decide +kernel
theorem dX6_init_22 : decode cX6_init 22 = .ok (.return_, 1) := by decide +kernel
theorem dX9_init_0 : decode cX9_init 0 = .ok (.aload_n 0, 1) := by decide +kernel
theorem dX9_init_1 : decode cX9_init 1 = .ok (.invokespecial 3, 3) := by decide +kernel
theorem dX9_init_4 : decode cX9_init 4 = .ok (.aload_n 0, 1) := by decide +kernel
theorem dX9_init_5 : decode cX9_init 5 = .ok (.new 9, 3) := by decide +kernel
theorem dX9_init_8 : decode cX9_init 8 = .ok (.dup, 1) := by decide +kernel
theorem dX9_init_9 : decode cX9_init 9 = .ok (.bipush 12, 2) := by decide +kernel
theorem dX9_init_11 : decode cX9_init 11 = .ok (.iconst 4, 1) := by decide +kernel
theorem dX9_init_12 : decode cX9_init 12 = .ok (.invokespecial 11, 3) := by decide +kernel
theorem dX9_init_15 : decode cX9_init 15 = .ok (.putfield 14, 3) := by decide +kernel
theorem dX9_init_18 : decode cX9_init 18 = .ok (.aload_n 0, 1) := by decide +kernel
theorem dX9_init_19 : decode cX9_init 19 = .ok (.new 9, 3) := by decide +kernel
theorem dX9_init_22 : decode cX9_init 22 = .ok (.dup, 1) := by decide +kernel
theorem dX9_init_23 : decode cX9_init 23 = .ok (.bipush 20, 2) := by decide +kernel
theorem dX9_init_25 : decode cX9_init 25 = .ok (.iconst 5, 1) := by decide +kernel
theorem dX9_init_26 : decode cX9_init 26 = .ok (.invokespecial 11, 3) := by decide +kernel
theorem dX9_init_29 : decode cX9_init 29 = .ok (.putfield 20, 3) := by decide +kernel
theorem dX9_init_32 : decode cX9_init 32 = .ok (.aload_n 0, 1) := by decide +kernel
theorem dX9_init_33 : decode cX9_init 33 = .ok (.new 9, 3) := by decide +kernel
theorem dX9_init_36 : decode cX9_init 36 = .ok (.dup, 1) := by decide +kernel
theorem dX9_init_37 : decode cX9_init 37 = .ok (.bipush 16, 2) := by decide +kernel
theorem dX9_init_39 : decode cX9_init 39 = .ok (.bipush 9, 2) := by decide +kernel
theorem dX9_init_41 : decode cX9_init 41 = .ok (.invokespecial 11, 3) := by decide +kernel
theorem dX9_init_44 : decode cX9_init 44 = .ok (.putfield 23, 3) := by decide +kernel
theorem dX9_init_47 : decode cX9_init 47 = .ok (.aload_n 0, 1) := by decide +kernel
theorem dX9_init_48 : decode cX9_init 48 = .ok (.new 9, 3) := by decide +kernel
theorem dX9_init_51 : decode cX9_init 51 = .ok (.dup, 1) := by decide +kernel
theorem dX9_init_52 : decode cX9_init 52 = .ok (.bipush 6, 2) := by decide +kernel
theorem dX9_init_54 : decode cX9_init 54 = .ok (.iconst 4, 1) := by decide +kernel
theorem dX9_init_55 : decode cX9_init 55 = .ok (.invokespecial 11, 3) := by decide +kernel
theorem dX9_init_58 : decode cX9_init 58 = .ok (.putfield 26, 3) := by decide +kernel
theorem dX9_init_61 : decode cX9_init 61 = .ok (.aload_n 0, 1) := by decide +kernel
theorem dX9_init_62 : decode cX9_init 62 = .ok (.new 9, 3) := by decide +kernel
theorem dX9_init_65 : decode cX9_init 65 = .ok (.dup, 1) := by decide +kernel
theorem dX9_init_66 : decode cX9_init 66 = .ok (.bipush 8, 2) := by decide +kernel
theorem dX9_init_68 : decode cX9_init 68 = .ok (.iconst 3, 1) := by decide +kernel
theorem dX9_init_69 : decode cX9_init 69 = .ok (.invokespecial 11, 3) := by decide +kernel
theorem dX9_init_72 : decode cX9_init 72 = .ok (.putfield 29, 3) := by decide +kernel
theorem dX9_init_75 : decode cX9_init 75 = .ok (.aload_n 0, 1) := by decide +kernel
theorem dX9_init_76 : decode cX9_init 76 = .ok (.new 9, 3) := by decide +kernel
theorem dX9_init_79 : decode cX9_init 79 = .ok (.dup, 1) := by decide +kernel
theorem dX9_init_80 : decode cX9_init 80 = .ok (.bipush 6, 2) := by decide +kernel
theorem dX9_init_82 : decode cX9_init 82 = .ok (.iconst 1, 1) := by decide +kernel
theorem dX9_init_83 : decode cX9_init 83 = .ok (.invokespecial 11, 3) := by decide +kernel
theorem dX9_init_86 : decode cX9_init 86 = .ok (.putfield 32, 3) := by decide +kernel
theorem dX9_init_89 : decode cX9_init 89 = .ok (.aload_n 0, 1) := by decide +kernel
theorem dX9_init_90 : decode cX9_init 90 = .ok (.iconst (-1), 1) := by decide +kernel
theorem dX9_init_91 : decode cX9_init 91 = .ok (.putfield 35, 3) := by decide +kernel
theorem dX9_init_94 : decode cX9_init 94 = .ok (.return_, 1) := by decide +kernel
theorem dX1_init_0 : decode cX1_init 0 = .ok (.aload_n 0, 1) := by decide +kernel
theorem dX1_init_1 : decode cX1_init 1 = .ok (.invokespecial 1, 3) := by decide +kernel
theorem dX1_init_4 : decode cX1_init 4 = .ok (.aload_n 0, 1) := by decide +kernel
theorem dX1_init_5 : decode cX1_init 5 = .ok (.bipush 12, 2) := by decide +kernel
theorem dX1_init_7 : decode cX1_init 7 = .ok (.newarray .int, 2) := by decide +kernel
theorem dX1_init_9 : decode cX1_init 9 = .ok (.putfield 9, 3) := by decide +kernel
theorem dX1_init_12 : decode cX1_init 12 = .ok (.aload_n 0, 1) := by decide +kernel
theorem dX1_init_13 : decode cX1_init 13 = .ok (.bipush 12, 2) := by decide +kernel
theorem dX1_init_15 : decode cX1_init 15 = .ok (.newarray .int, 2) := by decide +kernel
theorem dX1_init_17 : decode cX1_init 17 = .ok (.putfield 13, 3) := by decide +kernel
theorem dX1_init_20 : decode cX1_init 20 = .ok (.aload_n 0, 1) := by decide +kernel
theorem dX1_init_21 : decode cX1_init 21 = .ok (.bipush 12, 2) := by decide +kernel
theorem dX1_init_23 : decode cX1_init 23 = .ok (.newarray .int, 2) := by decide +kernel
theorem dX1_init_25 : decode cX1_init 25 = .ok (.putfield 16, 3) := by decide +kernel
theorem dX1_init_28 : decode cX1_init 28 = .ok (.aload_n 0, 1) := by decide +kernel
theorem dX1_init_29 : decode cX1_init 29 = .ok (.bipush 12, 2) := by decide +kernel
theorem dX1_init_31 : decode cX1_init 31 = .ok (.newarray .int, 2) := by decide +kernel
theorem dX1_init_33 : decode cX1_init 33 = .ok (.putfield 19, 3) := by decide +kernel
theorem dX1_init_36 : decode cX1_init 36 = .ok (.aload_n 0, 1) := by decide +kernel
theorem dX1_init_37 : decode cX1_init 37 = .ok (.bipush 12, 2) := by decide +kernel
theorem dX1_init_39 : decode cX1_init 39 = .ok (.newarray .int, 2) := by decide +kernel
theorem dX1_init_41 : decode cX1_init 41 = .ok (.putfield 22, 3) := by decide +kernel
theorem dX1_init_44 : decode cX1_init 44 = .ok (.aload_n 0, 1) := by decide +kernel
theorem dX1_init_45 : decode cX1_init 45 = .ok (.bipush 60, 2) := by decide +kernel
theorem dX1_init_47 : decode cX1_init 47 = .ok (.newarray .int, 2) := by decide +kernel
theorem dX1_init_49 : decode cX1_init 49 = .ok (.putfield 25, 3) := by decide +kernel
theorem dX1_init_52 : decode cX1_init 52 = .ok (.aload_n 0, 1) := by decide +kernel
theorem dX1_init_53 : decode cX1_init 53 = .ok (.bipush 60, 2) := by decide +kernel
theorem dX1_init_55 : decode cX1_init 55 = .ok (.newarray .int, 2) := by decide +kernel
theorem dX1_init_57 : decode cX1_init 57 = .ok (.putfield 28, 3) := by decide +kernel
theorem dX1_init_60 : decode cX1_init 60 = .ok (.aload_n 0, 1) := by decide +kernel
theorem dX1_init_61 : decode cX1_init 61 = .ok (.bipush 20, 2) := by decide +kernel
theorem dX1_init_63 : decode cX1_init 63 = .ok (.newarray .int, 2) := by decide +kernel
theorem dX1_init_65 : decode cX1_init 65 = .ok (.putfield 31, 3) := by decide +kernel
theorem dX1_init_68 : decode cX1_init 68 = .ok (.aload_n 0, 1) := by decide +kernel
theorem dX1_init_69 : decode cX1_init 69 = .ok (.bipush 20, 2) := by decide +kernel
theorem dX1_init_71 : decode cX1_init 71 = .ok (.newarray .int, 2) := by decide +kernel
theorem dX1_init_73 : decode cX1_init 73 = .ok (.putfield 34, 3) := by decide +kernel
theorem dX1_init_76 : decode cX1_init 76 = .ok (.aload_n 0, 1) := by decide +kernel
theorem dX1_init_77 : decode cX1_init 77 = .ok (.bipush 20, 2) := by decide +kernel
theorem dX1_init_79 : decode cX1_init 79 = .ok (.newarray .int, 2) := by decide +kernel
theorem dX1_init_81 : decode cX1_init 81 = .ok (.putfield 37, 3) := by decide +kernel
theorem dX1_init_84 : decode cX1_init 84 = .ok (.aload_n 0, 1) := by decide +kernel
theorem dX1_init_85 : decode cX1_init 85 = .ok (.bipush 20, 2) := by decide +kernel
theorem dX1_init_87 : decode cX1_init 87 = .ok (.newarray .int, 2) := by decide +kernel
theorem dX1_init_89 : decode cX1_init 89 = .ok (.putfield 40, 3) := by decide +kernel
theorem dX1_init_92 : decode cX1_init 92 = .ok (.aload_n 0, 1) := by decide +kernel
theorem dX1_init_93 : decode cX1_init 93 = .ok (.sipush 256, 3) := by decide +kernel
theorem dX1_init_96 : decode cX1_init 96 = .ok (.newarray .int, 2) := by decide +kernel
theorem dX1_init_98 : decode cX1_init 98 = .ok (.putfield 43, 3) := by decide +kernel
theorem dX1_init_101 : decode cX1_init 101 = .ok (.return_, 1) := by decide +kernel
