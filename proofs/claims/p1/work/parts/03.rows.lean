theorem fsX6 : ∀ j, j < 3 → defaultValue (tyX6 j) = vp_V [.int 0, .null, .int 0] j := by decide +kernel
theorem fsX1 : ∀ j, j < 17 → defaultValue (tyX1 j) = vp_V [.int 0, .int 0, .null, .null, .null, .null, .null, .int 0, .null, .null, .int 0, .null, .null, .null, .null, .int 0, .null] j := by decide +kernel
theorem fsX4 : ∀ j, j < 4 → defaultValue (tyX4 j) = vp_V [.null, .int 0, .int 0, .int 0] j := by decide +kernel
theorem fsX9 : ∀ j, j < 10 → defaultValue (tyX9 j) = vp_V [.null, .null, .null, .null, .null, .null, .int 0, .int 0, .int 0, .int 0] j := by decide +kernel
theorem fsX2 : ∀ j, j < 8 → defaultValue (tyX2 j) = vp_V [.null, .null, .int 0, .int 0, .int 0, .int 0, .int 0, .null] j := by decide +kernel
theorem fsX0 : ∀ j, j < 1 → defaultValue (tyX0 j) = vp_V [.null] j := by decide +kernel
theorem fsX7 : ∀ j, j < 9 → defaultValue (tyX7 j) = vp_V [.int 0, .int 0, .int 0, .int 0, .int 0, .int 0, .null, .null, .null] j := by decide +kernel
theorem fsX5 : ∀ j, j < 13 → defaultValue (tyX5 j) = vp_V [.int 0, .int 0, .int 0, .int 0, .int 0, .int 0, .int 0, .int 0, .null, .null, .null, .null, .null] j := by decide +kernel
theorem fsX8 : ∀ j, j < 7 → defaultValue (tyX8 j) = vp_V [.int 0, .int 0, .null, .null, .null, .null, .null] j := by decide +kernel
theorem fsX3 : ∀ j, j < 4 → defaultValue (tyX3 j) = vp_V [.int 0, .null, .null, .null] j := by decide +kernel
theorem kX6_init_1 {a : Array Value} {s : State} (hts : ∀ w ∈ wsX6_init, w.before a s = true) : (.methodLink RX6 3 objectInit : Cond).before a s = true := hts _ (List.mem_of_getElem? (i := 1) (by decide +kernel))
theorem kX6_init_2 {a : Array Value} {s : State} (hts : ∀ w ∈ wsX6_init, w.before a s = true) : (.instanceMethod objectInit : Cond).before a s = true := hts _ (List.mem_of_getElem? (i := 2) (by decide +kernel))
theorem kX6_init_3 {a : Array Value} {s : State} (hts : ∀ w ∈ wsX6_init, w.before a s = true) : (.code objectInit ⟨#[0xb1]⟩ 1 none : Cond).before a s = true := hts _ (List.mem_of_getElem? (i := 3) (by decide +kernel))
theorem kX6_init_4 {a : Array Value} {s : State} (hts : ∀ w ∈ wsX6_init, w.before a s = true) : (.fieldLink RX6 9 "SnowMules$Table" "width" "I" : Cond).before a s = true := hts _ (List.mem_of_getElem? (i := 4) (by decide +kernel))
theorem kX6_init_5 {a : Array Value} {s : State} (hts : ∀ w ∈ wsX6_init, w.before a s = true) : (.methodLink RX6 15 Lib.Math.max.name : Cond).before a s = true := hts _ (List.mem_of_getElem? (i := 5) (by decide +kernel))
theorem kX6_init_6 {a : Array Value} {s : State} (hts : ∀ w ∈ wsX6_init, w.before a s = true) : (.static Lib.Math.max.name : Cond).before a s = true := hts _ (List.mem_of_getElem? (i := 6) (by decide +kernel))
theorem kX6_init_7 {a : Array Value} {s : State} (hts : ∀ w ∈ wsX6_init, w.before a s = true) : (.initialized "java/lang/Math" : Cond).before a s = true := hts _ (List.mem_of_getElem? (i := 7) (by decide +kernel))
theorem kX6_init_8 {a : Array Value} {s : State} (hts : ∀ w ∈ wsX6_init, w.before a s = true) : (.code Lib.Math.max.name Lib.Math.max.code 2 (some .int) : Cond).before a s = true := hts _ (List.mem_of_getElem? (i := 8) (by decide +kernel))
theorem kX6_init_9 {a : Array Value} {s : State} (hts : ∀ w ∈ wsX6_init, w.before a s = true) : (.arrayClass .int : Cond).before a s = true := hts _ (List.mem_of_getElem? (i := 9) (by decide +kernel))
theorem kX6_init_10 {a : Array Value} {s : State} (hts : ∀ w ∈ wsX6_init, w.before a s = true) : (.fieldLink RX6 21 "SnowMules$Table" "cells" "[I" : Cond).before a s = true := hts _ (List.mem_of_getElem? (i := 10) (by decide +kernel))
theorem kX9_init_1 {a : Array Value} {s : State} (hts : ∀ w ∈ wsX9_init, w.before a s = true) : (.methodLink RX9 3 objectInit : Cond).before a s = true := hts _ (List.mem_of_getElem? (i := 1) (by decide +kernel))
theorem kX9_init_2 {a : Array Value} {s : State} (hts : ∀ w ∈ wsX9_init, w.before a s = true) : (.instanceMethod objectInit : Cond).before a s = true := hts _ (List.mem_of_getElem? (i := 2) (by decide +kernel))
theorem kX9_init_3 {a : Array Value} {s : State} (hts : ∀ w ∈ wsX9_init, w.before a s = true) : (.code objectInit ⟨#[0xb1]⟩ 1 none : Cond).before a s = true := hts _ (List.mem_of_getElem? (i := 3) (by decide +kernel))
theorem kX9_init_4 {a : Array Value} {s : State} (hts : ∀ w ∈ wsX9_init, w.before a s = true) : (.classLink RX9 9 RX6 : Cond).before a s = true := hts _ (List.mem_of_getElem? (i := 4) (by decide +kernel))
theorem kX9_init_5 {a : Array Value} {s : State} (hts : ∀ w ∈ wsX9_init, w.before a s = true) : (.instantiable RX6 3 : Cond).before a s = true := hts _ (List.mem_of_getElem? (i := 5) (by decide +kernel))
theorem kX9_init_6 {a : Array Value} {s : State} (hts : ∀ w ∈ wsX9_init, w.before a s = true) : (.initialized RX6 : Cond).before a s = true := hts _ (List.mem_of_getElem? (i := 6) (by decide +kernel))
theorem kX9_init_14 {a : Array Value} {s : State} (hts : ∀ w ∈ wsX9_init, w.before a s = true) : (.methodLink RX9 11 yX6_init : Cond).before a s = true := hts _ (List.mem_of_getElem? (i := 14) (by decide +kernel))
theorem kX9_init_15 {a : Array Value} {s : State} (hts : ∀ w ∈ wsX9_init, w.before a s = true) : (.instanceMethod yX6_init : Cond).before a s = true := hts _ (List.mem_of_getElem? (i := 15) (by decide +kernel))
theorem kX9_init_7 {a : Array Value} {s : State} (hts : ∀ w ∈ wsX9_init, w.before a s = true) : (.fieldLink RX9 14 "SnowMules$World" "nodes" "LSnowMules$Table;" : Cond).before a s = true := hts _ (List.mem_of_getElem? (i := 7) (by decide +kernel))
theorem kX9_init_8 {a : Array Value} {s : State} (hts : ∀ w ∈ wsX9_init, w.before a s = true) : (.fieldLink RX9 20 "SnowMules$World" "passes" "LSnowMules$Table;" : Cond).before a s = true := hts _ (List.mem_of_getElem? (i := 8) (by decide +kernel))
theorem kX9_init_9 {a : Array Value} {s : State} (hts : ∀ w ∈ wsX9_init, w.before a s = true) : (.fieldLink RX9 23 "SnowMules$World" "jars" "LSnowMules$Table;" : Cond).before a s = true := hts _ (List.mem_of_getElem? (i := 9) (by decide +kernel))
theorem kX9_init_10 {a : Array Value} {s : State} (hts : ∀ w ∈ wsX9_init, w.before a s = true) : (.fieldLink RX9 26 "SnowMules$World" "orders" "LSnowMules$Table;" : Cond).before a s = true := hts _ (List.mem_of_getElem? (i := 10) (by decide +kernel))
theorem kX9_init_11 {a : Array Value} {s : State} (hts : ∀ w ∈ wsX9_init, w.before a s = true) : (.fieldLink RX9 29 "SnowMules$World" "feasts" "LSnowMules$Table;" : Cond).before a s = true := hts _ (List.mem_of_getElem? (i := 11) (by decide +kernel))
theorem kX9_init_12 {a : Array Value} {s : State} (hts : ∀ w ∈ wsX9_init, w.before a s = true) : (.fieldLink RX9 32 "SnowMules$World" "way" "LSnowMules$Table;" : Cond).before a s = true := hts _ (List.mem_of_getElem? (i := 12) (by decide +kernel))
theorem kX9_init_13 {a : Array Value} {s : State} (hts : ∀ w ∈ wsX9_init, w.before a s = true) : (.fieldLink RX9 35 "SnowMules$World" "wayStart" "I" : Cond).before a s = true := hts _ (List.mem_of_getElem? (i := 13) (by decide +kernel))
theorem kX4_init_1 {a : Array Value} {s : State} (hts : ∀ w ∈ wsX4_init, w.before a s = true) : (.methodLink RX4 3 objectInit : Cond).before a s = true := hts _ (List.mem_of_getElem? (i := 1) (by decide +kernel))
theorem kX4_init_2 {a : Array Value} {s : State} (hts : ∀ w ∈ wsX4_init, w.before a s = true) : (.instanceMethod objectInit : Cond).before a s = true := hts _ (List.mem_of_getElem? (i := 2) (by decide +kernel))
theorem kX4_init_3 {a : Array Value} {s : State} (hts : ∀ w ∈ wsX4_init, w.before a s = true) : (.code objectInit ⟨#[0xb1]⟩ 1 none : Cond).before a s = true := hts _ (List.mem_of_getElem? (i := 3) (by decide +kernel))
theorem kX4_init_4 {a : Array Value} {s : State} (hts : ∀ w ∈ wsX4_init, w.before a s = true) : (.arrayClass .int : Cond).before a s = true := hts _ (List.mem_of_getElem? (i := 4) (by decide +kernel))
theorem kX4_init_5 {a : Array Value} {s : State} (hts : ∀ w ∈ wsX4_init, w.before a s = true) : (.fieldLink RX4 11 "SnowMules$Scene" "words" "[I" : Cond).before a s = true := hts _ (List.mem_of_getElem? (i := 5) (by decide +kernel))
theorem kX1_init_1 {a : Array Value} {s : State} (hts : ∀ w ∈ wsX1_init, w.before a s = true) : (.methodLink RX1 1 objectInit : Cond).before a s = true := hts _ (List.mem_of_getElem? (i := 1) (by decide +kernel))
theorem kX1_init_2 {a : Array Value} {s : State} (hts : ∀ w ∈ wsX1_init, w.before a s = true) : (.instanceMethod objectInit : Cond).before a s = true := hts _ (List.mem_of_getElem? (i := 2) (by decide +kernel))
theorem kX1_init_3 {a : Array Value} {s : State} (hts : ∀ w ∈ wsX1_init, w.before a s = true) : (.code objectInit ⟨#[0xb1]⟩ 1 none : Cond).before a s = true := hts _ (List.mem_of_getElem? (i := 3) (by decide +kernel))
theorem kX1_init_4 {a : Array Value} {s : State} (hts : ∀ w ∈ wsX1_init, w.before a s = true) : (.arrayClass .int : Cond).before a s = true := hts _ (List.mem_of_getElem? (i := 4) (by decide +kernel))
theorem kX1_init_5 {a : Array Value} {s : State} (hts : ∀ w ∈ wsX1_init, w.before a s = true) : (.fieldLink RX1 9 "SnowMules$Law" "sorts" "[I" : Cond).before a s = true := hts _ (List.mem_of_getElem? (i := 5) (by decide +kernel))
theorem kX1_init_6 {a : Array Value} {s : State} (hts : ∀ w ∈ wsX1_init, w.before a s = true) : (.fieldLink RX1 13 "SnowMules$Law" "sumStarts" "[I" : Cond).before a s = true := hts _ (List.mem_of_getElem? (i := 6) (by decide +kernel))
theorem kX1_init_7 {a : Array Value} {s : State} (hts : ∀ w ∈ wsX1_init, w.before a s = true) : (.fieldLink RX1 16 "SnowMules$Law" "sumStops" "[I" : Cond).before a s = true := hts _ (List.mem_of_getElem? (i := 7) (by decide +kernel))
theorem kX1_init_8 {a : Array Value} {s : State} (hts : ∀ w ∈ wsX1_init, w.before a s = true) : (.fieldLink RX1 19 "SnowMules$Law" "testStarts" "[I" : Cond).before a s = true := hts _ (List.mem_of_getElem? (i := 8) (by decide +kernel))
theorem kX1_init_9 {a : Array Value} {s : State} (hts : ∀ w ∈ wsX1_init, w.before a s = true) : (.fieldLink RX1 22 "SnowMules$Law" "testStops" "[I" : Cond).before a s = true := hts _ (List.mem_of_getElem? (i := 9) (by decide +kernel))
theorem kX1_init_10 {a : Array Value} {s : State} (hts : ∀ w ∈ wsX1_init, w.before a s = true) : (.fieldLink RX1 25 "SnowMules$Law" "joins" "[I" : Cond).before a s = true := hts _ (List.mem_of_getElem? (i := 10) (by decide +kernel))
theorem kX1_init_11 {a : Array Value} {s : State} (hts : ∀ w ∈ wsX1_init, w.before a s = true) : (.fieldLink RX1 28 "SnowMules$Law" "operands" "[I" : Cond).before a s = true := hts _ (List.mem_of_getElem? (i := 11) (by decide +kernel))
theorem kX1_init_12 {a : Array Value} {s : State} (hts : ∀ w ∈ wsX1_init, w.before a s = true) : (.fieldLink RX1 31 "SnowMules$Law" "factStarts" "[I" : Cond).before a s = true := hts _ (List.mem_of_getElem? (i := 12) (by decide +kernel))
theorem kX1_init_13 {a : Array Value} {s : State} (hts : ∀ w ∈ wsX1_init, w.before a s = true) : (.fieldLink RX1 34 "SnowMules$Law" "factMiddles" "[I" : Cond).before a s = true := hts _ (List.mem_of_getElem? (i := 13) (by decide +kernel))
theorem kX1_init_14 {a : Array Value} {s : State} (hts : ∀ w ∈ wsX1_init, w.before a s = true) : (.fieldLink RX1 37 "SnowMules$Law" "factStops" "[I" : Cond).before a s = true := hts _ (List.mem_of_getElem? (i := 14) (by decide +kernel))
theorem kX1_init_15 {a : Array Value} {s : State} (hts : ∀ w ∈ wsX1_init, w.before a s = true) : (.fieldLink RX1 40 "SnowMules$Law" "signs" "[I" : Cond).before a s = true := hts _ (List.mem_of_getElem? (i := 15) (by decide +kernel))
theorem kX1_init_16 {a : Array Value} {s : State} (hts : ∀ w ∈ wsX1_init, w.before a s = true) : (.fieldLink RX1 43 "SnowMules$Law" "tests" "[I" : Cond).before a s = true := hts _ (List.mem_of_getElem? (i := 16) (by decide +kernel))
theorem kX2_init_1 {a : Array Value} {s : State} (hts : ∀ w ∈ wsX2_init, w.before a s = true) : (.methodLink RX2 7 objectInit : Cond).before a s = true := hts _ (List.mem_of_getElem? (i := 1) (by decide +kernel))
theorem kX2_init_2 {a : Array Value} {s : State} (hts : ∀ w ∈ wsX2_init, w.before a s = true) : (.instanceMethod objectInit : Cond).before a s = true := hts _ (List.mem_of_getElem? (i := 2) (by decide +kernel))
theorem kX2_init_3 {a : Array Value} {s : State} (hts : ∀ w ∈ wsX2_init, w.before a s = true) : (.code objectInit ⟨#[0xb1]⟩ 1 none : Cond).before a s = true := hts _ (List.mem_of_getElem? (i := 3) (by decide +kernel))
theorem kX2_init_4 {a : Array Value} {s : State} (hts : ∀ w ∈ wsX2_init, w.before a s = true) : (.arrayClass .int : Cond).before a s = true := hts _ (List.mem_of_getElem? (i := 4) (by decide +kernel))
theorem kX2_init_5 {a : Array Value} {s : State} (hts : ∀ w ∈ wsX2_init, w.before a s = true) : (.fieldLink RX2 13 "SnowMules$LawReader" "tokens" "[I" : Cond).before a s = true := hts _ (List.mem_of_getElem? (i := 5) (by decide +kernel))
theorem kX2_init_6 {a : Array Value} {s : State} (hts : ∀ w ∈ wsX2_init, w.before a s = true) : (.fieldLink RX2 17 "SnowMules$LawReader" "places" "[I" : Cond).before a s = true := hts _ (List.mem_of_getElem? (i := 6) (by decide +kernel))
theorem kX2_init_7 {a : Array Value} {s : State} (hts : ∀ w ∈ wsX2_init, w.before a s = true) : (.classLink RX2 20 RX1 : Cond).before a s = true := hts _ (List.mem_of_getElem? (i := 7) (by decide +kernel))
theorem kX2_init_8 {a : Array Value} {s : State} (hts : ∀ w ∈ wsX2_init, w.before a s = true) : (.instantiable RX1 17 : Cond).before a s = true := hts _ (List.mem_of_getElem? (i := 8) (by decide +kernel))
theorem kX2_init_9 {a : Array Value} {s : State} (hts : ∀ w ∈ wsX2_init, w.before a s = true) : (.initialized RX1 : Cond).before a s = true := hts _ (List.mem_of_getElem? (i := 9) (by decide +kernel))
theorem kX2_init_11 {a : Array Value} {s : State} (hts : ∀ w ∈ wsX2_init, w.before a s = true) : (.instanceMethod yX1_init : Cond).before a s = true := hts _ (List.mem_of_getElem? (i := 11) (by decide +kernel))
theorem kX2_init_10 {a : Array Value} {s : State} (hts : ∀ w ∈ wsX2_init, w.before a s = true) : (.fieldLink RX2 23 "SnowMules$LawReader" "law" "LSnowMules$Law;" : Cond).before a s = true := hts _ (List.mem_of_getElem? (i := 10) (by decide +kernel))
theorem kX0_init_1 {a : Array Value} {s : State} (hts : ∀ w ∈ wsX0_init, w.before a s = true) : (.methodLink RX0 3 objectInit : Cond).before a s = true := hts _ (List.mem_of_getElem? (i := 1) (by decide +kernel))
theorem kX0_init_2 {a : Array Value} {s : State} (hts : ∀ w ∈ wsX0_init, w.before a s = true) : (.instanceMethod objectInit : Cond).before a s = true := hts _ (List.mem_of_getElem? (i := 2) (by decide +kernel))
theorem kX0_init_3 {a : Array Value} {s : State} (hts : ∀ w ∈ wsX0_init, w.before a s = true) : (.code objectInit ⟨#[0xb1]⟩ 1 none : Cond).before a s = true := hts _ (List.mem_of_getElem? (i := 3) (by decide +kernel))
theorem kX0_init_4 {a : Array Value} {s : State} (hts : ∀ w ∈ wsX0_init, w.before a s = true) : (.classLink RX0 9 RX4 : Cond).before a s = true := hts _ (List.mem_of_getElem? (i := 4) (by decide +kernel))
theorem kX0_init_5 {a : Array Value} {s : State} (hts : ∀ w ∈ wsX0_init, w.before a s = true) : (.instantiable RX4 4 : Cond).before a s = true := hts _ (List.mem_of_getElem? (i := 5) (by decide +kernel))
theorem kX0_init_6 {a : Array Value} {s : State} (hts : ∀ w ∈ wsX0_init, w.before a s = true) : (.initialized RX4 : Cond).before a s = true := hts _ (List.mem_of_getElem? (i := 6) (by decide +kernel))
theorem kX0_init_8 {a : Array Value} {s : State} (hts : ∀ w ∈ wsX0_init, w.before a s = true) : (.instanceMethod yX4_init : Cond).before a s = true := hts _ (List.mem_of_getElem? (i := 8) (by decide +kernel))
theorem kX0_init_7 {a : Array Value} {s : State} (hts : ∀ w ∈ wsX0_init, w.before a s = true) : (.fieldLink RX0 12 "SnowMules$Hours" "scene" "LSnowMules$Scene;" : Cond).before a s = true := hts _ (List.mem_of_getElem? (i := 7) (by decide +kernel))
theorem kX7_init_1 {a : Array Value} {s : State} (hts : ∀ w ∈ wsX7_init, w.before a s = true) : (.methodLink RX7 3 objectInit : Cond).before a s = true := hts _ (List.mem_of_getElem? (i := 1) (by decide +kernel))
theorem kX7_init_2 {a : Array Value} {s : State} (hts : ∀ w ∈ wsX7_init, w.before a s = true) : (.instanceMethod objectInit : Cond).before a s = true := hts _ (List.mem_of_getElem? (i := 2) (by decide +kernel))
theorem kX7_init_3 {a : Array Value} {s : State} (hts : ∀ w ∈ wsX7_init, w.before a s = true) : (.code objectInit ⟨#[0xb1]⟩ 1 none : Cond).before a s = true := hts _ (List.mem_of_getElem? (i := 3) (by decide +kernel))
theorem kX7_init_4 {a : Array Value} {s : State} (hts : ∀ w ∈ wsX7_init, w.before a s = true) : (.classLink RX7 9 RX1 : Cond).before a s = true := hts _ (List.mem_of_getElem? (i := 4) (by decide +kernel))
theorem kX7_init_5 {a : Array Value} {s : State} (hts : ∀ w ∈ wsX7_init, w.before a s = true) : (.instantiable RX1 17 : Cond).before a s = true := hts _ (List.mem_of_getElem? (i := 5) (by decide +kernel))
theorem kX7_init_6 {a : Array Value} {s : State} (hts : ∀ w ∈ wsX7_init, w.before a s = true) : (.initialized RX1 : Cond).before a s = true := hts _ (List.mem_of_getElem? (i := 6) (by decide +kernel))
theorem kX7_init_13 {a : Array Value} {s : State} (hts : ∀ w ∈ wsX7_init, w.before a s = true) : (.instanceMethod yX1_init : Cond).before a s = true := hts _ (List.mem_of_getElem? (i := 13) (by decide +kernel))
theorem kX7_init_7 {a : Array Value} {s : State} (hts : ∀ w ∈ wsX7_init, w.before a s = true) : (.fieldLink RX7 12 "SnowMules$Trip" "law" "LSnowMules$Law;" : Cond).before a s = true := hts _ (List.mem_of_getElem? (i := 7) (by decide +kernel))
theorem kX7_init_8 {a : Array Value} {s : State} (hts : ∀ w ∈ wsX7_init, w.before a s = true) : (.classLink RX7 18 RX4 : Cond).before a s = true := hts _ (List.mem_of_getElem? (i := 8) (by decide +kernel))
theorem kX7_init_9 {a : Array Value} {s : State} (hts : ∀ w ∈ wsX7_init, w.before a s = true) : (.instantiable RX4 4 : Cond).before a s = true := hts _ (List.mem_of_getElem? (i := 9) (by decide +kernel))
theorem kX7_init_10 {a : Array Value} {s : State} (hts : ∀ w ∈ wsX7_init, w.before a s = true) : (.initialized RX4 : Cond).before a s = true := hts _ (List.mem_of_getElem? (i := 10) (by decide +kernel))
theorem kX7_init_29 {a : Array Value} {s : State} (hts : ∀ w ∈ wsX7_init, w.before a s = true) : (.instanceMethod yX4_init : Cond).before a s = true := hts _ (List.mem_of_getElem? (i := 29) (by decide +kernel))
theorem kX7_init_11 {a : Array Value} {s : State} (hts : ∀ w ∈ wsX7_init, w.before a s = true) : (.fieldLink RX7 21 "SnowMules$Trip" "scene" "LSnowMules$Scene;" : Cond).before a s = true := hts _ (List.mem_of_getElem? (i := 11) (by decide +kernel))
theorem kX7_init_12 {a : Array Value} {s : State} (hts : ∀ w ∈ wsX7_init, w.before a s = true) : (.fieldLink RX7 25 "SnowMules$Trip" "world" "LSnowMules$World;" : Cond).before a s = true := hts _ (List.mem_of_getElem? (i := 12) (by decide +kernel))
theorem kX5_init_1 {a : Array Value} {s : State} (hts : ∀ w ∈ wsX5_init, w.before a s = true) : (.methodLink RX5 3 objectInit : Cond).before a s = true := hts _ (List.mem_of_getElem? (i := 1) (by decide +kernel))
theorem kX5_init_2 {a : Array Value} {s : State} (hts : ∀ w ∈ wsX5_init, w.before a s = true) : (.instanceMethod objectInit : Cond).before a s = true := hts _ (List.mem_of_getElem? (i := 2) (by decide +kernel))
theorem kX5_init_3 {a : Array Value} {s : State} (hts : ∀ w ∈ wsX5_init, w.before a s = true) : (.code objectInit ⟨#[0xb1]⟩ 1 none : Cond).before a s = true := hts _ (List.mem_of_getElem? (i := 3) (by decide +kernel))
theorem kX5_init_4 {a : Array Value} {s : State} (hts : ∀ w ∈ wsX5_init, w.before a s = true) : (.arrayClass .int : Cond).before a s = true := hts _ (List.mem_of_getElem? (i := 4) (by decide +kernel))
theorem kX5_init_5 {a : Array Value} {s : State} (hts : ∀ w ∈ wsX5_init, w.before a s = true) : (.fieldLink RX5 9 "SnowMules$Search" "far" "[I" : Cond).before a s = true := hts _ (List.mem_of_getElem? (i := 5) (by decide +kernel))
theorem kX5_init_6 {a : Array Value} {s : State} (hts : ∀ w ∈ wsX5_init, w.before a s = true) : (.fieldLink RX5 15 "SnowMules$Search" "row" "[I" : Cond).before a s = true := hts _ (List.mem_of_getElem? (i := 6) (by decide +kernel))
theorem kX5_init_7 {a : Array Value} {s : State} (hts : ∀ w ∈ wsX5_init, w.before a s = true) : (.fieldLink RX5 18 "SnowMules$Search" "bestRow" "[I" : Cond).before a s = true := hts _ (List.mem_of_getElem? (i := 7) (by decide +kernel))
theorem kX5_init_8 {a : Array Value} {s : State} (hts : ∀ w ∈ wsX5_init, w.before a s = true) : (.fieldLink RX5 21 "SnowMules$Search" "world" "LSnowMules$World;" : Cond).before a s = true := hts _ (List.mem_of_getElem? (i := 8) (by decide +kernel))
theorem kX5_init_9 {a : Array Value} {s : State} (hts : ∀ w ∈ wsX5_init, w.before a s = true) : (.fieldLink RX5 25 "SnowMules$Search" "trip" "LSnowMules$Trip;" : Cond).before a s = true := hts _ (List.mem_of_getElem? (i := 9) (by decide +kernel))
theorem kX8_init_1 {a : Array Value} {s : State} (hts : ∀ w ∈ wsX8_init, w.before a s = true) : (.methodLink RX8 3 objectInit : Cond).before a s = true := hts _ (List.mem_of_getElem? (i := 1) (by decide +kernel))
theorem kX8_init_2 {a : Array Value} {s : State} (hts : ∀ w ∈ wsX8_init, w.before a s = true) : (.instanceMethod objectInit : Cond).before a s = true := hts _ (List.mem_of_getElem? (i := 2) (by decide +kernel))
theorem kX8_init_3 {a : Array Value} {s : State} (hts : ∀ w ∈ wsX8_init, w.before a s = true) : (.code objectInit ⟨#[0xb1]⟩ 1 none : Cond).before a s = true := hts _ (List.mem_of_getElem? (i := 3) (by decide +kernel))
theorem kX8_init_4 {a : Array Value} {s : State} (hts : ∀ w ∈ wsX8_init, w.before a s = true) : (.arrayClass .int : Cond).before a s = true := hts _ (List.mem_of_getElem? (i := 4) (by decide +kernel))
theorem kX8_init_5 {a : Array Value} {s : State} (hts : ∀ w ∈ wsX8_init, w.before a s = true) : (.fieldLink RX8 9 "SnowMules$Waits" "waited" "[I" : Cond).before a s = true := hts _ (List.mem_of_getElem? (i := 5) (by decide +kernel))
theorem kX8_init_6 {a : Array Value} {s : State} (hts : ∀ w ∈ wsX8_init, w.before a s = true) : (.fieldLink RX8 15 "SnowMules$Waits" "fewest" "[I" : Cond).before a s = true := hts _ (List.mem_of_getElem? (i := 6) (by decide +kernel))
theorem kX8_init_7 {a : Array Value} {s : State} (hts : ∀ w ∈ wsX8_init, w.before a s = true) : (.fieldLink RX8 18 "SnowMules$Waits" "most" "[I" : Cond).before a s = true := hts _ (List.mem_of_getElem? (i := 7) (by decide +kernel))
theorem kX8_init_8 {a : Array Value} {s : State} (hts : ∀ w ∈ wsX8_init, w.before a s = true) : (.fieldLink RX8 21 "SnowMules$Waits" "world" "LSnowMules$World;" : Cond).before a s = true := hts _ (List.mem_of_getElem? (i := 8) (by decide +kernel))
theorem kX8_init_9 {a : Array Value} {s : State} (hts : ∀ w ∈ wsX8_init, w.before a s = true) : (.fieldLink RX8 25 "SnowMules$Waits" "trip" "LSnowMules$Trip;" : Cond).before a s = true := hts _ (List.mem_of_getElem? (i := 9) (by decide +kernel))
theorem kX3_init_1 {a : Array Value} {s : State} (hts : ∀ w ∈ wsX3_init, w.before a s = true) : (.methodLink RX3 3 objectInit : Cond).before a s = true := hts _ (List.mem_of_getElem? (i := 1) (by decide +kernel))
theorem kX3_init_2 {a : Array Value} {s : State} (hts : ∀ w ∈ wsX3_init, w.before a s = true) : (.instanceMethod objectInit : Cond).before a s = true := hts _ (List.mem_of_getElem? (i := 2) (by decide +kernel))
theorem kX3_init_3 {a : Array Value} {s : State} (hts : ∀ w ∈ wsX3_init, w.before a s = true) : (.code objectInit ⟨#[0xb1]⟩ 1 none : Cond).before a s = true := hts _ (List.mem_of_getElem? (i := 3) (by decide +kernel))
theorem kX3_init_4 {a : Array Value} {s : State} (hts : ∀ w ∈ wsX3_init, w.before a s = true) : (.arrayClass .int : Cond).before a s = true := hts _ (List.mem_of_getElem? (i := 4) (by decide +kernel))
theorem kX3_init_5 {a : Array Value} {s : State} (hts : ∀ w ∈ wsX3_init, w.before a s = true) : (.fieldLink RX3 9 "SnowMules$Market" "offers" "[I" : Cond).before a s = true := hts _ (List.mem_of_getElem? (i := 5) (by decide +kernel))
theorem kX3_init_6 {a : Array Value} {s : State} (hts : ∀ w ∈ wsX3_init, w.before a s = true) : (.fieldLink RX3 15 "SnowMules$Market" "chosen" "[I" : Cond).before a s = true := hts _ (List.mem_of_getElem? (i := 6) (by decide +kernel))
theorem kX3_init_7 {a : Array Value} {s : State} (hts : ∀ w ∈ wsX3_init, w.before a s = true) : (.fieldLink RX3 18 "SnowMules$Market" "world" "LSnowMules$World;" : Cond).before a s = true := hts _ (List.mem_of_getElem? (i := 7) (by decide +kernel))
theorem kX10_init_1 {a : Array Value} {s : State} (hts : ∀ w ∈ wsX10_init, w.before a s = true) : (.methodLink RX10 1 objectInit : Cond).before a s = true := hts _ (List.mem_of_getElem? (i := 1) (by decide +kernel))
theorem kX10_init_2 {a : Array Value} {s : State} (hts : ∀ w ∈ wsX10_init, w.before a s = true) : (.instanceMethod objectInit : Cond).before a s = true := hts _ (List.mem_of_getElem? (i := 2) (by decide +kernel))
theorem kX10_init_3 {a : Array Value} {s : State} (hts : ∀ w ∈ wsX10_init, w.before a s = true) : (.code objectInit ⟨#[0xb1]⟩ 1 none : Cond).before a s = true := hts _ (List.mem_of_getElem? (i := 3) (by decide +kernel))
theorem kX10_init_4 {a : Array Value} {s : State} (hts : ∀ w ∈ wsX10_init, w.before a s = true) : (.classLink RX10 7 RX9 : Cond).before a s = true := hts _ (List.mem_of_getElem? (i := 4) (by decide +kernel))
theorem kX10_init_5 {a : Array Value} {s : State} (hts : ∀ w ∈ wsX10_init, w.before a s = true) : (.instantiable RX9 10 : Cond).before a s = true := hts _ (List.mem_of_getElem? (i := 5) (by decide +kernel))
theorem kX10_init_6 {a : Array Value} {s : State} (hts : ∀ w ∈ wsX10_init, w.before a s = true) : (.initialized RX9 : Cond).before a s = true := hts _ (List.mem_of_getElem? (i := 6) (by decide +kernel))
theorem kX10_init_38 {a : Array Value} {s : State} (hts : ∀ w ∈ wsX10_init, w.before a s = true) : (.instanceMethod yX9_init : Cond).before a s = true := hts _ (List.mem_of_getElem? (i := 38) (by decide +kernel))
theorem kX10_init_7 {a : Array Value} {s : State} (hts : ∀ w ∈ wsX10_init, w.before a s = true) : (.fieldLink RX10 10 "SnowMules" "world" "LSnowMules$World;" : Cond).before a s = true := hts _ (List.mem_of_getElem? (i := 7) (by decide +kernel))
theorem kX10_init_8 {a : Array Value} {s : State} (hts : ∀ w ∈ wsX10_init, w.before a s = true) : (.fieldLink RX10 16 "SnowMules" "later" "LSnowMules$World;" : Cond).before a s = true := hts _ (List.mem_of_getElem? (i := 8) (by decide +kernel))
theorem kX10_init_9 {a : Array Value} {s : State} (hts : ∀ w ∈ wsX10_init, w.before a s = true) : (.fieldLink RX10 19 "SnowMules" "images" "[LSnowMules$World;" : Cond).before a s = true := hts _ (List.mem_of_getElem? (i := 9) (by decide +kernel))
theorem kX10_init_10 {a : Array Value} {s : State} (hts : ∀ w ∈ wsX10_init, w.before a s = true) : (.arrayClass .int : Cond).before a s = true := hts _ (List.mem_of_getElem? (i := 10) (by decide +kernel))
theorem kX10_init_11 {a : Array Value} {s : State} (hts : ∀ w ∈ wsX10_init, w.before a s = true) : (.fieldLink RX10 23 "SnowMules" "tape" "[I" : Cond).before a s = true := hts _ (List.mem_of_getElem? (i := 11) (by decide +kernel))
theorem kX10_init_12 {a : Array Value} {s : State} (hts : ∀ w ∈ wsX10_init, w.before a s = true) : (.classLink RX10 27 RX1 : Cond).before a s = true := hts _ (List.mem_of_getElem? (i := 12) (by decide +kernel))
theorem kX10_init_13 {a : Array Value} {s : State} (hts : ∀ w ∈ wsX10_init, w.before a s = true) : (.fieldLink RX10 29 "SnowMules" "laws" "[LSnowMules$Law;" : Cond).before a s = true := hts _ (List.mem_of_getElem? (i := 13) (by decide +kernel))
theorem kX10_init_14 {a : Array Value} {s : State} (hts : ∀ w ∈ wsX10_init, w.before a s = true) : (.classLink RX10 33 RX2 : Cond).before a s = true := hts _ (List.mem_of_getElem? (i := 14) (by decide +kernel))
theorem kX10_init_15 {a : Array Value} {s : State} (hts : ∀ w ∈ wsX10_init, w.before a s = true) : (.instantiable RX2 8 : Cond).before a s = true := hts _ (List.mem_of_getElem? (i := 15) (by decide +kernel))
theorem kX10_init_16 {a : Array Value} {s : State} (hts : ∀ w ∈ wsX10_init, w.before a s = true) : (.initialized RX2 : Cond).before a s = true := hts _ (List.mem_of_getElem? (i := 16) (by decide +kernel))
theorem kX10_init_61 {a : Array Value} {s : State} (hts : ∀ w ∈ wsX10_init, w.before a s = true) : (.instanceMethod yX2_init : Cond).before a s = true := hts _ (List.mem_of_getElem? (i := 61) (by decide +kernel))
theorem kX10_init_17 {a : Array Value} {s : State} (hts : ∀ w ∈ wsX10_init, w.before a s = true) : (.fieldLink RX10 36 "SnowMules" "reader" "LSnowMules$LawReader;" : Cond).before a s = true := hts _ (List.mem_of_getElem? (i := 17) (by decide +kernel))
theorem kX10_init_18 {a : Array Value} {s : State} (hts : ∀ w ∈ wsX10_init, w.before a s = true) : (.classLink RX10 40 RX0 : Cond).before a s = true := hts _ (List.mem_of_getElem? (i := 18) (by decide +kernel))
theorem kX10_init_19 {a : Array Value} {s : State} (hts : ∀ w ∈ wsX10_init, w.before a s = true) : (.instantiable RX0 1 : Cond).before a s = true := hts _ (List.mem_of_getElem? (i := 19) (by decide +kernel))
theorem kX10_init_20 {a : Array Value} {s : State} (hts : ∀ w ∈ wsX10_init, w.before a s = true) : (.initialized RX0 : Cond).before a s = true := hts _ (List.mem_of_getElem? (i := 20) (by decide +kernel))
theorem kX10_init_85 {a : Array Value} {s : State} (hts : ∀ w ∈ wsX10_init, w.before a s = true) : (.instanceMethod yX0_init : Cond).before a s = true := hts _ (List.mem_of_getElem? (i := 85) (by decide +kernel))
theorem kX10_init_21 {a : Array Value} {s : State} (hts : ∀ w ∈ wsX10_init, w.before a s = true) : (.fieldLink RX10 43 "SnowMules" "hours" "LSnowMules$Hours;" : Cond).before a s = true := hts _ (List.mem_of_getElem? (i := 21) (by decide +kernel))
theorem kX10_init_22 {a : Array Value} {s : State} (hts : ∀ w ∈ wsX10_init, w.before a s = true) : (.classLink RX10 47 RX7 : Cond).before a s = true := hts _ (List.mem_of_getElem? (i := 22) (by decide +kernel))
theorem kX10_init_23 {a : Array Value} {s : State} (hts : ∀ w ∈ wsX10_init, w.before a s = true) : (.instantiable RX7 9 : Cond).before a s = true := hts _ (List.mem_of_getElem? (i := 23) (by decide +kernel))
theorem kX10_init_24 {a : Array Value} {s : State} (hts : ∀ w ∈ wsX10_init, w.before a s = true) : (.initialized RX7 : Cond).before a s = true := hts _ (List.mem_of_getElem? (i := 24) (by decide +kernel))
theorem kX10_init_96 {a : Array Value} {s : State} (hts : ∀ w ∈ wsX10_init, w.before a s = true) : (.methodLink RX10 49 yX7_init : Cond).before a s = true := hts _ (List.mem_of_getElem? (i := 96) (by decide +kernel))
theorem kX10_init_97 {a : Array Value} {s : State} (hts : ∀ w ∈ wsX10_init, w.before a s = true) : (.instanceMethod yX7_init : Cond).before a s = true := hts _ (List.mem_of_getElem? (i := 97) (by decide +kernel))
theorem kX10_init_25 {a : Array Value} {s : State} (hts : ∀ w ∈ wsX10_init, w.before a s = true) : (.fieldLink RX10 52 "SnowMules" "trip" "LSnowMules$Trip;" : Cond).before a s = true := hts _ (List.mem_of_getElem? (i := 25) (by decide +kernel))
theorem kX10_init_26 {a : Array Value} {s : State} (hts : ∀ w ∈ wsX10_init, w.before a s = true) : (.classLink RX10 56 RX5 : Cond).before a s = true := hts _ (List.mem_of_getElem? (i := 26) (by decide +kernel))
theorem kX10_init_27 {a : Array Value} {s : State} (hts : ∀ w ∈ wsX10_init, w.before a s = true) : (.instantiable RX5 13 : Cond).before a s = true := hts _ (List.mem_of_getElem? (i := 27) (by decide +kernel))
theorem kX10_init_28 {a : Array Value} {s : State} (hts : ∀ w ∈ wsX10_init, w.before a s = true) : (.initialized RX5 : Cond).before a s = true := hts _ (List.mem_of_getElem? (i := 28) (by decide +kernel))
theorem kX10_init_105 {a : Array Value} {s : State} (hts : ∀ w ∈ wsX10_init, w.before a s = true) : (.methodLink RX10 58 yX5_init : Cond).before a s = true := hts _ (List.mem_of_getElem? (i := 105) (by decide +kernel))
theorem kX10_init_106 {a : Array Value} {s : State} (hts : ∀ w ∈ wsX10_init, w.before a s = true) : (.instanceMethod yX5_init : Cond).before a s = true := hts _ (List.mem_of_getElem? (i := 106) (by decide +kernel))
theorem kX10_init_29 {a : Array Value} {s : State} (hts : ∀ w ∈ wsX10_init, w.before a s = true) : (.fieldLink RX10 61 "SnowMules" "search" "LSnowMules$Search;" : Cond).before a s = true := hts _ (List.mem_of_getElem? (i := 29) (by decide +kernel))
theorem kX10_init_30 {a : Array Value} {s : State} (hts : ∀ w ∈ wsX10_init, w.before a s = true) : (.classLink RX10 65 RX8 : Cond).before a s = true := hts _ (List.mem_of_getElem? (i := 30) (by decide +kernel))
theorem kX10_init_31 {a : Array Value} {s : State} (hts : ∀ w ∈ wsX10_init, w.before a s = true) : (.instantiable RX8 7 : Cond).before a s = true := hts _ (List.mem_of_getElem? (i := 31) (by decide +kernel))
theorem kX10_init_32 {a : Array Value} {s : State} (hts : ∀ w ∈ wsX10_init, w.before a s = true) : (.initialized RX8 : Cond).before a s = true := hts _ (List.mem_of_getElem? (i := 32) (by decide +kernel))
theorem kX10_init_114 {a : Array Value} {s : State} (hts : ∀ w ∈ wsX10_init, w.before a s = true) : (.methodLink RX10 67 yX8_init : Cond).before a s = true := hts _ (List.mem_of_getElem? (i := 114) (by decide +kernel))
theorem kX10_init_115 {a : Array Value} {s : State} (hts : ∀ w ∈ wsX10_init, w.before a s = true) : (.instanceMethod yX8_init : Cond).before a s = true := hts _ (List.mem_of_getElem? (i := 115) (by decide +kernel))
theorem kX10_init_33 {a : Array Value} {s : State} (hts : ∀ w ∈ wsX10_init, w.before a s = true) : (.fieldLink RX10 68 "SnowMules" "waits" "LSnowMules$Waits;" : Cond).before a s = true := hts _ (List.mem_of_getElem? (i := 33) (by decide +kernel))
theorem kX10_init_34 {a : Array Value} {s : State} (hts : ∀ w ∈ wsX10_init, w.before a s = true) : (.classLink RX10 72 RX3 : Cond).before a s = true := hts _ (List.mem_of_getElem? (i := 34) (by decide +kernel))
theorem kX10_init_35 {a : Array Value} {s : State} (hts : ∀ w ∈ wsX10_init, w.before a s = true) : (.instantiable RX3 4 : Cond).before a s = true := hts _ (List.mem_of_getElem? (i := 35) (by decide +kernel))
theorem kX10_init_36 {a : Array Value} {s : State} (hts : ∀ w ∈ wsX10_init, w.before a s = true) : (.initialized RX3 : Cond).before a s = true := hts _ (List.mem_of_getElem? (i := 36) (by decide +kernel))
theorem kX10_init_123 {a : Array Value} {s : State} (hts : ∀ w ∈ wsX10_init, w.before a s = true) : (.methodLink RX10 74 yX3_init : Cond).before a s = true := hts _ (List.mem_of_getElem? (i := 123) (by decide +kernel))
theorem kX10_init_124 {a : Array Value} {s : State} (hts : ∀ w ∈ wsX10_init, w.before a s = true) : (.instanceMethod yX3_init : Cond).before a s = true := hts _ (List.mem_of_getElem? (i := 124) (by decide +kernel))
theorem kX10_init_37 {a : Array Value} {s : State} (hts : ∀ w ∈ wsX10_init, w.before a s = true) : (.fieldLink RX10 75 "SnowMules" "market" "LSnowMules$Market;" : Cond).before a s = true := hts _ (List.mem_of_getElem? (i := 37) (by decide +kernel))
theorem kX11_init_1 {a : Array Value} {s : State} (hts : ∀ w ∈ wsX11_init, w.before a s = true) : (.methodLink RX11 1 objectInit : Cond).before a s = true := hts _ (List.mem_of_getElem? (i := 1) (by decide +kernel))
theorem kX11_init_2 {a : Array Value} {s : State} (hts : ∀ w ∈ wsX11_init, w.before a s = true) : (.instanceMethod objectInit : Cond).before a s = true := hts _ (List.mem_of_getElem? (i := 2) (by decide +kernel))
theorem kX11_init_3 {a : Array Value} {s : State} (hts : ∀ w ∈ wsX11_init, w.before a s = true) : (.code objectInit ⟨#[0xb1]⟩ 1 none : Cond).before a s = true := hts _ (List.mem_of_getElem? (i := 3) (by decide +kernel))
theorem kX11_init_4 {a : Array Value} {s : State} (hts : ∀ w ∈ wsX11_init, w.before a s = true) : (.arrayClass .byte : Cond).before a s = true := hts _ (List.mem_of_getElem? (i := 4) (by decide +kernel))
theorem kX11_init_5 {a : Array Value} {s : State} (hts : ∀ w ∈ wsX11_init, w.before a s = true) : (.fieldLink RX11 7 "SnowMulesModel" "tape" "[B" : Cond).before a s = true := hts _ (List.mem_of_getElem? (i := 5) (by decide +kernel))
theorem kX11_init_6 {a : Array Value} {s : State} (hts : ∀ w ∈ wsX11_init, w.before a s = true) : (.arrayClass .int : Cond).before a s = true := hts _ (List.mem_of_getElem? (i := 6) (by decide +kernel))
theorem kX11_init_7 {a : Array Value} {s : State} (hts : ∀ w ∈ wsX11_init, w.before a s = true) : (.fieldLink RX11 13 "SnowMulesModel" "sign" "[I" : Cond).before a s = true := hts _ (List.mem_of_getElem? (i := 7) (by decide +kernel))
theorem kX11_init_8 {a : Array Value} {s : State} (hts : ∀ w ∈ wsX11_init, w.before a s = true) : (.fieldLink RX11 17 "SnowMulesModel" "length" "[I" : Cond).before a s = true := hts _ (List.mem_of_getElem? (i := 8) (by decide +kernel))
theorem kX11_init_9 {a : Array Value} {s : State} (hts : ∀ w ∈ wsX11_init, w.before a s = true) : (.fieldLink RX11 20 "SnowMulesModel" "clause" "[I" : Cond).before a s = true := hts _ (List.mem_of_getElem? (i := 9) (by decide +kernel))
theorem kX11_init_10 {a : Array Value} {s : State} (hts : ∀ w ∈ wsX11_init, w.before a s = true) : (.fieldLink RX11 23 "SnowMulesModel" "clauses" "[I" : Cond).before a s = true := hts _ (List.mem_of_getElem? (i := 10) (by decide +kernel))
theorem kX11_init_11 {a : Array Value} {s : State} (hts : ∀ w ∈ wsX11_init, w.before a s = true) : (.fieldLink RX11 26 "SnowMulesModel" "chain" "[I" : Cond).before a s = true := hts _ (List.mem_of_getElem? (i := 11) (by decide +kernel))
theorem kX11_init_12 {a : Array Value} {s : State} (hts : ∀ w ∈ wsX11_init, w.before a s = true) : (.fieldLink RX11 29 "SnowMulesModel" "open" "[I" : Cond).before a s = true := hts _ (List.mem_of_getElem? (i := 12) (by decide +kernel))
theorem kX11_init_13 {a : Array Value} {s : State} (hts : ∀ w ∈ wsX11_init, w.before a s = true) : (.arrayClass .long : Cond).before a s = true := hts _ (List.mem_of_getElem? (i := 13) (by decide +kernel))
theorem kX11_init_14 {a : Array Value} {s : State} (hts : ∀ w ∈ wsX11_init, w.before a s = true) : (.fieldLink RX11 32 "SnowMulesModel" "stack" "[J" : Cond).before a s = true := hts _ (List.mem_of_getElem? (i := 14) (by decide +kernel))
theorem kX11_init_15 {a : Array Value} {s : State} (hts : ∀ w ∈ wsX11_init, w.before a s = true) : (.fieldLink RX11 36 "SnowMulesModel" "word" "[J" : Cond).before a s = true := hts _ (List.mem_of_getElem? (i := 15) (by decide +kernel))
theorem kX11_init_16 {a : Array Value} {s : State} (hts : ∀ w ∈ wsX11_init, w.before a s = true) : (.fieldLink RX11 39 "SnowMulesModel" "said" "[I" : Cond).before a s = true := hts _ (List.mem_of_getElem? (i := 16) (by decide +kernel))
theorem kX11_init_17 {a : Array Value} {s : State} (hts : ∀ w ∈ wsX11_init, w.before a s = true) : (.fieldLink RX11 42 "SnowMulesModel" "kept" "[I" : Cond).before a s = true := hts _ (List.mem_of_getElem? (i := 17) (by decide +kernel))
theorem kX11_init_18 {a : Array Value} {s : State} (hts : ∀ w ∈ wsX11_init, w.before a s = true) : (.fieldLink RX11 45 "SnowMulesModel" "stepNode" "[I" : Cond).before a s = true := hts _ (List.mem_of_getElem? (i := 18) (by decide +kernel))
theorem kX11_init_19 {a : Array Value} {s : State} (hts : ∀ w ∈ wsX11_init, w.before a s = true) : (.fieldLink RX11 48 "SnowMulesModel" "stepDrops" "[I" : Cond).before a s = true := hts _ (List.mem_of_getElem? (i := 19) (by decide +kernel))
theorem kX11_init_20 {a : Array Value} {s : State} (hts : ∀ w ∈ wsX11_init, w.before a s = true) : (.fieldLink RX11 51 "SnowMulesModel" "stepHour" "[I" : Cond).before a s = true := hts _ (List.mem_of_getElem? (i := 20) (by decide +kernel))
theorem kX11_init_21 {a : Array Value} {s : State} (hts : ∀ w ∈ wsX11_init, w.before a s = true) : (.fieldLink RX11 54 "SnowMulesModel" "stepNext" "[I" : Cond).before a s = true := hts _ (List.mem_of_getElem? (i := 21) (by decide +kernel))
theorem kX11_init_22 {a : Array Value} {s : State} (hts : ∀ w ∈ wsX11_init, w.before a s = true) : (.fieldLink RX11 57 "SnowMulesModel" "stepPass" "[I" : Cond).before a s = true := hts _ (List.mem_of_getElem? (i := 22) (by decide +kernel))
theorem kX11_init_23 {a : Array Value} {s : State} (hts : ∀ w ∈ wsX11_init, w.before a s = true) : (.fieldLink RX11 60 "SnowMulesModel" "bestPass" "[I" : Cond).before a s = true := hts _ (List.mem_of_getElem? (i := 23) (by decide +kernel))
theorem kX11_init_24 {a : Array Value} {s : State} (hts : ∀ w ∈ wsX11_init, w.before a s = true) : (.fieldLink RX11 63 "SnowMulesModel" "far" "[I" : Cond).before a s = true := hts _ (List.mem_of_getElem? (i := 24) (by decide +kernel))
theorem kX11_init_25 {a : Array Value} {s : State} (hts : ∀ w ∈ wsX11_init, w.before a s = true) : (.fieldLink RX11 66 "SnowMulesModel" "waited" "[I" : Cond).before a s = true := hts _ (List.mem_of_getElem? (i := 25) (by decide +kernel))
theorem kX11_init_26 {a : Array Value} {s : State} (hts : ∀ w ∈ wsX11_init, w.before a s = true) : (.fieldLink RX11 69 "SnowMulesModel" "servers" "[I" : Cond).before a s = true := hts _ (List.mem_of_getElem? (i := 26) (by decide +kernel))
theorem kX11_init_27 {a : Array Value} {s : State} (hts : ∀ w ∈ wsX11_init, w.before a s = true) : (.fieldLink RX11 72 "SnowMulesModel" "images" "[I" : Cond).before a s = true := hts _ (List.mem_of_getElem? (i := 27) (by decide +kernel))
theorem kX11_init_28 {a : Array Value} {s : State} (hts : ∀ w ∈ wsX11_init, w.before a s = true) : (.arrayClass .boolean : Cond).before a s = true := hts _ (List.mem_of_getElem? (i := 28) (by decide +kernel))
theorem kX11_init_29 {a : Array Value} {s : State} (hts : ∀ w ∈ wsX11_init, w.before a s = true) : (.fieldLink RX11 75 "SnowMulesModel" "isMade" "[Z" : Cond).before a s = true := hts _ (List.mem_of_getElem? (i := 29) (by decide +kernel))
theorem kX6_has_1 {a : Array Value} {s : State} (hts : ∀ w ∈ wsX6_has, w.before a s = true) : (.fieldLink RX6 25 "SnowMules$Table" "size" "I" : Cond).before a s = true := hts _ (List.mem_of_getElem? (i := 1) (by decide +kernel))
theorem kX6_grow_1 {a : Array Value} {s : State} (hts : ∀ w ∈ wsX6_grow, w.before a s = true) : (.fieldLink RX6 25 "SnowMules$Table" "size" "I" : Cond).before a s = true := hts _ (List.mem_of_getElem? (i := 1) (by decide +kernel))
theorem kX6_grow_2 {a : Array Value} {s : State} (hts : ∀ w ∈ wsX6_grow, w.before a s = true) : (.fieldLink RX6 9 "SnowMules$Table" "width" "I" : Cond).before a s = true := hts _ (List.mem_of_getElem? (i := 2) (by decide +kernel))
theorem kX6_grow_3 {a : Array Value} {s : State} (hts : ∀ w ∈ wsX6_grow, w.before a s = true) : (.fieldLink RX6 21 "SnowMules$Table" "cells" "[I" : Cond).before a s = true := hts _ (List.mem_of_getElem? (i := 3) (by decide +kernel))
theorem kX6_put_1 {a : Array Value} {s : State} (hts : ∀ w ∈ wsX6_put, w.before a s = true) : (.fieldLink RX6 9 "SnowMules$Table" "width" "I" : Cond).before a s = true := hts _ (List.mem_of_getElem? (i := 1) (by decide +kernel))
theorem kX6_put_2 {a : Array Value} {s : State} (hts : ∀ w ∈ wsX6_put, w.before a s = true) : (.fieldLink RX6 21 "SnowMules$Table" "cells" "[I" : Cond).before a s = true := hts _ (List.mem_of_getElem? (i := 2) (by decide +kernel))
theorem kX6_copyFrom_1 {a : Array Value} {s : State} (hts : ∀ w ∈ wsX6_copyFrom, w.before a s = true) : (.fieldLink RX6 21 "SnowMules$Table" "cells" "[I" : Cond).before a s = true := hts _ (List.mem_of_getElem? (i := 1) (by decide +kernel))
theorem kX6_copyFrom_2 {a : Array Value} {s : State} (hts : ∀ w ∈ wsX6_copyFrom, w.before a s = true) : (.methodLink RX6 28 arraycopyName : Cond).before a s = true := hts _ (List.mem_of_getElem? (i := 2) (by decide +kernel))
theorem kX6_copyFrom_3 {a : Array Value} {s : State} (hts : ∀ w ∈ wsX6_copyFrom, w.before a s = true) : (.native arraycopyName : Cond).before a s = true := hts _ (List.mem_of_getElem? (i := 3) (by decide +kernel))
theorem kX6_copyFrom_4 {a : Array Value} {s : State} (hts : ∀ w ∈ wsX6_copyFrom, w.before a s = true) : (.static arraycopyName : Cond).before a s = true := hts _ (List.mem_of_getElem? (i := 4) (by decide +kernel))
theorem kX6_copyFrom_5 {a : Array Value} {s : State} (hts : ∀ w ∈ wsX6_copyFrom, w.before a s = true) : (.initialized "java/lang/System" : Cond).before a s = true := hts _ (List.mem_of_getElem? (i := 5) (by decide +kernel))
theorem kX6_copyFrom_6 {a : Array Value} {s : State} (hts : ∀ w ∈ wsX6_copyFrom, w.before a s = true) : (.fieldLink RX6 25 "SnowMules$Table" "size" "I" : Cond).before a s = true := hts _ (List.mem_of_getElem? (i := 6) (by decide +kernel))
theorem kX9_monthAt_1 {a : Array Value} {s : State} (hts : ∀ w ∈ wsX9_monthAt, w.before a s = true) : (.fieldLink RX9 46 "SnowMules$World" "firstMonth" "I" : Cond).before a s = true := hts _ (List.mem_of_getElem? (i := 1) (by decide +kernel))
theorem kX9_nodeOf_1 {a : Array Value} {s : State} (hts : ∀ w ∈ wsX9_nodeOf, w.before a s = true) : (.fieldLink RX9 23 "SnowMules$World" "jars" "LSnowMules$Table;" : Cond).before a s = true := hts _ (List.mem_of_getElem? (i := 1) (by decide +kernel))
theorem kX9_copyFrom_1 {a : Array Value} {s : State} (hts : ∀ w ∈ wsX9_copyFrom, w.before a s = true) : (.fieldLink RX9 14 "SnowMules$World" "nodes" "LSnowMules$Table;" : Cond).before a s = true := hts _ (List.mem_of_getElem? (i := 1) (by decide +kernel))
theorem kX9_copyFrom_2 {a : Array Value} {s : State} (hts : ∀ w ∈ wsX9_copyFrom, w.before a s = true) : (.fieldLink RX9 20 "SnowMules$World" "passes" "LSnowMules$Table;" : Cond).before a s = true := hts _ (List.mem_of_getElem? (i := 2) (by decide +kernel))
theorem kX9_copyFrom_3 {a : Array Value} {s : State} (hts : ∀ w ∈ wsX9_copyFrom, w.before a s = true) : (.fieldLink RX9 23 "SnowMules$World" "jars" "LSnowMules$Table;" : Cond).before a s = true := hts _ (List.mem_of_getElem? (i := 3) (by decide +kernel))
theorem kX9_copyFrom_4 {a : Array Value} {s : State} (hts : ∀ w ∈ wsX9_copyFrom, w.before a s = true) : (.fieldLink RX9 26 "SnowMules$World" "orders" "LSnowMules$Table;" : Cond).before a s = true := hts _ (List.mem_of_getElem? (i := 4) (by decide +kernel))
theorem kX9_copyFrom_5 {a : Array Value} {s : State} (hts : ∀ w ∈ wsX9_copyFrom, w.before a s = true) : (.fieldLink RX9 29 "SnowMules$World" "feasts" "LSnowMules$Table;" : Cond).before a s = true := hts _ (List.mem_of_getElem? (i := 5) (by decide +kernel))
theorem kX9_copyFrom_6 {a : Array Value} {s : State} (hts : ∀ w ∈ wsX9_copyFrom, w.before a s = true) : (.fieldLink RX9 32 "SnowMules$World" "way" "LSnowMules$Table;" : Cond).before a s = true := hts _ (List.mem_of_getElem? (i := 6) (by decide +kernel))
theorem kX9_copyFrom_7 {a : Array Value} {s : State} (hts : ∀ w ∈ wsX9_copyFrom, w.before a s = true) : (.fieldLink RX9 35 "SnowMules$World" "wayStart" "I" : Cond).before a s = true := hts _ (List.mem_of_getElem? (i := 7) (by decide +kernel))
theorem kX9_copyFrom_8 {a : Array Value} {s : State} (hts : ∀ w ∈ wsX9_copyFrom, w.before a s = true) : (.fieldLink RX9 43 "SnowMules$World" "now" "I" : Cond).before a s = true := hts _ (List.mem_of_getElem? (i := 8) (by decide +kernel))
theorem kX9_copyFrom_9 {a : Array Value} {s : State} (hts : ∀ w ∈ wsX9_copyFrom, w.before a s = true) : (.fieldLink RX9 46 "SnowMules$World" "firstMonth" "I" : Cond).before a s = true := hts _ (List.mem_of_getElem? (i := 9) (by decide +kernel))
theorem kX9_copyFrom_10 {a : Array Value} {s : State} (hts : ∀ w ∈ wsX9_copyFrom, w.before a s = true) : (.fieldLink RX9 49 "SnowMules$World" "x" "I" : Cond).before a s = true := hts _ (List.mem_of_getElem? (i := 10) (by decide +kernel))
theorem kX10_lawOf_1 {a : Array Value} {s : State} (hts : ∀ w ∈ wsX10_lawOf, w.before a s = true) : (.fieldLink RX10 128 "SnowMules" "lawCount" "I" : Cond).before a s = true := hts _ (List.mem_of_getElem? (i := 1) (by decide +kernel))
theorem kX10_writeBytes_1 {a : Array Value} {s : State} (hts : ∀ w ∈ wsX10_writeBytes, w.before a s = true) : (.fieldLink RX10 121 "SnowMules" "tapeLength" "I" : Cond).before a s = true := hts _ (List.mem_of_getElem? (i := 1) (by decide +kernel))
theorem kX10_writeBytes_2 {a : Array Value} {s : State} (hts : ∀ w ∈ wsX10_writeBytes, w.before a s = true) : (.fieldLink RX10 23 "SnowMules" "tape" "[I" : Cond).before a s = true := hts _ (List.mem_of_getElem? (i := 2) (by decide +kernel))
theorem kX10_isLoad_1 {a : Array Value} {s : State} (hts : ∀ w ∈ wsX10_isLoad, w.before a s = true) : (.constant RX10 140 (99999) : Cond).before a s = true := hts _ (List.mem_of_getElem? (i := 1) (by decide +kernel))
theorem kX10_isWish_1 {a : Array Value} {s : State} (hts : ∀ w ∈ wsX10_isWish, w.before a s = true) : (.constant RX10 140 (99999) : Cond).before a s = true := hts _ (List.mem_of_getElem? (i := 1) (by decide +kernel))
theorem kX2_addToken_1 {a : Array Value} {s : State} (hts : ∀ w ∈ wsX2_addToken, w.before a s = true) : (.fieldLink RX2 65 "SnowMules$LawReader" "tokenCount" "I" : Cond).before a s = true := hts _ (List.mem_of_getElem? (i := 1) (by decide +kernel))
theorem kX2_addToken_2 {a : Array Value} {s : State} (hts : ∀ w ∈ wsX2_addToken, w.before a s = true) : (.fieldLink RX2 13 "SnowMules$LawReader" "tokens" "[I" : Cond).before a s = true := hts _ (List.mem_of_getElem? (i := 2) (by decide +kernel))
theorem kX2_addToken_3 {a : Array Value} {s : State} (hts : ∀ w ∈ wsX2_addToken, w.before a s = true) : (.fieldLink RX2 17 "SnowMules$LawReader" "places" "[I" : Cond).before a s = true := hts _ (List.mem_of_getElem? (i := 3) (by decide +kernel))
theorem kX2_cut_1 {a : Array Value} {s : State} (hts : ∀ w ∈ wsX2_cut, w.before a s = true) : (.fieldLink RX2 65 "SnowMules$LawReader" "tokenCount" "I" : Cond).before a s = true := hts _ (List.mem_of_getElem? (i := 1) (by decide +kernel))
theorem kX1_clear_1 {a : Array Value} {s : State} (hts : ∀ w ∈ wsX1_clear, w.before a s = true) : (.fieldLink RX1 46 "SnowMules$Law" "chain" "I" : Cond).before a s = true := hts _ (List.mem_of_getElem? (i := 1) (by decide +kernel))
theorem kX1_clear_2 {a : Array Value} {s : State} (hts : ∀ w ∈ wsX1_clear, w.before a s = true) : (.fieldLink RX1 50 "SnowMules$Law" "clauses" "I" : Cond).before a s = true := hts _ (List.mem_of_getElem? (i := 2) (by decide +kernel))
theorem kX1_clear_3 {a : Array Value} {s : State} (hts : ∀ w ∈ wsX1_clear, w.before a s = true) : (.fieldLink RX1 53 "SnowMules$Law" "values" "I" : Cond).before a s = true := hts _ (List.mem_of_getElem? (i := 3) (by decide +kernel))
theorem kX1_clear_4 {a : Array Value} {s : State} (hts : ∀ w ∈ wsX1_clear, w.before a s = true) : (.fieldLink RX1 56 "SnowMules$Law" "facts" "I" : Cond).before a s = true := hts _ (List.mem_of_getElem? (i := 4) (by decide +kernel))
theorem kX1_clear_5 {a : Array Value} {s : State} (hts : ∀ w ∈ wsX1_clear, w.before a s = true) : (.fieldLink RX1 59 "SnowMules$Law" "steps" "I" : Cond).before a s = true := hts _ (List.mem_of_getElem? (i := 5) (by decide +kernel))
theorem kX2_token_1 {a : Array Value} {s : State} (hts : ∀ w ∈ wsX2_token, w.before a s = true) : (.fieldLink RX2 37 "SnowMules$LawReader" "next" "I" : Cond).before a s = true := hts _ (List.mem_of_getElem? (i := 1) (by decide +kernel))
theorem kX2_token_2 {a : Array Value} {s : State} (hts : ∀ w ∈ wsX2_token, w.before a s = true) : (.fieldLink RX2 65 "SnowMules$LawReader" "tokenCount" "I" : Cond).before a s = true := hts _ (List.mem_of_getElem? (i := 2) (by decide +kernel))
theorem kX2_token_3 {a : Array Value} {s : State} (hts : ∀ w ∈ wsX2_token, w.before a s = true) : (.fieldLink RX2 13 "SnowMules$LawReader" "tokens" "[I" : Cond).before a s = true := hts _ (List.mem_of_getElem? (i := 3) (by decide +kernel))
theorem kX2_refuse_1 {a : Array Value} {s : State} (hts : ∀ w ∈ wsX2_refuse, w.before a s = true) : (.fieldLink RX2 37 "SnowMules$LawReader" "next" "I" : Cond).before a s = true := hts _ (List.mem_of_getElem? (i := 1) (by decide +kernel))
theorem kX2_refuse_2 {a : Array Value} {s : State} (hts : ∀ w ∈ wsX2_refuse, w.before a s = true) : (.fieldLink RX2 17 "SnowMules$LawReader" "places" "[I" : Cond).before a s = true := hts _ (List.mem_of_getElem? (i := 2) (by decide +kernel))
theorem kX2_refuse_3 {a : Array Value} {s : State} (hts : ∀ w ∈ wsX2_refuse, w.before a s = true) : (.fieldLink RX2 41 "SnowMules$LawReader" "fault" "I" : Cond).before a s = true := hts _ (List.mem_of_getElem? (i := 3) (by decide +kernel))
theorem kX2_read_1 {a : Array Value} {s : State} (hts : ∀ w ∈ wsX2_read, w.before a s = true) : (.methodLink RX2 27 Lib.Math.min.name : Cond).before a s = true := hts _ (List.mem_of_getElem? (i := 1) (by decide +kernel))
theorem kX2_read_2 {a : Array Value} {s : State} (hts : ∀ w ∈ wsX2_read, w.before a s = true) : (.static Lib.Math.min.name : Cond).before a s = true := hts _ (List.mem_of_getElem? (i := 2) (by decide +kernel))
theorem kX2_read_3 {a : Array Value} {s : State} (hts : ∀ w ∈ wsX2_read, w.before a s = true) : (.initialized "java/lang/Math" : Cond).before a s = true := hts _ (List.mem_of_getElem? (i := 3) (by decide +kernel))
theorem kX2_read_4 {a : Array Value} {s : State} (hts : ∀ w ∈ wsX2_read, w.before a s = true) : (.code Lib.Math.min.name Lib.Math.min.code 2 (some .int) : Cond).before a s = true := hts _ (List.mem_of_getElem? (i := 4) (by decide +kernel))
theorem kX2_read_5 {a : Array Value} {s : State} (hts : ∀ w ∈ wsX2_read, w.before a s = true) : (.fieldLink RX2 37 "SnowMules$LawReader" "next" "I" : Cond).before a s = true := hts _ (List.mem_of_getElem? (i := 5) (by decide +kernel))
theorem kX2_read_6 {a : Array Value} {s : State} (hts : ∀ w ∈ wsX2_read, w.before a s = true) : (.fieldLink RX2 41 "SnowMules$LawReader" "fault" "I" : Cond).before a s = true := hts _ (List.mem_of_getElem? (i := 6) (by decide +kernel))
theorem kX2_read_7 {a : Array Value} {s : State} (hts : ∀ w ∈ wsX2_read, w.before a s = true) : (.fieldLink RX2 44 "SnowMules$LawReader" "parts" "I" : Cond).before a s = true := hts _ (List.mem_of_getElem? (i := 7) (by decide +kernel))
theorem kX2_read_8 {a : Array Value} {s : State} (hts : ∀ w ∈ wsX2_read, w.before a s = true) : (.fieldLink RX2 47 "SnowMules$LawReader" "chained" "Z" : Cond).before a s = true := hts _ (List.mem_of_getElem? (i := 8) (by decide +kernel))
theorem kX2_read_9 {a : Array Value} {s : State} (hts : ∀ w ∈ wsX2_read, w.before a s = true) : (.fieldLink RX2 23 "SnowMules$LawReader" "law" "LSnowMules$Law;" : Cond).before a s = true := hts _ (List.mem_of_getElem? (i := 9) (by decide +kernel))
theorem kX10_node_1 {a : Array Value} {s : State} (hts : ∀ w ∈ wsX10_node, w.before a s = true) : (.fieldLink RX10 10 "SnowMules" "world" "LSnowMules$World;" : Cond).before a s = true := hts _ (List.mem_of_getElem? (i := 1) (by decide +kernel))
theorem kX10_node_2 {a : Array Value} {s : State} (hts : ∀ w ∈ wsX10_node, w.before a s = true) : (.fieldLink RX10 83 "SnowMules$World" "nodes" "LSnowMules$Table;" : Cond).before a s = true := hts _ (List.mem_of_getElem? (i := 2) (by decide +kernel))
theorem kX10_pass_1 {a : Array Value} {s : State} (hts : ∀ w ∈ wsX10_pass, w.before a s = true) : (.fieldLink RX10 10 "SnowMules" "world" "LSnowMules$World;" : Cond).before a s = true := hts _ (List.mem_of_getElem? (i := 1) (by decide +kernel))
theorem kX10_pass_2 {a : Array Value} {s : State} (hts : ∀ w ∈ wsX10_pass, w.before a s = true) : (.fieldLink RX10 83 "SnowMules$World" "nodes" "LSnowMules$Table;" : Cond).before a s = true := hts _ (List.mem_of_getElem? (i := 2) (by decide +kernel))
theorem kX10_jar_1 {a : Array Value} {s : State} (hts : ∀ w ∈ wsX10_jar, w.before a s = true) : (.fieldLink RX10 10 "SnowMules" "world" "LSnowMules$World;" : Cond).before a s = true := hts _ (List.mem_of_getElem? (i := 1) (by decide +kernel))
theorem kX10_jar_2 {a : Array Value} {s : State} (hts : ∀ w ∈ wsX10_jar, w.before a s = true) : (.fieldLink RX10 83 "SnowMules$World" "nodes" "LSnowMules$Table;" : Cond).before a s = true := hts _ (List.mem_of_getElem? (i := 2) (by decide +kernel))
theorem kX10_month_1 {a : Array Value} {s : State} (hts : ∀ w ∈ wsX10_month, w.before a s = true) : (.fieldLink RX10 10 "SnowMules" "world" "LSnowMules$World;" : Cond).before a s = true := hts _ (List.mem_of_getElem? (i := 1) (by decide +kernel))
theorem kX10_month_2 {a : Array Value} {s : State} (hts : ∀ w ∈ wsX10_month, w.before a s = true) : (.fieldLink RX10 114 "SnowMules$World" "firstMonth" "I" : Cond).before a s = true := hts _ (List.mem_of_getElem? (i := 2) (by decide +kernel))
theorem kX10_seed_1 {a : Array Value} {s : State} (hts : ∀ w ∈ wsX10_seed, w.before a s = true) : (.fieldLink RX10 10 "SnowMules" "world" "LSnowMules$World;" : Cond).before a s = true := hts _ (List.mem_of_getElem? (i := 1) (by decide +kernel))
theorem kX10_seed_2 {a : Array Value} {s : State} (hts : ∀ w ∈ wsX10_seed, w.before a s = true) : (.fieldLink RX10 118 "SnowMules$World" "x" "I" : Cond).before a s = true := hts _ (List.mem_of_getElem? (i := 2) (by decide +kernel))
theorem kX10_feed_1 {a : Array Value} {s : State} (hts : ∀ w ∈ wsX10_feed, w.before a s = true) : (.fieldLink RX10 121 "SnowMules" "tapeLength" "I" : Cond).before a s = true := hts _ (List.mem_of_getElem? (i := 1) (by decide +kernel))
theorem kX10_end_1 {a : Array Value} {s : State} (hts : ∀ w ∈ wsX10_end, w.before a s = true) : (.fieldLink RX10 121 "SnowMules" "tapeLength" "I" : Cond).before a s = true := hts _ (List.mem_of_getElem? (i := 1) (by decide +kernel))
theorem kX10_law_1 {a : Array Value} {s : State} (hts : ∀ w ∈ wsX10_law, w.before a s = true) : (.fieldLink RX10 128 "SnowMules" "lawCount" "I" : Cond).before a s = true := hts _ (List.mem_of_getElem? (i := 1) (by decide +kernel))
theorem kX10_law_2 {a : Array Value} {s : State} (hts : ∀ w ∈ wsX10_law, w.before a s = true) : (.fieldLink RX10 29 "SnowMules" "laws" "[LSnowMules$Law;" : Cond).before a s = true := hts _ (List.mem_of_getElem? (i := 2) (by decide +kernel))
theorem kX10_law_3 {a : Array Value} {s : State} (hts : ∀ w ∈ wsX10_law, w.before a s = true) : (.classLink RX10 27 RX1 : Cond).before a s = true := hts _ (List.mem_of_getElem? (i := 3) (by decide +kernel))
theorem kX10_law_4 {a : Array Value} {s : State} (hts : ∀ w ∈ wsX10_law, w.before a s = true) : (.instantiable RX1 17 : Cond).before a s = true := hts _ (List.mem_of_getElem? (i := 4) (by decide +kernel))
theorem kX10_law_5 {a : Array Value} {s : State} (hts : ∀ w ∈ wsX10_law, w.before a s = true) : (.initialized RX1 : Cond).before a s = true := hts _ (List.mem_of_getElem? (i := 5) (by decide +kernel))
theorem kX10_law_9 {a : Array Value} {s : State} (hts : ∀ w ∈ wsX10_law, w.before a s = true) : (.instanceMethod yX1_init : Cond).before a s = true := hts _ (List.mem_of_getElem? (i := 9) (by decide +kernel))
theorem kX10_law_6 {a : Array Value} {s : State} (hts : ∀ w ∈ wsX10_law, w.before a s = true) : (.fieldLink RX10 36 "SnowMules" "reader" "LSnowMules$LawReader;" : Cond).before a s = true := hts _ (List.mem_of_getElem? (i := 6) (by decide +kernel))
theorem kX10_law_7 {a : Array Value} {s : State} (hts : ∀ w ∈ wsX10_law, w.before a s = true) : (.fieldLink RX10 23 "SnowMules" "tape" "[I" : Cond).before a s = true := hts _ (List.mem_of_getElem? (i := 7) (by decide +kernel))
theorem kX10_law_8 {a : Array Value} {s : State} (hts : ∀ w ∈ wsX10_law, w.before a s = true) : (.fieldLink RX10 121 "SnowMules" "tapeLength" "I" : Cond).before a s = true := hts _ (List.mem_of_getElem? (i := 8) (by decide +kernel))
theorem kX10_fill_1 {a : Array Value} {s : State} (hts : ∀ w ∈ wsX10_fill, w.before a s = true) : (.fieldLink RX10 10 "SnowMules" "world" "LSnowMules$World;" : Cond).before a s = true := hts _ (List.mem_of_getElem? (i := 1) (by decide +kernel))
theorem kX10_pour_1 {a : Array Value} {s : State} (hts : ∀ w ∈ wsX10_pour, w.before a s = true) : (.fieldLink RX10 10 "SnowMules" "world" "LSnowMules$World;" : Cond).before a s = true := hts _ (List.mem_of_getElem? (i := 1) (by decide +kernel))
theorem kX10_store_1 {a : Array Value} {s : State} (hts : ∀ w ∈ wsX10_store, w.before a s = true) : (.fieldLink RX10 10 "SnowMules" "world" "LSnowMules$World;" : Cond).before a s = true := hts _ (List.mem_of_getElem? (i := 1) (by decide +kernel))
theorem kX10_store_2 {a : Array Value} {s : State} (hts : ∀ w ∈ wsX10_store, w.before a s = true) : (.fieldLink RX10 83 "SnowMules$World" "nodes" "LSnowMules$Table;" : Cond).before a s = true := hts _ (List.mem_of_getElem? (i := 2) (by decide +kernel))
theorem kX10_leave_1 {a : Array Value} {s : State} (hts : ∀ w ∈ wsX10_leave, w.before a s = true) : (.fieldLink RX10 10 "SnowMules" "world" "LSnowMules$World;" : Cond).before a s = true := hts _ (List.mem_of_getElem? (i := 1) (by decide +kernel))
theorem kX10_at_1 {a : Array Value} {s : State} (hts : ∀ w ∈ wsX10_at, w.before a s = true) : (.fieldLink RX10 10 "SnowMules" "world" "LSnowMules$World;" : Cond).before a s = true := hts _ (List.mem_of_getElem? (i := 1) (by decide +kernel))
theorem kX10_at_2 {a : Array Value} {s : State} (hts : ∀ w ∈ wsX10_at, w.before a s = true) : (.fieldLink RX10 83 "SnowMules$World" "nodes" "LSnowMules$Table;" : Cond).before a s = true := hts _ (List.mem_of_getElem? (i := 2) (by decide +kernel))
theorem kX10_of_1 {a : Array Value} {s : State} (hts : ∀ w ∈ wsX10_of, w.before a s = true) : (.fieldLink RX10 10 "SnowMules" "world" "LSnowMules$World;" : Cond).before a s = true := hts _ (List.mem_of_getElem? (i := 1) (by decide +kernel))
theorem kX10_of_2 {a : Array Value} {s : State} (hts : ∀ w ∈ wsX10_of, w.before a s = true) : (.fieldLink RX10 107 "SnowMules$World" "jars" "LSnowMules$Table;" : Cond).before a s = true := hts _ (List.mem_of_getElem? (i := 2) (by decide +kernel))
theorem kX10_lay_1 {a : Array Value} {s : State} (hts : ∀ w ∈ wsX10_lay, w.before a s = true) : (.fieldLink RX10 10 "SnowMules" "world" "LSnowMules$World;" : Cond).before a s = true := hts _ (List.mem_of_getElem? (i := 1) (by decide +kernel))
theorem kX10_lay_2 {a : Array Value} {s : State} (hts : ∀ w ∈ wsX10_lay, w.before a s = true) : (.fieldLink RX10 176 "SnowMules$World" "wayStart" "I" : Cond).before a s = true := hts _ (List.mem_of_getElem? (i := 2) (by decide +kernel))
theorem kX10_from_1 {a : Array Value} {s : State} (hts : ∀ w ∈ wsX10_from, w.before a s = true) : (.fieldLink RX10 10 "SnowMules" "world" "LSnowMules$World;" : Cond).before a s = true := hts _ (List.mem_of_getElem? (i := 1) (by decide +kernel))
theorem kX10_from_2 {a : Array Value} {s : State} (hts : ∀ w ∈ wsX10_from, w.before a s = true) : (.fieldLink RX10 83 "SnowMules$World" "nodes" "LSnowMules$Table;" : Cond).before a s = true := hts _ (List.mem_of_getElem? (i := 2) (by decide +kernel))
theorem kX10_soonest_1 {a : Array Value} {s : State} (hts : ∀ w ∈ wsX10_soonest, w.before a s = true) : (.fieldLink RX10 10 "SnowMules" "world" "LSnowMules$World;" : Cond).before a s = true := hts _ (List.mem_of_getElem? (i := 1) (by decide +kernel))
theorem kX10_soonest_2 {a : Array Value} {s : State} (hts : ∀ w ∈ wsX10_soonest, w.before a s = true) : (.fieldLink RX10 83 "SnowMules$World" "nodes" "LSnowMules$Table;" : Cond).before a s = true := hts _ (List.mem_of_getElem? (i := 2) (by decide +kernel))
theorem kX10_nearest_1 {a : Array Value} {s : State} (hts : ∀ w ∈ wsX10_nearest, w.before a s = true) : (.fieldLink RX10 10 "SnowMules" "world" "LSnowMules$World;" : Cond).before a s = true := hts _ (List.mem_of_getElem? (i := 1) (by decide +kernel))
theorem kX10_nearest_2 {a : Array Value} {s : State} (hts : ∀ w ∈ wsX10_nearest, w.before a s = true) : (.fieldLink RX10 83 "SnowMules$World" "nodes" "LSnowMules$Table;" : Cond).before a s = true := hts _ (List.mem_of_getElem? (i := 2) (by decide +kernel))
theorem kX10_warmer_1 {a : Array Value} {s : State} (hts : ∀ w ∈ wsX10_warmer, w.before a s = true) : (.constant RX10 140 (99999) : Cond).before a s = true := hts _ (List.mem_of_getElem? (i := 1) (by decide +kernel))
theorem kX10_guess_2 {a : Array Value} {s : State} (hts : ∀ w ∈ wsX10_guess, w.before a s = true) : (.fieldLink RX10 10 "SnowMules" "world" "LSnowMules$World;" : Cond).before a s = true := hts _ (List.mem_of_getElem? (i := 2) (by decide +kernel))
theorem kX10_guess_3 {a : Array Value} {s : State} (hts : ∀ w ∈ wsX10_guess, w.before a s = true) : (.fieldLink RX10 185 "SnowMules$World" "way" "LSnowMules$Table;" : Cond).before a s = true := hts _ (List.mem_of_getElem? (i := 3) (by decide +kernel))
theorem kX10_guess_1 {a : Array Value} {s : State} (hts : ∀ w ∈ wsX10_guess, w.before a s = true) : (.constant RX10 140 (99999) : Cond).before a s = true := hts _ (List.mem_of_getElem? (i := 1) (by decide +kernel))
theorem kX10_order_1 {a : Array Value} {s : State} (hts : ∀ w ∈ wsX10_order, w.before a s = true) : (.constant RX10 140 (99999) : Cond).before a s = true := hts _ (List.mem_of_getElem? (i := 1) (by decide +kernel))
theorem kX10_order_2 {a : Array Value} {s : State} (hts : ∀ w ∈ wsX10_order, w.before a s = true) : (.fieldLink RX10 10 "SnowMules" "world" "LSnowMules$World;" : Cond).before a s = true := hts _ (List.mem_of_getElem? (i := 2) (by decide +kernel))
theorem kX10_order_3 {a : Array Value} {s : State} (hts : ∀ w ∈ wsX10_order, w.before a s = true) : (.fieldLink RX10 83 "SnowMules$World" "nodes" "LSnowMules$Table;" : Cond).before a s = true := hts _ (List.mem_of_getElem? (i := 3) (by decide +kernel))
theorem kX10_feast_1 {a : Array Value} {s : State} (hts : ∀ w ∈ wsX10_feast, w.before a s = true) : (.fieldLink RX10 10 "SnowMules" "world" "LSnowMules$World;" : Cond).before a s = true := hts _ (List.mem_of_getElem? (i := 1) (by decide +kernel))
theorem kX10_feast_2 {a : Array Value} {s : State} (hts : ∀ w ∈ wsX10_feast, w.before a s = true) : (.fieldLink RX10 83 "SnowMules$World" "nodes" "LSnowMules$Table;" : Cond).before a s = true := hts _ (List.mem_of_getElem? (i := 2) (by decide +kernel))
theorem kX10_nights_1 {a : Array Value} {s : State} (hts : ∀ w ∈ wsX10_nights, w.before a s = true) : (.constant RX10 140 (99999) : Cond).before a s = true := hts _ (List.mem_of_getElem? (i := 1) (by decide +kernel))
theorem kX10_count_1 {a : Array Value} {s : State} (hts : ∀ w ∈ wsX10_count, w.before a s = true) : (.fieldLink RX10 10 "SnowMules" "world" "LSnowMules$World;" : Cond).before a s = true := hts _ (List.mem_of_getElem? (i := 1) (by decide +kernel))
theorem kX10_count_2 {a : Array Value} {s : State} (hts : ∀ w ∈ wsX10_count, w.before a s = true) : (.fieldLink RX10 83 "SnowMules$World" "nodes" "LSnowMules$Table;" : Cond).before a s = true := hts _ (List.mem_of_getElem? (i := 2) (by decide +kernel))
theorem kX10_count_3 {a : Array Value} {s : State} (hts : ∀ w ∈ wsX10_count, w.before a s = true) : (.fieldLink RX10 188 "SnowMules$Table" "size" "I" : Cond).before a s = true := hts _ (List.mem_of_getElem? (i := 3) (by decide +kernel))
theorem kX10_count_4 {a : Array Value} {s : State} (hts : ∀ w ∈ wsX10_count, w.before a s = true) : (.fieldLink RX10 101 "SnowMules$World" "passes" "LSnowMules$Table;" : Cond).before a s = true := hts _ (List.mem_of_getElem? (i := 4) (by decide +kernel))
theorem kX10_count_5 {a : Array Value} {s : State} (hts : ∀ w ∈ wsX10_count, w.before a s = true) : (.fieldLink RX10 107 "SnowMules$World" "jars" "LSnowMules$Table;" : Cond).before a s = true := hts _ (List.mem_of_getElem? (i := 5) (by decide +kernel))
theorem kX10_count_6 {a : Array Value} {s : State} (hts : ∀ w ∈ wsX10_count, w.before a s = true) : (.fieldLink RX10 128 "SnowMules" "lawCount" "I" : Cond).before a s = true := hts _ (List.mem_of_getElem? (i := 6) (by decide +kernel))
theorem kX10_count_7 {a : Array Value} {s : State} (hts : ∀ w ∈ wsX10_count, w.before a s = true) : (.fieldLink RX10 141 "SnowMules$World" "now" "I" : Cond).before a s = true := hts _ (List.mem_of_getElem? (i := 7) (by decide +kernel))
theorem kX10_count_8 {a : Array Value} {s : State} (hts : ∀ w ∈ wsX10_count, w.before a s = true) : (.fieldLink RX10 263 "SnowMules$World" "orders" "LSnowMules$Table;" : Cond).before a s = true := hts _ (List.mem_of_getElem? (i := 8) (by decide +kernel))
theorem kX10_count_9 {a : Array Value} {s : State} (hts : ∀ w ∈ wsX10_count, w.before a s = true) : (.fieldLink RX10 285 "SnowMules$World" "feasts" "LSnowMules$Table;" : Cond).before a s = true := hts _ (List.mem_of_getElem? (i := 9) (by decide +kernel))
theorem kX10_count_10 {a : Array Value} {s : State} (hts : ∀ w ∈ wsX10_count, w.before a s = true) : (.fieldLink RX10 176 "SnowMules$World" "wayStart" "I" : Cond).before a s = true := hts _ (List.mem_of_getElem? (i := 10) (by decide +kernel))
theorem kX10_count_12 {a : Array Value} {s : State} (hts : ∀ w ∈ wsX10_count, w.before a s = true) : (.fieldLink RX10 118 "SnowMules$World" "x" "I" : Cond).before a s = true := hts _ (List.mem_of_getElem? (i := 12) (by decide +kernel))
theorem kX10_count_13 {a : Array Value} {s : State} (hts : ∀ w ∈ wsX10_count, w.before a s = true) : (.fieldLink RX10 121 "SnowMules" "tapeLength" "I" : Cond).before a s = true := hts _ (List.mem_of_getElem? (i := 13) (by decide +kernel))
theorem kX10_image_1 {a : Array Value} {s : State} (hts : ∀ w ∈ wsX10_image, w.before a s = true) : (.fieldLink RX10 19 "SnowMules" "images" "[LSnowMules$World;" : Cond).before a s = true := hts _ (List.mem_of_getElem? (i := 1) (by decide +kernel))
theorem kX10_image_2 {a : Array Value} {s : State} (hts : ∀ w ∈ wsX10_image, w.before a s = true) : (.classLink RX10 7 RX9 : Cond).before a s = true := hts _ (List.mem_of_getElem? (i := 2) (by decide +kernel))
theorem kX10_image_3 {a : Array Value} {s : State} (hts : ∀ w ∈ wsX10_image, w.before a s = true) : (.instantiable RX9 10 : Cond).before a s = true := hts _ (List.mem_of_getElem? (i := 3) (by decide +kernel))
theorem kX10_image_4 {a : Array Value} {s : State} (hts : ∀ w ∈ wsX10_image, w.before a s = true) : (.initialized RX9 : Cond).before a s = true := hts _ (List.mem_of_getElem? (i := 4) (by decide +kernel))
theorem kX10_image_11 {a : Array Value} {s : State} (hts : ∀ w ∈ wsX10_image, w.before a s = true) : (.instanceMethod yX9_init : Cond).before a s = true := hts _ (List.mem_of_getElem? (i := 11) (by decide +kernel))
theorem kX10_image_5 {a : Array Value} {s : State} (hts : ∀ w ∈ wsX10_image, w.before a s = true) : (.fieldLink RX10 10 "SnowMules" "world" "LSnowMules$World;" : Cond).before a s = true := hts _ (List.mem_of_getElem? (i := 5) (by decide +kernel))
theorem kX10_image_6 {a : Array Value} {s : State} (hts : ∀ w ∈ wsX10_image, w.before a s = true) : (.fieldLink RX10 141 "SnowMules$World" "now" "I" : Cond).before a s = true := hts _ (List.mem_of_getElem? (i := 6) (by decide +kernel))
theorem kX10_back_1 {a : Array Value} {s : State} (hts : ∀ w ∈ wsX10_back, w.before a s = true) : (.fieldLink RX10 19 "SnowMules" "images" "[LSnowMules$World;" : Cond).before a s = true := hts _ (List.mem_of_getElem? (i := 1) (by decide +kernel))
theorem iX6_init_X6 : ∀ w ∈ wsX60, w ∈ wsX6_init := by decide +kernel
theorem iX9_init_X6 : ∀ w ∈ wsX60, w ∈ wsX9_init := by decide +kernel
theorem iX9_init_X9 : ∀ w ∈ wsX90, w ∈ wsX9_init := by decide +kernel
theorem iX4_init_X4 : ∀ w ∈ wsX40, w ∈ wsX4_init := by decide +kernel
theorem iX1_init_X1 : ∀ w ∈ wsX10, w ∈ wsX1_init := by decide +kernel
theorem iX2_init_X2 : ∀ w ∈ wsX20, w ∈ wsX2_init := by decide +kernel
theorem iX2_init_X1 : ∀ w ∈ wsX10, w ∈ wsX2_init := by decide +kernel
theorem iX0_init_X4 : ∀ w ∈ wsX40, w ∈ wsX0_init := by decide +kernel
theorem iX0_init_X0 : ∀ w ∈ wsX00, w ∈ wsX0_init := by decide +kernel
theorem iX7_init_X1 : ∀ w ∈ wsX10, w ∈ wsX7_init := by decide +kernel
theorem iX7_init_X7 : ∀ w ∈ wsX70, w ∈ wsX7_init := by decide +kernel
theorem iX7_init_X4 : ∀ w ∈ wsX40, w ∈ wsX7_init := by decide +kernel
theorem iX5_init_X5 : ∀ w ∈ wsX50, w ∈ wsX5_init := by decide +kernel
theorem iX8_init_X8 : ∀ w ∈ wsX80, w ∈ wsX8_init := by decide +kernel
theorem iX3_init_X3 : ∀ w ∈ wsX30, w ∈ wsX3_init := by decide +kernel
theorem iX10_init_X9 : ∀ w ∈ wsX90, w ∈ wsX10_init := by decide +kernel
theorem iX10_init_X10 : ∀ w ∈ wsX100, w ∈ wsX10_init := by decide +kernel
theorem iX10_init_X2 : ∀ w ∈ wsX20, w ∈ wsX10_init := by decide +kernel
theorem iX10_init_X0 : ∀ w ∈ wsX00, w ∈ wsX10_init := by decide +kernel
theorem iX10_init_X7 : ∀ w ∈ wsX70, w ∈ wsX10_init := by decide +kernel
theorem iX10_init_X5 : ∀ w ∈ wsX50, w ∈ wsX10_init := by decide +kernel
theorem iX10_init_X8 : ∀ w ∈ wsX80, w ∈ wsX10_init := by decide +kernel
theorem iX10_init_X3 : ∀ w ∈ wsX30, w ∈ wsX10_init := by decide +kernel
theorem iX11_init_X11 : ∀ w ∈ wsX110, w ∈ wsX11_init := by decide +kernel
theorem iX6_has_X6 : ∀ w ∈ wsX60, w ∈ wsX6_has := by decide +kernel
theorem iX6_grow_X6 : ∀ w ∈ wsX60, w ∈ wsX6_grow := by decide +kernel
theorem iX6_put_X6 : ∀ w ∈ wsX60, w ∈ wsX6_put := by decide +kernel
theorem iX6_copyFrom_X6 : ∀ w ∈ wsX60, w ∈ wsX6_copyFrom := by decide +kernel
theorem iX9_monthAt_X9 : ∀ w ∈ wsX90, w ∈ wsX9_monthAt := by decide +kernel
theorem iX9_nodeOf_X9 : ∀ w ∈ wsX90, w ∈ wsX9_nodeOf := by decide +kernel
theorem iX9_copyFrom_X9 : ∀ w ∈ wsX90, w ∈ wsX9_copyFrom := by decide +kernel
theorem iX10_lawOf_X10 : ∀ w ∈ wsX100, w ∈ wsX10_lawOf := by decide +kernel
theorem iX10_writeBytes_X10 : ∀ w ∈ wsX100, w ∈ wsX10_writeBytes := by decide +kernel
theorem iX2_addToken_X2 : ∀ w ∈ wsX20, w ∈ wsX2_addToken := by decide +kernel
theorem iX2_cut_X2 : ∀ w ∈ wsX20, w ∈ wsX2_cut := by decide +kernel
theorem iX1_clear_X1 : ∀ w ∈ wsX10, w ∈ wsX1_clear := by decide +kernel
theorem iX2_token_X2 : ∀ w ∈ wsX20, w ∈ wsX2_token := by decide +kernel
theorem iX2_refuse_X2 : ∀ w ∈ wsX20, w ∈ wsX2_refuse := by decide +kernel
theorem iX2_read_X2 : ∀ w ∈ wsX20, w ∈ wsX2_read := by decide +kernel
theorem iX10_node_X10 : ∀ w ∈ wsX100, w ∈ wsX10_node := by decide +kernel
theorem iX10_node_X9 : ∀ w ∈ wsX90, w ∈ wsX10_node := by decide +kernel
theorem iX10_pass_X10 : ∀ w ∈ wsX100, w ∈ wsX10_pass := by decide +kernel
theorem iX10_pass_X9 : ∀ w ∈ wsX90, w ∈ wsX10_pass := by decide +kernel
theorem iX10_jar_X10 : ∀ w ∈ wsX100, w ∈ wsX10_jar := by decide +kernel
theorem iX10_jar_X9 : ∀ w ∈ wsX90, w ∈ wsX10_jar := by decide +kernel
theorem iX10_month_X10 : ∀ w ∈ wsX100, w ∈ wsX10_month := by decide +kernel
theorem iX10_month_X9 : ∀ w ∈ wsX90, w ∈ wsX10_month := by decide +kernel
theorem iX10_seed_X10 : ∀ w ∈ wsX100, w ∈ wsX10_seed := by decide +kernel
theorem iX10_seed_X9 : ∀ w ∈ wsX90, w ∈ wsX10_seed := by decide +kernel
theorem iX10_feed_X10 : ∀ w ∈ wsX100, w ∈ wsX10_feed := by decide +kernel
theorem iX10_end_X10 : ∀ w ∈ wsX100, w ∈ wsX10_end := by decide +kernel
theorem iX10_law_X10 : ∀ w ∈ wsX100, w ∈ wsX10_law := by decide +kernel
theorem iX10_law_X1 : ∀ w ∈ wsX10, w ∈ wsX10_law := by decide +kernel
theorem iX10_fill_X10 : ∀ w ∈ wsX100, w ∈ wsX10_fill := by decide +kernel
theorem iX10_pour_X10 : ∀ w ∈ wsX100, w ∈ wsX10_pour := by decide +kernel
theorem iX10_store_X10 : ∀ w ∈ wsX100, w ∈ wsX10_store := by decide +kernel
theorem iX10_store_X9 : ∀ w ∈ wsX90, w ∈ wsX10_store := by decide +kernel
theorem iX10_leave_X10 : ∀ w ∈ wsX100, w ∈ wsX10_leave := by decide +kernel
theorem iX10_at_X10 : ∀ w ∈ wsX100, w ∈ wsX10_at := by decide +kernel
theorem iX10_at_X9 : ∀ w ∈ wsX90, w ∈ wsX10_at := by decide +kernel
theorem iX10_of_X10 : ∀ w ∈ wsX100, w ∈ wsX10_of := by decide +kernel
theorem iX10_of_X9 : ∀ w ∈ wsX90, w ∈ wsX10_of := by decide +kernel
theorem iX10_lay_X10 : ∀ w ∈ wsX100, w ∈ wsX10_lay := by decide +kernel
theorem iX10_lay_X9 : ∀ w ∈ wsX90, w ∈ wsX10_lay := by decide +kernel
theorem iX10_from_X10 : ∀ w ∈ wsX100, w ∈ wsX10_from := by decide +kernel
theorem iX10_from_X9 : ∀ w ∈ wsX90, w ∈ wsX10_from := by decide +kernel
theorem iX10_soonest_X10 : ∀ w ∈ wsX100, w ∈ wsX10_soonest := by decide +kernel
theorem iX10_soonest_X9 : ∀ w ∈ wsX90, w ∈ wsX10_soonest := by decide +kernel
theorem iX10_nearest_X10 : ∀ w ∈ wsX100, w ∈ wsX10_nearest := by decide +kernel
theorem iX10_nearest_X9 : ∀ w ∈ wsX90, w ∈ wsX10_nearest := by decide +kernel
theorem iX10_guess_X10 : ∀ w ∈ wsX100, w ∈ wsX10_guess := by decide +kernel
theorem iX10_guess_X9 : ∀ w ∈ wsX90, w ∈ wsX10_guess := by decide +kernel
theorem iX10_order_X10 : ∀ w ∈ wsX100, w ∈ wsX10_order := by decide +kernel
theorem iX10_order_X9 : ∀ w ∈ wsX90, w ∈ wsX10_order := by decide +kernel
theorem iX10_feast_X10 : ∀ w ∈ wsX100, w ∈ wsX10_feast := by decide +kernel
theorem iX10_feast_X9 : ∀ w ∈ wsX90, w ∈ wsX10_feast := by decide +kernel
theorem iX10_count_X10 : ∀ w ∈ wsX100, w ∈ wsX10_count := by decide +kernel
theorem iX10_count_X9 : ∀ w ∈ wsX90, w ∈ wsX10_count := by decide +kernel
theorem iX10_count_X6 : ∀ w ∈ wsX60, w ∈ wsX10_count := by decide +kernel
theorem iX10_image_X10 : ∀ w ∈ wsX100, w ∈ wsX10_image := by decide +kernel
theorem iX10_image_X9 : ∀ w ∈ wsX90, w ∈ wsX10_image := by decide +kernel
theorem iX10_back_X10 : ∀ w ∈ wsX100, w ∈ wsX10_back := by decide +kernel
theorem dX6_init_0 : decode cX6_init 0 = .ok (.aload_n 0, 1) := by decide +kernel
theorem dX6_init_1 : decode cX6_init 1 = .ok (.invokespecial 3, 3) := by decide +kernel
theorem dX6_init_4 : decode cX6_init 4 = .ok (.aload_n 0, 1) := by decide +kernel
theorem dX6_init_5 : decode cX6_init 5 = .ok (.iload_n 2, 1) := by decide +kernel
theorem dX6_init_6 : decode cX6_init 6 = .ok (.putfield 9, 3) := by decide +kernel
theorem dX6_init_9 : decode cX6_init 9 = .ok (.aload_n 0, 1) := by decide +kernel
theorem dX6_init_10 : decode cX6_init 10 = .ok (.iconst 0, 1) := by decide +kernel
theorem dX6_init_11 : decode cX6_init 11 = .ok (.iload_n 1, 1) := by decide +kernel
theorem dX6_init_12 : decode cX6_init 12 = .ok (.iload_n 2, 1) := by decide +kernel
theorem dX6_init_13 : decode cX6_init 13 = .ok (.imul, 1) := by decide +kernel
theorem dX6_init_14 : decode cX6_init 14 = .ok (.invokestatic 15, 3) := by decide +kernel
theorem dX6_init_17 : decode cX6_init 17 = .ok (.newarray .int, 2) := by decide +kernel
theorem dX6_init_19 : decode cX6_init 19 = .ok (.putfield 21, 3) := by decide +kernel
theorem dX6_init_22 : decode cX6_init 22 = .ok (.return_, 1) := by decide +kernel
theorem dX9_init_0 : decode cX9_init 0 = .ok (.aload_n 0, 1) := by decide +kernel
theorem dX9_init_1 : decode cX9_init 1 = .ok (.invokespecial 3, 3) := by decide +kernel
theorem dX9_init_4 : decode cX9_init 4 = .ok (.aload_n 0, 1) := by decide +kernel
theorem dX9_init_5 : decode cX9_init 5 = .ok (.new 9, 3) := by decide +kernel
theorem dX9_init_8 : decode cX9_init 8 = .ok (.dup, 1) := by decide +kernel
theorem dX9_init_9 : decode cX9_init 9 = .ok (.bipush 12, 2) := by decide +kernel
theorem dX9_init_11 : decode cX9_init 11 = .ok (.iconst 4, 1) := by decide +kernel
theorem dX9_init_12 : decode cX9_init 12 = .ok (.invokespecial 11, 3) := by decide +kernel
theorem dX9_init_15 : decode cX9_init 15 = .ok (.putfield 14, 3) := by decide +kernel
theorem dX9_init_18 : decode cX9_init 18 = .ok (.aload_n 0, 1) := by decide +kernel
theorem dX9_init_19 : decode cX9_init 19 = .ok (.new 9, 3) := by decide +kernel
theorem dX9_init_22 : decode cX9_init 22 = .ok (.dup, 1) := by decide +kernel
theorem dX9_init_23 : decode cX9_init 23 = .ok (.bipush 20, 2) := by decide +kernel
theorem dX9_init_25 : decode cX9_init 25 = .ok (.iconst 5, 1) := by decide +kernel
theorem dX9_init_26 : decode cX9_init 26 = .ok (.invokespecial 11, 3) := by decide +kernel
theorem dX9_init_29 : decode cX9_init 29 = .ok (.putfield 20, 3) := by decide +kernel
theorem dX9_init_32 : decode cX9_init 32 = .ok (.aload_n 0, 1) := by decide +kernel
theorem dX9_init_33 : decode cX9_init 33 = .ok (.new 9, 3) := by decide +kernel
theorem dX9_init_36 : decode cX9_init 36 = .ok (.dup, 1) := by decide +kernel
theorem dX9_init_37 : decode cX9_init 37 = .ok (.bipush 16, 2) := by decide +kernel
theorem dX9_init_39 : decode cX9_init 39 = .ok (.bipush 9, 2) := by decide +kernel
theorem dX9_init_41 : decode cX9_init 41 = .ok (.invokespecial 11, 3) := by decide +kernel
theorem dX9_init_44 : decode cX9_init 44 = .ok (.putfield 23, 3) := by decide +kernel
theorem dX9_init_47 : decode cX9_init 47 = .ok (.aload_n 0, 1) := by decide +kernel
theorem dX9_init_48 : decode cX9_init 48 = .ok (.new 9, 3) := by decide +kernel
theorem dX9_init_51 : decode cX9_init 51 = .ok (.dup, 1) := by decide +kernel
theorem dX9_init_52 : decode cX9_init 52 = .ok (.bipush 6, 2) := by decide +kernel
theorem dX9_init_54 : decode cX9_init 54 = .ok (.iconst 4, 1) := by decide +kernel
theorem dX9_init_55 : decode cX9_init 55 = .ok (.invokespecial 11, 3) := by decide +kernel
theorem dX9_init_58 : decode cX9_init 58 = .ok (.putfield 26, 3) := by decide +kernel
theorem dX9_init_61 : decode cX9_init 61 = .ok (.aload_n 0, 1) := by decide +kernel
theorem dX9_init_62 : decode cX9_init 62 = .ok (.new 9, 3) := by decide +kernel
theorem dX9_init_65 : decode cX9_init 65 = .ok (.dup, 1) := by decide +kernel
theorem dX9_init_66 : decode cX9_init 66 = .ok (.bipush 8, 2) := by decide +kernel
theorem dX9_init_68 : decode cX9_init 68 = .ok (.iconst 3, 1) := by decide +kernel
theorem dX9_init_69 : decode cX9_init 69 = .ok (.invokespecial 11, 3) := by decide +kernel
theorem dX9_init_72 : decode cX9_init 72 = .ok (.putfield 29, 3) := by decide +kernel
theorem dX9_init_75 : decode cX9_init 75 = .ok (.aload_n 0, 1) := by decide +kernel
theorem dX9_init_76 : decode cX9_init 76 = .ok (.new 9, 3) := by decide +kernel
theorem dX9_init_79 : decode cX9_init 79 = .ok (.dup, 1) := by decide +kernel
theorem dX9_init_80 : decode cX9_init 80 = .ok (.bipush 6, 2) := by decide +kernel
theorem dX9_init_82 : decode cX9_init 82 = .ok (.iconst 1, 1) := by decide +kernel
theorem dX9_init_83 : decode cX9_init 83 = .ok (.invokespecial 11, 3) := by decide +kernel
theorem dX9_init_86 : decode cX9_init 86 = .ok (.putfield 32, 3) := by decide +kernel
theorem dX9_init_89 : decode cX9_init 89 = .ok (.aload_n 0, 1) := by decide +kernel
theorem dX9_init_90 : decode cX9_init 90 = .ok (.iconst (-1), 1) := by decide +kernel
theorem dX9_init_91 : decode cX9_init 91 = .ok (.putfield 35, 3) := by decide +kernel
theorem dX9_init_94 : decode cX9_init 94 = .ok (.return_, 1) := by decide +kernel
theorem dX4_init_0 : decode cX4_init 0 = .ok (.aload_n 0, 1) := by decide +kernel
theorem dX4_init_1 : decode cX4_init 1 = .ok (.invokespecial 3, 3) := by decide +kernel
theorem dX4_init_4 : decode cX4_init 4 = .ok (.aload_n 0, 1) := by decide +kernel
theorem dX4_init_5 : decode cX4_init 5 = .ok (.bipush 11, 2) := by decide +kernel
theorem dX4_init_7 : decode cX4_init 7 = .ok (.newarray .int, 2) := by decide +kernel
theorem dX4_init_9 : decode cX4_init 9 = .ok (.putfield 11, 3) := by decide +kernel
theorem dX4_init_12 : decode cX4_init 12 = .ok (.return_, 1) := by decide +kernel
theorem dX1_init_0 : decode cX1_init 0 = .ok (.aload_n 0, 1) := by decide +kernel
theorem dX1_init_1 : decode cX1_init 1 = .ok (.invokespecial 1, 3) := by decide +kernel
theorem dX1_init_4 : decode cX1_init 4 = .ok (.aload_n 0, 1) := by decide +kernel
theorem dX1_init_5 : decode cX1_init 5 = .ok (.bipush 12, 2) := by decide +kernel
theorem dX1_init_7 : decode cX1_init 7 = .ok (.newarray .int, 2) := by decide +kernel
theorem dX1_init_9 : decode cX1_init 9 = .ok (.putfield 9, 3) := by decide +kernel
theorem dX1_init_12 : decode cX1_init 12 = .ok (.aload_n 0, 1) := by decide +kernel
theorem dX1_init_13 : decode cX1_init 13 = .ok (.bipush 12, 2) := by decide +kernel
theorem dX1_init_15 : decode cX1_init 15 = .ok (.newarray .int, 2) := by decide +kernel
theorem dX1_init_17 : decode cX1_init 17 = .ok (.putfield 13, 3) := by decide +kernel
theorem dX1_init_20 : decode cX1_init 20 = .ok (.aload_n 0, 1) := by decide +kernel
theorem dX1_init_21 : decode cX1_init 21 = .ok (.bipush 12, 2) := by decide +kernel
theorem dX1_init_23 : decode cX1_init 23 = .ok (.newarray .int, 2) := by decide +kernel
theorem dX1_init_25 : decode cX1_init 25 = .ok (.putfield 16, 3) := by decide +kernel
theorem dX1_init_28 : decode cX1_init 28 = .ok (.aload_n 0, 1) := by decide +kernel
theorem dX1_init_29 : decode cX1_init 29 = .ok (.bipush 12, 2) := by decide +kernel
theorem dX1_init_31 : decode cX1_init 31 = .ok (.newarray .int, 2) := by decide +kernel
theorem dX1_init_33 : decode cX1_init 33 = .ok (.putfield 19, 3) := by decide +kernel
theorem dX1_init_36 : decode cX1_init 36 = .ok (.aload_n 0, 1) := by decide +kernel
theorem dX1_init_37 : decode cX1_init 37 = .ok (.bipush 12, 2) := by decide +kernel
theorem dX1_init_39 : decode cX1_init 39 = .ok (.newarray .int, 2) := by decide +kernel
theorem dX1_init_41 : decode cX1_init 41 = .ok (.putfield 22, 3) := by decide +kernel
theorem dX1_init_44 : decode cX1_init 44 = .ok (.aload_n 0, 1) := by decide +kernel
theorem dX1_init_45 : decode cX1_init 45 = .ok (.bipush 60, 2) := by decide +kernel
theorem dX1_init_47 : decode cX1_init 47 = .ok (.newarray .int, 2) := by decide +kernel
theorem dX1_init_49 : decode cX1_init 49 = .ok (.putfield 25, 3) := by decide +kernel
theorem dX1_init_52 : decode cX1_init 52 = .ok (.aload_n 0, 1) := by decide +kernel
theorem dX1_init_53 : decode cX1_init 53 = .ok (.bipush 60, 2) := by decide +kernel
theorem dX1_init_55 : decode cX1_init 55 = .ok (.newarray .int, 2) := by decide +kernel
theorem dX1_init_57 : decode cX1_init 57 = .ok (.putfield 28, 3) := by decide +kernel
theorem dX1_init_60 : decode cX1_init 60 = .ok (.aload_n 0, 1) := by decide +kernel
theorem dX1_init_61 : decode cX1_init 61 = .ok (.bipush 20, 2) := by decide +kernel
theorem dX1_init_63 : decode cX1_init 63 = .ok (.newarray .int, 2) := by decide +kernel
theorem dX1_init_65 : decode cX1_init 65 = .ok (.putfield 31, 3) := by decide +kernel
theorem dX1_init_68 : decode cX1_init 68 = .ok (.aload_n 0, 1) := by decide +kernel
theorem dX1_init_69 : decode cX1_init 69 = .ok (.bipush 20, 2) := by decide +kernel
theorem dX1_init_71 : decode cX1_init 71 = .ok (.newarray .int, 2) := by decide +kernel
theorem dX1_init_73 : decode cX1_init 73 = .ok (.putfield 34, 3) := by decide +kernel
theorem dX1_init_76 : decode cX1_init 76 = .ok (.aload_n 0, 1) := by decide +kernel
theorem dX1_init_77 : decode cX1_init 77 = .ok (.bipush 20, 2) := by decide +kernel
theorem dX1_init_79 : decode cX1_init 79 = .ok (.newarray .int, 2) := by decide +kernel
theorem dX1_init_81 : decode cX1_init 81 = .ok (.putfield 37, 3) := by decide +kernel
theorem dX1_init_84 : decode cX1_init 84 = .ok (.aload_n 0, 1) := by decide +kernel
theorem dX1_init_85 : decode cX1_init 85 = .ok (.bipush 20, 2) := by decide +kernel
theorem dX1_init_87 : decode cX1_init 87 = .ok (.newarray .int, 2) := by decide +kernel
theorem dX1_init_89 : decode cX1_init 89 = .ok (.putfield 40, 3) := by decide +kernel
theorem dX1_init_92 : decode cX1_init 92 = .ok (.aload_n 0, 1) := by decide +kernel
theorem dX1_init_93 : decode cX1_init 93 = .ok (.sipush 256, 3) := by decide +kernel
theorem dX1_init_96 : decode cX1_init 96 = .ok (.newarray .int, 2) := by decide +kernel
theorem dX1_init_98 : decode cX1_init 98 = .ok (.putfield 43, 3) := by decide +kernel
theorem dX1_init_101 : decode cX1_init 101 = .ok (.return_, 1) := by decide +kernel
theorem dX2_init_0 : decode cX2_init 0 = .ok (.aload_n 0, 1) := by decide +kernel
theorem dX2_init_1 : decode cX2_init 1 = .ok (.invokespecial 7, 3) := by decide +kernel
theorem dX2_init_4 : decode cX2_init 4 = .ok (.aload_n 0, 1) := by decide +kernel
theorem dX2_init_5 : decode cX2_init 5 = .ok (.sipush 401, 3) := by decide +kernel
theorem dX2_init_8 : decode cX2_init 8 = .ok (.newarray .int, 2) := by decide +kernel
theorem dX2_init_10 : decode cX2_init 10 = .ok (.putfield 13, 3) := by decide +kernel
theorem dX2_init_13 : decode cX2_init 13 = .ok (.aload_n 0, 1) := by decide +kernel
theorem dX2_init_14 : decode cX2_init 14 = .ok (.sipush 401, 3) := by decide +kernel
theorem dX2_init_17 : decode cX2_init 17 = .ok (.newarray .int, 2) := by decide +kernel
theorem dX2_init_19 : decode cX2_init 19 = .ok (.putfield 17, 3) := by decide +kernel
theorem dX2_init_22 : decode cX2_init 22 = .ok (.aload_n 0, 1) := by decide +kernel
theorem dX2_init_23 : decode cX2_init 23 = .ok (.new 20, 3) := by decide +kernel
theorem dX2_init_26 : decode cX2_init 26 = .ok (.dup, 1) := by decide +kernel
theorem dX2_init_27 : decode cX2_init 27 = .ok (.invokespecial 22, 3) := by decide +kernel
theorem dX2_init_30 : decode cX2_init 30 = .ok (.putfield 23, 3) := by decide +kernel
theorem dX2_init_33 : decode cX2_init 33 = .ok (.return_, 1) := by decide +kernel
theorem dX0_init_0 : decode cX0_init 0 = .ok (.aload_n 0, 1) := by decide +kernel
theorem dX0_init_1 : decode cX0_init 1 = .ok (.invokespecial 3, 3) := by decide +kernel
theorem dX0_init_4 : decode cX0_init 4 = .ok (.aload_n 0, 1) := by decide +kernel
theorem dX0_init_5 : decode cX0_init 5 = .ok (.new 9, 3) := by decide +kernel
theorem dX0_init_8 : decode cX0_init 8 = .ok (.dup, 1) := by decide +kernel
theorem dX0_init_9 : decode cX0_init 9 = .ok (.invokespecial 11, 3) := by decide +kernel
theorem dX0_init_12 : decode cX0_init 12 = .ok (.putfield 12, 3) := by decide +kernel
theorem dX0_init_15 : decode cX0_init 15 = .ok (.return_, 1) := by decide +kernel
theorem dX7_init_0 : decode cX7_init 0 = .ok (.aload_n 0, 1) := by decide +kernel
theorem dX7_init_1 : decode cX7_init 1 = .ok (.invokespecial 3, 3) := by decide +kernel
theorem dX7_init_4 : decode cX7_init 4 = .ok (.aload_n 0, 1) := by decide +kernel
theorem dX7_init_5 : decode cX7_init 5 = .ok (.new 9, 3) := by decide +kernel
theorem dX7_init_8 : decode cX7_init 8 = .ok (.dup, 1) := by decide +kernel
theorem dX7_init_9 : decode cX7_init 9 = .ok (.invokespecial 11, 3) := by decide +kernel
theorem dX7_init_12 : decode cX7_init 12 = .ok (.putfield 12, 3) := by decide +kernel
theorem dX7_init_15 : decode cX7_init 15 = .ok (.aload_n 0, 1) := by decide +kernel
theorem dX7_init_16 : decode cX7_init 16 = .ok (.new 18, 3) := by decide +kernel
theorem dX7_init_19 : decode cX7_init 19 = .ok (.dup, 1) := by decide +kernel
theorem dX7_init_20 : decode cX7_init 20 = .ok (.invokespecial 20, 3) := by decide +kernel
theorem dX7_init_23 : decode cX7_init 23 = .ok (.putfield 21, 3) := by decide +kernel
theorem dX7_init_26 : decode cX7_init 26 = .ok (.aload_n 0, 1) := by decide +kernel
theorem dX7_init_27 : decode cX7_init 27 = .ok (.aload_n 1, 1) := by decide +kernel
theorem dX7_init_28 : decode cX7_init 28 = .ok (.putfield 25, 3) := by decide +kernel
theorem dX7_init_31 : decode cX7_init 31 = .ok (.return_, 1) := by decide +kernel
theorem dX5_init_0 : decode cX5_init 0 = .ok (.aload_n 0, 1) := by decide +kernel
theorem dX5_init_1 : decode cX5_init 1 = .ok (.invokespecial 3, 3) := by decide +kernel
theorem dX5_init_4 : decode cX5_init 4 = .ok (.aload_n 0, 1) := by decide +kernel
theorem dX5_init_5 : decode cX5_init 5 = .ok (.bipush 12, 2) := by decide +kernel
theorem dX5_init_7 : decode cX5_init 7 = .ok (.newarray .int, 2) := by decide +kernel
theorem dX5_init_9 : decode cX5_init 9 = .ok (.putfield 9, 3) := by decide +kernel
theorem dX5_init_12 : decode cX5_init 12 = .ok (.aload_n 0, 1) := by decide +kernel
theorem dX5_init_13 : decode cX5_init 13 = .ok (.bipush 6, 2) := by decide +kernel
theorem dX5_init_15 : decode cX5_init 15 = .ok (.newarray .int, 2) := by decide +kernel
theorem dX5_init_17 : decode cX5_init 17 = .ok (.putfield 15, 3) := by decide +kernel
theorem dX5_init_20 : decode cX5_init 20 = .ok (.aload_n 0, 1) := by decide +kernel
theorem dX5_init_21 : decode cX5_init 21 = .ok (.bipush 6, 2) := by decide +kernel
theorem dX5_init_23 : decode cX5_init 23 = .ok (.newarray .int, 2) := by decide +kernel
theorem dX5_init_25 : decode cX5_init 25 = .ok (.putfield 18, 3) := by decide +kernel
theorem dX5_init_28 : decode cX5_init 28 = .ok (.aload_n 0, 1) := by decide +kernel
theorem dX5_init_29 : decode cX5_init 29 = .ok (.aload_n 1, 1) := by decide +kernel
theorem dX5_init_30 : decode cX5_init 30 = .ok (.putfield 21, 3) := by decide +kernel
theorem dX5_init_33 : decode cX5_init 33 = .ok (.aload_n 0, 1) := by decide +kernel
theorem dX5_init_34 : decode cX5_init 34 = .ok (.aload_n 2, 1) := by decide +kernel
theorem dX5_init_35 : decode cX5_init 35 = .ok (.putfield 25, 3) := by decide +kernel
theorem dX5_init_38 : decode cX5_init 38 = .ok (.return_, 1) := by decide +kernel
theorem dX8_init_0 : decode cX8_init 0 = .ok (.aload_n 0, 1) := by decide +kernel
theorem dX8_init_1 : decode cX8_init 1 = .ok (.invokespecial 3, 3) := by decide +kernel
theorem dX8_init_4 : decode cX8_init 4 = .ok (.aload_n 0, 1) := by decide +kernel
theorem dX8_init_5 : decode cX8_init 5 = .ok (.bipush 6, 2) := by decide +kernel
theorem dX8_init_7 : decode cX8_init 7 = .ok (.newarray .int, 2) := by decide +kernel
theorem dX8_init_9 : decode cX8_init 9 = .ok (.putfield 9, 3) := by decide +kernel
theorem dX8_init_12 : decode cX8_init 12 = .ok (.aload_n 0, 1) := by decide +kernel
theorem dX8_init_13 : decode cX8_init 13 = .ok (.bipush 6, 2) := by decide +kernel
theorem dX8_init_15 : decode cX8_init 15 = .ok (.newarray .int, 2) := by decide +kernel
theorem dX8_init_17 : decode cX8_init 17 = .ok (.putfield 15, 3) := by decide +kernel
theorem dX8_init_20 : decode cX8_init 20 = .ok (.aload_n 0, 1) := by decide +kernel
theorem dX8_init_21 : decode cX8_init 21 = .ok (.bipush 6, 2) := by decide +kernel
theorem dX8_init_23 : decode cX8_init 23 = .ok (.newarray .int, 2) := by decide +kernel
theorem dX8_init_25 : decode cX8_init 25 = .ok (.putfield 18, 3) := by decide +kernel
theorem dX8_init_28 : decode cX8_init 28 = .ok (.aload_n 0, 1) := by decide +kernel
theorem dX8_init_29 : decode cX8_init 29 = .ok (.aload_n 1, 1) := by decide +kernel
theorem dX8_init_30 : decode cX8_init 30 = .ok (.putfield 21, 3) := by decide +kernel
theorem dX8_init_33 : decode cX8_init 33 = .ok (.aload_n 0, 1) := by decide +kernel
theorem dX8_init_34 : decode cX8_init 34 = .ok (.aload_n 2, 1) := by decide +kernel
theorem dX8_init_35 : decode cX8_init 35 = .ok (.putfield 25, 3) := by decide +kernel
theorem dX8_init_38 : decode cX8_init 38 = .ok (.return_, 1) := by decide +kernel
theorem dX3_init_0 : decode cX3_init 0 = .ok (.aload_n 0, 1) := by decide +kernel
theorem dX3_init_1 : decode cX3_init 1 = .ok (.invokespecial 3, 3) := by decide +kernel
theorem dX3_init_4 : decode cX3_init 4 = .ok (.aload_n 0, 1) := by decide +kernel
theorem dX3_init_5 : decode cX3_init 5 = .ok (.bipush 6, 2) := by decide +kernel
theorem dX3_init_7 : decode cX3_init 7 = .ok (.newarray .int, 2) := by decide +kernel
theorem dX3_init_9 : decode cX3_init 9 = .ok (.putfield 9, 3) := by decide +kernel
theorem dX3_init_12 : decode cX3_init 12 = .ok (.aload_n 0, 1) := by decide +kernel
theorem dX3_init_13 : decode cX3_init 13 = .ok (.bipush 6, 2) := by decide +kernel
theorem dX3_init_15 : decode cX3_init 15 = .ok (.newarray .int, 2) := by decide +kernel
theorem dX3_init_17 : decode cX3_init 17 = .ok (.putfield 15, 3) := by decide +kernel
theorem dX3_init_20 : decode cX3_init 20 = .ok (.aload_n 0, 1) := by decide +kernel
theorem dX3_init_21 : decode cX3_init 21 = .ok (.aload_n 1, 1) := by decide +kernel
theorem dX3_init_22 : decode cX3_init 22 = .ok (.putfield 18, 3) := by decide +kernel
theorem dX3_init_25 : decode cX3_init 25 = .ok (.return_, 1) := by decide +kernel
theorem dX10_init_0 : decode cX10_init 0 = .ok (.aload_n 0, 1) := by decide +kernel
theorem dX10_init_1 : decode cX10_init 1 = .ok (.invokespecial 1, 3) := by decide +kernel
theorem dX10_init_4 : decode cX10_init 4 = .ok (.aload_n 0, 1) := by decide +kernel
theorem dX10_init_5 : decode cX10_init 5 = .ok (.new 7, 3) := by decide +kernel
theorem dX10_init_8 : decode cX10_init 8 = .ok (.dup, 1) := by decide +kernel
theorem dX10_init_9 : decode cX10_init 9 = .ok (.invokespecial 9, 3) := by decide +kernel
theorem dX10_init_12 : decode cX10_init 12 = .ok (.putfield 10, 3) := by decide +kernel
theorem dX10_init_15 : decode cX10_init 15 = .ok (.aload_n 0, 1) := by decide +kernel
theorem dX10_init_16 : decode cX10_init 16 = .ok (.new 7, 3) := by decide +kernel
theorem dX10_init_19 : decode cX10_init 19 = .ok (.dup, 1) := by decide +kernel
theorem dX10_init_20 : decode cX10_init 20 = .ok (.invokespecial 9, 3) := by decide +kernel
theorem dX10_init_23 : decode cX10_init 23 = .ok (.putfield 16, 3) := by decide +kernel
theorem dX10_init_26 : decode cX10_init 26 = .ok (.aload_n 0, 1) := by decide +kernel
theorem dX10_init_27 : decode cX10_init 27 = .ok (.iconst 4, 1) := by decide +kernel
theorem dX10_init_28 : decode cX10_init 28 = .ok (.anewarray 7, 3) := by decide +kernel
theorem dX10_init_31 : decode cX10_init 31 = .ok (.putfield 19, 3) := by decide +kernel
theorem dX10_init_34 : decode cX10_init 34 = .ok (.aload_n 0, 1) := by decide +kernel
theorem dX10_init_35 : decode cX10_init 35 = .ok (.sipush 400, 3) := by decide +kernel
theorem dX10_init_38 : decode cX10_init 38 = .ok (.newarray .int, 2) := by decide +kernel
theorem dX10_init_40 : decode cX10_init 40 = .ok (.putfield 23, 3) := by decide +kernel
theorem dX10_init_43 : decode cX10_init 43 = .ok (.aload_n 0, 1) := by decide +kernel
theorem dX10_init_44 : decode cX10_init 44 = .ok (.bipush 6, 2) := by decide +kernel
theorem dX10_init_46 : decode cX10_init 46 = .ok (.anewarray 27, 3) := by decide +kernel
theorem dX10_init_49 : decode cX10_init 49 = .ok (.putfield 29, 3) := by decide +kernel
theorem dX10_init_52 : decode cX10_init 52 = .ok (.aload_n 0, 1) := by decide +kernel
theorem dX10_init_53 : decode cX10_init 53 = .ok (.new 33, 3) := by decide +kernel
theorem dX10_init_56 : decode cX10_init 56 = .ok (.dup, 1) := by decide +kernel
theorem dX10_init_57 : decode cX10_init 57 = .ok (.invokespecial 35, 3) := by decide +kernel
theorem dX10_init_60 : decode cX10_init 60 = .ok (.putfield 36, 3) := by decide +kernel
theorem dX10_init_63 : decode cX10_init 63 = .ok (.aload_n 0, 1) := by decide +kernel
theorem dX10_init_64 : decode cX10_init 64 = .ok (.new 40, 3) := by decide +kernel
theorem dX10_init_67 : decode cX10_init 67 = .ok (.dup, 1) := by decide +kernel
theorem dX10_init_68 : decode cX10_init 68 = .ok (.invokespecial 42, 3) := by decide +kernel
theorem dX10_init_71 : decode cX10_init 71 = .ok (.putfield 43, 3) := by decide +kernel
theorem dX10_init_74 : decode cX10_init 74 = .ok (.aload_n 0, 1) := by decide +kernel
theorem dX10_init_75 : decode cX10_init 75 = .ok (.new 47, 3) := by decide +kernel
theorem dX10_init_78 : decode cX10_init 78 = .ok (.dup, 1) := by decide +kernel
theorem dX10_init_79 : decode cX10_init 79 = .ok (.aload_n 0, 1) := by decide +kernel
theorem dX10_init_80 : decode cX10_init 80 = .ok (.getfield 10, 3) := by decide +kernel
theorem dX10_init_83 : decode cX10_init 83 = .ok (.invokespecial 49, 3) := by decide +kernel
theorem dX10_init_86 : decode cX10_init 86 = .ok (.putfield 52, 3) := by decide +kernel
theorem dX10_init_89 : decode cX10_init 89 = .ok (.aload_n 0, 1) := by decide +kernel
theorem dX10_init_90 : decode cX10_init 90 = .ok (.new 56, 3) := by decide +kernel
theorem dX10_init_93 : decode cX10_init 93 = .ok (.dup, 1) := by decide +kernel
theorem dX10_init_94 : decode cX10_init 94 = .ok (.aload_n 0, 1) := by decide +kernel
theorem dX10_init_95 : decode cX10_init 95 = .ok (.getfield 10, 3) := by decide +kernel
theorem dX10_init_98 : decode cX10_init 98 = .ok (.aload_n 0, 1) := by decide +kernel
theorem dX10_init_99 : decode cX10_init 99 = .ok (.getfield 52, 3) := by decide +kernel
theorem dX10_init_102 : decode cX10_init 102 = .ok (.invokespecial 58, 3) := by decide +kernel
theorem dX10_init_105 : decode cX10_init 105 = .ok (.putfield 61, 3) := by decide +kernel
theorem dX10_init_108 : decode cX10_init 108 = .ok (.aload_n 0, 1) := by decide +kernel
theorem dX10_init_109 : decode cX10_init 109 = .ok (.new 65, 3) := by decide +kernel
theorem dX10_init_112 : decode cX10_init 112 = .ok (.dup, 1) := by decide +kernel
theorem dX10_init_113 : decode cX10_init 113 = .ok (.aload_n 0, 1) := by decide +kernel
theorem dX10_init_114 : decode cX10_init 114 = .ok (.getfield 10, 3) := by decide +kernel
theorem dX10_init_117 : decode cX10_init 117 = .ok (.aload_n 0, 1) := by decide +kernel
theorem dX10_init_118 : decode cX10_init 118 = .ok (.getfield 52, 3) := by decide +kernel
theorem dX10_init_121 : decode cX10_init 121 = .ok (.invokespecial 67, 3) := by decide +kernel
theorem dX10_init_124 : decode cX10_init 124 = .ok (.putfield 68, 3) := by decide +kernel
theorem dX10_init_127 : decode cX10_init 127 = .ok (.aload_n 0, 1) := by decide +kernel
theorem dX10_init_128 : decode cX10_init 128 = .ok (.new 72, 3) := by decide +kernel
theorem dX10_init_131 : decode cX10_init 131 = .ok (.dup, 1) := by decide +kernel
theorem dX10_init_132 : decode cX10_init 132 = .ok (.aload_n 0, 1) := by decide +kernel
theorem dX10_init_133 : decode cX10_init 133 = .ok (.getfield 10, 3) := by decide +kernel
theorem dX10_init_136 : decode cX10_init 136 = .ok (.invokespecial 74, 3) := by decide +kernel
theorem dX10_init_139 : decode cX10_init 139 = .ok (.putfield 75, 3) := by decide +kernel
theorem dX10_init_142 : decode cX10_init 142 = .ok (.return_, 1) := by decide +kernel
theorem dX11_init_0 : decode cX11_init 0 = .ok (.aload_n 0, 1) := by decide +kernel
theorem dX11_init_1 : decode cX11_init 1 = .ok (.invokespecial 1, 3) := by decide +kernel
theorem dX11_init_4 : decode cX11_init 4 = .ok (.aload_n 0, 1) := by decide +kernel
theorem dX11_init_5 : decode cX11_init 5 = .ok (.sipush 400, 3) := by decide +kernel
theorem dX11_init_8 : decode cX11_init 8 = .ok (.newarray .byte, 2) := by decide +kernel
theorem dX11_init_10 : decode cX11_init 10 = .ok (.putfield 7, 3) := by decide +kernel
theorem dX11_init_13 : decode cX11_init 13 = .ok (.aload_n 0, 1) := by decide +kernel
theorem dX11_init_14 : decode cX11_init 14 = .ok (.sipush 2400, 3) := by decide +kernel
theorem dX11_init_17 : decode cX11_init 17 = .ok (.newarray .int, 2) := by decide +kernel
theorem dX11_init_19 : decode cX11_init 19 = .ok (.putfield 13, 3) := by decide +kernel
theorem dX11_init_22 : decode cX11_init 22 = .ok (.aload_n 0, 1) := by decide +kernel
theorem dX11_init_23 : decode cX11_init 23 = .ok (.bipush 6, 2) := by decide +kernel
theorem dX11_init_25 : decode cX11_init 25 = .ok (.newarray .int, 2) := by decide +kernel
theorem dX11_init_27 : decode cX11_init 27 = .ok (.putfield 17, 3) := by decide +kernel
theorem dX11_init_30 : decode cX11_init 30 = .ok (.aload_n 0, 1) := by decide +kernel
theorem dX11_init_31 : decode cX11_init 31 = .ok (.sipush 360, 3) := by decide +kernel
theorem dX11_init_34 : decode cX11_init 34 = .ok (.newarray .int, 2) := by decide +kernel
theorem dX11_init_36 : decode cX11_init 36 = .ok (.putfield 20, 3) := by decide +kernel
theorem dX11_init_39 : decode cX11_init 39 = .ok (.aload_n 0, 1) := by decide +kernel
theorem dX11_init_40 : decode cX11_init 40 = .ok (.bipush 6, 2) := by decide +kernel
theorem dX11_init_42 : decode cX11_init 42 = .ok (.newarray .int, 2) := by decide +kernel
theorem dX11_init_44 : decode cX11_init 44 = .ok (.putfield 23, 3) := by decide +kernel
theorem dX11_init_47 : decode cX11_init 47 = .ok (.aload_n 0, 1) := by decide +kernel
theorem dX11_init_48 : decode cX11_init 48 = .ok (.bipush 6, 2) := by decide +kernel
theorem dX11_init_50 : decode cX11_init 50 = .ok (.newarray .int, 2) := by decide +kernel
theorem dX11_init_52 : decode cX11_init 52 = .ok (.putfield 26, 3) := by decide +kernel
theorem dX11_init_55 : decode cX11_init 55 = .ok (.aload_n 0, 1) := by decide +kernel
theorem dX11_init_56 : decode cX11_init 56 = .ok (.sipush 400, 3) := by decide +kernel
theorem dX11_init_59 : decode cX11_init 59 = .ok (.newarray .int, 2) := by decide +kernel
theorem dX11_init_61 : decode cX11_init 61 = .ok (.putfield 29, 3) := by decide +kernel
theorem dX11_init_64 : decode cX11_init 64 = .ok (.aload_n 0, 1) := by decide +kernel
theorem dX11_init_65 : decode cX11_init 65 = .ok (.bipush 64, 2) := by decide +kernel
theorem dX11_init_67 : decode cX11_init 67 = .ok (.newarray .long, 2) := by decide +kernel
theorem dX11_init_69 : decode cX11_init 69 = .ok (.putfield 32, 3) := by decide +kernel
theorem dX11_init_72 : decode cX11_init 72 = .ok (.aload_n 0, 1) := by decide +kernel
theorem dX11_init_73 : decode cX11_init 73 = .ok (.bipush 11, 2) := by decide +kernel
theorem dX11_init_75 : decode cX11_init 75 = .ok (.newarray .long, 2) := by decide +kernel
theorem dX11_init_77 : decode cX11_init 77 = .ok (.putfield 36, 3) := by decide +kernel
theorem dX11_init_80 : decode cX11_init 80 = .ok (.aload_n 0, 1) := by decide +kernel
theorem dX11_init_81 : decode cX11_init 81 = .ok (.sipush 360, 3) := by decide +kernel
theorem dX11_init_84 : decode cX11_init 84 = .ok (.newarray .int, 2) := by decide +kernel
theorem dX11_init_86 : decode cX11_init 86 = .ok (.putfield 39, 3) := by decide +kernel
theorem dX11_init_89 : decode cX11_init 89 = .ok (.aload_n 0, 1) := by decide +kernel
theorem dX11_init_90 : decode cX11_init 90 = .ok (.sipush 360, 3) := by decide +kernel
theorem dX11_init_93 : decode cX11_init 93 = .ok (.newarray .int, 2) := by decide +kernel
theorem dX11_init_95 : decode cX11_init 95 = .ok (.putfield 42, 3) := by decide +kernel
theorem dX11_init_98 : decode cX11_init 98 = .ok (.aload_n 0, 1) := by decide +kernel
theorem dX11_init_99 : decode cX11_init 99 = .ok (.bipush 7, 2) := by decide +kernel
theorem dX11_init_101 : decode cX11_init 101 = .ok (.newarray .int, 2) := by decide +kernel
theorem dX11_init_103 : decode cX11_init 103 = .ok (.putfield 45, 3) := by decide +kernel
theorem dX11_init_106 : decode cX11_init 106 = .ok (.aload_n 0, 1) := by decide +kernel
theorem dX11_init_107 : decode cX11_init 107 = .ok (.bipush 7, 2) := by decide +kernel
theorem dX11_init_109 : decode cX11_init 109 = .ok (.newarray .int, 2) := by decide +kernel
theorem dX11_init_111 : decode cX11_init 111 = .ok (.putfield 48, 3) := by decide +kernel
theorem dX11_init_114 : decode cX11_init 114 = .ok (.aload_n 0, 1) := by decide +kernel
theorem dX11_init_115 : decode cX11_init 115 = .ok (.bipush 7, 2) := by decide +kernel
theorem dX11_init_117 : decode cX11_init 117 = .ok (.newarray .int, 2) := by decide +kernel
theorem dX11_init_119 : decode cX11_init 119 = .ok (.putfield 51, 3) := by decide +kernel
theorem dX11_init_122 : decode cX11_init 122 = .ok (.aload_n 0, 1) := by decide +kernel
theorem dX11_init_123 : decode cX11_init 123 = .ok (.bipush 7, 2) := by decide +kernel
theorem dX11_init_125 : decode cX11_init 125 = .ok (.newarray .int, 2) := by decide +kernel
theorem dX11_init_127 : decode cX11_init 127 = .ok (.putfield 54, 3) := by decide +kernel
theorem dX11_init_130 : decode cX11_init 130 = .ok (.aload_n 0, 1) := by decide +kernel
theorem dX11_init_131 : decode cX11_init 131 = .ok (.bipush 7, 2) := by decide +kernel
theorem dX11_init_133 : decode cX11_init 133 = .ok (.newarray .int, 2) := by decide +kernel
theorem dX11_init_135 : decode cX11_init 135 = .ok (.putfield 57, 3) := by decide +kernel
theorem dX11_init_138 : decode cX11_init 138 = .ok (.aload_n 0, 1) := by decide +kernel
theorem dX11_init_139 : decode cX11_init 139 = .ok (.bipush 6, 2) := by decide +kernel
theorem dX11_init_141 : decode cX11_init 141 = .ok (.newarray .int, 2) := by decide +kernel
theorem dX11_init_143 : decode cX11_init 143 = .ok (.putfield 60, 3) := by decide +kernel
theorem dX11_init_146 : decode cX11_init 146 = .ok (.aload_n 0, 1) := by decide +kernel
theorem dX11_init_147 : decode cX11_init 147 = .ok (.bipush 12, 2) := by decide +kernel
theorem dX11_init_149 : decode cX11_init 149 = .ok (.newarray .int, 2) := by decide +kernel
theorem dX11_init_151 : decode cX11_init 151 = .ok (.putfield 63, 3) := by decide +kernel
theorem dX11_init_154 : decode cX11_init 154 = .ok (.aload_n 0, 1) := by decide +kernel
theorem dX11_init_155 : decode cX11_init 155 = .ok (.bipush 6, 2) := by decide +kernel
theorem dX11_init_157 : decode cX11_init 157 = .ok (.newarray .int, 2) := by decide +kernel
theorem dX11_init_159 : decode cX11_init 159 = .ok (.putfield 66, 3) := by decide +kernel
theorem dX11_init_162 : decode cX11_init 162 = .ok (.aload_n 0, 1) := by decide +kernel
theorem dX11_init_163 : decode cX11_init 163 = .ok (.bipush 6, 2) := by decide +kernel
theorem dX11_init_165 : decode cX11_init 165 = .ok (.newarray .int, 2) := by decide +kernel
theorem dX11_init_167 : decode cX11_init 167 = .ok (.putfield 69, 3) := by decide +kernel
theorem dX11_init_170 : decode cX11_init 170 = .ok (.aload_n 0, 1) := by decide +kernel
theorem dX11_init_171 : decode cX11_init 171 = .ok (.sipush 1440, 3) := by decide +kernel
theorem dX11_init_174 : decode cX11_init 174 = .ok (.newarray .int, 2) := by decide +kernel
theorem dX11_init_176 : decode cX11_init 176 = .ok (.putfield 72, 3) := by decide +kernel
theorem dX11_init_179 : decode cX11_init 179 = .ok (.aload_n 0, 1) := by decide +kernel
theorem dX11_init_180 : decode cX11_init 180 = .ok (.iconst 4, 1) := by decide +kernel
theorem dX11_init_181 : decode cX11_init 181 = .ok (.newarray .boolean, 2) := by decide +kernel
theorem dX11_init_183 : decode cX11_init 183 = .ok (.putfield 75, 3) := by decide +kernel
theorem dX11_init_186 : decode cX11_init 186 = .ok (.aload_n 0, 1) := by decide +kernel
theorem dX11_init_187 : decode cX11_init 187 = .ok (.getfield 39, 3) := by decide +kernel
theorem dX11_init_190 : decode cX11_init 190 = .ok (.bipush 8, 2) := by decide +kernel
theorem dX11_init_192 : decode cX11_init 192 = .ok (.iconst (-1), 1) := by decide +kernel
theorem dX11_init_193 : decode cX11_init 193 = .ok (.iastore, 1) := by decide +kernel
theorem dX11_init_194 : decode cX11_init 194 = .ok (.return_, 1) := by decide +kernel
theorem dX10_within_0 : decode cX10_within 0 = .ok (.iload_n 0, 1) := by decide +kernel
theorem dX10_within_1 : decode cX10_within 1 = .ok (.ifCond .lt 12, 3) := by decide +kernel
theorem dX10_within_13 : decode cX10_within 13 = .ok (.iconst 0, 1) := by decide +kernel
theorem dX10_within_14 : decode cX10_within 14 = .ok (.ireturn, 1) := by decide +kernel
theorem dX10_within_4 : decode cX10_within 4 = .ok (.iload_n 0, 1) := by decide +kernel
theorem dX10_within_5 : decode cX10_within 5 = .ok (.iload_n 1, 1) := by decide +kernel
theorem dX10_within_6 : decode cX10_within 6 = .ok (.if_icmp .gt 7, 3) := by decide +kernel
theorem dX10_within_9 : decode cX10_within 9 = .ok (.iconst 1, 1) := by decide +kernel
theorem dX10_within_10 : decode cX10_within 10 = .ok (.goto 4, 3) := by decide +kernel
theorem dX6_has_0 : decode cX6_has 0 = .ok (.iload_n 1, 1) := by decide +kernel
theorem dX6_has_1 : decode cX6_has 1 = .ok (.ifCond .lt 15, 3) := by decide +kernel
theorem dX6_has_16 : decode cX6_has 16 = .ok (.iconst 0, 1) := by decide +kernel
theorem dX6_has_17 : decode cX6_has 17 = .ok (.ireturn, 1) := by decide +kernel
theorem dX6_has_4 : decode cX6_has 4 = .ok (.iload_n 1, 1) := by decide +kernel
theorem dX6_has_5 : decode cX6_has 5 = .ok (.aload_n 0, 1) := by decide +kernel
theorem dX6_has_6 : decode cX6_has 6 = .ok (.getfield 25, 3) := by decide +kernel
theorem dX6_has_9 : decode cX6_has 9 = .ok (.if_icmp .ge 7, 3) := by decide +kernel
theorem dX6_has_12 : decode cX6_has 12 = .ok (.iconst 1, 1) := by decide +kernel
theorem dX6_has_13 : decode cX6_has 13 = .ok (.goto 4, 3) := by decide +kernel
theorem dX6_grow_0 : decode cX6_grow 0 = .ok (.aload_n 0, 1) := by decide +kernel
theorem dX6_grow_1 : decode cX6_grow 1 = .ok (.getfield 25, 3) := by decide +kernel
theorem dX6_grow_4 : decode cX6_grow 4 = .ok (.iconst 1, 1) := by decide +kernel
theorem dX6_grow_5 : decode cX6_grow 5 = .ok (.iadd, 1) := by decide +kernel
theorem dX6_grow_6 : decode cX6_grow 6 = .ok (.aload_n 0, 1) := by decide +kernel
theorem dX6_grow_7 : decode cX6_grow 7 = .ok (.getfield 9, 3) := by decide +kernel
theorem dX6_grow_10 : decode cX6_grow 10 = .ok (.imul, 1) := by decide +kernel
theorem dX6_grow_11 : decode cX6_grow 11 = .ok (.aload_n 0, 1) := by decide +kernel
theorem dX6_grow_12 : decode cX6_grow 12 = .ok (.getfield 21, 3) := by decide +kernel
theorem dX6_grow_15 : decode cX6_grow 15 = .ok (.arraylength, 1) := by decide +kernel
theorem dX6_grow_16 : decode cX6_grow 16 = .ok (.if_icmp .le 5, 3) := by decide +kernel
theorem dX6_grow_21 : decode cX6_grow 21 = .ok (.aload_n 0, 1) := by decide +kernel
theorem dX6_grow_22 : decode cX6_grow 22 = .ok (.dup, 1) := by decide +kernel
theorem dX6_grow_23 : decode cX6_grow 23 = .ok (.getfield 25, 3) := by decide +kernel
theorem dX6_grow_26 : decode cX6_grow 26 = .ok (.iconst 1, 1) := by decide +kernel
theorem dX6_grow_27 : decode cX6_grow 27 = .ok (.iadd, 1) := by decide +kernel
theorem dX6_grow_28 : decode cX6_grow 28 = .ok (.putfield 25, 3) := by decide +kernel
theorem dX6_grow_31 : decode cX6_grow 31 = .ok (.aload_n 0, 1) := by decide +kernel
theorem dX6_grow_32 : decode cX6_grow 32 = .ok (.getfield 25, 3) := by decide +kernel
theorem dX6_grow_35 : decode cX6_grow 35 = .ok (.iconst 1, 1) := by decide +kernel
theorem dX6_grow_36 : decode cX6_grow 36 = .ok (.isub, 1) := by decide +kernel
theorem dX6_grow_37 : decode cX6_grow 37 = .ok (.ireturn, 1) := by decide +kernel
theorem dX6_put_0 : decode cX6_put 0 = .ok (.iload_n 1, 1) := by decide +kernel
theorem dX6_put_1 : decode cX6_put 1 = .ok (.aload_n 0, 1) := by decide +kernel
theorem dX6_put_2 : decode cX6_put 2 = .ok (.getfield 9, 3) := by decide +kernel
theorem dX6_put_5 : decode cX6_put 5 = .ok (.imul, 1) := by decide +kernel
theorem dX6_put_6 : decode cX6_put 6 = .ok (.iload_n 2, 1) := by decide +kernel
theorem dX6_put_7 : decode cX6_put 7 = .ok (.iadd, 1) := by decide +kernel
theorem dX6_put_8 : decode cX6_put 8 = .ok (.istore 4, 2) := by decide +kernel
theorem dX6_put_10 : decode cX6_put 10 = .ok (.iload 4, 2) := by decide +kernel
theorem dX6_put_12 : decode cX6_put 12 = .ok (.ifCond .lt 21, 3) := by decide +kernel
theorem dX6_put_15 : decode cX6_put 15 = .ok (.iload 4, 2) := by decide +kernel
theorem dX6_put_17 : decode cX6_put 17 = .ok (.aload_n 0, 1) := by decide +kernel
theorem dX6_put_18 : decode cX6_put 18 = .ok (.getfield 21, 3) := by decide +kernel
theorem dX6_put_21 : decode cX6_put 21 = .ok (.arraylength, 1) := by decide +kernel
theorem dX6_put_22 : decode cX6_put 22 = .ok (.if_icmp .ge 11, 3) := by decide +kernel
theorem dX6_put_25 : decode cX6_put 25 = .ok (.aload_n 0, 1) := by decide +kernel
theorem dX6_put_26 : decode cX6_put 26 = .ok (.getfield 21, 3) := by decide +kernel
theorem dX6_put_29 : decode cX6_put 29 = .ok (.iload 4, 2) := by decide +kernel
theorem dX6_put_31 : decode cX6_put 31 = .ok (.iload_n 3, 1) := by decide +kernel
theorem dX6_put_32 : decode cX6_put 32 = .ok (.iastore, 1) := by decide +kernel
theorem dX6_put_33 : decode cX6_put 33 = .ok (.return_, 1) := by decide +kernel
theorem dX6_copyFrom_0 : decode cX6_copyFrom 0 = .ok (.aload_n 1, 1) := by decide +kernel
theorem dX6_copyFrom_1 : decode cX6_copyFrom 1 = .ok (.getfield 21, 3) := by decide +kernel
theorem dX6_copyFrom_4 : decode cX6_copyFrom 4 = .ok (.arraylength, 1) := by decide +kernel
theorem dX6_copyFrom_5 : decode cX6_copyFrom 5 = .ok (.aload_n 0, 1) := by decide +kernel
theorem dX6_copyFrom_6 : decode cX6_copyFrom 6 = .ok (.getfield 21, 3) := by decide +kernel
theorem dX6_copyFrom_9 : decode cX6_copyFrom 9 = .ok (.arraylength, 1) := by decide +kernel
theorem dX6_copyFrom_10 : decode cX6_copyFrom 10 = .ok (.if_icmp .ne 29, 3) := by decide +kernel
theorem dX6_copyFrom_13 : decode cX6_copyFrom 13 = .ok (.aload_n 1, 1) := by decide +kernel
theorem dX6_copyFrom_14 : decode cX6_copyFrom 14 = .ok (.getfield 21, 3) := by decide +kernel
theorem dX6_copyFrom_17 : decode cX6_copyFrom 17 = .ok (.iconst 0, 1) := by decide +kernel
theorem dX6_copyFrom_18 : decode cX6_copyFrom 18 = .ok (.aload_n 0, 1) := by decide +kernel
theorem dX6_copyFrom_19 : decode cX6_copyFrom 19 = .ok (.getfield 21, 3) := by decide +kernel
theorem dX6_copyFrom_22 : decode cX6_copyFrom 22 = .ok (.iconst 0, 1) := by decide +kernel
theorem dX6_copyFrom_23 : decode cX6_copyFrom 23 = .ok (.aload_n 0, 1) := by decide +kernel
theorem dX6_copyFrom_24 : decode cX6_copyFrom 24 = .ok (.getfield 21, 3) := by decide +kernel
theorem dX6_copyFrom_27 : decode cX6_copyFrom 27 = .ok (.arraylength, 1) := by decide +kernel
theorem dX6_copyFrom_28 : decode cX6_copyFrom 28 = .ok (.invokestatic 28, 3) := by decide +kernel
theorem dX6_copyFrom_31 : decode cX6_copyFrom 31 = .ok (.aload_n 0, 1) := by decide +kernel
theorem dX6_copyFrom_32 : decode cX6_copyFrom 32 = .ok (.aload_n 1, 1) := by decide +kernel
theorem dX6_copyFrom_33 : decode cX6_copyFrom 33 = .ok (.getfield 25, 3) := by decide +kernel
theorem dX6_copyFrom_36 : decode cX6_copyFrom 36 = .ok (.putfield 25, 3) := by decide +kernel
theorem dX6_copyFrom_39 : decode cX6_copyFrom 39 = .ok (.return_, 1) := by decide +kernel
theorem dX9_monthAt_0 : decode cX9_monthAt 0 = .ok (.aload_n 0, 1) := by decide +kernel
theorem dX9_monthAt_1 : decode cX9_monthAt 1 = .ok (.getfield 46, 3) := by decide +kernel
theorem dX9_monthAt_4 : decode cX9_monthAt 4 = .ok (.iload_n 1, 1) := by decide +kernel
theorem dX9_monthAt_5 : decode cX9_monthAt 5 = .ok (.bipush 24, 2) := by decide +kernel
theorem dX9_monthAt_7 : decode cX9_monthAt 7 = .ok (.idiv, 1) := by decide +kernel
theorem dX9_monthAt_8 : decode cX9_monthAt 8 = .ok (.bipush 30, 2) := by decide +kernel
theorem dX9_monthAt_10 : decode cX9_monthAt 10 = .ok (.idiv, 1) := by decide +kernel
theorem dX9_monthAt_11 : decode cX9_monthAt 11 = .ok (.iadd, 1) := by decide +kernel
theorem dX9_monthAt_12 : decode cX9_monthAt 12 = .ok (.bipush 12, 2) := by decide +kernel
theorem dX9_monthAt_14 : decode cX9_monthAt 14 = .ok (.irem, 1) := by decide +kernel
theorem dX9_monthAt_15 : decode cX9_monthAt 15 = .ok (.ireturn, 1) := by decide +kernel
theorem dX9_nodeOf_0 : decode cX9_nodeOf 0 = .ok (.aload_n 0, 1) := by decide +kernel
theorem dX9_nodeOf_1 : decode cX9_nodeOf 1 = .ok (.getfield 23, 3) := by decide +kernel
theorem dX9_nodeOf_4 : decode cX9_nodeOf 4 = .ok (.iload_n 1, 1) := by decide +kernel
theorem dX9_nodeOf_5 : decode cX9_nodeOf 5 = .ok (.invokevirtual 56, 3) := by decide +kernel
theorem dX9_nodeOf_8 : decode cX9_nodeOf 8 = .ok (.ifCond .eq 15, 3) := by decide +kernel
theorem dX9_nodeOf_23 : decode cX9_nodeOf 23 = .ok (.bipush 13, 2) := by decide +kernel
theorem dX9_nodeOf_25 : decode cX9_nodeOf 25 = .ok (.istore_n 2, 1) := by decide +kernel
theorem dX9_nodeOf_26 : decode cX9_nodeOf 26 = .ok (.iload_n 2, 1) := by decide +kernel
theorem dX9_nodeOf_27 : decode cX9_nodeOf 27 = .ok (.bipush 12, 2) := by decide +kernel
theorem dX9_nodeOf_29 : decode cX9_nodeOf 29 = .ok (.if_icmp .ge 7, 3) := by decide +kernel
theorem dX9_nodeOf_36 : decode cX9_nodeOf 36 = .ok (.iconst (-1), 1) := by decide +kernel
theorem dX9_nodeOf_37 : decode cX9_nodeOf 37 = .ok (.ireturn, 1) := by decide +kernel
theorem dX9_copyFrom_0 : decode cX9_copyFrom 0 = .ok (.aload_n 0, 1) := by decide +kernel
theorem dX9_copyFrom_1 : decode cX9_copyFrom 1 = .ok (.getfield 14, 3) := by decide +kernel
theorem dX9_copyFrom_4 : decode cX9_copyFrom 4 = .ok (.aload_n 1, 1) := by decide +kernel
theorem dX9_copyFrom_5 : decode cX9_copyFrom 5 = .ok (.getfield 14, 3) := by decide +kernel
theorem dX9_copyFrom_8 : decode cX9_copyFrom 8 = .ok (.invokevirtual 39, 3) := by decide +kernel
theorem dX9_copyFrom_11 : decode cX9_copyFrom 11 = .ok (.aload_n 0, 1) := by decide +kernel
theorem dX9_copyFrom_12 : decode cX9_copyFrom 12 = .ok (.getfield 20, 3) := by decide +kernel
theorem dX9_copyFrom_15 : decode cX9_copyFrom 15 = .ok (.aload_n 1, 1) := by decide +kernel
theorem dX9_copyFrom_16 : decode cX9_copyFrom 16 = .ok (.getfield 20, 3) := by decide +kernel
theorem dX9_copyFrom_19 : decode cX9_copyFrom 19 = .ok (.invokevirtual 39, 3) := by decide +kernel
theorem dX9_copyFrom_22 : decode cX9_copyFrom 22 = .ok (.aload_n 0, 1) := by decide +kernel
theorem dX9_copyFrom_23 : decode cX9_copyFrom 23 = .ok (.getfield 23, 3) := by decide +kernel
theorem dX9_copyFrom_26 : decode cX9_copyFrom 26 = .ok (.aload_n 1, 1) := by decide +kernel
theorem dX9_copyFrom_27 : decode cX9_copyFrom 27 = .ok (.getfield 23, 3) := by decide +kernel
theorem dX9_copyFrom_30 : decode cX9_copyFrom 30 = .ok (.invokevirtual 39, 3) := by decide +kernel
theorem dX9_copyFrom_33 : decode cX9_copyFrom 33 = .ok (.aload_n 0, 1) := by decide +kernel
theorem dX9_copyFrom_34 : decode cX9_copyFrom 34 = .ok (.getfield 26, 3) := by decide +kernel
theorem dX9_copyFrom_37 : decode cX9_copyFrom 37 = .ok (.aload_n 1, 1) := by decide +kernel
theorem dX9_copyFrom_38 : decode cX9_copyFrom 38 = .ok (.getfield 26, 3) := by decide +kernel
theorem dX9_copyFrom_41 : decode cX9_copyFrom 41 = .ok (.invokevirtual 39, 3) := by decide +kernel
theorem dX9_copyFrom_44 : decode cX9_copyFrom 44 = .ok (.aload_n 0, 1) := by decide +kernel
theorem dX9_copyFrom_45 : decode cX9_copyFrom 45 = .ok (.getfield 29, 3) := by decide +kernel
theorem dX9_copyFrom_48 : decode cX9_copyFrom 48 = .ok (.aload_n 1, 1) := by decide +kernel
theorem dX9_copyFrom_49 : decode cX9_copyFrom 49 = .ok (.getfield 29, 3) := by decide +kernel
theorem dX9_copyFrom_52 : decode cX9_copyFrom 52 = .ok (.invokevirtual 39, 3) := by decide +kernel
theorem dX9_copyFrom_55 : decode cX9_copyFrom 55 = .ok (.aload_n 0, 1) := by decide +kernel
theorem dX9_copyFrom_56 : decode cX9_copyFrom 56 = .ok (.getfield 32, 3) := by decide +kernel
theorem dX9_copyFrom_59 : decode cX9_copyFrom 59 = .ok (.aload_n 1, 1) := by decide +kernel
theorem dX9_copyFrom_60 : decode cX9_copyFrom 60 = .ok (.getfield 32, 3) := by decide +kernel
theorem dX9_copyFrom_63 : decode cX9_copyFrom 63 = .ok (.invokevirtual 39, 3) := by decide +kernel
theorem dX9_copyFrom_66 : decode cX9_copyFrom 66 = .ok (.aload_n 0, 1) := by decide +kernel
theorem dX9_copyFrom_67 : decode cX9_copyFrom 67 = .ok (.aload_n 1, 1) := by decide +kernel
theorem dX9_copyFrom_68 : decode cX9_copyFrom 68 = .ok (.getfield 35, 3) := by decide +kernel
theorem dX9_copyFrom_71 : decode cX9_copyFrom 71 = .ok (.putfield 35, 3) := by decide +kernel
theorem dX9_copyFrom_74 : decode cX9_copyFrom 74 = .ok (.aload_n 0, 1) := by decide +kernel
theorem dX9_copyFrom_75 : decode cX9_copyFrom 75 = .ok (.aload_n 1, 1) := by decide +kernel
theorem dX9_copyFrom_76 : decode cX9_copyFrom 76 = .ok (.getfield 43, 3) := by decide +kernel
theorem dX9_copyFrom_79 : decode cX9_copyFrom 79 = .ok (.putfield 43, 3) := by decide +kernel
theorem dX9_copyFrom_82 : decode cX9_copyFrom 82 = .ok (.aload_n 0, 1) := by decide +kernel
theorem dX9_copyFrom_83 : decode cX9_copyFrom 83 = .ok (.aload_n 1, 1) := by decide +kernel
theorem dX9_copyFrom_84 : decode cX9_copyFrom 84 = .ok (.getfield 46, 3) := by decide +kernel
theorem dX9_copyFrom_87 : decode cX9_copyFrom 87 = .ok (.putfield 46, 3) := by decide +kernel
theorem dX9_copyFrom_90 : decode cX9_copyFrom 90 = .ok (.aload_n 0, 1) := by decide +kernel
theorem dX9_copyFrom_91 : decode cX9_copyFrom 91 = .ok (.aload_n 1, 1) := by decide +kernel
theorem dX9_copyFrom_92 : decode cX9_copyFrom 92 = .ok (.getfield 49, 3) := by decide +kernel
theorem dX9_copyFrom_95 : decode cX9_copyFrom 95 = .ok (.putfield 49, 3) := by decide +kernel
theorem dX9_copyFrom_98 : decode cX9_copyFrom 98 = .ok (.return_, 1) := by decide +kernel
theorem dX10_lawOf_0 : decode cX10_lawOf 0 = .ok (.iload_n 1, 1) := by decide +kernel
theorem dX10_lawOf_1 : decode cX10_lawOf 1 = .ok (.aload_n 0, 1) := by decide +kernel
theorem dX10_lawOf_2 : decode cX10_lawOf 2 = .ok (.getfield 128, 3) := by decide +kernel
theorem dX10_lawOf_5 : decode cX10_lawOf 5 = .ok (.iconst 1, 1) := by decide +kernel
theorem dX10_lawOf_6 : decode cX10_lawOf 6 = .ok (.isub, 1) := by decide +kernel
theorem dX10_lawOf_7 : decode cX10_lawOf 7 = .ok (.invokestatic 79, 3) := by decide +kernel
theorem dX10_lawOf_10 : decode cX10_lawOf 10 = .ok (.ifCond .eq 18, 3) := by decide +kernel
theorem dX10_lawOf_28 : decode cX10_lawOf 28 = .ok (.aconst_null, 1) := by decide +kernel
theorem dX10_lawOf_29 : decode cX10_lawOf 29 = .ok (.areturn, 1) := by decide +kernel
theorem dX10_writeBytes_0 : decode cX10_writeBytes 0 = .ok (.bipush 24, 2) := by decide +kernel
theorem dX10_writeBytes_2 : decode cX10_writeBytes 2 = .ok (.istore_n 2, 1) := by decide +kernel
theorem dX10_writeBytes_3 : decode cX10_writeBytes 3 = .ok (.iload_n 2, 1) := by decide +kernel
theorem dX10_writeBytes_4 : decode cX10_writeBytes 4 = .ok (.ifCond .lt 45, 3) := by decide +kernel
theorem dX10_writeBytes_7 : decode cX10_writeBytes 7 = .ok (.aload_n 0, 1) := by decide +kernel
theorem dX10_writeBytes_8 : decode cX10_writeBytes 8 = .ok (.getfield 121, 3) := by decide +kernel
theorem dX10_writeBytes_11 : decode cX10_writeBytes 11 = .ok (.sipush 400, 3) := by decide +kernel
theorem dX10_writeBytes_14 : decode cX10_writeBytes 14 = .ok (.if_icmp .ge 29, 3) := by decide +kernel
theorem dX10_writeBytes_17 : decode cX10_writeBytes 17 = .ok (.aload_n 0, 1) := by decide +kernel
theorem dX10_writeBytes_18 : decode cX10_writeBytes 18 = .ok (.getfield 23, 3) := by decide +kernel
theorem dX10_writeBytes_21 : decode cX10_writeBytes 21 = .ok (.aload_n 0, 1) := by decide +kernel
theorem dX10_writeBytes_22 : decode cX10_writeBytes 22 = .ok (.getfield 121, 3) := by decide +kernel
theorem dX10_writeBytes_25 : decode cX10_writeBytes 25 = .ok (.iload_n 1, 1) := by decide +kernel
theorem dX10_writeBytes_26 : decode cX10_writeBytes 26 = .ok (.iload_n 2, 1) := by decide +kernel
theorem dX10_writeBytes_27 : decode cX10_writeBytes 27 = .ok (.iushr, 1) := by decide +kernel
theorem dX10_writeBytes_28 : decode cX10_writeBytes 28 = .ok (.sipush 255, 3) := by decide +kernel
theorem dX10_writeBytes_31 : decode cX10_writeBytes 31 = .ok (.iand, 1) := by decide +kernel
theorem dX10_writeBytes_32 : decode cX10_writeBytes 32 = .ok (.iastore, 1) := by decide +kernel
theorem dX10_writeBytes_33 : decode cX10_writeBytes 33 = .ok (.aload_n 0, 1) := by decide +kernel
theorem dX10_writeBytes_34 : decode cX10_writeBytes 34 = .ok (.dup, 1) := by decide +kernel
theorem dX10_writeBytes_35 : decode cX10_writeBytes 35 = .ok (.getfield 121, 3) := by decide +kernel
theorem dX10_writeBytes_38 : decode cX10_writeBytes 38 = .ok (.iconst 1, 1) := by decide +kernel
theorem dX10_writeBytes_39 : decode cX10_writeBytes 39 = .ok (.iadd, 1) := by decide +kernel
theorem dX10_writeBytes_40 : decode cX10_writeBytes 40 = .ok (.putfield 121, 3) := by decide +kernel
theorem dX10_writeBytes_43 : decode cX10_writeBytes 43 = .ok (.iinc 2 (-8), 3) := by decide +kernel
theorem dX10_writeBytes_46 : decode cX10_writeBytes 46 = .ok (.goto (-43), 3) := by decide +kernel
theorem dX10_writeBytes_49 : decode cX10_writeBytes 49 = .ok (.return_, 1) := by decide +kernel
theorem dX10_isCover_0 : decode cX10_isCover 0 = .ok (.iload_n 0, 1) := by decide +kernel
theorem dX10_isCover_1 : decode cX10_isCover 1 = .ok (.bipush 9, 2) := by decide +kernel
theorem dX10_isCover_3 : decode cX10_isCover 3 = .ok (.invokestatic 79, 3) := by decide +kernel
theorem dX10_isCover_6 : decode cX10_isCover 6 = .ok (.ifCond .eq 16, 3) := by decide +kernel
theorem dX10_isCover_22 : decode cX10_isCover 22 = .ok (.iconst 0, 1) := by decide +kernel
theorem dX10_isCover_23 : decode cX10_isCover 23 = .ok (.ireturn, 1) := by decide +kernel
theorem dX10_isCover_9 : decode cX10_isCover 9 = .ok (.iload_n 1, 1) := by decide +kernel
theorem dX10_isCover_10 : decode cX10_isCover 10 = .ok (.bipush 9, 2) := by decide +kernel
theorem dX10_isCover_12 : decode cX10_isCover 12 = .ok (.invokestatic 79, 3) := by decide +kernel
theorem dX10_isCover_15 : decode cX10_isCover 15 = .ok (.ifCond .eq 7, 3) := by decide +kernel
theorem dX10_isCover_18 : decode cX10_isCover 18 = .ok (.iconst 1, 1) := by decide +kernel
theorem dX10_isCover_19 : decode cX10_isCover 19 = .ok (.goto 4, 3) := by decide +kernel
theorem dX10_isLoad_0 : decode cX10_isLoad 0 = .ok (.iload_n 0, 1) := by decide +kernel
theorem dX10_isLoad_1 : decode cX10_isLoad 1 = .ok (.ldc 140, 2) := by decide +kernel
theorem dX10_isLoad_3 : decode cX10_isLoad 3 = .ok (.invokestatic 79, 3) := by decide +kernel
theorem dX10_isLoad_6 : decode cX10_isLoad 6 = .ok (.ifCond .eq 24, 3) := by decide +kernel
theorem dX10_isLoad_30 : decode cX10_isLoad 30 = .ok (.iconst 0, 1) := by decide +kernel
theorem dX10_isLoad_31 : decode cX10_isLoad 31 = .ok (.ireturn, 1) := by decide +kernel
theorem dX10_isLoad_9 : decode cX10_isLoad 9 = .ok (.iload_n 1, 1) := by decide +kernel
theorem dX10_isLoad_10 : decode cX10_isLoad 10 = .ok (.ldc 140, 2) := by decide +kernel
theorem dX10_isLoad_12 : decode cX10_isLoad 12 = .ok (.invokestatic 79, 3) := by decide +kernel
theorem dX10_isLoad_15 : decode cX10_isLoad 15 = .ok (.ifCond .eq 15, 3) := by decide +kernel
theorem dX10_isLoad_18 : decode cX10_isLoad 18 = .ok (.iload_n 2, 1) := by decide +kernel
theorem dX10_isLoad_19 : decode cX10_isLoad 19 = .ok (.iload_n 3, 1) := by decide +kernel
theorem dX10_isLoad_20 : decode cX10_isLoad 20 = .ok (.invokestatic 104, 3) := by decide +kernel
theorem dX10_isLoad_23 : decode cX10_isLoad 23 = .ok (.ifCond .eq 7, 3) := by decide +kernel
theorem dX10_isLoad_26 : decode cX10_isLoad 26 = .ok (.iconst 1, 1) := by decide +kernel
theorem dX10_isLoad_27 : decode cX10_isLoad 27 = .ok (.goto 4, 3) := by decide +kernel
theorem dX10_isWish_0 : decode cX10_isWish 0 = .ok (.iload_n 0, 1) := by decide +kernel
theorem dX10_isWish_1 : decode cX10_isWish 1 = .ok (.iconst 1, 1) := by decide +kernel
theorem dX10_isWish_2 : decode cX10_isWish 2 = .ok (.if_icmp .lt 13, 3) := by decide +kernel
theorem dX10_isWish_15 : decode cX10_isWish 15 = .ok (.iconst 0, 1) := by decide +kernel
theorem dX10_isWish_16 : decode cX10_isWish 16 = .ok (.ireturn, 1) := by decide +kernel
theorem dX10_isWish_5 : decode cX10_isWish 5 = .ok (.iload_n 0, 1) := by decide +kernel
theorem dX10_isWish_6 : decode cX10_isWish 6 = .ok (.ldc 140, 2) := by decide +kernel
theorem dX10_isWish_8 : decode cX10_isWish 8 = .ok (.if_icmp .gt 7, 3) := by decide +kernel
theorem dX10_isWish_11 : decode cX10_isWish 11 = .ok (.iconst 1, 1) := by decide +kernel
theorem dX10_isWish_12 : decode cX10_isWish 12 = .ok (.goto 4, 3) := by decide +kernel
theorem dX2_addToken_0 : decode cX2_addToken 0 = .ok (.aload_n 0, 1) := by decide +kernel
theorem dX2_addToken_1 : decode cX2_addToken 1 = .ok (.getfield 65, 3) := by decide +kernel
theorem dX2_addToken_4 : decode cX2_addToken 4 = .ok (.aload_n 0, 1) := by decide +kernel
theorem dX2_addToken_5 : decode cX2_addToken 5 = .ok (.getfield 13, 3) := by decide +kernel
theorem dX2_addToken_8 : decode cX2_addToken 8 = .ok (.arraylength, 1) := by decide +kernel
theorem dX2_addToken_9 : decode cX2_addToken 9 = .ok (.if_icmp .ge 45, 3) := by decide +kernel
theorem dX2_addToken_12 : decode cX2_addToken 12 = .ok (.aload_n 0, 1) := by decide +kernel
theorem dX2_addToken_13 : decode cX2_addToken 13 = .ok (.getfield 65, 3) := by decide +kernel
theorem dX2_addToken_16 : decode cX2_addToken 16 = .ok (.aload_n 0, 1) := by decide +kernel
theorem dX2_addToken_17 : decode cX2_addToken 17 = .ok (.getfield 17, 3) := by decide +kernel
theorem dX2_addToken_20 : decode cX2_addToken 20 = .ok (.arraylength, 1) := by decide +kernel
theorem dX2_addToken_21 : decode cX2_addToken 21 = .ok (.if_icmp .ge 33, 3) := by decide +kernel
theorem dX2_addToken_24 : decode cX2_addToken 24 = .ok (.aload_n 0, 1) := by decide +kernel
theorem dX2_addToken_25 : decode cX2_addToken 25 = .ok (.getfield 13, 3) := by decide +kernel
theorem dX2_addToken_28 : decode cX2_addToken 28 = .ok (.aload_n 0, 1) := by decide +kernel
theorem dX2_addToken_29 : decode cX2_addToken 29 = .ok (.getfield 65, 3) := by decide +kernel
theorem dX2_addToken_32 : decode cX2_addToken 32 = .ok (.iload_n 1, 1) := by decide +kernel
theorem dX2_addToken_33 : decode cX2_addToken 33 = .ok (.iastore, 1) := by decide +kernel
theorem dX2_addToken_34 : decode cX2_addToken 34 = .ok (.aload_n 0, 1) := by decide +kernel
theorem dX2_addToken_35 : decode cX2_addToken 35 = .ok (.getfield 17, 3) := by decide +kernel
theorem dX2_addToken_38 : decode cX2_addToken 38 = .ok (.aload_n 0, 1) := by decide +kernel
theorem dX2_addToken_39 : decode cX2_addToken 39 = .ok (.getfield 65, 3) := by decide +kernel
theorem dX2_addToken_42 : decode cX2_addToken 42 = .ok (.iload_n 2, 1) := by decide +kernel
theorem dX2_addToken_43 : decode cX2_addToken 43 = .ok (.iastore, 1) := by decide +kernel
theorem dX2_addToken_44 : decode cX2_addToken 44 = .ok (.aload_n 0, 1) := by decide +kernel
theorem dX2_addToken_45 : decode cX2_addToken 45 = .ok (.dup, 1) := by decide +kernel
theorem dX2_addToken_46 : decode cX2_addToken 46 = .ok (.getfield 65, 3) := by decide +kernel
theorem dX2_addToken_49 : decode cX2_addToken 49 = .ok (.iconst 1, 1) := by decide +kernel
theorem dX2_addToken_50 : decode cX2_addToken 50 = .ok (.iadd, 1) := by decide +kernel
theorem dX2_addToken_51 : decode cX2_addToken 51 = .ok (.putfield 65, 3) := by decide +kernel
theorem dX2_addToken_54 : decode cX2_addToken 54 = .ok (.return_, 1) := by decide +kernel
theorem dX2_cut_0 : decode cX2_cut 0 = .ok (.aload_n 0, 1) := by decide +kernel
theorem dX2_cut_1 : decode cX2_cut 1 = .ok (.iconst 0, 1) := by decide +kernel
theorem dX2_cut_2 : decode cX2_cut 2 = .ok (.putfield 65, 3) := by decide +kernel
theorem dX2_cut_5 : decode cX2_cut 5 = .ok (.iconst 0, 1) := by decide +kernel
theorem dX2_cut_6 : decode cX2_cut 6 = .ok (.istore_n 3, 1) := by decide +kernel
theorem dX2_cut_7 : decode cX2_cut 7 = .ok (.iconst 0, 1) := by decide +kernel
theorem dX2_cut_8 : decode cX2_cut 8 = .ok (.istore 4, 2) := by decide +kernel
theorem dX2_cut_10 : decode cX2_cut 10 = .ok (.iload 4, 2) := by decide +kernel
theorem dX2_cut_12 : decode cX2_cut 12 = .ok (.iload_n 2, 1) := by decide +kernel
theorem dX2_cut_13 : decode cX2_cut 13 = .ok (.if_icmp .ge 45, 3) := by decide +kernel
theorem dX2_cut_58 : decode cX2_cut 58 = .ok (.aload_n 0, 1) := by decide +kernel
theorem dX2_cut_59 : decode cX2_cut 59 = .ok (.sipush 258, 3) := by decide +kernel
theorem dX2_cut_62 : decode cX2_cut 62 = .ok (.iload_n 2, 1) := by decide +kernel
theorem dX2_cut_63 : decode cX2_cut 63 = .ok (.invokevirtual 75, 3) := by decide +kernel
theorem dX2_cut_66 : decode cX2_cut 66 = .ok (.return_, 1) := by decide +kernel
theorem dX1_clear_0 : decode cX1_clear 0 = .ok (.aload_n 0, 1) := by decide +kernel
theorem dX1_clear_1 : decode cX1_clear 1 = .ok (.iconst 0, 1) := by decide +kernel
theorem dX1_clear_2 : decode cX1_clear 2 = .ok (.putfield 46, 3) := by decide +kernel
theorem dX1_clear_5 : decode cX1_clear 5 = .ok (.aload_n 0, 1) := by decide +kernel
theorem dX1_clear_6 : decode cX1_clear 6 = .ok (.iconst 0, 1) := by decide +kernel
theorem dX1_clear_7 : decode cX1_clear 7 = .ok (.putfield 50, 3) := by decide +kernel
theorem dX1_clear_10 : decode cX1_clear 10 = .ok (.aload_n 0, 1) := by decide +kernel
theorem dX1_clear_11 : decode cX1_clear 11 = .ok (.iconst 0, 1) := by decide +kernel
theorem dX1_clear_12 : decode cX1_clear 12 = .ok (.putfield 53, 3) := by decide +kernel
theorem dX1_clear_15 : decode cX1_clear 15 = .ok (.aload_n 0, 1) := by decide +kernel
theorem dX1_clear_16 : decode cX1_clear 16 = .ok (.iconst 0, 1) := by decide +kernel
theorem dX1_clear_17 : decode cX1_clear 17 = .ok (.putfield 56, 3) := by decide +kernel
theorem dX1_clear_20 : decode cX1_clear 20 = .ok (.aload_n 0, 1) := by decide +kernel
theorem dX1_clear_21 : decode cX1_clear 21 = .ok (.iconst 0, 1) := by decide +kernel
theorem dX1_clear_22 : decode cX1_clear 22 = .ok (.putfield 59, 3) := by decide +kernel
theorem dX1_clear_25 : decode cX1_clear 25 = .ok (.return_, 1) := by decide +kernel
theorem dX2_token_0 : decode cX2_token 0 = .ok (.aload_n 0, 1) := by decide +kernel
theorem dX2_token_1 : decode cX2_token 1 = .ok (.getfield 37, 3) := by decide +kernel
theorem dX2_token_4 : decode cX2_token 4 = .ok (.ifCond .lt 38, 3) := by decide +kernel
theorem dX2_token_7 : decode cX2_token 7 = .ok (.aload_n 0, 1) := by decide +kernel
theorem dX2_token_8 : decode cX2_token 8 = .ok (.getfield 37, 3) := by decide +kernel
theorem dX2_token_11 : decode cX2_token 11 = .ok (.aload_n 0, 1) := by decide +kernel
theorem dX2_token_12 : decode cX2_token 12 = .ok (.getfield 65, 3) := by decide +kernel
theorem dX2_token_15 : decode cX2_token 15 = .ok (.if_icmp .ge 27, 3) := by decide +kernel
theorem dX2_token_18 : decode cX2_token 18 = .ok (.aload_n 0, 1) := by decide +kernel
theorem dX2_token_19 : decode cX2_token 19 = .ok (.getfield 37, 3) := by decide +kernel
theorem dX2_token_22 : decode cX2_token 22 = .ok (.aload_n 0, 1) := by decide +kernel
theorem dX2_token_23 : decode cX2_token 23 = .ok (.getfield 13, 3) := by decide +kernel
theorem dX2_token_26 : decode cX2_token 26 = .ok (.arraylength, 1) := by decide +kernel
theorem dX2_token_27 : decode cX2_token 27 = .ok (.if_icmp .ge 15, 3) := by decide +kernel
theorem dX2_token_30 : decode cX2_token 30 = .ok (.aload_n 0, 1) := by decide +kernel
theorem dX2_token_31 : decode cX2_token 31 = .ok (.getfield 13, 3) := by decide +kernel
theorem dX2_token_34 : decode cX2_token 34 = .ok (.aload_n 0, 1) := by decide +kernel
theorem dX2_token_35 : decode cX2_token 35 = .ok (.getfield 37, 3) := by decide +kernel
theorem dX2_token_38 : decode cX2_token 38 = .ok (.iaload, 1) := by decide +kernel
theorem dX2_token_39 : decode cX2_token 39 = .ok (.goto 6, 3) := by decide +kernel
theorem dX2_token_45 : decode cX2_token 45 = .ok (.ireturn, 1) := by decide +kernel
theorem dX2_refuse_0 : decode cX2_refuse 0 = .ok (.aload_n 0, 1) := by decide +kernel
theorem dX2_refuse_1 : decode cX2_refuse 1 = .ok (.getfield 37, 3) := by decide +kernel
theorem dX2_refuse_4 : decode cX2_refuse 4 = .ok (.ifCond .lt 27, 3) := by decide +kernel
theorem dX2_refuse_7 : decode cX2_refuse 7 = .ok (.aload_n 0, 1) := by decide +kernel
theorem dX2_refuse_8 : decode cX2_refuse 8 = .ok (.getfield 37, 3) := by decide +kernel
theorem dX2_refuse_11 : decode cX2_refuse 11 = .ok (.aload_n 0, 1) := by decide +kernel
theorem dX2_refuse_12 : decode cX2_refuse 12 = .ok (.getfield 17, 3) := by decide +kernel
theorem dX2_refuse_15 : decode cX2_refuse 15 = .ok (.arraylength, 1) := by decide +kernel
theorem dX2_refuse_16 : decode cX2_refuse 16 = .ok (.if_icmp .ge 15, 3) := by decide +kernel
theorem dX2_refuse_19 : decode cX2_refuse 19 = .ok (.aload_n 0, 1) := by decide +kernel
theorem dX2_refuse_20 : decode cX2_refuse 20 = .ok (.getfield 17, 3) := by decide +kernel
theorem dX2_refuse_23 : decode cX2_refuse 23 = .ok (.aload_n 0, 1) := by decide +kernel
theorem dX2_refuse_24 : decode cX2_refuse 24 = .ok (.getfield 37, 3) := by decide +kernel
theorem dX2_refuse_27 : decode cX2_refuse 27 = .ok (.iaload, 1) := by decide +kernel
theorem dX2_refuse_28 : decode cX2_refuse 28 = .ok (.goto 4, 3) := by decide +kernel
theorem dX2_refuse_32 : decode cX2_refuse 32 = .ok (.istore_n 2, 1) := by decide +kernel
theorem dX2_refuse_33 : decode cX2_refuse 33 = .ok (.aload_n 0, 1) := by decide +kernel
theorem dX2_refuse_34 : decode cX2_refuse 34 = .ok (.iconst 1, 1) := by decide +kernel
theorem dX2_refuse_35 : decode cX2_refuse 35 = .ok (.bipush 8, 2) := by decide +kernel
theorem dX2_refuse_37 : decode cX2_refuse 37 = .ok (.iload_n 2, 1) := by decide +kernel
theorem dX2_refuse_38 : decode cX2_refuse 38 = .ok (.imul, 1) := by decide +kernel
theorem dX2_refuse_39 : decode cX2_refuse 39 = .ok (.iadd, 1) := by decide +kernel
theorem dX2_refuse_40 : decode cX2_refuse 40 = .ok (.iload_n 1, 1) := by decide +kernel
theorem dX2_refuse_41 : decode cX2_refuse 41 = .ok (.iadd, 1) := by decide +kernel
theorem dX2_refuse_42 : decode cX2_refuse 42 = .ok (.putfield 41, 3) := by decide +kernel
theorem dX2_refuse_45 : decode cX2_refuse 45 = .ok (.iconst 0, 1) := by decide +kernel
theorem dX2_refuse_46 : decode cX2_refuse 46 = .ok (.ireturn, 1) := by decide +kernel
theorem dX2_readClause_0 : decode cX2_readClause 0 = .ok (.aload_n 0, 1) := by decide +kernel
theorem dX2_readClause_1 : decode cX2_readClause 1 = .ok (.invokevirtual 58, 3) := by decide +kernel
theorem dX2_readClause_4 : decode cX2_readClause 4 = .ok (.sipush 311, 3) := by decide +kernel
theorem dX2_readClause_7 : decode cX2_readClause 7 = .ok (.isub, 1) := by decide +kernel
theorem dX2_readClause_8 : decode cX2_readClause 8 = .ok (.istore_n 2, 1) := by decide +kernel
theorem dX2_readClause_9 : decode cX2_readClause 9 = .ok (.iload_n 2, 1) := by decide +kernel
theorem dX2_readClause_10 : decode cX2_readClause 10 = .ok (.ifCond .lt 8, 3) := by decide +kernel
theorem dX2_readClause_18 : decode cX2_readClause 18 = .ok (.aload_n 0, 1) := by decide +kernel
theorem dX2_readClause_19 : decode cX2_readClause 19 = .ok (.iconst 0, 1) := by decide +kernel
theorem dX2_readClause_20 : decode cX2_readClause 20 = .ok (.invokevirtual 102, 3) := by decide +kernel
theorem dX2_readClause_23 : decode cX2_readClause 23 = .ok (.ireturn, 1) := by decide +kernel
theorem dX2_read_0 : decode cX2_read 0 = .ok (.aload_n 0, 1) := by decide +kernel
theorem dX2_read_1 : decode cX2_read 1 = .ok (.aload_n 1, 1) := by decide +kernel
theorem dX2_read_2 : decode cX2_read 2 = .ok (.iload_n 2, 1) := by decide +kernel
theorem dX2_read_3 : decode cX2_read 3 = .ok (.aload_n 1, 1) := by decide +kernel
theorem dX2_read_4 : decode cX2_read 4 = .ok (.arraylength, 1) := by decide +kernel
theorem dX2_read_5 : decode cX2_read 5 = .ok (.invokestatic 27, 3) := by decide +kernel
theorem dX2_read_8 : decode cX2_read 8 = .ok (.invokevirtual 33, 3) := by decide +kernel
theorem dX2_read_11 : decode cX2_read 11 = .ok (.aload_n 0, 1) := by decide +kernel
theorem dX2_read_12 : decode cX2_read 12 = .ok (.iconst 0, 1) := by decide +kernel
theorem dX2_read_13 : decode cX2_read 13 = .ok (.putfield 37, 3) := by decide +kernel
theorem dX2_read_16 : decode cX2_read 16 = .ok (.aload_n 0, 1) := by decide +kernel
theorem dX2_read_17 : decode cX2_read 17 = .ok (.iconst 0, 1) := by decide +kernel
theorem dX2_read_18 : decode cX2_read 18 = .ok (.putfield 41, 3) := by decide +kernel
theorem dX2_read_21 : decode cX2_read 21 = .ok (.aload_n 0, 1) := by decide +kernel
theorem dX2_read_22 : decode cX2_read 22 = .ok (.iconst 0, 1) := by decide +kernel
theorem dX2_read_23 : decode cX2_read 23 = .ok (.putfield 44, 3) := by decide +kernel
theorem dX2_read_26 : decode cX2_read 26 = .ok (.aload_n 0, 1) := by decide +kernel
theorem dX2_read_27 : decode cX2_read 27 = .ok (.iconst 0, 1) := by decide +kernel
theorem dX2_read_28 : decode cX2_read 28 = .ok (.putfield 47, 3) := by decide +kernel
theorem dX2_read_31 : decode cX2_read 31 = .ok (.aload_n 0, 1) := by decide +kernel
theorem dX2_read_32 : decode cX2_read 32 = .ok (.aload_n 3, 1) := by decide +kernel
theorem dX2_read_33 : decode cX2_read 33 = .ok (.putfield 23, 3) := by decide +kernel
theorem dX2_read_36 : decode cX2_read 36 = .ok (.aload_n 0, 1) := by decide +kernel
theorem dX2_read_37 : decode cX2_read 37 = .ok (.getfield 23, 3) := by decide +kernel
theorem dX2_read_40 : decode cX2_read 40 = .ok (.invokevirtual 51, 3) := by decide +kernel
theorem dX2_read_43 : decode cX2_read 43 = .ok (.iconst 0, 1) := by decide +kernel
theorem dX2_read_44 : decode cX2_read 44 = .ok (.istore 4, 2) := by decide +kernel
theorem dX2_read_46 : decode cX2_read 46 = .ok (.iload 4, 2) := by decide +kernel
theorem dX2_read_48 : decode cX2_read 48 = .ok (.bipush 12, 2) := by decide +kernel
theorem dX2_read_50 : decode cX2_read 50 = .ok (.if_icmp .gt 44, 3) := by decide +kernel
theorem dX2_read_53 : decode cX2_read 53 = .ok (.aload_n 0, 1) := by decide +kernel
theorem dX2_read_54 : decode cX2_read 54 = .ok (.getfield 41, 3) := by decide +kernel
theorem dX2_read_57 : decode cX2_read 57 = .ok (.ifCond .ne 37, 3) := by decide +kernel
theorem dX2_read_60 : decode cX2_read 60 = .ok (.aload_n 0, 1) := by decide +kernel
theorem dX2_read_61 : decode cX2_read 61 = .ok (.iload 4, 2) := by decide +kernel
theorem dX2_read_63 : decode cX2_read 63 = .ok (.invokevirtual 54, 3) := by decide +kernel
theorem dX2_read_66 : decode cX2_read 66 = .ok (.ifCond .eq 22, 3) := by decide +kernel
theorem dX2_read_88 : decode cX2_read 88 = .ok (.iinc 4 1, 3) := by decide +kernel
theorem dX2_read_91 : decode cX2_read 91 = .ok (.goto (-45), 3) := by decide +kernel
theorem dX2_read_94 : decode cX2_read 94 = .ok (.aload_n 0, 1) := by decide +kernel
theorem dX2_read_95 : decode cX2_read 95 = .ok (.getfield 41, 3) := by decide +kernel
theorem dX2_read_98 : decode cX2_read 98 = .ok (.ireturn, 1) := by decide +kernel
theorem dX10_node_0 : decode cX10_node 0 = .ok (.iload_n 1, 1) := by decide +kernel
theorem dX10_node_1 : decode cX10_node 1 = .ok (.sipush 400, 3) := by decide +kernel
theorem dX10_node_4 : decode cX10_node 4 = .ok (.invokestatic 79, 3) := by decide +kernel
theorem dX10_node_7 : decode cX10_node 7 = .ok (.ifCond .eq 26, 3) := by decide +kernel
theorem dX10_node_33 : decode cX10_node 33 = .ok (.iconst 0, 1) := by decide +kernel
theorem dX10_node_34 : decode cX10_node 34 = .ok (.istore 4, 2) := by decide +kernel
theorem dX10_node_36 : decode cX10_node 36 = .ok (.iload 4, 2) := by decide +kernel
theorem dX10_node_38 : decode cX10_node 38 = .ok (.ifCond .eq 16, 3) := by decide +kernel
theorem dX10_node_54 : decode cX10_node 54 = .ok (.iconst (-1), 1) := by decide +kernel
theorem dX10_node_55 : decode cX10_node 55 = .ok (.istore 5, 2) := by decide +kernel
theorem dX10_node_57 : decode cX10_node 57 = .ok (.iload 5, 2) := by decide +kernel
theorem dX10_node_59 : decode cX10_node 59 = .ok (.iconst (-1), 1) := by decide +kernel
theorem dX10_node_60 : decode cX10_node 60 = .ok (.if_icmp .eq 59, 3) := by decide +kernel
theorem dX10_node_119 : decode cX10_node 119 = .ok (.iload 5, 2) := by decide +kernel
theorem dX10_node_121 : decode cX10_node 121 = .ok (.ireturn, 1) := by decide +kernel
theorem dX10_node_10 : decode cX10_node 10 = .ok (.iload_n 2, 1) := by decide +kernel
theorem dX10_node_11 : decode cX10_node 11 = .ok (.sipush 4095, 3) := by decide +kernel
theorem dX10_node_14 : decode cX10_node 14 = .ok (.invokestatic 79, 3) := by decide +kernel
theorem dX10_node_17 : decode cX10_node 17 = .ok (.ifCond .eq 16, 3) := by decide +kernel
theorem dX10_node_20 : decode cX10_node 20 = .ok (.iload_n 3, 1) := by decide +kernel
theorem dX10_node_21 : decode cX10_node 21 = .ok (.bipush 9, 2) := by decide +kernel
theorem dX10_node_23 : decode cX10_node 23 = .ok (.invokestatic 79, 3) := by decide +kernel
theorem dX10_node_26 : decode cX10_node 26 = .ok (.ifCond .eq 7, 3) := by decide +kernel
theorem dX10_node_29 : decode cX10_node 29 = .ok (.iconst 1, 1) := by decide +kernel
theorem dX10_node_30 : decode cX10_node 30 = .ok (.goto 4, 3) := by decide +kernel
theorem dX10_node_41 : decode cX10_node 41 = .ok (.aload_n 0, 1) := by decide +kernel
theorem dX10_node_42 : decode cX10_node 42 = .ok (.getfield 10, 3) := by decide +kernel
theorem dX10_node_45 : decode cX10_node 45 = .ok (.getfield 83, 3) := by decide +kernel
theorem dX10_node_48 : decode cX10_node 48 = .ok (.invokevirtual 87, 3) := by decide +kernel
theorem dX10_node_51 : decode cX10_node 51 = .ok (.goto 4, 3) := by decide +kernel
theorem dX10_node_63 : decode cX10_node 63 = .ok (.aload_n 0, 1) := by decide +kernel
theorem dX10_node_64 : decode cX10_node 64 = .ok (.getfield 10, 3) := by decide +kernel
theorem dX10_node_67 : decode cX10_node 67 = .ok (.getfield 83, 3) := by decide +kernel
theorem dX10_node_70 : decode cX10_node 70 = .ok (.iload 5, 2) := by decide +kernel
theorem dX10_node_72 : decode cX10_node 72 = .ok (.iconst 0, 1) := by decide +kernel
theorem dX10_node_73 : decode cX10_node 73 = .ok (.iload_n 1, 1) := by decide +kernel
theorem dX10_node_74 : decode cX10_node 74 = .ok (.invokevirtual 93, 3) := by decide +kernel
theorem dX10_node_77 : decode cX10_node 77 = .ok (.aload_n 0, 1) := by decide +kernel
theorem dX10_node_78 : decode cX10_node 78 = .ok (.getfield 10, 3) := by decide +kernel
theorem dX10_node_81 : decode cX10_node 81 = .ok (.getfield 83, 3) := by decide +kernel
theorem dX10_node_84 : decode cX10_node 84 = .ok (.iload 5, 2) := by decide +kernel
theorem dX10_node_86 : decode cX10_node 86 = .ok (.iconst 1, 1) := by decide +kernel
theorem dX10_node_87 : decode cX10_node 87 = .ok (.iload_n 2, 1) := by decide +kernel
theorem dX10_node_88 : decode cX10_node 88 = .ok (.invokevirtual 93, 3) := by decide +kernel
theorem dX10_node_91 : decode cX10_node 91 = .ok (.aload_n 0, 1) := by decide +kernel
theorem dX10_node_92 : decode cX10_node 92 = .ok (.getfield 10, 3) := by decide +kernel
theorem dX10_node_95 : decode cX10_node 95 = .ok (.getfield 83, 3) := by decide +kernel
theorem dX10_node_98 : decode cX10_node 98 = .ok (.iload 5, 2) := by decide +kernel
theorem dX10_node_100 : decode cX10_node 100 = .ok (.iconst 2, 1) := by decide +kernel
theorem dX10_node_101 : decode cX10_node 101 = .ok (.iload_n 3, 1) := by decide +kernel
theorem dX10_node_102 : decode cX10_node 102 = .ok (.invokevirtual 93, 3) := by decide +kernel
theorem dX10_node_105 : decode cX10_node 105 = .ok (.aload_n 0, 1) := by decide +kernel
theorem dX10_node_106 : decode cX10_node 106 = .ok (.getfield 10, 3) := by decide +kernel
theorem dX10_node_109 : decode cX10_node 109 = .ok (.getfield 83, 3) := by decide +kernel
theorem dX10_node_112 : decode cX10_node 112 = .ok (.iload 5, 2) := by decide +kernel
theorem dX10_node_114 : decode cX10_node 114 = .ok (.iconst 3, 1) := by decide +kernel
theorem dX10_node_115 : decode cX10_node 115 = .ok (.iconst 0, 1) := by decide +kernel
theorem dX10_node_116 : decode cX10_node 116 = .ok (.invokevirtual 93, 3) := by decide +kernel
theorem dX10_pass_0 : decode cX10_pass 0 = .ok (.aload_n 0, 1) := by decide +kernel
theorem dX10_pass_1 : decode cX10_pass 1 = .ok (.getfield 10, 3) := by decide +kernel
theorem dX10_pass_4 : decode cX10_pass 4 = .ok (.getfield 83, 3) := by decide +kernel
theorem dX10_pass_7 : decode cX10_pass 7 = .ok (.iload_n 1, 1) := by decide +kernel
theorem dX10_pass_8 : decode cX10_pass 8 = .ok (.invokevirtual 97, 3) := by decide +kernel
theorem dX10_pass_11 : decode cX10_pass 11 = .ok (.ifCond .eq 26, 3) := by decide +kernel
theorem dX10_pass_37 : decode cX10_pass 37 = .ok (.iconst 0, 1) := by decide +kernel
theorem dX10_pass_38 : decode cX10_pass 38 = .ok (.istore 6, 2) := by decide +kernel
theorem dX10_pass_40 : decode cX10_pass 40 = .ok (.iload_n 3, 1) := by decide +kernel
theorem dX10_pass_41 : decode cX10_pass 41 = .ok (.iconst 1, 1) := by decide +kernel
theorem dX10_pass_42 : decode cX10_pass 42 = .ok (.if_icmp .lt 37, 3) := by decide +kernel
theorem dX10_pass_79 : decode cX10_pass 79 = .ok (.iconst 0, 1) := by decide +kernel
theorem dX10_pass_80 : decode cX10_pass 80 = .ok (.istore 7, 2) := by decide +kernel
theorem dX10_pass_82 : decode cX10_pass 82 = .ok (.iload 6, 2) := by decide +kernel
theorem dX10_pass_84 : decode cX10_pass 84 = .ok (.ifCond .eq 21, 3) := by decide +kernel
theorem dX10_pass_105 : decode cX10_pass 105 = .ok (.iconst (-1), 1) := by decide +kernel
theorem dX10_pass_106 : decode cX10_pass 106 = .ok (.istore 8, 2) := by decide +kernel
theorem dX10_pass_108 : decode cX10_pass 108 = .ok (.iload 8, 2) := by decide +kernel
theorem dX10_pass_110 : decode cX10_pass 110 = .ok (.iconst (-1), 1) := by decide +kernel
theorem dX10_pass_111 : decode cX10_pass 111 = .ok (.if_icmp .eq 75, 3) := by decide +kernel
theorem dX10_pass_186 : decode cX10_pass 186 = .ok (.iload 8, 2) := by decide +kernel
theorem dX10_pass_188 : decode cX10_pass 188 = .ok (.ireturn, 1) := by decide +kernel
theorem dX10_pass_45 : decode cX10_pass 45 = .ok (.iload_n 3, 1) := by decide +kernel
theorem dX10_pass_46 : decode cX10_pass 46 = .ok (.bipush 24, 2) := by decide +kernel
theorem dX10_pass_48 : decode cX10_pass 48 = .ok (.invokestatic 79, 3) := by decide +kernel
theorem dX10_pass_51 : decode cX10_pass 51 = .ok (.ifCond .eq 28, 3) := by decide +kernel
theorem dX10_pass_54 : decode cX10_pass 54 = .ok (.iload 4, 2) := by decide +kernel
theorem dX10_pass_56 : decode cX10_pass 56 = .ok (.bipush 9, 2) := by decide +kernel
theorem dX10_pass_58 : decode cX10_pass 58 = .ok (.invokestatic 79, 3) := by decide +kernel
theorem dX10_pass_61 : decode cX10_pass 61 = .ok (.ifCond .eq 18, 3) := by decide +kernel
theorem dX10_pass_64 : decode cX10_pass 64 = .ok (.iload 5, 2) := by decide +kernel
theorem dX10_pass_66 : decode cX10_pass 66 = .ok (.sipush 1000, 3) := by decide +kernel
theorem dX10_pass_69 : decode cX10_pass 69 = .ok (.invokestatic 79, 3) := by decide +kernel
theorem dX10_pass_72 : decode cX10_pass 72 = .ok (.ifCond .eq 7, 3) := by decide +kernel
theorem dX10_pass_75 : decode cX10_pass 75 = .ok (.iconst 1, 1) := by decide +kernel
theorem dX10_pass_76 : decode cX10_pass 76 = .ok (.goto 4, 3) := by decide +kernel
theorem dX10_jar_0 : decode cX10_jar 0 = .ok (.iload_n 2, 1) := by decide +kernel
theorem dX10_jar_1 : decode cX10_jar 1 = .ok (.iload_n 3, 1) := by decide +kernel
theorem dX10_jar_2 : decode cX10_jar 2 = .ok (.invokestatic 104, 3) := by decide +kernel
theorem dX10_jar_5 : decode cX10_jar 5 = .ok (.ifCond .eq 27, 3) := by decide +kernel
theorem dX10_jar_32 : decode cX10_jar 32 = .ok (.iconst 0, 1) := by decide +kernel
theorem dX10_jar_33 : decode cX10_jar 33 = .ok (.istore 6, 2) := by decide +kernel
theorem dX10_jar_35 : decode cX10_jar 35 = .ok (.iload 6, 2) := by decide +kernel
theorem dX10_jar_37 : decode cX10_jar 37 = .ok (.ifCond .eq 30, 3) := by decide +kernel
theorem dX10_jar_67 : decode cX10_jar 67 = .ok (.iconst (-1), 1) := by decide +kernel
theorem dX10_jar_68 : decode cX10_jar 68 = .ok (.istore 7, 2) := by decide +kernel
theorem dX10_jar_70 : decode cX10_jar 70 = .ok (.iload 7, 2) := by decide +kernel
theorem dX10_jar_72 : decode cX10_jar 72 = .ok (.iconst (-1), 1) := by decide +kernel
theorem dX10_jar_73 : decode cX10_jar 73 = .ok (.if_icmp .eq 88, 3) := by decide +kernel
theorem dX10_jar_161 : decode cX10_jar 161 = .ok (.iload 7, 2) := by decide +kernel
theorem dX10_jar_163 : decode cX10_jar 163 = .ok (.ireturn, 1) := by decide +kernel
theorem dX10_jar_8 : decode cX10_jar 8 = .ok (.iload 4, 2) := by decide +kernel
theorem dX10_jar_10 : decode cX10_jar 10 = .ok (.bipush 7, 2) := by decide +kernel
theorem dX10_jar_12 : decode cX10_jar 12 = .ok (.invokestatic 79, 3) := by decide +kernel
theorem dX10_jar_15 : decode cX10_jar 15 = .ok (.ifCond .eq 17, 3) := by decide +kernel
theorem dX10_jar_18 : decode cX10_jar 18 = .ok (.iload 5, 2) := by decide +kernel
theorem dX10_jar_20 : decode cX10_jar 20 = .ok (.bipush 15, 2) := by decide +kernel
theorem dX10_jar_22 : decode cX10_jar 22 = .ok (.invokestatic 79, 3) := by decide +kernel
theorem dX10_jar_25 : decode cX10_jar 25 = .ok (.ifCond .eq 7, 3) := by decide +kernel
theorem dX10_jar_28 : decode cX10_jar 28 = .ok (.iconst 1, 1) := by decide +kernel
theorem dX10_jar_29 : decode cX10_jar 29 = .ok (.goto 4, 3) := by decide +kernel
theorem dX10_jar_40 : decode cX10_jar 40 = .ok (.aload_n 0, 1) := by decide +kernel
theorem dX10_jar_41 : decode cX10_jar 41 = .ok (.getfield 10, 3) := by decide +kernel
theorem dX10_jar_44 : decode cX10_jar 44 = .ok (.getfield 83, 3) := by decide +kernel
theorem dX10_jar_47 : decode cX10_jar 47 = .ok (.iload_n 1, 1) := by decide +kernel
theorem dX10_jar_48 : decode cX10_jar 48 = .ok (.invokevirtual 97, 3) := by decide +kernel
theorem dX10_jar_51 : decode cX10_jar 51 = .ok (.ifCond .eq 16, 3) := by decide +kernel
theorem dX10_month_0 : decode cX10_month 0 = .ok (.iload_n 1, 1) := by decide +kernel
theorem dX10_month_1 : decode cX10_month 1 = .ok (.bipush 11, 2) := by decide +kernel
theorem dX10_month_3 : decode cX10_month 3 = .ok (.invokestatic 79, 3) := by decide +kernel
theorem dX10_month_6 : decode cX10_month 6 = .ok (.ifCond .ne 5, 3) := by decide +kernel
theorem dX10_month_11 : decode cX10_month 11 = .ok (.aload_n 0, 1) := by decide +kernel
theorem dX10_month_12 : decode cX10_month 12 = .ok (.getfield 10, 3) := by decide +kernel
theorem dX10_month_15 : decode cX10_month 15 = .ok (.getfield 114, 3) := by decide +kernel
theorem dX10_month_18 : decode cX10_month 18 = .ok (.istore_n 2, 1) := by decide +kernel
theorem dX10_month_19 : decode cX10_month 19 = .ok (.aload_n 0, 1) := by decide +kernel
theorem dX10_month_20 : decode cX10_month 20 = .ok (.getfield 10, 3) := by decide +kernel
theorem dX10_month_23 : decode cX10_month 23 = .ok (.iload_n 1, 1) := by decide +kernel
theorem dX10_month_24 : decode cX10_month 24 = .ok (.putfield 114, 3) := by decide +kernel
theorem dX10_month_27 : decode cX10_month 27 = .ok (.iload_n 2, 1) := by decide +kernel
theorem dX10_month_28 : decode cX10_month 28 = .ok (.ireturn, 1) := by decide +kernel
theorem dX10_month_9 : decode cX10_month 9 = .ok (.iconst (-1), 1) := by decide +kernel
theorem dX10_month_10 : decode cX10_month 10 = .ok (.ireturn, 1) := by decide +kernel
theorem dX10_seed_0 : decode cX10_seed 0 = .ok (.iload_n 1, 1) := by decide +kernel
theorem dX10_seed_1 : decode cX10_seed 1 = .ok (.ifCond .ge 5, 3) := by decide +kernel
theorem dX10_seed_6 : decode cX10_seed 6 = .ok (.aload_n 0, 1) := by decide +kernel
theorem dX10_seed_7 : decode cX10_seed 7 = .ok (.getfield 10, 3) := by decide +kernel
theorem dX10_seed_10 : decode cX10_seed 10 = .ok (.getfield 118, 3) := by decide +kernel
theorem dX10_seed_13 : decode cX10_seed 13 = .ok (.istore_n 2, 1) := by decide +kernel
theorem dX10_seed_14 : decode cX10_seed 14 = .ok (.aload_n 0, 1) := by decide +kernel
theorem dX10_seed_15 : decode cX10_seed 15 = .ok (.getfield 10, 3) := by decide +kernel
theorem dX10_seed_18 : decode cX10_seed 18 = .ok (.iload_n 1, 1) := by decide +kernel
theorem dX10_seed_19 : decode cX10_seed 19 = .ok (.putfield 118, 3) := by decide +kernel
theorem dX10_seed_22 : decode cX10_seed 22 = .ok (.iload_n 2, 1) := by decide +kernel
theorem dX10_seed_23 : decode cX10_seed 23 = .ok (.ireturn, 1) := by decide +kernel
theorem dX10_seed_4 : decode cX10_seed 4 = .ok (.iconst (-1), 1) := by decide +kernel
theorem dX10_seed_5 : decode cX10_seed 5 = .ok (.ireturn, 1) := by decide +kernel
theorem dX10_feed_0 : decode cX10_feed 0 = .ok (.aload_n 0, 1) := by decide +kernel
theorem dX10_feed_1 : decode cX10_feed 1 = .ok (.getfield 121, 3) := by decide +kernel
theorem dX10_feed_4 : decode cX10_feed 4 = .ok (.bipush 20, 2) := by decide +kernel
theorem dX10_feed_6 : decode cX10_feed 6 = .ok (.iadd, 1) := by decide +kernel
theorem dX10_feed_7 : decode cX10_feed 7 = .ok (.sipush 400, 3) := by decide +kernel
theorem dX10_feed_10 : decode cX10_feed 10 = .ok (.if_icmp .le 5, 3) := by decide +kernel
theorem dX10_feed_15 : decode cX10_feed 15 = .ok (.aload_n 0, 1) := by decide +kernel
theorem dX10_feed_16 : decode cX10_feed 16 = .ok (.iload_n 1, 1) := by decide +kernel
theorem dX10_feed_17 : decode cX10_feed 17 = .ok (.invokevirtual 124, 3) := by decide +kernel
theorem dX10_feed_20 : decode cX10_feed 20 = .ok (.aload_n 0, 1) := by decide +kernel
theorem dX10_feed_21 : decode cX10_feed 21 = .ok (.iload_n 2, 1) := by decide +kernel
theorem dX10_feed_22 : decode cX10_feed 22 = .ok (.invokevirtual 124, 3) := by decide +kernel
theorem dX10_feed_25 : decode cX10_feed 25 = .ok (.aload_n 0, 1) := by decide +kernel
theorem dX10_feed_26 : decode cX10_feed 26 = .ok (.iload_n 3, 1) := by decide +kernel
theorem dX10_feed_27 : decode cX10_feed 27 = .ok (.invokevirtual 124, 3) := by decide +kernel
theorem dX10_feed_30 : decode cX10_feed 30 = .ok (.aload_n 0, 1) := by decide +kernel
theorem dX10_feed_31 : decode cX10_feed 31 = .ok (.iload 4, 2) := by decide +kernel
theorem dX10_feed_33 : decode cX10_feed 33 = .ok (.invokevirtual 124, 3) := by decide +kernel
theorem dX10_feed_36 : decode cX10_feed 36 = .ok (.aload_n 0, 1) := by decide +kernel
theorem dX10_feed_37 : decode cX10_feed 37 = .ok (.iload 5, 2) := by decide +kernel
theorem dX10_feed_39 : decode cX10_feed 39 = .ok (.invokevirtual 124, 3) := by decide +kernel
theorem dX10_feed_42 : decode cX10_feed 42 = .ok (.aload_n 0, 1) := by decide +kernel
theorem dX10_feed_43 : decode cX10_feed 43 = .ok (.getfield 121, 3) := by decide +kernel
theorem dX10_feed_46 : decode cX10_feed 46 = .ok (.ireturn, 1) := by decide +kernel
theorem dX10_end_0 : decode cX10_end 0 = .ok (.iload_n 1, 1) := by decide +kernel
theorem dX10_end_1 : decode cX10_end 1 = .ok (.aload_n 0, 1) := by decide +kernel
theorem dX10_end_2 : decode cX10_end 2 = .ok (.getfield 121, 3) := by decide +kernel
theorem dX10_end_5 : decode cX10_end 5 = .ok (.invokestatic 79, 3) := by decide +kernel
theorem dX10_end_8 : decode cX10_end 8 = .ok (.ifCond .ne 5, 3) := by decide +kernel
theorem dX10_end_13 : decode cX10_end 13 = .ok (.aload_n 0, 1) := by decide +kernel
theorem dX10_end_14 : decode cX10_end 14 = .ok (.iload_n 1, 1) := by decide +kernel
theorem dX10_end_15 : decode cX10_end 15 = .ok (.putfield 121, 3) := by decide +kernel
theorem dX10_end_18 : decode cX10_end 18 = .ok (.iload_n 1, 1) := by decide +kernel
theorem dX10_end_19 : decode cX10_end 19 = .ok (.ireturn, 1) := by decide +kernel
theorem dX10_end_11 : decode cX10_end 11 = .ok (.iconst (-1), 1) := by decide +kernel
theorem dX10_end_12 : decode cX10_end 12 = .ok (.ireturn, 1) := by decide +kernel
theorem dX10_law_0 : decode cX10_law 0 = .ok (.aload_n 0, 1) := by decide +kernel
theorem dX10_law_1 : decode cX10_law 1 = .ok (.getfield 128, 3) := by decide +kernel
theorem dX10_law_4 : decode cX10_law 4 = .ok (.bipush 6, 2) := by decide +kernel
theorem dX10_law_6 : decode cX10_law 6 = .ok (.if_icmp .lt 5, 3) := by decide +kernel
theorem dX10_law_11 : decode cX10_law 11 = .ok (.aload_n 0, 1) := by decide +kernel
theorem dX10_law_12 : decode cX10_law 12 = .ok (.getfield 29, 3) := by decide +kernel
theorem dX10_law_15 : decode cX10_law 15 = .ok (.aload_n 0, 1) := by decide +kernel
theorem dX10_law_16 : decode cX10_law 16 = .ok (.getfield 128, 3) := by decide +kernel
theorem dX10_law_19 : decode cX10_law 19 = .ok (.aaload, 1) := by decide +kernel
theorem dX10_law_20 : decode cX10_law 20 = .ok (.ifnonnull 19, 3) := by decide +kernel
theorem dX10_law_23 : decode cX10_law 23 = .ok (.aload_n 0, 1) := by decide +kernel
theorem dX10_law_24 : decode cX10_law 24 = .ok (.getfield 29, 3) := by decide +kernel
theorem dX10_law_27 : decode cX10_law 27 = .ok (.aload_n 0, 1) := by decide +kernel
theorem dX10_law_28 : decode cX10_law 28 = .ok (.getfield 128, 3) := by decide +kernel
theorem dX10_law_31 : decode cX10_law 31 = .ok (.new 27, 3) := by decide +kernel
theorem dX10_law_34 : decode cX10_law 34 = .ok (.dup, 1) := by decide +kernel
theorem dX10_law_35 : decode cX10_law 35 = .ok (.invokespecial 131, 3) := by decide +kernel
theorem dX10_law_38 : decode cX10_law 38 = .ok (.aastore, 1) := by decide +kernel
theorem dX10_law_39 : decode cX10_law 39 = .ok (.aload_n 0, 1) := by decide +kernel
theorem dX10_law_40 : decode cX10_law 40 = .ok (.getfield 36, 3) := by decide +kernel
theorem dX10_law_43 : decode cX10_law 43 = .ok (.aload_n 0, 1) := by decide +kernel
theorem dX10_law_44 : decode cX10_law 44 = .ok (.getfield 23, 3) := by decide +kernel
theorem dX10_law_47 : decode cX10_law 47 = .ok (.aload_n 0, 1) := by decide +kernel
theorem dX10_law_48 : decode cX10_law 48 = .ok (.getfield 121, 3) := by decide +kernel
theorem dX10_law_51 : decode cX10_law 51 = .ok (.aload_n 0, 1) := by decide +kernel
theorem dX10_law_52 : decode cX10_law 52 = .ok (.getfield 29, 3) := by decide +kernel
theorem dX10_law_55 : decode cX10_law 55 = .ok (.aload_n 0, 1) := by decide +kernel
theorem dX10_law_56 : decode cX10_law 56 = .ok (.getfield 128, 3) := by decide +kernel
theorem dX10_law_59 : decode cX10_law 59 = .ok (.aaload, 1) := by decide +kernel
theorem dX10_law_60 : decode cX10_law 60 = .ok (.invokevirtual 132, 3) := by decide +kernel
theorem dX10_law_63 : decode cX10_law 63 = .ok (.istore_n 1, 1) := by decide +kernel
theorem dX10_law_64 : decode cX10_law 64 = .ok (.aload_n 0, 1) := by decide +kernel
theorem dX10_law_65 : decode cX10_law 65 = .ok (.iconst 0, 1) := by decide +kernel
theorem dX10_law_66 : decode cX10_law 66 = .ok (.putfield 121, 3) := by decide +kernel
theorem dX10_law_69 : decode cX10_law 69 = .ok (.iload_n 1, 1) := by decide +kernel
theorem dX10_law_70 : decode cX10_law 70 = .ok (.ifCond .eq 8, 3) := by decide +kernel
theorem dX10_law_73 : decode cX10_law 73 = .ok (.bipush (-2), 2) := by decide +kernel
theorem dX10_law_75 : decode cX10_law 75 = .ok (.iload_n 1, 1) := by decide +kernel
theorem dX10_law_76 : decode cX10_law 76 = .ok (.isub, 1) := by decide +kernel
theorem dX10_law_77 : decode cX10_law 77 = .ok (.ireturn, 1) := by decide +kernel
theorem dX10_fill_0 : decode cX10_fill 0 = .ok (.aload_n 0, 1) := by decide +kernel
theorem dX10_fill_1 : decode cX10_fill 1 = .ok (.getfield 10, 3) := by decide +kernel
theorem dX10_fill_4 : decode cX10_fill 4 = .ok (.iload_n 1, 1) := by decide +kernel
theorem dX10_fill_5 : decode cX10_fill 5 = .ok (.invokevirtual 136, 3) := by decide +kernel
theorem dX10_fill_8 : decode cX10_fill 8 = .ok (.istore_n 3, 1) := by decide +kernel
theorem dX10_fill_9 : decode cX10_fill 9 = .ok (.iload_n 3, 1) := by decide +kernel
theorem dX10_fill_10 : decode cX10_fill 10 = .ok (.iconst (-1), 1) := by decide +kernel
theorem dX10_fill_11 : decode cX10_fill 11 = .ok (.if_icmp .eq 37, 3) := by decide +kernel
theorem dX10_fill_48 : decode cX10_fill 48 = .ok (.iconst (-1), 1) := by decide +kernel
theorem dX10_fill_49 : decode cX10_fill 49 = .ok (.ireturn, 1) := by decide +kernel
theorem dX10_pour_0 : decode cX10_pour 0 = .ok (.aload_n 0, 1) := by decide +kernel
theorem dX10_pour_1 : decode cX10_pour 1 = .ok (.getfield 10, 3) := by decide +kernel
theorem dX10_pour_4 : decode cX10_pour 4 = .ok (.iload_n 1, 1) := by decide +kernel
theorem dX10_pour_5 : decode cX10_pour 5 = .ok (.invokevirtual 136, 3) := by decide +kernel
theorem dX10_pour_8 : decode cX10_pour 8 = .ok (.istore_n 2, 1) := by decide +kernel
theorem dX10_pour_9 : decode cX10_pour 9 = .ok (.iload_n 2, 1) := by decide +kernel
theorem dX10_pour_10 : decode cX10_pour 10 = .ok (.iconst (-1), 1) := by decide +kernel
theorem dX10_pour_11 : decode cX10_pour 11 = .ok (.if_icmp .ne 5, 3) := by decide +kernel
theorem dX10_pour_14 : decode cX10_pour 14 = .ok (.iconst (-1), 1) := by decide +kernel
theorem dX10_pour_15 : decode cX10_pour 15 = .ok (.ireturn, 1) := by decide +kernel
theorem dX10_store_0 : decode cX10_store 0 = .ok (.aload_n 0, 1) := by decide +kernel
theorem dX10_store_1 : decode cX10_store 1 = .ok (.getfield 10, 3) := by decide +kernel
theorem dX10_store_4 : decode cX10_store 4 = .ok (.getfield 83, 3) := by decide +kernel
theorem dX10_store_7 : decode cX10_store 7 = .ok (.iload_n 1, 1) := by decide +kernel
theorem dX10_store_8 : decode cX10_store 8 = .ok (.invokevirtual 97, 3) := by decide +kernel
theorem dX10_store_11 : decode cX10_store 11 = .ok (.ifCond .eq 12, 3) := by decide +kernel
theorem dX10_store_23 : decode cX10_store 23 = .ok (.iconst (-1), 1) := by decide +kernel
theorem dX10_store_24 : decode cX10_store 24 = .ok (.ireturn, 1) := by decide +kernel
theorem dX10_leave_0 : decode cX10_leave 0 = .ok (.aload_n 0, 1) := by decide +kernel
theorem dX10_leave_1 : decode cX10_leave 1 = .ok (.getfield 10, 3) := by decide +kernel
theorem dX10_leave_4 : decode cX10_leave 4 = .ok (.iload_n 1, 1) := by decide +kernel
theorem dX10_leave_5 : decode cX10_leave 5 = .ok (.invokevirtual 136, 3) := by decide +kernel
theorem dX10_leave_8 : decode cX10_leave 8 = .ok (.istore_n 3, 1) := by decide +kernel
theorem dX10_leave_9 : decode cX10_leave 9 = .ok (.iload_n 3, 1) := by decide +kernel
theorem dX10_leave_10 : decode cX10_leave 10 = .ok (.iconst (-1), 1) := by decide +kernel
theorem dX10_leave_11 : decode cX10_leave 11 = .ok (.if_icmp .ne 7, 3) := by decide +kernel
theorem dX10_leave_14 : decode cX10_leave 14 = .ok (.iconst (-1), 1) := by decide +kernel
theorem dX10_leave_15 : decode cX10_leave 15 = .ok (.goto 12, 3) := by decide +kernel
theorem dX10_leave_27 : decode cX10_leave 27 = .ok (.istore 4, 2) := by decide +kernel
theorem dX10_leave_29 : decode cX10_leave 29 = .ok (.iload 4, 2) := by decide +kernel
theorem dX10_leave_31 : decode cX10_leave 31 = .ok (.iconst (-1), 1) := by decide +kernel
theorem dX10_leave_32 : decode cX10_leave 32 = .ok (.if_icmp .ne 5, 3) := by decide +kernel
theorem dX10_leave_35 : decode cX10_leave 35 = .ok (.iconst 0, 1) := by decide +kernel
theorem dX10_leave_36 : decode cX10_leave 36 = .ok (.ireturn, 1) := by decide +kernel
theorem dX10_tick_0 : decode cX10_tick 0 = .ok (.aload_n 0, 1) := by decide +kernel
theorem dX10_tick_1 : decode cX10_tick 1 = .ok (.iload_n 1, 1) := by decide +kernel
theorem dX10_tick_2 : decode cX10_tick 2 = .ok (.invokevirtual 161, 3) := by decide +kernel
theorem dX10_tick_5 : decode cX10_tick 5 = .ok (.astore_n 3, 1) := by decide +kernel
theorem dX10_tick_6 : decode cX10_tick 6 = .ok (.aload_n 3, 1) := by decide +kernel
theorem dX10_tick_7 : decode cX10_tick 7 = .ok (.ifnull 29, 3) := by decide +kernel
theorem dX10_tick_36 : decode cX10_tick 36 = .ok (.iconst (-1), 1) := by decide +kernel
theorem dX10_tick_37 : decode cX10_tick 37 = .ok (.ireturn, 1) := by decide +kernel
theorem dX10_at_0 : decode cX10_at 0 = .ok (.aload_n 0, 1) := by decide +kernel
theorem dX10_at_1 : decode cX10_at 1 = .ok (.getfield 10, 3) := by decide +kernel
theorem dX10_at_4 : decode cX10_at 4 = .ok (.getfield 83, 3) := by decide +kernel
theorem dX10_at_7 : decode cX10_at 7 = .ok (.iload_n 1, 1) := by decide +kernel
theorem dX10_at_8 : decode cX10_at 8 = .ok (.invokevirtual 97, 3) := by decide +kernel
theorem dX10_at_11 : decode cX10_at 11 = .ok (.ifCond .ne 5, 3) := by decide +kernel
theorem dX10_at_14 : decode cX10_at 14 = .ok (.iconst (-1), 1) := by decide +kernel
theorem dX10_at_15 : decode cX10_at 15 = .ok (.ireturn, 1) := by decide +kernel
theorem dX10_of_0 : decode cX10_of 0 = .ok (.aload_n 0, 1) := by decide +kernel
theorem dX10_of_1 : decode cX10_of 1 = .ok (.getfield 10, 3) := by decide +kernel
theorem dX10_of_4 : decode cX10_of 4 = .ok (.getfield 107, 3) := by decide +kernel
theorem dX10_of_7 : decode cX10_of 7 = .ok (.iload_n 1, 1) := by decide +kernel
theorem dX10_of_8 : decode cX10_of 8 = .ok (.invokevirtual 97, 3) := by decide +kernel
theorem dX10_of_11 : decode cX10_of 11 = .ok (.ifCond .eq 12, 3) := by decide +kernel
theorem dX10_of_23 : decode cX10_of 23 = .ok (.bipush (-2), 2) := by decide +kernel
theorem dX10_of_25 : decode cX10_of 25 = .ok (.ireturn, 1) := by decide +kernel
theorem dX10_melt_0 : decode cX10_melt 0 = .ok (.aload_n 0, 1) := by decide +kernel
theorem dX10_melt_1 : decode cX10_melt 1 = .ok (.iload_n 1, 1) := by decide +kernel
theorem dX10_melt_2 : decode cX10_melt 2 = .ok (.invokevirtual 161, 3) := by decide +kernel
theorem dX10_melt_5 : decode cX10_melt 5 = .ok (.astore_n 3, 1) := by decide +kernel
theorem dX10_melt_6 : decode cX10_melt 6 = .ok (.aload_n 3, 1) := by decide +kernel
theorem dX10_melt_7 : decode cX10_melt 7 = .ok (.ifnull 34, 3) := by decide +kernel
theorem dX10_melt_41 : decode cX10_melt 41 = .ok (.iconst (-1), 1) := by decide +kernel
theorem dX10_melt_42 : decode cX10_melt 42 = .ok (.ireturn, 1) := by decide +kernel
theorem dX10_lay_0 : decode cX10_lay 0 = .ok (.aload_n 0, 1) := by decide +kernel
theorem dX10_lay_1 : decode cX10_lay 1 = .ok (.getfield 10, 3) := by decide +kernel
theorem dX10_lay_4 : decode cX10_lay 4 = .ok (.getfield 176, 3) := by decide +kernel
theorem dX10_lay_7 : decode cX10_lay 7 = .ok (.iconst (-1), 1) := by decide +kernel
theorem dX10_lay_8 : decode cX10_lay 8 = .ok (.if_icmp .ne 7, 3) := by decide +kernel
theorem dX10_lay_11 : decode cX10_lay 11 = .ok (.iconst (-1), 1) := by decide +kernel
theorem dX10_lay_12 : decode cX10_lay 12 = .ok (.goto 18, 3) := by decide +kernel
theorem dX10_lay_30 : decode cX10_lay 30 = .ok (.istore_n 2, 1) := by decide +kernel
theorem dX10_lay_31 : decode cX10_lay 31 = .ok (.iload_n 2, 1) := by decide +kernel
theorem dX10_lay_32 : decode cX10_lay 32 = .ok (.iconst (-1), 1) := by decide +kernel
theorem dX10_lay_33 : decode cX10_lay 33 = .ok (.if_icmp .eq 14, 3) := by decide +kernel
theorem dX10_lay_47 : decode cX10_lay 47 = .ok (.iconst (-1), 1) := by decide +kernel
theorem dX10_lay_48 : decode cX10_lay 48 = .ok (.ireturn, 1) := by decide +kernel
theorem dX10_from_0 : decode cX10_from 0 = .ok (.aload_n 0, 1) := by decide +kernel
theorem dX10_from_1 : decode cX10_from 1 = .ok (.getfield 10, 3) := by decide +kernel
theorem dX10_from_4 : decode cX10_from 4 = .ok (.getfield 83, 3) := by decide +kernel
theorem dX10_from_7 : decode cX10_from 7 = .ok (.iload_n 1, 1) := by decide +kernel
theorem dX10_from_8 : decode cX10_from 8 = .ok (.invokevirtual 97, 3) := by decide +kernel
theorem dX10_from_11 : decode cX10_from 11 = .ok (.ifCond .ne 5, 3) := by decide +kernel
theorem dX10_from_14 : decode cX10_from 14 = .ok (.iconst 0, 1) := by decide +kernel
theorem dX10_from_15 : decode cX10_from 15 = .ok (.ireturn, 1) := by decide +kernel
theorem dX10_tried_0 : decode cX10_tried 0 = .ok (.aload_n 0, 1) := by decide +kernel
theorem dX10_tried_1 : decode cX10_tried 1 = .ok (.iload_n 1, 1) := by decide +kernel
theorem dX10_tried_2 : decode cX10_tried 2 = .ok (.invokevirtual 161, 3) := by decide +kernel
theorem dX10_tried_5 : decode cX10_tried 5 = .ok (.astore 7, 2) := by decide +kernel
theorem dX10_tried_7 : decode cX10_tried 7 = .ok (.aload 7, 2) := by decide +kernel
theorem dX10_tried_9 : decode cX10_tried 9 = .ok (.ifnull 35, 3) := by decide +kernel
theorem dX10_tried_44 : decode cX10_tried 44 = .ok (.iconst (-1), 1) := by decide +kernel
theorem dX10_tried_45 : decode cX10_tried 45 = .ok (.ireturn, 1) := by decide +kernel
theorem dX10_best_0 : decode cX10_best 0 = .ok (.aload_n 0, 1) := by decide +kernel
theorem dX10_best_1 : decode cX10_best 1 = .ok (.iload_n 1, 1) := by decide +kernel
theorem dX10_best_2 : decode cX10_best 2 = .ok (.invokevirtual 161, 3) := by decide +kernel
theorem dX10_best_5 : decode cX10_best 5 = .ok (.astore 9, 2) := by decide +kernel
theorem dX10_best_7 : decode cX10_best 7 = .ok (.aload 9, 2) := by decide +kernel
theorem dX10_best_9 : decode cX10_best 9 = .ok (.ifnull 36, 3) := by decide +kernel
theorem dX10_best_45 : decode cX10_best 45 = .ok (.iconst (-1), 1) := by decide +kernel
theorem dX10_best_46 : decode cX10_best 46 = .ok (.ireturn, 1) := by decide +kernel
theorem dX10_soonest_0 : decode cX10_soonest 0 = .ok (.aload_n 0, 1) := by decide +kernel
theorem dX10_soonest_1 : decode cX10_soonest 1 = .ok (.getfield 10, 3) := by decide +kernel
theorem dX10_soonest_4 : decode cX10_soonest 4 = .ok (.getfield 83, 3) := by decide +kernel
theorem dX10_soonest_7 : decode cX10_soonest 7 = .ok (.iload_n 1, 1) := by decide +kernel
theorem dX10_soonest_8 : decode cX10_soonest 8 = .ok (.invokevirtual 97, 3) := by decide +kernel
theorem dX10_soonest_11 : decode cX10_soonest 11 = .ok (.ifCond .eq 17, 3) := by decide +kernel
theorem dX10_soonest_28 : decode cX10_soonest 28 = .ok (.iconst (-1), 1) := by decide +kernel
theorem dX10_soonest_29 : decode cX10_soonest 29 = .ok (.ireturn, 1) := by decide +kernel
theorem dX10_nearest_0 : decode cX10_nearest 0 = .ok (.aload_n 0, 1) := by decide +kernel
theorem dX10_nearest_1 : decode cX10_nearest 1 = .ok (.getfield 10, 3) := by decide +kernel
theorem dX10_nearest_4 : decode cX10_nearest 4 = .ok (.getfield 83, 3) := by decide +kernel
theorem dX10_nearest_7 : decode cX10_nearest 7 = .ok (.iload_n 1, 1) := by decide +kernel
theorem dX10_nearest_8 : decode cX10_nearest 8 = .ok (.invokevirtual 97, 3) := by decide +kernel
theorem dX10_nearest_11 : decode cX10_nearest 11 = .ok (.ifCond .eq 12, 3) := by decide +kernel
theorem dX10_nearest_23 : decode cX10_nearest 23 = .ok (.iconst (-1), 1) := by decide +kernel
theorem dX10_nearest_24 : decode cX10_nearest 24 = .ok (.ireturn, 1) := by decide +kernel
theorem dX10_warmer_0 : decode cX10_warmer 0 = .ok (.aload_n 0, 1) := by decide +kernel
theorem dX10_warmer_1 : decode cX10_warmer 1 = .ok (.iload_n 1, 1) := by decide +kernel
theorem dX10_warmer_2 : decode cX10_warmer 2 = .ok (.invokevirtual 161, 3) := by decide +kernel
theorem dX10_warmer_5 : decode cX10_warmer 5 = .ok (.astore 7, 2) := by decide +kernel
theorem dX10_warmer_7 : decode cX10_warmer 7 = .ok (.iload_n 2, 1) := by decide +kernel
theorem dX10_warmer_8 : decode cX10_warmer 8 = .ok (.iload_n 3, 1) := by decide +kernel
theorem dX10_warmer_9 : decode cX10_warmer 9 = .ok (.iload 4, 2) := by decide +kernel
theorem dX10_warmer_11 : decode cX10_warmer 11 = .ok (.iload 5, 2) := by decide +kernel
theorem dX10_warmer_13 : decode cX10_warmer 13 = .ok (.invokestatic 191, 3) := by decide +kernel
theorem dX10_warmer_16 : decode cX10_warmer 16 = .ok (.ifCond .eq 17, 3) := by decide +kernel
theorem dX10_warmer_33 : decode cX10_warmer 33 = .ok (.iconst 0, 1) := by decide +kernel
theorem dX10_warmer_34 : decode cX10_warmer 34 = .ok (.istore 8, 2) := by decide +kernel
theorem dX10_warmer_36 : decode cX10_warmer 36 = .ok (.aload 7, 2) := by decide +kernel
theorem dX10_warmer_38 : decode cX10_warmer 38 = .ok (.ifnull 19, 3) := by decide +kernel
theorem dX10_warmer_57 : decode cX10_warmer 57 = .ok (.iconst (-1), 1) := by decide +kernel
theorem dX10_warmer_58 : decode cX10_warmer 58 = .ok (.ireturn, 1) := by decide +kernel
theorem dX10_warmer_19 : decode cX10_warmer 19 = .ok (.iload 6, 2) := by decide +kernel
theorem dX10_warmer_21 : decode cX10_warmer 21 = .ok (.ldc 140, 2) := by decide +kernel
theorem dX10_warmer_23 : decode cX10_warmer 23 = .ok (.invokestatic 79, 3) := by decide +kernel
theorem dX10_warmer_26 : decode cX10_warmer 26 = .ok (.ifCond .eq 7, 3) := by decide +kernel
theorem dX10_warmer_29 : decode cX10_warmer 29 = .ok (.iconst 1, 1) := by decide +kernel
theorem dX10_warmer_30 : decode cX10_warmer 30 = .ok (.goto 4, 3) := by decide +kernel
theorem dX10_guess_0 : decode cX10_guess 0 = .ok (.aload_n 0, 1) := by decide +kernel
theorem dX10_guess_1 : decode cX10_guess 1 = .ok (.iload_n 1, 1) := by decide +kernel
theorem dX10_guess_2 : decode cX10_guess 2 = .ok (.invokevirtual 161, 3) := by decide +kernel
theorem dX10_guess_5 : decode cX10_guess 5 = .ok (.astore 10, 2) := by decide +kernel
theorem dX10_guess_7 : decode cX10_guess 7 = .ok (.iload 6, 2) := by decide +kernel
theorem dX10_guess_9 : decode cX10_guess 9 = .ok (.bipush 12, 2) := by decide +kernel
theorem dX10_guess_11 : decode cX10_guess 11 = .ok (.invokestatic 79, 3) := by decide +kernel
theorem dX10_guess_14 : decode cX10_guess 14 = .ok (.ifCond .eq 26, 3) := by decide +kernel
theorem dX10_guess_40 : decode cX10_guess 40 = .ok (.iconst 0, 1) := by decide +kernel
theorem dX10_guess_41 : decode cX10_guess 41 = .ok (.istore 11, 2) := by decide +kernel
theorem dX10_guess_43 : decode cX10_guess 43 = .ok (.iload 9, 2) := by decide +kernel
theorem dX10_guess_45 : decode cX10_guess 45 = .ok (.ifCond .eq 18, 3) := by decide +kernel
theorem dX10_guess_63 : decode cX10_guess 63 = .ok (.iconst 1, 1) := by decide +kernel
theorem dX10_guess_64 : decode cX10_guess 64 = .ok (.goto 4, 3) := by decide +kernel
theorem dX10_guess_68 : decode cX10_guess 68 = .ok (.istore 12, 2) := by decide +kernel
theorem dX10_guess_70 : decode cX10_guess 70 = .ok (.aload 10, 2) := by decide +kernel
theorem dX10_guess_72 : decode cX10_guess 72 = .ok (.ifnull 36, 3) := by decide +kernel
theorem dX10_guess_108 : decode cX10_guess 108 = .ok (.iconst (-1), 1) := by decide +kernel
theorem dX10_guess_109 : decode cX10_guess 109 = .ok (.ireturn, 1) := by decide +kernel
theorem dX10_guess_48 : decode cX10_guess 48 = .ok (.aload_n 0, 1) := by decide +kernel
theorem dX10_guess_49 : decode cX10_guess 49 = .ok (.getfield 10, 3) := by decide +kernel
theorem dX10_guess_52 : decode cX10_guess 52 = .ok (.getfield 185, 3) := by decide +kernel
theorem dX10_guess_55 : decode cX10_guess 55 = .ok (.iload 8, 2) := by decide +kernel
theorem dX10_guess_57 : decode cX10_guess 57 = .ok (.invokevirtual 97, 3) := by decide +kernel
theorem dX10_guess_60 : decode cX10_guess 60 = .ok (.ifCond .eq 7, 3) := by decide +kernel
theorem dX10_guess_67 : decode cX10_guess 67 = .ok (.iconst 0, 1) := by decide +kernel
theorem dX10_guess_17 : decode cX10_guess 17 = .ok (.iload 7, 2) := by decide +kernel
theorem dX10_guess_19 : decode cX10_guess 19 = .ok (.ldc 140, 2) := by decide +kernel
theorem dX10_guess_21 : decode cX10_guess 21 = .ok (.invokestatic 79, 3) := by decide +kernel
theorem dX10_guess_24 : decode cX10_guess 24 = .ok (.ifCond .eq 16, 3) := by decide +kernel
theorem dX10_guess_27 : decode cX10_guess 27 = .ok (.iload 9, 2) := by decide +kernel
theorem dX10_guess_29 : decode cX10_guess 29 = .ok (.iconst 2, 1) := by decide +kernel
theorem dX10_guess_30 : decode cX10_guess 30 = .ok (.invokestatic 79, 3) := by decide +kernel
theorem dX10_guess_33 : decode cX10_guess 33 = .ok (.ifCond .eq 7, 3) := by decide +kernel
theorem dX10_guess_36 : decode cX10_guess 36 = .ok (.iconst 1, 1) := by decide +kernel
theorem dX10_guess_37 : decode cX10_guess 37 = .ok (.goto 4, 3) := by decide +kernel
theorem dX10_order_0 : decode cX10_order 0 = .ok (.iload_n 2, 1) := by decide +kernel
theorem dX10_order_1 : decode cX10_order 1 = .ok (.ldc 140, 2) := by decide +kernel
theorem dX10_order_3 : decode cX10_order 3 = .ok (.invokestatic 79, 3) := by decide +kernel
theorem dX10_order_6 : decode cX10_order 6 = .ok (.ifCond .eq 25, 3) := by decide +kernel
theorem dX10_order_31 : decode cX10_order 31 = .ok (.iconst 0, 1) := by decide +kernel
theorem dX10_order_32 : decode cX10_order 32 = .ok (.istore 5, 2) := by decide +kernel
theorem dX10_order_34 : decode cX10_order 34 = .ok (.iload 5, 2) := by decide +kernel
theorem dX10_order_36 : decode cX10_order 36 = .ok (.ifCond .eq 30, 3) := by decide +kernel
theorem dX10_order_66 : decode cX10_order 66 = .ok (.iconst (-1), 1) := by decide +kernel
theorem dX10_order_67 : decode cX10_order 67 = .ok (.istore 6, 2) := by decide +kernel
theorem dX10_order_69 : decode cX10_order 69 = .ok (.iload 6, 2) := by decide +kernel
theorem dX10_order_71 : decode cX10_order 71 = .ok (.iconst (-1), 1) := by decide +kernel
theorem dX10_order_72 : decode cX10_order 72 = .ok (.if_icmp .ne 5, 3) := by decide +kernel
theorem dX10_order_75 : decode cX10_order 75 = .ok (.iconst (-1), 1) := by decide +kernel
theorem dX10_order_76 : decode cX10_order 76 = .ok (.ireturn, 1) := by decide +kernel
theorem dX10_order_9 : decode cX10_order 9 = .ok (.iload_n 3, 1) := by decide +kernel
theorem dX10_order_10 : decode cX10_order 10 = .ok (.invokestatic 260, 3) := by decide +kernel
theorem dX10_order_13 : decode cX10_order 13 = .ok (.ifCond .eq 18, 3) := by decide +kernel
theorem dX10_order_16 : decode cX10_order 16 = .ok (.iload 4, 2) := by decide +kernel
theorem dX10_order_18 : decode cX10_order 18 = .ok (.sipush 9999, 3) := by decide +kernel
theorem dX10_order_21 : decode cX10_order 21 = .ok (.invokestatic 79, 3) := by decide +kernel
theorem dX10_order_24 : decode cX10_order 24 = .ok (.ifCond .eq 7, 3) := by decide +kernel
theorem dX10_order_27 : decode cX10_order 27 = .ok (.iconst 1, 1) := by decide +kernel
theorem dX10_order_28 : decode cX10_order 28 = .ok (.goto 4, 3) := by decide +kernel
theorem dX10_order_39 : decode cX10_order 39 = .ok (.aload_n 0, 1) := by decide +kernel
theorem dX10_order_40 : decode cX10_order 40 = .ok (.getfield 10, 3) := by decide +kernel
theorem dX10_order_43 : decode cX10_order 43 = .ok (.getfield 83, 3) := by decide +kernel
theorem dX10_order_46 : decode cX10_order 46 = .ok (.iload_n 1, 1) := by decide +kernel
theorem dX10_order_47 : decode cX10_order 47 = .ok (.invokevirtual 97, 3) := by decide +kernel
theorem dX10_order_50 : decode cX10_order 50 = .ok (.ifCond .eq 16, 3) := by decide +kernel
theorem dX10_serves_0 : decode cX10_serves 0 = .ok (.aload_n 0, 1) := by decide +kernel
theorem dX10_serves_1 : decode cX10_serves 1 = .ok (.iload_n 1, 1) := by decide +kernel
theorem dX10_serves_2 : decode cX10_serves 2 = .ok (.invokevirtual 161, 3) := by decide +kernel
theorem dX10_serves_5 : decode cX10_serves 5 = .ok (.astore 4, 2) := by decide +kernel
theorem dX10_serves_7 : decode cX10_serves 7 = .ok (.aload 4, 2) := by decide +kernel
theorem dX10_serves_9 : decode cX10_serves 9 = .ok (.ifnull 31, 3) := by decide +kernel
theorem dX10_serves_40 : decode cX10_serves 40 = .ok (.iconst (-1), 1) := by decide +kernel
theorem dX10_serves_41 : decode cX10_serves 41 = .ok (.ireturn, 1) := by decide +kernel
theorem dX10_all_0 : decode cX10_all 0 = .ok (.aload_n 0, 1) := by decide +kernel
theorem dX10_all_1 : decode cX10_all 1 = .ok (.iload_n 1, 1) := by decide +kernel
theorem dX10_all_2 : decode cX10_all 2 = .ok (.invokevirtual 161, 3) := by decide +kernel
theorem dX10_all_5 : decode cX10_all 5 = .ok (.astore_n 3, 1) := by decide +kernel
theorem dX10_all_6 : decode cX10_all 6 = .ok (.aload_n 3, 1) := by decide +kernel
theorem dX10_all_7 : decode cX10_all 7 = .ok (.ifnull 12, 3) := by decide +kernel
theorem dX10_all_19 : decode cX10_all 19 = .ok (.iconst (-1), 1) := by decide +kernel
theorem dX10_all_20 : decode cX10_all 20 = .ok (.ireturn, 1) := by decide +kernel
theorem dX10_feast_0 : decode cX10_feast 0 = .ok (.iload_n 2, 1) := by decide +kernel
theorem dX10_feast_1 : decode cX10_feast 1 = .ok (.sipush 4166, 3) := by decide +kernel
theorem dX10_feast_4 : decode cX10_feast 4 = .ok (.invokestatic 79, 3) := by decide +kernel
theorem dX10_feast_7 : decode cX10_feast 7 = .ok (.ifCond .eq 14, 3) := by decide +kernel
theorem dX10_feast_21 : decode cX10_feast 21 = .ok (.iconst 0, 1) := by decide +kernel
theorem dX10_feast_22 : decode cX10_feast 22 = .ok (.istore 4, 2) := by decide +kernel
theorem dX10_feast_24 : decode cX10_feast 24 = .ok (.iload 4, 2) := by decide +kernel
theorem dX10_feast_26 : decode cX10_feast 26 = .ok (.ifCond .eq 30, 3) := by decide +kernel
theorem dX10_feast_56 : decode cX10_feast 56 = .ok (.iconst (-1), 1) := by decide +kernel
theorem dX10_feast_57 : decode cX10_feast 57 = .ok (.istore 5, 2) := by decide +kernel
theorem dX10_feast_59 : decode cX10_feast 59 = .ok (.iload 5, 2) := by decide +kernel
theorem dX10_feast_61 : decode cX10_feast 61 = .ok (.iconst (-1), 1) := by decide +kernel
theorem dX10_feast_62 : decode cX10_feast 62 = .ok (.if_icmp .ne 5, 3) := by decide +kernel
theorem dX10_feast_65 : decode cX10_feast 65 = .ok (.iconst (-1), 1) := by decide +kernel
theorem dX10_feast_66 : decode cX10_feast 66 = .ok (.ireturn, 1) := by decide +kernel
theorem dX10_feast_10 : decode cX10_feast 10 = .ok (.iload_n 3, 1) := by decide +kernel
theorem dX10_feast_11 : decode cX10_feast 11 = .ok (.invokestatic 260, 3) := by decide +kernel
theorem dX10_feast_14 : decode cX10_feast 14 = .ok (.ifCond .eq 7, 3) := by decide +kernel
theorem dX10_feast_17 : decode cX10_feast 17 = .ok (.iconst 1, 1) := by decide +kernel
theorem dX10_feast_18 : decode cX10_feast 18 = .ok (.goto 4, 3) := by decide +kernel
theorem dX10_feast_29 : decode cX10_feast 29 = .ok (.aload_n 0, 1) := by decide +kernel
theorem dX10_feast_30 : decode cX10_feast 30 = .ok (.getfield 10, 3) := by decide +kernel
theorem dX10_feast_33 : decode cX10_feast 33 = .ok (.getfield 83, 3) := by decide +kernel
theorem dX10_feast_36 : decode cX10_feast 36 = .ok (.iload_n 1, 1) := by decide +kernel
theorem dX10_feast_37 : decode cX10_feast 37 = .ok (.invokevirtual 97, 3) := by decide +kernel
theorem dX10_feast_40 : decode cX10_feast 40 = .ok (.ifCond .eq 16, 3) := by decide +kernel
theorem dX10_enough_0 : decode cX10_enough 0 = .ok (.aload_n 0, 1) := by decide +kernel
theorem dX10_enough_1 : decode cX10_enough 1 = .ok (.iload_n 1, 1) := by decide +kernel
theorem dX10_enough_2 : decode cX10_enough 2 = .ok (.invokevirtual 161, 3) := by decide +kernel
theorem dX10_enough_5 : decode cX10_enough 5 = .ok (.astore 4, 2) := by decide +kernel
theorem dX10_enough_7 : decode cX10_enough 7 = .ok (.aload 4, 2) := by decide +kernel
theorem dX10_enough_9 : decode cX10_enough 9 = .ok (.ifnull 26, 3) := by decide +kernel
theorem dX10_enough_35 : decode cX10_enough 35 = .ok (.iconst (-1), 1) := by decide +kernel
theorem dX10_enough_36 : decode cX10_enough 36 = .ok (.ireturn, 1) := by decide +kernel
theorem dX10_least_0 : decode cX10_least 0 = .ok (.aload_n 0, 1) := by decide +kernel
theorem dX10_least_1 : decode cX10_least 1 = .ok (.iload_n 1, 1) := by decide +kernel
theorem dX10_least_2 : decode cX10_least 2 = .ok (.invokevirtual 161, 3) := by decide +kernel
theorem dX10_least_5 : decode cX10_least 5 = .ok (.astore_n 3, 1) := by decide +kernel
theorem dX10_least_6 : decode cX10_least 6 = .ok (.aload_n 3, 1) := by decide +kernel
theorem dX10_least_7 : decode cX10_least 7 = .ok (.ifnull 17, 3) := by decide +kernel
theorem dX10_least_24 : decode cX10_least 24 = .ok (.iconst (-1), 1) := by decide +kernel
theorem dX10_least_25 : decode cX10_least 25 = .ok (.ireturn, 1) := by decide +kernel
theorem dX10_nights_0 : decode cX10_nights 0 = .ok (.aload_n 0, 1) := by decide +kernel
theorem dX10_nights_1 : decode cX10_nights 1 = .ok (.iload_n 1, 1) := by decide +kernel
theorem dX10_nights_2 : decode cX10_nights 2 = .ok (.invokevirtual 161, 3) := by decide +kernel
theorem dX10_nights_5 : decode cX10_nights 5 = .ok (.astore 6, 2) := by decide +kernel
theorem dX10_nights_7 : decode cX10_nights 7 = .ok (.iload_n 3, 1) := by decide +kernel
theorem dX10_nights_8 : decode cX10_nights 8 = .ok (.ldc 140, 2) := by decide +kernel
theorem dX10_nights_10 : decode cX10_nights 10 = .ok (.invokestatic 79, 3) := by decide +kernel
theorem dX10_nights_13 : decode cX10_nights 13 = .ok (.ifCond .eq 29, 3) := by decide +kernel
theorem dX10_nights_42 : decode cX10_nights 42 = .ok (.iconst 0, 1) := by decide +kernel
theorem dX10_nights_43 : decode cX10_nights 43 = .ok (.istore 7, 2) := by decide +kernel
theorem dX10_nights_45 : decode cX10_nights 45 = .ok (.aload 6, 2) := by decide +kernel
theorem dX10_nights_47 : decode cX10_nights 47 = .ok (.ifnull 33, 3) := by decide +kernel
theorem dX10_nights_80 : decode cX10_nights 80 = .ok (.iconst (-1), 1) := by decide +kernel
theorem dX10_nights_81 : decode cX10_nights 81 = .ok (.ireturn, 1) := by decide +kernel
theorem dX10_nights_16 : decode cX10_nights 16 = .ok (.iload 4, 2) := by decide +kernel
theorem dX10_nights_18 : decode cX10_nights 18 = .ok (.iconst 1, 1) := by decide +kernel
theorem dX10_nights_19 : decode cX10_nights 19 = .ok (.if_icmp .lt 23, 3) := by decide +kernel
theorem dX10_nights_22 : decode cX10_nights 22 = .ok (.iload 4, 2) := by decide +kernel
theorem dX10_nights_24 : decode cX10_nights 24 = .ok (.bipush 20, 2) := by decide +kernel
theorem dX10_nights_26 : decode cX10_nights 26 = .ok (.if_icmp .gt 16, 3) := by decide +kernel
theorem dX10_nights_29 : decode cX10_nights 29 = .ok (.iload 5, 2) := by decide +kernel
theorem dX10_nights_31 : decode cX10_nights 31 = .ok (.iconst 2, 1) := by decide +kernel
theorem dX10_nights_32 : decode cX10_nights 32 = .ok (.invokestatic 79, 3) := by decide +kernel
theorem dX10_nights_35 : decode cX10_nights 35 = .ok (.ifCond .eq 7, 3) := by decide +kernel
theorem dX10_nights_38 : decode cX10_nights 38 = .ok (.iconst 1, 1) := by decide +kernel
theorem dX10_nights_39 : decode cX10_nights 39 = .ok (.goto 4, 3) := by decide +kernel
theorem dX10_price_0 : decode cX10_price 0 = .ok (.aload_n 0, 1) := by decide +kernel
theorem dX10_price_1 : decode cX10_price 1 = .ok (.iload_n 1, 1) := by decide +kernel
theorem dX10_price_2 : decode cX10_price 2 = .ok (.invokevirtual 161, 3) := by decide +kernel
theorem dX10_price_5 : decode cX10_price 5 = .ok (.astore 7, 2) := by decide +kernel
theorem dX10_price_7 : decode cX10_price 7 = .ok (.aload 7, 2) := by decide +kernel
theorem dX10_price_9 : decode cX10_price 9 = .ok (.ifnull 39, 3) := by decide +kernel
theorem dX10_price_48 : decode cX10_price 48 = .ok (.iconst (-1), 1) := by decide +kernel
theorem dX10_price_49 : decode cX10_price 49 = .ok (.ireturn, 1) := by decide +kernel
theorem dX10_ahead_0 : decode cX10_ahead 0 = .ok (.aload_n 0, 1) := by decide +kernel
theorem dX10_ahead_1 : decode cX10_ahead 1 = .ok (.iload_n 1, 1) := by decide +kernel
theorem dX10_ahead_2 : decode cX10_ahead 2 = .ok (.invokevirtual 161, 3) := by decide +kernel
theorem dX10_ahead_5 : decode cX10_ahead 5 = .ok (.astore 4, 2) := by decide +kernel
theorem dX10_ahead_7 : decode cX10_ahead 7 = .ok (.aload 4, 2) := by decide +kernel
theorem dX10_ahead_9 : decode cX10_ahead 9 = .ok (.ifnull 21, 3) := by decide +kernel
theorem dX10_ahead_30 : decode cX10_ahead 30 = .ok (.iconst (-1), 1) := by decide +kernel
theorem dX10_ahead_31 : decode cX10_ahead 31 = .ok (.ireturn, 1) := by decide +kernel
theorem dX10_count_0 : decode cX10_count 0 = .ok (.iload_n 1, 1) := by decide +kernel
theorem dX10_count_1 : decode cX10_count 1 = .ok (.tableswitch 181 0 10 #[59, 70, 81, 92, 97, 105, 120, 131, 142, 168, 176], 59) := by decide +kernel
theorem dX10_count_182 : decode cX10_count 182 = .ok (.iconst (-1), 1) := by decide +kernel
theorem dX10_count_183 : decode cX10_count 183 = .ok (.ireturn, 1) := by decide +kernel
theorem dX10_count_60 : decode cX10_count 60 = .ok (.aload_n 0, 1) := by decide +kernel
theorem dX10_count_61 : decode cX10_count 61 = .ok (.getfield 10, 3) := by decide +kernel
theorem dX10_count_64 : decode cX10_count 64 = .ok (.getfield 83, 3) := by decide +kernel
theorem dX10_count_67 : decode cX10_count 67 = .ok (.getfield 188, 3) := by decide +kernel
theorem dX10_count_70 : decode cX10_count 70 = .ok (.ireturn, 1) := by decide +kernel
theorem dX10_count_71 : decode cX10_count 71 = .ok (.aload_n 0, 1) := by decide +kernel
theorem dX10_count_72 : decode cX10_count 72 = .ok (.getfield 10, 3) := by decide +kernel
theorem dX10_count_75 : decode cX10_count 75 = .ok (.getfield 101, 3) := by decide +kernel
theorem dX10_count_78 : decode cX10_count 78 = .ok (.getfield 188, 3) := by decide +kernel
theorem dX10_count_81 : decode cX10_count 81 = .ok (.ireturn, 1) := by decide +kernel
theorem dX10_count_82 : decode cX10_count 82 = .ok (.aload_n 0, 1) := by decide +kernel
theorem dX10_count_83 : decode cX10_count 83 = .ok (.getfield 10, 3) := by decide +kernel
theorem dX10_count_86 : decode cX10_count 86 = .ok (.getfield 107, 3) := by decide +kernel
theorem dX10_count_89 : decode cX10_count 89 = .ok (.getfield 188, 3) := by decide +kernel
theorem dX10_count_92 : decode cX10_count 92 = .ok (.ireturn, 1) := by decide +kernel
theorem dX10_count_93 : decode cX10_count 93 = .ok (.aload_n 0, 1) := by decide +kernel
theorem dX10_count_94 : decode cX10_count 94 = .ok (.getfield 128, 3) := by decide +kernel
theorem dX10_count_97 : decode cX10_count 97 = .ok (.ireturn, 1) := by decide +kernel
theorem dX10_count_98 : decode cX10_count 98 = .ok (.aload_n 0, 1) := by decide +kernel
theorem dX10_count_99 : decode cX10_count 99 = .ok (.getfield 10, 3) := by decide +kernel
theorem dX10_count_102 : decode cX10_count 102 = .ok (.getfield 141, 3) := by decide +kernel
theorem dX10_count_105 : decode cX10_count 105 = .ok (.ireturn, 1) := by decide +kernel
theorem dX10_count_106 : decode cX10_count 106 = .ok (.aload_n 0, 1) := by decide +kernel
theorem dX10_count_107 : decode cX10_count 107 = .ok (.getfield 10, 3) := by decide +kernel
theorem dX10_count_110 : decode cX10_count 110 = .ok (.aload_n 0, 1) := by decide +kernel
theorem dX10_count_111 : decode cX10_count 111 = .ok (.getfield 10, 3) := by decide +kernel
theorem dX10_count_114 : decode cX10_count 114 = .ok (.getfield 141, 3) := by decide +kernel
theorem dX10_count_117 : decode cX10_count 117 = .ok (.invokevirtual 144, 3) := by decide +kernel
theorem dX10_count_120 : decode cX10_count 120 = .ok (.ireturn, 1) := by decide +kernel
theorem dX10_count_121 : decode cX10_count 121 = .ok (.aload_n 0, 1) := by decide +kernel
theorem dX10_count_122 : decode cX10_count 122 = .ok (.getfield 10, 3) := by decide +kernel
theorem dX10_count_125 : decode cX10_count 125 = .ok (.getfield 263, 3) := by decide +kernel
theorem dX10_count_128 : decode cX10_count 128 = .ok (.getfield 188, 3) := by decide +kernel
theorem dX10_count_131 : decode cX10_count 131 = .ok (.ireturn, 1) := by decide +kernel
theorem dX10_count_132 : decode cX10_count 132 = .ok (.aload_n 0, 1) := by decide +kernel
theorem dX10_count_133 : decode cX10_count 133 = .ok (.getfield 10, 3) := by decide +kernel
theorem dX10_count_136 : decode cX10_count 136 = .ok (.getfield 285, 3) := by decide +kernel
theorem dX10_count_139 : decode cX10_count 139 = .ok (.getfield 188, 3) := by decide +kernel
theorem dX10_count_142 : decode cX10_count 142 = .ok (.ireturn, 1) := by decide +kernel
theorem dX10_count_143 : decode cX10_count 143 = .ok (.aload_n 0, 1) := by decide +kernel
theorem dX10_count_144 : decode cX10_count 144 = .ok (.getfield 10, 3) := by decide +kernel
theorem dX10_count_147 : decode cX10_count 147 = .ok (.getfield 176, 3) := by decide +kernel
theorem dX10_count_150 : decode cX10_count 150 = .ok (.iconst (-1), 1) := by decide +kernel
theorem dX10_count_151 : decode cX10_count 151 = .ok (.if_icmp .ne 7, 3) := by decide +kernel
theorem dX10_count_154 : decode cX10_count 154 = .ok (.iconst (-1), 1) := by decide +kernel
theorem dX10_count_155 : decode cX10_count 155 = .ok (.goto 13, 3) := by decide +kernel
theorem dX10_count_168 : decode cX10_count 168 = .ok (.ireturn, 1) := by decide +kernel
theorem dX10_count_169 : decode cX10_count 169 = .ok (.aload_n 0, 1) := by decide +kernel
theorem dX10_count_170 : decode cX10_count 170 = .ok (.getfield 10, 3) := by decide +kernel
theorem dX10_count_173 : decode cX10_count 173 = .ok (.getfield 118, 3) := by decide +kernel
theorem dX10_count_176 : decode cX10_count 176 = .ok (.ireturn, 1) := by decide +kernel
theorem dX10_count_177 : decode cX10_count 177 = .ok (.aload_n 0, 1) := by decide +kernel
theorem dX10_count_178 : decode cX10_count 178 = .ok (.getfield 121, 3) := by decide +kernel
theorem dX10_count_181 : decode cX10_count 181 = .ok (.ireturn, 1) := by decide +kernel
theorem dX10_image_0 : decode cX10_image 0 = .ok (.iload_n 1, 1) := by decide +kernel
theorem dX10_image_1 : decode cX10_image 1 = .ok (.iconst 3, 1) := by decide +kernel
theorem dX10_image_2 : decode cX10_image 2 = .ok (.invokestatic 79, 3) := by decide +kernel
theorem dX10_image_5 : decode cX10_image 5 = .ok (.ifCond .ne 5, 3) := by decide +kernel
theorem dX10_image_10 : decode cX10_image 10 = .ok (.aload_n 0, 1) := by decide +kernel
theorem dX10_image_11 : decode cX10_image 11 = .ok (.getfield 19, 3) := by decide +kernel
theorem dX10_image_14 : decode cX10_image 14 = .ok (.iload_n 1, 1) := by decide +kernel
theorem dX10_image_15 : decode cX10_image 15 = .ok (.aaload, 1) := by decide +kernel
theorem dX10_image_16 : decode cX10_image 16 = .ok (.ifnonnull 16, 3) := by decide +kernel
theorem dX10_image_19 : decode cX10_image 19 = .ok (.aload_n 0, 1) := by decide +kernel
theorem dX10_image_20 : decode cX10_image 20 = .ok (.getfield 19, 3) := by decide +kernel
theorem dX10_image_23 : decode cX10_image 23 = .ok (.iload_n 1, 1) := by decide +kernel
theorem dX10_image_24 : decode cX10_image 24 = .ok (.new 7, 3) := by decide +kernel
theorem dX10_image_27 : decode cX10_image 27 = .ok (.dup, 1) := by decide +kernel
theorem dX10_image_28 : decode cX10_image 28 = .ok (.invokespecial 9, 3) := by decide +kernel
theorem dX10_image_31 : decode cX10_image 31 = .ok (.aastore, 1) := by decide +kernel
theorem dX10_image_32 : decode cX10_image 32 = .ok (.aload_n 0, 1) := by decide +kernel
theorem dX10_image_33 : decode cX10_image 33 = .ok (.getfield 19, 3) := by decide +kernel
theorem dX10_image_36 : decode cX10_image 36 = .ok (.iload_n 1, 1) := by decide +kernel
theorem dX10_image_37 : decode cX10_image 37 = .ok (.aaload, 1) := by decide +kernel
theorem dX10_image_38 : decode cX10_image 38 = .ok (.aload_n 0, 1) := by decide +kernel
theorem dX10_image_39 : decode cX10_image 39 = .ok (.getfield 10, 3) := by decide +kernel
theorem dX10_image_42 : decode cX10_image 42 = .ok (.invokevirtual 295, 3) := by decide +kernel
theorem dX10_image_45 : decode cX10_image 45 = .ok (.aload_n 0, 1) := by decide +kernel
theorem dX10_image_46 : decode cX10_image 46 = .ok (.getfield 10, 3) := by decide +kernel
theorem dX10_image_49 : decode cX10_image 49 = .ok (.getfield 141, 3) := by decide +kernel
theorem dX10_image_52 : decode cX10_image 52 = .ok (.ireturn, 1) := by decide +kernel
theorem dX10_image_8 : decode cX10_image 8 = .ok (.iconst (-1), 1) := by decide +kernel
theorem dX10_image_9 : decode cX10_image 9 = .ok (.ireturn, 1) := by decide +kernel
theorem dX10_back_0 : decode cX10_back 0 = .ok (.iload_n 1, 1) := by decide +kernel
theorem dX10_back_1 : decode cX10_back 1 = .ok (.iconst 3, 1) := by decide +kernel
theorem dX10_back_2 : decode cX10_back 2 = .ok (.invokestatic 79, 3) := by decide +kernel
theorem dX10_back_5 : decode cX10_back 5 = .ok (.ifCond .eq 12, 3) := by decide +kernel
theorem dX10_back_17 : decode cX10_back 17 = .ok (.iconst (-1), 1) := by decide +kernel
theorem dX10_back_18 : decode cX10_back 18 = .ok (.ireturn, 1) := by decide +kernel
theorem dX10_back_8 : decode cX10_back 8 = .ok (.aload_n 0, 1) := by decide +kernel
theorem dX10_back_9 : decode cX10_back 9 = .ok (.getfield 19, 3) := by decide +kernel
theorem dX10_back_12 : decode cX10_back 12 = .ok (.iload_n 1, 1) := by decide +kernel
theorem dX10_back_13 : decode cX10_back 13 = .ok (.aaload, 1) := by decide +kernel
theorem dX10_back_14 : decode cX10_back 14 = .ok (.ifnonnull 5, 3) := by decide +kernel
