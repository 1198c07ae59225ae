theorem fsX4 : ∀ j, j < 4 → defaultValue (tyX4 j) = vp_V [.null, .int 0, .int 0, .int 0] j := by decide +kernel
theorem fsX2 : ∀ j, j < 8 → defaultValue (tyX2 j) = vp_V [.null, .null, .int 0, .int 0, .int 0, .int 0, .int 0, .null] j := by decide +kernel
theorem fsX0 : ∀ j, j < 1 → defaultValue (tyX0 j) = vp_V [.null] j := by decide +kernel
theorem fsX7 : ∀ j, j < 9 → defaultValue (tyX7 j) = vp_V [.int 0, .int 0, .int 0, .int 0, .int 0, .int 0, .null, .null, .null] j := by decide +kernel
theorem fsX5 : ∀ j, j < 13 → defaultValue (tyX5 j) = vp_V [.int 0, .int 0, .int 0, .int 0, .int 0, .int 0, .int 0, .int 0, .null, .null, .null, .null, .null] j := by decide +kernel
theorem fsX8 : ∀ j, j < 7 → defaultValue (tyX8 j) = vp_V [.int 0, .int 0, .null, .null, .null, .null, .null] j := by decide +kernel
theorem fsX3 : ∀ j, j < 4 → defaultValue (tyX3 j) = vp_V [.int 0, .null, .null, .null] j := by decide +kernel
theorem kX2_init_1 {a : Array Value} {s : State} (hts : ∀ w ∈ wsX2_init, w.before a s = true) : (.methodLink RX2 7 objectInit : Cond).before a s = true := kw (A := ixX2_init) wt71 hts (by decide +kernel)
theorem kX2_init_2 {a : Array Value} {s : State} (hts : ∀ w ∈ wsX2_init, w.before a s = true) : (.instanceMethod objectInit : Cond).before a s = true := kw (A := ixX2_init) wt10 hts (by decide +kernel)
theorem kX2_init_3 {a : Array Value} {s : State} (hts : ∀ w ∈ wsX2_init, w.before a s = true) : (.code objectInit ⟨#[0xb1]⟩ 1 none : Cond).before a s = true := kw (A := ixX2_init) wt11 hts (by decide +kernel)
theorem kX2_init_4 {a : Array Value} {s : State} (hts : ∀ w ∈ wsX2_init, w.before a s = true) : (.arrayClass .int : Cond).before a s = true := kw (A := ixX2_init) wt18 hts (by decide +kernel)
theorem kX2_init_5 {a : Array Value} {s : State} (hts : ∀ w ∈ wsX2_init, w.before a s = true) : (.fieldLink RX2 13 "SnowMules$LawReader" "tokens" "[I" : Cond).before a s = true := kw (A := ixX2_init) wt72 hts (by decide +kernel)
theorem kX2_init_6 {a : Array Value} {s : State} (hts : ∀ w ∈ wsX2_init, w.before a s = true) : (.fieldLink RX2 17 "SnowMules$LawReader" "places" "[I" : Cond).before a s = true := kw (A := ixX2_init) wt73 hts (by decide +kernel)
theorem kX2_init_7 {a : Array Value} {s : State} (hts : ∀ w ∈ wsX2_init, w.before a s = true) : (.classLink RX2 20 RX1 : Cond).before a s = true := kw (A := ixX2_init) wt74 hts (by decide +kernel)
theorem kX2_init_8 {a : Array Value} {s : State} (hts : ∀ w ∈ wsX2_init, w.before a s = true) : (.instantiable RX1 17 : Cond).before a s = true := kw (A := ixX2_init) wt75 hts (by decide +kernel)
theorem kX2_init_9 {a : Array Value} {s : State} (hts : ∀ w ∈ wsX2_init, w.before a s = true) : (.initialized RX1 : Cond).before a s = true := kw (A := ixX2_init) wt76 hts (by decide +kernel)
theorem kX2_init_11 {a : Array Value} {s : State} (hts : ∀ w ∈ wsX2_init, w.before a s = true) : (.instanceMethod yX1_init : Cond).before a s = true := kw (A := ixX2_init) wt78 hts (by decide +kernel)
theorem kX2_init_10 {a : Array Value} {s : State} (hts : ∀ w ∈ wsX2_init, w.before a s = true) : (.fieldLink RX2 23 "SnowMules$LawReader" "law" "LSnowMules$Law;" : Cond).before a s = true := kw (A := ixX2_init) wt77 hts (by decide +kernel)
theorem kX4_init_1 {a : Array Value} {s : State} (hts : ∀ w ∈ wsX4_init, w.before a s = true) : (.methodLink RX4 3 objectInit : Cond).before a s = true := kw (A := ixX4_init) wt102 hts (by decide +kernel)
theorem kX4_init_2 {a : Array Value} {s : State} (hts : ∀ w ∈ wsX4_init, w.before a s = true) : (.instanceMethod objectInit : Cond).before a s = true := kw (A := ixX4_init) wt10 hts (by decide +kernel)
theorem kX4_init_3 {a : Array Value} {s : State} (hts : ∀ w ∈ wsX4_init, w.before a s = true) : (.code objectInit ⟨#[0xb1]⟩ 1 none : Cond).before a s = true := kw (A := ixX4_init) wt11 hts (by decide +kernel)
theorem kX4_init_4 {a : Array Value} {s : State} (hts : ∀ w ∈ wsX4_init, w.before a s = true) : (.arrayClass .int : Cond).before a s = true := kw (A := ixX4_init) wt18 hts (by decide +kernel)
theorem kX4_init_5 {a : Array Value} {s : State} (hts : ∀ w ∈ wsX4_init, w.before a s = true) : (.fieldLink RX4 11 "SnowMules$Scene" "words" "[I" : Cond).before a s = true := kw (A := ixX4_init) wt103 hts (by decide +kernel)
theorem kX0_init_1 {a : Array Value} {s : State} (hts : ∀ w ∈ wsX0_init, w.before a s = true) : (.methodLink RX0 3 objectInit : Cond).before a s = true := kw (A := ixX0_init) wt95 hts (by decide +kernel)
theorem kX0_init_2 {a : Array Value} {s : State} (hts : ∀ w ∈ wsX0_init, w.before a s = true) : (.instanceMethod objectInit : Cond).before a s = true := kw (A := ixX0_init) wt10 hts (by decide +kernel)
theorem kX0_init_3 {a : Array Value} {s : State} (hts : ∀ w ∈ wsX0_init, w.before a s = true) : (.code objectInit ⟨#[0xb1]⟩ 1 none : Cond).before a s = true := kw (A := ixX0_init) wt11 hts (by decide +kernel)
theorem kX0_init_4 {a : Array Value} {s : State} (hts : ∀ w ∈ wsX0_init, w.before a s = true) : (.classLink RX0 9 RX4 : Cond).before a s = true := kw (A := ixX0_init) wt96 hts (by decide +kernel)
theorem kX0_init_5 {a : Array Value} {s : State} (hts : ∀ w ∈ wsX0_init, w.before a s = true) : (.instantiable RX4 4 : Cond).before a s = true := kw (A := ixX0_init) wt97 hts (by decide +kernel)
theorem kX0_init_6 {a : Array Value} {s : State} (hts : ∀ w ∈ wsX0_init, w.before a s = true) : (.initialized RX4 : Cond).before a s = true := kw (A := ixX0_init) wt98 hts (by decide +kernel)
theorem kX0_init_8 {a : Array Value} {s : State} (hts : ∀ w ∈ wsX0_init, w.before a s = true) : (.instanceMethod yX4_init : Cond).before a s = true := kw (A := ixX0_init) wt100 hts (by decide +kernel)
theorem kX0_init_7 {a : Array Value} {s : State} (hts : ∀ w ∈ wsX0_init, w.before a s = true) : (.fieldLink RX0 12 "SnowMules$Hours" "scene" "LSnowMules$Scene;" : Cond).before a s = true := kw (A := ixX0_init) wt99 hts (by decide +kernel)
theorem kX7_init_1 {a : Array Value} {s : State} (hts : ∀ w ∈ wsX7_init, w.before a s = true) : (.methodLink RX7 3 objectInit : Cond).before a s = true := kw (A := ixX7_init) wt107 hts (by decide +kernel)
theorem kX7_init_2 {a : Array Value} {s : State} (hts : ∀ w ∈ wsX7_init, w.before a s = true) : (.instanceMethod objectInit : Cond).before a s = true := kw (A := ixX7_init) wt10 hts (by decide +kernel)
theorem kX7_init_3 {a : Array Value} {s : State} (hts : ∀ w ∈ wsX7_init, w.before a s = true) : (.code objectInit ⟨#[0xb1]⟩ 1 none : Cond).before a s = true := kw (A := ixX7_init) wt11 hts (by decide +kernel)
theorem kX7_init_4 {a : Array Value} {s : State} (hts : ∀ w ∈ wsX7_init, w.before a s = true) : (.classLink RX7 9 RX1 : Cond).before a s = true := kw (A := ixX7_init) wt108 hts (by decide +kernel)
theorem kX7_init_5 {a : Array Value} {s : State} (hts : ∀ w ∈ wsX7_init, w.before a s = true) : (.instantiable RX1 17 : Cond).before a s = true := kw (A := ixX7_init) wt75 hts (by decide +kernel)
theorem kX7_init_6 {a : Array Value} {s : State} (hts : ∀ w ∈ wsX7_init, w.before a s = true) : (.initialized RX1 : Cond).before a s = true := kw (A := ixX7_init) wt76 hts (by decide +kernel)
theorem kX7_init_13 {a : Array Value} {s : State} (hts : ∀ w ∈ wsX7_init, w.before a s = true) : (.instanceMethod yX1_init : Cond).before a s = true := kw (A := ixX7_init) wt78 hts (by decide +kernel)
theorem kX7_init_7 {a : Array Value} {s : State} (hts : ∀ w ∈ wsX7_init, w.before a s = true) : (.fieldLink RX7 12 "SnowMules$Trip" "law" "LSnowMules$Law;" : Cond).before a s = true := kw (A := ixX7_init) wt109 hts (by decide +kernel)
theorem kX7_init_8 {a : Array Value} {s : State} (hts : ∀ w ∈ wsX7_init, w.before a s = true) : (.classLink RX7 18 RX4 : Cond).before a s = true := kw (A := ixX7_init) wt110 hts (by decide +kernel)
theorem kX7_init_9 {a : Array Value} {s : State} (hts : ∀ w ∈ wsX7_init, w.before a s = true) : (.instantiable RX4 4 : Cond).before a s = true := kw (A := ixX7_init) wt97 hts (by decide +kernel)
theorem kX7_init_10 {a : Array Value} {s : State} (hts : ∀ w ∈ wsX7_init, w.before a s = true) : (.initialized RX4 : Cond).before a s = true := kw (A := ixX7_init) wt98 hts (by decide +kernel)
theorem kX7_init_29 {a : Array Value} {s : State} (hts : ∀ w ∈ wsX7_init, w.before a s = true) : (.instanceMethod yX4_init : Cond).before a s = true := kw (A := ixX7_init) wt100 hts (by decide +kernel)
theorem kX7_init_11 {a : Array Value} {s : State} (hts : ∀ w ∈ wsX7_init, w.before a s = true) : (.fieldLink RX7 21 "SnowMules$Trip" "scene" "LSnowMules$Scene;" : Cond).before a s = true := kw (A := ixX7_init) wt111 hts (by decide +kernel)
theorem kX7_init_12 {a : Array Value} {s : State} (hts : ∀ w ∈ wsX7_init, w.before a s = true) : (.fieldLink RX7 25 "SnowMules$Trip" "world" "LSnowMules$World;" : Cond).before a s = true := kw (A := ixX7_init) wt112 hts (by decide +kernel)
theorem kX5_init_1 {a : Array Value} {s : State} (hts : ∀ w ∈ wsX5_init, w.before a s = true) : (.methodLink RX5 3 objectInit : Cond).before a s = true := kw (A := ixX5_init) wt116 hts (by decide +kernel)
theorem kX5_init_2 {a : Array Value} {s : State} (hts : ∀ w ∈ wsX5_init, w.before a s = true) : (.instanceMethod objectInit : Cond).before a s = true := kw (A := ixX5_init) wt10 hts (by decide +kernel)
theorem kX5_init_3 {a : Array Value} {s : State} (hts : ∀ w ∈ wsX5_init, w.before a s = true) : (.code objectInit ⟨#[0xb1]⟩ 1 none : Cond).before a s = true := kw (A := ixX5_init) wt11 hts (by decide +kernel)
theorem kX5_init_4 {a : Array Value} {s : State} (hts : ∀ w ∈ wsX5_init, w.before a s = true) : (.arrayClass .int : Cond).before a s = true := kw (A := ixX5_init) wt18 hts (by decide +kernel)
theorem kX5_init_5 {a : Array Value} {s : State} (hts : ∀ w ∈ wsX5_init, w.before a s = true) : (.fieldLink RX5 9 "SnowMules$Search" "far" "[I" : Cond).before a s = true := kw (A := ixX5_init) wt117 hts (by decide +kernel)
theorem kX5_init_6 {a : Array Value} {s : State} (hts : ∀ w ∈ wsX5_init, w.before a s = true) : (.fieldLink RX5 15 "SnowMules$Search" "row" "[I" : Cond).before a s = true := kw (A := ixX5_init) wt118 hts (by decide +kernel)
theorem kX5_init_7 {a : Array Value} {s : State} (hts : ∀ w ∈ wsX5_init, w.before a s = true) : (.fieldLink RX5 18 "SnowMules$Search" "bestRow" "[I" : Cond).before a s = true := kw (A := ixX5_init) wt119 hts (by decide +kernel)
theorem kX5_init_8 {a : Array Value} {s : State} (hts : ∀ w ∈ wsX5_init, w.before a s = true) : (.fieldLink RX5 21 "SnowMules$Search" "world" "LSnowMules$World;" : Cond).before a s = true := kw (A := ixX5_init) wt120 hts (by decide +kernel)
theorem kX5_init_9 {a : Array Value} {s : State} (hts : ∀ w ∈ wsX5_init, w.before a s = true) : (.fieldLink RX5 25 "SnowMules$Search" "trip" "LSnowMules$Trip;" : Cond).before a s = true := kw (A := ixX5_init) wt121 hts (by decide +kernel)
theorem kX8_init_1 {a : Array Value} {s : State} (hts : ∀ w ∈ wsX8_init, w.before a s = true) : (.methodLink RX8 3 objectInit : Cond).before a s = true := kw (A := ixX8_init) wt125 hts (by decide +kernel)
theorem kX8_init_2 {a : Array Value} {s : State} (hts : ∀ w ∈ wsX8_init, w.before a s = true) : (.instanceMethod objectInit : Cond).before a s = true := kw (A := ixX8_init) wt10 hts (by decide +kernel)
theorem kX8_init_3 {a : Array Value} {s : State} (hts : ∀ w ∈ wsX8_init, w.before a s = true) : (.code objectInit ⟨#[0xb1]⟩ 1 none : Cond).before a s = true := kw (A := ixX8_init) wt11 hts (by decide +kernel)
theorem kX8_init_4 {a : Array Value} {s : State} (hts : ∀ w ∈ wsX8_init, w.before a s = true) : (.arrayClass .int : Cond).before a s = true := kw (A := ixX8_init) wt18 hts (by decide +kernel)
theorem kX8_init_5 {a : Array Value} {s : State} (hts : ∀ w ∈ wsX8_init, w.before a s = true) : (.fieldLink RX8 9 "SnowMules$Waits" "waited" "[I" : Cond).before a s = true := kw (A := ixX8_init) wt126 hts (by decide +kernel)
theorem kX8_init_6 {a : Array Value} {s : State} (hts : ∀ w ∈ wsX8_init, w.before a s = true) : (.fieldLink RX8 15 "SnowMules$Waits" "fewest" "[I" : Cond).before a s = true := kw (A := ixX8_init) wt127 hts (by decide +kernel)
theorem kX8_init_7 {a : Array Value} {s : State} (hts : ∀ w ∈ wsX8_init, w.before a s = true) : (.fieldLink RX8 18 "SnowMules$Waits" "most" "[I" : Cond).before a s = true := kw (A := ixX8_init) wt128 hts (by decide +kernel)
theorem kX8_init_8 {a : Array Value} {s : State} (hts : ∀ w ∈ wsX8_init, w.before a s = true) : (.fieldLink RX8 21 "SnowMules$Waits" "world" "LSnowMules$World;" : Cond).before a s = true := kw (A := ixX8_init) wt129 hts (by decide +kernel)
theorem kX8_init_9 {a : Array Value} {s : State} (hts : ∀ w ∈ wsX8_init, w.before a s = true) : (.fieldLink RX8 25 "SnowMules$Waits" "trip" "LSnowMules$Trip;" : Cond).before a s = true := kw (A := ixX8_init) wt130 hts (by decide +kernel)
theorem kX3_init_1 {a : Array Value} {s : State} (hts : ∀ w ∈ wsX3_init, w.before a s = true) : (.methodLink RX3 3 objectInit : Cond).before a s = true := kw (A := ixX3_init) wt134 hts (by decide +kernel)
theorem kX3_init_2 {a : Array Value} {s : State} (hts : ∀ w ∈ wsX3_init, w.before a s = true) : (.instanceMethod objectInit : Cond).before a s = true := kw (A := ixX3_init) wt10 hts (by decide +kernel)
theorem kX3_init_3 {a : Array Value} {s : State} (hts : ∀ w ∈ wsX3_init, w.before a s = true) : (.code objectInit ⟨#[0xb1]⟩ 1 none : Cond).before a s = true := kw (A := ixX3_init) wt11 hts (by decide +kernel)
theorem kX3_init_4 {a : Array Value} {s : State} (hts : ∀ w ∈ wsX3_init, w.before a s = true) : (.arrayClass .int : Cond).before a s = true := kw (A := ixX3_init) wt18 hts (by decide +kernel)
theorem kX3_init_5 {a : Array Value} {s : State} (hts : ∀ w ∈ wsX3_init, w.before a s = true) : (.fieldLink RX3 9 "SnowMules$Market" "offers" "[I" : Cond).before a s = true := kw (A := ixX3_init) wt135 hts (by decide +kernel)
theorem kX3_init_6 {a : Array Value} {s : State} (hts : ∀ w ∈ wsX3_init, w.before a s = true) : (.fieldLink RX3 15 "SnowMules$Market" "chosen" "[I" : Cond).before a s = true := kw (A := ixX3_init) wt136 hts (by decide +kernel)
theorem kX3_init_7 {a : Array Value} {s : State} (hts : ∀ w ∈ wsX3_init, w.before a s = true) : (.fieldLink RX3 18 "SnowMules$Market" "world" "LSnowMules$World;" : Cond).before a s = true := kw (A := ixX3_init) wt137 hts (by decide +kernel)
theorem kX10_init_1 {a : Array Value} {s : State} (hts : ∀ w ∈ wsX10_init, w.before a s = true) : (.methodLink RX10 1 objectInit : Cond).before a s = true := kw (A := ixX10_init) wt9 hts (by decide +kernel)
theorem kX10_init_2 {a : Array Value} {s : State} (hts : ∀ w ∈ wsX10_init, w.before a s = true) : (.instanceMethod objectInit : Cond).before a s = true := kw (A := ixX10_init) wt10 hts (by decide +kernel)
theorem kX10_init_3 {a : Array Value} {s : State} (hts : ∀ w ∈ wsX10_init, w.before a s = true) : (.code objectInit ⟨#[0xb1]⟩ 1 none : Cond).before a s = true := kw (A := ixX10_init) wt11 hts (by decide +kernel)
theorem kX10_init_4 {a : Array Value} {s : State} (hts : ∀ w ∈ wsX10_init, w.before a s = true) : (.classLink RX10 7 RX9 : Cond).before a s = true := kw (A := ixX10_init) wt12 hts (by decide +kernel)
theorem kX10_init_5 {a : Array Value} {s : State} (hts : ∀ w ∈ wsX10_init, w.before a s = true) : (.instantiable RX9 10 : Cond).before a s = true := kw (A := ixX10_init) wt13 hts (by decide +kernel)
theorem kX10_init_6 {a : Array Value} {s : State} (hts : ∀ w ∈ wsX10_init, w.before a s = true) : (.initialized RX9 : Cond).before a s = true := kw (A := ixX10_init) wt14 hts (by decide +kernel)
theorem kX10_init_38 {a : Array Value} {s : State} (hts : ∀ w ∈ wsX10_init, w.before a s = true) : (.instanceMethod yX9_init : Cond).before a s = true := kw (A := ixX10_init) wt46 hts (by decide +kernel)
theorem kX10_init_7 {a : Array Value} {s : State} (hts : ∀ w ∈ wsX10_init, w.before a s = true) : (.fieldLink RX10 10 "SnowMules" "world" "LSnowMules$World;" : Cond).before a s = true := kw (A := ixX10_init) wt15 hts (by decide +kernel)
theorem kX10_init_8 {a : Array Value} {s : State} (hts : ∀ w ∈ wsX10_init, w.before a s = true) : (.fieldLink RX10 16 "SnowMules" "later" "LSnowMules$World;" : Cond).before a s = true := kw (A := ixX10_init) wt16 hts (by decide +kernel)
theorem kX10_init_9 {a : Array Value} {s : State} (hts : ∀ w ∈ wsX10_init, w.before a s = true) : (.fieldLink RX10 19 "SnowMules" "images" "[LSnowMules$World;" : Cond).before a s = true := kw (A := ixX10_init) wt17 hts (by decide +kernel)
theorem kX10_init_10 {a : Array Value} {s : State} (hts : ∀ w ∈ wsX10_init, w.before a s = true) : (.arrayClass .int : Cond).before a s = true := kw (A := ixX10_init) wt18 hts (by decide +kernel)
theorem kX10_init_11 {a : Array Value} {s : State} (hts : ∀ w ∈ wsX10_init, w.before a s = true) : (.fieldLink RX10 23 "SnowMules" "tape" "[I" : Cond).before a s = true := kw (A := ixX10_init) wt19 hts (by decide +kernel)
theorem kX10_init_12 {a : Array Value} {s : State} (hts : ∀ w ∈ wsX10_init, w.before a s = true) : (.classLink RX10 27 RX1 : Cond).before a s = true := kw (A := ixX10_init) wt20 hts (by decide +kernel)
theorem kX10_init_13 {a : Array Value} {s : State} (hts : ∀ w ∈ wsX10_init, w.before a s = true) : (.fieldLink RX10 29 "SnowMules" "laws" "[LSnowMules$Law;" : Cond).before a s = true := kw (A := ixX10_init) wt21 hts (by decide +kernel)
theorem kX10_init_14 {a : Array Value} {s : State} (hts : ∀ w ∈ wsX10_init, w.before a s = true) : (.classLink RX10 33 RX2 : Cond).before a s = true := kw (A := ixX10_init) wt22 hts (by decide +kernel)
theorem kX10_init_15 {a : Array Value} {s : State} (hts : ∀ w ∈ wsX10_init, w.before a s = true) : (.instantiable RX2 8 : Cond).before a s = true := kw (A := ixX10_init) wt23 hts (by decide +kernel)
theorem kX10_init_16 {a : Array Value} {s : State} (hts : ∀ w ∈ wsX10_init, w.before a s = true) : (.initialized RX2 : Cond).before a s = true := kw (A := ixX10_init) wt24 hts (by decide +kernel)
theorem kX10_init_61 {a : Array Value} {s : State} (hts : ∀ w ∈ wsX10_init, w.before a s = true) : (.instanceMethod yX2_init : Cond).before a s = true := kw (A := ixX10_init) wt69 hts (by decide +kernel)
theorem kX10_init_17 {a : Array Value} {s : State} (hts : ∀ w ∈ wsX10_init, w.before a s = true) : (.fieldLink RX10 36 "SnowMules" "reader" "LSnowMules$LawReader;" : Cond).before a s = true := kw (A := ixX10_init) wt25 hts (by decide +kernel)
theorem kX10_init_18 {a : Array Value} {s : State} (hts : ∀ w ∈ wsX10_init, w.before a s = true) : (.classLink RX10 40 RX0 : Cond).before a s = true := kw (A := ixX10_init) wt26 hts (by decide +kernel)
theorem kX10_init_19 {a : Array Value} {s : State} (hts : ∀ w ∈ wsX10_init, w.before a s = true) : (.instantiable RX0 1 : Cond).before a s = true := kw (A := ixX10_init) wt27 hts (by decide +kernel)
theorem kX10_init_20 {a : Array Value} {s : State} (hts : ∀ w ∈ wsX10_init, w.before a s = true) : (.initialized RX0 : Cond).before a s = true := kw (A := ixX10_init) wt28 hts (by decide +kernel)
theorem kX10_init_85 {a : Array Value} {s : State} (hts : ∀ w ∈ wsX10_init, w.before a s = true) : (.instanceMethod yX0_init : Cond).before a s = true := kw (A := ixX10_init) wt93 hts (by decide +kernel)
theorem kX10_init_21 {a : Array Value} {s : State} (hts : ∀ w ∈ wsX10_init, w.before a s = true) : (.fieldLink RX10 43 "SnowMules" "hours" "LSnowMules$Hours;" : Cond).before a s = true := kw (A := ixX10_init) wt29 hts (by decide +kernel)
theorem kX10_init_22 {a : Array Value} {s : State} (hts : ∀ w ∈ wsX10_init, w.before a s = true) : (.classLink RX10 47 RX7 : Cond).before a s = true := kw (A := ixX10_init) wt30 hts (by decide +kernel)
theorem kX10_init_23 {a : Array Value} {s : State} (hts : ∀ w ∈ wsX10_init, w.before a s = true) : (.instantiable RX7 9 : Cond).before a s = true := kw (A := ixX10_init) wt31 hts (by decide +kernel)
theorem kX10_init_24 {a : Array Value} {s : State} (hts : ∀ w ∈ wsX10_init, w.before a s = true) : (.initialized RX7 : Cond).before a s = true := kw (A := ixX10_init) wt32 hts (by decide +kernel)
theorem kX10_init_96 {a : Array Value} {s : State} (hts : ∀ w ∈ wsX10_init, w.before a s = true) : (.methodLink RX10 49 yX7_init : Cond).before a s = true := kw (A := ixX10_init) wt104 hts (by decide +kernel)
theorem kX10_init_97 {a : Array Value} {s : State} (hts : ∀ w ∈ wsX10_init, w.before a s = true) : (.instanceMethod yX7_init : Cond).before a s = true := kw (A := ixX10_init) wt105 hts (by decide +kernel)
theorem kX10_init_25 {a : Array Value} {s : State} (hts : ∀ w ∈ wsX10_init, w.before a s = true) : (.fieldLink RX10 52 "SnowMules" "trip" "LSnowMules$Trip;" : Cond).before a s = true := kw (A := ixX10_init) wt33 hts (by decide +kernel)
theorem kX10_init_26 {a : Array Value} {s : State} (hts : ∀ w ∈ wsX10_init, w.before a s = true) : (.classLink RX10 56 RX5 : Cond).before a s = true := kw (A := ixX10_init) wt34 hts (by decide +kernel)
theorem kX10_init_27 {a : Array Value} {s : State} (hts : ∀ w ∈ wsX10_init, w.before a s = true) : (.instantiable RX5 13 : Cond).before a s = true := kw (A := ixX10_init) wt35 hts (by decide +kernel)
theorem kX10_init_28 {a : Array Value} {s : State} (hts : ∀ w ∈ wsX10_init, w.before a s = true) : (.initialized RX5 : Cond).before a s = true := kw (A := ixX10_init) wt36 hts (by decide +kernel)
theorem kX10_init_105 {a : Array Value} {s : State} (hts : ∀ w ∈ wsX10_init, w.before a s = true) : (.methodLink RX10 58 yX5_init : Cond).before a s = true := kw (A := ixX10_init) wt113 hts (by decide +kernel)
theorem kX10_init_106 {a : Array Value} {s : State} (hts : ∀ w ∈ wsX10_init, w.before a s = true) : (.instanceMethod yX5_init : Cond).before a s = true := kw (A := ixX10_init) wt114 hts (by decide +kernel)
theorem kX10_init_29 {a : Array Value} {s : State} (hts : ∀ w ∈ wsX10_init, w.before a s = true) : (.fieldLink RX10 61 "SnowMules" "search" "LSnowMules$Search;" : Cond).before a s = true := kw (A := ixX10_init) wt37 hts (by decide +kernel)
theorem kX10_init_30 {a : Array Value} {s : State} (hts : ∀ w ∈ wsX10_init, w.before a s = true) : (.classLink RX10 65 RX8 : Cond).before a s = true := kw (A := ixX10_init) wt38 hts (by decide +kernel)
theorem kX10_init_31 {a : Array Value} {s : State} (hts : ∀ w ∈ wsX10_init, w.before a s = true) : (.instantiable RX8 7 : Cond).before a s = true := kw (A := ixX10_init) wt39 hts (by decide +kernel)
theorem kX10_init_32 {a : Array Value} {s : State} (hts : ∀ w ∈ wsX10_init, w.before a s = true) : (.initialized RX8 : Cond).before a s = true := kw (A := ixX10_init) wt40 hts (by decide +kernel)
theorem kX10_init_114 {a : Array Value} {s : State} (hts : ∀ w ∈ wsX10_init, w.before a s = true) : (.methodLink RX10 67 yX8_init : Cond).before a s = true := kw (A := ixX10_init) wt122 hts (by decide +kernel)
theorem kX10_init_115 {a : Array Value} {s : State} (hts : ∀ w ∈ wsX10_init, w.before a s = true) : (.instanceMethod yX8_init : Cond).before a s = true := kw (A := ixX10_init) wt123 hts (by decide +kernel)
theorem kX10_init_33 {a : Array Value} {s : State} (hts : ∀ w ∈ wsX10_init, w.before a s = true) : (.fieldLink RX10 68 "SnowMules" "waits" "LSnowMules$Waits;" : Cond).before a s = true := kw (A := ixX10_init) wt41 hts (by decide +kernel)
theorem kX10_init_34 {a : Array Value} {s : State} (hts : ∀ w ∈ wsX10_init, w.before a s = true) : (.classLink RX10 72 RX3 : Cond).before a s = true := kw (A := ixX10_init) wt42 hts (by decide +kernel)
theorem kX10_init_35 {a : Array Value} {s : State} (hts : ∀ w ∈ wsX10_init, w.before a s = true) : (.instantiable RX3 4 : Cond).before a s = true := kw (A := ixX10_init) wt43 hts (by decide +kernel)
theorem kX10_init_36 {a : Array Value} {s : State} (hts : ∀ w ∈ wsX10_init, w.before a s = true) : (.initialized RX3 : Cond).before a s = true := kw (A := ixX10_init) wt44 hts (by decide +kernel)
theorem kX10_init_123 {a : Array Value} {s : State} (hts : ∀ w ∈ wsX10_init, w.before a s = true) : (.methodLink RX10 74 yX3_init : Cond).before a s = true := kw (A := ixX10_init) wt131 hts (by decide +kernel)
theorem kX10_init_124 {a : Array Value} {s : State} (hts : ∀ w ∈ wsX10_init, w.before a s = true) : (.instanceMethod yX3_init : Cond).before a s = true := kw (A := ixX10_init) wt132 hts (by decide +kernel)
theorem kX10_init_37 {a : Array Value} {s : State} (hts : ∀ w ∈ wsX10_init, w.before a s = true) : (.fieldLink RX10 75 "SnowMules" "market" "LSnowMules$Market;" : Cond).before a s = true := kw (A := ixX10_init) wt45 hts (by decide +kernel)
theorem kX11_init_1 {a : Array Value} {s : State} (hts : ∀ w ∈ wsX11_init, w.before a s = true) : (.methodLink RX11 1 objectInit : Cond).before a s = true := kw (A := ixX11_init) wt141 hts (by decide +kernel)
theorem kX11_init_2 {a : Array Value} {s : State} (hts : ∀ w ∈ wsX11_init, w.before a s = true) : (.instanceMethod objectInit : Cond).before a s = true := kw (A := ixX11_init) wt10 hts (by decide +kernel)
theorem kX11_init_3 {a : Array Value} {s : State} (hts : ∀ w ∈ wsX11_init, w.before a s = true) : (.code objectInit ⟨#[0xb1]⟩ 1 none : Cond).before a s = true := kw (A := ixX11_init) wt11 hts (by decide +kernel)
theorem kX11_init_4 {a : Array Value} {s : State} (hts : ∀ w ∈ wsX11_init, w.before a s = true) : (.arrayClass .byte : Cond).before a s = true := kw (A := ixX11_init) wt142 hts (by decide +kernel)
theorem kX11_init_5 {a : Array Value} {s : State} (hts : ∀ w ∈ wsX11_init, w.before a s = true) : (.fieldLink RX11 7 "SnowMulesModel" "tape" "[B" : Cond).before a s = true := kw (A := ixX11_init) wt143 hts (by decide +kernel)
theorem kX11_init_6 {a : Array Value} {s : State} (hts : ∀ w ∈ wsX11_init, w.before a s = true) : (.arrayClass .int : Cond).before a s = true := kw (A := ixX11_init) wt18 hts (by decide +kernel)
theorem kX11_init_7 {a : Array Value} {s : State} (hts : ∀ w ∈ wsX11_init, w.before a s = true) : (.fieldLink RX11 13 "SnowMulesModel" "sign" "[I" : Cond).before a s = true := kw (A := ixX11_init) wt144 hts (by decide +kernel)
theorem kX11_init_8 {a : Array Value} {s : State} (hts : ∀ w ∈ wsX11_init, w.before a s = true) : (.fieldLink RX11 17 "SnowMulesModel" "length" "[I" : Cond).before a s = true := kw (A := ixX11_init) wt145 hts (by decide +kernel)
theorem kX11_init_9 {a : Array Value} {s : State} (hts : ∀ w ∈ wsX11_init, w.before a s = true) : (.fieldLink RX11 20 "SnowMulesModel" "clause" "[I" : Cond).before a s = true := kw (A := ixX11_init) wt146 hts (by decide +kernel)
theorem kX11_init_10 {a : Array Value} {s : State} (hts : ∀ w ∈ wsX11_init, w.before a s = true) : (.fieldLink RX11 23 "SnowMulesModel" "clauses" "[I" : Cond).before a s = true := kw (A := ixX11_init) wt147 hts (by decide +kernel)
theorem kX11_init_11 {a : Array Value} {s : State} (hts : ∀ w ∈ wsX11_init, w.before a s = true) : (.fieldLink RX11 26 "SnowMulesModel" "chain" "[I" : Cond).before a s = true := kw (A := ixX11_init) wt148 hts (by decide +kernel)
theorem kX11_init_12 {a : Array Value} {s : State} (hts : ∀ w ∈ wsX11_init, w.before a s = true) : (.fieldLink RX11 29 "SnowMulesModel" "open" "[I" : Cond).before a s = true := kw (A := ixX11_init) wt149 hts (by decide +kernel)
theorem kX11_init_13 {a : Array Value} {s : State} (hts : ∀ w ∈ wsX11_init, w.before a s = true) : (.arrayClass .long : Cond).before a s = true := kw (A := ixX11_init) wt150 hts (by decide +kernel)
theorem kX11_init_14 {a : Array Value} {s : State} (hts : ∀ w ∈ wsX11_init, w.before a s = true) : (.fieldLink RX11 32 "SnowMulesModel" "stack" "[J" : Cond).before a s = true := kw (A := ixX11_init) wt151 hts (by decide +kernel)
theorem kX11_init_15 {a : Array Value} {s : State} (hts : ∀ w ∈ wsX11_init, w.before a s = true) : (.fieldLink RX11 36 "SnowMulesModel" "word" "[J" : Cond).before a s = true := kw (A := ixX11_init) wt152 hts (by decide +kernel)
theorem kX11_init_16 {a : Array Value} {s : State} (hts : ∀ w ∈ wsX11_init, w.before a s = true) : (.fieldLink RX11 39 "SnowMulesModel" "said" "[I" : Cond).before a s = true := kw (A := ixX11_init) wt153 hts (by decide +kernel)
theorem kX11_init_17 {a : Array Value} {s : State} (hts : ∀ w ∈ wsX11_init, w.before a s = true) : (.fieldLink RX11 42 "SnowMulesModel" "kept" "[I" : Cond).before a s = true := kw (A := ixX11_init) wt154 hts (by decide +kernel)
theorem kX11_init_18 {a : Array Value} {s : State} (hts : ∀ w ∈ wsX11_init, w.before a s = true) : (.fieldLink RX11 45 "SnowMulesModel" "stepNode" "[I" : Cond).before a s = true := kw (A := ixX11_init) wt155 hts (by decide +kernel)
theorem kX11_init_19 {a : Array Value} {s : State} (hts : ∀ w ∈ wsX11_init, w.before a s = true) : (.fieldLink RX11 48 "SnowMulesModel" "stepDrops" "[I" : Cond).before a s = true := kw (A := ixX11_init) wt156 hts (by decide +kernel)
theorem kX11_init_20 {a : Array Value} {s : State} (hts : ∀ w ∈ wsX11_init, w.before a s = true) : (.fieldLink RX11 51 "SnowMulesModel" "stepHour" "[I" : Cond).before a s = true := kw (A := ixX11_init) wt157 hts (by decide +kernel)
theorem kX11_init_21 {a : Array Value} {s : State} (hts : ∀ w ∈ wsX11_init, w.before a s = true) : (.fieldLink RX11 54 "SnowMulesModel" "stepNext" "[I" : Cond).before a s = true := kw (A := ixX11_init) wt158 hts (by decide +kernel)
theorem kX11_init_22 {a : Array Value} {s : State} (hts : ∀ w ∈ wsX11_init, w.before a s = true) : (.fieldLink RX11 57 "SnowMulesModel" "stepPass" "[I" : Cond).before a s = true := kw (A := ixX11_init) wt159 hts (by decide +kernel)
theorem kX11_init_23 {a : Array Value} {s : State} (hts : ∀ w ∈ wsX11_init, w.before a s = true) : (.fieldLink RX11 60 "SnowMulesModel" "bestPass" "[I" : Cond).before a s = true := kw (A := ixX11_init) wt160 hts (by decide +kernel)
theorem kX11_init_24 {a : Array Value} {s : State} (hts : ∀ w ∈ wsX11_init, w.before a s = true) : (.fieldLink RX11 63 "SnowMulesModel" "far" "[I" : Cond).before a s = true := kw (A := ixX11_init) wt161 hts (by decide +kernel)
theorem kX11_init_25 {a : Array Value} {s : State} (hts : ∀ w ∈ wsX11_init, w.before a s = true) : (.fieldLink RX11 66 "SnowMulesModel" "waited" "[I" : Cond).before a s = true := kw (A := ixX11_init) wt162 hts (by decide +kernel)
theorem kX11_init_26 {a : Array Value} {s : State} (hts : ∀ w ∈ wsX11_init, w.before a s = true) : (.fieldLink RX11 69 "SnowMulesModel" "servers" "[I" : Cond).before a s = true := kw (A := ixX11_init) wt163 hts (by decide +kernel)
theorem kX11_init_27 {a : Array Value} {s : State} (hts : ∀ w ∈ wsX11_init, w.before a s = true) : (.fieldLink RX11 72 "SnowMulesModel" "images" "[I" : Cond).before a s = true := kw (A := ixX11_init) wt164 hts (by decide +kernel)
theorem kX11_init_28 {a : Array Value} {s : State} (hts : ∀ w ∈ wsX11_init, w.before a s = true) : (.arrayClass .boolean : Cond).before a s = true := kw (A := ixX11_init) wt165 hts (by decide +kernel)
theorem kX11_init_29 {a : Array Value} {s : State} (hts : ∀ w ∈ wsX11_init, w.before a s = true) : (.fieldLink RX11 75 "SnowMulesModel" "isMade" "[Z" : Cond).before a s = true := kw (A := ixX11_init) wt166 hts (by decide +kernel)
theorem iX2_init_X2 : ∀ w ∈ wsX20, w ∈ wsX2_init := inW (A := ixX2_init) uwX2 (by decide +kernel)
theorem iX2_init_X1 : ∀ w ∈ wsX10, w ∈ wsX2_init := inW (A := ixX2_init) uwX1 (by decide +kernel)
theorem iX4_init_X4 : ∀ w ∈ wsX40, w ∈ wsX4_init := inW (A := ixX4_init) uwX4 (by decide +kernel)
theorem iX0_init_X4 : ∀ w ∈ wsX40, w ∈ wsX0_init := inW (A := ixX0_init) uwX4 (by decide +kernel)
theorem iX0_init_X0 : ∀ w ∈ wsX00, w ∈ wsX0_init := inW (A := ixX0_init) uwX0 (by decide +kernel)
theorem iX7_init_X1 : ∀ w ∈ wsX10, w ∈ wsX7_init := inW (A := ixX7_init) uwX1 (by decide +kernel)
theorem iX7_init_X7 : ∀ w ∈ wsX70, w ∈ wsX7_init := inW (A := ixX7_init) uwX7 (by decide +kernel)
theorem iX7_init_X4 : ∀ w ∈ wsX40, w ∈ wsX7_init := inW (A := ixX7_init) uwX4 (by decide +kernel)
theorem iX5_init_X5 : ∀ w ∈ wsX50, w ∈ wsX5_init := inW (A := ixX5_init) uwX5 (by decide +kernel)
theorem iX8_init_X8 : ∀ w ∈ wsX80, w ∈ wsX8_init := inW (A := ixX8_init) uwX8 (by decide +kernel)
theorem iX3_init_X3 : ∀ w ∈ wsX30, w ∈ wsX3_init := inW (A := ixX3_init) uwX3 (by decide +kernel)
theorem iX10_init_X9 : ∀ w ∈ wsX90, w ∈ wsX10_init := inW (A := ixX10_init) uwX9 (by decide +kernel)
theorem iX10_init_X10 : ∀ w ∈ wsX100, w ∈ wsX10_init := inW (A := ixX10_init) uwX10 (by decide +kernel)
theorem iX10_init_X2 : ∀ w ∈ wsX20, w ∈ wsX10_init := inW (A := ixX10_init) uwX2 (by decide +kernel)
theorem iX10_init_X0 : ∀ w ∈ wsX00, w ∈ wsX10_init := inW (A := ixX10_init) uwX0 (by decide +kernel)
theorem iX10_init_X7 : ∀ w ∈ wsX70, w ∈ wsX10_init := inW (A := ixX10_init) uwX7 (by decide +kernel)
theorem iX10_init_X5 : ∀ w ∈ wsX50, w ∈ wsX10_init := inW (A := ixX10_init) uwX5 (by decide +kernel)
theorem iX10_init_X8 : ∀ w ∈ wsX80, w ∈ wsX10_init := inW (A := ixX10_init) uwX8 (by decide +kernel)
theorem iX10_init_X3 : ∀ w ∈ wsX30, w ∈ wsX10_init := inW (A := ixX10_init) uwX3 (by decide +kernel)
theorem iX11_init_X11 : ∀ w ∈ wsX110, w ∈ wsX11_init := inW (A := ixX11_init) uwX11 (by decide +kernel)
theorem hdX4_init : yX4_init.cls ≠ "java/lang/invoke/MethodHandle" ∧ yX4_init.cls ≠ "java/lang/invoke/VarHandle" ∧ (parseMethodDescriptor yX4_init.desc).map (fun d => d.parameters.length) = some 0 := ⟨hdc_4.1, hdc_4.2, hdd_24⟩
theorem hdX2_init : yX2_init.cls ≠ "java/lang/invoke/MethodHandle" ∧ yX2_init.cls ≠ "java/lang/invoke/VarHandle" ∧ (parseMethodDescriptor yX2_init.desc).map (fun d => d.parameters.length) = some 0 := ⟨hdc_12.1, hdc_12.2, hdd_24⟩
theorem hdX0_init : yX0_init.cls ≠ "java/lang/invoke/MethodHandle" ∧ yX0_init.cls ≠ "java/lang/invoke/VarHandle" ∧ (parseMethodDescriptor yX0_init.desc).map (fun d => d.parameters.length) = some 0 := ⟨hdc_5.1, hdc_5.2, hdd_24⟩
theorem hdX7_init : yX7_init.cls ≠ "java/lang/invoke/MethodHandle" ∧ yX7_init.cls ≠ "java/lang/invoke/VarHandle" ∧ (parseMethodDescriptor yX7_init.desc).map (fun d => d.parameters.length) = some 1 := ⟨hdc_7.1, hdc_7.2, hdd_55⟩
theorem hdX5_init : yX5_init.cls ≠ "java/lang/invoke/MethodHandle" ∧ yX5_init.cls ≠ "java/lang/invoke/VarHandle" ∧ (parseMethodDescriptor yX5_init.desc).map (fun d => d.parameters.length) = some 2 := ⟨hdc_8.1, hdc_8.2, hdd_57⟩
theorem hdX8_init : yX8_init.cls ≠ "java/lang/invoke/MethodHandle" ∧ yX8_init.cls ≠ "java/lang/invoke/VarHandle" ∧ (parseMethodDescriptor yX8_init.desc).map (fun d => d.parameters.length) = some 2 := ⟨hdc_11.1, hdc_11.2, hdd_57⟩
theorem hdX3_init : yX3_init.cls ≠ "java/lang/invoke/MethodHandle" ∧ yX3_init.cls ≠ "java/lang/invoke/VarHandle" ∧ (parseMethodDescriptor yX3_init.desc).map (fun d => d.parameters.length) = some 1 := ⟨hdc_10.1, hdc_10.2, hdd_55⟩
def dtX2_init_46_0 : List (Nat × Jvm.ClassFile.Instr × Nat) := [(0, .aload_n 0, 1), (1, .invokespecial 7, 3), (4, .aload_n 0, 1), (5, .sipush 401, 3), (8, .newarray .int, 2), (10, .putfield 13, 3), (13, .aload_n 0, 1), (14, .sipush 401, 3), (17, .newarray .int, 2), (19, .putfield 17, 3), (22, .aload_n 0, 1), (23, .new 20, 3), (26, .dup, 1), (27, .invokespecial 22, 3), (30, .putfield 23, 3), (33, .return_, 1)]
theorem daX2_init_46_0 : dtX2_init_46_0.all (dqd cX2_init) = true := by decide +kernel
theorem dX2_init_0 : decode cX2_init 0 = .ok (.aload_n 0, 1) := dq daX2_init_46_0 0 rfl
theorem dX2_init_1 : decode cX2_init 1 = .ok (.invokespecial 7, 3) := dq daX2_init_46_0 1 rfl
theorem dX2_init_4 : decode cX2_init 4 = .ok (.aload_n 0, 1) := dq daX2_init_46_0 2 rfl
theorem dX2_init_5 : decode cX2_init 5 = .ok (.sipush 401, 3) := dq daX2_init_46_0 3 rfl
theorem dX2_init_8 : decode cX2_init 8 = .ok (.newarray .int, 2) := dq daX2_init_46_0 4 rfl
theorem dX2_init_10 : decode cX2_init 10 = .ok (.putfield 13, 3) := dq daX2_init_46_0 5 rfl
theorem dX2_init_13 : decode cX2_init 13 = .ok (.aload_n 0, 1) := dq daX2_init_46_0 6 rfl
theorem dX2_init_14 : decode cX2_init 14 = .ok (.sipush 401, 3) := dq daX2_init_46_0 7 rfl
theorem dX2_init_17 : decode cX2_init 17 = .ok (.newarray .int, 2) := dq daX2_init_46_0 8 rfl
theorem dX2_init_19 : decode cX2_init 19 = .ok (.putfield 17, 3) := dq daX2_init_46_0 9 rfl
theorem dX2_init_22 : decode cX2_init 22 = .ok (.aload_n 0, 1) := dq daX2_init_46_0 10 rfl
theorem dX2_init_23 : decode cX2_init 23 = .ok (.new 20, 3) := dq daX2_init_46_0 11 rfl
theorem dX2_init_26 : decode cX2_init 26 = .ok (.dup, 1) := dq daX2_init_46_0 12 rfl
theorem dX2_init_27 : decode cX2_init 27 = .ok (.invokespecial 22, 3) := dq daX2_init_46_0 13 rfl
theorem dX2_init_30 : decode cX2_init 30 = .ok (.putfield 23, 3) := dq daX2_init_46_0 14 rfl
theorem dX2_init_33 : decode cX2_init 33 = .ok (.return_, 1) := dq daX2_init_46_0 15 rfl
def dtX4_init_46_0 : List (Nat × Jvm.ClassFile.Instr × Nat) := [(0, .aload_n 0, 1), (1, .invokespecial 3, 3), (4, .aload_n 0, 1), (5, .bipush 11, 2), (7, .newarray .int, 2), (9, .putfield 11, 3), (12, .return_, 1)]
theorem daX4_init_46_0 : dtX4_init_46_0.all (dqd cX4_init) = true := by decide +kernel
theorem dX4_init_0 : decode cX4_init 0 = .ok (.aload_n 0, 1) := dq daX4_init_46_0 0 rfl
theorem dX4_init_1 : decode cX4_init 1 = .ok (.invokespecial 3, 3) := dq daX4_init_46_0 1 rfl
theorem dX4_init_4 : decode cX4_init 4 = .ok (.aload_n 0, 1) := dq daX4_init_46_0 2 rfl
theorem dX4_init_5 : decode cX4_init 5 = .ok (.bipush 11, 2) := dq daX4_init_46_0 3 rfl
theorem dX4_init_7 : decode cX4_init 7 = .ok (.newarray .int, 2) := dq daX4_init_46_0 4 rfl
theorem dX4_init_9 : decode cX4_init 9 = .ok (.putfield 11, 3) := dq daX4_init_46_0 5 rfl
theorem dX4_init_12 : decode cX4_init 12 = .ok (.return_, 1) := dq daX4_init_46_0 6 rfl
def dtX0_init_46_0 : List (Nat × Jvm.ClassFile.Instr × Nat) := [(0, .aload_n 0, 1), (1, .invokespecial 3, 3), (4, .aload_n 0, 1), (5, .new 9, 3), (8, .dup, 1), (9, .invokespecial 11, 3), (12, .putfield 12, 3), (15, .return_, 1)]
theorem daX0_init_46_0 : dtX0_init_46_0.all (dqd cX0_init) = true := by decide +kernel
theorem dX0_init_0 : decode cX0_init 0 = .ok (.aload_n 0, 1) := dq daX0_init_46_0 0 rfl
theorem dX0_init_1 : decode cX0_init 1 = .ok (.invokespecial 3, 3) := dq daX0_init_46_0 1 rfl
theorem dX0_init_4 : decode cX0_init 4 = .ok (.aload_n 0, 1) := dq daX0_init_46_0 2 rfl
theorem dX0_init_5 : decode cX0_init 5 = .ok (.new 9, 3) := dq daX0_init_46_0 3 rfl
theorem dX0_init_8 : decode cX0_init 8 = .ok (.dup, 1) := dq daX0_init_46_0 4 rfl
theorem dX0_init_9 : decode cX0_init 9 = .ok (.invokespecial 11, 3) := dq daX0_init_46_0 5 rfl
theorem dX0_init_12 : decode cX0_init 12 = .ok (.putfield 12, 3) := dq daX0_init_46_0 6 rfl
theorem dX0_init_15 : decode cX0_init 15 = .ok (.return_, 1) := dq daX0_init_46_0 7 rfl
def dtX7_init_46_0 : List (Nat × Jvm.ClassFile.Instr × Nat) := [(0, .aload_n 0, 1), (1, .invokespecial 3, 3), (4, .aload_n 0, 1), (5, .new 9, 3), (8, .dup, 1), (9, .invokespecial 11, 3), (12, .putfield 12, 3), (15, .aload_n 0, 1), (16, .new 18, 3), (19, .dup, 1), (20, .invokespecial 20, 3), (23, .putfield 21, 3), (26, .aload_n 0, 1), (27, .aload_n 1, 1), (28, .putfield 25, 3), (31, .return_, 1)]
theorem daX7_init_46_0 : dtX7_init_46_0.all (dqd cX7_init) = true := by decide +kernel
theorem dX7_init_0 : decode cX7_init 0 = .ok (.aload_n 0, 1) := dq daX7_init_46_0 0 rfl
theorem dX7_init_1 : decode cX7_init 1 = .ok (.invokespecial 3, 3) := dq daX7_init_46_0 1 rfl
theorem dX7_init_4 : decode cX7_init 4 = .ok (.aload_n 0, 1) := dq daX7_init_46_0 2 rfl
theorem dX7_init_5 : decode cX7_init 5 = .ok (.new 9, 3) := dq daX7_init_46_0 3 rfl
theorem dX7_init_8 : decode cX7_init 8 = .ok (.dup, 1) := dq daX7_init_46_0 4 rfl
theorem dX7_init_9 : decode cX7_init 9 = .ok (.invokespecial 11, 3) := dq daX7_init_46_0 5 rfl
theorem dX7_init_12 : decode cX7_init 12 = .ok (.putfield 12, 3) := dq daX7_init_46_0 6 rfl
theorem dX7_init_15 : decode cX7_init 15 = .ok (.aload_n 0, 1) := dq daX7_init_46_0 7 rfl
theorem dX7_init_16 : decode cX7_init 16 = .ok (.new 18, 3) := dq daX7_init_46_0 8 rfl
theorem dX7_init_19 : decode cX7_init 19 = .ok (.dup, 1) := dq daX7_init_46_0 9 rfl
theorem dX7_init_20 : decode cX7_init 20 = .ok (.invokespecial 20, 3) := dq daX7_init_46_0 10 rfl
theorem dX7_init_23 : decode cX7_init 23 = .ok (.putfield 21, 3) := dq daX7_init_46_0 11 rfl
theorem dX7_init_26 : decode cX7_init 26 = .ok (.aload_n 0, 1) := dq daX7_init_46_0 12 rfl
theorem dX7_init_27 : decode cX7_init 27 = .ok (.aload_n 1, 1) := dq daX7_init_46_0 13 rfl
theorem dX7_init_28 : decode cX7_init 28 = .ok (.putfield 25, 3) := dq daX7_init_46_0 14 rfl
theorem dX7_init_31 : decode cX7_init 31 = .ok (.return_, 1) := dq daX7_init_46_0 15 rfl
def dtX5_init_46_0 : List (Nat × Jvm.ClassFile.Instr × Nat) := [(0, .aload_n 0, 1), (1, .invokespecial 3, 3), (4, .aload_n 0, 1), (5, .bipush 12, 2), (7, .newarray .int, 2), (9, .putfield 9, 3), (12, .aload_n 0, 1), (13, .bipush 6, 2), (15, .newarray .int, 2), (17, .putfield 15, 3), (20, .aload_n 0, 1), (21, .bipush 6, 2), (23, .newarray .int, 2), (25, .putfield 18, 3), (28, .aload_n 0, 1), (29, .aload_n 1, 1), (30, .putfield 21, 3), (33, .aload_n 0, 1), (34, .aload_n 2, 1), (35, .putfield 25, 3), (38, .return_, 1)]
theorem daX5_init_46_0 : dtX5_init_46_0.all (dqd cX5_init) = true := by decide +kernel
theorem dX5_init_0 : decode cX5_init 0 = .ok (.aload_n 0, 1) := dq daX5_init_46_0 0 rfl
theorem dX5_init_1 : decode cX5_init 1 = .ok (.invokespecial 3, 3) := dq daX5_init_46_0 1 rfl
theorem dX5_init_4 : decode cX5_init 4 = .ok (.aload_n 0, 1) := dq daX5_init_46_0 2 rfl
theorem dX5_init_5 : decode cX5_init 5 = .ok (.bipush 12, 2) := dq daX5_init_46_0 3 rfl
theorem dX5_init_7 : decode cX5_init 7 = .ok (.newarray .int, 2) := dq daX5_init_46_0 4 rfl
theorem dX5_init_9 : decode cX5_init 9 = .ok (.putfield 9, 3) := dq daX5_init_46_0 5 rfl
theorem dX5_init_12 : decode cX5_init 12 = .ok (.aload_n 0, 1) := dq daX5_init_46_0 6 rfl
theorem dX5_init_13 : decode cX5_init 13 = .ok (.bipush 6, 2) := dq daX5_init_46_0 7 rfl
theorem dX5_init_15 : decode cX5_init 15 = .ok (.newarray .int, 2) := dq daX5_init_46_0 8 rfl
theorem dX5_init_17 : decode cX5_init 17 = .ok (.putfield 15, 3) := dq daX5_init_46_0 9 rfl
theorem dX5_init_20 : decode cX5_init 20 = .ok (.aload_n 0, 1) := dq daX5_init_46_0 10 rfl
theorem dX5_init_21 : decode cX5_init 21 = .ok (.bipush 6, 2) := dq daX5_init_46_0 11 rfl
theorem dX5_init_23 : decode cX5_init 23 = .ok (.newarray .int, 2) := dq daX5_init_46_0 12 rfl
theorem dX5_init_25 : decode cX5_init 25 = .ok (.putfield 18, 3) := dq daX5_init_46_0 13 rfl
theorem dX5_init_28 : decode cX5_init 28 = .ok (.aload_n 0, 1) := dq daX5_init_46_0 14 rfl
theorem dX5_init_29 : decode cX5_init 29 = .ok (.aload_n 1, 1) := dq daX5_init_46_0 15 rfl
theorem dX5_init_30 : decode cX5_init 30 = .ok (.putfield 21, 3) := dq daX5_init_46_0 16 rfl
theorem dX5_init_33 : decode cX5_init 33 = .ok (.aload_n 0, 1) := dq daX5_init_46_0 17 rfl
theorem dX5_init_34 : decode cX5_init 34 = .ok (.aload_n 2, 1) := dq daX5_init_46_0 18 rfl
theorem dX5_init_35 : decode cX5_init 35 = .ok (.putfield 25, 3) := dq daX5_init_46_0 19 rfl
theorem dX5_init_38 : decode cX5_init 38 = .ok (.return_, 1) := dq daX5_init_46_0 20 rfl
def dtX8_init_46_0 : List (Nat × Jvm.ClassFile.Instr × Nat) := [(0, .aload_n 0, 1), (1, .invokespecial 3, 3), (4, .aload_n 0, 1), (5, .bipush 6, 2), (7, .newarray .int, 2), (9, .putfield 9, 3), (12, .aload_n 0, 1), (13, .bipush 6, 2), (15, .newarray .int, 2), (17, .putfield 15, 3), (20, .aload_n 0, 1), (21, .bipush 6, 2), (23, .newarray .int, 2), (25, .putfield 18, 3), (28, .aload_n 0, 1), (29, .aload_n 1, 1), (30, .putfield 21, 3), (33, .aload_n 0, 1), (34, .aload_n 2, 1), (35, .putfield 25, 3), (38, .return_, 1)]
theorem daX8_init_46_0 : dtX8_init_46_0.all (dqd cX8_init) = true := by decide +kernel
theorem dX8_init_0 : decode cX8_init 0 = .ok (.aload_n 0, 1) := dq daX8_init_46_0 0 rfl
theorem dX8_init_1 : decode cX8_init 1 = .ok (.invokespecial 3, 3) := dq daX8_init_46_0 1 rfl
theorem dX8_init_4 : decode cX8_init 4 = .ok (.aload_n 0, 1) := dq daX8_init_46_0 2 rfl
theorem dX8_init_5 : decode cX8_init 5 = .ok (.bipush 6, 2) := dq daX8_init_46_0 3 rfl
theorem dX8_init_7 : decode cX8_init 7 = .ok (.newarray .int, 2) := dq daX8_init_46_0 4 rfl
theorem dX8_init_9 : decode cX8_init 9 = .ok (.putfield 9, 3) := dq daX8_init_46_0 5 rfl
theorem dX8_init_12 : decode cX8_init 12 = .ok (.aload_n 0, 1) := dq daX8_init_46_0 6 rfl
theorem dX8_init_13 : decode cX8_init 13 = .ok (.bipush 6, 2) := dq daX8_init_46_0 7 rfl
theorem dX8_init_15 : decode cX8_init 15 = .ok (.newarray .int, 2) := dq daX8_init_46_0 8 rfl
theorem dX8_init_17 : decode cX8_init 17 = .ok (.putfield 15, 3) := dq daX8_init_46_0 9 rfl
theorem dX8_init_20 : decode cX8_init 20 = .ok (.aload_n 0, 1) := dq daX8_init_46_0 10 rfl
theorem dX8_init_21 : decode cX8_init 21 = .ok (.bipush 6, 2) := dq daX8_init_46_0 11 rfl
theorem dX8_init_23 : decode cX8_init 23 = .ok (.newarray .int, 2) := dq daX8_init_46_0 12 rfl
theorem dX8_init_25 : decode cX8_init 25 = .ok (.putfield 18, 3) := dq daX8_init_46_0 13 rfl
theorem dX8_init_28 : decode cX8_init 28 = .ok (.aload_n 0, 1) := dq daX8_init_46_0 14 rfl
theorem dX8_init_29 : decode cX8_init 29 = .ok (.aload_n 1, 1) := dq daX8_init_46_0 15 rfl
theorem dX8_init_30 : decode cX8_init 30 = .ok (.putfield 21, 3) := dq daX8_init_46_0 16 rfl
theorem dX8_init_33 : decode cX8_init 33 = .ok (.aload_n 0, 1) := dq daX8_init_46_0 17 rfl
theorem dX8_init_34 : decode cX8_init 34 = .ok (.aload_n 2, 1) := dq daX8_init_46_0 18 rfl
theorem dX8_init_35 : decode cX8_init 35 = .ok (.putfield 25, 3) := dq daX8_init_46_0 19 rfl
theorem dX8_init_38 : decode cX8_init 38 = .ok (.return_, 1) := dq daX8_init_46_0 20 rfl
def dtX3_init_46_0 : List (Nat × Jvm.ClassFile.Instr × Nat) := [(0, .aload_n 0, 1), (1, .invokespecial 3, 3), (4, .aload_n 0, 1), (5, .bipush 6, 2), (7, .newarray .int, 2), (9, .putfield 9, 3), (12, .aload_n 0, 1), (13, .bipush 6, 2), (15, .newarray .int, 2), (17, .putfield 15, 3), (20, .aload_n 0, 1), (21, .aload_n 1, 1), (22, .putfield 18, 3), (25, .return_, 1)]
theorem daX3_init_46_0 : dtX3_init_46_0.all (dqd cX3_init) = true := by decide +kernel
theorem dX3_init_0 : decode cX3_init 0 = .ok (.aload_n 0, 1) := dq daX3_init_46_0 0 rfl
theorem dX3_init_1 : decode cX3_init 1 = .ok (.invokespecial 3, 3) := dq daX3_init_46_0 1 rfl
theorem dX3_init_4 : decode cX3_init 4 = .ok (.aload_n 0, 1) := dq daX3_init_46_0 2 rfl
theorem dX3_init_5 : decode cX3_init 5 = .ok (.bipush 6, 2) := dq daX3_init_46_0 3 rfl
theorem dX3_init_7 : decode cX3_init 7 = .ok (.newarray .int, 2) := dq daX3_init_46_0 4 rfl
theorem dX3_init_9 : decode cX3_init 9 = .ok (.putfield 9, 3) := dq daX3_init_46_0 5 rfl
theorem dX3_init_12 : decode cX3_init 12 = .ok (.aload_n 0, 1) := dq daX3_init_46_0 6 rfl
theorem dX3_init_13 : decode cX3_init 13 = .ok (.bipush 6, 2) := dq daX3_init_46_0 7 rfl
theorem dX3_init_15 : decode cX3_init 15 = .ok (.newarray .int, 2) := dq daX3_init_46_0 8 rfl
theorem dX3_init_17 : decode cX3_init 17 = .ok (.putfield 15, 3) := dq daX3_init_46_0 9 rfl
theorem dX3_init_20 : decode cX3_init 20 = .ok (.aload_n 0, 1) := dq daX3_init_46_0 10 rfl
theorem dX3_init_21 : decode cX3_init 21 = .ok (.aload_n 1, 1) := dq daX3_init_46_0 11 rfl
theorem dX3_init_22 : decode cX3_init 22 = .ok (.putfield 18, 3) := dq daX3_init_46_0 12 rfl
theorem dX3_init_25 : decode cX3_init 25 = .ok (.return_, 1) := dq daX3_init_46_0 13 rfl
def dtX10_init_46_0 : List (Nat × Jvm.ClassFile.Instr × Nat) := [(0, .aload_n 0, 1), (1, .invokespecial 1, 3), (4, .aload_n 0, 1), (5, .new 7, 3), (8, .dup, 1), (9, .invokespecial 9, 3), (12, .putfield 10, 3), (15, .aload_n 0, 1), (16, .new 7, 3), (19, .dup, 1), (20, .invokespecial 9, 3), (23, .putfield 16, 3), (26, .aload_n 0, 1), (27, .iconst 4, 1), (28, .anewarray 7, 3), (31, .putfield 19, 3), (34, .aload_n 0, 1), (35, .sipush 400, 3), (38, .newarray .int, 2), (40, .putfield 23, 3), (43, .aload_n 0, 1), (44, .bipush 6, 2), (46, .anewarray 27, 3), (49, .putfield 29, 3), (52, .aload_n 0, 1), (53, .new 33, 3), (56, .dup, 1), (57, .invokespecial 35, 3), (60, .putfield 36, 3), (63, .aload_n 0, 1), (64, .new 40, 3), (67, .dup, 1)]
theorem daX10_init_46_0 : dtX10_init_46_0.all (dqd cX10_init) = true := by decide +kernel
theorem dX10_init_0 : decode cX10_init 0 = .ok (.aload_n 0, 1) := dq daX10_init_46_0 0 rfl
theorem dX10_init_1 : decode cX10_init 1 = .ok (.invokespecial 1, 3) := dq daX10_init_46_0 1 rfl
theorem dX10_init_4 : decode cX10_init 4 = .ok (.aload_n 0, 1) := dq daX10_init_46_0 2 rfl
theorem dX10_init_5 : decode cX10_init 5 = .ok (.new 7, 3) := dq daX10_init_46_0 3 rfl
theorem dX10_init_8 : decode cX10_init 8 = .ok (.dup, 1) := dq daX10_init_46_0 4 rfl
theorem dX10_init_9 : decode cX10_init 9 = .ok (.invokespecial 9, 3) := dq daX10_init_46_0 5 rfl
theorem dX10_init_12 : decode cX10_init 12 = .ok (.putfield 10, 3) := dq daX10_init_46_0 6 rfl
theorem dX10_init_15 : decode cX10_init 15 = .ok (.aload_n 0, 1) := dq daX10_init_46_0 7 rfl
theorem dX10_init_16 : decode cX10_init 16 = .ok (.new 7, 3) := dq daX10_init_46_0 8 rfl
theorem dX10_init_19 : decode cX10_init 19 = .ok (.dup, 1) := dq daX10_init_46_0 9 rfl
theorem dX10_init_20 : decode cX10_init 20 = .ok (.invokespecial 9, 3) := dq daX10_init_46_0 10 rfl
theorem dX10_init_23 : decode cX10_init 23 = .ok (.putfield 16, 3) := dq daX10_init_46_0 11 rfl
theorem dX10_init_26 : decode cX10_init 26 = .ok (.aload_n 0, 1) := dq daX10_init_46_0 12 rfl
theorem dX10_init_27 : decode cX10_init 27 = .ok (.iconst 4, 1) := dq daX10_init_46_0 13 rfl
theorem dX10_init_28 : decode cX10_init 28 = .ok (.anewarray 7, 3) := dq daX10_init_46_0 14 rfl
theorem dX10_init_31 : decode cX10_init 31 = .ok (.putfield 19, 3) := dq daX10_init_46_0 15 rfl
theorem dX10_init_34 : decode cX10_init 34 = .ok (.aload_n 0, 1) := dq daX10_init_46_0 16 rfl
theorem dX10_init_35 : decode cX10_init 35 = .ok (.sipush 400, 3) := dq daX10_init_46_0 17 rfl
theorem dX10_init_38 : decode cX10_init 38 = .ok (.newarray .int, 2) := dq daX10_init_46_0 18 rfl
theorem dX10_init_40 : decode cX10_init 40 = .ok (.putfield 23, 3) := dq daX10_init_46_0 19 rfl
theorem dX10_init_43 : decode cX10_init 43 = .ok (.aload_n 0, 1) := dq daX10_init_46_0 20 rfl
theorem dX10_init_44 : decode cX10_init 44 = .ok (.bipush 6, 2) := dq daX10_init_46_0 21 rfl
theorem dX10_init_46 : decode cX10_init 46 = .ok (.anewarray 27, 3) := dq daX10_init_46_0 22 rfl
theorem dX10_init_49 : decode cX10_init 49 = .ok (.putfield 29, 3) := dq daX10_init_46_0 23 rfl
theorem dX10_init_52 : decode cX10_init 52 = .ok (.aload_n 0, 1) := dq daX10_init_46_0 24 rfl
theorem dX10_init_53 : decode cX10_init 53 = .ok (.new 33, 3) := dq daX10_init_46_0 25 rfl
theorem dX10_init_56 : decode cX10_init 56 = .ok (.dup, 1) := dq daX10_init_46_0 26 rfl
theorem dX10_init_57 : decode cX10_init 57 = .ok (.invokespecial 35, 3) := dq daX10_init_46_0 27 rfl
theorem dX10_init_60 : decode cX10_init 60 = .ok (.putfield 36, 3) := dq daX10_init_46_0 28 rfl
theorem dX10_init_63 : decode cX10_init 63 = .ok (.aload_n 0, 1) := dq daX10_init_46_0 29 rfl
theorem dX10_init_64 : decode cX10_init 64 = .ok (.new 40, 3) := dq daX10_init_46_0 30 rfl
theorem dX10_init_67 : decode cX10_init 67 = .ok (.dup, 1) := dq daX10_init_46_0 31 rfl
def dtX10_init_46_1 : List (Nat × Jvm.ClassFile.Instr × Nat) := [(68, .invokespecial 42, 3), (71, .putfield 43, 3), (74, .aload_n 0, 1), (75, .new 47, 3), (78, .dup, 1), (79, .aload_n 0, 1), (80, .getfield 10, 3), (83, .invokespecial 49, 3), (86, .putfield 52, 3), (89, .aload_n 0, 1), (90, .new 56, 3), (93, .dup, 1), (94, .aload_n 0, 1), (95, .getfield 10, 3), (98, .aload_n 0, 1), (99, .getfield 52, 3), (102, .invokespecial 58, 3), (105, .putfield 61, 3), (108, .aload_n 0, 1), (109, .new 65, 3), (112, .dup, 1), (113, .aload_n 0, 1), (114, .getfield 10, 3), (117, .aload_n 0, 1), (118, .getfield 52, 3), (121, .invokespecial 67, 3), (124, .putfield 68, 3), (127, .aload_n 0, 1), (128, .new 72, 3), (131, .dup, 1), (132, .aload_n 0, 1), (133, .getfield 10, 3)]
theorem daX10_init_46_1 : dtX10_init_46_1.all (dqd cX10_init) = true := by decide +kernel
theorem dX10_init_68 : decode cX10_init 68 = .ok (.invokespecial 42, 3) := dq daX10_init_46_1 0 rfl
theorem dX10_init_71 : decode cX10_init 71 = .ok (.putfield 43, 3) := dq daX10_init_46_1 1 rfl
theorem dX10_init_74 : decode cX10_init 74 = .ok (.aload_n 0, 1) := dq daX10_init_46_1 2 rfl
theorem dX10_init_75 : decode cX10_init 75 = .ok (.new 47, 3) := dq daX10_init_46_1 3 rfl
theorem dX10_init_78 : decode cX10_init 78 = .ok (.dup, 1) := dq daX10_init_46_1 4 rfl
theorem dX10_init_79 : decode cX10_init 79 = .ok (.aload_n 0, 1) := dq daX10_init_46_1 5 rfl
theorem dX10_init_80 : decode cX10_init 80 = .ok (.getfield 10, 3) := dq daX10_init_46_1 6 rfl
theorem dX10_init_83 : decode cX10_init 83 = .ok (.invokespecial 49, 3) := dq daX10_init_46_1 7 rfl
theorem dX10_init_86 : decode cX10_init 86 = .ok (.putfield 52, 3) := dq daX10_init_46_1 8 rfl
theorem dX10_init_89 : decode cX10_init 89 = .ok (.aload_n 0, 1) := dq daX10_init_46_1 9 rfl
theorem dX10_init_90 : decode cX10_init 90 = .ok (.new 56, 3) := dq daX10_init_46_1 10 rfl
theorem dX10_init_93 : decode cX10_init 93 = .ok (.dup, 1) := dq daX10_init_46_1 11 rfl
theorem dX10_init_94 : decode cX10_init 94 = .ok (.aload_n 0, 1) := dq daX10_init_46_1 12 rfl
theorem dX10_init_95 : decode cX10_init 95 = .ok (.getfield 10, 3) := dq daX10_init_46_1 13 rfl
theorem dX10_init_98 : decode cX10_init 98 = .ok (.aload_n 0, 1) := dq daX10_init_46_1 14 rfl
theorem dX10_init_99 : decode cX10_init 99 = .ok (.getfield 52, 3) := dq daX10_init_46_1 15 rfl
theorem dX10_init_102 : decode cX10_init 102 = .ok (.invokespecial 58, 3) := dq daX10_init_46_1 16 rfl
theorem dX10_init_105 : decode cX10_init 105 = .ok (.putfield 61, 3) := dq daX10_init_46_1 17 rfl
theorem dX10_init_108 : decode cX10_init 108 = .ok (.aload_n 0, 1) := dq daX10_init_46_1 18 rfl
theorem dX10_init_109 : decode cX10_init 109 = .ok (.new 65, 3) := dq daX10_init_46_1 19 rfl
theorem dX10_init_112 : decode cX10_init 112 = .ok (.dup, 1) := dq daX10_init_46_1 20 rfl
theorem dX10_init_113 : decode cX10_init 113 = .ok (.aload_n 0, 1) := dq daX10_init_46_1 21 rfl
theorem dX10_init_114 : decode cX10_init 114 = .ok (.getfield 10, 3) := dq daX10_init_46_1 22 rfl
theorem dX10_init_117 : decode cX10_init 117 = .ok (.aload_n 0, 1) := dq daX10_init_46_1 23 rfl
theorem dX10_init_118 : decode cX10_init 118 = .ok (.getfield 52, 3) := dq daX10_init_46_1 24 rfl
theorem dX10_init_121 : decode cX10_init 121 = .ok (.invokespecial 67, 3) := dq daX10_init_46_1 25 rfl
theorem dX10_init_124 : decode cX10_init 124 = .ok (.putfield 68, 3) := dq daX10_init_46_1 26 rfl
theorem dX10_init_127 : decode cX10_init 127 = .ok (.aload_n 0, 1) := dq daX10_init_46_1 27 rfl
theorem dX10_init_128 : decode cX10_init 128 = .ok (.new 72, 3) := dq daX10_init_46_1 28 rfl
theorem dX10_init_131 : decode cX10_init 131 = .ok (.dup, 1) := dq daX10_init_46_1 29 rfl
theorem dX10_init_132 : decode cX10_init 132 = .ok (.aload_n 0, 1) := dq daX10_init_46_1 30 rfl
theorem dX10_init_133 : decode cX10_init 133 = .ok (.getfield 10, 3) := dq daX10_init_46_1 31 rfl
def dtX10_init_46_2 : List (Nat × Jvm.ClassFile.Instr × Nat) := [(136, .invokespecial 74, 3), (139, .putfield 75, 3), (142, .return_, 1)]
theorem daX10_init_46_2 : dtX10_init_46_2.all (dqd cX10_init) = true := by decide +kernel
theorem dX10_init_136 : decode cX10_init 136 = .ok (.invokespecial 74, 3) := dq daX10_init_46_2 0 rfl
theorem dX10_init_139 : decode cX10_init 139 = .ok (.putfield 75, 3) := dq daX10_init_46_2 1 rfl
theorem dX10_init_142 : decode cX10_init 142 = .ok (.return_, 1) := dq daX10_init_46_2 2 rfl
def dtX11_init_46_0 : List (Nat × Jvm.ClassFile.Instr × Nat) := [(0, .aload_n 0, 1), (1, .invokespecial 1, 3), (4, .aload_n 0, 1), (5, .sipush 400, 3), (8, .newarray .byte, 2), (10, .putfield 7, 3), (13, .aload_n 0, 1), (14, .sipush 2400, 3), (17, .newarray .int, 2), (19, .putfield 13, 3), (22, .aload_n 0, 1), (23, .bipush 6, 2), (25, .newarray .int, 2), (27, .putfield 17, 3), (30, .aload_n 0, 1), (31, .sipush 360, 3), (34, .newarray .int, 2), (36, .putfield 20, 3), (39, .aload_n 0, 1), (40, .bipush 6, 2), (42, .newarray .int, 2), (44, .putfield 23, 3), (47, .aload_n 0, 1), (48, .bipush 6, 2), (50, .newarray .int, 2), (52, .putfield 26, 3), (55, .aload_n 0, 1), (56, .sipush 400, 3), (59, .newarray .int, 2), (61, .putfield 29, 3), (64, .aload_n 0, 1), (65, .bipush 64, 2)]
theorem daX11_init_46_0 : dtX11_init_46_0.all (dqd cX11_init) = true := by decide +kernel
theorem dX11_init_0 : decode cX11_init 0 = .ok (.aload_n 0, 1) := dq daX11_init_46_0 0 rfl
theorem dX11_init_1 : decode cX11_init 1 = .ok (.invokespecial 1, 3) := dq daX11_init_46_0 1 rfl
theorem dX11_init_4 : decode cX11_init 4 = .ok (.aload_n 0, 1) := dq daX11_init_46_0 2 rfl
theorem dX11_init_5 : decode cX11_init 5 = .ok (.sipush 400, 3) := dq daX11_init_46_0 3 rfl
theorem dX11_init_8 : decode cX11_init 8 = .ok (.newarray .byte, 2) := dq daX11_init_46_0 4 rfl
theorem dX11_init_10 : decode cX11_init 10 = .ok (.putfield 7, 3) := dq daX11_init_46_0 5 rfl
theorem dX11_init_13 : decode cX11_init 13 = .ok (.aload_n 0, 1) := dq daX11_init_46_0 6 rfl
theorem dX11_init_14 : decode cX11_init 14 = .ok (.sipush 2400, 3) := dq daX11_init_46_0 7 rfl
theorem dX11_init_17 : decode cX11_init 17 = .ok (.newarray .int, 2) := dq daX11_init_46_0 8 rfl
theorem dX11_init_19 : decode cX11_init 19 = .ok (.putfield 13, 3) := dq daX11_init_46_0 9 rfl
theorem dX11_init_22 : decode cX11_init 22 = .ok (.aload_n 0, 1) := dq daX11_init_46_0 10 rfl
theorem dX11_init_23 : decode cX11_init 23 = .ok (.bipush 6, 2) := dq daX11_init_46_0 11 rfl
theorem dX11_init_25 : decode cX11_init 25 = .ok (.newarray .int, 2) := dq daX11_init_46_0 12 rfl
theorem dX11_init_27 : decode cX11_init 27 = .ok (.putfield 17, 3) := dq daX11_init_46_0 13 rfl
theorem dX11_init_30 : decode cX11_init 30 = .ok (.aload_n 0, 1) := dq daX11_init_46_0 14 rfl
theorem dX11_init_31 : decode cX11_init 31 = .ok (.sipush 360, 3) := dq daX11_init_46_0 15 rfl
theorem dX11_init_34 : decode cX11_init 34 = .ok (.newarray .int, 2) := dq daX11_init_46_0 16 rfl
theorem dX11_init_36 : decode cX11_init 36 = .ok (.putfield 20, 3) := dq daX11_init_46_0 17 rfl
theorem dX11_init_39 : decode cX11_init 39 = .ok (.aload_n 0, 1) := dq daX11_init_46_0 18 rfl
theorem dX11_init_40 : decode cX11_init 40 = .ok (.bipush 6, 2) := dq daX11_init_46_0 19 rfl
theorem dX11_init_42 : decode cX11_init 42 = .ok (.newarray .int, 2) := dq daX11_init_46_0 20 rfl
theorem dX11_init_44 : decode cX11_init 44 = .ok (.putfield 23, 3) := dq daX11_init_46_0 21 rfl
theorem dX11_init_47 : decode cX11_init 47 = .ok (.aload_n 0, 1) := dq daX11_init_46_0 22 rfl
theorem dX11_init_48 : decode cX11_init 48 = .ok (.bipush 6, 2) := dq daX11_init_46_0 23 rfl
theorem dX11_init_50 : decode cX11_init 50 = .ok (.newarray .int, 2) := dq daX11_init_46_0 24 rfl
theorem dX11_init_52 : decode cX11_init 52 = .ok (.putfield 26, 3) := dq daX11_init_46_0 25 rfl
theorem dX11_init_55 : decode cX11_init 55 = .ok (.aload_n 0, 1) := dq daX11_init_46_0 26 rfl
theorem dX11_init_56 : decode cX11_init 56 = .ok (.sipush 400, 3) := dq daX11_init_46_0 27 rfl
theorem dX11_init_59 : decode cX11_init 59 = .ok (.newarray .int, 2) := dq daX11_init_46_0 28 rfl
theorem dX11_init_61 : decode cX11_init 61 = .ok (.putfield 29, 3) := dq daX11_init_46_0 29 rfl
theorem dX11_init_64 : decode cX11_init 64 = .ok (.aload_n 0, 1) := dq daX11_init_46_0 30 rfl
theorem dX11_init_65 : decode cX11_init 65 = .ok (.bipush 64, 2) := dq daX11_init_46_0 31 rfl
def dtX11_init_46_1 : List (Nat × Jvm.ClassFile.Instr × Nat) := [(67, .newarray .long, 2), (69, .putfield 32, 3), (72, .aload_n 0, 1), (73, .bipush 11, 2), (75, .newarray .long, 2), (77, .putfield 36, 3), (80, .aload_n 0, 1), (81, .sipush 360, 3), (84, .newarray .int, 2), (86, .putfield 39, 3), (89, .aload_n 0, 1), (90, .sipush 360, 3), (93, .newarray .int, 2), (95, .putfield 42, 3), (98, .aload_n 0, 1), (99, .bipush 7, 2), (101, .newarray .int, 2), (103, .putfield 45, 3), (106, .aload_n 0, 1), (107, .bipush 7, 2), (109, .newarray .int, 2), (111, .putfield 48, 3), (114, .aload_n 0, 1), (115, .bipush 7, 2), (117, .newarray .int, 2), (119, .putfield 51, 3), (122, .aload_n 0, 1), (123, .bipush 7, 2), (125, .newarray .int, 2), (127, .putfield 54, 3), (130, .aload_n 0, 1), (131, .bipush 7, 2)]
theorem daX11_init_46_1 : dtX11_init_46_1.all (dqd cX11_init) = true := by decide +kernel
theorem dX11_init_67 : decode cX11_init 67 = .ok (.newarray .long, 2) := dq daX11_init_46_1 0 rfl
theorem dX11_init_69 : decode cX11_init 69 = .ok (.putfield 32, 3) := dq daX11_init_46_1 1 rfl
theorem dX11_init_72 : decode cX11_init 72 = .ok (.aload_n 0, 1) := dq daX11_init_46_1 2 rfl
theorem dX11_init_73 : decode cX11_init 73 = .ok (.bipush 11, 2) := dq daX11_init_46_1 3 rfl
theorem dX11_init_75 : decode cX11_init 75 = .ok (.newarray .long, 2) := dq daX11_init_46_1 4 rfl
theorem dX11_init_77 : decode cX11_init 77 = .ok (.putfield 36, 3) := dq daX11_init_46_1 5 rfl
theorem dX11_init_80 : decode cX11_init 80 = .ok (.aload_n 0, 1) := dq daX11_init_46_1 6 rfl
theorem dX11_init_81 : decode cX11_init 81 = .ok (.sipush 360, 3) := dq daX11_init_46_1 7 rfl
theorem dX11_init_84 : decode cX11_init 84 = .ok (.newarray .int, 2) := dq daX11_init_46_1 8 rfl
theorem dX11_init_86 : decode cX11_init 86 = .ok (.putfield 39, 3) := dq daX11_init_46_1 9 rfl
theorem dX11_init_89 : decode cX11_init 89 = .ok (.aload_n 0, 1) := dq daX11_init_46_1 10 rfl
theorem dX11_init_90 : decode cX11_init 90 = .ok (.sipush 360, 3) := dq daX11_init_46_1 11 rfl
theorem dX11_init_93 : decode cX11_init 93 = .ok (.newarray .int, 2) := dq daX11_init_46_1 12 rfl
theorem dX11_init_95 : decode cX11_init 95 = .ok (.putfield 42, 3) := dq daX11_init_46_1 13 rfl
theorem dX11_init_98 : decode cX11_init 98 = .ok (.aload_n 0, 1) := dq daX11_init_46_1 14 rfl
theorem dX11_init_99 : decode cX11_init 99 = .ok (.bipush 7, 2) := dq daX11_init_46_1 15 rfl
theorem dX11_init_101 : decode cX11_init 101 = .ok (.newarray .int, 2) := dq daX11_init_46_1 16 rfl
theorem dX11_init_103 : decode cX11_init 103 = .ok (.putfield 45, 3) := dq daX11_init_46_1 17 rfl
theorem dX11_init_106 : decode cX11_init 106 = .ok (.aload_n 0, 1) := dq daX11_init_46_1 18 rfl
theorem dX11_init_107 : decode cX11_init 107 = .ok (.bipush 7, 2) := dq daX11_init_46_1 19 rfl
theorem dX11_init_109 : decode cX11_init 109 = .ok (.newarray .int, 2) := dq daX11_init_46_1 20 rfl
theorem dX11_init_111 : decode cX11_init 111 = .ok (.putfield 48, 3) := dq daX11_init_46_1 21 rfl
theorem dX11_init_114 : decode cX11_init 114 = .ok (.aload_n 0, 1) := dq daX11_init_46_1 22 rfl
theorem dX11_init_115 : decode cX11_init 115 = .ok (.bipush 7, 2) := dq daX11_init_46_1 23 rfl
theorem dX11_init_117 : decode cX11_init 117 = .ok (.newarray .int, 2) := dq daX11_init_46_1 24 rfl
theorem dX11_init_119 : decode cX11_init 119 = .ok (.putfield 51, 3) := dq daX11_init_46_1 25 rfl
theorem dX11_init_122 : decode cX11_init 122 = .ok (.aload_n 0, 1) := dq daX11_init_46_1 26 rfl
theorem dX11_init_123 : decode cX11_init 123 = .ok (.bipush 7, 2) := dq daX11_init_46_1 27 rfl
theorem dX11_init_125 : decode cX11_init 125 = .ok (.newarray .int, 2) := dq daX11_init_46_1 28 rfl
theorem dX11_init_127 : decode cX11_init 127 = .ok (.putfield 54, 3) := dq daX11_init_46_1 29 rfl
theorem dX11_init_130 : decode cX11_init 130 = .ok (.aload_n 0, 1) := dq daX11_init_46_1 30 rfl
theorem dX11_init_131 : decode cX11_init 131 = .ok (.bipush 7, 2) := dq daX11_init_46_1 31 rfl
def dtX11_init_46_2 : List (Nat × Jvm.ClassFile.Instr × Nat) := [(133, .newarray .int, 2), (135, .putfield 57, 3), (138, .aload_n 0, 1), (139, .bipush 6, 2), (141, .newarray .int, 2), (143, .putfield 60, 3), (146, .aload_n 0, 1), (147, .bipush 12, 2), (149, .newarray .int, 2), (151, .putfield 63, 3), (154, .aload_n 0, 1), (155, .bipush 6, 2), (157, .newarray .int, 2), (159, .putfield 66, 3), (162, .aload_n 0, 1), (163, .bipush 6, 2), (165, .newarray .int, 2), (167, .putfield 69, 3), (170, .aload_n 0, 1), (171, .sipush 1440, 3), (174, .newarray .int, 2), (176, .putfield 72, 3), (179, .aload_n 0, 1), (180, .iconst 4, 1), (181, .newarray .boolean, 2), (183, .putfield 75, 3), (186, .aload_n 0, 1), (187, .getfield 39, 3), (190, .bipush 8, 2), (192, .iconst (-1), 1), (193, .iastore, 1), (194, .return_, 1)]
theorem daX11_init_46_2 : dtX11_init_46_2.all (dqd cX11_init) = true := by decide +kernel
theorem dX11_init_133 : decode cX11_init 133 = .ok (.newarray .int, 2) := dq daX11_init_46_2 0 rfl
theorem dX11_init_135 : decode cX11_init 135 = .ok (.putfield 57, 3) := dq daX11_init_46_2 1 rfl
theorem dX11_init_138 : decode cX11_init 138 = .ok (.aload_n 0, 1) := dq daX11_init_46_2 2 rfl
theorem dX11_init_139 : decode cX11_init 139 = .ok (.bipush 6, 2) := dq daX11_init_46_2 3 rfl
theorem dX11_init_141 : decode cX11_init 141 = .ok (.newarray .int, 2) := dq daX11_init_46_2 4 rfl
theorem dX11_init_143 : decode cX11_init 143 = .ok (.putfield 60, 3) := dq daX11_init_46_2 5 rfl
theorem dX11_init_146 : decode cX11_init 146 = .ok (.aload_n 0, 1) := dq daX11_init_46_2 6 rfl
theorem dX11_init_147 : decode cX11_init 147 = .ok (.bipush 12, 2) := dq daX11_init_46_2 7 rfl
theorem dX11_init_149 : decode cX11_init 149 = .ok (.newarray .int, 2) := dq daX11_init_46_2 8 rfl
theorem dX11_init_151 : decode cX11_init 151 = .ok (.putfield 63, 3) := dq daX11_init_46_2 9 rfl
theorem dX11_init_154 : decode cX11_init 154 = .ok (.aload_n 0, 1) := dq daX11_init_46_2 10 rfl
theorem dX11_init_155 : decode cX11_init 155 = .ok (.bipush 6, 2) := dq daX11_init_46_2 11 rfl
theorem dX11_init_157 : decode cX11_init 157 = .ok (.newarray .int, 2) := dq daX11_init_46_2 12 rfl
theorem dX11_init_159 : decode cX11_init 159 = .ok (.putfield 66, 3) := dq daX11_init_46_2 13 rfl
theorem dX11_init_162 : decode cX11_init 162 = .ok (.aload_n 0, 1) := dq daX11_init_46_2 14 rfl
theorem dX11_init_163 : decode cX11_init 163 = .ok (.bipush 6, 2) := dq daX11_init_46_2 15 rfl
theorem dX11_init_165 : decode cX11_init 165 = .ok (.newarray .int, 2) := dq daX11_init_46_2 16 rfl
theorem dX11_init_167 : decode cX11_init 167 = .ok (.putfield 69, 3) := dq daX11_init_46_2 17 rfl
theorem dX11_init_170 : decode cX11_init 170 = .ok (.aload_n 0, 1) := dq daX11_init_46_2 18 rfl
theorem dX11_init_171 : decode cX11_init 171 = .ok (.sipush 1440, 3) := dq daX11_init_46_2 19 rfl
theorem dX11_init_174 : decode cX11_init 174 = .ok (.newarray .int, 2) := dq daX11_init_46_2 20 rfl
theorem dX11_init_176 : decode cX11_init 176 = .ok (.putfield 72, 3) := dq daX11_init_46_2 21 rfl
theorem dX11_init_179 : decode cX11_init 179 = .ok (.aload_n 0, 1) := dq daX11_init_46_2 22 rfl
theorem dX11_init_180 : decode cX11_init 180 = .ok (.iconst 4, 1) := dq daX11_init_46_2 23 rfl
theorem dX11_init_181 : decode cX11_init 181 = .ok (.newarray .boolean, 2) := dq daX11_init_46_2 24 rfl
theorem dX11_init_183 : decode cX11_init 183 = .ok (.putfield 75, 3) := dq daX11_init_46_2 25 rfl
theorem dX11_init_186 : decode cX11_init 186 = .ok (.aload_n 0, 1) := dq daX11_init_46_2 26 rfl
theorem dX11_init_187 : decode cX11_init 187 = .ok (.getfield 39, 3) := dq daX11_init_46_2 27 rfl
theorem dX11_init_190 : decode cX11_init 190 = .ok (.bipush 8, 2) := dq daX11_init_46_2 28 rfl
theorem dX11_init_192 : decode cX11_init 192 = .ok (.iconst (-1), 1) := dq daX11_init_46_2 29 rfl
theorem dX11_init_193 : decode cX11_init 193 = .ok (.iastore, 1) := dq daX11_init_46_2 30 rfl
theorem dX11_init_194 : decode cX11_init 194 = .ok (.return_, 1) := dq daX11_init_46_2 31 rfl
