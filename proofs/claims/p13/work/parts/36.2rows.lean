theorem kX5_farTo_2 {a : Array Value} {s : State} (hts : ∀ w ∈ wsX5_farTo, w.before a s = true) : (.constant RX5 40 (1000000) : Cond).before a s = true := kw (A := ixX5_farTo) wt1034 hts (by decide +kernel)
theorem kX5_farTo_1 {a : Array Value} {s : State} (hts : ∀ w ∈ wsX5_farTo, w.before a s = true) : (.fieldLink RX5 9 "SnowMules$Search" "far" "[I" : Cond).before a s = true := kw (A := ixX5_farTo) wt117 hts (by decide +kernel)
theorem kX5_passOf_1 {a : Array Value} {s : State} (hts : ∀ w ∈ wsX5_passOf, w.before a s = true) : (.fieldLink RX5 53 "SnowMules$Search" "length" "I" : Cond).before a s = true := kw (A := ixX5_passOf) wt1039 hts (by decide +kernel)
theorem kX5_passOf_2 {a : Array Value} {s : State} (hts : ∀ w ∈ wsX5_passOf, w.before a s = true) : (.fieldLink RX5 18 "SnowMules$Search" "bestRow" "[I" : Cond).before a s = true := kw (A := ixX5_passOf) wt119 hts (by decide +kernel)
theorem kX5_reach_1 {a : Array Value} {s : State} (hts : ∀ w ∈ wsX5_reach, w.before a s = true) : (.fieldLink RX5 9 "SnowMules$Search" "far" "[I" : Cond).before a s = true := kw (A := ixX5_reach) wt117 hts (by decide +kernel)
theorem kX5_shorten_1 {a : Array Value} {s : State} (hts : ∀ w ∈ wsX5_shorten, w.before a s = true) : (.fieldLink RX5 21 "SnowMules$Search" "world" "LSnowMules$World;" : Cond).before a s = true := kw (A := ixX5_shorten) wt120 hts (by decide +kernel)
theorem kX5_shorten_2 {a : Array Value} {s : State} (hts : ∀ w ∈ wsX5_shorten, w.before a s = true) : (.fieldLink RX5 109 "SnowMules$World" "passes" "LSnowMules$Table;" : Cond).before a s = true := kw (A := ixX5_shorten) wt1044 hts (by decide +kernel)
theorem kX5_measure_1 {a : Array Value} {s : State} (hts : ∀ w ∈ wsX5_measure, w.before a s = true) : (.fieldLink RX5 9 "SnowMules$Search" "far" "[I" : Cond).before a s = true := kw (A := ixX5_measure) wt117 hts (by decide +kernel)
theorem kX5_measure_2 {a : Array Value} {s : State} (hts : ∀ w ∈ wsX5_measure, w.before a s = true) : (.constant RX5 40 (1000000) : Cond).before a s = true := kw (A := ixX5_measure) wt1034 hts (by decide +kernel)
theorem kX5_measure_3 {a : Array Value} {s : State} (hts : ∀ w ∈ wsX5_measure, w.before a s = true) : (.fieldLink RX5 21 "SnowMules$Search" "world" "LSnowMules$World;" : Cond).before a s = true := kw (A := ixX5_measure) wt120 hts (by decide +kernel)
theorem kX5_measure_4 {a : Array Value} {s : State} (hts : ∀ w ∈ wsX5_measure, w.before a s = true) : (.fieldLink RX5 109 "SnowMules$World" "passes" "LSnowMules$Table;" : Cond).before a s = true := kw (A := ixX5_measure) wt1044 hts (by decide +kernel)
theorem kX5_measure_5 {a : Array Value} {s : State} (hts : ∀ w ∈ wsX5_measure, w.before a s = true) : (.fieldLink RX5 112 "SnowMules$Table" "size" "I" : Cond).before a s = true := kw (A := ixX5_measure) wt1045 hts (by decide +kernel)
theorem kX5_keep_1 {a : Array Value} {s : State} (hts : ∀ w ∈ wsX5_keep, w.before a s = true) : (.fieldLink RX5 36 "SnowMules$Search" "anyWill" "Z" : Cond).before a s = true := kw (A := ixX5_keep) wt1033 hts (by decide +kernel)
theorem kX5_keep_3 {a : Array Value} {s : State} (hts : ∀ w ∈ wsX5_keep, w.before a s = true) : (.fieldLink RX5 25 "SnowMules$Search" "trip" "LSnowMules$Trip;" : Cond).before a s = true := kw (A := ixX5_keep) wt121 hts (by decide +kernel)
theorem kX5_keep_4 {a : Array Value} {s : State} (hts : ∀ w ∈ wsX5_keep, w.before a s = true) : (.fieldLink RX5 65 "SnowMules$Trip" "drops" "I" : Cond).before a s = true := kw (A := ixX5_keep) wt1064 hts (by decide +kernel)
theorem kX5_keep_5 {a : Array Value} {s : State} (hts : ∀ w ∈ wsX5_keep, w.before a s = true) : (.fieldLink RX5 44 "SnowMules$Search" "left" "I" : Cond).before a s = true := kw (A := ixX5_keep) wt1036 hts (by decide +kernel)
theorem kX5_keep_6 {a : Array Value} {s : State} (hts : ∀ w ∈ wsX5_keep, w.before a s = true) : (.fieldLink RX5 102 "SnowMules$Trip" "needed" "I" : Cond).before a s = true := kw (A := ixX5_keep) wt1074 hts (by decide +kernel)
theorem kX5_keep_7 {a : Array Value} {s : State} (hts : ∀ w ∈ wsX5_keep, w.before a s = true) : (.fieldLink RX5 50 "SnowMules$Search" "waited" "I" : Cond).before a s = true := kw (A := ixX5_keep) wt1038 hts (by decide +kernel)
theorem kX5_keep_8 {a : Array Value} {s : State} (hts : ∀ w ∈ wsX5_keep, w.before a s = true) : (.fieldLink RX5 47 "SnowMules$Search" "leaving" "I" : Cond).before a s = true := kw (A := ixX5_keep) wt1037 hts (by decide +kernel)
theorem kX5_keep_9 {a : Array Value} {s : State} (hts : ∀ w ∈ wsX5_keep, w.before a s = true) : (.fieldLink RX5 53 "SnowMules$Search" "length" "I" : Cond).before a s = true := kw (A := ixX5_keep) wt1039 hts (by decide +kernel)
theorem kX5_keep_10 {a : Array Value} {s : State} (hts : ∀ w ∈ wsX5_keep, w.before a s = true) : (.fieldLink RX5 18 "SnowMules$Search" "bestRow" "[I" : Cond).before a s = true := kw (A := ixX5_keep) wt119 hts (by decide +kernel)
theorem kX5_keep_11 {a : Array Value} {s : State} (hts : ∀ w ∈ wsX5_keep, w.before a s = true) : (.fieldLink RX5 15 "SnowMules$Search" "row" "[I" : Cond).before a s = true := kw (A := ixX5_keep) wt118 hts (by decide +kernel)
theorem kX5_keep_2 {a : Array Value} {s : State} (hts : ∀ w ∈ wsX5_keep, w.before a s = true) : (.constant RX5 124 (99999) : Cond).before a s = true := kw (A := ixX5_keep) wt1073 hts (by decide +kernel)
theorem kX5_seek_1 {a : Array Value} {s : State} (hts : ∀ w ∈ wsX5_seek, w.before a s = true) : (.fieldLink RX5 25 "SnowMules$Search" "trip" "LSnowMules$Trip;" : Cond).before a s = true := kw (A := ixX5_seek) wt121 hts (by decide +kernel)
theorem kX5_seek_2 {a : Array Value} {s : State} (hts : ∀ w ∈ wsX5_seek, w.before a s = true) : (.fieldLink RX5 65 "SnowMules$Trip" "drops" "I" : Cond).before a s = true := kw (A := ixX5_seek) wt1064 hts (by decide +kernel)
theorem kX5_seek_3 {a : Array Value} {s : State} (hts : ∀ w ∈ wsX5_seek, w.before a s = true) : (.fieldLink RX5 44 "SnowMules$Search" "left" "I" : Cond).before a s = true := kw (A := ixX5_seek) wt1036 hts (by decide +kernel)
theorem kX5_seek_4 {a : Array Value} {s : State} (hts : ∀ w ∈ wsX5_seek, w.before a s = true) : (.fieldLink RX5 60 "SnowMules$Trip" "hour" "I" : Cond).before a s = true := kw (A := ixX5_seek) wt1063 hts (by decide +kernel)
theorem kX5_seek_5 {a : Array Value} {s : State} (hts : ∀ w ∈ wsX5_seek, w.before a s = true) : (.fieldLink RX5 41 "SnowMules$Search" "latest" "I" : Cond).before a s = true := kw (A := ixX5_seek) wt1035 hts (by decide +kernel)
theorem kX5_seek_6 {a : Array Value} {s : State} (hts : ∀ w ∈ wsX5_seek, w.before a s = true) : (.fieldLink RX5 29 "SnowMules$Search" "target" "I" : Cond).before a s = true := kw (A := ixX5_seek) wt1031 hts (by decide +kernel)
theorem kX5_seek_7 {a : Array Value} {s : State} (hts : ∀ w ∈ wsX5_seek, w.before a s = true) : (.fieldLink RX5 21 "SnowMules$Search" "world" "LSnowMules$World;" : Cond).before a s = true := kw (A := ixX5_seek) wt120 hts (by decide +kernel)
theorem kX5_seek_8 {a : Array Value} {s : State} (hts : ∀ w ∈ wsX5_seek, w.before a s = true) : (.fieldLink RX5 109 "SnowMules$World" "passes" "LSnowMules$Table;" : Cond).before a s = true := kw (A := ixX5_seek) wt1044 hts (by decide +kernel)
theorem kX5_seek_9 {a : Array Value} {s : State} (hts : ∀ w ∈ wsX5_seek, w.before a s = true) : (.fieldLink RX5 112 "SnowMules$Table" "size" "I" : Cond).before a s = true := kw (A := ixX5_seek) wt1045 hts (by decide +kernel)
theorem kX5_seek_10 {a : Array Value} {s : State} (hts : ∀ w ∈ wsX5_seek, w.before a s = true) : (.fieldLink RX5 33 "SnowMules$Search" "barred" "I" : Cond).before a s = true := kw (A := ixX5_seek) wt1032 hts (by decide +kernel)
theorem kX5_seek_11 {a : Array Value} {s : State} (hts : ∀ w ∈ wsX5_seek, w.before a s = true) : (.fieldLink RX5 15 "SnowMules$Search" "row" "[I" : Cond).before a s = true := kw (A := ixX5_seek) wt118 hts (by decide +kernel)
theorem kX5_findBest_1 {a : Array Value} {s : State} (hts : ∀ w ∈ wsX5_findBest, w.before a s = true) : (.fieldLink RX5 25 "SnowMules$Search" "trip" "LSnowMules$Trip;" : Cond).before a s = true := kw (A := ixX5_findBest) wt121 hts (by decide +kernel)
theorem kX5_findBest_2 {a : Array Value} {s : State} (hts : ∀ w ∈ wsX5_findBest, w.before a s = true) : (.fieldLink RX5 60 "SnowMules$Trip" "hour" "I" : Cond).before a s = true := kw (A := ixX5_findBest) wt1063 hts (by decide +kernel)
theorem kX5_findBest_3 {a : Array Value} {s : State} (hts : ∀ w ∈ wsX5_findBest, w.before a s = true) : (.fieldLink RX5 65 "SnowMules$Trip" "drops" "I" : Cond).before a s = true := kw (A := ixX5_findBest) wt1064 hts (by decide +kernel)
theorem kX5_findBest_4 {a : Array Value} {s : State} (hts : ∀ w ∈ wsX5_findBest, w.before a s = true) : (.fieldLink RX5 50 "SnowMules$Search" "waited" "I" : Cond).before a s = true := kw (A := ixX5_findBest) wt1038 hts (by decide +kernel)
theorem kX5_aim_1 {a : Array Value} {s : State} (hts : ∀ w ∈ wsX5_aim, w.before a s = true) : (.fieldLink RX5 29 "SnowMules$Search" "target" "I" : Cond).before a s = true := kw (A := ixX5_aim) wt1031 hts (by decide +kernel)
theorem kX5_aim_2 {a : Array Value} {s : State} (hts : ∀ w ∈ wsX5_aim, w.before a s = true) : (.fieldLink RX5 33 "SnowMules$Search" "barred" "I" : Cond).before a s = true := kw (A := ixX5_aim) wt1032 hts (by decide +kernel)
theorem kX5_aim_3 {a : Array Value} {s : State} (hts : ∀ w ∈ wsX5_aim, w.before a s = true) : (.fieldLink RX5 36 "SnowMules$Search" "anyWill" "Z" : Cond).before a s = true := kw (A := ixX5_aim) wt1033 hts (by decide +kernel)
theorem kX5_aim_4 {a : Array Value} {s : State} (hts : ∀ w ∈ wsX5_aim, w.before a s = true) : (.constant RX5 40 (1000000) : Cond).before a s = true := kw (A := ixX5_aim) wt1034 hts (by decide +kernel)
theorem kX5_aim_5 {a : Array Value} {s : State} (hts : ∀ w ∈ wsX5_aim, w.before a s = true) : (.fieldLink RX5 41 "SnowMules$Search" "latest" "I" : Cond).before a s = true := kw (A := ixX5_aim) wt1035 hts (by decide +kernel)
theorem kX5_aim_6 {a : Array Value} {s : State} (hts : ∀ w ∈ wsX5_aim, w.before a s = true) : (.fieldLink RX5 44 "SnowMules$Search" "left" "I" : Cond).before a s = true := kw (A := ixX5_aim) wt1036 hts (by decide +kernel)
theorem kX5_aim_7 {a : Array Value} {s : State} (hts : ∀ w ∈ wsX5_aim, w.before a s = true) : (.fieldLink RX5 47 "SnowMules$Search" "leaving" "I" : Cond).before a s = true := kw (A := ixX5_aim) wt1037 hts (by decide +kernel)
theorem kX5_aim_8 {a : Array Value} {s : State} (hts : ∀ w ∈ wsX5_aim, w.before a s = true) : (.fieldLink RX5 50 "SnowMules$Search" "waited" "I" : Cond).before a s = true := kw (A := ixX5_aim) wt1038 hts (by decide +kernel)
theorem kX5_aim_9 {a : Array Value} {s : State} (hts : ∀ w ∈ wsX5_aim, w.before a s = true) : (.fieldLink RX5 53 "SnowMules$Search" "length" "I" : Cond).before a s = true := kw (A := ixX5_aim) wt1039 hts (by decide +kernel)
theorem kX5_leftFor_1 {a : Array Value} {s : State} (hts : ∀ w ∈ wsX5_leftFor, w.before a s = true) : (.fieldLink RX5 21 "SnowMules$Search" "world" "LSnowMules$World;" : Cond).before a s = true := kw (A := ixX5_leftFor) wt120 hts (by decide +kernel)
theorem kX5_leftFor_2 {a : Array Value} {s : State} (hts : ∀ w ∈ wsX5_leftFor, w.before a s = true) : (.fieldLink RX5 78 "SnowMules$World" "orders" "LSnowMules$Table;" : Cond).before a s = true := kw (A := ixX5_leftFor) wt1210 hts (by decide +kernel)
theorem kX5_leftFor_3 {a : Array Value} {s : State} (hts : ∀ w ∈ wsX5_leftFor, w.before a s = true) : (.fieldLink RX5 36 "SnowMules$Search" "anyWill" "Z" : Cond).before a s = true := kw (A := ixX5_leftFor) wt1033 hts (by decide +kernel)
theorem kX5_leftFor_4 {a : Array Value} {s : State} (hts : ∀ w ∈ wsX5_leftFor, w.before a s = true) : (.fieldLink RX5 41 "SnowMules$Search" "latest" "I" : Cond).before a s = true := kw (A := ixX5_leftFor) wt1035 hts (by decide +kernel)
theorem kX5_leftFor_5 {a : Array Value} {s : State} (hts : ∀ w ∈ wsX5_leftFor, w.before a s = true) : (.fieldLink RX5 44 "SnowMules$Search" "left" "I" : Cond).before a s = true := kw (A := ixX5_leftFor) wt1036 hts (by decide +kernel)
theorem kX5_leftFor_6 {a : Array Value} {s : State} (hts : ∀ w ∈ wsX5_leftFor, w.before a s = true) : (.fieldLink RX5 92 "SnowMules$World" "jars" "LSnowMules$Table;" : Cond).before a s = true := kw (A := ixX5_leftFor) wt1211 hts (by decide +kernel)
theorem kX5_leftFor_7 {a : Array Value} {s : State} (hts : ∀ w ∈ wsX5_leftFor, w.before a s = true) : (.fieldLink RX5 25 "SnowMules$Search" "trip" "LSnowMules$Trip;" : Cond).before a s = true := kw (A := ixX5_leftFor) wt121 hts (by decide +kernel)
theorem kX5_leftFor_8 {a : Array Value} {s : State} (hts : ∀ w ∈ wsX5_leftFor, w.before a s = true) : (.fieldLink RX5 95 "SnowMules$World" "now" "I" : Cond).before a s = true := kw (A := ixX5_leftFor) wt1212 hts (by decide +kernel)
theorem kX5_leftFor_9 {a : Array Value} {s : State} (hts : ∀ w ∈ wsX5_leftFor, w.before a s = true) : (.fieldLink RX5 102 "SnowMules$Trip" "needed" "I" : Cond).before a s = true := kw (A := ixX5_leftFor) wt1074 hts (by decide +kernel)
theorem iX5_farTo_X5 : ∀ w ∈ wsX50, w ∈ wsX5_farTo := inW (A := ixX5_farTo) uwX5 (by decide +kernel)
theorem iX5_passOf_X5 : ∀ w ∈ wsX50, w ∈ wsX5_passOf := inW (A := ixX5_passOf) uwX5 (by decide +kernel)
theorem iX5_reach_X5 : ∀ w ∈ wsX50, w ∈ wsX5_reach := inW (A := ixX5_reach) uwX5 (by decide +kernel)
theorem iX5_shorten_X5 : ∀ w ∈ wsX50, w ∈ wsX5_shorten := inW (A := ixX5_shorten) uwX5 (by decide +kernel)
theorem iX5_shorten_X9 : ∀ w ∈ wsX90, w ∈ wsX5_shorten := inW (A := ixX5_shorten) uwX9 (by decide +kernel)
theorem iX5_measure_X5 : ∀ w ∈ wsX50, w ∈ wsX5_measure := inW (A := ixX5_measure) uwX5 (by decide +kernel)
theorem iX5_measure_X9 : ∀ w ∈ wsX90, w ∈ wsX5_measure := inW (A := ixX5_measure) uwX9 (by decide +kernel)
theorem iX5_measure_X6 : ∀ w ∈ wsX60, w ∈ wsX5_measure := inW (A := ixX5_measure) uwX6 (by decide +kernel)
theorem iX5_keep_X5 : ∀ w ∈ wsX50, w ∈ wsX5_keep := inW (A := ixX5_keep) uwX5 (by decide +kernel)
theorem iX5_keep_X7 : ∀ w ∈ wsX70, w ∈ wsX5_keep := inW (A := ixX5_keep) uwX7 (by decide +kernel)
theorem iX5_seek_X5 : ∀ w ∈ wsX50, w ∈ wsX5_seek := inW (A := ixX5_seek) uwX5 (by decide +kernel)
theorem iX5_seek_X7 : ∀ w ∈ wsX70, w ∈ wsX5_seek := inW (A := ixX5_seek) uwX7 (by decide +kernel)
theorem iX5_seek_X9 : ∀ w ∈ wsX90, w ∈ wsX5_seek := inW (A := ixX5_seek) uwX9 (by decide +kernel)
theorem iX5_seek_X6 : ∀ w ∈ wsX60, w ∈ wsX5_seek := inW (A := ixX5_seek) uwX6 (by decide +kernel)
theorem iX5_findBest_X5 : ∀ w ∈ wsX50, w ∈ wsX5_findBest := inW (A := ixX5_findBest) uwX5 (by decide +kernel)
theorem iX5_findBest_X7 : ∀ w ∈ wsX70, w ∈ wsX5_findBest := inW (A := ixX5_findBest) uwX7 (by decide +kernel)
theorem iX5_aim_X5 : ∀ w ∈ wsX50, w ∈ wsX5_aim := inW (A := ixX5_aim) uwX5 (by decide +kernel)
theorem iX5_leftFor_X5 : ∀ w ∈ wsX50, w ∈ wsX5_leftFor := inW (A := ixX5_leftFor) uwX5 (by decide +kernel)
theorem iX5_leftFor_X9 : ∀ w ∈ wsX90, w ∈ wsX5_leftFor := inW (A := ixX5_leftFor) uwX9 (by decide +kernel)
theorem iX5_leftFor_X7 : ∀ w ∈ wsX70, w ∈ wsX5_leftFor := inW (A := ixX5_leftFor) uwX7 (by decide +kernel)
theorem hdX5_farTo : yX5_farTo.cls ≠ "java/lang/invoke/MethodHandle" ∧ yX5_farTo.cls ≠ "java/lang/invoke/VarHandle" ∧ (parseMethodDescriptor yX5_farTo.desc).map (fun d => d.parameters.length) = some 1 := ⟨hdc_8.1, hdc_8.2, hdd_3⟩
theorem hdX5_reach : yX5_reach.cls ≠ "java/lang/invoke/MethodHandle" ∧ yX5_reach.cls ≠ "java/lang/invoke/VarHandle" ∧ (parseMethodDescriptor yX5_reach.desc).map (fun d => d.parameters.length) = some 2 := ⟨hdc_8.1, hdc_8.2, hdd_4⟩
theorem hdX5_shorten : yX5_shorten.cls ≠ "java/lang/invoke/MethodHandle" ∧ yX5_shorten.cls ≠ "java/lang/invoke/VarHandle" ∧ (parseMethodDescriptor yX5_shorten.desc).map (fun d => d.parameters.length) = some 2 := ⟨hdc_8.1, hdc_8.2, hdd_41⟩
theorem hdX5_keep : yX5_keep.cls ≠ "java/lang/invoke/MethodHandle" ∧ yX5_keep.cls ≠ "java/lang/invoke/VarHandle" ∧ (parseMethodDescriptor yX5_keep.desc).map (fun d => d.parameters.length) = some 1 := ⟨hdc_8.1, hdc_8.2, hdd_17⟩
theorem hdX5_seek : yX5_seek.cls ≠ "java/lang/invoke/MethodHandle" ∧ yX5_seek.cls ≠ "java/lang/invoke/VarHandle" ∧ (parseMethodDescriptor yX5_seek.desc).map (fun d => d.parameters.length) = some 3 := ⟨hdc_8.1, hdc_8.2, hdd_25⟩
theorem hdX5_measure : yX5_measure.cls ≠ "java/lang/invoke/MethodHandle" ∧ yX5_measure.cls ≠ "java/lang/invoke/VarHandle" ∧ (parseMethodDescriptor yX5_measure.desc).map (fun d => d.parameters.length) = some 3 := ⟨hdc_8.1, hdc_8.2, hdd_42⟩
theorem hdX9_nodeOf : yX9_nodeOf.cls ≠ "java/lang/invoke/MethodHandle" ∧ yX9_nodeOf.cls ≠ "java/lang/invoke/VarHandle" ∧ (parseMethodDescriptor yX9_nodeOf.desc).map (fun d => d.parameters.length) = some 1 := ⟨hdc_2.1, hdc_2.2, hdd_3⟩
theorem hdX5_aim : yX5_aim.cls ≠ "java/lang/invoke/MethodHandle" ∧ yX5_aim.cls ≠ "java/lang/invoke/VarHandle" ∧ (parseMethodDescriptor yX5_aim.desc).map (fun d => d.parameters.length) = some 2 := ⟨hdc_8.1, hdc_8.2, hdd_18⟩
theorem hdX7_begin : yX7_begin.cls ≠ "java/lang/invoke/MethodHandle" ∧ yX7_begin.cls ≠ "java/lang/invoke/VarHandle" ∧ (parseMethodDescriptor yX7_begin.desc).map (fun d => d.parameters.length) = some 5 := ⟨hdc_7.1, hdc_7.2, hdd_43⟩
def dtX5_farTo_36_0 : List (Nat × Jvm.ClassFile.Instr × Nat) := [(0, .iload_n 1, 1), (1, .ifCond .lt 18, 3), (19, .ldc 40, 2), (21, .ireturn, 1), (4, .iload_n 1, 1), (5, .bipush 12, 2), (7, .if_icmp .ge 12, 3), (10, .aload_n 0, 1), (11, .getfield 9, 3), (14, .iload_n 1, 1), (15, .iaload, 1), (16, .goto 5, 3)]
theorem daX5_farTo_36_0 : dtX5_farTo_36_0.all (dqd cX5_farTo) = true := by decide +kernel
theorem dX5_farTo_0 : decode cX5_farTo 0 = .ok (.iload_n 1, 1) := dq daX5_farTo_36_0 0 rfl
theorem dX5_farTo_1 : decode cX5_farTo 1 = .ok (.ifCond .lt 18, 3) := dq daX5_farTo_36_0 1 rfl
theorem dX5_farTo_19 : decode cX5_farTo 19 = .ok (.ldc 40, 2) := dq daX5_farTo_36_0 2 rfl
theorem dX5_farTo_21 : decode cX5_farTo 21 = .ok (.ireturn, 1) := dq daX5_farTo_36_0 3 rfl
theorem dX5_farTo_4 : decode cX5_farTo 4 = .ok (.iload_n 1, 1) := dq daX5_farTo_36_0 4 rfl
theorem dX5_farTo_5 : decode cX5_farTo 5 = .ok (.bipush 12, 2) := dq daX5_farTo_36_0 5 rfl
theorem dX5_farTo_7 : decode cX5_farTo 7 = .ok (.if_icmp .ge 12, 3) := dq daX5_farTo_36_0 6 rfl
theorem dX5_farTo_10 : decode cX5_farTo 10 = .ok (.aload_n 0, 1) := dq daX5_farTo_36_0 7 rfl
theorem dX5_farTo_11 : decode cX5_farTo 11 = .ok (.getfield 9, 3) := dq daX5_farTo_36_0 8 rfl
theorem dX5_farTo_14 : decode cX5_farTo 14 = .ok (.iload_n 1, 1) := dq daX5_farTo_36_0 9 rfl
theorem dX5_farTo_15 : decode cX5_farTo 15 = .ok (.iaload, 1) := dq daX5_farTo_36_0 10 rfl
theorem dX5_farTo_16 : decode cX5_farTo 16 = .ok (.goto 5, 3) := dq daX5_farTo_36_0 11 rfl
def dtX5_passOf_36_0 : List (Nat × Jvm.ClassFile.Instr × Nat) := [(0, .iload_n 1, 1), (1, .ifCond .lt 26, 3), (27, .bipush (-2), 2), (29, .ireturn, 1), (4, .iload_n 1, 1), (5, .aload_n 0, 1), (6, .getfield 53, 3), (9, .if_icmp .ge 18, 3), (12, .iload_n 1, 1), (13, .bipush 6, 2), (15, .if_icmp .ge 12, 3), (18, .aload_n 0, 1), (19, .getfield 18, 3), (22, .iload_n 1, 1), (23, .iaload, 1), (24, .goto 5, 3)]
theorem daX5_passOf_36_0 : dtX5_passOf_36_0.all (dqd cX5_passOf) = true := by decide +kernel
theorem dX5_passOf_0 : decode cX5_passOf 0 = .ok (.iload_n 1, 1) := dq daX5_passOf_36_0 0 rfl
theorem dX5_passOf_1 : decode cX5_passOf 1 = .ok (.ifCond .lt 26, 3) := dq daX5_passOf_36_0 1 rfl
theorem dX5_passOf_27 : decode cX5_passOf 27 = .ok (.bipush (-2), 2) := dq daX5_passOf_36_0 2 rfl
theorem dX5_passOf_29 : decode cX5_passOf 29 = .ok (.ireturn, 1) := dq daX5_passOf_36_0 3 rfl
theorem dX5_passOf_4 : decode cX5_passOf 4 = .ok (.iload_n 1, 1) := dq daX5_passOf_36_0 4 rfl
theorem dX5_passOf_5 : decode cX5_passOf 5 = .ok (.aload_n 0, 1) := dq daX5_passOf_36_0 5 rfl
theorem dX5_passOf_6 : decode cX5_passOf 6 = .ok (.getfield 53, 3) := dq daX5_passOf_36_0 6 rfl
theorem dX5_passOf_9 : decode cX5_passOf 9 = .ok (.if_icmp .ge 18, 3) := dq daX5_passOf_36_0 7 rfl
theorem dX5_passOf_12 : decode cX5_passOf 12 = .ok (.iload_n 1, 1) := dq daX5_passOf_36_0 8 rfl
theorem dX5_passOf_13 : decode cX5_passOf 13 = .ok (.bipush 6, 2) := dq daX5_passOf_36_0 9 rfl
theorem dX5_passOf_15 : decode cX5_passOf 15 = .ok (.if_icmp .ge 12, 3) := dq daX5_passOf_36_0 10 rfl
theorem dX5_passOf_18 : decode cX5_passOf 18 = .ok (.aload_n 0, 1) := dq daX5_passOf_36_0 11 rfl
theorem dX5_passOf_19 : decode cX5_passOf 19 = .ok (.getfield 18, 3) := dq daX5_passOf_36_0 12 rfl
theorem dX5_passOf_22 : decode cX5_passOf 22 = .ok (.iload_n 1, 1) := dq daX5_passOf_36_0 13 rfl
theorem dX5_passOf_23 : decode cX5_passOf 23 = .ok (.iaload, 1) := dq daX5_passOf_36_0 14 rfl
theorem dX5_passOf_24 : decode cX5_passOf 24 = .ok (.goto 5, 3) := dq daX5_passOf_36_0 15 rfl
def dtX5_reach_36_0 : List (Nat × Jvm.ClassFile.Instr × Nat) := [(0, .iload_n 2, 1), (1, .aload_n 0, 1), (2, .iload_n 1, 1), (3, .invokevirtual 118, 3), (6, .if_icmp .ge 13, 3), (19, .iconst 0, 1), (20, .ireturn, 1), (9, .iload_n 1, 1), (10, .ifCond .lt 9, 3), (13, .iload_n 1, 1), (14, .bipush 12, 2), (16, .if_icmp .lt 5, 3), (21, .aload_n 0, 1), (22, .getfield 9, 3), (25, .iload_n 1, 1), (26, .iload_n 2, 1), (27, .iastore, 1), (28, .iconst 1, 1), (29, .ireturn, 1)]
theorem daX5_reach_36_0 : dtX5_reach_36_0.all (dqd cX5_reach) = true := by decide +kernel
theorem dX5_reach_0 : decode cX5_reach 0 = .ok (.iload_n 2, 1) := dq daX5_reach_36_0 0 rfl
theorem dX5_reach_1 : decode cX5_reach 1 = .ok (.aload_n 0, 1) := dq daX5_reach_36_0 1 rfl
theorem dX5_reach_2 : decode cX5_reach 2 = .ok (.iload_n 1, 1) := dq daX5_reach_36_0 2 rfl
theorem dX5_reach_3 : decode cX5_reach 3 = .ok (.invokevirtual 118, 3) := dq daX5_reach_36_0 3 rfl
theorem dX5_reach_6 : decode cX5_reach 6 = .ok (.if_icmp .ge 13, 3) := dq daX5_reach_36_0 4 rfl
theorem dX5_reach_19 : decode cX5_reach 19 = .ok (.iconst 0, 1) := dq daX5_reach_36_0 5 rfl
theorem dX5_reach_20 : decode cX5_reach 20 = .ok (.ireturn, 1) := dq daX5_reach_36_0 6 rfl
theorem dX5_reach_9 : decode cX5_reach 9 = .ok (.iload_n 1, 1) := dq daX5_reach_36_0 7 rfl
theorem dX5_reach_10 : decode cX5_reach 10 = .ok (.ifCond .lt 9, 3) := dq daX5_reach_36_0 8 rfl
theorem dX5_reach_13 : decode cX5_reach 13 = .ok (.iload_n 1, 1) := dq daX5_reach_36_0 9 rfl
theorem dX5_reach_14 : decode cX5_reach 14 = .ok (.bipush 12, 2) := dq daX5_reach_36_0 10 rfl
theorem dX5_reach_16 : decode cX5_reach 16 = .ok (.if_icmp .lt 5, 3) := dq daX5_reach_36_0 11 rfl
theorem dX5_reach_21 : decode cX5_reach 21 = .ok (.aload_n 0, 1) := dq daX5_reach_36_0 12 rfl
theorem dX5_reach_22 : decode cX5_reach 22 = .ok (.getfield 9, 3) := dq daX5_reach_36_0 13 rfl
theorem dX5_reach_25 : decode cX5_reach 25 = .ok (.iload_n 1, 1) := dq daX5_reach_36_0 14 rfl
theorem dX5_reach_26 : decode cX5_reach 26 = .ok (.iload_n 2, 1) := dq daX5_reach_36_0 15 rfl
theorem dX5_reach_27 : decode cX5_reach 27 = .ok (.iastore, 1) := dq daX5_reach_36_0 16 rfl
theorem dX5_reach_28 : decode cX5_reach 28 = .ok (.iconst 1, 1) := dq daX5_reach_36_0 17 rfl
theorem dX5_reach_29 : decode cX5_reach 29 = .ok (.ireturn, 1) := dq daX5_reach_36_0 18 rfl
def dtX5_shorten_36_0 : List (Nat × Jvm.ClassFile.Instr × Nat) := [(0, .aload_n 0, 1), (1, .getfield 21, 3), (4, .getfield 109, 3), (7, .iload_n 1, 1), (8, .iconst 0, 1), (9, .invokevirtual 82, 3), (12, .istore_n 3, 1), (13, .aload_n 0, 1), (14, .getfield 21, 3), (17, .getfield 109, 3), (20, .iload_n 1, 1), (21, .iconst 1, 1), (22, .invokevirtual 82, 3), (25, .istore 4, 2), (27, .iload_n 2, 1), (28, .ifCond .eq 18, 3), (46, .iconst 1, 1), (47, .istore 5, 2), (49, .aload_n 0, 1), (50, .iload_n 3, 1), (51, .aload_n 0, 1), (52, .iload 4, 2), (54, .invokevirtual 118, 3), (57, .iload 5, 2), (59, .iadd, 1), (60, .invokevirtual 129, 3), (63, .ifCond .ne 20, 3), (83, .iconst 1, 1), (84, .goto 4, 3), (66, .aload_n 0, 1), (67, .iload 4, 2), (69, .aload_n 0, 1)]
theorem daX5_shorten_36_0 : dtX5_shorten_36_0.all (dqd cX5_shorten) = true := by decide +kernel
theorem dX5_shorten_0 : decode cX5_shorten 0 = .ok (.aload_n 0, 1) := dq daX5_shorten_36_0 0 rfl
theorem dX5_shorten_1 : decode cX5_shorten 1 = .ok (.getfield 21, 3) := dq daX5_shorten_36_0 1 rfl
theorem dX5_shorten_4 : decode cX5_shorten 4 = .ok (.getfield 109, 3) := dq daX5_shorten_36_0 2 rfl
theorem dX5_shorten_7 : decode cX5_shorten 7 = .ok (.iload_n 1, 1) := dq daX5_shorten_36_0 3 rfl
theorem dX5_shorten_8 : decode cX5_shorten 8 = .ok (.iconst 0, 1) := dq daX5_shorten_36_0 4 rfl
theorem dX5_shorten_9 : decode cX5_shorten 9 = .ok (.invokevirtual 82, 3) := dq daX5_shorten_36_0 5 rfl
theorem dX5_shorten_12 : decode cX5_shorten 12 = .ok (.istore_n 3, 1) := dq daX5_shorten_36_0 6 rfl
theorem dX5_shorten_13 : decode cX5_shorten 13 = .ok (.aload_n 0, 1) := dq daX5_shorten_36_0 7 rfl
theorem dX5_shorten_14 : decode cX5_shorten 14 = .ok (.getfield 21, 3) := dq daX5_shorten_36_0 8 rfl
theorem dX5_shorten_17 : decode cX5_shorten 17 = .ok (.getfield 109, 3) := dq daX5_shorten_36_0 9 rfl
theorem dX5_shorten_20 : decode cX5_shorten 20 = .ok (.iload_n 1, 1) := dq daX5_shorten_36_0 10 rfl
theorem dX5_shorten_21 : decode cX5_shorten 21 = .ok (.iconst 1, 1) := dq daX5_shorten_36_0 11 rfl
theorem dX5_shorten_22 : decode cX5_shorten 22 = .ok (.invokevirtual 82, 3) := dq daX5_shorten_36_0 12 rfl
theorem dX5_shorten_25 : decode cX5_shorten 25 = .ok (.istore 4, 2) := dq daX5_shorten_36_0 13 rfl
theorem dX5_shorten_27 : decode cX5_shorten 27 = .ok (.iload_n 2, 1) := dq daX5_shorten_36_0 14 rfl
theorem dX5_shorten_28 : decode cX5_shorten 28 = .ok (.ifCond .eq 18, 3) := dq daX5_shorten_36_0 15 rfl
theorem dX5_shorten_46 : decode cX5_shorten 46 = .ok (.iconst 1, 1) := dq daX5_shorten_36_0 16 rfl
theorem dX5_shorten_47 : decode cX5_shorten 47 = .ok (.istore 5, 2) := dq daX5_shorten_36_0 17 rfl
theorem dX5_shorten_49 : decode cX5_shorten 49 = .ok (.aload_n 0, 1) := dq daX5_shorten_36_0 18 rfl
theorem dX5_shorten_50 : decode cX5_shorten 50 = .ok (.iload_n 3, 1) := dq daX5_shorten_36_0 19 rfl
theorem dX5_shorten_51 : decode cX5_shorten 51 = .ok (.aload_n 0, 1) := dq daX5_shorten_36_0 20 rfl
theorem dX5_shorten_52 : decode cX5_shorten 52 = .ok (.iload 4, 2) := dq daX5_shorten_36_0 21 rfl
theorem dX5_shorten_54 : decode cX5_shorten 54 = .ok (.invokevirtual 118, 3) := dq daX5_shorten_36_0 22 rfl
theorem dX5_shorten_57 : decode cX5_shorten 57 = .ok (.iload 5, 2) := dq daX5_shorten_36_0 23 rfl
theorem dX5_shorten_59 : decode cX5_shorten 59 = .ok (.iadd, 1) := dq daX5_shorten_36_0 24 rfl
theorem dX5_shorten_60 : decode cX5_shorten 60 = .ok (.invokevirtual 129, 3) := dq daX5_shorten_36_0 25 rfl
theorem dX5_shorten_63 : decode cX5_shorten 63 = .ok (.ifCond .ne 20, 3) := dq daX5_shorten_36_0 26 rfl
theorem dX5_shorten_83 : decode cX5_shorten 83 = .ok (.iconst 1, 1) := dq daX5_shorten_36_0 27 rfl
theorem dX5_shorten_84 : decode cX5_shorten 84 = .ok (.goto 4, 3) := dq daX5_shorten_36_0 28 rfl
theorem dX5_shorten_66 : decode cX5_shorten 66 = .ok (.aload_n 0, 1) := dq daX5_shorten_36_0 29 rfl
theorem dX5_shorten_67 : decode cX5_shorten 67 = .ok (.iload 4, 2) := dq daX5_shorten_36_0 30 rfl
theorem dX5_shorten_69 : decode cX5_shorten 69 = .ok (.aload_n 0, 1) := dq daX5_shorten_36_0 31 rfl
def dtX5_shorten_36_1 : List (Nat × Jvm.ClassFile.Instr × Nat) := [(70, .iload_n 3, 1), (71, .invokevirtual 118, 3), (74, .iload 5, 2), (76, .iadd, 1), (77, .invokevirtual 129, 3), (80, .ifCond .eq 7, 3), (87, .iconst 0, 1), (31, .aload_n 0, 1), (32, .getfield 21, 3), (35, .getfield 109, 3), (38, .iload_n 1, 1), (39, .iconst 2, 1), (40, .invokevirtual 82, 3), (43, .goto 4, 3), (88, .ireturn, 1)]
theorem daX5_shorten_36_1 : dtX5_shorten_36_1.all (dqd cX5_shorten) = true := by decide +kernel
theorem dX5_shorten_70 : decode cX5_shorten 70 = .ok (.iload_n 3, 1) := dq daX5_shorten_36_1 0 rfl
theorem dX5_shorten_71 : decode cX5_shorten 71 = .ok (.invokevirtual 118, 3) := dq daX5_shorten_36_1 1 rfl
theorem dX5_shorten_74 : decode cX5_shorten 74 = .ok (.iload 5, 2) := dq daX5_shorten_36_1 2 rfl
theorem dX5_shorten_76 : decode cX5_shorten 76 = .ok (.iadd, 1) := dq daX5_shorten_36_1 3 rfl
theorem dX5_shorten_77 : decode cX5_shorten 77 = .ok (.invokevirtual 129, 3) := dq daX5_shorten_36_1 4 rfl
theorem dX5_shorten_80 : decode cX5_shorten 80 = .ok (.ifCond .eq 7, 3) := dq daX5_shorten_36_1 5 rfl
theorem dX5_shorten_87 : decode cX5_shorten 87 = .ok (.iconst 0, 1) := dq daX5_shorten_36_1 6 rfl
theorem dX5_shorten_31 : decode cX5_shorten 31 = .ok (.aload_n 0, 1) := dq daX5_shorten_36_1 7 rfl
theorem dX5_shorten_32 : decode cX5_shorten 32 = .ok (.getfield 21, 3) := dq daX5_shorten_36_1 8 rfl
theorem dX5_shorten_35 : decode cX5_shorten 35 = .ok (.getfield 109, 3) := dq daX5_shorten_36_1 9 rfl
theorem dX5_shorten_38 : decode cX5_shorten 38 = .ok (.iload_n 1, 1) := dq daX5_shorten_36_1 10 rfl
theorem dX5_shorten_39 : decode cX5_shorten 39 = .ok (.iconst 2, 1) := dq daX5_shorten_36_1 11 rfl
theorem dX5_shorten_40 : decode cX5_shorten 40 = .ok (.invokevirtual 82, 3) := dq daX5_shorten_36_1 12 rfl
theorem dX5_shorten_43 : decode cX5_shorten 43 = .ok (.goto 4, 3) := dq daX5_shorten_36_1 13 rfl
theorem dX5_shorten_88 : decode cX5_shorten 88 = .ok (.ireturn, 1) := dq daX5_shorten_36_1 14 rfl
def dtX5_measure_36_0 : List (Nat × Jvm.ClassFile.Instr × Nat) := [(0, .iconst 0, 1), (1, .istore 4, 2), (3, .iload 4, 2), (5, .bipush 12, 2), (7, .if_icmp .ge 28, 3), (10, .aload_n 0, 1), (11, .getfield 9, 3), (14, .iload 4, 2), (16, .iload 4, 2), (18, .iload_n 1, 1), (19, .if_icmp .ne 7, 3), (26, .ldc 40, 2), (28, .iastore, 1), (29, .iinc 4 1, 3), (32, .goto (-29), 3), (22, .iconst 0, 1), (23, .goto 5, 3), (35, .iconst 1, 1), (36, .istore 4, 2), (38, .iconst 0, 1), (39, .istore 5, 2), (41, .iload 5, 2), (43, .bipush 12, 2), (45, .if_icmp .ge 60, 3), (48, .iload 4, 2), (50, .ifCond .eq 55, 3), (53, .iconst 0, 1), (54, .istore 4, 2), (56, .iconst 0, 1), (57, .istore 6, 2), (59, .iload 6, 2), (61, .aload_n 0, 1)]
theorem daX5_measure_36_0 : dtX5_measure_36_0.all (dqd cX5_measure) = true := by decide +kernel
theorem dX5_measure_0 : decode cX5_measure 0 = .ok (.iconst 0, 1) := dq daX5_measure_36_0 0 rfl
theorem dX5_measure_1 : decode cX5_measure 1 = .ok (.istore 4, 2) := dq daX5_measure_36_0 1 rfl
theorem dX5_measure_3 : decode cX5_measure 3 = .ok (.iload 4, 2) := dq daX5_measure_36_0 2 rfl
theorem dX5_measure_5 : decode cX5_measure 5 = .ok (.bipush 12, 2) := dq daX5_measure_36_0 3 rfl
theorem dX5_measure_7 : decode cX5_measure 7 = .ok (.if_icmp .ge 28, 3) := dq daX5_measure_36_0 4 rfl
theorem dX5_measure_10 : decode cX5_measure 10 = .ok (.aload_n 0, 1) := dq daX5_measure_36_0 5 rfl
theorem dX5_measure_11 : decode cX5_measure 11 = .ok (.getfield 9, 3) := dq daX5_measure_36_0 6 rfl
theorem dX5_measure_14 : decode cX5_measure 14 = .ok (.iload 4, 2) := dq daX5_measure_36_0 7 rfl
theorem dX5_measure_16 : decode cX5_measure 16 = .ok (.iload 4, 2) := dq daX5_measure_36_0 8 rfl
theorem dX5_measure_18 : decode cX5_measure 18 = .ok (.iload_n 1, 1) := dq daX5_measure_36_0 9 rfl
theorem dX5_measure_19 : decode cX5_measure 19 = .ok (.if_icmp .ne 7, 3) := dq daX5_measure_36_0 10 rfl
theorem dX5_measure_26 : decode cX5_measure 26 = .ok (.ldc 40, 2) := dq daX5_measure_36_0 11 rfl
theorem dX5_measure_28 : decode cX5_measure 28 = .ok (.iastore, 1) := dq daX5_measure_36_0 12 rfl
theorem dX5_measure_29 : decode cX5_measure 29 = .ok (.iinc 4 1, 3) := dq daX5_measure_36_0 13 rfl
theorem dX5_measure_32 : decode cX5_measure 32 = .ok (.goto (-29), 3) := dq daX5_measure_36_0 14 rfl
theorem dX5_measure_22 : decode cX5_measure 22 = .ok (.iconst 0, 1) := dq daX5_measure_36_0 15 rfl
theorem dX5_measure_23 : decode cX5_measure 23 = .ok (.goto 5, 3) := dq daX5_measure_36_0 16 rfl
theorem dX5_measure_35 : decode cX5_measure 35 = .ok (.iconst 1, 1) := dq daX5_measure_36_0 17 rfl
theorem dX5_measure_36 : decode cX5_measure 36 = .ok (.istore 4, 2) := dq daX5_measure_36_0 18 rfl
theorem dX5_measure_38 : decode cX5_measure 38 = .ok (.iconst 0, 1) := dq daX5_measure_36_0 19 rfl
theorem dX5_measure_39 : decode cX5_measure 39 = .ok (.istore 5, 2) := dq daX5_measure_36_0 20 rfl
theorem dX5_measure_41 : decode cX5_measure 41 = .ok (.iload 5, 2) := dq daX5_measure_36_0 21 rfl
theorem dX5_measure_43 : decode cX5_measure 43 = .ok (.bipush 12, 2) := dq daX5_measure_36_0 22 rfl
theorem dX5_measure_45 : decode cX5_measure 45 = .ok (.if_icmp .ge 60, 3) := dq daX5_measure_36_0 23 rfl
theorem dX5_measure_48 : decode cX5_measure 48 = .ok (.iload 4, 2) := dq daX5_measure_36_0 24 rfl
theorem dX5_measure_50 : decode cX5_measure 50 = .ok (.ifCond .eq 55, 3) := dq daX5_measure_36_0 25 rfl
theorem dX5_measure_53 : decode cX5_measure 53 = .ok (.iconst 0, 1) := dq daX5_measure_36_0 26 rfl
theorem dX5_measure_54 : decode cX5_measure 54 = .ok (.istore 4, 2) := dq daX5_measure_36_0 27 rfl
theorem dX5_measure_56 : decode cX5_measure 56 = .ok (.iconst 0, 1) := dq daX5_measure_36_0 28 rfl
theorem dX5_measure_57 : decode cX5_measure 57 = .ok (.istore 6, 2) := dq daX5_measure_36_0 29 rfl
theorem dX5_measure_59 : decode cX5_measure 59 = .ok (.iload 6, 2) := dq daX5_measure_36_0 30 rfl
theorem dX5_measure_61 : decode cX5_measure 61 = .ok (.aload_n 0, 1) := dq daX5_measure_36_0 31 rfl
def dtX5_measure_36_1 : List (Nat × Jvm.ClassFile.Instr × Nat) := [(62, .getfield 21, 3), (65, .getfield 109, 3), (68, .getfield 112, 3), (71, .if_icmp .ge 28, 3), (74, .iload 6, 2), (76, .iload_n 2, 1), (77, .if_icmp .eq 16, 3), (93, .iinc 6 1, 3), (96, .goto (-37), 3), (80, .aload_n 0, 1), (81, .iload 6, 2), (83, .iload_n 3, 1), (84, .invokevirtual 125, 3), (87, .ifCond .eq 6, 3), (90, .iconst 1, 1), (91, .istore 4, 2), (99, .iinc 5 1, 3), (102, .goto (-61), 3), (105, .return_, 1)]
theorem daX5_measure_36_1 : dtX5_measure_36_1.all (dqd cX5_measure) = true := by decide +kernel
theorem dX5_measure_62 : decode cX5_measure 62 = .ok (.getfield 21, 3) := dq daX5_measure_36_1 0 rfl
theorem dX5_measure_65 : decode cX5_measure 65 = .ok (.getfield 109, 3) := dq daX5_measure_36_1 1 rfl
theorem dX5_measure_68 : decode cX5_measure 68 = .ok (.getfield 112, 3) := dq daX5_measure_36_1 2 rfl
theorem dX5_measure_71 : decode cX5_measure 71 = .ok (.if_icmp .ge 28, 3) := dq daX5_measure_36_1 3 rfl
theorem dX5_measure_74 : decode cX5_measure 74 = .ok (.iload 6, 2) := dq daX5_measure_36_1 4 rfl
theorem dX5_measure_76 : decode cX5_measure 76 = .ok (.iload_n 2, 1) := dq daX5_measure_36_1 5 rfl
theorem dX5_measure_77 : decode cX5_measure 77 = .ok (.if_icmp .eq 16, 3) := dq daX5_measure_36_1 6 rfl
theorem dX5_measure_93 : decode cX5_measure 93 = .ok (.iinc 6 1, 3) := dq daX5_measure_36_1 7 rfl
theorem dX5_measure_96 : decode cX5_measure 96 = .ok (.goto (-37), 3) := dq daX5_measure_36_1 8 rfl
theorem dX5_measure_80 : decode cX5_measure 80 = .ok (.aload_n 0, 1) := dq daX5_measure_36_1 9 rfl
theorem dX5_measure_81 : decode cX5_measure 81 = .ok (.iload 6, 2) := dq daX5_measure_36_1 10 rfl
theorem dX5_measure_83 : decode cX5_measure 83 = .ok (.iload_n 3, 1) := dq daX5_measure_36_1 11 rfl
theorem dX5_measure_84 : decode cX5_measure 84 = .ok (.invokevirtual 125, 3) := dq daX5_measure_36_1 12 rfl
theorem dX5_measure_87 : decode cX5_measure 87 = .ok (.ifCond .eq 6, 3) := dq daX5_measure_36_1 13 rfl
theorem dX5_measure_90 : decode cX5_measure 90 = .ok (.iconst 1, 1) := dq daX5_measure_36_1 14 rfl
theorem dX5_measure_91 : decode cX5_measure 91 = .ok (.istore 4, 2) := dq daX5_measure_36_1 15 rfl
theorem dX5_measure_99 : decode cX5_measure 99 = .ok (.iinc 5 1, 3) := dq daX5_measure_36_1 16 rfl
theorem dX5_measure_102 : decode cX5_measure 102 = .ok (.goto (-61), 3) := dq daX5_measure_36_1 17 rfl
theorem dX5_measure_105 : decode cX5_measure 105 = .ok (.return_, 1) := dq daX5_measure_36_1 18 rfl
def dtX5_keep_36_0 : List (Nat × Jvm.ClassFile.Instr × Nat) := [(0, .aload_n 0, 1), (1, .aload_n 0, 1), (2, .getfield 36, 3), (5, .ifCond .eq 8, 3), (13, .aload_n 0, 1), (14, .getfield 25, 3), (17, .getfield 65, 3), (20, .putfield 44, 3), (23, .aload_n 0, 1), (24, .getfield 25, 3), (27, .aload_n 0, 1), (28, .getfield 44, 3), (31, .iconst 1, 1), (32, .iadd, 1), (33, .putfield 102, 3), (36, .aload_n 0, 1), (37, .aload_n 0, 1), (38, .getfield 50, 3), (41, .putfield 47, 3), (44, .aload_n 0, 1), (45, .iload_n 1, 1), (46, .putfield 53, 3), (49, .iconst 0, 1), (50, .istore_n 2, 1), (51, .iload_n 2, 1), (52, .iload_n 1, 1), (53, .if_icmp .ge 27, 3), (56, .iload_n 2, 1), (57, .bipush 6, 2), (59, .if_icmp .ge 21, 3), (62, .aload_n 0, 1), (63, .getfield 18, 3)]
theorem daX5_keep_36_0 : dtX5_keep_36_0.all (dqd cX5_keep) = true := by decide +kernel
theorem dX5_keep_0 : decode cX5_keep 0 = .ok (.aload_n 0, 1) := dq daX5_keep_36_0 0 rfl
theorem dX5_keep_1 : decode cX5_keep 1 = .ok (.aload_n 0, 1) := dq daX5_keep_36_0 1 rfl
theorem dX5_keep_2 : decode cX5_keep 2 = .ok (.getfield 36, 3) := dq daX5_keep_36_0 2 rfl
theorem dX5_keep_5 : decode cX5_keep 5 = .ok (.ifCond .eq 8, 3) := dq daX5_keep_36_0 3 rfl
theorem dX5_keep_13 : decode cX5_keep 13 = .ok (.aload_n 0, 1) := dq daX5_keep_36_0 4 rfl
theorem dX5_keep_14 : decode cX5_keep 14 = .ok (.getfield 25, 3) := dq daX5_keep_36_0 5 rfl
theorem dX5_keep_17 : decode cX5_keep 17 = .ok (.getfield 65, 3) := dq daX5_keep_36_0 6 rfl
theorem dX5_keep_20 : decode cX5_keep 20 = .ok (.putfield 44, 3) := dq daX5_keep_36_0 7 rfl
theorem dX5_keep_23 : decode cX5_keep 23 = .ok (.aload_n 0, 1) := dq daX5_keep_36_0 8 rfl
theorem dX5_keep_24 : decode cX5_keep 24 = .ok (.getfield 25, 3) := dq daX5_keep_36_0 9 rfl
theorem dX5_keep_27 : decode cX5_keep 27 = .ok (.aload_n 0, 1) := dq daX5_keep_36_0 10 rfl
theorem dX5_keep_28 : decode cX5_keep 28 = .ok (.getfield 44, 3) := dq daX5_keep_36_0 11 rfl
theorem dX5_keep_31 : decode cX5_keep 31 = .ok (.iconst 1, 1) := dq daX5_keep_36_0 12 rfl
theorem dX5_keep_32 : decode cX5_keep 32 = .ok (.iadd, 1) := dq daX5_keep_36_0 13 rfl
theorem dX5_keep_33 : decode cX5_keep 33 = .ok (.putfield 102, 3) := dq daX5_keep_36_0 14 rfl
theorem dX5_keep_36 : decode cX5_keep 36 = .ok (.aload_n 0, 1) := dq daX5_keep_36_0 15 rfl
theorem dX5_keep_37 : decode cX5_keep 37 = .ok (.aload_n 0, 1) := dq daX5_keep_36_0 16 rfl
theorem dX5_keep_38 : decode cX5_keep 38 = .ok (.getfield 50, 3) := dq daX5_keep_36_0 17 rfl
theorem dX5_keep_41 : decode cX5_keep 41 = .ok (.putfield 47, 3) := dq daX5_keep_36_0 18 rfl
theorem dX5_keep_44 : decode cX5_keep 44 = .ok (.aload_n 0, 1) := dq daX5_keep_36_0 19 rfl
theorem dX5_keep_45 : decode cX5_keep 45 = .ok (.iload_n 1, 1) := dq daX5_keep_36_0 20 rfl
theorem dX5_keep_46 : decode cX5_keep 46 = .ok (.putfield 53, 3) := dq daX5_keep_36_0 21 rfl
theorem dX5_keep_49 : decode cX5_keep 49 = .ok (.iconst 0, 1) := dq daX5_keep_36_0 22 rfl
theorem dX5_keep_50 : decode cX5_keep 50 = .ok (.istore_n 2, 1) := dq daX5_keep_36_0 23 rfl
theorem dX5_keep_51 : decode cX5_keep 51 = .ok (.iload_n 2, 1) := dq daX5_keep_36_0 24 rfl
theorem dX5_keep_52 : decode cX5_keep 52 = .ok (.iload_n 1, 1) := dq daX5_keep_36_0 25 rfl
theorem dX5_keep_53 : decode cX5_keep 53 = .ok (.if_icmp .ge 27, 3) := dq daX5_keep_36_0 26 rfl
theorem dX5_keep_56 : decode cX5_keep 56 = .ok (.iload_n 2, 1) := dq daX5_keep_36_0 27 rfl
theorem dX5_keep_57 : decode cX5_keep 57 = .ok (.bipush 6, 2) := dq daX5_keep_36_0 28 rfl
theorem dX5_keep_59 : decode cX5_keep 59 = .ok (.if_icmp .ge 21, 3) := dq daX5_keep_36_0 29 rfl
theorem dX5_keep_62 : decode cX5_keep 62 = .ok (.aload_n 0, 1) := dq daX5_keep_36_0 30 rfl
theorem dX5_keep_63 : decode cX5_keep 63 = .ok (.getfield 18, 3) := dq daX5_keep_36_0 31 rfl
def dtX5_keep_36_1 : List (Nat × Jvm.ClassFile.Instr × Nat) := [(66, .iload_n 2, 1), (67, .aload_n 0, 1), (68, .getfield 15, 3), (71, .iload_n 2, 1), (72, .iaload, 1), (73, .iastore, 1), (74, .iinc 2 1, 3), (77, .goto (-26), 3), (8, .ldc 124, 2), (10, .goto 10, 3), (80, .return_, 1)]
theorem daX5_keep_36_1 : dtX5_keep_36_1.all (dqd cX5_keep) = true := by decide +kernel
theorem dX5_keep_66 : decode cX5_keep 66 = .ok (.iload_n 2, 1) := dq daX5_keep_36_1 0 rfl
theorem dX5_keep_67 : decode cX5_keep 67 = .ok (.aload_n 0, 1) := dq daX5_keep_36_1 1 rfl
theorem dX5_keep_68 : decode cX5_keep 68 = .ok (.getfield 15, 3) := dq daX5_keep_36_1 2 rfl
theorem dX5_keep_71 : decode cX5_keep 71 = .ok (.iload_n 2, 1) := dq daX5_keep_36_1 3 rfl
theorem dX5_keep_72 : decode cX5_keep 72 = .ok (.iaload, 1) := dq daX5_keep_36_1 4 rfl
theorem dX5_keep_73 : decode cX5_keep 73 = .ok (.iastore, 1) := dq daX5_keep_36_1 5 rfl
theorem dX5_keep_74 : decode cX5_keep 74 = .ok (.iinc 2 1, 3) := dq daX5_keep_36_1 6 rfl
theorem dX5_keep_77 : decode cX5_keep 77 = .ok (.goto (-26), 3) := dq daX5_keep_36_1 7 rfl
theorem dX5_keep_8 : decode cX5_keep 8 = .ok (.ldc 124, 2) := dq daX5_keep_36_1 8 rfl
theorem dX5_keep_10 : decode cX5_keep 10 = .ok (.goto 10, 3) := dq daX5_keep_36_1 9 rfl
theorem dX5_keep_80 : decode cX5_keep 80 = .ok (.return_, 1) := dq daX5_keep_36_1 10 rfl
def dtX5_seek_36_0 : List (Nat × Jvm.ClassFile.Instr × Nat) := [(0, .aload_n 0, 1), (1, .getfield 25, 3), (4, .getfield 65, 3), (7, .aload_n 0, 1), (8, .getfield 44, 3), (11, .if_icmp .le 17, 3), (28, .return_, 1), (14, .aload_n 0, 1), (15, .getfield 25, 3), (18, .getfield 60, 3), (21, .aload_n 0, 1), (22, .getfield 41, 3), (25, .if_icmp .le 4, 3), (29, .iload_n 1, 1), (30, .aload_n 0, 1), (31, .getfield 29, 3), (34, .if_icmp .ne 9, 3), (43, .iload_n 2, 1), (44, .bipush 6, 2), (46, .if_icmp .lt 4, 3), (49, .return_, 1), (37, .aload_n 0, 1), (38, .iload_n 2, 1), (39, .invokevirtual 105, 3), (42, .return_, 1), (50, .aload_n 0, 1), (51, .getfield 25, 3), (54, .getfield 65, 3), (57, .istore 4, 2), (59, .aload_n 0, 1), (60, .getfield 25, 3), (63, .getfield 60, 3)]
theorem daX5_seek_36_0 : dtX5_seek_36_0.all (dqd cX5_seek) = true := by decide +kernel
theorem dX5_seek_0 : decode cX5_seek 0 = .ok (.aload_n 0, 1) := dq daX5_seek_36_0 0 rfl
theorem dX5_seek_1 : decode cX5_seek 1 = .ok (.getfield 25, 3) := dq daX5_seek_36_0 1 rfl
theorem dX5_seek_4 : decode cX5_seek 4 = .ok (.getfield 65, 3) := dq daX5_seek_36_0 2 rfl
theorem dX5_seek_7 : decode cX5_seek 7 = .ok (.aload_n 0, 1) := dq daX5_seek_36_0 3 rfl
theorem dX5_seek_8 : decode cX5_seek 8 = .ok (.getfield 44, 3) := dq daX5_seek_36_0 4 rfl
theorem dX5_seek_11 : decode cX5_seek 11 = .ok (.if_icmp .le 17, 3) := dq daX5_seek_36_0 5 rfl
theorem dX5_seek_28 : decode cX5_seek 28 = .ok (.return_, 1) := dq daX5_seek_36_0 6 rfl
theorem dX5_seek_14 : decode cX5_seek 14 = .ok (.aload_n 0, 1) := dq daX5_seek_36_0 7 rfl
theorem dX5_seek_15 : decode cX5_seek 15 = .ok (.getfield 25, 3) := dq daX5_seek_36_0 8 rfl
theorem dX5_seek_18 : decode cX5_seek 18 = .ok (.getfield 60, 3) := dq daX5_seek_36_0 9 rfl
theorem dX5_seek_21 : decode cX5_seek 21 = .ok (.aload_n 0, 1) := dq daX5_seek_36_0 10 rfl
theorem dX5_seek_22 : decode cX5_seek 22 = .ok (.getfield 41, 3) := dq daX5_seek_36_0 11 rfl
theorem dX5_seek_25 : decode cX5_seek 25 = .ok (.if_icmp .le 4, 3) := dq daX5_seek_36_0 12 rfl
theorem dX5_seek_29 : decode cX5_seek 29 = .ok (.iload_n 1, 1) := dq daX5_seek_36_0 13 rfl
theorem dX5_seek_30 : decode cX5_seek 30 = .ok (.aload_n 0, 1) := dq daX5_seek_36_0 14 rfl
theorem dX5_seek_31 : decode cX5_seek 31 = .ok (.getfield 29, 3) := dq daX5_seek_36_0 15 rfl
theorem dX5_seek_34 : decode cX5_seek 34 = .ok (.if_icmp .ne 9, 3) := dq daX5_seek_36_0 16 rfl
theorem dX5_seek_43 : decode cX5_seek 43 = .ok (.iload_n 2, 1) := dq daX5_seek_36_0 17 rfl
theorem dX5_seek_44 : decode cX5_seek 44 = .ok (.bipush 6, 2) := dq daX5_seek_36_0 18 rfl
theorem dX5_seek_46 : decode cX5_seek 46 = .ok (.if_icmp .lt 4, 3) := dq daX5_seek_36_0 19 rfl
theorem dX5_seek_49 : decode cX5_seek 49 = .ok (.return_, 1) := dq daX5_seek_36_0 20 rfl
theorem dX5_seek_37 : decode cX5_seek 37 = .ok (.aload_n 0, 1) := dq daX5_seek_36_0 21 rfl
theorem dX5_seek_38 : decode cX5_seek 38 = .ok (.iload_n 2, 1) := dq daX5_seek_36_0 22 rfl
theorem dX5_seek_39 : decode cX5_seek 39 = .ok (.invokevirtual 105, 3) := dq daX5_seek_36_0 23 rfl
theorem dX5_seek_42 : decode cX5_seek 42 = .ok (.return_, 1) := dq daX5_seek_36_0 24 rfl
theorem dX5_seek_50 : decode cX5_seek 50 = .ok (.aload_n 0, 1) := dq daX5_seek_36_0 25 rfl
theorem dX5_seek_51 : decode cX5_seek 51 = .ok (.getfield 25, 3) := dq daX5_seek_36_0 26 rfl
theorem dX5_seek_54 : decode cX5_seek 54 = .ok (.getfield 65, 3) := dq daX5_seek_36_0 27 rfl
theorem dX5_seek_57 : decode cX5_seek 57 = .ok (.istore 4, 2) := dq daX5_seek_36_0 28 rfl
theorem dX5_seek_59 : decode cX5_seek 59 = .ok (.aload_n 0, 1) := dq daX5_seek_36_0 29 rfl
theorem dX5_seek_60 : decode cX5_seek 60 = .ok (.getfield 25, 3) := dq daX5_seek_36_0 30 rfl
theorem dX5_seek_63 : decode cX5_seek 63 = .ok (.getfield 60, 3) := dq daX5_seek_36_0 31 rfl
def dtX5_seek_36_1 : List (Nat × Jvm.ClassFile.Instr × Nat) := [(66, .istore 5, 2), (68, .iconst 0, 1), (69, .istore 6, 2), (71, .iload 6, 2), (73, .aload_n 0, 1), (74, .getfield 21, 3), (77, .getfield 109, 3), (80, .getfield 112, 3), (83, .if_icmp .ge 137, 3), (86, .iload 4, 2), (88, .aload_n 0, 1), (89, .getfield 44, 3), (92, .if_icmp .le 128, 3), (95, .iload 6, 2), (97, .aload_n 0, 1), (98, .getfield 33, 3), (101, .if_icmp .ne 7, 3), (108, .aload_n 0, 1), (109, .getfield 21, 3), (112, .iload 6, 2), (114, .iload_n 1, 1), (115, .invokevirtual 115, 3), (118, .istore 7, 2), (120, .iload 7, 2), (122, .iconst (-1), 1), (123, .if_icmp .eq 16, 3), (139, .iconst 0, 1), (140, .istore 8, 2), (142, .iload 8, 2), (144, .ifCond .eq 70, 3), (214, .iinc 6 1, 3), (217, .goto (-146), 3)]
theorem daX5_seek_36_1 : dtX5_seek_36_1.all (dqd cX5_seek) = true := by decide +kernel
theorem dX5_seek_66 : decode cX5_seek 66 = .ok (.istore 5, 2) := dq daX5_seek_36_1 0 rfl
theorem dX5_seek_68 : decode cX5_seek 68 = .ok (.iconst 0, 1) := dq daX5_seek_36_1 1 rfl
theorem dX5_seek_69 : decode cX5_seek 69 = .ok (.istore 6, 2) := dq daX5_seek_36_1 2 rfl
theorem dX5_seek_71 : decode cX5_seek 71 = .ok (.iload 6, 2) := dq daX5_seek_36_1 3 rfl
theorem dX5_seek_73 : decode cX5_seek 73 = .ok (.aload_n 0, 1) := dq daX5_seek_36_1 4 rfl
theorem dX5_seek_74 : decode cX5_seek 74 = .ok (.getfield 21, 3) := dq daX5_seek_36_1 5 rfl
theorem dX5_seek_77 : decode cX5_seek 77 = .ok (.getfield 109, 3) := dq daX5_seek_36_1 6 rfl
theorem dX5_seek_80 : decode cX5_seek 80 = .ok (.getfield 112, 3) := dq daX5_seek_36_1 7 rfl
theorem dX5_seek_83 : decode cX5_seek 83 = .ok (.if_icmp .ge 137, 3) := dq daX5_seek_36_1 8 rfl
theorem dX5_seek_86 : decode cX5_seek 86 = .ok (.iload 4, 2) := dq daX5_seek_36_1 9 rfl
theorem dX5_seek_88 : decode cX5_seek 88 = .ok (.aload_n 0, 1) := dq daX5_seek_36_1 10 rfl
theorem dX5_seek_89 : decode cX5_seek 89 = .ok (.getfield 44, 3) := dq daX5_seek_36_1 11 rfl
theorem dX5_seek_92 : decode cX5_seek 92 = .ok (.if_icmp .le 128, 3) := dq daX5_seek_36_1 12 rfl
theorem dX5_seek_95 : decode cX5_seek 95 = .ok (.iload 6, 2) := dq daX5_seek_36_1 13 rfl
theorem dX5_seek_97 : decode cX5_seek 97 = .ok (.aload_n 0, 1) := dq daX5_seek_36_1 14 rfl
theorem dX5_seek_98 : decode cX5_seek 98 = .ok (.getfield 33, 3) := dq daX5_seek_36_1 15 rfl
theorem dX5_seek_101 : decode cX5_seek 101 = .ok (.if_icmp .ne 7, 3) := dq daX5_seek_36_1 16 rfl
theorem dX5_seek_108 : decode cX5_seek 108 = .ok (.aload_n 0, 1) := dq daX5_seek_36_1 17 rfl
theorem dX5_seek_109 : decode cX5_seek 109 = .ok (.getfield 21, 3) := dq daX5_seek_36_1 18 rfl
theorem dX5_seek_112 : decode cX5_seek 112 = .ok (.iload 6, 2) := dq daX5_seek_36_1 19 rfl
theorem dX5_seek_114 : decode cX5_seek 114 = .ok (.iload_n 1, 1) := dq daX5_seek_36_1 20 rfl
theorem dX5_seek_115 : decode cX5_seek 115 = .ok (.invokevirtual 115, 3) := dq daX5_seek_36_1 21 rfl
theorem dX5_seek_118 : decode cX5_seek 118 = .ok (.istore 7, 2) := dq daX5_seek_36_1 22 rfl
theorem dX5_seek_120 : decode cX5_seek 120 = .ok (.iload 7, 2) := dq daX5_seek_36_1 23 rfl
theorem dX5_seek_122 : decode cX5_seek 122 = .ok (.iconst (-1), 1) := dq daX5_seek_36_1 24 rfl
theorem dX5_seek_123 : decode cX5_seek 123 = .ok (.if_icmp .eq 16, 3) := dq daX5_seek_36_1 25 rfl
theorem dX5_seek_139 : decode cX5_seek 139 = .ok (.iconst 0, 1) := dq daX5_seek_36_1 26 rfl
theorem dX5_seek_140 : decode cX5_seek 140 = .ok (.istore 8, 2) := dq daX5_seek_36_1 27 rfl
theorem dX5_seek_142 : decode cX5_seek 142 = .ok (.iload 8, 2) := dq daX5_seek_36_1 28 rfl
theorem dX5_seek_144 : decode cX5_seek 144 = .ok (.ifCond .eq 70, 3) := dq daX5_seek_36_1 29 rfl
theorem dX5_seek_214 : decode cX5_seek 214 = .ok (.iinc 6 1, 3) := dq daX5_seek_36_1 30 rfl
theorem dX5_seek_217 : decode cX5_seek 217 = .ok (.goto (-146), 3) := dq daX5_seek_36_1 31 rfl
def dtX5_seek_36_2 : List (Nat × Jvm.ClassFile.Instr × Nat) := [(126, .iload_n 3, 1), (127, .iload 7, 2), (129, .ishr, 1), (130, .iconst 1, 1), (131, .iand, 1), (132, .ifCond .ne 7, 3), (135, .iconst 1, 1), (136, .goto 4, 3), (147, .iload_n 2, 1), (148, .iconst 1, 1), (149, .iadd, 1), (150, .aload_n 0, 1), (151, .iload 7, 2), (153, .invokevirtual 118, 3), (156, .iadd, 1), (157, .bipush 6, 2), (159, .if_icmp .gt 55, 3), (162, .aload_n 0, 1), (163, .getfield 15, 3), (166, .iload_n 2, 1), (167, .iload 6, 2), (169, .iastore, 1), (170, .aload_n 0, 1), (171, .getfield 25, 3), (174, .iload 6, 2), (176, .iload_n 1, 1), (177, .invokevirtual 121, 3), (180, .pop, 1), (181, .aload_n 0, 1), (182, .iload 7, 2), (184, .iload_n 2, 1), (185, .iconst 1, 1)]
theorem daX5_seek_36_2 : dtX5_seek_36_2.all (dqd cX5_seek) = true := by decide +kernel
theorem dX5_seek_126 : decode cX5_seek 126 = .ok (.iload_n 3, 1) := dq daX5_seek_36_2 0 rfl
theorem dX5_seek_127 : decode cX5_seek 127 = .ok (.iload 7, 2) := dq daX5_seek_36_2 1 rfl
theorem dX5_seek_129 : decode cX5_seek 129 = .ok (.ishr, 1) := dq daX5_seek_36_2 2 rfl
theorem dX5_seek_130 : decode cX5_seek 130 = .ok (.iconst 1, 1) := dq daX5_seek_36_2 3 rfl
theorem dX5_seek_131 : decode cX5_seek 131 = .ok (.iand, 1) := dq daX5_seek_36_2 4 rfl
theorem dX5_seek_132 : decode cX5_seek 132 = .ok (.ifCond .ne 7, 3) := dq daX5_seek_36_2 5 rfl
theorem dX5_seek_135 : decode cX5_seek 135 = .ok (.iconst 1, 1) := dq daX5_seek_36_2 6 rfl
theorem dX5_seek_136 : decode cX5_seek 136 = .ok (.goto 4, 3) := dq daX5_seek_36_2 7 rfl
theorem dX5_seek_147 : decode cX5_seek 147 = .ok (.iload_n 2, 1) := dq daX5_seek_36_2 8 rfl
theorem dX5_seek_148 : decode cX5_seek 148 = .ok (.iconst 1, 1) := dq daX5_seek_36_2 9 rfl
theorem dX5_seek_149 : decode cX5_seek 149 = .ok (.iadd, 1) := dq daX5_seek_36_2 10 rfl
theorem dX5_seek_150 : decode cX5_seek 150 = .ok (.aload_n 0, 1) := dq daX5_seek_36_2 11 rfl
theorem dX5_seek_151 : decode cX5_seek 151 = .ok (.iload 7, 2) := dq daX5_seek_36_2 12 rfl
theorem dX5_seek_153 : decode cX5_seek 153 = .ok (.invokevirtual 118, 3) := dq daX5_seek_36_2 13 rfl
theorem dX5_seek_156 : decode cX5_seek 156 = .ok (.iadd, 1) := dq daX5_seek_36_2 14 rfl
theorem dX5_seek_157 : decode cX5_seek 157 = .ok (.bipush 6, 2) := dq daX5_seek_36_2 15 rfl
theorem dX5_seek_159 : decode cX5_seek 159 = .ok (.if_icmp .gt 55, 3) := dq daX5_seek_36_2 16 rfl
theorem dX5_seek_162 : decode cX5_seek 162 = .ok (.aload_n 0, 1) := dq daX5_seek_36_2 17 rfl
theorem dX5_seek_163 : decode cX5_seek 163 = .ok (.getfield 15, 3) := dq daX5_seek_36_2 18 rfl
theorem dX5_seek_166 : decode cX5_seek 166 = .ok (.iload_n 2, 1) := dq daX5_seek_36_2 19 rfl
theorem dX5_seek_167 : decode cX5_seek 167 = .ok (.iload 6, 2) := dq daX5_seek_36_2 20 rfl
theorem dX5_seek_169 : decode cX5_seek 169 = .ok (.iastore, 1) := dq daX5_seek_36_2 21 rfl
theorem dX5_seek_170 : decode cX5_seek 170 = .ok (.aload_n 0, 1) := dq daX5_seek_36_2 22 rfl
theorem dX5_seek_171 : decode cX5_seek 171 = .ok (.getfield 25, 3) := dq daX5_seek_36_2 23 rfl
theorem dX5_seek_174 : decode cX5_seek 174 = .ok (.iload 6, 2) := dq daX5_seek_36_2 24 rfl
theorem dX5_seek_176 : decode cX5_seek 176 = .ok (.iload_n 1, 1) := dq daX5_seek_36_2 25 rfl
theorem dX5_seek_177 : decode cX5_seek 177 = .ok (.invokevirtual 121, 3) := dq daX5_seek_36_2 26 rfl
theorem dX5_seek_180 : decode cX5_seek 180 = .ok (.pop, 1) := dq daX5_seek_36_2 27 rfl
theorem dX5_seek_181 : decode cX5_seek 181 = .ok (.aload_n 0, 1) := dq daX5_seek_36_2 28 rfl
theorem dX5_seek_182 : decode cX5_seek 182 = .ok (.iload 7, 2) := dq daX5_seek_36_2 29 rfl
theorem dX5_seek_184 : decode cX5_seek 184 = .ok (.iload_n 2, 1) := dq daX5_seek_36_2 30 rfl
theorem dX5_seek_185 : decode cX5_seek 185 = .ok (.iconst 1, 1) := dq daX5_seek_36_2 31 rfl
def dtX5_seek_36_3 : List (Nat × Jvm.ClassFile.Instr × Nat) := [(186, .iadd, 1), (187, .iload_n 3, 1), (188, .iconst 1, 1), (189, .iload 7, 2), (191, .ishl, 1), (192, .ior, 1), (193, .invokevirtual 68, 3), (196, .aload_n 0, 1), (197, .getfield 25, 3), (200, .iload 4, 2), (202, .putfield 65, 3), (205, .aload_n 0, 1), (206, .getfield 25, 3), (209, .iload 5, 2), (211, .putfield 60, 3), (104, .iconst (-1), 1), (105, .goto 13, 3), (220, .return_, 1)]
theorem daX5_seek_36_3 : dtX5_seek_36_3.all (dqd cX5_seek) = true := by decide +kernel
theorem dX5_seek_186 : decode cX5_seek 186 = .ok (.iadd, 1) := dq daX5_seek_36_3 0 rfl
theorem dX5_seek_187 : decode cX5_seek 187 = .ok (.iload_n 3, 1) := dq daX5_seek_36_3 1 rfl
theorem dX5_seek_188 : decode cX5_seek 188 = .ok (.iconst 1, 1) := dq daX5_seek_36_3 2 rfl
theorem dX5_seek_189 : decode cX5_seek 189 = .ok (.iload 7, 2) := dq daX5_seek_36_3 3 rfl
theorem dX5_seek_191 : decode cX5_seek 191 = .ok (.ishl, 1) := dq daX5_seek_36_3 4 rfl
theorem dX5_seek_192 : decode cX5_seek 192 = .ok (.ior, 1) := dq daX5_seek_36_3 5 rfl
theorem dX5_seek_193 : decode cX5_seek 193 = .ok (.invokevirtual 68, 3) := dq daX5_seek_36_3 6 rfl
theorem dX5_seek_196 : decode cX5_seek 196 = .ok (.aload_n 0, 1) := dq daX5_seek_36_3 7 rfl
theorem dX5_seek_197 : decode cX5_seek 197 = .ok (.getfield 25, 3) := dq daX5_seek_36_3 8 rfl
theorem dX5_seek_200 : decode cX5_seek 200 = .ok (.iload 4, 2) := dq daX5_seek_36_3 9 rfl
theorem dX5_seek_202 : decode cX5_seek 202 = .ok (.putfield 65, 3) := dq daX5_seek_36_3 10 rfl
theorem dX5_seek_205 : decode cX5_seek 205 = .ok (.aload_n 0, 1) := dq daX5_seek_36_3 11 rfl
theorem dX5_seek_206 : decode cX5_seek 206 = .ok (.getfield 25, 3) := dq daX5_seek_36_3 12 rfl
theorem dX5_seek_209 : decode cX5_seek 209 = .ok (.iload 5, 2) := dq daX5_seek_36_3 13 rfl
theorem dX5_seek_211 : decode cX5_seek 211 = .ok (.putfield 60, 3) := dq daX5_seek_36_3 14 rfl
theorem dX5_seek_104 : decode cX5_seek 104 = .ok (.iconst (-1), 1) := dq daX5_seek_36_3 15 rfl
theorem dX5_seek_105 : decode cX5_seek 105 = .ok (.goto 13, 3) := dq daX5_seek_36_3 16 rfl
theorem dX5_seek_220 : decode cX5_seek 220 = .ok (.return_, 1) := dq daX5_seek_36_3 17 rfl
def dtX5_findBest_36_0 : List (Nat × Jvm.ClassFile.Instr × Nat) := [(0, .aload_n 0, 1), (1, .getfield 25, 3), (4, .getfield 60, 3), (7, .istore_n 2, 1), (8, .aload_n 0, 1), (9, .getfield 25, 3), (12, .getfield 65, 3), (15, .istore_n 3, 1), (16, .iconst 0, 1), (17, .istore 4, 2), (19, .iload 4, 2), (21, .bipush 24, 2), (23, .if_icmp .ge 43, 3), (26, .aload_n 0, 1), (27, .iload 4, 2), (29, .putfield 50, 3), (32, .aload_n 0, 1), (33, .getfield 25, 3), (36, .iload_n 2, 1), (37, .iload 4, 2), (39, .iadd, 1), (40, .putfield 60, 3), (43, .aload_n 0, 1), (44, .getfield 25, 3), (47, .iload_n 3, 1), (48, .putfield 65, 3), (51, .aload_n 0, 1), (52, .iload_n 1, 1), (53, .iconst 0, 1), (54, .iconst 1, 1), (55, .iload_n 1, 1), (56, .ishl, 1)]
theorem daX5_findBest_36_0 : dtX5_findBest_36_0.all (dqd cX5_findBest) = true := by decide +kernel
theorem dX5_findBest_0 : decode cX5_findBest 0 = .ok (.aload_n 0, 1) := dq daX5_findBest_36_0 0 rfl
theorem dX5_findBest_1 : decode cX5_findBest 1 = .ok (.getfield 25, 3) := dq daX5_findBest_36_0 1 rfl
theorem dX5_findBest_4 : decode cX5_findBest 4 = .ok (.getfield 60, 3) := dq daX5_findBest_36_0 2 rfl
theorem dX5_findBest_7 : decode cX5_findBest 7 = .ok (.istore_n 2, 1) := dq daX5_findBest_36_0 3 rfl
theorem dX5_findBest_8 : decode cX5_findBest 8 = .ok (.aload_n 0, 1) := dq daX5_findBest_36_0 4 rfl
theorem dX5_findBest_9 : decode cX5_findBest 9 = .ok (.getfield 25, 3) := dq daX5_findBest_36_0 5 rfl
theorem dX5_findBest_12 : decode cX5_findBest 12 = .ok (.getfield 65, 3) := dq daX5_findBest_36_0 6 rfl
theorem dX5_findBest_15 : decode cX5_findBest 15 = .ok (.istore_n 3, 1) := dq daX5_findBest_36_0 7 rfl
theorem dX5_findBest_16 : decode cX5_findBest 16 = .ok (.iconst 0, 1) := dq daX5_findBest_36_0 8 rfl
theorem dX5_findBest_17 : decode cX5_findBest 17 = .ok (.istore 4, 2) := dq daX5_findBest_36_0 9 rfl
theorem dX5_findBest_19 : decode cX5_findBest 19 = .ok (.iload 4, 2) := dq daX5_findBest_36_0 10 rfl
theorem dX5_findBest_21 : decode cX5_findBest 21 = .ok (.bipush 24, 2) := dq daX5_findBest_36_0 11 rfl
theorem dX5_findBest_23 : decode cX5_findBest 23 = .ok (.if_icmp .ge 43, 3) := dq daX5_findBest_36_0 12 rfl
theorem dX5_findBest_26 : decode cX5_findBest 26 = .ok (.aload_n 0, 1) := dq daX5_findBest_36_0 13 rfl
theorem dX5_findBest_27 : decode cX5_findBest 27 = .ok (.iload 4, 2) := dq daX5_findBest_36_0 14 rfl
theorem dX5_findBest_29 : decode cX5_findBest 29 = .ok (.putfield 50, 3) := dq daX5_findBest_36_0 15 rfl
theorem dX5_findBest_32 : decode cX5_findBest 32 = .ok (.aload_n 0, 1) := dq daX5_findBest_36_0 16 rfl
theorem dX5_findBest_33 : decode cX5_findBest 33 = .ok (.getfield 25, 3) := dq daX5_findBest_36_0 17 rfl
theorem dX5_findBest_36 : decode cX5_findBest 36 = .ok (.iload_n 2, 1) := dq daX5_findBest_36_0 18 rfl
theorem dX5_findBest_37 : decode cX5_findBest 37 = .ok (.iload 4, 2) := dq daX5_findBest_36_0 19 rfl
theorem dX5_findBest_39 : decode cX5_findBest 39 = .ok (.iadd, 1) := dq daX5_findBest_36_0 20 rfl
theorem dX5_findBest_40 : decode cX5_findBest 40 = .ok (.putfield 60, 3) := dq daX5_findBest_36_0 21 rfl
theorem dX5_findBest_43 : decode cX5_findBest 43 = .ok (.aload_n 0, 1) := dq daX5_findBest_36_0 22 rfl
theorem dX5_findBest_44 : decode cX5_findBest 44 = .ok (.getfield 25, 3) := dq daX5_findBest_36_0 23 rfl
theorem dX5_findBest_47 : decode cX5_findBest 47 = .ok (.iload_n 3, 1) := dq daX5_findBest_36_0 24 rfl
theorem dX5_findBest_48 : decode cX5_findBest 48 = .ok (.putfield 65, 3) := dq daX5_findBest_36_0 25 rfl
theorem dX5_findBest_51 : decode cX5_findBest 51 = .ok (.aload_n 0, 1) := dq daX5_findBest_36_0 26 rfl
theorem dX5_findBest_52 : decode cX5_findBest 52 = .ok (.iload_n 1, 1) := dq daX5_findBest_36_0 27 rfl
theorem dX5_findBest_53 : decode cX5_findBest 53 = .ok (.iconst 0, 1) := dq daX5_findBest_36_0 28 rfl
theorem dX5_findBest_54 : decode cX5_findBest 54 = .ok (.iconst 1, 1) := dq daX5_findBest_36_0 29 rfl
theorem dX5_findBest_55 : decode cX5_findBest 55 = .ok (.iload_n 1, 1) := dq daX5_findBest_36_0 30 rfl
theorem dX5_findBest_56 : decode cX5_findBest 56 = .ok (.ishl, 1) := dq daX5_findBest_36_0 31 rfl
def dtX5_findBest_36_1 : List (Nat × Jvm.ClassFile.Instr × Nat) := [(57, .invokevirtual 68, 3), (60, .iinc 4 1, 3), (63, .goto (-44), 3), (66, .return_, 1)]
theorem daX5_findBest_36_1 : dtX5_findBest_36_1.all (dqd cX5_findBest) = true := by decide +kernel
theorem dX5_findBest_57 : decode cX5_findBest 57 = .ok (.invokevirtual 68, 3) := dq daX5_findBest_36_1 0 rfl
theorem dX5_findBest_60 : decode cX5_findBest 60 = .ok (.iinc 4 1, 3) := dq daX5_findBest_36_1 1 rfl
theorem dX5_findBest_63 : decode cX5_findBest 63 = .ok (.goto (-44), 3) := dq daX5_findBest_36_1 2 rfl
theorem dX5_findBest_66 : decode cX5_findBest 66 = .ok (.return_, 1) := dq daX5_findBest_36_1 3 rfl
def dtX5_aim_36_0 : List (Nat × Jvm.ClassFile.Instr × Nat) := [(0, .aload_n 0, 1), (1, .iload_n 1, 1), (2, .putfield 29, 3), (5, .aload_n 0, 1), (6, .iload_n 2, 1), (7, .putfield 33, 3), (10, .aload_n 0, 1), (11, .iconst 0, 1), (12, .putfield 36, 3), (15, .aload_n 0, 1), (16, .ldc 40, 2), (18, .putfield 41, 3), (21, .aload_n 0, 1), (22, .iconst (-1), 1), (23, .putfield 44, 3), (26, .aload_n 0, 1), (27, .iconst 0, 1), (28, .putfield 47, 3), (31, .aload_n 0, 1), (32, .iconst 0, 1), (33, .putfield 50, 3), (36, .aload_n 0, 1), (37, .iconst 0, 1), (38, .putfield 53, 3), (41, .aload_n 0, 1), (42, .iload_n 1, 1), (43, .iload_n 2, 1), (44, .iconst 0, 1), (45, .invokevirtual 56, 3), (48, .return_, 1)]
theorem daX5_aim_36_0 : dtX5_aim_36_0.all (dqd cX5_aim) = true := by decide +kernel
theorem dX5_aim_0 : decode cX5_aim 0 = .ok (.aload_n 0, 1) := dq daX5_aim_36_0 0 rfl
theorem dX5_aim_1 : decode cX5_aim 1 = .ok (.iload_n 1, 1) := dq daX5_aim_36_0 1 rfl
theorem dX5_aim_2 : decode cX5_aim 2 = .ok (.putfield 29, 3) := dq daX5_aim_36_0 2 rfl
theorem dX5_aim_5 : decode cX5_aim 5 = .ok (.aload_n 0, 1) := dq daX5_aim_36_0 3 rfl
theorem dX5_aim_6 : decode cX5_aim 6 = .ok (.iload_n 2, 1) := dq daX5_aim_36_0 4 rfl
theorem dX5_aim_7 : decode cX5_aim 7 = .ok (.putfield 33, 3) := dq daX5_aim_36_0 5 rfl
theorem dX5_aim_10 : decode cX5_aim 10 = .ok (.aload_n 0, 1) := dq daX5_aim_36_0 6 rfl
theorem dX5_aim_11 : decode cX5_aim 11 = .ok (.iconst 0, 1) := dq daX5_aim_36_0 7 rfl
theorem dX5_aim_12 : decode cX5_aim 12 = .ok (.putfield 36, 3) := dq daX5_aim_36_0 8 rfl
theorem dX5_aim_15 : decode cX5_aim 15 = .ok (.aload_n 0, 1) := dq daX5_aim_36_0 9 rfl
theorem dX5_aim_16 : decode cX5_aim 16 = .ok (.ldc 40, 2) := dq daX5_aim_36_0 10 rfl
theorem dX5_aim_18 : decode cX5_aim 18 = .ok (.putfield 41, 3) := dq daX5_aim_36_0 11 rfl
theorem dX5_aim_21 : decode cX5_aim 21 = .ok (.aload_n 0, 1) := dq daX5_aim_36_0 12 rfl
theorem dX5_aim_22 : decode cX5_aim 22 = .ok (.iconst (-1), 1) := dq daX5_aim_36_0 13 rfl
theorem dX5_aim_23 : decode cX5_aim 23 = .ok (.putfield 44, 3) := dq daX5_aim_36_0 14 rfl
theorem dX5_aim_26 : decode cX5_aim 26 = .ok (.aload_n 0, 1) := dq daX5_aim_36_0 15 rfl
theorem dX5_aim_27 : decode cX5_aim 27 = .ok (.iconst 0, 1) := dq daX5_aim_36_0 16 rfl
theorem dX5_aim_28 : decode cX5_aim 28 = .ok (.putfield 47, 3) := dq daX5_aim_36_0 17 rfl
theorem dX5_aim_31 : decode cX5_aim 31 = .ok (.aload_n 0, 1) := dq daX5_aim_36_0 18 rfl
theorem dX5_aim_32 : decode cX5_aim 32 = .ok (.iconst 0, 1) := dq daX5_aim_36_0 19 rfl
theorem dX5_aim_33 : decode cX5_aim 33 = .ok (.putfield 50, 3) := dq daX5_aim_36_0 20 rfl
theorem dX5_aim_36 : decode cX5_aim 36 = .ok (.aload_n 0, 1) := dq daX5_aim_36_0 21 rfl
theorem dX5_aim_37 : decode cX5_aim 37 = .ok (.iconst 0, 1) := dq daX5_aim_36_0 22 rfl
theorem dX5_aim_38 : decode cX5_aim 38 = .ok (.putfield 53, 3) := dq daX5_aim_36_0 23 rfl
theorem dX5_aim_41 : decode cX5_aim 41 = .ok (.aload_n 0, 1) := dq daX5_aim_36_0 24 rfl
theorem dX5_aim_42 : decode cX5_aim 42 = .ok (.iload_n 1, 1) := dq daX5_aim_36_0 25 rfl
theorem dX5_aim_43 : decode cX5_aim 43 = .ok (.iload_n 2, 1) := dq daX5_aim_36_0 26 rfl
theorem dX5_aim_44 : decode cX5_aim 44 = .ok (.iconst 0, 1) := dq daX5_aim_36_0 27 rfl
theorem dX5_aim_45 : decode cX5_aim 45 = .ok (.invokevirtual 56, 3) := dq daX5_aim_36_0 28 rfl
theorem dX5_aim_48 : decode cX5_aim 48 = .ok (.return_, 1) := dq daX5_aim_36_0 29 rfl
def dtX5_leftFor_36_0 : List (Nat × Jvm.ClassFile.Instr × Nat) := [(0, .aload_n 0, 1), (1, .getfield 21, 3), (4, .iload_n 2, 1), (5, .invokevirtual 72, 3), (8, .istore 5, 2), (10, .iload 5, 2), (12, .iconst (-1), 1), (13, .if_icmp .ne 6, 3), (19, .aload_n 0, 1), (20, .aload_n 0, 1), (21, .getfield 21, 3), (24, .getfield 78, 3), (27, .iload_n 3, 1), (28, .iconst 0, 1), (29, .invokevirtual 82, 3), (32, .iconst (-1), 1), (33, .invokevirtual 88, 3), (36, .aload_n 0, 1), (37, .iload 4, 2), (39, .putfield 36, 3), (42, .aload_n 0, 1), (43, .aload_n 0, 1), (44, .getfield 21, 3), (47, .getfield 78, 3), (50, .iload_n 3, 1), (51, .iconst 1, 1), (52, .invokevirtual 82, 3), (55, .putfield 41, 3), (58, .aload_n 0, 1), (59, .getfield 21, 3), (62, .getfield 78, 3), (65, .iload_n 3, 1)]
theorem daX5_leftFor_36_0 : dtX5_leftFor_36_0.all (dqd cX5_leftFor) = true := by decide +kernel
theorem dX5_leftFor_0 : decode cX5_leftFor 0 = .ok (.aload_n 0, 1) := dq daX5_leftFor_36_0 0 rfl
theorem dX5_leftFor_1 : decode cX5_leftFor 1 = .ok (.getfield 21, 3) := dq daX5_leftFor_36_0 1 rfl
theorem dX5_leftFor_4 : decode cX5_leftFor 4 = .ok (.iload_n 2, 1) := dq daX5_leftFor_36_0 2 rfl
theorem dX5_leftFor_5 : decode cX5_leftFor 5 = .ok (.invokevirtual 72, 3) := dq daX5_leftFor_36_0 3 rfl
theorem dX5_leftFor_8 : decode cX5_leftFor 8 = .ok (.istore 5, 2) := dq daX5_leftFor_36_0 4 rfl
theorem dX5_leftFor_10 : decode cX5_leftFor 10 = .ok (.iload 5, 2) := dq daX5_leftFor_36_0 5 rfl
theorem dX5_leftFor_12 : decode cX5_leftFor 12 = .ok (.iconst (-1), 1) := dq daX5_leftFor_36_0 6 rfl
theorem dX5_leftFor_13 : decode cX5_leftFor 13 = .ok (.if_icmp .ne 6, 3) := dq daX5_leftFor_36_0 7 rfl
theorem dX5_leftFor_19 : decode cX5_leftFor 19 = .ok (.aload_n 0, 1) := dq daX5_leftFor_36_0 8 rfl
theorem dX5_leftFor_20 : decode cX5_leftFor 20 = .ok (.aload_n 0, 1) := dq daX5_leftFor_36_0 9 rfl
theorem dX5_leftFor_21 : decode cX5_leftFor 21 = .ok (.getfield 21, 3) := dq daX5_leftFor_36_0 10 rfl
theorem dX5_leftFor_24 : decode cX5_leftFor 24 = .ok (.getfield 78, 3) := dq daX5_leftFor_36_0 11 rfl
theorem dX5_leftFor_27 : decode cX5_leftFor 27 = .ok (.iload_n 3, 1) := dq daX5_leftFor_36_0 12 rfl
theorem dX5_leftFor_28 : decode cX5_leftFor 28 = .ok (.iconst 0, 1) := dq daX5_leftFor_36_0 13 rfl
theorem dX5_leftFor_29 : decode cX5_leftFor 29 = .ok (.invokevirtual 82, 3) := dq daX5_leftFor_36_0 14 rfl
theorem dX5_leftFor_32 : decode cX5_leftFor 32 = .ok (.iconst (-1), 1) := dq daX5_leftFor_36_0 15 rfl
theorem dX5_leftFor_33 : decode cX5_leftFor 33 = .ok (.invokevirtual 88, 3) := dq daX5_leftFor_36_0 16 rfl
theorem dX5_leftFor_36 : decode cX5_leftFor 36 = .ok (.aload_n 0, 1) := dq daX5_leftFor_36_0 17 rfl
theorem dX5_leftFor_37 : decode cX5_leftFor 37 = .ok (.iload 4, 2) := dq daX5_leftFor_36_0 18 rfl
theorem dX5_leftFor_39 : decode cX5_leftFor 39 = .ok (.putfield 36, 3) := dq daX5_leftFor_36_0 19 rfl
theorem dX5_leftFor_42 : decode cX5_leftFor 42 = .ok (.aload_n 0, 1) := dq daX5_leftFor_36_0 20 rfl
theorem dX5_leftFor_43 : decode cX5_leftFor 43 = .ok (.aload_n 0, 1) := dq daX5_leftFor_36_0 21 rfl
theorem dX5_leftFor_44 : decode cX5_leftFor 44 = .ok (.getfield 21, 3) := dq daX5_leftFor_36_0 22 rfl
theorem dX5_leftFor_47 : decode cX5_leftFor 47 = .ok (.getfield 78, 3) := dq daX5_leftFor_36_0 23 rfl
theorem dX5_leftFor_50 : decode cX5_leftFor 50 = .ok (.iload_n 3, 1) := dq daX5_leftFor_36_0 24 rfl
theorem dX5_leftFor_51 : decode cX5_leftFor 51 = .ok (.iconst 1, 1) := dq daX5_leftFor_36_0 25 rfl
theorem dX5_leftFor_52 : decode cX5_leftFor 52 = .ok (.invokevirtual 82, 3) := dq daX5_leftFor_36_0 26 rfl
theorem dX5_leftFor_55 : decode cX5_leftFor 55 = .ok (.putfield 41, 3) := dq daX5_leftFor_36_0 27 rfl
theorem dX5_leftFor_58 : decode cX5_leftFor 58 = .ok (.aload_n 0, 1) := dq daX5_leftFor_36_0 28 rfl
theorem dX5_leftFor_59 : decode cX5_leftFor 59 = .ok (.getfield 21, 3) := dq daX5_leftFor_36_0 29 rfl
theorem dX5_leftFor_62 : decode cX5_leftFor 62 = .ok (.getfield 78, 3) := dq daX5_leftFor_36_0 30 rfl
theorem dX5_leftFor_65 : decode cX5_leftFor 65 = .ok (.iload_n 3, 1) := dq daX5_leftFor_36_0 31 rfl
def dtX5_leftFor_36_1 : List (Nat × Jvm.ClassFile.Instr × Nat) := [(66, .iconst 2, 1), (67, .invokevirtual 82, 3), (70, .istore 6, 2), (72, .aload_n 0, 1), (73, .iload 6, 2), (75, .iconst 1, 1), (76, .isub, 1), (77, .putfield 44, 3), (80, .aload_n 0, 1), (81, .getfield 21, 3), (84, .getfield 92, 3), (87, .astore 7, 2), (89, .aload_n 0, 1), (90, .getfield 25, 3), (93, .aload_n 1, 1), (94, .aload_n 0, 1), (95, .getfield 21, 3), (98, .getfield 95, 3), (101, .aload 7, 2), (103, .iload_n 2, 1), (104, .iconst 0, 1), (105, .invokevirtual 82, 3), (108, .aload 7, 2), (110, .iload_n 2, 1), (111, .iconst 5, 1), (112, .invokevirtual 82, 3), (115, .aload 7, 2), (117, .iload_n 2, 1), (118, .bipush 6, 2), (120, .invokevirtual 82, 3), (123, .invokevirtual 98, 3), (126, .aload_n 0, 1)]
theorem daX5_leftFor_36_1 : dtX5_leftFor_36_1.all (dqd cX5_leftFor) = true := by decide +kernel
theorem dX5_leftFor_66 : decode cX5_leftFor 66 = .ok (.iconst 2, 1) := dq daX5_leftFor_36_1 0 rfl
theorem dX5_leftFor_67 : decode cX5_leftFor 67 = .ok (.invokevirtual 82, 3) := dq daX5_leftFor_36_1 1 rfl
theorem dX5_leftFor_70 : decode cX5_leftFor 70 = .ok (.istore 6, 2) := dq daX5_leftFor_36_1 2 rfl
theorem dX5_leftFor_72 : decode cX5_leftFor 72 = .ok (.aload_n 0, 1) := dq daX5_leftFor_36_1 3 rfl
theorem dX5_leftFor_73 : decode cX5_leftFor 73 = .ok (.iload 6, 2) := dq daX5_leftFor_36_1 4 rfl
theorem dX5_leftFor_75 : decode cX5_leftFor 75 = .ok (.iconst 1, 1) := dq daX5_leftFor_36_1 5 rfl
theorem dX5_leftFor_76 : decode cX5_leftFor 76 = .ok (.isub, 1) := dq daX5_leftFor_36_1 6 rfl
theorem dX5_leftFor_77 : decode cX5_leftFor 77 = .ok (.putfield 44, 3) := dq daX5_leftFor_36_1 7 rfl
theorem dX5_leftFor_80 : decode cX5_leftFor 80 = .ok (.aload_n 0, 1) := dq daX5_leftFor_36_1 8 rfl
theorem dX5_leftFor_81 : decode cX5_leftFor 81 = .ok (.getfield 21, 3) := dq daX5_leftFor_36_1 9 rfl
theorem dX5_leftFor_84 : decode cX5_leftFor 84 = .ok (.getfield 92, 3) := dq daX5_leftFor_36_1 10 rfl
theorem dX5_leftFor_87 : decode cX5_leftFor 87 = .ok (.astore 7, 2) := dq daX5_leftFor_36_1 11 rfl
theorem dX5_leftFor_89 : decode cX5_leftFor 89 = .ok (.aload_n 0, 1) := dq daX5_leftFor_36_1 12 rfl
theorem dX5_leftFor_90 : decode cX5_leftFor 90 = .ok (.getfield 25, 3) := dq daX5_leftFor_36_1 13 rfl
theorem dX5_leftFor_93 : decode cX5_leftFor 93 = .ok (.aload_n 1, 1) := dq daX5_leftFor_36_1 14 rfl
theorem dX5_leftFor_94 : decode cX5_leftFor 94 = .ok (.aload_n 0, 1) := dq daX5_leftFor_36_1 15 rfl
theorem dX5_leftFor_95 : decode cX5_leftFor 95 = .ok (.getfield 21, 3) := dq daX5_leftFor_36_1 16 rfl
theorem dX5_leftFor_98 : decode cX5_leftFor 98 = .ok (.getfield 95, 3) := dq daX5_leftFor_36_1 17 rfl
theorem dX5_leftFor_101 : decode cX5_leftFor 101 = .ok (.aload 7, 2) := dq daX5_leftFor_36_1 18 rfl
theorem dX5_leftFor_103 : decode cX5_leftFor 103 = .ok (.iload_n 2, 1) := dq daX5_leftFor_36_1 19 rfl
theorem dX5_leftFor_104 : decode cX5_leftFor 104 = .ok (.iconst 0, 1) := dq daX5_leftFor_36_1 20 rfl
theorem dX5_leftFor_105 : decode cX5_leftFor 105 = .ok (.invokevirtual 82, 3) := dq daX5_leftFor_36_1 21 rfl
theorem dX5_leftFor_108 : decode cX5_leftFor 108 = .ok (.aload 7, 2) := dq daX5_leftFor_36_1 22 rfl
theorem dX5_leftFor_110 : decode cX5_leftFor 110 = .ok (.iload_n 2, 1) := dq daX5_leftFor_36_1 23 rfl
theorem dX5_leftFor_111 : decode cX5_leftFor 111 = .ok (.iconst 5, 1) := dq daX5_leftFor_36_1 24 rfl
theorem dX5_leftFor_112 : decode cX5_leftFor 112 = .ok (.invokevirtual 82, 3) := dq daX5_leftFor_36_1 25 rfl
theorem dX5_leftFor_115 : decode cX5_leftFor 115 = .ok (.aload 7, 2) := dq daX5_leftFor_36_1 26 rfl
theorem dX5_leftFor_117 : decode cX5_leftFor 117 = .ok (.iload_n 2, 1) := dq daX5_leftFor_36_1 27 rfl
theorem dX5_leftFor_118 : decode cX5_leftFor 118 = .ok (.bipush 6, 2) := dq daX5_leftFor_36_1 28 rfl
theorem dX5_leftFor_120 : decode cX5_leftFor 120 = .ok (.invokevirtual 82, 3) := dq daX5_leftFor_36_1 29 rfl
theorem dX5_leftFor_123 : decode cX5_leftFor 123 = .ok (.invokevirtual 98, 3) := dq daX5_leftFor_36_1 30 rfl
theorem dX5_leftFor_126 : decode cX5_leftFor 126 = .ok (.aload_n 0, 1) := dq daX5_leftFor_36_1 31 rfl
def dtX5_leftFor_36_2 : List (Nat × Jvm.ClassFile.Instr × Nat) := [(127, .getfield 25, 3), (130, .iload 6, 2), (132, .putfield 102, 3), (135, .aload_n 0, 1), (136, .iload 5, 2), (138, .iconst 0, 1), (139, .iconst 1, 1), (140, .iload 5, 2), (142, .ishl, 1), (143, .invokevirtual 68, 3), (146, .aload_n 0, 1), (147, .getfield 44, 3), (150, .iload 6, 2), (152, .if_icmp .lt 10, 3), (162, .bipush (-2), 2), (155, .aload_n 0, 1), (156, .getfield 44, 3), (159, .goto 5, 3), (16, .bipush (-2), 2), (18, .ireturn, 1), (164, .ireturn, 1)]
theorem daX5_leftFor_36_2 : dtX5_leftFor_36_2.all (dqd cX5_leftFor) = true := by decide +kernel
theorem dX5_leftFor_127 : decode cX5_leftFor 127 = .ok (.getfield 25, 3) := dq daX5_leftFor_36_2 0 rfl
theorem dX5_leftFor_130 : decode cX5_leftFor 130 = .ok (.iload 6, 2) := dq daX5_leftFor_36_2 1 rfl
theorem dX5_leftFor_132 : decode cX5_leftFor 132 = .ok (.putfield 102, 3) := dq daX5_leftFor_36_2 2 rfl
theorem dX5_leftFor_135 : decode cX5_leftFor 135 = .ok (.aload_n 0, 1) := dq daX5_leftFor_36_2 3 rfl
theorem dX5_leftFor_136 : decode cX5_leftFor 136 = .ok (.iload 5, 2) := dq daX5_leftFor_36_2 4 rfl
theorem dX5_leftFor_138 : decode cX5_leftFor 138 = .ok (.iconst 0, 1) := dq daX5_leftFor_36_2 5 rfl
theorem dX5_leftFor_139 : decode cX5_leftFor 139 = .ok (.iconst 1, 1) := dq daX5_leftFor_36_2 6 rfl
theorem dX5_leftFor_140 : decode cX5_leftFor 140 = .ok (.iload 5, 2) := dq daX5_leftFor_36_2 7 rfl
theorem dX5_leftFor_142 : decode cX5_leftFor 142 = .ok (.ishl, 1) := dq daX5_leftFor_36_2 8 rfl
theorem dX5_leftFor_143 : decode cX5_leftFor 143 = .ok (.invokevirtual 68, 3) := dq daX5_leftFor_36_2 9 rfl
theorem dX5_leftFor_146 : decode cX5_leftFor 146 = .ok (.aload_n 0, 1) := dq daX5_leftFor_36_2 10 rfl
theorem dX5_leftFor_147 : decode cX5_leftFor 147 = .ok (.getfield 44, 3) := dq daX5_leftFor_36_2 11 rfl
theorem dX5_leftFor_150 : decode cX5_leftFor 150 = .ok (.iload 6, 2) := dq daX5_leftFor_36_2 12 rfl
theorem dX5_leftFor_152 : decode cX5_leftFor 152 = .ok (.if_icmp .lt 10, 3) := dq daX5_leftFor_36_2 13 rfl
theorem dX5_leftFor_162 : decode cX5_leftFor 162 = .ok (.bipush (-2), 2) := dq daX5_leftFor_36_2 14 rfl
theorem dX5_leftFor_155 : decode cX5_leftFor 155 = .ok (.aload_n 0, 1) := dq daX5_leftFor_36_2 15 rfl
theorem dX5_leftFor_156 : decode cX5_leftFor 156 = .ok (.getfield 44, 3) := dq daX5_leftFor_36_2 16 rfl
theorem dX5_leftFor_159 : decode cX5_leftFor 159 = .ok (.goto 5, 3) := dq daX5_leftFor_36_2 17 rfl
theorem dX5_leftFor_16 : decode cX5_leftFor 16 = .ok (.bipush (-2), 2) := dq daX5_leftFor_36_2 18 rfl
theorem dX5_leftFor_18 : decode cX5_leftFor 18 = .ok (.ireturn, 1) := dq daX5_leftFor_36_2 19 rfl
theorem dX5_leftFor_164 : decode cX5_leftFor 164 = .ok (.ireturn, 1) := dq daX5_leftFor_36_2 20 rfl
