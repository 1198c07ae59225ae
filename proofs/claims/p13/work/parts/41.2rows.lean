theorem kX10_tick_1 {a : Array Value} {s : State} (hts : ∀ w ∈ wsX10_tick, w.before a s = true) : (.fieldLink RX10 10 "SnowMules" "world" "LSnowMules$World;" : Cond).before a s = true := kw (A := ixX10_tick) wt15 hts (by decide +kernel)
theorem kX10_tick_2 {a : Array Value} {s : State} (hts : ∀ w ∈ wsX10_tick, w.before a s = true) : (.fieldLink RX10 141 "SnowMules$World" "now" "I" : Cond).before a s = true := kw (A := ixX10_tick) wt588 hts (by decide +kernel)
theorem kX10_tick_3 {a : Array Value} {s : State} (hts : ∀ w ∈ wsX10_tick, w.before a s = true) : (.constant RX10 140 (99999) : Cond).before a s = true := kw (A := ixX10_tick) wt587 hts (by decide +kernel)
theorem kX10_tick_4 {a : Array Value} {s : State} (hts : ∀ w ∈ wsX10_tick, w.before a s = true) : (.fieldLink RX10 43 "SnowMules" "hours" "LSnowMules$Hours;" : Cond).before a s = true := kw (A := ixX10_tick) wt29 hts (by decide +kernel)
theorem kX10_melt_1 {a : Array Value} {s : State} (hts : ∀ w ∈ wsX10_melt, w.before a s = true) : (.fieldLink RX10 10 "SnowMules" "world" "LSnowMules$World;" : Cond).before a s = true := kw (A := ixX10_melt) wt15 hts (by decide +kernel)
theorem kX10_melt_2 {a : Array Value} {s : State} (hts : ∀ w ∈ wsX10_melt, w.before a s = true) : (.fieldLink RX10 107 "SnowMules$World" "jars" "LSnowMules$Table;" : Cond).before a s = true := kw (A := ixX10_melt) wt217 hts (by decide +kernel)
theorem kX10_melt_3 {a : Array Value} {s : State} (hts : ∀ w ∈ wsX10_melt, w.before a s = true) : (.fieldLink RX10 43 "SnowMules" "hours" "LSnowMules$Hours;" : Cond).before a s = true := kw (A := ixX10_melt) wt29 hts (by decide +kernel)
theorem kX10_tried_1 {a : Array Value} {s : State} (hts : ∀ w ∈ wsX10_tried, w.before a s = true) : (.fieldLink RX10 10 "SnowMules" "world" "LSnowMules$World;" : Cond).before a s = true := kw (A := ixX10_tried) wt15 hts (by decide +kernel)
theorem kX10_tried_2 {a : Array Value} {s : State} (hts : ∀ w ∈ wsX10_tried, w.before a s = true) : (.fieldLink RX10 176 "SnowMules$World" "wayStart" "I" : Cond).before a s = true := kw (A := ixX10_tried) wt915 hts (by decide +kernel)
theorem kX10_tried_3 {a : Array Value} {s : State} (hts : ∀ w ∈ wsX10_tried, w.before a s = true) : (.fieldLink RX10 52 "SnowMules" "trip" "LSnowMules$Trip;" : Cond).before a s = true := kw (A := ixX10_tried) wt33 hts (by decide +kernel)
theorem kX10_tried_5 {a : Array Value} {s : State} (hts : ∀ w ∈ wsX10_tried, w.before a s = true) : (.fieldLink RX10 205 "SnowMules$Trip" "hour" "I" : Cond).before a s = true := kw (A := ixX10_tried) wt952 hts (by decide +kernel)
theorem kX10_tried_4 {a : Array Value} {s : State} (hts : ∀ w ∈ wsX10_tried, w.before a s = true) : (.fieldLink RX10 202 "SnowMules$Trip" "drops" "I" : Cond).before a s = true := kw (A := ixX10_tried) wt951 hts (by decide +kernel)
theorem kX10_best_1 {a : Array Value} {s : State} (hts : ∀ w ∈ wsX10_best, w.before a s = true) : (.fieldLink RX10 61 "SnowMules" "search" "LSnowMules$Search;" : Cond).before a s = true := kw (A := ixX10_best) wt37 hts (by decide +kernel)
theorem kX10_best_2 {a : Array Value} {s : State} (hts : ∀ w ∈ wsX10_best, w.before a s = true) : (.fieldLink RX10 52 "SnowMules" "trip" "LSnowMules$Trip;" : Cond).before a s = true := kw (A := ixX10_best) wt33 hts (by decide +kernel)
theorem kX10_best_3 {a : Array Value} {s : State} (hts : ∀ w ∈ wsX10_best, w.before a s = true) : (.fieldLink RX10 217 "SnowMules$Search" "left" "I" : Cond).before a s = true := kw (A := ixX10_best) wt1020 hts (by decide +kernel)
theorem kX10_best_5 {a : Array Value} {s : State} (hts : ∀ w ∈ wsX10_best, w.before a s = true) : (.fieldLink RX10 223 "SnowMules$Search" "length" "I" : Cond).before a s = true := kw (A := ixX10_best) wt1022 hts (by decide +kernel)
theorem kX10_best_4 {a : Array Value} {s : State} (hts : ∀ w ∈ wsX10_best, w.before a s = true) : (.fieldLink RX10 220 "SnowMules$Search" "leaving" "I" : Cond).before a s = true := kw (A := ixX10_best) wt1021 hts (by decide +kernel)
theorem kX10_warmer_2 {a : Array Value} {s : State} (hts : ∀ w ∈ wsX10_warmer, w.before a s = true) : (.fieldLink RX10 10 "SnowMules" "world" "LSnowMules$World;" : Cond).before a s = true := kw (A := ixX10_warmer) wt15 hts (by decide +kernel)
theorem kX10_warmer_3 {a : Array Value} {s : State} (hts : ∀ w ∈ wsX10_warmer, w.before a s = true) : (.fieldLink RX10 176 "SnowMules$World" "wayStart" "I" : Cond).before a s = true := kw (A := ixX10_warmer) wt915 hts (by decide +kernel)
theorem kX10_warmer_4 {a : Array Value} {s : State} (hts : ∀ w ∈ wsX10_warmer, w.before a s = true) : (.fieldLink RX10 52 "SnowMules" "trip" "LSnowMules$Trip;" : Cond).before a s = true := kw (A := ixX10_warmer) wt33 hts (by decide +kernel)
theorem kX10_warmer_5 {a : Array Value} {s : State} (hts : ∀ w ∈ wsX10_warmer, w.before a s = true) : (.fieldLink RX10 237 "SnowMules$Trip" "warmth" "I" : Cond).before a s = true := kw (A := ixX10_warmer) wt1128 hts (by decide +kernel)
theorem kX10_warmer_6 {a : Array Value} {s : State} (hts : ∀ w ∈ wsX10_warmer, w.before a s = true) : (.methodLink RX10 240 Lib.Math.max.name : Cond).before a s = true := kw (A := ixX10_warmer) wt1129 hts (by decide +kernel)
theorem kX10_warmer_7 {a : Array Value} {s : State} (hts : ∀ w ∈ wsX10_warmer, w.before a s = true) : (.static Lib.Math.max.name : Cond).before a s = true := kw (A := ixX10_warmer) wt65 hts (by decide +kernel)
theorem kX10_warmer_8 {a : Array Value} {s : State} (hts : ∀ w ∈ wsX10_warmer, w.before a s = true) : (.initialized "java/lang/Math" : Cond).before a s = true := kw (A := ixX10_warmer) wt66 hts (by decide +kernel)
theorem kX10_warmer_9 {a : Array Value} {s : State} (hts : ∀ w ∈ wsX10_warmer, w.before a s = true) : (.code Lib.Math.max.name Lib.Math.max.code 2 (some .int) : Cond).before a s = true := kw (A := ixX10_warmer) wt67 hts (by decide +kernel)
theorem kX10_warmer_10 {a : Array Value} {s : State} (hts : ∀ w ∈ wsX10_warmer, w.before a s = true) : (.fieldLink RX10 245 "SnowMules$Trip" "needed" "I" : Cond).before a s = true := kw (A := ixX10_warmer) wt1130 hts (by decide +kernel)
theorem kX10_guess_4 {a : Array Value} {s : State} (hts : ∀ w ∈ wsX10_guess, w.before a s = true) : (.fieldLink RX10 176 "SnowMules$World" "wayStart" "I" : Cond).before a s = true := kw (A := ixX10_guess) wt915 hts (by decide +kernel)
theorem kX10_guess_5 {a : Array Value} {s : State} (hts : ∀ w ∈ wsX10_guess, w.before a s = true) : (.fieldLink RX10 52 "SnowMules" "trip" "LSnowMules$Trip;" : Cond).before a s = true := kw (A := ixX10_guess) wt33 hts (by decide +kernel)
theorem kX10_guess_6 {a : Array Value} {s : State} (hts : ∀ w ∈ wsX10_guess, w.before a s = true) : (.fieldLink RX10 68 "SnowMules" "waits" "LSnowMules$Waits;" : Cond).before a s = true := kw (A := ixX10_guess) wt41 hts (by decide +kernel)
theorem kX10_guess_7 {a : Array Value} {s : State} (hts : ∀ w ∈ wsX10_guess, w.before a s = true) : (.fieldLink RX10 251 "SnowMules$Waits" "found" "I" : Cond).before a s = true := kw (A := ixX10_guess) wt1139 hts (by decide +kernel)
theorem kX10_serves_1 {a : Array Value} {s : State} (hts : ∀ w ∈ wsX10_serves, w.before a s = true) : (.fieldLink RX10 10 "SnowMules" "world" "LSnowMules$World;" : Cond).before a s = true := kw (A := ixX10_serves) wt15 hts (by decide +kernel)
theorem kX10_serves_2 {a : Array Value} {s : State} (hts : ∀ w ∈ wsX10_serves, w.before a s = true) : (.fieldLink RX10 107 "SnowMules$World" "jars" "LSnowMules$Table;" : Cond).before a s = true := kw (A := ixX10_serves) wt217 hts (by decide +kernel)
theorem kX10_serves_3 {a : Array Value} {s : State} (hts : ∀ w ∈ wsX10_serves, w.before a s = true) : (.fieldLink RX10 263 "SnowMules$World" "orders" "LSnowMules$Table;" : Cond).before a s = true := kw (A := ixX10_serves) wt1193 hts (by decide +kernel)
theorem kX10_serves_4 {a : Array Value} {s : State} (hts : ∀ w ∈ wsX10_serves, w.before a s = true) : (.fieldLink RX10 61 "SnowMules" "search" "LSnowMules$Search;" : Cond).before a s = true := kw (A := ixX10_serves) wt37 hts (by decide +kernel)
theorem kX10_all_1 {a : Array Value} {s : State} (hts : ∀ w ∈ wsX10_all, w.before a s = true) : (.fieldLink RX10 75 "SnowMules" "market" "LSnowMules$Market;" : Cond).before a s = true := kw (A := ixX10_all) wt45 hts (by decide +kernel)
theorem kX10_all_2 {a : Array Value} {s : State} (hts : ∀ w ∈ wsX10_all, w.before a s = true) : (.fieldLink RX10 10 "SnowMules" "world" "LSnowMules$World;" : Cond).before a s = true := kw (A := ixX10_all) wt15 hts (by decide +kernel)
theorem kX10_all_3 {a : Array Value} {s : State} (hts : ∀ w ∈ wsX10_all, w.before a s = true) : (.fieldLink RX10 263 "SnowMules$World" "orders" "LSnowMules$Table;" : Cond).before a s = true := kw (A := ixX10_all) wt1193 hts (by decide +kernel)
theorem kX10_all_4 {a : Array Value} {s : State} (hts : ∀ w ∈ wsX10_all, w.before a s = true) : (.fieldLink RX10 188 "SnowMules$Table" "size" "I" : Cond).before a s = true := kw (A := ixX10_all) wt942 hts (by decide +kernel)
theorem kX10_all_5 {a : Array Value} {s : State} (hts : ∀ w ∈ wsX10_all, w.before a s = true) : (.fieldLink RX10 107 "SnowMules$World" "jars" "LSnowMules$Table;" : Cond).before a s = true := kw (A := ixX10_all) wt217 hts (by decide +kernel)
theorem kX10_all_6 {a : Array Value} {s : State} (hts : ∀ w ∈ wsX10_all, w.before a s = true) : (.fieldLink RX10 61 "SnowMules" "search" "LSnowMules$Search;" : Cond).before a s = true := kw (A := ixX10_all) wt37 hts (by decide +kernel)
theorem kX10_all_7 {a : Array Value} {s : State} (hts : ∀ w ∈ wsX10_all, w.before a s = true) : (.fieldLink RX10 279 "SnowMules$Market" "paid" "I" : Cond).before a s = true := kw (A := ixX10_all) wt1228 hts (by decide +kernel)
theorem kX10_enough_1 {a : Array Value} {s : State} (hts : ∀ w ∈ wsX10_enough, w.before a s = true) : (.fieldLink RX10 10 "SnowMules" "world" "LSnowMules$World;" : Cond).before a s = true := kw (A := ixX10_enough) wt15 hts (by decide +kernel)
theorem kX10_enough_2 {a : Array Value} {s : State} (hts : ∀ w ∈ wsX10_enough, w.before a s = true) : (.fieldLink RX10 83 "SnowMules$World" "nodes" "LSnowMules$Table;" : Cond).before a s = true := kw (A := ixX10_enough) wt171 hts (by decide +kernel)
theorem kX10_enough_3 {a : Array Value} {s : State} (hts : ∀ w ∈ wsX10_enough, w.before a s = true) : (.constant RX10 157 (999999) : Cond).before a s = true := kw (A := ixX10_enough) wt660 hts (by decide +kernel)
theorem kX10_enough_4 {a : Array Value} {s : State} (hts : ∀ w ∈ wsX10_enough, w.before a s = true) : (.fieldLink RX10 43 "SnowMules" "hours" "LSnowMules$Hours;" : Cond).before a s = true := kw (A := ixX10_enough) wt29 hts (by decide +kernel)
theorem kX10_least_1 {a : Array Value} {s : State} (hts : ∀ w ∈ wsX10_least, w.before a s = true) : (.fieldLink RX10 10 "SnowMules" "world" "LSnowMules$World;" : Cond).before a s = true := kw (A := ixX10_least) wt15 hts (by decide +kernel)
theorem kX10_least_2 {a : Array Value} {s : State} (hts : ∀ w ∈ wsX10_least, w.before a s = true) : (.fieldLink RX10 83 "SnowMules$World" "nodes" "LSnowMules$Table;" : Cond).before a s = true := kw (A := ixX10_least) wt171 hts (by decide +kernel)
theorem kX10_least_3 {a : Array Value} {s : State} (hts : ∀ w ∈ wsX10_least, w.before a s = true) : (.fieldLink RX10 43 "SnowMules" "hours" "LSnowMules$Hours;" : Cond).before a s = true := kw (A := ixX10_least) wt29 hts (by decide +kernel)
theorem kX10_nights_2 {a : Array Value} {s : State} (hts : ∀ w ∈ wsX10_nights, w.before a s = true) : (.fieldLink RX10 10 "SnowMules" "world" "LSnowMules$World;" : Cond).before a s = true := kw (A := ixX10_nights) wt15 hts (by decide +kernel)
theorem kX10_nights_3 {a : Array Value} {s : State} (hts : ∀ w ∈ wsX10_nights, w.before a s = true) : (.fieldLink RX10 107 "SnowMules$World" "jars" "LSnowMules$Table;" : Cond).before a s = true := kw (A := ixX10_nights) wt217 hts (by decide +kernel)
theorem kX10_nights_4 {a : Array Value} {s : State} (hts : ∀ w ∈ wsX10_nights, w.before a s = true) : (.fieldLink RX10 176 "SnowMules$World" "wayStart" "I" : Cond).before a s = true := kw (A := ixX10_nights) wt915 hts (by decide +kernel)
theorem kX10_nights_5 {a : Array Value} {s : State} (hts : ∀ w ∈ wsX10_nights, w.before a s = true) : (.arrayClass .int : Cond).before a s = true := kw (A := ixX10_nights) wt18 hts (by decide +kernel)
theorem kX10_nights_6 {a : Array Value} {s : State} (hts : ∀ w ∈ wsX10_nights, w.before a s = true) : (.fieldLink RX10 118 "SnowMules$World" "x" "I" : Cond).before a s = true := kw (A := ixX10_nights) wt246 hts (by decide +kernel)
theorem kX10_nights_7 {a : Array Value} {s : State} (hts : ∀ w ∈ wsX10_nights, w.before a s = true) : (.fieldLink RX10 52 "SnowMules" "trip" "LSnowMules$Trip;" : Cond).before a s = true := kw (A := ixX10_nights) wt33 hts (by decide +kernel)
theorem kX10_nights_8 {a : Array Value} {s : State} (hts : ∀ w ∈ wsX10_nights, w.before a s = true) : (.fieldLink RX10 141 "SnowMules$World" "now" "I" : Cond).before a s = true := kw (A := ixX10_nights) wt588 hts (by decide +kernel)
theorem kX10_nights_9 {a : Array Value} {s : State} (hts : ∀ w ∈ wsX10_nights, w.before a s = true) : (.fieldLink RX10 202 "SnowMules$Trip" "drops" "I" : Cond).before a s = true := kw (A := ixX10_nights) wt951 hts (by decide +kernel)
theorem kX10_price_1 {a : Array Value} {s : State} (hts : ∀ w ∈ wsX10_price, w.before a s = true) : (.fieldLink RX10 10 "SnowMules" "world" "LSnowMules$World;" : Cond).before a s = true := kw (A := ixX10_price) wt15 hts (by decide +kernel)
theorem kX10_price_2 {a : Array Value} {s : State} (hts : ∀ w ∈ wsX10_price, w.before a s = true) : (.fieldLink RX10 101 "SnowMules$World" "passes" "LSnowMules$Table;" : Cond).before a s = true := kw (A := ixX10_price) wt198 hts (by decide +kernel)
theorem kX10_price_3 {a : Array Value} {s : State} (hts : ∀ w ∈ wsX10_price, w.before a s = true) : (.fieldLink RX10 61 "SnowMules" "search" "LSnowMules$Search;" : Cond).before a s = true := kw (A := ixX10_price) wt37 hts (by decide +kernel)
theorem kX10_price_4 {a : Array Value} {s : State} (hts : ∀ w ∈ wsX10_price, w.before a s = true) : (.fieldLink RX10 52 "SnowMules" "trip" "LSnowMules$Trip;" : Cond).before a s = true := kw (A := ixX10_price) wt33 hts (by decide +kernel)
theorem kX10_price_5 {a : Array Value} {s : State} (hts : ∀ w ∈ wsX10_price, w.before a s = true) : (.fieldLink RX10 217 "SnowMules$Search" "left" "I" : Cond).before a s = true := kw (A := ixX10_price) wt1020 hts (by decide +kernel)
theorem kX10_ahead_1 {a : Array Value} {s : State} (hts : ∀ w ∈ wsX10_ahead, w.before a s = true) : (.fieldLink RX10 16 "SnowMules" "later" "LSnowMules$World;" : Cond).before a s = true := kw (A := ixX10_ahead) wt16 hts (by decide +kernel)
theorem kX10_ahead_2 {a : Array Value} {s : State} (hts : ∀ w ∈ wsX10_ahead, w.before a s = true) : (.fieldLink RX10 10 "SnowMules" "world" "LSnowMules$World;" : Cond).before a s = true := kw (A := ixX10_ahead) wt15 hts (by decide +kernel)
theorem kX10_ahead_3 {a : Array Value} {s : State} (hts : ∀ w ∈ wsX10_ahead, w.before a s = true) : (.fieldLink RX10 43 "SnowMules" "hours" "LSnowMules$Hours;" : Cond).before a s = true := kw (A := ixX10_ahead) wt29 hts (by decide +kernel)
theorem iX10_tick_X10 : ∀ w ∈ wsX100, w ∈ wsX10_tick := inW (A := ixX10_tick) uwX10 (by decide +kernel)
theorem iX10_tick_X9 : ∀ w ∈ wsX90, w ∈ wsX10_tick := inW (A := ixX10_tick) uwX9 (by decide +kernel)
theorem iX10_melt_X10 : ∀ w ∈ wsX100, w ∈ wsX10_melt := inW (A := ixX10_melt) uwX10 (by decide +kernel)
theorem iX10_melt_X9 : ∀ w ∈ wsX90, w ∈ wsX10_melt := inW (A := ixX10_melt) uwX9 (by decide +kernel)
theorem iX10_tried_X10 : ∀ w ∈ wsX100, w ∈ wsX10_tried := inW (A := ixX10_tried) uwX10 (by decide +kernel)
theorem iX10_tried_X9 : ∀ w ∈ wsX90, w ∈ wsX10_tried := inW (A := ixX10_tried) uwX9 (by decide +kernel)
theorem iX10_tried_X7 : ∀ w ∈ wsX70, w ∈ wsX10_tried := inW (A := ixX10_tried) uwX7 (by decide +kernel)
theorem iX10_best_X10 : ∀ w ∈ wsX100, w ∈ wsX10_best := inW (A := ixX10_best) uwX10 (by decide +kernel)
theorem iX10_best_X5 : ∀ w ∈ wsX50, w ∈ wsX10_best := inW (A := ixX10_best) uwX5 (by decide +kernel)
theorem iX10_warmer_X10 : ∀ w ∈ wsX100, w ∈ wsX10_warmer := inW (A := ixX10_warmer) uwX10 (by decide +kernel)
theorem iX10_warmer_X9 : ∀ w ∈ wsX90, w ∈ wsX10_warmer := inW (A := ixX10_warmer) uwX9 (by decide +kernel)
theorem iX10_warmer_X7 : ∀ w ∈ wsX70, w ∈ wsX10_warmer := inW (A := ixX10_warmer) uwX7 (by decide +kernel)
theorem iX10_guess_X8 : ∀ w ∈ wsX80, w ∈ wsX10_guess := inW (A := ixX10_guess) uwX8 (by decide +kernel)
theorem iX10_serves_X10 : ∀ w ∈ wsX100, w ∈ wsX10_serves := inW (A := ixX10_serves) uwX10 (by decide +kernel)
theorem iX10_serves_X9 : ∀ w ∈ wsX90, w ∈ wsX10_serves := inW (A := ixX10_serves) uwX9 (by decide +kernel)
theorem iX10_all_X10 : ∀ w ∈ wsX100, w ∈ wsX10_all := inW (A := ixX10_all) uwX10 (by decide +kernel)
theorem iX10_all_X9 : ∀ w ∈ wsX90, w ∈ wsX10_all := inW (A := ixX10_all) uwX9 (by decide +kernel)
theorem iX10_all_X6 : ∀ w ∈ wsX60, w ∈ wsX10_all := inW (A := ixX10_all) uwX6 (by decide +kernel)
theorem iX10_all_X3 : ∀ w ∈ wsX30, w ∈ wsX10_all := inW (A := ixX10_all) uwX3 (by decide +kernel)
theorem iX10_enough_X10 : ∀ w ∈ wsX100, w ∈ wsX10_enough := inW (A := ixX10_enough) uwX10 (by decide +kernel)
theorem iX10_enough_X9 : ∀ w ∈ wsX90, w ∈ wsX10_enough := inW (A := ixX10_enough) uwX9 (by decide +kernel)
theorem iX10_least_X10 : ∀ w ∈ wsX100, w ∈ wsX10_least := inW (A := ixX10_least) uwX10 (by decide +kernel)
theorem iX10_least_X9 : ∀ w ∈ wsX90, w ∈ wsX10_least := inW (A := ixX10_least) uwX9 (by decide +kernel)
theorem iX10_nights_X10 : ∀ w ∈ wsX100, w ∈ wsX10_nights := inW (A := ixX10_nights) uwX10 (by decide +kernel)
theorem iX10_nights_X9 : ∀ w ∈ wsX90, w ∈ wsX10_nights := inW (A := ixX10_nights) uwX9 (by decide +kernel)
theorem iX10_nights_X7 : ∀ w ∈ wsX70, w ∈ wsX10_nights := inW (A := ixX10_nights) uwX7 (by decide +kernel)
theorem iX10_price_X10 : ∀ w ∈ wsX100, w ∈ wsX10_price := inW (A := ixX10_price) uwX10 (by decide +kernel)
theorem iX10_price_X9 : ∀ w ∈ wsX90, w ∈ wsX10_price := inW (A := ixX10_price) uwX9 (by decide +kernel)
theorem iX10_price_X5 : ∀ w ∈ wsX50, w ∈ wsX10_price := inW (A := ixX10_price) uwX5 (by decide +kernel)
theorem iX10_ahead_X10 : ∀ w ∈ wsX100, w ∈ wsX10_ahead := inW (A := ixX10_ahead) uwX10 (by decide +kernel)
theorem hdX0_step : yX0_step.cls ≠ "java/lang/invoke/MethodHandle" ∧ yX0_step.cls ≠ "java/lang/invoke/VarHandle" ∧ (parseMethodDescriptor yX0_step.desc).map (fun d => d.parameters.length) = some 2 := ⟨hdc_5.1, hdc_5.2, hdd_52⟩
theorem hdX7_followKeeping : yX7_followKeeping.cls ≠ "java/lang/invoke/MethodHandle" ∧ yX7_followKeeping.cls ≠ "java/lang/invoke/VarHandle" ∧ (parseMethodDescriptor yX7_followKeeping.desc).map (fun d => d.parameters.length) = some 1 := ⟨hdc_7.1, hdc_7.2, hdd_1⟩
theorem hdX10_isJourney : yX10_isJourney.cls ≠ "java/lang/invoke/MethodHandle" ∧ yX10_isJourney.cls ≠ "java/lang/invoke/VarHandle" ∧ (parseMethodDescriptor yX10_isJourney.desc).map (fun d => d.parameters.length) = some 2 := ⟨hdc_6.1, hdc_6.2, hdd_4⟩
theorem hdX5_findBest : yX5_findBest.cls ≠ "java/lang/invoke/MethodHandle" ∧ yX5_findBest.cls ≠ "java/lang/invoke/VarHandle" ∧ (parseMethodDescriptor yX5_findBest.desc).map (fun d => d.parameters.length) = some 1 := ⟨hdc_8.1, hdc_8.2, hdd_17⟩
theorem hdX5_passOf : yX5_passOf.cls ≠ "java/lang/invoke/MethodHandle" ∧ yX5_passOf.cls ≠ "java/lang/invoke/VarHandle" ∧ (parseMethodDescriptor yX5_passOf.desc).map (fun d => d.parameters.length) = some 1 := ⟨hdc_8.1, hdc_8.2, hdd_3⟩
theorem hdX8_find : yX8_find.cls ≠ "java/lang/invoke/MethodHandle" ∧ yX8_find.cls ≠ "java/lang/invoke/VarHandle" ∧ (parseMethodDescriptor yX8_find.desc).map (fun d => d.parameters.length) = some 2 := ⟨hdc_11.1, hdc_11.2, hdd_18⟩
theorem hdX8_mostAt : yX8_mostAt.cls ≠ "java/lang/invoke/MethodHandle" ∧ yX8_mostAt.cls ≠ "java/lang/invoke/VarHandle" ∧ (parseMethodDescriptor yX8_mostAt.desc).map (fun d => d.parameters.length) = some 1 := ⟨hdc_11.1, hdc_11.2, hdd_3⟩
theorem hdX8_fewestAt : yX8_fewestAt.cls ≠ "java/lang/invoke/MethodHandle" ∧ yX8_fewestAt.cls ≠ "java/lang/invoke/VarHandle" ∧ (parseMethodDescriptor yX8_fewestAt.desc).map (fun d => d.parameters.length) = some 1 := ⟨hdc_11.1, hdc_11.2, hdd_3⟩
theorem hdX5_leftFor : yX5_leftFor.cls ≠ "java/lang/invoke/MethodHandle" ∧ yX5_leftFor.cls ≠ "java/lang/invoke/VarHandle" ∧ (parseMethodDescriptor yX5_leftFor.desc).map (fun d => d.parameters.length) = some 4 := ⟨hdc_8.1, hdc_8.2, hdd_53⟩
theorem hdX3_open : yX3_open.cls ≠ "java/lang/invoke/MethodHandle" ∧ yX3_open.cls ≠ "java/lang/invoke/VarHandle" ∧ (parseMethodDescriptor yX3_open.desc).map (fun d => d.parameters.length) = some 0 := ⟨hdc_10.1, hdc_10.2, hdd_24⟩
theorem hdX3_offer : yX3_offer.cls ≠ "java/lang/invoke/MethodHandle" ∧ yX3_offer.cls ≠ "java/lang/invoke/VarHandle" ∧ (parseMethodDescriptor yX3_offer.desc).map (fun d => d.parameters.length) = some 2 := ⟨hdc_10.1, hdc_10.2, hdd_18⟩
theorem hdX3_choose : yX3_choose.cls ≠ "java/lang/invoke/MethodHandle" ∧ yX3_choose.cls ≠ "java/lang/invoke/VarHandle" ∧ (parseMethodDescriptor yX3_choose.desc).map (fun d => d.parameters.length) = some 0 := ⟨hdc_10.1, hdc_10.2, hdd_24⟩
theorem hdX3_jarFor : yX3_jarFor.cls ≠ "java/lang/invoke/MethodHandle" ∧ yX3_jarFor.cls ≠ "java/lang/invoke/VarHandle" ∧ (parseMethodDescriptor yX3_jarFor.desc).map (fun d => d.parameters.length) = some 1 := ⟨hdc_10.1, hdc_10.2, hdd_3⟩
theorem hdX0_lasts : yX0_lasts.cls ≠ "java/lang/invoke/MethodHandle" ∧ yX0_lasts.cls ≠ "java/lang/invoke/VarHandle" ∧ (parseMethodDescriptor yX0_lasts.desc).map (fun d => d.parameters.length) = some 4 := ⟨hdc_5.1, hdc_5.2, hdd_54⟩
theorem hdX7_venture : yX7_venture.cls ≠ "java/lang/invoke/MethodHandle" ∧ yX7_venture.cls ≠ "java/lang/invoke/VarHandle" ∧ (parseMethodDescriptor yX7_venture.desc).map (fun d => d.parameters.length) = some 0 := ⟨hdc_7.1, hdc_7.2, hdd_6⟩
theorem hdX9_copyFrom : yX9_copyFrom.cls ≠ "java/lang/invoke/MethodHandle" ∧ yX9_copyFrom.cls ≠ "java/lang/invoke/VarHandle" ∧ (parseMethodDescriptor yX9_copyFrom.desc).map (fun d => d.parameters.length) = some 1 := ⟨hdc_2.1, hdc_2.2, hdd_55⟩
theorem hdX9_jarsThatAre : yX9_jarsThatAre.cls ≠ "java/lang/invoke/MethodHandle" ∧ yX9_jarsThatAre.cls ≠ "java/lang/invoke/VarHandle" ∧ (parseMethodDescriptor yX9_jarsThatAre.desc).map (fun d => d.parameters.length) = some 0 := ⟨hdc_2.1, hdc_2.2, hdd_6⟩
theorem hdX9_dropsOfAll : yX9_dropsOfAll.cls ≠ "java/lang/invoke/MethodHandle" ∧ yX9_dropsOfAll.cls ≠ "java/lang/invoke/VarHandle" ∧ (parseMethodDescriptor yX9_dropsOfAll.desc).map (fun d => d.parameters.length) = some 0 := ⟨hdc_2.1, hdc_2.2, hdd_6⟩
def dtX10_tick_41_0 : List (Nat × Jvm.ClassFile.Instr × Nat) := [(10, .iload_n 2, 1), (11, .iconst 1, 1), (12, .if_icmp .lt 24, 3), (15, .iload_n 2, 1), (16, .sipush 240, 3), (19, .if_icmp .gt 17, 3), (22, .aload_n 0, 1), (23, .getfield 10, 3), (26, .getfield 141, 3), (29, .iload_n 2, 1), (30, .iadd, 1), (31, .ldc 140, 2), (33, .if_icmp .le 5, 3), (38, .iconst 0, 1), (39, .istore 4, 2), (41, .iload 4, 2), (43, .iload_n 2, 1), (44, .if_icmp .ge 21, 3), (47, .aload_n 0, 1), (48, .getfield 43, 3), (51, .aload_n 0, 1), (52, .getfield 10, 3), (55, .aload_n 3, 1), (56, .invokevirtual 165, 3), (59, .iinc 4 1, 3), (62, .goto (-21), 3), (65, .aload_n 0, 1), (66, .getfield 10, 3), (69, .getfield 141, 3), (72, .ireturn, 1)]
theorem daX10_tick_41_0 : dtX10_tick_41_0.all (dqd cX10_tick) = true := by decide +kernel
theorem dX10_tick_10 : decode cX10_tick 10 = .ok (.iload_n 2, 1) := dq daX10_tick_41_0 0 rfl
theorem dX10_tick_11 : decode cX10_tick 11 = .ok (.iconst 1, 1) := dq daX10_tick_41_0 1 rfl
theorem dX10_tick_12 : decode cX10_tick 12 = .ok (.if_icmp .lt 24, 3) := dq daX10_tick_41_0 2 rfl
theorem dX10_tick_15 : decode cX10_tick 15 = .ok (.iload_n 2, 1) := dq daX10_tick_41_0 3 rfl
theorem dX10_tick_16 : decode cX10_tick 16 = .ok (.sipush 240, 3) := dq daX10_tick_41_0 4 rfl
theorem dX10_tick_19 : decode cX10_tick 19 = .ok (.if_icmp .gt 17, 3) := dq daX10_tick_41_0 5 rfl
theorem dX10_tick_22 : decode cX10_tick 22 = .ok (.aload_n 0, 1) := dq daX10_tick_41_0 6 rfl
theorem dX10_tick_23 : decode cX10_tick 23 = .ok (.getfield 10, 3) := dq daX10_tick_41_0 7 rfl
theorem dX10_tick_26 : decode cX10_tick 26 = .ok (.getfield 141, 3) := dq daX10_tick_41_0 8 rfl
theorem dX10_tick_29 : decode cX10_tick 29 = .ok (.iload_n 2, 1) := dq daX10_tick_41_0 9 rfl
theorem dX10_tick_30 : decode cX10_tick 30 = .ok (.iadd, 1) := dq daX10_tick_41_0 10 rfl
theorem dX10_tick_31 : decode cX10_tick 31 = .ok (.ldc 140, 2) := dq daX10_tick_41_0 11 rfl
theorem dX10_tick_33 : decode cX10_tick 33 = .ok (.if_icmp .le 5, 3) := dq daX10_tick_41_0 12 rfl
theorem dX10_tick_38 : decode cX10_tick 38 = .ok (.iconst 0, 1) := dq daX10_tick_41_0 13 rfl
theorem dX10_tick_39 : decode cX10_tick 39 = .ok (.istore 4, 2) := dq daX10_tick_41_0 14 rfl
theorem dX10_tick_41 : decode cX10_tick 41 = .ok (.iload 4, 2) := dq daX10_tick_41_0 15 rfl
theorem dX10_tick_43 : decode cX10_tick 43 = .ok (.iload_n 2, 1) := dq daX10_tick_41_0 16 rfl
theorem dX10_tick_44 : decode cX10_tick 44 = .ok (.if_icmp .ge 21, 3) := dq daX10_tick_41_0 17 rfl
theorem dX10_tick_47 : decode cX10_tick 47 = .ok (.aload_n 0, 1) := dq daX10_tick_41_0 18 rfl
theorem dX10_tick_48 : decode cX10_tick 48 = .ok (.getfield 43, 3) := dq daX10_tick_41_0 19 rfl
theorem dX10_tick_51 : decode cX10_tick 51 = .ok (.aload_n 0, 1) := dq daX10_tick_41_0 20 rfl
theorem dX10_tick_52 : decode cX10_tick 52 = .ok (.getfield 10, 3) := dq daX10_tick_41_0 21 rfl
theorem dX10_tick_55 : decode cX10_tick 55 = .ok (.aload_n 3, 1) := dq daX10_tick_41_0 22 rfl
theorem dX10_tick_56 : decode cX10_tick 56 = .ok (.invokevirtual 165, 3) := dq daX10_tick_41_0 23 rfl
theorem dX10_tick_59 : decode cX10_tick 59 = .ok (.iinc 4 1, 3) := dq daX10_tick_41_0 24 rfl
theorem dX10_tick_62 : decode cX10_tick 62 = .ok (.goto (-21), 3) := dq daX10_tick_41_0 25 rfl
theorem dX10_tick_65 : decode cX10_tick 65 = .ok (.aload_n 0, 1) := dq daX10_tick_41_0 26 rfl
theorem dX10_tick_66 : decode cX10_tick 66 = .ok (.getfield 10, 3) := dq daX10_tick_41_0 27 rfl
theorem dX10_tick_69 : decode cX10_tick 69 = .ok (.getfield 141, 3) := dq daX10_tick_41_0 28 rfl
theorem dX10_tick_72 : decode cX10_tick 72 = .ok (.ireturn, 1) := dq daX10_tick_41_0 29 rfl
def dtX10_melt_41_0 : List (Nat × Jvm.ClassFile.Instr × Nat) := [(10, .aload_n 0, 1), (11, .getfield 10, 3), (14, .getfield 107, 3), (17, .iload_n 2, 1), (18, .invokevirtual 97, 3), (21, .ifCond .eq 20, 3), (24, .aload_n 0, 1), (25, .getfield 10, 3), (28, .getfield 107, 3), (31, .iload_n 2, 1), (32, .iconst 1, 1), (33, .invokevirtual 150, 3), (36, .bipush 13, 2), (38, .if_icmp .ne 5, 3), (43, .aload_n 0, 1), (44, .getfield 43, 3), (47, .aload_n 0, 1), (48, .getfield 10, 3), (51, .aload_n 3, 1), (52, .iload_n 2, 1), (53, .invokevirtual 172, 3), (56, .ireturn, 1)]
theorem daX10_melt_41_0 : dtX10_melt_41_0.all (dqd cX10_melt) = true := by decide +kernel
theorem dX10_melt_10 : decode cX10_melt 10 = .ok (.aload_n 0, 1) := dq daX10_melt_41_0 0 rfl
theorem dX10_melt_11 : decode cX10_melt 11 = .ok (.getfield 10, 3) := dq daX10_melt_41_0 1 rfl
theorem dX10_melt_14 : decode cX10_melt 14 = .ok (.getfield 107, 3) := dq daX10_melt_41_0 2 rfl
theorem dX10_melt_17 : decode cX10_melt 17 = .ok (.iload_n 2, 1) := dq daX10_melt_41_0 3 rfl
theorem dX10_melt_18 : decode cX10_melt 18 = .ok (.invokevirtual 97, 3) := dq daX10_melt_41_0 4 rfl
theorem dX10_melt_21 : decode cX10_melt 21 = .ok (.ifCond .eq 20, 3) := dq daX10_melt_41_0 5 rfl
theorem dX10_melt_24 : decode cX10_melt 24 = .ok (.aload_n 0, 1) := dq daX10_melt_41_0 6 rfl
theorem dX10_melt_25 : decode cX10_melt 25 = .ok (.getfield 10, 3) := dq daX10_melt_41_0 7 rfl
theorem dX10_melt_28 : decode cX10_melt 28 = .ok (.getfield 107, 3) := dq daX10_melt_41_0 8 rfl
theorem dX10_melt_31 : decode cX10_melt 31 = .ok (.iload_n 2, 1) := dq daX10_melt_41_0 9 rfl
theorem dX10_melt_32 : decode cX10_melt 32 = .ok (.iconst 1, 1) := dq daX10_melt_41_0 10 rfl
theorem dX10_melt_33 : decode cX10_melt 33 = .ok (.invokevirtual 150, 3) := dq daX10_melt_41_0 11 rfl
theorem dX10_melt_36 : decode cX10_melt 36 = .ok (.bipush 13, 2) := dq daX10_melt_41_0 12 rfl
theorem dX10_melt_38 : decode cX10_melt 38 = .ok (.if_icmp .ne 5, 3) := dq daX10_melt_41_0 13 rfl
theorem dX10_melt_43 : decode cX10_melt 43 = .ok (.aload_n 0, 1) := dq daX10_melt_41_0 14 rfl
theorem dX10_melt_44 : decode cX10_melt 44 = .ok (.getfield 43, 3) := dq daX10_melt_41_0 15 rfl
theorem dX10_melt_47 : decode cX10_melt 47 = .ok (.aload_n 0, 1) := dq daX10_melt_41_0 16 rfl
theorem dX10_melt_48 : decode cX10_melt 48 = .ok (.getfield 10, 3) := dq daX10_melt_41_0 17 rfl
theorem dX10_melt_51 : decode cX10_melt 51 = .ok (.aload_n 3, 1) := dq daX10_melt_41_0 18 rfl
theorem dX10_melt_52 : decode cX10_melt 52 = .ok (.iload_n 2, 1) := dq daX10_melt_41_0 19 rfl
theorem dX10_melt_53 : decode cX10_melt 53 = .ok (.invokevirtual 172, 3) := dq daX10_melt_41_0 20 rfl
theorem dX10_melt_56 : decode cX10_melt 56 = .ok (.ireturn, 1) := dq daX10_melt_41_0 21 rfl
def dtX10_tried_41_0 : List (Nat × Jvm.ClassFile.Instr × Nat) := [(12, .iload_n 2, 1), (13, .iload_n 3, 1), (14, .iload 4, 2), (16, .iload 5, 2), (18, .invokestatic 191, 3), (21, .ifCond .eq 23, 3), (24, .iload 6, 2), (26, .iconst 1, 1), (27, .invokestatic 79, 3), (30, .ifCond .eq 14, 3), (33, .aload_n 0, 1), (34, .getfield 10, 3), (37, .getfield 176, 3), (40, .iconst (-1), 1), (41, .if_icmp .ne 5, 3), (46, .aload_n 0, 1), (47, .getfield 52, 3), (50, .aload 7, 2), (52, .iload_n 2, 1), (53, .iload_n 3, 1), (54, .iload 4, 2), (56, .iload 5, 2), (58, .invokevirtual 195, 3), (61, .aload_n 0, 1), (62, .getfield 52, 3), (65, .iconst 0, 1), (66, .invokevirtual 199, 3), (69, .pop, 1), (70, .iload 6, 2), (72, .ifCond .ne 13, 3), (85, .aload_n 0, 1), (86, .getfield 52, 3)]
theorem daX10_tried_41_0 : dtX10_tried_41_0.all (dqd cX10_tried) = true := by decide +kernel
theorem dX10_tried_12 : decode cX10_tried 12 = .ok (.iload_n 2, 1) := dq daX10_tried_41_0 0 rfl
theorem dX10_tried_13 : decode cX10_tried 13 = .ok (.iload_n 3, 1) := dq daX10_tried_41_0 1 rfl
theorem dX10_tried_14 : decode cX10_tried 14 = .ok (.iload 4, 2) := dq daX10_tried_41_0 2 rfl
theorem dX10_tried_16 : decode cX10_tried 16 = .ok (.iload 5, 2) := dq daX10_tried_41_0 3 rfl
theorem dX10_tried_18 : decode cX10_tried 18 = .ok (.invokestatic 191, 3) := dq daX10_tried_41_0 4 rfl
theorem dX10_tried_21 : decode cX10_tried 21 = .ok (.ifCond .eq 23, 3) := dq daX10_tried_41_0 5 rfl
theorem dX10_tried_24 : decode cX10_tried 24 = .ok (.iload 6, 2) := dq daX10_tried_41_0 6 rfl
theorem dX10_tried_26 : decode cX10_tried 26 = .ok (.iconst 1, 1) := dq daX10_tried_41_0 7 rfl
theorem dX10_tried_27 : decode cX10_tried 27 = .ok (.invokestatic 79, 3) := dq daX10_tried_41_0 8 rfl
theorem dX10_tried_30 : decode cX10_tried 30 = .ok (.ifCond .eq 14, 3) := dq daX10_tried_41_0 9 rfl
theorem dX10_tried_33 : decode cX10_tried 33 = .ok (.aload_n 0, 1) := dq daX10_tried_41_0 10 rfl
theorem dX10_tried_34 : decode cX10_tried 34 = .ok (.getfield 10, 3) := dq daX10_tried_41_0 11 rfl
theorem dX10_tried_37 : decode cX10_tried 37 = .ok (.getfield 176, 3) := dq daX10_tried_41_0 12 rfl
theorem dX10_tried_40 : decode cX10_tried 40 = .ok (.iconst (-1), 1) := dq daX10_tried_41_0 13 rfl
theorem dX10_tried_41 : decode cX10_tried 41 = .ok (.if_icmp .ne 5, 3) := dq daX10_tried_41_0 14 rfl
theorem dX10_tried_46 : decode cX10_tried 46 = .ok (.aload_n 0, 1) := dq daX10_tried_41_0 15 rfl
theorem dX10_tried_47 : decode cX10_tried 47 = .ok (.getfield 52, 3) := dq daX10_tried_41_0 16 rfl
theorem dX10_tried_50 : decode cX10_tried 50 = .ok (.aload 7, 2) := dq daX10_tried_41_0 17 rfl
theorem dX10_tried_52 : decode cX10_tried 52 = .ok (.iload_n 2, 1) := dq daX10_tried_41_0 18 rfl
theorem dX10_tried_53 : decode cX10_tried 53 = .ok (.iload_n 3, 1) := dq daX10_tried_41_0 19 rfl
theorem dX10_tried_54 : decode cX10_tried 54 = .ok (.iload 4, 2) := dq daX10_tried_41_0 20 rfl
theorem dX10_tried_56 : decode cX10_tried 56 = .ok (.iload 5, 2) := dq daX10_tried_41_0 21 rfl
theorem dX10_tried_58 : decode cX10_tried 58 = .ok (.invokevirtual 195, 3) := dq daX10_tried_41_0 22 rfl
theorem dX10_tried_61 : decode cX10_tried 61 = .ok (.aload_n 0, 1) := dq daX10_tried_41_0 23 rfl
theorem dX10_tried_62 : decode cX10_tried 62 = .ok (.getfield 52, 3) := dq daX10_tried_41_0 24 rfl
theorem dX10_tried_65 : decode cX10_tried 65 = .ok (.iconst 0, 1) := dq daX10_tried_41_0 25 rfl
theorem dX10_tried_66 : decode cX10_tried 66 = .ok (.invokevirtual 199, 3) := dq daX10_tried_41_0 26 rfl
theorem dX10_tried_69 : decode cX10_tried 69 = .ok (.pop, 1) := dq daX10_tried_41_0 27 rfl
theorem dX10_tried_70 : decode cX10_tried 70 = .ok (.iload 6, 2) := dq daX10_tried_41_0 28 rfl
theorem dX10_tried_72 : decode cX10_tried 72 = .ok (.ifCond .ne 13, 3) := dq daX10_tried_41_0 29 rfl
theorem dX10_tried_85 : decode cX10_tried 85 = .ok (.aload_n 0, 1) := dq daX10_tried_41_0 30 rfl
theorem dX10_tried_86 : decode cX10_tried 86 = .ok (.getfield 52, 3) := dq daX10_tried_41_0 31 rfl
def dtX10_tried_41_1 : List (Nat × Jvm.ClassFile.Instr × Nat) := [(89, .getfield 205, 3), (92, .iload_n 2, 1), (93, .isub, 1), (75, .aload_n 0, 1), (76, .getfield 52, 3), (79, .getfield 202, 3), (82, .goto 12, 3), (94, .ireturn, 1)]
theorem daX10_tried_41_1 : dtX10_tried_41_1.all (dqd cX10_tried) = true := by decide +kernel
theorem dX10_tried_89 : decode cX10_tried 89 = .ok (.getfield 205, 3) := dq daX10_tried_41_1 0 rfl
theorem dX10_tried_92 : decode cX10_tried 92 = .ok (.iload_n 2, 1) := dq daX10_tried_41_1 1 rfl
theorem dX10_tried_93 : decode cX10_tried 93 = .ok (.isub, 1) := dq daX10_tried_41_1 2 rfl
theorem dX10_tried_75 : decode cX10_tried 75 = .ok (.aload_n 0, 1) := dq daX10_tried_41_1 3 rfl
theorem dX10_tried_76 : decode cX10_tried 76 = .ok (.getfield 52, 3) := dq daX10_tried_41_1 4 rfl
theorem dX10_tried_79 : decode cX10_tried 79 = .ok (.getfield 202, 3) := dq daX10_tried_41_1 5 rfl
theorem dX10_tried_82 : decode cX10_tried 82 = .ok (.goto 12, 3) := dq daX10_tried_41_1 6 rfl
theorem dX10_tried_94 : decode cX10_tried 94 = .ok (.ireturn, 1) := dq daX10_tried_41_1 7 rfl
def dtX10_best_41_0 : List (Nat × Jvm.ClassFile.Instr × Nat) := [(12, .aload_n 0, 1), (13, .iload_n 2, 1), (14, .iload_n 3, 1), (15, .invokevirtual 208, 3), (18, .ifCond .eq 27, 3), (21, .iload 4, 2), (23, .iload 5, 2), (25, .iload 6, 2), (27, .iload 7, 2), (29, .invokestatic 191, 3), (32, .ifCond .eq 13, 3), (35, .iload 8, 2), (37, .bipush 8, 2), (39, .invokestatic 79, 3), (42, .ifCond .ne 5, 3), (47, .aload_n 0, 1), (48, .getfield 61, 3), (51, .iload_n 3, 1), (52, .iconst (-1), 1), (53, .invokevirtual 211, 3), (56, .aload_n 0, 1), (57, .getfield 52, 3), (60, .aload 9, 2), (62, .iload 4, 2), (64, .iload 5, 2), (66, .iload 6, 2), (68, .iload 7, 2), (70, .invokevirtual 195, 3), (73, .aload_n 0, 1), (74, .getfield 61, 3), (77, .iload_n 2, 1), (78, .invokevirtual 214, 3)]
theorem daX10_best_41_0 : dtX10_best_41_0.all (dqd cX10_best) = true := by decide +kernel
theorem dX10_best_12 : decode cX10_best 12 = .ok (.aload_n 0, 1) := dq daX10_best_41_0 0 rfl
theorem dX10_best_13 : decode cX10_best 13 = .ok (.iload_n 2, 1) := dq daX10_best_41_0 1 rfl
theorem dX10_best_14 : decode cX10_best 14 = .ok (.iload_n 3, 1) := dq daX10_best_41_0 2 rfl
theorem dX10_best_15 : decode cX10_best 15 = .ok (.invokevirtual 208, 3) := dq daX10_best_41_0 3 rfl
theorem dX10_best_18 : decode cX10_best 18 = .ok (.ifCond .eq 27, 3) := dq daX10_best_41_0 4 rfl
theorem dX10_best_21 : decode cX10_best 21 = .ok (.iload 4, 2) := dq daX10_best_41_0 5 rfl
theorem dX10_best_23 : decode cX10_best 23 = .ok (.iload 5, 2) := dq daX10_best_41_0 6 rfl
theorem dX10_best_25 : decode cX10_best 25 = .ok (.iload 6, 2) := dq daX10_best_41_0 7 rfl
theorem dX10_best_27 : decode cX10_best 27 = .ok (.iload 7, 2) := dq daX10_best_41_0 8 rfl
theorem dX10_best_29 : decode cX10_best 29 = .ok (.invokestatic 191, 3) := dq daX10_best_41_0 9 rfl
theorem dX10_best_32 : decode cX10_best 32 = .ok (.ifCond .eq 13, 3) := dq daX10_best_41_0 10 rfl
theorem dX10_best_35 : decode cX10_best 35 = .ok (.iload 8, 2) := dq daX10_best_41_0 11 rfl
theorem dX10_best_37 : decode cX10_best 37 = .ok (.bipush 8, 2) := dq daX10_best_41_0 12 rfl
theorem dX10_best_39 : decode cX10_best 39 = .ok (.invokestatic 79, 3) := dq daX10_best_41_0 13 rfl
theorem dX10_best_42 : decode cX10_best 42 = .ok (.ifCond .ne 5, 3) := dq daX10_best_41_0 14 rfl
theorem dX10_best_47 : decode cX10_best 47 = .ok (.aload_n 0, 1) := dq daX10_best_41_0 15 rfl
theorem dX10_best_48 : decode cX10_best 48 = .ok (.getfield 61, 3) := dq daX10_best_41_0 16 rfl
theorem dX10_best_51 : decode cX10_best 51 = .ok (.iload_n 3, 1) := dq daX10_best_41_0 17 rfl
theorem dX10_best_52 : decode cX10_best 52 = .ok (.iconst (-1), 1) := dq daX10_best_41_0 18 rfl
theorem dX10_best_53 : decode cX10_best 53 = .ok (.invokevirtual 211, 3) := dq daX10_best_41_0 19 rfl
theorem dX10_best_56 : decode cX10_best 56 = .ok (.aload_n 0, 1) := dq daX10_best_41_0 20 rfl
theorem dX10_best_57 : decode cX10_best 57 = .ok (.getfield 52, 3) := dq daX10_best_41_0 21 rfl
theorem dX10_best_60 : decode cX10_best 60 = .ok (.aload 9, 2) := dq daX10_best_41_0 22 rfl
theorem dX10_best_62 : decode cX10_best 62 = .ok (.iload 4, 2) := dq daX10_best_41_0 23 rfl
theorem dX10_best_64 : decode cX10_best 64 = .ok (.iload 5, 2) := dq daX10_best_41_0 24 rfl
theorem dX10_best_66 : decode cX10_best 66 = .ok (.iload 6, 2) := dq daX10_best_41_0 25 rfl
theorem dX10_best_68 : decode cX10_best 68 = .ok (.iload 7, 2) := dq daX10_best_41_0 26 rfl
theorem dX10_best_70 : decode cX10_best 70 = .ok (.invokevirtual 195, 3) := dq daX10_best_41_0 27 rfl
theorem dX10_best_73 : decode cX10_best 73 = .ok (.aload_n 0, 1) := dq daX10_best_41_0 28 rfl
theorem dX10_best_74 : decode cX10_best 74 = .ok (.getfield 61, 3) := dq daX10_best_41_0 29 rfl
theorem dX10_best_77 : decode cX10_best 77 = .ok (.iload_n 2, 1) := dq daX10_best_41_0 30 rfl
theorem dX10_best_78 : decode cX10_best 78 = .ok (.invokevirtual 214, 3) := dq daX10_best_41_0 31 rfl
def dtX10_best_41_1 : List (Nat × Jvm.ClassFile.Instr × Nat) := [(81, .aload_n 0, 1), (82, .getfield 61, 3), (85, .getfield 217, 3), (88, .ifCond .ge 6, 3), (94, .iload 8, 2), (96, .ifCond .ne 11, 3), (107, .iload 8, 2), (109, .iconst 1, 1), (110, .if_icmp .ne 11, 3), (121, .iload 8, 2), (123, .iconst 2, 1), (124, .if_icmp .ne 13, 3), (137, .aload_n 0, 1), (138, .getfield 61, 3), (141, .iload 8, 2), (143, .iconst 3, 1), (144, .isub, 1), (145, .invokevirtual 226, 3), (127, .aload_n 0, 1), (128, .getfield 61, 3), (131, .getfield 223, 3), (134, .goto 14, 3), (113, .aload_n 0, 1), (114, .getfield 61, 3), (117, .getfield 220, 3), (99, .aload_n 0, 1), (100, .getfield 61, 3), (103, .getfield 217, 3), (91, .bipush (-3), 2), (148, .ireturn, 1), (120, .ireturn, 1), (106, .ireturn, 1)]
theorem daX10_best_41_1 : dtX10_best_41_1.all (dqd cX10_best) = true := by decide +kernel
theorem dX10_best_81 : decode cX10_best 81 = .ok (.aload_n 0, 1) := dq daX10_best_41_1 0 rfl
theorem dX10_best_82 : decode cX10_best 82 = .ok (.getfield 61, 3) := dq daX10_best_41_1 1 rfl
theorem dX10_best_85 : decode cX10_best 85 = .ok (.getfield 217, 3) := dq daX10_best_41_1 2 rfl
theorem dX10_best_88 : decode cX10_best 88 = .ok (.ifCond .ge 6, 3) := dq daX10_best_41_1 3 rfl
theorem dX10_best_94 : decode cX10_best 94 = .ok (.iload 8, 2) := dq daX10_best_41_1 4 rfl
theorem dX10_best_96 : decode cX10_best 96 = .ok (.ifCond .ne 11, 3) := dq daX10_best_41_1 5 rfl
theorem dX10_best_107 : decode cX10_best 107 = .ok (.iload 8, 2) := dq daX10_best_41_1 6 rfl
theorem dX10_best_109 : decode cX10_best 109 = .ok (.iconst 1, 1) := dq daX10_best_41_1 7 rfl
theorem dX10_best_110 : decode cX10_best 110 = .ok (.if_icmp .ne 11, 3) := dq daX10_best_41_1 8 rfl
theorem dX10_best_121 : decode cX10_best 121 = .ok (.iload 8, 2) := dq daX10_best_41_1 9 rfl
theorem dX10_best_123 : decode cX10_best 123 = .ok (.iconst 2, 1) := dq daX10_best_41_1 10 rfl
theorem dX10_best_124 : decode cX10_best 124 = .ok (.if_icmp .ne 13, 3) := dq daX10_best_41_1 11 rfl
theorem dX10_best_137 : decode cX10_best 137 = .ok (.aload_n 0, 1) := dq daX10_best_41_1 12 rfl
theorem dX10_best_138 : decode cX10_best 138 = .ok (.getfield 61, 3) := dq daX10_best_41_1 13 rfl
theorem dX10_best_141 : decode cX10_best 141 = .ok (.iload 8, 2) := dq daX10_best_41_1 14 rfl
theorem dX10_best_143 : decode cX10_best 143 = .ok (.iconst 3, 1) := dq daX10_best_41_1 15 rfl
theorem dX10_best_144 : decode cX10_best 144 = .ok (.isub, 1) := dq daX10_best_41_1 16 rfl
theorem dX10_best_145 : decode cX10_best 145 = .ok (.invokevirtual 226, 3) := dq daX10_best_41_1 17 rfl
theorem dX10_best_127 : decode cX10_best 127 = .ok (.aload_n 0, 1) := dq daX10_best_41_1 18 rfl
theorem dX10_best_128 : decode cX10_best 128 = .ok (.getfield 61, 3) := dq daX10_best_41_1 19 rfl
theorem dX10_best_131 : decode cX10_best 131 = .ok (.getfield 223, 3) := dq daX10_best_41_1 20 rfl
theorem dX10_best_134 : decode cX10_best 134 = .ok (.goto 14, 3) := dq daX10_best_41_1 21 rfl
theorem dX10_best_113 : decode cX10_best 113 = .ok (.aload_n 0, 1) := dq daX10_best_41_1 22 rfl
theorem dX10_best_114 : decode cX10_best 114 = .ok (.getfield 61, 3) := dq daX10_best_41_1 23 rfl
theorem dX10_best_117 : decode cX10_best 117 = .ok (.getfield 220, 3) := dq daX10_best_41_1 24 rfl
theorem dX10_best_99 : decode cX10_best 99 = .ok (.aload_n 0, 1) := dq daX10_best_41_1 25 rfl
theorem dX10_best_100 : decode cX10_best 100 = .ok (.getfield 61, 3) := dq daX10_best_41_1 26 rfl
theorem dX10_best_103 : decode cX10_best 103 = .ok (.getfield 217, 3) := dq daX10_best_41_1 27 rfl
theorem dX10_best_91 : decode cX10_best 91 = .ok (.bipush (-3), 2) := dq daX10_best_41_1 28 rfl
theorem dX10_best_148 : decode cX10_best 148 = .ok (.ireturn, 1) := dq daX10_best_41_1 29 rfl
theorem dX10_best_120 : decode cX10_best 120 = .ok (.ireturn, 1) := dq daX10_best_41_1 30 rfl
theorem dX10_best_106 : decode cX10_best 106 = .ok (.ireturn, 1) := dq daX10_best_41_1 31 rfl
def dtX10_best_41_2 : List (Nat × Jvm.ClassFile.Instr × Nat) := [(93, .ireturn, 1)]
theorem daX10_best_41_2 : dtX10_best_41_2.all (dqd cX10_best) = true := by decide +kernel
theorem dX10_best_93 : decode cX10_best 93 = .ok (.ireturn, 1) := dq daX10_best_41_2 0 rfl
def dtX10_warmer_41_0 : List (Nat × Jvm.ClassFile.Instr × Nat) := [(41, .iload 8, 2), (43, .ifCond .eq 14, 3), (46, .aload_n 0, 1), (47, .getfield 10, 3), (50, .getfield 176, 3), (53, .iconst (-1), 1), (54, .if_icmp .ne 5, 3), (59, .sipush 9999, 3), (62, .istore 9, 2), (64, .iload 9, 2), (66, .ifCond .lt 61, 3), (69, .aload_n 0, 1), (70, .getfield 52, 3), (73, .aload 7, 2), (75, .iload_n 2, 1), (76, .iload_n 3, 1), (77, .iload 4, 2), (79, .iload 5, 2), (81, .invokevirtual 195, 3), (84, .aload_n 0, 1), (85, .getfield 52, 3), (88, .iload 9, 2), (90, .putfield 237, 3), (93, .aload_n 0, 1), (94, .getfield 52, 3), (97, .iconst 1, 1), (98, .iload 6, 2), (100, .invokestatic 240, 3), (103, .putfield 245, 3), (106, .aload_n 0, 1), (107, .getfield 52, 3), (110, .iload 6, 2)]
theorem daX10_warmer_41_0 : dtX10_warmer_41_0.all (dqd cX10_warmer) = true := by decide +kernel
theorem dX10_warmer_41 : decode cX10_warmer 41 = .ok (.iload 8, 2) := dq daX10_warmer_41_0 0 rfl
theorem dX10_warmer_43 : decode cX10_warmer 43 = .ok (.ifCond .eq 14, 3) := dq daX10_warmer_41_0 1 rfl
theorem dX10_warmer_46 : decode cX10_warmer 46 = .ok (.aload_n 0, 1) := dq daX10_warmer_41_0 2 rfl
theorem dX10_warmer_47 : decode cX10_warmer 47 = .ok (.getfield 10, 3) := dq daX10_warmer_41_0 3 rfl
theorem dX10_warmer_50 : decode cX10_warmer 50 = .ok (.getfield 176, 3) := dq daX10_warmer_41_0 4 rfl
theorem dX10_warmer_53 : decode cX10_warmer 53 = .ok (.iconst (-1), 1) := dq daX10_warmer_41_0 5 rfl
theorem dX10_warmer_54 : decode cX10_warmer 54 = .ok (.if_icmp .ne 5, 3) := dq daX10_warmer_41_0 6 rfl
theorem dX10_warmer_59 : decode cX10_warmer 59 = .ok (.sipush 9999, 3) := dq daX10_warmer_41_0 7 rfl
theorem dX10_warmer_62 : decode cX10_warmer 62 = .ok (.istore 9, 2) := dq daX10_warmer_41_0 8 rfl
theorem dX10_warmer_64 : decode cX10_warmer 64 = .ok (.iload 9, 2) := dq daX10_warmer_41_0 9 rfl
theorem dX10_warmer_66 : decode cX10_warmer 66 = .ok (.ifCond .lt 61, 3) := dq daX10_warmer_41_0 10 rfl
theorem dX10_warmer_69 : decode cX10_warmer 69 = .ok (.aload_n 0, 1) := dq daX10_warmer_41_0 11 rfl
theorem dX10_warmer_70 : decode cX10_warmer 70 = .ok (.getfield 52, 3) := dq daX10_warmer_41_0 12 rfl
theorem dX10_warmer_73 : decode cX10_warmer 73 = .ok (.aload 7, 2) := dq daX10_warmer_41_0 13 rfl
theorem dX10_warmer_75 : decode cX10_warmer 75 = .ok (.iload_n 2, 1) := dq daX10_warmer_41_0 14 rfl
theorem dX10_warmer_76 : decode cX10_warmer 76 = .ok (.iload_n 3, 1) := dq daX10_warmer_41_0 15 rfl
theorem dX10_warmer_77 : decode cX10_warmer 77 = .ok (.iload 4, 2) := dq daX10_warmer_41_0 16 rfl
theorem dX10_warmer_79 : decode cX10_warmer 79 = .ok (.iload 5, 2) := dq daX10_warmer_41_0 17 rfl
theorem dX10_warmer_81 : decode cX10_warmer 81 = .ok (.invokevirtual 195, 3) := dq daX10_warmer_41_0 18 rfl
theorem dX10_warmer_84 : decode cX10_warmer 84 = .ok (.aload_n 0, 1) := dq daX10_warmer_41_0 19 rfl
theorem dX10_warmer_85 : decode cX10_warmer 85 = .ok (.getfield 52, 3) := dq daX10_warmer_41_0 20 rfl
theorem dX10_warmer_88 : decode cX10_warmer 88 = .ok (.iload 9, 2) := dq daX10_warmer_41_0 21 rfl
theorem dX10_warmer_90 : decode cX10_warmer 90 = .ok (.putfield 237, 3) := dq daX10_warmer_41_0 22 rfl
theorem dX10_warmer_93 : decode cX10_warmer 93 = .ok (.aload_n 0, 1) := dq daX10_warmer_41_0 23 rfl
theorem dX10_warmer_94 : decode cX10_warmer 94 = .ok (.getfield 52, 3) := dq daX10_warmer_41_0 24 rfl
theorem dX10_warmer_97 : decode cX10_warmer 97 = .ok (.iconst 1, 1) := dq daX10_warmer_41_0 25 rfl
theorem dX10_warmer_98 : decode cX10_warmer 98 = .ok (.iload 6, 2) := dq daX10_warmer_41_0 26 rfl
theorem dX10_warmer_100 : decode cX10_warmer 100 = .ok (.invokestatic 240, 3) := dq daX10_warmer_41_0 27 rfl
theorem dX10_warmer_103 : decode cX10_warmer 103 = .ok (.putfield 245, 3) := dq daX10_warmer_41_0 28 rfl
theorem dX10_warmer_106 : decode cX10_warmer 106 = .ok (.aload_n 0, 1) := dq daX10_warmer_41_0 29 rfl
theorem dX10_warmer_107 : decode cX10_warmer 107 = .ok (.getfield 52, 3) := dq daX10_warmer_41_0 30 rfl
theorem dX10_warmer_110 : decode cX10_warmer 110 = .ok (.iload 6, 2) := dq daX10_warmer_41_0 31 rfl
def dtX10_warmer_41_1 : List (Nat × Jvm.ClassFile.Instr × Nat) := [(112, .invokevirtual 199, 3), (115, .ifCond .eq 6, 3), (121, .iinc 9 (-1), 3), (124, .goto (-60), 3), (118, .iload 9, 2), (120, .ireturn, 1), (127, .bipush (-2), 2), (129, .ireturn, 1)]
theorem daX10_warmer_41_1 : dtX10_warmer_41_1.all (dqd cX10_warmer) = true := by decide +kernel
theorem dX10_warmer_112 : decode cX10_warmer 112 = .ok (.invokevirtual 199, 3) := dq daX10_warmer_41_1 0 rfl
theorem dX10_warmer_115 : decode cX10_warmer 115 = .ok (.ifCond .eq 6, 3) := dq daX10_warmer_41_1 1 rfl
theorem dX10_warmer_121 : decode cX10_warmer 121 = .ok (.iinc 9 (-1), 3) := dq daX10_warmer_41_1 2 rfl
theorem dX10_warmer_124 : decode cX10_warmer 124 = .ok (.goto (-60), 3) := dq daX10_warmer_41_1 3 rfl
theorem dX10_warmer_118 : decode cX10_warmer 118 = .ok (.iload 9, 2) := dq daX10_warmer_41_1 4 rfl
theorem dX10_warmer_120 : decode cX10_warmer 120 = .ok (.ireturn, 1) := dq daX10_warmer_41_1 5 rfl
theorem dX10_warmer_127 : decode cX10_warmer 127 = .ok (.bipush (-2), 2) := dq daX10_warmer_41_1 6 rfl
theorem dX10_warmer_129 : decode cX10_warmer 129 = .ok (.ireturn, 1) := dq daX10_warmer_41_1 7 rfl
def dtX10_guess_41_0 : List (Nat × Jvm.ClassFile.Instr × Nat) := [(75, .iload_n 2, 1), (76, .iload_n 3, 1), (77, .iload 4, 2), (79, .iload 5, 2), (81, .invokestatic 191, 3), (84, .ifCond .eq 24, 3), (87, .iload 11, 2), (89, .ifCond .eq 19, 3), (92, .iload 12, 2), (94, .ifCond .eq 14, 3), (97, .aload_n 0, 1), (98, .getfield 10, 3), (101, .getfield 176, 3), (104, .iconst (-1), 1), (105, .if_icmp .ne 5, 3), (110, .aload_n 0, 1), (111, .getfield 52, 3), (114, .aload 10, 2), (116, .iload_n 2, 1), (117, .iload_n 3, 1), (118, .iload 4, 2), (120, .iload 5, 2), (122, .invokevirtual 195, 3), (125, .aload_n 0, 1), (126, .getfield 68, 3), (129, .iload 6, 2), (131, .iload 7, 2), (133, .invokevirtual 248, 3), (136, .iload 9, 2), (138, .ifCond .ne 11, 3), (149, .aload_n 0, 1), (150, .getfield 68, 3)]
theorem daX10_guess_41_0 : dtX10_guess_41_0.all (dqd cX10_guess) = true := by decide +kernel
theorem dX10_guess_75 : decode cX10_guess 75 = .ok (.iload_n 2, 1) := dq daX10_guess_41_0 0 rfl
theorem dX10_guess_76 : decode cX10_guess 76 = .ok (.iload_n 3, 1) := dq daX10_guess_41_0 1 rfl
theorem dX10_guess_77 : decode cX10_guess 77 = .ok (.iload 4, 2) := dq daX10_guess_41_0 2 rfl
theorem dX10_guess_79 : decode cX10_guess 79 = .ok (.iload 5, 2) := dq daX10_guess_41_0 3 rfl
theorem dX10_guess_81 : decode cX10_guess 81 = .ok (.invokestatic 191, 3) := dq daX10_guess_41_0 4 rfl
theorem dX10_guess_84 : decode cX10_guess 84 = .ok (.ifCond .eq 24, 3) := dq daX10_guess_41_0 5 rfl
theorem dX10_guess_87 : decode cX10_guess 87 = .ok (.iload 11, 2) := dq daX10_guess_41_0 6 rfl
theorem dX10_guess_89 : decode cX10_guess 89 = .ok (.ifCond .eq 19, 3) := dq daX10_guess_41_0 7 rfl
theorem dX10_guess_92 : decode cX10_guess 92 = .ok (.iload 12, 2) := dq daX10_guess_41_0 8 rfl
theorem dX10_guess_94 : decode cX10_guess 94 = .ok (.ifCond .eq 14, 3) := dq daX10_guess_41_0 9 rfl
theorem dX10_guess_97 : decode cX10_guess 97 = .ok (.aload_n 0, 1) := dq daX10_guess_41_0 10 rfl
theorem dX10_guess_98 : decode cX10_guess 98 = .ok (.getfield 10, 3) := dq daX10_guess_41_0 11 rfl
theorem dX10_guess_101 : decode cX10_guess 101 = .ok (.getfield 176, 3) := dq daX10_guess_41_0 12 rfl
theorem dX10_guess_104 : decode cX10_guess 104 = .ok (.iconst (-1), 1) := dq daX10_guess_41_0 13 rfl
theorem dX10_guess_105 : decode cX10_guess 105 = .ok (.if_icmp .ne 5, 3) := dq daX10_guess_41_0 14 rfl
theorem dX10_guess_110 : decode cX10_guess 110 = .ok (.aload_n 0, 1) := dq daX10_guess_41_0 15 rfl
theorem dX10_guess_111 : decode cX10_guess 111 = .ok (.getfield 52, 3) := dq daX10_guess_41_0 16 rfl
theorem dX10_guess_114 : decode cX10_guess 114 = .ok (.aload 10, 2) := dq daX10_guess_41_0 17 rfl
theorem dX10_guess_116 : decode cX10_guess 116 = .ok (.iload_n 2, 1) := dq daX10_guess_41_0 18 rfl
theorem dX10_guess_117 : decode cX10_guess 117 = .ok (.iload_n 3, 1) := dq daX10_guess_41_0 19 rfl
theorem dX10_guess_118 : decode cX10_guess 118 = .ok (.iload 4, 2) := dq daX10_guess_41_0 20 rfl
theorem dX10_guess_120 : decode cX10_guess 120 = .ok (.iload 5, 2) := dq daX10_guess_41_0 21 rfl
theorem dX10_guess_122 : decode cX10_guess 122 = .ok (.invokevirtual 195, 3) := dq daX10_guess_41_0 22 rfl
theorem dX10_guess_125 : decode cX10_guess 125 = .ok (.aload_n 0, 1) := dq daX10_guess_41_0 23 rfl
theorem dX10_guess_126 : decode cX10_guess 126 = .ok (.getfield 68, 3) := dq daX10_guess_41_0 24 rfl
theorem dX10_guess_129 : decode cX10_guess 129 = .ok (.iload 6, 2) := dq daX10_guess_41_0 25 rfl
theorem dX10_guess_131 : decode cX10_guess 131 = .ok (.iload 7, 2) := dq daX10_guess_41_0 26 rfl
theorem dX10_guess_133 : decode cX10_guess 133 = .ok (.invokevirtual 248, 3) := dq daX10_guess_41_0 27 rfl
theorem dX10_guess_136 : decode cX10_guess 136 = .ok (.iload 9, 2) := dq daX10_guess_41_0 28 rfl
theorem dX10_guess_138 : decode cX10_guess 138 = .ok (.ifCond .ne 11, 3) := dq daX10_guess_41_0 29 rfl
theorem dX10_guess_149 : decode cX10_guess 149 = .ok (.aload_n 0, 1) := dq daX10_guess_41_0 30 rfl
theorem dX10_guess_150 : decode cX10_guess 150 = .ok (.getfield 68, 3) := dq daX10_guess_41_0 31 rfl
def dtX10_guess_41_1 : List (Nat × Jvm.ClassFile.Instr × Nat) := [(153, .getfield 251, 3), (156, .ifCond .ne 6, 3), (162, .iload 9, 2), (164, .iconst 1, 1), (165, .if_icmp .ne 15, 3), (180, .aload_n 0, 1), (181, .getfield 68, 3), (184, .iload 8, 2), (186, .invokevirtual 257, 3), (168, .aload_n 0, 1), (169, .getfield 68, 3), (172, .iload 8, 2), (174, .invokevirtual 254, 3), (177, .goto 12, 3), (159, .bipush (-2), 2), (141, .aload_n 0, 1), (142, .getfield 68, 3), (145, .getfield 251, 3), (189, .ireturn, 1), (161, .ireturn, 1), (148, .ireturn, 1)]
theorem daX10_guess_41_1 : dtX10_guess_41_1.all (dqd cX10_guess) = true := by decide +kernel
theorem dX10_guess_153 : decode cX10_guess 153 = .ok (.getfield 251, 3) := dq daX10_guess_41_1 0 rfl
theorem dX10_guess_156 : decode cX10_guess 156 = .ok (.ifCond .ne 6, 3) := dq daX10_guess_41_1 1 rfl
theorem dX10_guess_162 : decode cX10_guess 162 = .ok (.iload 9, 2) := dq daX10_guess_41_1 2 rfl
theorem dX10_guess_164 : decode cX10_guess 164 = .ok (.iconst 1, 1) := dq daX10_guess_41_1 3 rfl
theorem dX10_guess_165 : decode cX10_guess 165 = .ok (.if_icmp .ne 15, 3) := dq daX10_guess_41_1 4 rfl
theorem dX10_guess_180 : decode cX10_guess 180 = .ok (.aload_n 0, 1) := dq daX10_guess_41_1 5 rfl
theorem dX10_guess_181 : decode cX10_guess 181 = .ok (.getfield 68, 3) := dq daX10_guess_41_1 6 rfl
theorem dX10_guess_184 : decode cX10_guess 184 = .ok (.iload 8, 2) := dq daX10_guess_41_1 7 rfl
theorem dX10_guess_186 : decode cX10_guess 186 = .ok (.invokevirtual 257, 3) := dq daX10_guess_41_1 8 rfl
theorem dX10_guess_168 : decode cX10_guess 168 = .ok (.aload_n 0, 1) := dq daX10_guess_41_1 9 rfl
theorem dX10_guess_169 : decode cX10_guess 169 = .ok (.getfield 68, 3) := dq daX10_guess_41_1 10 rfl
theorem dX10_guess_172 : decode cX10_guess 172 = .ok (.iload 8, 2) := dq daX10_guess_41_1 11 rfl
theorem dX10_guess_174 : decode cX10_guess 174 = .ok (.invokevirtual 254, 3) := dq daX10_guess_41_1 12 rfl
theorem dX10_guess_177 : decode cX10_guess 177 = .ok (.goto 12, 3) := dq daX10_guess_41_1 13 rfl
theorem dX10_guess_159 : decode cX10_guess 159 = .ok (.bipush (-2), 2) := dq daX10_guess_41_1 14 rfl
theorem dX10_guess_141 : decode cX10_guess 141 = .ok (.aload_n 0, 1) := dq daX10_guess_41_1 15 rfl
theorem dX10_guess_142 : decode cX10_guess 142 = .ok (.getfield 68, 3) := dq daX10_guess_41_1 16 rfl
theorem dX10_guess_145 : decode cX10_guess 145 = .ok (.getfield 251, 3) := dq daX10_guess_41_1 17 rfl
theorem dX10_guess_189 : decode cX10_guess 189 = .ok (.ireturn, 1) := dq daX10_guess_41_1 18 rfl
theorem dX10_guess_161 : decode cX10_guess 161 = .ok (.ireturn, 1) := dq daX10_guess_41_1 19 rfl
theorem dX10_guess_148 : decode cX10_guess 148 = .ok (.ireturn, 1) := dq daX10_guess_41_1 20 rfl
def dtX10_serves_41_0 : List (Nat × Jvm.ClassFile.Instr × Nat) := [(12, .aload_n 0, 1), (13, .getfield 10, 3), (16, .getfield 107, 3), (19, .iload_n 2, 1), (20, .invokevirtual 97, 3), (23, .ifCond .eq 17, 3), (26, .aload_n 0, 1), (27, .getfield 10, 3), (30, .getfield 263, 3), (33, .iload_n 3, 1), (34, .invokevirtual 97, 3), (37, .ifCond .ne 5, 3), (42, .aload_n 0, 1), (43, .getfield 61, 3), (46, .aload 4, 2), (48, .iload_n 2, 1), (49, .iload_n 3, 1), (50, .iconst 0, 1), (51, .invokevirtual 266, 3), (54, .ireturn, 1)]
theorem daX10_serves_41_0 : dtX10_serves_41_0.all (dqd cX10_serves) = true := by decide +kernel
theorem dX10_serves_12 : decode cX10_serves 12 = .ok (.aload_n 0, 1) := dq daX10_serves_41_0 0 rfl
theorem dX10_serves_13 : decode cX10_serves 13 = .ok (.getfield 10, 3) := dq daX10_serves_41_0 1 rfl
theorem dX10_serves_16 : decode cX10_serves 16 = .ok (.getfield 107, 3) := dq daX10_serves_41_0 2 rfl
theorem dX10_serves_19 : decode cX10_serves 19 = .ok (.iload_n 2, 1) := dq daX10_serves_41_0 3 rfl
theorem dX10_serves_20 : decode cX10_serves 20 = .ok (.invokevirtual 97, 3) := dq daX10_serves_41_0 4 rfl
theorem dX10_serves_23 : decode cX10_serves 23 = .ok (.ifCond .eq 17, 3) := dq daX10_serves_41_0 5 rfl
theorem dX10_serves_26 : decode cX10_serves 26 = .ok (.aload_n 0, 1) := dq daX10_serves_41_0 6 rfl
theorem dX10_serves_27 : decode cX10_serves 27 = .ok (.getfield 10, 3) := dq daX10_serves_41_0 7 rfl
theorem dX10_serves_30 : decode cX10_serves 30 = .ok (.getfield 263, 3) := dq daX10_serves_41_0 8 rfl
theorem dX10_serves_33 : decode cX10_serves 33 = .ok (.iload_n 3, 1) := dq daX10_serves_41_0 9 rfl
theorem dX10_serves_34 : decode cX10_serves 34 = .ok (.invokevirtual 97, 3) := dq daX10_serves_41_0 10 rfl
theorem dX10_serves_37 : decode cX10_serves 37 = .ok (.ifCond .ne 5, 3) := dq daX10_serves_41_0 11 rfl
theorem dX10_serves_42 : decode cX10_serves 42 = .ok (.aload_n 0, 1) := dq daX10_serves_41_0 12 rfl
theorem dX10_serves_43 : decode cX10_serves 43 = .ok (.getfield 61, 3) := dq daX10_serves_41_0 13 rfl
theorem dX10_serves_46 : decode cX10_serves 46 = .ok (.aload 4, 2) := dq daX10_serves_41_0 14 rfl
theorem dX10_serves_48 : decode cX10_serves 48 = .ok (.iload_n 2, 1) := dq daX10_serves_41_0 15 rfl
theorem dX10_serves_49 : decode cX10_serves 49 = .ok (.iload_n 3, 1) := dq daX10_serves_41_0 16 rfl
theorem dX10_serves_50 : decode cX10_serves 50 = .ok (.iconst 0, 1) := dq daX10_serves_41_0 17 rfl
theorem dX10_serves_51 : decode cX10_serves 51 = .ok (.invokevirtual 266, 3) := dq daX10_serves_41_0 18 rfl
theorem dX10_serves_54 : decode cX10_serves 54 = .ok (.ireturn, 1) := dq daX10_serves_41_0 19 rfl
def dtX10_all_41_0 : List (Nat × Jvm.ClassFile.Instr × Nat) := [(10, .iload_n 2, 1), (11, .bipush 6, 2), (13, .invokestatic 79, 3), (16, .ifCond .ne 5, 3), (21, .aload_n 0, 1), (22, .getfield 75, 3), (25, .invokevirtual 270, 3), (28, .iconst 0, 1), (29, .istore 4, 2), (31, .iload 4, 2), (33, .aload_n 0, 1), (34, .getfield 10, 3), (37, .getfield 263, 3), (40, .getfield 188, 3), (43, .if_icmp .ge 60, 3), (46, .iconst 0, 1), (47, .istore 5, 2), (49, .iload 5, 2), (51, .aload_n 0, 1), (52, .getfield 10, 3), (55, .getfield 107, 3), (58, .getfield 188, 3), (61, .if_icmp .ge 36, 3), (64, .aload_n 0, 1), (65, .getfield 61, 3), (68, .aload_n 3, 1), (69, .iload 5, 2), (71, .iload 4, 2), (73, .iconst 1, 1), (74, .invokevirtual 266, 3), (77, .ifCond .lt 14, 3), (91, .iinc 5 1, 3)]
theorem daX10_all_41_0 : dtX10_all_41_0.all (dqd cX10_all) = true := by decide +kernel
theorem dX10_all_10 : decode cX10_all 10 = .ok (.iload_n 2, 1) := dq daX10_all_41_0 0 rfl
theorem dX10_all_11 : decode cX10_all 11 = .ok (.bipush 6, 2) := dq daX10_all_41_0 1 rfl
theorem dX10_all_13 : decode cX10_all 13 = .ok (.invokestatic 79, 3) := dq daX10_all_41_0 2 rfl
theorem dX10_all_16 : decode cX10_all 16 = .ok (.ifCond .ne 5, 3) := dq daX10_all_41_0 3 rfl
theorem dX10_all_21 : decode cX10_all 21 = .ok (.aload_n 0, 1) := dq daX10_all_41_0 4 rfl
theorem dX10_all_22 : decode cX10_all 22 = .ok (.getfield 75, 3) := dq daX10_all_41_0 5 rfl
theorem dX10_all_25 : decode cX10_all 25 = .ok (.invokevirtual 270, 3) := dq daX10_all_41_0 6 rfl
theorem dX10_all_28 : decode cX10_all 28 = .ok (.iconst 0, 1) := dq daX10_all_41_0 7 rfl
theorem dX10_all_29 : decode cX10_all 29 = .ok (.istore 4, 2) := dq daX10_all_41_0 8 rfl
theorem dX10_all_31 : decode cX10_all 31 = .ok (.iload 4, 2) := dq daX10_all_41_0 9 rfl
theorem dX10_all_33 : decode cX10_all 33 = .ok (.aload_n 0, 1) := dq daX10_all_41_0 10 rfl
theorem dX10_all_34 : decode cX10_all 34 = .ok (.getfield 10, 3) := dq daX10_all_41_0 11 rfl
theorem dX10_all_37 : decode cX10_all 37 = .ok (.getfield 263, 3) := dq daX10_all_41_0 12 rfl
theorem dX10_all_40 : decode cX10_all 40 = .ok (.getfield 188, 3) := dq daX10_all_41_0 13 rfl
theorem dX10_all_43 : decode cX10_all 43 = .ok (.if_icmp .ge 60, 3) := dq daX10_all_41_0 14 rfl
theorem dX10_all_46 : decode cX10_all 46 = .ok (.iconst 0, 1) := dq daX10_all_41_0 15 rfl
theorem dX10_all_47 : decode cX10_all 47 = .ok (.istore 5, 2) := dq daX10_all_41_0 16 rfl
theorem dX10_all_49 : decode cX10_all 49 = .ok (.iload 5, 2) := dq daX10_all_41_0 17 rfl
theorem dX10_all_51 : decode cX10_all 51 = .ok (.aload_n 0, 1) := dq daX10_all_41_0 18 rfl
theorem dX10_all_52 : decode cX10_all 52 = .ok (.getfield 10, 3) := dq daX10_all_41_0 19 rfl
theorem dX10_all_55 : decode cX10_all 55 = .ok (.getfield 107, 3) := dq daX10_all_41_0 20 rfl
theorem dX10_all_58 : decode cX10_all 58 = .ok (.getfield 188, 3) := dq daX10_all_41_0 21 rfl
theorem dX10_all_61 : decode cX10_all 61 = .ok (.if_icmp .ge 36, 3) := dq daX10_all_41_0 22 rfl
theorem dX10_all_64 : decode cX10_all 64 = .ok (.aload_n 0, 1) := dq daX10_all_41_0 23 rfl
theorem dX10_all_65 : decode cX10_all 65 = .ok (.getfield 61, 3) := dq daX10_all_41_0 24 rfl
theorem dX10_all_68 : decode cX10_all 68 = .ok (.aload_n 3, 1) := dq daX10_all_41_0 25 rfl
theorem dX10_all_69 : decode cX10_all 69 = .ok (.iload 5, 2) := dq daX10_all_41_0 26 rfl
theorem dX10_all_71 : decode cX10_all 71 = .ok (.iload 4, 2) := dq daX10_all_41_0 27 rfl
theorem dX10_all_73 : decode cX10_all 73 = .ok (.iconst 1, 1) := dq daX10_all_41_0 28 rfl
theorem dX10_all_74 : decode cX10_all 74 = .ok (.invokevirtual 266, 3) := dq daX10_all_41_0 29 rfl
theorem dX10_all_77 : decode cX10_all 77 = .ok (.ifCond .lt 14, 3) := dq daX10_all_41_0 30 rfl
theorem dX10_all_91 : decode cX10_all 91 = .ok (.iinc 5 1, 3) := dq daX10_all_41_0 31 rfl
def dtX10_all_41_1 : List (Nat × Jvm.ClassFile.Instr × Nat) := [(94, .goto (-45), 3), (80, .aload_n 0, 1), (81, .getfield 75, 3), (84, .iload 5, 2), (86, .iload 4, 2), (88, .invokevirtual 273, 3), (97, .iinc 4 1, 3), (100, .goto (-69), 3), (103, .aload_n 0, 1), (104, .getfield 75, 3), (107, .invokevirtual 276, 3), (110, .iload_n 2, 1), (111, .ifCond .ne 13, 3), (124, .aload_n 0, 1), (125, .getfield 75, 3), (128, .iload_n 2, 1), (129, .iconst 1, 1), (130, .isub, 1), (131, .invokevirtual 282, 3), (114, .aload_n 0, 1), (115, .getfield 75, 3), (118, .getfield 279, 3), (121, .goto 13, 3), (134, .ireturn, 1)]
theorem daX10_all_41_1 : dtX10_all_41_1.all (dqd cX10_all) = true := by decide +kernel
theorem dX10_all_94 : decode cX10_all 94 = .ok (.goto (-45), 3) := dq daX10_all_41_1 0 rfl
theorem dX10_all_80 : decode cX10_all 80 = .ok (.aload_n 0, 1) := dq daX10_all_41_1 1 rfl
theorem dX10_all_81 : decode cX10_all 81 = .ok (.getfield 75, 3) := dq daX10_all_41_1 2 rfl
theorem dX10_all_84 : decode cX10_all 84 = .ok (.iload 5, 2) := dq daX10_all_41_1 3 rfl
theorem dX10_all_86 : decode cX10_all 86 = .ok (.iload 4, 2) := dq daX10_all_41_1 4 rfl
theorem dX10_all_88 : decode cX10_all 88 = .ok (.invokevirtual 273, 3) := dq daX10_all_41_1 5 rfl
theorem dX10_all_97 : decode cX10_all 97 = .ok (.iinc 4 1, 3) := dq daX10_all_41_1 6 rfl
theorem dX10_all_100 : decode cX10_all 100 = .ok (.goto (-69), 3) := dq daX10_all_41_1 7 rfl
theorem dX10_all_103 : decode cX10_all 103 = .ok (.aload_n 0, 1) := dq daX10_all_41_1 8 rfl
theorem dX10_all_104 : decode cX10_all 104 = .ok (.getfield 75, 3) := dq daX10_all_41_1 9 rfl
theorem dX10_all_107 : decode cX10_all 107 = .ok (.invokevirtual 276, 3) := dq daX10_all_41_1 10 rfl
theorem dX10_all_110 : decode cX10_all 110 = .ok (.iload_n 2, 1) := dq daX10_all_41_1 11 rfl
theorem dX10_all_111 : decode cX10_all 111 = .ok (.ifCond .ne 13, 3) := dq daX10_all_41_1 12 rfl
theorem dX10_all_124 : decode cX10_all 124 = .ok (.aload_n 0, 1) := dq daX10_all_41_1 13 rfl
theorem dX10_all_125 : decode cX10_all 125 = .ok (.getfield 75, 3) := dq daX10_all_41_1 14 rfl
theorem dX10_all_128 : decode cX10_all 128 = .ok (.iload_n 2, 1) := dq daX10_all_41_1 15 rfl
theorem dX10_all_129 : decode cX10_all 129 = .ok (.iconst 1, 1) := dq daX10_all_41_1 16 rfl
theorem dX10_all_130 : decode cX10_all 130 = .ok (.isub, 1) := dq daX10_all_41_1 17 rfl
theorem dX10_all_131 : decode cX10_all 131 = .ok (.invokevirtual 282, 3) := dq daX10_all_41_1 18 rfl
theorem dX10_all_114 : decode cX10_all 114 = .ok (.aload_n 0, 1) := dq daX10_all_41_1 19 rfl
theorem dX10_all_115 : decode cX10_all 115 = .ok (.getfield 75, 3) := dq daX10_all_41_1 20 rfl
theorem dX10_all_118 : decode cX10_all 118 = .ok (.getfield 279, 3) := dq daX10_all_41_1 21 rfl
theorem dX10_all_121 : decode cX10_all 121 = .ok (.goto 13, 3) := dq daX10_all_41_1 22 rfl
theorem dX10_all_134 : decode cX10_all 134 = .ok (.ireturn, 1) := dq daX10_all_41_1 23 rfl
def dtX10_enough_41_0 : List (Nat × Jvm.ClassFile.Instr × Nat) := [(12, .aload_n 0, 1), (13, .getfield 10, 3), (16, .getfield 83, 3), (19, .iload_n 2, 1), (20, .invokevirtual 97, 3), (23, .ifCond .eq 12, 3), (26, .iload_n 3, 1), (27, .ldc 157, 2), (29, .invokestatic 79, 3), (32, .ifCond .ne 5, 3), (37, .aload_n 0, 1), (38, .getfield 43, 3), (41, .aload_n 0, 1), (42, .getfield 10, 3), (45, .aload 4, 2), (47, .iload_n 2, 1), (48, .iload_n 3, 1), (49, .invokevirtual 288, 3), (52, .ifCond .eq 7, 3), (59, .iconst 0, 1), (55, .iconst 1, 1), (56, .goto 4, 3), (60, .ireturn, 1)]
theorem daX10_enough_41_0 : dtX10_enough_41_0.all (dqd cX10_enough) = true := by decide +kernel
theorem dX10_enough_12 : decode cX10_enough 12 = .ok (.aload_n 0, 1) := dq daX10_enough_41_0 0 rfl
theorem dX10_enough_13 : decode cX10_enough 13 = .ok (.getfield 10, 3) := dq daX10_enough_41_0 1 rfl
theorem dX10_enough_16 : decode cX10_enough 16 = .ok (.getfield 83, 3) := dq daX10_enough_41_0 2 rfl
theorem dX10_enough_19 : decode cX10_enough 19 = .ok (.iload_n 2, 1) := dq daX10_enough_41_0 3 rfl
theorem dX10_enough_20 : decode cX10_enough 20 = .ok (.invokevirtual 97, 3) := dq daX10_enough_41_0 4 rfl
theorem dX10_enough_23 : decode cX10_enough 23 = .ok (.ifCond .eq 12, 3) := dq daX10_enough_41_0 5 rfl
theorem dX10_enough_26 : decode cX10_enough 26 = .ok (.iload_n 3, 1) := dq daX10_enough_41_0 6 rfl
theorem dX10_enough_27 : decode cX10_enough 27 = .ok (.ldc 157, 2) := dq daX10_enough_41_0 7 rfl
theorem dX10_enough_29 : decode cX10_enough 29 = .ok (.invokestatic 79, 3) := dq daX10_enough_41_0 8 rfl
theorem dX10_enough_32 : decode cX10_enough 32 = .ok (.ifCond .ne 5, 3) := dq daX10_enough_41_0 9 rfl
theorem dX10_enough_37 : decode cX10_enough 37 = .ok (.aload_n 0, 1) := dq daX10_enough_41_0 10 rfl
theorem dX10_enough_38 : decode cX10_enough 38 = .ok (.getfield 43, 3) := dq daX10_enough_41_0 11 rfl
theorem dX10_enough_41 : decode cX10_enough 41 = .ok (.aload_n 0, 1) := dq daX10_enough_41_0 12 rfl
theorem dX10_enough_42 : decode cX10_enough 42 = .ok (.getfield 10, 3) := dq daX10_enough_41_0 13 rfl
theorem dX10_enough_45 : decode cX10_enough 45 = .ok (.aload 4, 2) := dq daX10_enough_41_0 14 rfl
theorem dX10_enough_47 : decode cX10_enough 47 = .ok (.iload_n 2, 1) := dq daX10_enough_41_0 15 rfl
theorem dX10_enough_48 : decode cX10_enough 48 = .ok (.iload_n 3, 1) := dq daX10_enough_41_0 16 rfl
theorem dX10_enough_49 : decode cX10_enough 49 = .ok (.invokevirtual 288, 3) := dq daX10_enough_41_0 17 rfl
theorem dX10_enough_52 : decode cX10_enough 52 = .ok (.ifCond .eq 7, 3) := dq daX10_enough_41_0 18 rfl
theorem dX10_enough_59 : decode cX10_enough 59 = .ok (.iconst 0, 1) := dq daX10_enough_41_0 19 rfl
theorem dX10_enough_55 : decode cX10_enough 55 = .ok (.iconst 1, 1) := dq daX10_enough_41_0 20 rfl
theorem dX10_enough_56 : decode cX10_enough 56 = .ok (.goto 4, 3) := dq daX10_enough_41_0 21 rfl
theorem dX10_enough_60 : decode cX10_enough 60 = .ok (.ireturn, 1) := dq daX10_enough_41_0 22 rfl
def dtX10_least_41_0 : List (Nat × Jvm.ClassFile.Instr × Nat) := [(10, .aload_n 0, 1), (11, .getfield 10, 3), (14, .getfield 83, 3), (17, .iload_n 2, 1), (18, .invokevirtual 97, 3), (21, .ifCond .ne 5, 3), (26, .iconst 0, 1), (27, .istore 4, 2), (29, .iload 4, 2), (31, .sipush 1000, 3), (34, .if_icmp .ge 36, 3), (37, .aload_n 0, 1), (38, .getfield 43, 3), (41, .aload_n 0, 1), (42, .getfield 10, 3), (45, .aload_n 3, 1), (46, .iload_n 2, 1), (47, .iload 4, 2), (49, .bipush 100, 2), (51, .imul, 1), (52, .invokevirtual 288, 3), (55, .ifCond .eq 9, 3), (64, .iinc 4 1, 3), (67, .goto (-38), 3), (58, .iload 4, 2), (60, .bipush 100, 2), (62, .imul, 1), (63, .ireturn, 1), (70, .bipush (-2), 2), (72, .ireturn, 1)]
theorem daX10_least_41_0 : dtX10_least_41_0.all (dqd cX10_least) = true := by decide +kernel
theorem dX10_least_10 : decode cX10_least 10 = .ok (.aload_n 0, 1) := dq daX10_least_41_0 0 rfl
theorem dX10_least_11 : decode cX10_least 11 = .ok (.getfield 10, 3) := dq daX10_least_41_0 1 rfl
theorem dX10_least_14 : decode cX10_least 14 = .ok (.getfield 83, 3) := dq daX10_least_41_0 2 rfl
theorem dX10_least_17 : decode cX10_least 17 = .ok (.iload_n 2, 1) := dq daX10_least_41_0 3 rfl
theorem dX10_least_18 : decode cX10_least 18 = .ok (.invokevirtual 97, 3) := dq daX10_least_41_0 4 rfl
theorem dX10_least_21 : decode cX10_least 21 = .ok (.ifCond .ne 5, 3) := dq daX10_least_41_0 5 rfl
theorem dX10_least_26 : decode cX10_least 26 = .ok (.iconst 0, 1) := dq daX10_least_41_0 6 rfl
theorem dX10_least_27 : decode cX10_least 27 = .ok (.istore 4, 2) := dq daX10_least_41_0 7 rfl
theorem dX10_least_29 : decode cX10_least 29 = .ok (.iload 4, 2) := dq daX10_least_41_0 8 rfl
theorem dX10_least_31 : decode cX10_least 31 = .ok (.sipush 1000, 3) := dq daX10_least_41_0 9 rfl
theorem dX10_least_34 : decode cX10_least 34 = .ok (.if_icmp .ge 36, 3) := dq daX10_least_41_0 10 rfl
theorem dX10_least_37 : decode cX10_least 37 = .ok (.aload_n 0, 1) := dq daX10_least_41_0 11 rfl
theorem dX10_least_38 : decode cX10_least 38 = .ok (.getfield 43, 3) := dq daX10_least_41_0 12 rfl
theorem dX10_least_41 : decode cX10_least 41 = .ok (.aload_n 0, 1) := dq daX10_least_41_0 13 rfl
theorem dX10_least_42 : decode cX10_least 42 = .ok (.getfield 10, 3) := dq daX10_least_41_0 14 rfl
theorem dX10_least_45 : decode cX10_least 45 = .ok (.aload_n 3, 1) := dq daX10_least_41_0 15 rfl
theorem dX10_least_46 : decode cX10_least 46 = .ok (.iload_n 2, 1) := dq daX10_least_41_0 16 rfl
theorem dX10_least_47 : decode cX10_least 47 = .ok (.iload 4, 2) := dq daX10_least_41_0 17 rfl
theorem dX10_least_49 : decode cX10_least 49 = .ok (.bipush 100, 2) := dq daX10_least_41_0 18 rfl
theorem dX10_least_51 : decode cX10_least 51 = .ok (.imul, 1) := dq daX10_least_41_0 19 rfl
theorem dX10_least_52 : decode cX10_least 52 = .ok (.invokevirtual 288, 3) := dq daX10_least_41_0 20 rfl
theorem dX10_least_55 : decode cX10_least 55 = .ok (.ifCond .eq 9, 3) := dq daX10_least_41_0 21 rfl
theorem dX10_least_64 : decode cX10_least 64 = .ok (.iinc 4 1, 3) := dq daX10_least_41_0 22 rfl
theorem dX10_least_67 : decode cX10_least 67 = .ok (.goto (-38), 3) := dq daX10_least_41_0 23 rfl
theorem dX10_least_58 : decode cX10_least 58 = .ok (.iload 4, 2) := dq daX10_least_41_0 24 rfl
theorem dX10_least_60 : decode cX10_least 60 = .ok (.bipush 100, 2) := dq daX10_least_41_0 25 rfl
theorem dX10_least_62 : decode cX10_least 62 = .ok (.imul, 1) := dq daX10_least_41_0 26 rfl
theorem dX10_least_63 : decode cX10_least 63 = .ok (.ireturn, 1) := dq daX10_least_41_0 27 rfl
theorem dX10_least_70 : decode cX10_least 70 = .ok (.bipush (-2), 2) := dq daX10_least_41_0 28 rfl
theorem dX10_least_72 : decode cX10_least 72 = .ok (.ireturn, 1) := dq daX10_least_41_0 29 rfl
def dtX10_nights_41_0 : List (Nat × Jvm.ClassFile.Instr × Nat) := [(50, .iload 7, 2), (52, .ifCond .eq 28, 3), (55, .aload_n 0, 1), (56, .getfield 10, 3), (59, .getfield 107, 3), (62, .iload_n 2, 1), (63, .invokevirtual 97, 3), (66, .ifCond .eq 14, 3), (69, .aload_n 0, 1), (70, .getfield 10, 3), (73, .getfield 176, 3), (76, .iconst (-1), 1), (77, .if_icmp .ne 5, 3), (82, .iconst 3, 1), (83, .newarray .int, 2), (85, .dup, 1), (86, .iconst 0, 1), (87, .iconst 0, 1), (88, .iastore, 1), (89, .dup, 1), (90, .iconst 1, 1), (91, .iconst 0, 1), (92, .iastore, 1), (93, .dup, 1), (94, .iconst 2, 1), (95, .iconst 0, 1), (96, .iastore, 1), (97, .astore 8, 2), (99, .aload_n 0, 1), (100, .getfield 10, 3), (103, .getfield 118, 3), (106, .istore 9, 2)]
theorem daX10_nights_41_0 : dtX10_nights_41_0.all (dqd cX10_nights) = true := by decide +kernel
theorem dX10_nights_50 : decode cX10_nights 50 = .ok (.iload 7, 2) := dq daX10_nights_41_0 0 rfl
theorem dX10_nights_52 : decode cX10_nights 52 = .ok (.ifCond .eq 28, 3) := dq daX10_nights_41_0 1 rfl
theorem dX10_nights_55 : decode cX10_nights 55 = .ok (.aload_n 0, 1) := dq daX10_nights_41_0 2 rfl
theorem dX10_nights_56 : decode cX10_nights 56 = .ok (.getfield 10, 3) := dq daX10_nights_41_0 3 rfl
theorem dX10_nights_59 : decode cX10_nights 59 = .ok (.getfield 107, 3) := dq daX10_nights_41_0 4 rfl
theorem dX10_nights_62 : decode cX10_nights 62 = .ok (.iload_n 2, 1) := dq daX10_nights_41_0 5 rfl
theorem dX10_nights_63 : decode cX10_nights 63 = .ok (.invokevirtual 97, 3) := dq daX10_nights_41_0 6 rfl
theorem dX10_nights_66 : decode cX10_nights 66 = .ok (.ifCond .eq 14, 3) := dq daX10_nights_41_0 7 rfl
theorem dX10_nights_69 : decode cX10_nights 69 = .ok (.aload_n 0, 1) := dq daX10_nights_41_0 8 rfl
theorem dX10_nights_70 : decode cX10_nights 70 = .ok (.getfield 10, 3) := dq daX10_nights_41_0 9 rfl
theorem dX10_nights_73 : decode cX10_nights 73 = .ok (.getfield 176, 3) := dq daX10_nights_41_0 10 rfl
theorem dX10_nights_76 : decode cX10_nights 76 = .ok (.iconst (-1), 1) := dq daX10_nights_41_0 11 rfl
theorem dX10_nights_77 : decode cX10_nights 77 = .ok (.if_icmp .ne 5, 3) := dq daX10_nights_41_0 12 rfl
theorem dX10_nights_82 : decode cX10_nights 82 = .ok (.iconst 3, 1) := dq daX10_nights_41_0 13 rfl
theorem dX10_nights_83 : decode cX10_nights 83 = .ok (.newarray .int, 2) := dq daX10_nights_41_0 14 rfl
theorem dX10_nights_85 : decode cX10_nights 85 = .ok (.dup, 1) := dq daX10_nights_41_0 15 rfl
theorem dX10_nights_86 : decode cX10_nights 86 = .ok (.iconst 0, 1) := dq daX10_nights_41_0 16 rfl
theorem dX10_nights_87 : decode cX10_nights 87 = .ok (.iconst 0, 1) := dq daX10_nights_41_0 17 rfl
theorem dX10_nights_88 : decode cX10_nights 88 = .ok (.iastore, 1) := dq daX10_nights_41_0 18 rfl
theorem dX10_nights_89 : decode cX10_nights 89 = .ok (.dup, 1) := dq daX10_nights_41_0 19 rfl
theorem dX10_nights_90 : decode cX10_nights 90 = .ok (.iconst 1, 1) := dq daX10_nights_41_0 20 rfl
theorem dX10_nights_91 : decode cX10_nights 91 = .ok (.iconst 0, 1) := dq daX10_nights_41_0 21 rfl
theorem dX10_nights_92 : decode cX10_nights 92 = .ok (.iastore, 1) := dq daX10_nights_41_0 22 rfl
theorem dX10_nights_93 : decode cX10_nights 93 = .ok (.dup, 1) := dq daX10_nights_41_0 23 rfl
theorem dX10_nights_94 : decode cX10_nights 94 = .ok (.iconst 2, 1) := dq daX10_nights_41_0 24 rfl
theorem dX10_nights_95 : decode cX10_nights 95 = .ok (.iconst 0, 1) := dq daX10_nights_41_0 25 rfl
theorem dX10_nights_96 : decode cX10_nights 96 = .ok (.iastore, 1) := dq daX10_nights_41_0 26 rfl
theorem dX10_nights_97 : decode cX10_nights 97 = .ok (.astore 8, 2) := dq daX10_nights_41_0 27 rfl
theorem dX10_nights_99 : decode cX10_nights 99 = .ok (.aload_n 0, 1) := dq daX10_nights_41_0 28 rfl
theorem dX10_nights_100 : decode cX10_nights 100 = .ok (.getfield 10, 3) := dq daX10_nights_41_0 29 rfl
theorem dX10_nights_103 : decode cX10_nights 103 = .ok (.getfield 118, 3) := dq daX10_nights_41_0 30 rfl
theorem dX10_nights_106 : decode cX10_nights 106 = .ok (.istore 9, 2) := dq daX10_nights_41_0 31 rfl
def dtX10_nights_41_1 : List (Nat × Jvm.ClassFile.Instr × Nat) := [(108, .aload_n 0, 1), (109, .getfield 10, 3), (112, .getfield 107, 3), (115, .iload_n 2, 1), (116, .iconst 5, 1), (117, .invokevirtual 150, 3), (120, .istore 10, 2), (122, .aload_n 0, 1), (123, .getfield 10, 3), (126, .getfield 107, 3), (129, .iload_n 2, 1), (130, .bipush 6, 2), (132, .invokevirtual 150, 3), (135, .istore 11, 2), (137, .iconst 0, 1), (138, .istore 12, 2), (140, .iload 12, 2), (142, .iload 4, 2), (144, .if_icmp .ge 83, 3), (147, .aload_n 0, 1), (148, .getfield 52, 3), (151, .aload 6, 2), (153, .aload_n 0, 1), (154, .getfield 10, 3), (157, .getfield 141, 3), (160, .iload_n 3, 1), (161, .iload 10, 2), (163, .iload 11, 2), (165, .invokevirtual 195, 3), (168, .aload_n 0, 1), (169, .getfield 52, 3), (172, .invokevirtual 292, 3)]
theorem daX10_nights_41_1 : dtX10_nights_41_1.all (dqd cX10_nights) = true := by decide +kernel
theorem dX10_nights_108 : decode cX10_nights 108 = .ok (.aload_n 0, 1) := dq daX10_nights_41_1 0 rfl
theorem dX10_nights_109 : decode cX10_nights 109 = .ok (.getfield 10, 3) := dq daX10_nights_41_1 1 rfl
theorem dX10_nights_112 : decode cX10_nights 112 = .ok (.getfield 107, 3) := dq daX10_nights_41_1 2 rfl
theorem dX10_nights_115 : decode cX10_nights 115 = .ok (.iload_n 2, 1) := dq daX10_nights_41_1 3 rfl
theorem dX10_nights_116 : decode cX10_nights 116 = .ok (.iconst 5, 1) := dq daX10_nights_41_1 4 rfl
theorem dX10_nights_117 : decode cX10_nights 117 = .ok (.invokevirtual 150, 3) := dq daX10_nights_41_1 5 rfl
theorem dX10_nights_120 : decode cX10_nights 120 = .ok (.istore 10, 2) := dq daX10_nights_41_1 6 rfl
theorem dX10_nights_122 : decode cX10_nights 122 = .ok (.aload_n 0, 1) := dq daX10_nights_41_1 7 rfl
theorem dX10_nights_123 : decode cX10_nights 123 = .ok (.getfield 10, 3) := dq daX10_nights_41_1 8 rfl
theorem dX10_nights_126 : decode cX10_nights 126 = .ok (.getfield 107, 3) := dq daX10_nights_41_1 9 rfl
theorem dX10_nights_129 : decode cX10_nights 129 = .ok (.iload_n 2, 1) := dq daX10_nights_41_1 10 rfl
theorem dX10_nights_130 : decode cX10_nights 130 = .ok (.bipush 6, 2) := dq daX10_nights_41_1 11 rfl
theorem dX10_nights_132 : decode cX10_nights 132 = .ok (.invokevirtual 150, 3) := dq daX10_nights_41_1 12 rfl
theorem dX10_nights_135 : decode cX10_nights 135 = .ok (.istore 11, 2) := dq daX10_nights_41_1 13 rfl
theorem dX10_nights_137 : decode cX10_nights 137 = .ok (.iconst 0, 1) := dq daX10_nights_41_1 14 rfl
theorem dX10_nights_138 : decode cX10_nights 138 = .ok (.istore 12, 2) := dq daX10_nights_41_1 15 rfl
theorem dX10_nights_140 : decode cX10_nights 140 = .ok (.iload 12, 2) := dq daX10_nights_41_1 16 rfl
theorem dX10_nights_142 : decode cX10_nights 142 = .ok (.iload 4, 2) := dq daX10_nights_41_1 17 rfl
theorem dX10_nights_144 : decode cX10_nights 144 = .ok (.if_icmp .ge 83, 3) := dq daX10_nights_41_1 18 rfl
theorem dX10_nights_147 : decode cX10_nights 147 = .ok (.aload_n 0, 1) := dq daX10_nights_41_1 19 rfl
theorem dX10_nights_148 : decode cX10_nights 148 = .ok (.getfield 52, 3) := dq daX10_nights_41_1 20 rfl
theorem dX10_nights_151 : decode cX10_nights 151 = .ok (.aload 6, 2) := dq daX10_nights_41_1 21 rfl
theorem dX10_nights_153 : decode cX10_nights 153 = .ok (.aload_n 0, 1) := dq daX10_nights_41_1 22 rfl
theorem dX10_nights_154 : decode cX10_nights 154 = .ok (.getfield 10, 3) := dq daX10_nights_41_1 23 rfl
theorem dX10_nights_157 : decode cX10_nights 157 = .ok (.getfield 141, 3) := dq daX10_nights_41_1 24 rfl
theorem dX10_nights_160 : decode cX10_nights 160 = .ok (.iload_n 3, 1) := dq daX10_nights_41_1 25 rfl
theorem dX10_nights_161 : decode cX10_nights 161 = .ok (.iload 10, 2) := dq daX10_nights_41_1 26 rfl
theorem dX10_nights_163 : decode cX10_nights 163 = .ok (.iload 11, 2) := dq daX10_nights_41_1 27 rfl
theorem dX10_nights_165 : decode cX10_nights 165 = .ok (.invokevirtual 195, 3) := dq daX10_nights_41_1 28 rfl
theorem dX10_nights_168 : decode cX10_nights 168 = .ok (.aload_n 0, 1) := dq daX10_nights_41_1 29 rfl
theorem dX10_nights_169 : decode cX10_nights 169 = .ok (.getfield 52, 3) := dq daX10_nights_41_1 30 rfl
theorem dX10_nights_172 : decode cX10_nights 172 = .ok (.invokevirtual 292, 3) := dq daX10_nights_41_1 31 rfl
def dtX10_nights_41_2 : List (Nat × Jvm.ClassFile.Instr × Nat) := [(175, .istore 13, 2), (177, .iload 13, 2), (179, .ifCond .ne 28, 3), (207, .iload 13, 2), (209, .iconst 1, 1), (210, .if_icmp .ne 11, 3), (221, .iinc 12 1, 3), (224, .goto (-84), 3), (213, .aload 8, 2), (215, .iconst 2, 1), (216, .dup2, 1), (217, .iaload, 1), (218, .iconst 1, 1), (219, .iadd, 1), (220, .iastore, 1), (182, .aload 8, 2), (184, .iconst 0, 1), (185, .dup2, 1), (186, .iaload, 1), (187, .iconst 1, 1), (188, .iadd, 1), (189, .iastore, 1), (190, .aload 8, 2), (192, .iconst 1, 1), (193, .dup2, 1), (194, .iaload, 1), (195, .aload_n 0, 1), (196, .getfield 52, 3), (199, .getfield 202, 3), (202, .iadd, 1), (203, .iastore, 1), (204, .goto 17, 3)]
theorem daX10_nights_41_2 : dtX10_nights_41_2.all (dqd cX10_nights) = true := by decide +kernel
theorem dX10_nights_175 : decode cX10_nights 175 = .ok (.istore 13, 2) := dq daX10_nights_41_2 0 rfl
theorem dX10_nights_177 : decode cX10_nights 177 = .ok (.iload 13, 2) := dq daX10_nights_41_2 1 rfl
theorem dX10_nights_179 : decode cX10_nights 179 = .ok (.ifCond .ne 28, 3) := dq daX10_nights_41_2 2 rfl
theorem dX10_nights_207 : decode cX10_nights 207 = .ok (.iload 13, 2) := dq daX10_nights_41_2 3 rfl
theorem dX10_nights_209 : decode cX10_nights 209 = .ok (.iconst 1, 1) := dq daX10_nights_41_2 4 rfl
theorem dX10_nights_210 : decode cX10_nights 210 = .ok (.if_icmp .ne 11, 3) := dq daX10_nights_41_2 5 rfl
theorem dX10_nights_221 : decode cX10_nights 221 = .ok (.iinc 12 1, 3) := dq daX10_nights_41_2 6 rfl
theorem dX10_nights_224 : decode cX10_nights 224 = .ok (.goto (-84), 3) := dq daX10_nights_41_2 7 rfl
theorem dX10_nights_213 : decode cX10_nights 213 = .ok (.aload 8, 2) := dq daX10_nights_41_2 8 rfl
theorem dX10_nights_215 : decode cX10_nights 215 = .ok (.iconst 2, 1) := dq daX10_nights_41_2 9 rfl
theorem dX10_nights_216 : decode cX10_nights 216 = .ok (.dup2, 1) := dq daX10_nights_41_2 10 rfl
theorem dX10_nights_217 : decode cX10_nights 217 = .ok (.iaload, 1) := dq daX10_nights_41_2 11 rfl
theorem dX10_nights_218 : decode cX10_nights 218 = .ok (.iconst 1, 1) := dq daX10_nights_41_2 12 rfl
theorem dX10_nights_219 : decode cX10_nights 219 = .ok (.iadd, 1) := dq daX10_nights_41_2 13 rfl
theorem dX10_nights_220 : decode cX10_nights 220 = .ok (.iastore, 1) := dq daX10_nights_41_2 14 rfl
theorem dX10_nights_182 : decode cX10_nights 182 = .ok (.aload 8, 2) := dq daX10_nights_41_2 15 rfl
theorem dX10_nights_184 : decode cX10_nights 184 = .ok (.iconst 0, 1) := dq daX10_nights_41_2 16 rfl
theorem dX10_nights_185 : decode cX10_nights 185 = .ok (.dup2, 1) := dq daX10_nights_41_2 17 rfl
theorem dX10_nights_186 : decode cX10_nights 186 = .ok (.iaload, 1) := dq daX10_nights_41_2 18 rfl
theorem dX10_nights_187 : decode cX10_nights 187 = .ok (.iconst 1, 1) := dq daX10_nights_41_2 19 rfl
theorem dX10_nights_188 : decode cX10_nights 188 = .ok (.iadd, 1) := dq daX10_nights_41_2 20 rfl
theorem dX10_nights_189 : decode cX10_nights 189 = .ok (.iastore, 1) := dq daX10_nights_41_2 21 rfl
theorem dX10_nights_190 : decode cX10_nights 190 = .ok (.aload 8, 2) := dq daX10_nights_41_2 22 rfl
theorem dX10_nights_192 : decode cX10_nights 192 = .ok (.iconst 1, 1) := dq daX10_nights_41_2 23 rfl
theorem dX10_nights_193 : decode cX10_nights 193 = .ok (.dup2, 1) := dq daX10_nights_41_2 24 rfl
theorem dX10_nights_194 : decode cX10_nights 194 = .ok (.iaload, 1) := dq daX10_nights_41_2 25 rfl
theorem dX10_nights_195 : decode cX10_nights 195 = .ok (.aload_n 0, 1) := dq daX10_nights_41_2 26 rfl
theorem dX10_nights_196 : decode cX10_nights 196 = .ok (.getfield 52, 3) := dq daX10_nights_41_2 27 rfl
theorem dX10_nights_199 : decode cX10_nights 199 = .ok (.getfield 202, 3) := dq daX10_nights_41_2 28 rfl
theorem dX10_nights_202 : decode cX10_nights 202 = .ok (.iadd, 1) := dq daX10_nights_41_2 29 rfl
theorem dX10_nights_203 : decode cX10_nights 203 = .ok (.iastore, 1) := dq daX10_nights_41_2 30 rfl
theorem dX10_nights_204 : decode cX10_nights 204 = .ok (.goto 17, 3) := dq daX10_nights_41_2 31 rfl
def dtX10_nights_41_3 : List (Nat × Jvm.ClassFile.Instr × Nat) := [(227, .aload_n 0, 1), (228, .getfield 10, 3), (231, .iload 9, 2), (233, .putfield 118, 3), (236, .aload 8, 2), (238, .iload 5, 2), (240, .iaload, 1), (241, .ireturn, 1)]
theorem daX10_nights_41_3 : dtX10_nights_41_3.all (dqd cX10_nights) = true := by decide +kernel
theorem dX10_nights_227 : decode cX10_nights 227 = .ok (.aload_n 0, 1) := dq daX10_nights_41_3 0 rfl
theorem dX10_nights_228 : decode cX10_nights 228 = .ok (.getfield 10, 3) := dq daX10_nights_41_3 1 rfl
theorem dX10_nights_231 : decode cX10_nights 231 = .ok (.iload 9, 2) := dq daX10_nights_41_3 2 rfl
theorem dX10_nights_233 : decode cX10_nights 233 = .ok (.putfield 118, 3) := dq daX10_nights_41_3 3 rfl
theorem dX10_nights_236 : decode cX10_nights 236 = .ok (.aload 8, 2) := dq daX10_nights_41_3 4 rfl
theorem dX10_nights_238 : decode cX10_nights 238 = .ok (.iload 5, 2) := dq daX10_nights_41_3 5 rfl
theorem dX10_nights_240 : decode cX10_nights 240 = .ok (.iaload, 1) := dq daX10_nights_41_3 6 rfl
theorem dX10_nights_241 : decode cX10_nights 241 = .ok (.ireturn, 1) := dq daX10_nights_41_3 7 rfl
def dtX10_price_41_0 : List (Nat × Jvm.ClassFile.Instr × Nat) := [(12, .aload_n 0, 1), (13, .iload_n 2, 1), (14, .iload_n 3, 1), (15, .invokevirtual 208, 3), (18, .ifCond .eq 30, 3), (21, .iload 4, 2), (23, .iload 5, 2), (25, .iconst 0, 1), (26, .iconst 0, 1), (27, .invokestatic 191, 3), (30, .ifCond .eq 18, 3), (33, .aload_n 0, 1), (34, .getfield 10, 3), (37, .getfield 101, 3), (40, .iload 6, 2), (42, .invokevirtual 97, 3), (45, .ifCond .ne 5, 3), (50, .aload_n 0, 1), (51, .getfield 61, 3), (54, .iload_n 3, 1), (55, .iconst (-1), 1), (56, .invokevirtual 211, 3), (59, .aload_n 0, 1), (60, .getfield 52, 3), (63, .aload 7, 2), (65, .iload 4, 2), (67, .iload 5, 2), (69, .iconst 0, 1), (70, .iconst 0, 1), (71, .invokevirtual 195, 3), (74, .aload_n 0, 1), (75, .getfield 61, 3)]
theorem daX10_price_41_0 : dtX10_price_41_0.all (dqd cX10_price) = true := by decide +kernel
theorem dX10_price_12 : decode cX10_price 12 = .ok (.aload_n 0, 1) := dq daX10_price_41_0 0 rfl
theorem dX10_price_13 : decode cX10_price 13 = .ok (.iload_n 2, 1) := dq daX10_price_41_0 1 rfl
theorem dX10_price_14 : decode cX10_price 14 = .ok (.iload_n 3, 1) := dq daX10_price_41_0 2 rfl
theorem dX10_price_15 : decode cX10_price 15 = .ok (.invokevirtual 208, 3) := dq daX10_price_41_0 3 rfl
theorem dX10_price_18 : decode cX10_price 18 = .ok (.ifCond .eq 30, 3) := dq daX10_price_41_0 4 rfl
theorem dX10_price_21 : decode cX10_price 21 = .ok (.iload 4, 2) := dq daX10_price_41_0 5 rfl
theorem dX10_price_23 : decode cX10_price 23 = .ok (.iload 5, 2) := dq daX10_price_41_0 6 rfl
theorem dX10_price_25 : decode cX10_price 25 = .ok (.iconst 0, 1) := dq daX10_price_41_0 7 rfl
theorem dX10_price_26 : decode cX10_price 26 = .ok (.iconst 0, 1) := dq daX10_price_41_0 8 rfl
theorem dX10_price_27 : decode cX10_price 27 = .ok (.invokestatic 191, 3) := dq daX10_price_41_0 9 rfl
theorem dX10_price_30 : decode cX10_price 30 = .ok (.ifCond .eq 18, 3) := dq daX10_price_41_0 10 rfl
theorem dX10_price_33 : decode cX10_price 33 = .ok (.aload_n 0, 1) := dq daX10_price_41_0 11 rfl
theorem dX10_price_34 : decode cX10_price 34 = .ok (.getfield 10, 3) := dq daX10_price_41_0 12 rfl
theorem dX10_price_37 : decode cX10_price 37 = .ok (.getfield 101, 3) := dq daX10_price_41_0 13 rfl
theorem dX10_price_40 : decode cX10_price 40 = .ok (.iload 6, 2) := dq daX10_price_41_0 14 rfl
theorem dX10_price_42 : decode cX10_price 42 = .ok (.invokevirtual 97, 3) := dq daX10_price_41_0 15 rfl
theorem dX10_price_45 : decode cX10_price 45 = .ok (.ifCond .ne 5, 3) := dq daX10_price_41_0 16 rfl
theorem dX10_price_50 : decode cX10_price 50 = .ok (.aload_n 0, 1) := dq daX10_price_41_0 17 rfl
theorem dX10_price_51 : decode cX10_price 51 = .ok (.getfield 61, 3) := dq daX10_price_41_0 18 rfl
theorem dX10_price_54 : decode cX10_price 54 = .ok (.iload_n 3, 1) := dq daX10_price_41_0 19 rfl
theorem dX10_price_55 : decode cX10_price 55 = .ok (.iconst (-1), 1) := dq daX10_price_41_0 20 rfl
theorem dX10_price_56 : decode cX10_price 56 = .ok (.invokevirtual 211, 3) := dq daX10_price_41_0 21 rfl
theorem dX10_price_59 : decode cX10_price 59 = .ok (.aload_n 0, 1) := dq daX10_price_41_0 22 rfl
theorem dX10_price_60 : decode cX10_price 60 = .ok (.getfield 52, 3) := dq daX10_price_41_0 23 rfl
theorem dX10_price_63 : decode cX10_price 63 = .ok (.aload 7, 2) := dq daX10_price_41_0 24 rfl
theorem dX10_price_65 : decode cX10_price 65 = .ok (.iload 4, 2) := dq daX10_price_41_0 25 rfl
theorem dX10_price_67 : decode cX10_price 67 = .ok (.iload 5, 2) := dq daX10_price_41_0 26 rfl
theorem dX10_price_69 : decode cX10_price 69 = .ok (.iconst 0, 1) := dq daX10_price_41_0 27 rfl
theorem dX10_price_70 : decode cX10_price 70 = .ok (.iconst 0, 1) := dq daX10_price_41_0 28 rfl
theorem dX10_price_71 : decode cX10_price 71 = .ok (.invokevirtual 195, 3) := dq daX10_price_41_0 29 rfl
theorem dX10_price_74 : decode cX10_price 74 = .ok (.aload_n 0, 1) := dq daX10_price_41_0 30 rfl
theorem dX10_price_75 : decode cX10_price 75 = .ok (.getfield 61, 3) := dq daX10_price_41_0 31 rfl
def dtX10_price_41_1 : List (Nat × Jvm.ClassFile.Instr × Nat) := [(78, .iload_n 2, 1), (79, .invokevirtual 214, 3), (82, .aload_n 0, 1), (83, .getfield 61, 3), (86, .getfield 217, 3), (89, .istore 8, 2), (91, .iload 8, 2), (93, .ifCond .ge 6, 3), (99, .aload_n 0, 1), (100, .getfield 61, 3), (103, .iload_n 3, 1), (104, .iload 6, 2), (106, .invokevirtual 211, 3), (109, .aload_n 0, 1), (110, .getfield 52, 3), (113, .aload 7, 2), (115, .iload 4, 2), (117, .iload 5, 2), (119, .iconst 0, 1), (120, .iconst 0, 1), (121, .invokevirtual 195, 3), (124, .aload_n 0, 1), (125, .getfield 61, 3), (128, .iload_n 2, 1), (129, .invokevirtual 214, 3), (132, .aload_n 0, 1), (133, .getfield 61, 3), (136, .getfield 217, 3), (139, .ifCond .ge 8, 3), (147, .iload 8, 2), (149, .aload_n 0, 1), (150, .getfield 61, 3)]
theorem daX10_price_41_1 : dtX10_price_41_1.all (dqd cX10_price) = true := by decide +kernel
theorem dX10_price_78 : decode cX10_price 78 = .ok (.iload_n 2, 1) := dq daX10_price_41_1 0 rfl
theorem dX10_price_79 : decode cX10_price 79 = .ok (.invokevirtual 214, 3) := dq daX10_price_41_1 1 rfl
theorem dX10_price_82 : decode cX10_price 82 = .ok (.aload_n 0, 1) := dq daX10_price_41_1 2 rfl
theorem dX10_price_83 : decode cX10_price 83 = .ok (.getfield 61, 3) := dq daX10_price_41_1 3 rfl
theorem dX10_price_86 : decode cX10_price 86 = .ok (.getfield 217, 3) := dq daX10_price_41_1 4 rfl
theorem dX10_price_89 : decode cX10_price 89 = .ok (.istore 8, 2) := dq daX10_price_41_1 5 rfl
theorem dX10_price_91 : decode cX10_price 91 = .ok (.iload 8, 2) := dq daX10_price_41_1 6 rfl
theorem dX10_price_93 : decode cX10_price 93 = .ok (.ifCond .ge 6, 3) := dq daX10_price_41_1 7 rfl
theorem dX10_price_99 : decode cX10_price 99 = .ok (.aload_n 0, 1) := dq daX10_price_41_1 8 rfl
theorem dX10_price_100 : decode cX10_price 100 = .ok (.getfield 61, 3) := dq daX10_price_41_1 9 rfl
theorem dX10_price_103 : decode cX10_price 103 = .ok (.iload_n 3, 1) := dq daX10_price_41_1 10 rfl
theorem dX10_price_104 : decode cX10_price 104 = .ok (.iload 6, 2) := dq daX10_price_41_1 11 rfl
theorem dX10_price_106 : decode cX10_price 106 = .ok (.invokevirtual 211, 3) := dq daX10_price_41_1 12 rfl
theorem dX10_price_109 : decode cX10_price 109 = .ok (.aload_n 0, 1) := dq daX10_price_41_1 13 rfl
theorem dX10_price_110 : decode cX10_price 110 = .ok (.getfield 52, 3) := dq daX10_price_41_1 14 rfl
theorem dX10_price_113 : decode cX10_price 113 = .ok (.aload 7, 2) := dq daX10_price_41_1 15 rfl
theorem dX10_price_115 : decode cX10_price 115 = .ok (.iload 4, 2) := dq daX10_price_41_1 16 rfl
theorem dX10_price_117 : decode cX10_price 117 = .ok (.iload 5, 2) := dq daX10_price_41_1 17 rfl
theorem dX10_price_119 : decode cX10_price 119 = .ok (.iconst 0, 1) := dq daX10_price_41_1 18 rfl
theorem dX10_price_120 : decode cX10_price 120 = .ok (.iconst 0, 1) := dq daX10_price_41_1 19 rfl
theorem dX10_price_121 : decode cX10_price 121 = .ok (.invokevirtual 195, 3) := dq daX10_price_41_1 20 rfl
theorem dX10_price_124 : decode cX10_price 124 = .ok (.aload_n 0, 1) := dq daX10_price_41_1 21 rfl
theorem dX10_price_125 : decode cX10_price 125 = .ok (.getfield 61, 3) := dq daX10_price_41_1 22 rfl
theorem dX10_price_128 : decode cX10_price 128 = .ok (.iload_n 2, 1) := dq daX10_price_41_1 23 rfl
theorem dX10_price_129 : decode cX10_price 129 = .ok (.invokevirtual 214, 3) := dq daX10_price_41_1 24 rfl
theorem dX10_price_132 : decode cX10_price 132 = .ok (.aload_n 0, 1) := dq daX10_price_41_1 25 rfl
theorem dX10_price_133 : decode cX10_price 133 = .ok (.getfield 61, 3) := dq daX10_price_41_1 26 rfl
theorem dX10_price_136 : decode cX10_price 136 = .ok (.getfield 217, 3) := dq daX10_price_41_1 27 rfl
theorem dX10_price_139 : decode cX10_price 139 = .ok (.ifCond .ge 8, 3) := dq daX10_price_41_1 28 rfl
theorem dX10_price_147 : decode cX10_price 147 = .ok (.iload 8, 2) := dq daX10_price_41_1 29 rfl
theorem dX10_price_149 : decode cX10_price 149 = .ok (.aload_n 0, 1) := dq daX10_price_41_1 30 rfl
theorem dX10_price_150 : decode cX10_price 150 = .ok (.getfield 61, 3) := dq daX10_price_41_1 31 rfl
def dtX10_price_41_2 : List (Nat × Jvm.ClassFile.Instr × Nat) := [(153, .getfield 217, 3), (156, .isub, 1), (142, .iload 8, 2), (144, .goto 13, 3), (96, .bipush (-3), 2), (157, .ireturn, 1), (98, .ireturn, 1)]
theorem daX10_price_41_2 : dtX10_price_41_2.all (dqd cX10_price) = true := by decide +kernel
theorem dX10_price_153 : decode cX10_price 153 = .ok (.getfield 217, 3) := dq daX10_price_41_2 0 rfl
theorem dX10_price_156 : decode cX10_price 156 = .ok (.isub, 1) := dq daX10_price_41_2 1 rfl
theorem dX10_price_142 : decode cX10_price 142 = .ok (.iload 8, 2) := dq daX10_price_41_2 2 rfl
theorem dX10_price_144 : decode cX10_price 144 = .ok (.goto 13, 3) := dq daX10_price_41_2 3 rfl
theorem dX10_price_96 : decode cX10_price 96 = .ok (.bipush (-3), 2) := dq daX10_price_41_2 4 rfl
theorem dX10_price_157 : decode cX10_price 157 = .ok (.ireturn, 1) := dq daX10_price_41_2 5 rfl
theorem dX10_price_98 : decode cX10_price 98 = .ok (.ireturn, 1) := dq daX10_price_41_2 6 rfl
def dtX10_ahead_41_0 : List (Nat × Jvm.ClassFile.Instr × Nat) := [(12, .iload_n 2, 1), (13, .sipush 240, 3), (16, .invokestatic 79, 3), (19, .ifCond .eq 11, 3), (22, .iload_n 3, 1), (23, .iconst 1, 1), (24, .invokestatic 79, 3), (27, .ifCond .ne 5, 3), (32, .aload_n 0, 1), (33, .getfield 16, 3), (36, .aload_n 0, 1), (37, .getfield 10, 3), (40, .invokevirtual 295, 3), (43, .iconst 0, 1), (44, .istore 5, 2), (46, .iload 5, 2), (48, .iload_n 2, 1), (49, .if_icmp .ge 22, 3), (52, .aload_n 0, 1), (53, .getfield 43, 3), (56, .aload_n 0, 1), (57, .getfield 16, 3), (60, .aload 4, 2), (62, .invokevirtual 165, 3), (65, .iinc 5 1, 3), (68, .goto (-22), 3), (71, .iload_n 3, 1), (72, .ifCond .ne 13, 3), (85, .aload_n 0, 1), (86, .getfield 16, 3), (89, .invokevirtual 301, 3), (75, .aload_n 0, 1)]
theorem daX10_ahead_41_0 : dtX10_ahead_41_0.all (dqd cX10_ahead) = true := by decide +kernel
theorem dX10_ahead_12 : decode cX10_ahead 12 = .ok (.iload_n 2, 1) := dq daX10_ahead_41_0 0 rfl
theorem dX10_ahead_13 : decode cX10_ahead 13 = .ok (.sipush 240, 3) := dq daX10_ahead_41_0 1 rfl
theorem dX10_ahead_16 : decode cX10_ahead 16 = .ok (.invokestatic 79, 3) := dq daX10_ahead_41_0 2 rfl
theorem dX10_ahead_19 : decode cX10_ahead 19 = .ok (.ifCond .eq 11, 3) := dq daX10_ahead_41_0 3 rfl
theorem dX10_ahead_22 : decode cX10_ahead 22 = .ok (.iload_n 3, 1) := dq daX10_ahead_41_0 4 rfl
theorem dX10_ahead_23 : decode cX10_ahead 23 = .ok (.iconst 1, 1) := dq daX10_ahead_41_0 5 rfl
theorem dX10_ahead_24 : decode cX10_ahead 24 = .ok (.invokestatic 79, 3) := dq daX10_ahead_41_0 6 rfl
theorem dX10_ahead_27 : decode cX10_ahead 27 = .ok (.ifCond .ne 5, 3) := dq daX10_ahead_41_0 7 rfl
theorem dX10_ahead_32 : decode cX10_ahead 32 = .ok (.aload_n 0, 1) := dq daX10_ahead_41_0 8 rfl
theorem dX10_ahead_33 : decode cX10_ahead 33 = .ok (.getfield 16, 3) := dq daX10_ahead_41_0 9 rfl
theorem dX10_ahead_36 : decode cX10_ahead 36 = .ok (.aload_n 0, 1) := dq daX10_ahead_41_0 10 rfl
theorem dX10_ahead_37 : decode cX10_ahead 37 = .ok (.getfield 10, 3) := dq daX10_ahead_41_0 11 rfl
theorem dX10_ahead_40 : decode cX10_ahead 40 = .ok (.invokevirtual 295, 3) := dq daX10_ahead_41_0 12 rfl
theorem dX10_ahead_43 : decode cX10_ahead 43 = .ok (.iconst 0, 1) := dq daX10_ahead_41_0 13 rfl
theorem dX10_ahead_44 : decode cX10_ahead 44 = .ok (.istore 5, 2) := dq daX10_ahead_41_0 14 rfl
theorem dX10_ahead_46 : decode cX10_ahead 46 = .ok (.iload 5, 2) := dq daX10_ahead_41_0 15 rfl
theorem dX10_ahead_48 : decode cX10_ahead 48 = .ok (.iload_n 2, 1) := dq daX10_ahead_41_0 16 rfl
theorem dX10_ahead_49 : decode cX10_ahead 49 = .ok (.if_icmp .ge 22, 3) := dq daX10_ahead_41_0 17 rfl
theorem dX10_ahead_52 : decode cX10_ahead 52 = .ok (.aload_n 0, 1) := dq daX10_ahead_41_0 18 rfl
theorem dX10_ahead_53 : decode cX10_ahead 53 = .ok (.getfield 43, 3) := dq daX10_ahead_41_0 19 rfl
theorem dX10_ahead_56 : decode cX10_ahead 56 = .ok (.aload_n 0, 1) := dq daX10_ahead_41_0 20 rfl
theorem dX10_ahead_57 : decode cX10_ahead 57 = .ok (.getfield 16, 3) := dq daX10_ahead_41_0 21 rfl
theorem dX10_ahead_60 : decode cX10_ahead 60 = .ok (.aload 4, 2) := dq daX10_ahead_41_0 22 rfl
theorem dX10_ahead_62 : decode cX10_ahead 62 = .ok (.invokevirtual 165, 3) := dq daX10_ahead_41_0 23 rfl
theorem dX10_ahead_65 : decode cX10_ahead 65 = .ok (.iinc 5 1, 3) := dq daX10_ahead_41_0 24 rfl
theorem dX10_ahead_68 : decode cX10_ahead 68 = .ok (.goto (-22), 3) := dq daX10_ahead_41_0 25 rfl
theorem dX10_ahead_71 : decode cX10_ahead 71 = .ok (.iload_n 3, 1) := dq daX10_ahead_41_0 26 rfl
theorem dX10_ahead_72 : decode cX10_ahead 72 = .ok (.ifCond .ne 13, 3) := dq daX10_ahead_41_0 27 rfl
theorem dX10_ahead_85 : decode cX10_ahead 85 = .ok (.aload_n 0, 1) := dq daX10_ahead_41_0 28 rfl
theorem dX10_ahead_86 : decode cX10_ahead 86 = .ok (.getfield 16, 3) := dq daX10_ahead_41_0 29 rfl
theorem dX10_ahead_89 : decode cX10_ahead 89 = .ok (.invokevirtual 301, 3) := dq daX10_ahead_41_0 30 rfl
theorem dX10_ahead_75 : decode cX10_ahead 75 = .ok (.aload_n 0, 1) := dq daX10_ahead_41_0 31 rfl
def dtX10_ahead_41_1 : List (Nat × Jvm.ClassFile.Instr × Nat) := [(76, .getfield 16, 3), (79, .invokevirtual 298, 3), (82, .goto 10, 3), (92, .ireturn, 1)]
theorem daX10_ahead_41_1 : dtX10_ahead_41_1.all (dqd cX10_ahead) = true := by decide +kernel
theorem dX10_ahead_76 : decode cX10_ahead 76 = .ok (.getfield 16, 3) := dq daX10_ahead_41_1 0 rfl
theorem dX10_ahead_79 : decode cX10_ahead 79 = .ok (.invokevirtual 298, 3) := dq daX10_ahead_41_1 1 rfl
theorem dX10_ahead_82 : decode cX10_ahead 82 = .ok (.goto 10, 3) := dq daX10_ahead_41_1 2 rfl
theorem dX10_ahead_92 : decode cX10_ahead 92 = .ok (.ireturn, 1) := dq daX10_ahead_41_1 3 rfl
