theorem kX10_isLoad_1 {a : Array Value} {s : State} (hts : ∀ w ∈ wsX10_isLoad, w.before a s = true) : (.constant RX10 140 (99999) : Cond).before a s = true := kw (A := ixX10_isLoad) wt587 hts (by decide +kernel)
theorem kX10_isWish_1 {a : Array Value} {s : State} (hts : ∀ w ∈ wsX10_isWish, w.before a s = true) : (.constant RX10 140 (99999) : Cond).before a s = true := kw (A := ixX10_isWish) wt587 hts (by decide +kernel)
theorem kX10_lawOf_1 {a : Array Value} {s : State} (hts : ∀ w ∈ wsX10_lawOf, w.before a s = true) : (.fieldLink RX10 128 "SnowMules" "lawCount" "I" : Cond).before a s = true := kw (A := ixX10_lawOf) wt281 hts (by decide +kernel)
theorem kX10_lawOf_2 {a : Array Value} {s : State} (hts : ∀ w ∈ wsX10_lawOf, w.before a s = true) : (.fieldLink RX10 29 "SnowMules" "laws" "[LSnowMules$Law;" : Cond).before a s = true := kw (A := ixX10_lawOf) wt21 hts (by decide +kernel)
theorem kX10_isJourney_1 {a : Array Value} {s : State} (hts : ∀ w ∈ wsX10_isJourney, w.before a s = true) : (.fieldLink RX10 10 "SnowMules" "world" "LSnowMules$World;" : Cond).before a s = true := kw (A := ixX10_isJourney) wt15 hts (by decide +kernel)
theorem kX10_isJourney_2 {a : Array Value} {s : State} (hts : ∀ w ∈ wsX10_isJourney, w.before a s = true) : (.fieldLink RX10 83 "SnowMules$World" "nodes" "LSnowMules$Table;" : Cond).before a s = true := kw (A := ixX10_isJourney) wt171 hts (by decide +kernel)
theorem kX10_writeBytes_1 {a : Array Value} {s : State} (hts : ∀ w ∈ wsX10_writeBytes, w.before a s = true) : (.fieldLink RX10 121 "SnowMules" "tapeLength" "I" : Cond).before a s = true := kw (A := ixX10_writeBytes) wt255 hts (by decide +kernel)
theorem kX10_writeBytes_2 {a : Array Value} {s : State} (hts : ∀ w ∈ wsX10_writeBytes, w.before a s = true) : (.fieldLink RX10 23 "SnowMules" "tape" "[I" : Cond).before a s = true := kw (A := ixX10_writeBytes) wt19 hts (by decide +kernel)
theorem kX10_warmer_1 {a : Array Value} {s : State} (hts : ∀ w ∈ wsX10_warmer, w.before a s = true) : (.constant RX10 140 (99999) : Cond).before a s = true := kw (A := ixX10_warmer) wt587 hts (by decide +kernel)
theorem kX10_guess_2 {a : Array Value} {s : State} (hts : ∀ w ∈ wsX10_guess, w.before a s = true) : (.fieldLink RX10 10 "SnowMules" "world" "LSnowMules$World;" : Cond).before a s = true := kw (A := ixX10_guess) wt15 hts (by decide +kernel)
theorem kX10_guess_3 {a : Array Value} {s : State} (hts : ∀ w ∈ wsX10_guess, w.before a s = true) : (.fieldLink RX10 185 "SnowMules$World" "way" "LSnowMules$Table;" : Cond).before a s = true := kw (A := ixX10_guess) wt916 hts (by decide +kernel)
theorem kX10_guess_1 {a : Array Value} {s : State} (hts : ∀ w ∈ wsX10_guess, w.before a s = true) : (.constant RX10 140 (99999) : Cond).before a s = true := kw (A := ixX10_guess) wt587 hts (by decide +kernel)
theorem kX10_nights_1 {a : Array Value} {s : State} (hts : ∀ w ∈ wsX10_nights, w.before a s = true) : (.constant RX10 140 (99999) : Cond).before a s = true := kw (A := ixX10_nights) wt587 hts (by decide +kernel)
theorem kX10_fill_1 {a : Array Value} {s : State} (hts : ∀ w ∈ wsX10_fill, w.before a s = true) : (.fieldLink RX10 10 "SnowMules" "world" "LSnowMules$World;" : Cond).before a s = true := kw (A := ixX10_fill) wt15 hts (by decide +kernel)
theorem kX10_fill_2 {a : Array Value} {s : State} (hts : ∀ w ∈ wsX10_fill, w.before a s = true) : (.constant RX10 140 (99999) : Cond).before a s = true := kw (A := ixX10_fill) wt587 hts (by decide +kernel)
theorem kX10_fill_3 {a : Array Value} {s : State} (hts : ∀ w ∈ wsX10_fill, w.before a s = true) : (.fieldLink RX10 141 "SnowMules$World" "now" "I" : Cond).before a s = true := kw (A := ixX10_fill) wt588 hts (by decide +kernel)
theorem kX10_fill_4 {a : Array Value} {s : State} (hts : ∀ w ∈ wsX10_fill, w.before a s = true) : (.fieldLink RX10 107 "SnowMules$World" "jars" "LSnowMules$Table;" : Cond).before a s = true := kw (A := ixX10_fill) wt217 hts (by decide +kernel)
theorem kX10_pour_1 {a : Array Value} {s : State} (hts : ∀ w ∈ wsX10_pour, w.before a s = true) : (.fieldLink RX10 10 "SnowMules" "world" "LSnowMules$World;" : Cond).before a s = true := kw (A := ixX10_pour) wt15 hts (by decide +kernel)
theorem kX10_pour_2 {a : Array Value} {s : State} (hts : ∀ w ∈ wsX10_pour, w.before a s = true) : (.fieldLink RX10 107 "SnowMules$World" "jars" "LSnowMules$Table;" : Cond).before a s = true := kw (A := ixX10_pour) wt217 hts (by decide +kernel)
theorem kX10_store_1 {a : Array Value} {s : State} (hts : ∀ w ∈ wsX10_store, w.before a s = true) : (.fieldLink RX10 10 "SnowMules" "world" "LSnowMules$World;" : Cond).before a s = true := kw (A := ixX10_store) wt15 hts (by decide +kernel)
theorem kX10_store_2 {a : Array Value} {s : State} (hts : ∀ w ∈ wsX10_store, w.before a s = true) : (.fieldLink RX10 83 "SnowMules$World" "nodes" "LSnowMules$Table;" : Cond).before a s = true := kw (A := ixX10_store) wt171 hts (by decide +kernel)
theorem kX10_store_3 {a : Array Value} {s : State} (hts : ∀ w ∈ wsX10_store, w.before a s = true) : (.constant RX10 157 (999999) : Cond).before a s = true := kw (A := ixX10_store) wt660 hts (by decide +kernel)
theorem kX10_leave_1 {a : Array Value} {s : State} (hts : ∀ w ∈ wsX10_leave, w.before a s = true) : (.fieldLink RX10 10 "SnowMules" "world" "LSnowMules$World;" : Cond).before a s = true := kw (A := ixX10_leave) wt15 hts (by decide +kernel)
theorem kX10_leave_2 {a : Array Value} {s : State} (hts : ∀ w ∈ wsX10_leave, w.before a s = true) : (.fieldLink RX10 107 "SnowMules$World" "jars" "LSnowMules$Table;" : Cond).before a s = true := kw (A := ixX10_leave) wt217 hts (by decide +kernel)
theorem kX10_at_1 {a : Array Value} {s : State} (hts : ∀ w ∈ wsX10_at, w.before a s = true) : (.fieldLink RX10 10 "SnowMules" "world" "LSnowMules$World;" : Cond).before a s = true := kw (A := ixX10_at) wt15 hts (by decide +kernel)
theorem kX10_at_2 {a : Array Value} {s : State} (hts : ∀ w ∈ wsX10_at, w.before a s = true) : (.fieldLink RX10 83 "SnowMules$World" "nodes" "LSnowMules$Table;" : Cond).before a s = true := kw (A := ixX10_at) wt171 hts (by decide +kernel)
theorem kX10_at_3 {a : Array Value} {s : State} (hts : ∀ w ∈ wsX10_at, w.before a s = true) : (.fieldLink RX10 141 "SnowMules$World" "now" "I" : Cond).before a s = true := kw (A := ixX10_at) wt588 hts (by decide +kernel)
theorem kX10_of_1 {a : Array Value} {s : State} (hts : ∀ w ∈ wsX10_of, w.before a s = true) : (.fieldLink RX10 10 "SnowMules" "world" "LSnowMules$World;" : Cond).before a s = true := kw (A := ixX10_of) wt15 hts (by decide +kernel)
theorem kX10_of_2 {a : Array Value} {s : State} (hts : ∀ w ∈ wsX10_of, w.before a s = true) : (.fieldLink RX10 107 "SnowMules$World" "jars" "LSnowMules$Table;" : Cond).before a s = true := kw (A := ixX10_of) wt217 hts (by decide +kernel)
theorem kX10_lay_1 {a : Array Value} {s : State} (hts : ∀ w ∈ wsX10_lay, w.before a s = true) : (.fieldLink RX10 10 "SnowMules" "world" "LSnowMules$World;" : Cond).before a s = true := kw (A := ixX10_lay) wt15 hts (by decide +kernel)
theorem kX10_lay_2 {a : Array Value} {s : State} (hts : ∀ w ∈ wsX10_lay, w.before a s = true) : (.fieldLink RX10 176 "SnowMules$World" "wayStart" "I" : Cond).before a s = true := kw (A := ixX10_lay) wt915 hts (by decide +kernel)
theorem kX10_lay_3 {a : Array Value} {s : State} (hts : ∀ w ∈ wsX10_lay, w.before a s = true) : (.fieldLink RX10 185 "SnowMules$World" "way" "LSnowMules$Table;" : Cond).before a s = true := kw (A := ixX10_lay) wt916 hts (by decide +kernel)
theorem kX10_soonest_1 {a : Array Value} {s : State} (hts : ∀ w ∈ wsX10_soonest, w.before a s = true) : (.fieldLink RX10 10 "SnowMules" "world" "LSnowMules$World;" : Cond).before a s = true := kw (A := ixX10_soonest) wt15 hts (by decide +kernel)
theorem kX10_soonest_2 {a : Array Value} {s : State} (hts : ∀ w ∈ wsX10_soonest, w.before a s = true) : (.fieldLink RX10 83 "SnowMules$World" "nodes" "LSnowMules$Table;" : Cond).before a s = true := kw (A := ixX10_soonest) wt171 hts (by decide +kernel)
theorem kX10_soonest_3 {a : Array Value} {s : State} (hts : ∀ w ∈ wsX10_soonest, w.before a s = true) : (.fieldLink RX10 61 "SnowMules" "search" "LSnowMules$Search;" : Cond).before a s = true := kw (A := ixX10_soonest) wt37 hts (by decide +kernel)
theorem kX10_soonest_4 {a : Array Value} {s : State} (hts : ∀ w ∈ wsX10_soonest, w.before a s = true) : (.constant RX10 236 (1000000) : Cond).before a s = true := kw (A := ixX10_soonest) wt1105 hts (by decide +kernel)
theorem kX10_nearest_1 {a : Array Value} {s : State} (hts : ∀ w ∈ wsX10_nearest, w.before a s = true) : (.fieldLink RX10 10 "SnowMules" "world" "LSnowMules$World;" : Cond).before a s = true := kw (A := ixX10_nearest) wt15 hts (by decide +kernel)
theorem kX10_nearest_2 {a : Array Value} {s : State} (hts : ∀ w ∈ wsX10_nearest, w.before a s = true) : (.fieldLink RX10 83 "SnowMules$World" "nodes" "LSnowMules$Table;" : Cond).before a s = true := kw (A := ixX10_nearest) wt171 hts (by decide +kernel)
theorem kX10_nearest_3 {a : Array Value} {s : State} (hts : ∀ w ∈ wsX10_nearest, w.before a s = true) : (.fieldLink RX10 61 "SnowMules" "search" "LSnowMules$Search;" : Cond).before a s = true := kw (A := ixX10_nearest) wt37 hts (by decide +kernel)
theorem kX10_nearest_4 {a : Array Value} {s : State} (hts : ∀ w ∈ wsX10_nearest, w.before a s = true) : (.constant RX10 236 (1000000) : Cond).before a s = true := kw (A := ixX10_nearest) wt1105 hts (by decide +kernel)
theorem kX10_nearest_5 {a : Array Value} {s : State} (hts : ∀ w ∈ wsX10_nearest, w.before a s = true) : (.fieldLink RX10 188 "SnowMules$Table" "size" "I" : Cond).before a s = true := kw (A := ixX10_nearest) wt942 hts (by decide +kernel)
theorem kX10_seed_1 {a : Array Value} {s : State} (hts : ∀ w ∈ wsX10_seed, w.before a s = true) : (.fieldLink RX10 10 "SnowMules" "world" "LSnowMules$World;" : Cond).before a s = true := kw (A := ixX10_seed) wt15 hts (by decide +kernel)
theorem kX10_seed_2 {a : Array Value} {s : State} (hts : ∀ w ∈ wsX10_seed, w.before a s = true) : (.fieldLink RX10 118 "SnowMules$World" "x" "I" : Cond).before a s = true := kw (A := ixX10_seed) wt246 hts (by decide +kernel)
theorem kX10_count_1 {a : Array Value} {s : State} (hts : ∀ w ∈ wsX10_count, w.before a s = true) : (.fieldLink RX10 10 "SnowMules" "world" "LSnowMules$World;" : Cond).before a s = true := kw (A := ixX10_count) wt15 hts (by decide +kernel)
theorem kX10_count_2 {a : Array Value} {s : State} (hts : ∀ w ∈ wsX10_count, w.before a s = true) : (.fieldLink RX10 83 "SnowMules$World" "nodes" "LSnowMules$Table;" : Cond).before a s = true := kw (A := ixX10_count) wt171 hts (by decide +kernel)
theorem kX10_count_3 {a : Array Value} {s : State} (hts : ∀ w ∈ wsX10_count, w.before a s = true) : (.fieldLink RX10 188 "SnowMules$Table" "size" "I" : Cond).before a s = true := kw (A := ixX10_count) wt942 hts (by decide +kernel)
theorem kX10_count_4 {a : Array Value} {s : State} (hts : ∀ w ∈ wsX10_count, w.before a s = true) : (.fieldLink RX10 101 "SnowMules$World" "passes" "LSnowMules$Table;" : Cond).before a s = true := kw (A := ixX10_count) wt198 hts (by decide +kernel)
theorem kX10_count_5 {a : Array Value} {s : State} (hts : ∀ w ∈ wsX10_count, w.before a s = true) : (.fieldLink RX10 107 "SnowMules$World" "jars" "LSnowMules$Table;" : Cond).before a s = true := kw (A := ixX10_count) wt217 hts (by decide +kernel)
theorem kX10_count_6 {a : Array Value} {s : State} (hts : ∀ w ∈ wsX10_count, w.before a s = true) : (.fieldLink RX10 128 "SnowMules" "lawCount" "I" : Cond).before a s = true := kw (A := ixX10_count) wt281 hts (by decide +kernel)
theorem kX10_count_7 {a : Array Value} {s : State} (hts : ∀ w ∈ wsX10_count, w.before a s = true) : (.fieldLink RX10 141 "SnowMules$World" "now" "I" : Cond).before a s = true := kw (A := ixX10_count) wt588 hts (by decide +kernel)
theorem kX10_count_8 {a : Array Value} {s : State} (hts : ∀ w ∈ wsX10_count, w.before a s = true) : (.fieldLink RX10 263 "SnowMules$World" "orders" "LSnowMules$Table;" : Cond).before a s = true := kw (A := ixX10_count) wt1193 hts (by decide +kernel)
theorem kX10_count_9 {a : Array Value} {s : State} (hts : ∀ w ∈ wsX10_count, w.before a s = true) : (.fieldLink RX10 285 "SnowMules$World" "feasts" "LSnowMules$Table;" : Cond).before a s = true := kw (A := ixX10_count) wt1293 hts (by decide +kernel)
theorem kX10_count_10 {a : Array Value} {s : State} (hts : ∀ w ∈ wsX10_count, w.before a s = true) : (.fieldLink RX10 176 "SnowMules$World" "wayStart" "I" : Cond).before a s = true := kw (A := ixX10_count) wt915 hts (by decide +kernel)
theorem kX10_count_11 {a : Array Value} {s : State} (hts : ∀ w ∈ wsX10_count, w.before a s = true) : (.fieldLink RX10 185 "SnowMules$World" "way" "LSnowMules$Table;" : Cond).before a s = true := kw (A := ixX10_count) wt916 hts (by decide +kernel)
theorem kX10_count_12 {a : Array Value} {s : State} (hts : ∀ w ∈ wsX10_count, w.before a s = true) : (.fieldLink RX10 118 "SnowMules$World" "x" "I" : Cond).before a s = true := kw (A := ixX10_count) wt246 hts (by decide +kernel)
theorem kX10_count_13 {a : Array Value} {s : State} (hts : ∀ w ∈ wsX10_count, w.before a s = true) : (.fieldLink RX10 121 "SnowMules" "tapeLength" "I" : Cond).before a s = true := kw (A := ixX10_count) wt255 hts (by decide +kernel)
theorem kX10_feed_1 {a : Array Value} {s : State} (hts : ∀ w ∈ wsX10_feed, w.before a s = true) : (.fieldLink RX10 121 "SnowMules" "tapeLength" "I" : Cond).before a s = true := kw (A := ixX10_feed) wt255 hts (by decide +kernel)
theorem kX10_end_1 {a : Array Value} {s : State} (hts : ∀ w ∈ wsX10_end, w.before a s = true) : (.fieldLink RX10 121 "SnowMules" "tapeLength" "I" : Cond).before a s = true := kw (A := ixX10_end) wt255 hts (by decide +kernel)
theorem iX10_lawOf_X10 : ∀ w ∈ wsX100, w ∈ wsX10_lawOf := inW (A := ixX10_lawOf) uwX10 (by decide +kernel)
theorem iX10_isJourney_X10 : ∀ w ∈ wsX100, w ∈ wsX10_isJourney := inW (A := ixX10_isJourney) uwX10 (by decide +kernel)
theorem iX10_isJourney_X9 : ∀ w ∈ wsX90, w ∈ wsX10_isJourney := inW (A := ixX10_isJourney) uwX9 (by decide +kernel)
theorem iX10_writeBytes_X10 : ∀ w ∈ wsX100, w ∈ wsX10_writeBytes := inW (A := ixX10_writeBytes) uwX10 (by decide +kernel)
theorem iX10_guess_X10 : ∀ w ∈ wsX100, w ∈ wsX10_guess := inW (A := ixX10_guess) uwX10 (by decide +kernel)
theorem iX10_guess_X9 : ∀ w ∈ wsX90, w ∈ wsX10_guess := inW (A := ixX10_guess) uwX9 (by decide +kernel)
theorem iX10_fill_X10 : ∀ w ∈ wsX100, w ∈ wsX10_fill := inW (A := ixX10_fill) uwX10 (by decide +kernel)
theorem iX10_fill_X9 : ∀ w ∈ wsX90, w ∈ wsX10_fill := inW (A := ixX10_fill) uwX9 (by decide +kernel)
theorem iX10_pour_X10 : ∀ w ∈ wsX100, w ∈ wsX10_pour := inW (A := ixX10_pour) uwX10 (by decide +kernel)
theorem iX10_pour_X9 : ∀ w ∈ wsX90, w ∈ wsX10_pour := inW (A := ixX10_pour) uwX9 (by decide +kernel)
theorem iX10_store_X10 : ∀ w ∈ wsX100, w ∈ wsX10_store := inW (A := ixX10_store) uwX10 (by decide +kernel)
theorem iX10_store_X9 : ∀ w ∈ wsX90, w ∈ wsX10_store := inW (A := ixX10_store) uwX9 (by decide +kernel)
theorem iX10_leave_X10 : ∀ w ∈ wsX100, w ∈ wsX10_leave := inW (A := ixX10_leave) uwX10 (by decide +kernel)
theorem iX10_leave_X9 : ∀ w ∈ wsX90, w ∈ wsX10_leave := inW (A := ixX10_leave) uwX9 (by decide +kernel)
theorem iX10_at_X10 : ∀ w ∈ wsX100, w ∈ wsX10_at := inW (A := ixX10_at) uwX10 (by decide +kernel)
theorem iX10_at_X9 : ∀ w ∈ wsX90, w ∈ wsX10_at := inW (A := ixX10_at) uwX9 (by decide +kernel)
theorem iX10_of_X10 : ∀ w ∈ wsX100, w ∈ wsX10_of := inW (A := ixX10_of) uwX10 (by decide +kernel)
theorem iX10_of_X9 : ∀ w ∈ wsX90, w ∈ wsX10_of := inW (A := ixX10_of) uwX9 (by decide +kernel)
theorem iX10_lay_X10 : ∀ w ∈ wsX100, w ∈ wsX10_lay := inW (A := ixX10_lay) uwX10 (by decide +kernel)
theorem iX10_lay_X9 : ∀ w ∈ wsX90, w ∈ wsX10_lay := inW (A := ixX10_lay) uwX9 (by decide +kernel)
theorem iX10_soonest_X10 : ∀ w ∈ wsX100, w ∈ wsX10_soonest := inW (A := ixX10_soonest) uwX10 (by decide +kernel)
theorem iX10_soonest_X9 : ∀ w ∈ wsX90, w ∈ wsX10_soonest := inW (A := ixX10_soonest) uwX9 (by decide +kernel)
theorem iX10_nearest_X10 : ∀ w ∈ wsX100, w ∈ wsX10_nearest := inW (A := ixX10_nearest) uwX10 (by decide +kernel)
theorem iX10_nearest_X9 : ∀ w ∈ wsX90, w ∈ wsX10_nearest := inW (A := ixX10_nearest) uwX9 (by decide +kernel)
theorem iX10_nearest_X6 : ∀ w ∈ wsX60, w ∈ wsX10_nearest := inW (A := ixX10_nearest) uwX6 (by decide +kernel)
theorem iX10_seed_X10 : ∀ w ∈ wsX100, w ∈ wsX10_seed := inW (A := ixX10_seed) uwX10 (by decide +kernel)
theorem iX10_seed_X9 : ∀ w ∈ wsX90, w ∈ wsX10_seed := inW (A := ixX10_seed) uwX9 (by decide +kernel)
theorem iX10_count_X10 : ∀ w ∈ wsX100, w ∈ wsX10_count := inW (A := ixX10_count) uwX10 (by decide +kernel)
theorem iX10_count_X9 : ∀ w ∈ wsX90, w ∈ wsX10_count := inW (A := ixX10_count) uwX9 (by decide +kernel)
theorem iX10_count_X6 : ∀ w ∈ wsX60, w ∈ wsX10_count := inW (A := ixX10_count) uwX6 (by decide +kernel)
theorem iX10_feed_X10 : ∀ w ∈ wsX100, w ∈ wsX10_feed := inW (A := ixX10_feed) uwX10 (by decide +kernel)
theorem iX10_end_X10 : ∀ w ∈ wsX100, w ∈ wsX10_end := inW (A := ixX10_end) uwX10 (by decide +kernel)
theorem hdX10_within : yX10_within.cls ≠ "java/lang/invoke/MethodHandle" ∧ yX10_within.cls ≠ "java/lang/invoke/VarHandle" ∧ (parseMethodDescriptor yX10_within.desc).map (fun d => d.parameters.length) = some 2 := ⟨hdc_6.1, hdc_6.2, hdd_4⟩
theorem hdX10_isCover : yX10_isCover.cls ≠ "java/lang/invoke/MethodHandle" ∧ yX10_isCover.cls ≠ "java/lang/invoke/VarHandle" ∧ (parseMethodDescriptor yX10_isCover.desc).map (fun d => d.parameters.length) = some 2 := ⟨hdc_6.1, hdc_6.2, hdd_4⟩
theorem hdX10_lawOf : yX10_lawOf.cls ≠ "java/lang/invoke/MethodHandle" ∧ yX10_lawOf.cls ≠ "java/lang/invoke/VarHandle" ∧ (parseMethodDescriptor yX10_lawOf.desc).map (fun d => d.parameters.length) = some 1 := ⟨hdc_6.1, hdc_6.2, hdd_50⟩
theorem hdX10_isLoad : yX10_isLoad.cls ≠ "java/lang/invoke/MethodHandle" ∧ yX10_isLoad.cls ≠ "java/lang/invoke/VarHandle" ∧ (parseMethodDescriptor yX10_isLoad.desc).map (fun d => d.parameters.length) = some 4 := ⟨hdc_6.1, hdc_6.2, hdd_51⟩
theorem hdX9_hasSnow : yX9_hasSnow.cls ≠ "java/lang/invoke/MethodHandle" ∧ yX9_hasSnow.cls ≠ "java/lang/invoke/VarHandle" ∧ (parseMethodDescriptor yX9_hasSnow.desc).map (fun d => d.parameters.length) = some 2 := ⟨hdc_2.1, hdc_2.2, hdd_4⟩
theorem hdX9_wayEnd : yX9_wayEnd.cls ≠ "java/lang/invoke/MethodHandle" ∧ yX9_wayEnd.cls ≠ "java/lang/invoke/VarHandle" ∧ (parseMethodDescriptor yX9_wayEnd.desc).map (fun d => d.parameters.length) = some 0 := ⟨hdc_2.1, hdc_2.2, hdd_6⟩
theorem hdX9_wayHas : yX9_wayHas.cls ≠ "java/lang/invoke/MethodHandle" ∧ yX9_wayHas.cls ≠ "java/lang/invoke/VarHandle" ∧ (parseMethodDescriptor yX9_wayHas.desc).map (fun d => d.parameters.length) = some 1 := ⟨hdc_2.1, hdc_2.2, hdd_1⟩
theorem hdX6_grow : yX6_grow.cls ≠ "java/lang/invoke/MethodHandle" ∧ yX6_grow.cls ≠ "java/lang/invoke/VarHandle" ∧ (parseMethodDescriptor yX6_grow.desc).map (fun d => d.parameters.length) = some 0 := ⟨hdc_1.1, hdc_1.2, hdd_6⟩
theorem hdX10_writeBytes : yX10_writeBytes.cls ≠ "java/lang/invoke/MethodHandle" ∧ yX10_writeBytes.cls ≠ "java/lang/invoke/VarHandle" ∧ (parseMethodDescriptor yX10_writeBytes.desc).map (fun d => d.parameters.length) = some 1 := ⟨hdc_6.1, hdc_6.2, hdd_17⟩
def dtX10_isCover_40_0 : List (Nat × Jvm.ClassFile.Instr × Nat) := [(0, .iload_n 0, 1), (1, .bipush 9, 2), (3, .invokestatic 79, 3), (6, .ifCond .eq 16, 3), (22, .iconst 0, 1), (23, .ireturn, 1), (9, .iload_n 1, 1), (10, .bipush 9, 2), (12, .invokestatic 79, 3), (15, .ifCond .eq 7, 3), (18, .iconst 1, 1), (19, .goto 4, 3)]
theorem daX10_isCover_40_0 : dtX10_isCover_40_0.all (dqd cX10_isCover) = true := by decide +kernel
theorem dX10_isCover_0 : decode cX10_isCover 0 = .ok (.iload_n 0, 1) := dq daX10_isCover_40_0 0 rfl
theorem dX10_isCover_1 : decode cX10_isCover 1 = .ok (.bipush 9, 2) := dq daX10_isCover_40_0 1 rfl
theorem dX10_isCover_3 : decode cX10_isCover 3 = .ok (.invokestatic 79, 3) := dq daX10_isCover_40_0 2 rfl
theorem dX10_isCover_6 : decode cX10_isCover 6 = .ok (.ifCond .eq 16, 3) := dq daX10_isCover_40_0 3 rfl
theorem dX10_isCover_22 : decode cX10_isCover 22 = .ok (.iconst 0, 1) := dq daX10_isCover_40_0 4 rfl
theorem dX10_isCover_23 : decode cX10_isCover 23 = .ok (.ireturn, 1) := dq daX10_isCover_40_0 5 rfl
theorem dX10_isCover_9 : decode cX10_isCover 9 = .ok (.iload_n 1, 1) := dq daX10_isCover_40_0 6 rfl
theorem dX10_isCover_10 : decode cX10_isCover 10 = .ok (.bipush 9, 2) := dq daX10_isCover_40_0 7 rfl
theorem dX10_isCover_12 : decode cX10_isCover 12 = .ok (.invokestatic 79, 3) := dq daX10_isCover_40_0 8 rfl
theorem dX10_isCover_15 : decode cX10_isCover 15 = .ok (.ifCond .eq 7, 3) := dq daX10_isCover_40_0 9 rfl
theorem dX10_isCover_18 : decode cX10_isCover 18 = .ok (.iconst 1, 1) := dq daX10_isCover_40_0 10 rfl
theorem dX10_isCover_19 : decode cX10_isCover 19 = .ok (.goto 4, 3) := dq daX10_isCover_40_0 11 rfl
def dtX10_isLoad_40_0 : List (Nat × Jvm.ClassFile.Instr × Nat) := [(0, .iload_n 0, 1), (1, .ldc 140, 2), (3, .invokestatic 79, 3), (6, .ifCond .eq 24, 3), (30, .iconst 0, 1), (31, .ireturn, 1), (9, .iload_n 1, 1), (10, .ldc 140, 2), (12, .invokestatic 79, 3), (15, .ifCond .eq 15, 3), (18, .iload_n 2, 1), (19, .iload_n 3, 1), (20, .invokestatic 104, 3), (23, .ifCond .eq 7, 3), (26, .iconst 1, 1), (27, .goto 4, 3)]
theorem daX10_isLoad_40_0 : dtX10_isLoad_40_0.all (dqd cX10_isLoad) = true := by decide +kernel
theorem dX10_isLoad_0 : decode cX10_isLoad 0 = .ok (.iload_n 0, 1) := dq daX10_isLoad_40_0 0 rfl
theorem dX10_isLoad_1 : decode cX10_isLoad 1 = .ok (.ldc 140, 2) := dq daX10_isLoad_40_0 1 rfl
theorem dX10_isLoad_3 : decode cX10_isLoad 3 = .ok (.invokestatic 79, 3) := dq daX10_isLoad_40_0 2 rfl
theorem dX10_isLoad_6 : decode cX10_isLoad 6 = .ok (.ifCond .eq 24, 3) := dq daX10_isLoad_40_0 3 rfl
theorem dX10_isLoad_30 : decode cX10_isLoad 30 = .ok (.iconst 0, 1) := dq daX10_isLoad_40_0 4 rfl
theorem dX10_isLoad_31 : decode cX10_isLoad 31 = .ok (.ireturn, 1) := dq daX10_isLoad_40_0 5 rfl
theorem dX10_isLoad_9 : decode cX10_isLoad 9 = .ok (.iload_n 1, 1) := dq daX10_isLoad_40_0 6 rfl
theorem dX10_isLoad_10 : decode cX10_isLoad 10 = .ok (.ldc 140, 2) := dq daX10_isLoad_40_0 7 rfl
theorem dX10_isLoad_12 : decode cX10_isLoad 12 = .ok (.invokestatic 79, 3) := dq daX10_isLoad_40_0 8 rfl
theorem dX10_isLoad_15 : decode cX10_isLoad 15 = .ok (.ifCond .eq 15, 3) := dq daX10_isLoad_40_0 9 rfl
theorem dX10_isLoad_18 : decode cX10_isLoad 18 = .ok (.iload_n 2, 1) := dq daX10_isLoad_40_0 10 rfl
theorem dX10_isLoad_19 : decode cX10_isLoad 19 = .ok (.iload_n 3, 1) := dq daX10_isLoad_40_0 11 rfl
theorem dX10_isLoad_20 : decode cX10_isLoad 20 = .ok (.invokestatic 104, 3) := dq daX10_isLoad_40_0 12 rfl
theorem dX10_isLoad_23 : decode cX10_isLoad 23 = .ok (.ifCond .eq 7, 3) := dq daX10_isLoad_40_0 13 rfl
theorem dX10_isLoad_26 : decode cX10_isLoad 26 = .ok (.iconst 1, 1) := dq daX10_isLoad_40_0 14 rfl
theorem dX10_isLoad_27 : decode cX10_isLoad 27 = .ok (.goto 4, 3) := dq daX10_isLoad_40_0 15 rfl
def dtX10_isWish_40_0 : List (Nat × Jvm.ClassFile.Instr × Nat) := [(0, .iload_n 0, 1), (1, .iconst 1, 1), (2, .if_icmp .lt 13, 3), (15, .iconst 0, 1), (16, .ireturn, 1), (5, .iload_n 0, 1), (6, .ldc 140, 2), (8, .if_icmp .gt 7, 3), (11, .iconst 1, 1), (12, .goto 4, 3)]
theorem daX10_isWish_40_0 : dtX10_isWish_40_0.all (dqd cX10_isWish) = true := by decide +kernel
theorem dX10_isWish_0 : decode cX10_isWish 0 = .ok (.iload_n 0, 1) := dq daX10_isWish_40_0 0 rfl
theorem dX10_isWish_1 : decode cX10_isWish 1 = .ok (.iconst 1, 1) := dq daX10_isWish_40_0 1 rfl
theorem dX10_isWish_2 : decode cX10_isWish 2 = .ok (.if_icmp .lt 13, 3) := dq daX10_isWish_40_0 2 rfl
theorem dX10_isWish_15 : decode cX10_isWish 15 = .ok (.iconst 0, 1) := dq daX10_isWish_40_0 3 rfl
theorem dX10_isWish_16 : decode cX10_isWish 16 = .ok (.ireturn, 1) := dq daX10_isWish_40_0 4 rfl
theorem dX10_isWish_5 : decode cX10_isWish 5 = .ok (.iload_n 0, 1) := dq daX10_isWish_40_0 5 rfl
theorem dX10_isWish_6 : decode cX10_isWish 6 = .ok (.ldc 140, 2) := dq daX10_isWish_40_0 6 rfl
theorem dX10_isWish_8 : decode cX10_isWish 8 = .ok (.if_icmp .gt 7, 3) := dq daX10_isWish_40_0 7 rfl
theorem dX10_isWish_11 : decode cX10_isWish 11 = .ok (.iconst 1, 1) := dq daX10_isWish_40_0 8 rfl
theorem dX10_isWish_12 : decode cX10_isWish 12 = .ok (.goto 4, 3) := dq daX10_isWish_40_0 9 rfl
def dtX10_lawOf_40_0 : List (Nat × Jvm.ClassFile.Instr × Nat) := [(0, .iload_n 1, 1), (1, .aload_n 0, 1), (2, .getfield 128, 3), (5, .iconst 1, 1), (6, .isub, 1), (7, .invokestatic 79, 3), (10, .ifCond .eq 18, 3), (28, .aconst_null, 1), (29, .areturn, 1), (13, .iload_n 1, 1), (14, .bipush 6, 2), (16, .if_icmp .ge 12, 3), (19, .aload_n 0, 1), (20, .getfield 29, 3), (23, .iload_n 1, 1), (24, .aaload, 1), (25, .goto 4, 3)]
theorem daX10_lawOf_40_0 : dtX10_lawOf_40_0.all (dqd cX10_lawOf) = true := by decide +kernel
theorem dX10_lawOf_0 : decode cX10_lawOf 0 = .ok (.iload_n 1, 1) := dq daX10_lawOf_40_0 0 rfl
theorem dX10_lawOf_1 : decode cX10_lawOf 1 = .ok (.aload_n 0, 1) := dq daX10_lawOf_40_0 1 rfl
theorem dX10_lawOf_2 : decode cX10_lawOf 2 = .ok (.getfield 128, 3) := dq daX10_lawOf_40_0 2 rfl
theorem dX10_lawOf_5 : decode cX10_lawOf 5 = .ok (.iconst 1, 1) := dq daX10_lawOf_40_0 3 rfl
theorem dX10_lawOf_6 : decode cX10_lawOf 6 = .ok (.isub, 1) := dq daX10_lawOf_40_0 4 rfl
theorem dX10_lawOf_7 : decode cX10_lawOf 7 = .ok (.invokestatic 79, 3) := dq daX10_lawOf_40_0 5 rfl
theorem dX10_lawOf_10 : decode cX10_lawOf 10 = .ok (.ifCond .eq 18, 3) := dq daX10_lawOf_40_0 6 rfl
theorem dX10_lawOf_28 : decode cX10_lawOf 28 = .ok (.aconst_null, 1) := dq daX10_lawOf_40_0 7 rfl
theorem dX10_lawOf_29 : decode cX10_lawOf 29 = .ok (.areturn, 1) := dq daX10_lawOf_40_0 8 rfl
theorem dX10_lawOf_13 : decode cX10_lawOf 13 = .ok (.iload_n 1, 1) := dq daX10_lawOf_40_0 9 rfl
theorem dX10_lawOf_14 : decode cX10_lawOf 14 = .ok (.bipush 6, 2) := dq daX10_lawOf_40_0 10 rfl
theorem dX10_lawOf_16 : decode cX10_lawOf 16 = .ok (.if_icmp .ge 12, 3) := dq daX10_lawOf_40_0 11 rfl
theorem dX10_lawOf_19 : decode cX10_lawOf 19 = .ok (.aload_n 0, 1) := dq daX10_lawOf_40_0 12 rfl
theorem dX10_lawOf_20 : decode cX10_lawOf 20 = .ok (.getfield 29, 3) := dq daX10_lawOf_40_0 13 rfl
theorem dX10_lawOf_23 : decode cX10_lawOf 23 = .ok (.iload_n 1, 1) := dq daX10_lawOf_40_0 14 rfl
theorem dX10_lawOf_24 : decode cX10_lawOf 24 = .ok (.aaload, 1) := dq daX10_lawOf_40_0 15 rfl
theorem dX10_lawOf_25 : decode cX10_lawOf 25 = .ok (.goto 4, 3) := dq daX10_lawOf_40_0 16 rfl
def dtX10_isJourney_40_0 : List (Nat × Jvm.ClassFile.Instr × Nat) := [(0, .aload_n 0, 1), (1, .getfield 10, 3), (4, .getfield 83, 3), (7, .iload_n 1, 1), (8, .invokevirtual 97, 3), (11, .ifCond .eq 26, 3), (37, .iconst 0, 1), (38, .ireturn, 1), (14, .aload_n 0, 1), (15, .getfield 10, 3), (18, .getfield 83, 3), (21, .iload_n 2, 1), (22, .invokevirtual 97, 3), (25, .ifCond .eq 12, 3), (28, .iload_n 1, 1), (29, .iload_n 2, 1), (30, .if_icmp .eq 7, 3), (33, .iconst 1, 1), (34, .goto 4, 3)]
theorem daX10_isJourney_40_0 : dtX10_isJourney_40_0.all (dqd cX10_isJourney) = true := by decide +kernel
theorem dX10_isJourney_0 : decode cX10_isJourney 0 = .ok (.aload_n 0, 1) := dq daX10_isJourney_40_0 0 rfl
theorem dX10_isJourney_1 : decode cX10_isJourney 1 = .ok (.getfield 10, 3) := dq daX10_isJourney_40_0 1 rfl
theorem dX10_isJourney_4 : decode cX10_isJourney 4 = .ok (.getfield 83, 3) := dq daX10_isJourney_40_0 2 rfl
theorem dX10_isJourney_7 : decode cX10_isJourney 7 = .ok (.iload_n 1, 1) := dq daX10_isJourney_40_0 3 rfl
theorem dX10_isJourney_8 : decode cX10_isJourney 8 = .ok (.invokevirtual 97, 3) := dq daX10_isJourney_40_0 4 rfl
theorem dX10_isJourney_11 : decode cX10_isJourney 11 = .ok (.ifCond .eq 26, 3) := dq daX10_isJourney_40_0 5 rfl
theorem dX10_isJourney_37 : decode cX10_isJourney 37 = .ok (.iconst 0, 1) := dq daX10_isJourney_40_0 6 rfl
theorem dX10_isJourney_38 : decode cX10_isJourney 38 = .ok (.ireturn, 1) := dq daX10_isJourney_40_0 7 rfl
theorem dX10_isJourney_14 : decode cX10_isJourney 14 = .ok (.aload_n 0, 1) := dq daX10_isJourney_40_0 8 rfl
theorem dX10_isJourney_15 : decode cX10_isJourney 15 = .ok (.getfield 10, 3) := dq daX10_isJourney_40_0 9 rfl
theorem dX10_isJourney_18 : decode cX10_isJourney 18 = .ok (.getfield 83, 3) := dq daX10_isJourney_40_0 10 rfl
theorem dX10_isJourney_21 : decode cX10_isJourney 21 = .ok (.iload_n 2, 1) := dq daX10_isJourney_40_0 11 rfl
theorem dX10_isJourney_22 : decode cX10_isJourney 22 = .ok (.invokevirtual 97, 3) := dq daX10_isJourney_40_0 12 rfl
theorem dX10_isJourney_25 : decode cX10_isJourney 25 = .ok (.ifCond .eq 12, 3) := dq daX10_isJourney_40_0 13 rfl
theorem dX10_isJourney_28 : decode cX10_isJourney 28 = .ok (.iload_n 1, 1) := dq daX10_isJourney_40_0 14 rfl
theorem dX10_isJourney_29 : decode cX10_isJourney 29 = .ok (.iload_n 2, 1) := dq daX10_isJourney_40_0 15 rfl
theorem dX10_isJourney_30 : decode cX10_isJourney 30 = .ok (.if_icmp .eq 7, 3) := dq daX10_isJourney_40_0 16 rfl
theorem dX10_isJourney_33 : decode cX10_isJourney 33 = .ok (.iconst 1, 1) := dq daX10_isJourney_40_0 17 rfl
theorem dX10_isJourney_34 : decode cX10_isJourney 34 = .ok (.goto 4, 3) := dq daX10_isJourney_40_0 18 rfl
def dtX10_writeBytes_40_0 : List (Nat × Jvm.ClassFile.Instr × Nat) := [(0, .bipush 24, 2), (2, .istore_n 2, 1), (3, .iload_n 2, 1), (4, .ifCond .lt 45, 3), (7, .aload_n 0, 1), (8, .getfield 121, 3), (11, .sipush 400, 3), (14, .if_icmp .ge 29, 3), (43, .iinc 2 (-8), 3), (46, .goto (-43), 3), (49, .return_, 1), (17, .aload_n 0, 1), (18, .getfield 23, 3), (21, .aload_n 0, 1), (22, .getfield 121, 3), (25, .iload_n 1, 1), (26, .iload_n 2, 1), (27, .iushr, 1), (28, .sipush 255, 3), (31, .iand, 1), (32, .iastore, 1), (33, .aload_n 0, 1), (34, .dup, 1), (35, .getfield 121, 3), (38, .iconst 1, 1), (39, .iadd, 1), (40, .putfield 121, 3)]
theorem daX10_writeBytes_40_0 : dtX10_writeBytes_40_0.all (dqd cX10_writeBytes) = true := by decide +kernel
theorem dX10_writeBytes_0 : decode cX10_writeBytes 0 = .ok (.bipush 24, 2) := dq daX10_writeBytes_40_0 0 rfl
theorem dX10_writeBytes_2 : decode cX10_writeBytes 2 = .ok (.istore_n 2, 1) := dq daX10_writeBytes_40_0 1 rfl
theorem dX10_writeBytes_3 : decode cX10_writeBytes 3 = .ok (.iload_n 2, 1) := dq daX10_writeBytes_40_0 2 rfl
theorem dX10_writeBytes_4 : decode cX10_writeBytes 4 = .ok (.ifCond .lt 45, 3) := dq daX10_writeBytes_40_0 3 rfl
theorem dX10_writeBytes_7 : decode cX10_writeBytes 7 = .ok (.aload_n 0, 1) := dq daX10_writeBytes_40_0 4 rfl
theorem dX10_writeBytes_8 : decode cX10_writeBytes 8 = .ok (.getfield 121, 3) := dq daX10_writeBytes_40_0 5 rfl
theorem dX10_writeBytes_11 : decode cX10_writeBytes 11 = .ok (.sipush 400, 3) := dq daX10_writeBytes_40_0 6 rfl
theorem dX10_writeBytes_14 : decode cX10_writeBytes 14 = .ok (.if_icmp .ge 29, 3) := dq daX10_writeBytes_40_0 7 rfl
theorem dX10_writeBytes_43 : decode cX10_writeBytes 43 = .ok (.iinc 2 (-8), 3) := dq daX10_writeBytes_40_0 8 rfl
theorem dX10_writeBytes_46 : decode cX10_writeBytes 46 = .ok (.goto (-43), 3) := dq daX10_writeBytes_40_0 9 rfl
theorem dX10_writeBytes_49 : decode cX10_writeBytes 49 = .ok (.return_, 1) := dq daX10_writeBytes_40_0 10 rfl
theorem dX10_writeBytes_17 : decode cX10_writeBytes 17 = .ok (.aload_n 0, 1) := dq daX10_writeBytes_40_0 11 rfl
theorem dX10_writeBytes_18 : decode cX10_writeBytes 18 = .ok (.getfield 23, 3) := dq daX10_writeBytes_40_0 12 rfl
theorem dX10_writeBytes_21 : decode cX10_writeBytes 21 = .ok (.aload_n 0, 1) := dq daX10_writeBytes_40_0 13 rfl
theorem dX10_writeBytes_22 : decode cX10_writeBytes 22 = .ok (.getfield 121, 3) := dq daX10_writeBytes_40_0 14 rfl
theorem dX10_writeBytes_25 : decode cX10_writeBytes 25 = .ok (.iload_n 1, 1) := dq daX10_writeBytes_40_0 15 rfl
theorem dX10_writeBytes_26 : decode cX10_writeBytes 26 = .ok (.iload_n 2, 1) := dq daX10_writeBytes_40_0 16 rfl
theorem dX10_writeBytes_27 : decode cX10_writeBytes 27 = .ok (.iushr, 1) := dq daX10_writeBytes_40_0 17 rfl
theorem dX10_writeBytes_28 : decode cX10_writeBytes 28 = .ok (.sipush 255, 3) := dq daX10_writeBytes_40_0 18 rfl
theorem dX10_writeBytes_31 : decode cX10_writeBytes 31 = .ok (.iand, 1) := dq daX10_writeBytes_40_0 19 rfl
theorem dX10_writeBytes_32 : decode cX10_writeBytes 32 = .ok (.iastore, 1) := dq daX10_writeBytes_40_0 20 rfl
theorem dX10_writeBytes_33 : decode cX10_writeBytes 33 = .ok (.aload_n 0, 1) := dq daX10_writeBytes_40_0 21 rfl
theorem dX10_writeBytes_34 : decode cX10_writeBytes 34 = .ok (.dup, 1) := dq daX10_writeBytes_40_0 22 rfl
theorem dX10_writeBytes_35 : decode cX10_writeBytes 35 = .ok (.getfield 121, 3) := dq daX10_writeBytes_40_0 23 rfl
theorem dX10_writeBytes_38 : decode cX10_writeBytes 38 = .ok (.iconst 1, 1) := dq daX10_writeBytes_40_0 24 rfl
theorem dX10_writeBytes_39 : decode cX10_writeBytes 39 = .ok (.iadd, 1) := dq daX10_writeBytes_40_0 25 rfl
theorem dX10_writeBytes_40 : decode cX10_writeBytes 40 = .ok (.putfield 121, 3) := dq daX10_writeBytes_40_0 26 rfl
def dtX10_tick_40_0 : List (Nat × Jvm.ClassFile.Instr × Nat) := [(0, .aload_n 0, 1), (1, .iload_n 1, 1), (2, .invokevirtual 161, 3), (5, .astore_n 3, 1), (6, .aload_n 3, 1), (7, .ifnull 29, 3), (36, .iconst (-1), 1), (37, .ireturn, 1)]
theorem daX10_tick_40_0 : dtX10_tick_40_0.all (dqd cX10_tick) = true := by decide +kernel
theorem dX10_tick_0 : decode cX10_tick 0 = .ok (.aload_n 0, 1) := dq daX10_tick_40_0 0 rfl
theorem dX10_tick_1 : decode cX10_tick 1 = .ok (.iload_n 1, 1) := dq daX10_tick_40_0 1 rfl
theorem dX10_tick_2 : decode cX10_tick 2 = .ok (.invokevirtual 161, 3) := dq daX10_tick_40_0 2 rfl
theorem dX10_tick_5 : decode cX10_tick 5 = .ok (.astore_n 3, 1) := dq daX10_tick_40_0 3 rfl
theorem dX10_tick_6 : decode cX10_tick 6 = .ok (.aload_n 3, 1) := dq daX10_tick_40_0 4 rfl
theorem dX10_tick_7 : decode cX10_tick 7 = .ok (.ifnull 29, 3) := dq daX10_tick_40_0 5 rfl
theorem dX10_tick_36 : decode cX10_tick 36 = .ok (.iconst (-1), 1) := dq daX10_tick_40_0 6 rfl
theorem dX10_tick_37 : decode cX10_tick 37 = .ok (.ireturn, 1) := dq daX10_tick_40_0 7 rfl
def dtX10_melt_40_0 : List (Nat × Jvm.ClassFile.Instr × Nat) := [(0, .aload_n 0, 1), (1, .iload_n 1, 1), (2, .invokevirtual 161, 3), (5, .astore_n 3, 1), (6, .aload_n 3, 1), (7, .ifnull 34, 3), (41, .iconst (-1), 1), (42, .ireturn, 1)]
theorem daX10_melt_40_0 : dtX10_melt_40_0.all (dqd cX10_melt) = true := by decide +kernel
theorem dX10_melt_0 : decode cX10_melt 0 = .ok (.aload_n 0, 1) := dq daX10_melt_40_0 0 rfl
theorem dX10_melt_1 : decode cX10_melt 1 = .ok (.iload_n 1, 1) := dq daX10_melt_40_0 1 rfl
theorem dX10_melt_2 : decode cX10_melt 2 = .ok (.invokevirtual 161, 3) := dq daX10_melt_40_0 2 rfl
theorem dX10_melt_5 : decode cX10_melt 5 = .ok (.astore_n 3, 1) := dq daX10_melt_40_0 3 rfl
theorem dX10_melt_6 : decode cX10_melt 6 = .ok (.aload_n 3, 1) := dq daX10_melt_40_0 4 rfl
theorem dX10_melt_7 : decode cX10_melt 7 = .ok (.ifnull 34, 3) := dq daX10_melt_40_0 5 rfl
theorem dX10_melt_41 : decode cX10_melt 41 = .ok (.iconst (-1), 1) := dq daX10_melt_40_0 6 rfl
theorem dX10_melt_42 : decode cX10_melt 42 = .ok (.ireturn, 1) := dq daX10_melt_40_0 7 rfl
def dtX10_tried_40_0 : List (Nat × Jvm.ClassFile.Instr × Nat) := [(0, .aload_n 0, 1), (1, .iload_n 1, 1), (2, .invokevirtual 161, 3), (5, .astore 7, 2), (7, .aload 7, 2), (9, .ifnull 35, 3), (44, .iconst (-1), 1), (45, .ireturn, 1)]
theorem daX10_tried_40_0 : dtX10_tried_40_0.all (dqd cX10_tried) = true := by decide +kernel
theorem dX10_tried_0 : decode cX10_tried 0 = .ok (.aload_n 0, 1) := dq daX10_tried_40_0 0 rfl
theorem dX10_tried_1 : decode cX10_tried 1 = .ok (.iload_n 1, 1) := dq daX10_tried_40_0 1 rfl
theorem dX10_tried_2 : decode cX10_tried 2 = .ok (.invokevirtual 161, 3) := dq daX10_tried_40_0 2 rfl
theorem dX10_tried_5 : decode cX10_tried 5 = .ok (.astore 7, 2) := dq daX10_tried_40_0 3 rfl
theorem dX10_tried_7 : decode cX10_tried 7 = .ok (.aload 7, 2) := dq daX10_tried_40_0 4 rfl
theorem dX10_tried_9 : decode cX10_tried 9 = .ok (.ifnull 35, 3) := dq daX10_tried_40_0 5 rfl
theorem dX10_tried_44 : decode cX10_tried 44 = .ok (.iconst (-1), 1) := dq daX10_tried_40_0 6 rfl
theorem dX10_tried_45 : decode cX10_tried 45 = .ok (.ireturn, 1) := dq daX10_tried_40_0 7 rfl
def dtX10_best_40_0 : List (Nat × Jvm.ClassFile.Instr × Nat) := [(0, .aload_n 0, 1), (1, .iload_n 1, 1), (2, .invokevirtual 161, 3), (5, .astore 9, 2), (7, .aload 9, 2), (9, .ifnull 36, 3), (45, .iconst (-1), 1), (46, .ireturn, 1)]
theorem daX10_best_40_0 : dtX10_best_40_0.all (dqd cX10_best) = true := by decide +kernel
theorem dX10_best_0 : decode cX10_best 0 = .ok (.aload_n 0, 1) := dq daX10_best_40_0 0 rfl
theorem dX10_best_1 : decode cX10_best 1 = .ok (.iload_n 1, 1) := dq daX10_best_40_0 1 rfl
theorem dX10_best_2 : decode cX10_best 2 = .ok (.invokevirtual 161, 3) := dq daX10_best_40_0 2 rfl
theorem dX10_best_5 : decode cX10_best 5 = .ok (.astore 9, 2) := dq daX10_best_40_0 3 rfl
theorem dX10_best_7 : decode cX10_best 7 = .ok (.aload 9, 2) := dq daX10_best_40_0 4 rfl
theorem dX10_best_9 : decode cX10_best 9 = .ok (.ifnull 36, 3) := dq daX10_best_40_0 5 rfl
theorem dX10_best_45 : decode cX10_best 45 = .ok (.iconst (-1), 1) := dq daX10_best_40_0 6 rfl
theorem dX10_best_46 : decode cX10_best 46 = .ok (.ireturn, 1) := dq daX10_best_40_0 7 rfl
def dtX10_warmer_40_0 : List (Nat × Jvm.ClassFile.Instr × Nat) := [(0, .aload_n 0, 1), (1, .iload_n 1, 1), (2, .invokevirtual 161, 3), (5, .astore 7, 2), (7, .iload_n 2, 1), (8, .iload_n 3, 1), (9, .iload 4, 2), (11, .iload 5, 2), (13, .invokestatic 191, 3), (16, .ifCond .eq 17, 3), (33, .iconst 0, 1), (34, .istore 8, 2), (36, .aload 7, 2), (38, .ifnull 19, 3), (57, .iconst (-1), 1), (58, .ireturn, 1), (19, .iload 6, 2), (21, .ldc 140, 2), (23, .invokestatic 79, 3), (26, .ifCond .eq 7, 3), (29, .iconst 1, 1), (30, .goto 4, 3)]
theorem daX10_warmer_40_0 : dtX10_warmer_40_0.all (dqd cX10_warmer) = true := by decide +kernel
theorem dX10_warmer_0 : decode cX10_warmer 0 = .ok (.aload_n 0, 1) := dq daX10_warmer_40_0 0 rfl
theorem dX10_warmer_1 : decode cX10_warmer 1 = .ok (.iload_n 1, 1) := dq daX10_warmer_40_0 1 rfl
theorem dX10_warmer_2 : decode cX10_warmer 2 = .ok (.invokevirtual 161, 3) := dq daX10_warmer_40_0 2 rfl
theorem dX10_warmer_5 : decode cX10_warmer 5 = .ok (.astore 7, 2) := dq daX10_warmer_40_0 3 rfl
theorem dX10_warmer_7 : decode cX10_warmer 7 = .ok (.iload_n 2, 1) := dq daX10_warmer_40_0 4 rfl
theorem dX10_warmer_8 : decode cX10_warmer 8 = .ok (.iload_n 3, 1) := dq daX10_warmer_40_0 5 rfl
theorem dX10_warmer_9 : decode cX10_warmer 9 = .ok (.iload 4, 2) := dq daX10_warmer_40_0 6 rfl
theorem dX10_warmer_11 : decode cX10_warmer 11 = .ok (.iload 5, 2) := dq daX10_warmer_40_0 7 rfl
theorem dX10_warmer_13 : decode cX10_warmer 13 = .ok (.invokestatic 191, 3) := dq daX10_warmer_40_0 8 rfl
theorem dX10_warmer_16 : decode cX10_warmer 16 = .ok (.ifCond .eq 17, 3) := dq daX10_warmer_40_0 9 rfl
theorem dX10_warmer_33 : decode cX10_warmer 33 = .ok (.iconst 0, 1) := dq daX10_warmer_40_0 10 rfl
theorem dX10_warmer_34 : decode cX10_warmer 34 = .ok (.istore 8, 2) := dq daX10_warmer_40_0 11 rfl
theorem dX10_warmer_36 : decode cX10_warmer 36 = .ok (.aload 7, 2) := dq daX10_warmer_40_0 12 rfl
theorem dX10_warmer_38 : decode cX10_warmer 38 = .ok (.ifnull 19, 3) := dq daX10_warmer_40_0 13 rfl
theorem dX10_warmer_57 : decode cX10_warmer 57 = .ok (.iconst (-1), 1) := dq daX10_warmer_40_0 14 rfl
theorem dX10_warmer_58 : decode cX10_warmer 58 = .ok (.ireturn, 1) := dq daX10_warmer_40_0 15 rfl
theorem dX10_warmer_19 : decode cX10_warmer 19 = .ok (.iload 6, 2) := dq daX10_warmer_40_0 16 rfl
theorem dX10_warmer_21 : decode cX10_warmer 21 = .ok (.ldc 140, 2) := dq daX10_warmer_40_0 17 rfl
theorem dX10_warmer_23 : decode cX10_warmer 23 = .ok (.invokestatic 79, 3) := dq daX10_warmer_40_0 18 rfl
theorem dX10_warmer_26 : decode cX10_warmer 26 = .ok (.ifCond .eq 7, 3) := dq daX10_warmer_40_0 19 rfl
theorem dX10_warmer_29 : decode cX10_warmer 29 = .ok (.iconst 1, 1) := dq daX10_warmer_40_0 20 rfl
theorem dX10_warmer_30 : decode cX10_warmer 30 = .ok (.goto 4, 3) := dq daX10_warmer_40_0 21 rfl
def dtX10_guess_40_0 : List (Nat × Jvm.ClassFile.Instr × Nat) := [(0, .aload_n 0, 1), (1, .iload_n 1, 1), (2, .invokevirtual 161, 3), (5, .astore 10, 2), (7, .iload 6, 2), (9, .bipush 12, 2), (11, .invokestatic 79, 3), (14, .ifCond .eq 26, 3), (40, .iconst 0, 1), (41, .istore 11, 2), (43, .iload 9, 2), (45, .ifCond .eq 18, 3), (63, .iconst 1, 1), (64, .goto 4, 3), (68, .istore 12, 2), (70, .aload 10, 2), (72, .ifnull 36, 3), (108, .iconst (-1), 1), (109, .ireturn, 1), (48, .aload_n 0, 1), (49, .getfield 10, 3), (52, .getfield 185, 3), (55, .iload 8, 2), (57, .invokevirtual 97, 3), (60, .ifCond .eq 7, 3), (67, .iconst 0, 1), (17, .iload 7, 2), (19, .ldc 140, 2), (21, .invokestatic 79, 3), (24, .ifCond .eq 16, 3), (27, .iload 9, 2), (29, .iconst 2, 1)]
theorem daX10_guess_40_0 : dtX10_guess_40_0.all (dqd cX10_guess) = true := by decide +kernel
theorem dX10_guess_0 : decode cX10_guess 0 = .ok (.aload_n 0, 1) := dq daX10_guess_40_0 0 rfl
theorem dX10_guess_1 : decode cX10_guess 1 = .ok (.iload_n 1, 1) := dq daX10_guess_40_0 1 rfl
theorem dX10_guess_2 : decode cX10_guess 2 = .ok (.invokevirtual 161, 3) := dq daX10_guess_40_0 2 rfl
theorem dX10_guess_5 : decode cX10_guess 5 = .ok (.astore 10, 2) := dq daX10_guess_40_0 3 rfl
theorem dX10_guess_7 : decode cX10_guess 7 = .ok (.iload 6, 2) := dq daX10_guess_40_0 4 rfl
theorem dX10_guess_9 : decode cX10_guess 9 = .ok (.bipush 12, 2) := dq daX10_guess_40_0 5 rfl
theorem dX10_guess_11 : decode cX10_guess 11 = .ok (.invokestatic 79, 3) := dq daX10_guess_40_0 6 rfl
theorem dX10_guess_14 : decode cX10_guess 14 = .ok (.ifCond .eq 26, 3) := dq daX10_guess_40_0 7 rfl
theorem dX10_guess_40 : decode cX10_guess 40 = .ok (.iconst 0, 1) := dq daX10_guess_40_0 8 rfl
theorem dX10_guess_41 : decode cX10_guess 41 = .ok (.istore 11, 2) := dq daX10_guess_40_0 9 rfl
theorem dX10_guess_43 : decode cX10_guess 43 = .ok (.iload 9, 2) := dq daX10_guess_40_0 10 rfl
theorem dX10_guess_45 : decode cX10_guess 45 = .ok (.ifCond .eq 18, 3) := dq daX10_guess_40_0 11 rfl
theorem dX10_guess_63 : decode cX10_guess 63 = .ok (.iconst 1, 1) := dq daX10_guess_40_0 12 rfl
theorem dX10_guess_64 : decode cX10_guess 64 = .ok (.goto 4, 3) := dq daX10_guess_40_0 13 rfl
theorem dX10_guess_68 : decode cX10_guess 68 = .ok (.istore 12, 2) := dq daX10_guess_40_0 14 rfl
theorem dX10_guess_70 : decode cX10_guess 70 = .ok (.aload 10, 2) := dq daX10_guess_40_0 15 rfl
theorem dX10_guess_72 : decode cX10_guess 72 = .ok (.ifnull 36, 3) := dq daX10_guess_40_0 16 rfl
theorem dX10_guess_108 : decode cX10_guess 108 = .ok (.iconst (-1), 1) := dq daX10_guess_40_0 17 rfl
theorem dX10_guess_109 : decode cX10_guess 109 = .ok (.ireturn, 1) := dq daX10_guess_40_0 18 rfl
theorem dX10_guess_48 : decode cX10_guess 48 = .ok (.aload_n 0, 1) := dq daX10_guess_40_0 19 rfl
theorem dX10_guess_49 : decode cX10_guess 49 = .ok (.getfield 10, 3) := dq daX10_guess_40_0 20 rfl
theorem dX10_guess_52 : decode cX10_guess 52 = .ok (.getfield 185, 3) := dq daX10_guess_40_0 21 rfl
theorem dX10_guess_55 : decode cX10_guess 55 = .ok (.iload 8, 2) := dq daX10_guess_40_0 22 rfl
theorem dX10_guess_57 : decode cX10_guess 57 = .ok (.invokevirtual 97, 3) := dq daX10_guess_40_0 23 rfl
theorem dX10_guess_60 : decode cX10_guess 60 = .ok (.ifCond .eq 7, 3) := dq daX10_guess_40_0 24 rfl
theorem dX10_guess_67 : decode cX10_guess 67 = .ok (.iconst 0, 1) := dq daX10_guess_40_0 25 rfl
theorem dX10_guess_17 : decode cX10_guess 17 = .ok (.iload 7, 2) := dq daX10_guess_40_0 26 rfl
theorem dX10_guess_19 : decode cX10_guess 19 = .ok (.ldc 140, 2) := dq daX10_guess_40_0 27 rfl
theorem dX10_guess_21 : decode cX10_guess 21 = .ok (.invokestatic 79, 3) := dq daX10_guess_40_0 28 rfl
theorem dX10_guess_24 : decode cX10_guess 24 = .ok (.ifCond .eq 16, 3) := dq daX10_guess_40_0 29 rfl
theorem dX10_guess_27 : decode cX10_guess 27 = .ok (.iload 9, 2) := dq daX10_guess_40_0 30 rfl
theorem dX10_guess_29 : decode cX10_guess 29 = .ok (.iconst 2, 1) := dq daX10_guess_40_0 31 rfl
def dtX10_guess_40_1 : List (Nat × Jvm.ClassFile.Instr × Nat) := [(30, .invokestatic 79, 3), (33, .ifCond .eq 7, 3), (36, .iconst 1, 1), (37, .goto 4, 3)]
theorem daX10_guess_40_1 : dtX10_guess_40_1.all (dqd cX10_guess) = true := by decide +kernel
theorem dX10_guess_30 : decode cX10_guess 30 = .ok (.invokestatic 79, 3) := dq daX10_guess_40_1 0 rfl
theorem dX10_guess_33 : decode cX10_guess 33 = .ok (.ifCond .eq 7, 3) := dq daX10_guess_40_1 1 rfl
theorem dX10_guess_36 : decode cX10_guess 36 = .ok (.iconst 1, 1) := dq daX10_guess_40_1 2 rfl
theorem dX10_guess_37 : decode cX10_guess 37 = .ok (.goto 4, 3) := dq daX10_guess_40_1 3 rfl
def dtX10_serves_40_0 : List (Nat × Jvm.ClassFile.Instr × Nat) := [(0, .aload_n 0, 1), (1, .iload_n 1, 1), (2, .invokevirtual 161, 3), (5, .astore 4, 2), (7, .aload 4, 2), (9, .ifnull 31, 3), (40, .iconst (-1), 1), (41, .ireturn, 1)]
theorem daX10_serves_40_0 : dtX10_serves_40_0.all (dqd cX10_serves) = true := by decide +kernel
theorem dX10_serves_0 : decode cX10_serves 0 = .ok (.aload_n 0, 1) := dq daX10_serves_40_0 0 rfl
theorem dX10_serves_1 : decode cX10_serves 1 = .ok (.iload_n 1, 1) := dq daX10_serves_40_0 1 rfl
theorem dX10_serves_2 : decode cX10_serves 2 = .ok (.invokevirtual 161, 3) := dq daX10_serves_40_0 2 rfl
theorem dX10_serves_5 : decode cX10_serves 5 = .ok (.astore 4, 2) := dq daX10_serves_40_0 3 rfl
theorem dX10_serves_7 : decode cX10_serves 7 = .ok (.aload 4, 2) := dq daX10_serves_40_0 4 rfl
theorem dX10_serves_9 : decode cX10_serves 9 = .ok (.ifnull 31, 3) := dq daX10_serves_40_0 5 rfl
theorem dX10_serves_40 : decode cX10_serves 40 = .ok (.iconst (-1), 1) := dq daX10_serves_40_0 6 rfl
theorem dX10_serves_41 : decode cX10_serves 41 = .ok (.ireturn, 1) := dq daX10_serves_40_0 7 rfl
def dtX10_all_40_0 : List (Nat × Jvm.ClassFile.Instr × Nat) := [(0, .aload_n 0, 1), (1, .iload_n 1, 1), (2, .invokevirtual 161, 3), (5, .astore_n 3, 1), (6, .aload_n 3, 1), (7, .ifnull 12, 3), (19, .iconst (-1), 1), (20, .ireturn, 1)]
theorem daX10_all_40_0 : dtX10_all_40_0.all (dqd cX10_all) = true := by decide +kernel
theorem dX10_all_0 : decode cX10_all 0 = .ok (.aload_n 0, 1) := dq daX10_all_40_0 0 rfl
theorem dX10_all_1 : decode cX10_all 1 = .ok (.iload_n 1, 1) := dq daX10_all_40_0 1 rfl
theorem dX10_all_2 : decode cX10_all 2 = .ok (.invokevirtual 161, 3) := dq daX10_all_40_0 2 rfl
theorem dX10_all_5 : decode cX10_all 5 = .ok (.astore_n 3, 1) := dq daX10_all_40_0 3 rfl
theorem dX10_all_6 : decode cX10_all 6 = .ok (.aload_n 3, 1) := dq daX10_all_40_0 4 rfl
theorem dX10_all_7 : decode cX10_all 7 = .ok (.ifnull 12, 3) := dq daX10_all_40_0 5 rfl
theorem dX10_all_19 : decode cX10_all 19 = .ok (.iconst (-1), 1) := dq daX10_all_40_0 6 rfl
theorem dX10_all_20 : decode cX10_all 20 = .ok (.ireturn, 1) := dq daX10_all_40_0 7 rfl
def dtX10_enough_40_0 : List (Nat × Jvm.ClassFile.Instr × Nat) := [(0, .aload_n 0, 1), (1, .iload_n 1, 1), (2, .invokevirtual 161, 3), (5, .astore 4, 2), (7, .aload 4, 2), (9, .ifnull 26, 3), (35, .iconst (-1), 1), (36, .ireturn, 1)]
theorem daX10_enough_40_0 : dtX10_enough_40_0.all (dqd cX10_enough) = true := by decide +kernel
theorem dX10_enough_0 : decode cX10_enough 0 = .ok (.aload_n 0, 1) := dq daX10_enough_40_0 0 rfl
theorem dX10_enough_1 : decode cX10_enough 1 = .ok (.iload_n 1, 1) := dq daX10_enough_40_0 1 rfl
theorem dX10_enough_2 : decode cX10_enough 2 = .ok (.invokevirtual 161, 3) := dq daX10_enough_40_0 2 rfl
theorem dX10_enough_5 : decode cX10_enough 5 = .ok (.astore 4, 2) := dq daX10_enough_40_0 3 rfl
theorem dX10_enough_7 : decode cX10_enough 7 = .ok (.aload 4, 2) := dq daX10_enough_40_0 4 rfl
theorem dX10_enough_9 : decode cX10_enough 9 = .ok (.ifnull 26, 3) := dq daX10_enough_40_0 5 rfl
theorem dX10_enough_35 : decode cX10_enough 35 = .ok (.iconst (-1), 1) := dq daX10_enough_40_0 6 rfl
theorem dX10_enough_36 : decode cX10_enough 36 = .ok (.ireturn, 1) := dq daX10_enough_40_0 7 rfl
def dtX10_least_40_0 : List (Nat × Jvm.ClassFile.Instr × Nat) := [(0, .aload_n 0, 1), (1, .iload_n 1, 1), (2, .invokevirtual 161, 3), (5, .astore_n 3, 1), (6, .aload_n 3, 1), (7, .ifnull 17, 3), (24, .iconst (-1), 1), (25, .ireturn, 1)]
theorem daX10_least_40_0 : dtX10_least_40_0.all (dqd cX10_least) = true := by decide +kernel
theorem dX10_least_0 : decode cX10_least 0 = .ok (.aload_n 0, 1) := dq daX10_least_40_0 0 rfl
theorem dX10_least_1 : decode cX10_least 1 = .ok (.iload_n 1, 1) := dq daX10_least_40_0 1 rfl
theorem dX10_least_2 : decode cX10_least 2 = .ok (.invokevirtual 161, 3) := dq daX10_least_40_0 2 rfl
theorem dX10_least_5 : decode cX10_least 5 = .ok (.astore_n 3, 1) := dq daX10_least_40_0 3 rfl
theorem dX10_least_6 : decode cX10_least 6 = .ok (.aload_n 3, 1) := dq daX10_least_40_0 4 rfl
theorem dX10_least_7 : decode cX10_least 7 = .ok (.ifnull 17, 3) := dq daX10_least_40_0 5 rfl
theorem dX10_least_24 : decode cX10_least 24 = .ok (.iconst (-1), 1) := dq daX10_least_40_0 6 rfl
theorem dX10_least_25 : decode cX10_least 25 = .ok (.ireturn, 1) := dq daX10_least_40_0 7 rfl
def dtX10_nights_40_0 : List (Nat × Jvm.ClassFile.Instr × Nat) := [(0, .aload_n 0, 1), (1, .iload_n 1, 1), (2, .invokevirtual 161, 3), (5, .astore 6, 2), (7, .iload_n 3, 1), (8, .ldc 140, 2), (10, .invokestatic 79, 3), (13, .ifCond .eq 29, 3), (42, .iconst 0, 1), (43, .istore 7, 2), (45, .aload 6, 2), (47, .ifnull 33, 3), (80, .iconst (-1), 1), (81, .ireturn, 1), (16, .iload 4, 2), (18, .iconst 1, 1), (19, .if_icmp .lt 23, 3), (22, .iload 4, 2), (24, .bipush 20, 2), (26, .if_icmp .gt 16, 3), (29, .iload 5, 2), (31, .iconst 2, 1), (32, .invokestatic 79, 3), (35, .ifCond .eq 7, 3), (38, .iconst 1, 1), (39, .goto 4, 3)]
theorem daX10_nights_40_0 : dtX10_nights_40_0.all (dqd cX10_nights) = true := by decide +kernel
theorem dX10_nights_0 : decode cX10_nights 0 = .ok (.aload_n 0, 1) := dq daX10_nights_40_0 0 rfl
theorem dX10_nights_1 : decode cX10_nights 1 = .ok (.iload_n 1, 1) := dq daX10_nights_40_0 1 rfl
theorem dX10_nights_2 : decode cX10_nights 2 = .ok (.invokevirtual 161, 3) := dq daX10_nights_40_0 2 rfl
theorem dX10_nights_5 : decode cX10_nights 5 = .ok (.astore 6, 2) := dq daX10_nights_40_0 3 rfl
theorem dX10_nights_7 : decode cX10_nights 7 = .ok (.iload_n 3, 1) := dq daX10_nights_40_0 4 rfl
theorem dX10_nights_8 : decode cX10_nights 8 = .ok (.ldc 140, 2) := dq daX10_nights_40_0 5 rfl
theorem dX10_nights_10 : decode cX10_nights 10 = .ok (.invokestatic 79, 3) := dq daX10_nights_40_0 6 rfl
theorem dX10_nights_13 : decode cX10_nights 13 = .ok (.ifCond .eq 29, 3) := dq daX10_nights_40_0 7 rfl
theorem dX10_nights_42 : decode cX10_nights 42 = .ok (.iconst 0, 1) := dq daX10_nights_40_0 8 rfl
theorem dX10_nights_43 : decode cX10_nights 43 = .ok (.istore 7, 2) := dq daX10_nights_40_0 9 rfl
theorem dX10_nights_45 : decode cX10_nights 45 = .ok (.aload 6, 2) := dq daX10_nights_40_0 10 rfl
theorem dX10_nights_47 : decode cX10_nights 47 = .ok (.ifnull 33, 3) := dq daX10_nights_40_0 11 rfl
theorem dX10_nights_80 : decode cX10_nights 80 = .ok (.iconst (-1), 1) := dq daX10_nights_40_0 12 rfl
theorem dX10_nights_81 : decode cX10_nights 81 = .ok (.ireturn, 1) := dq daX10_nights_40_0 13 rfl
theorem dX10_nights_16 : decode cX10_nights 16 = .ok (.iload 4, 2) := dq daX10_nights_40_0 14 rfl
theorem dX10_nights_18 : decode cX10_nights 18 = .ok (.iconst 1, 1) := dq daX10_nights_40_0 15 rfl
theorem dX10_nights_19 : decode cX10_nights 19 = .ok (.if_icmp .lt 23, 3) := dq daX10_nights_40_0 16 rfl
theorem dX10_nights_22 : decode cX10_nights 22 = .ok (.iload 4, 2) := dq daX10_nights_40_0 17 rfl
theorem dX10_nights_24 : decode cX10_nights 24 = .ok (.bipush 20, 2) := dq daX10_nights_40_0 18 rfl
theorem dX10_nights_26 : decode cX10_nights 26 = .ok (.if_icmp .gt 16, 3) := dq daX10_nights_40_0 19 rfl
theorem dX10_nights_29 : decode cX10_nights 29 = .ok (.iload 5, 2) := dq daX10_nights_40_0 20 rfl
theorem dX10_nights_31 : decode cX10_nights 31 = .ok (.iconst 2, 1) := dq daX10_nights_40_0 21 rfl
theorem dX10_nights_32 : decode cX10_nights 32 = .ok (.invokestatic 79, 3) := dq daX10_nights_40_0 22 rfl
theorem dX10_nights_35 : decode cX10_nights 35 = .ok (.ifCond .eq 7, 3) := dq daX10_nights_40_0 23 rfl
theorem dX10_nights_38 : decode cX10_nights 38 = .ok (.iconst 1, 1) := dq daX10_nights_40_0 24 rfl
theorem dX10_nights_39 : decode cX10_nights 39 = .ok (.goto 4, 3) := dq daX10_nights_40_0 25 rfl
def dtX10_price_40_0 : List (Nat × Jvm.ClassFile.Instr × Nat) := [(0, .aload_n 0, 1), (1, .iload_n 1, 1), (2, .invokevirtual 161, 3), (5, .astore 7, 2), (7, .aload 7, 2), (9, .ifnull 39, 3), (48, .iconst (-1), 1), (49, .ireturn, 1)]
theorem daX10_price_40_0 : dtX10_price_40_0.all (dqd cX10_price) = true := by decide +kernel
theorem dX10_price_0 : decode cX10_price 0 = .ok (.aload_n 0, 1) := dq daX10_price_40_0 0 rfl
theorem dX10_price_1 : decode cX10_price 1 = .ok (.iload_n 1, 1) := dq daX10_price_40_0 1 rfl
theorem dX10_price_2 : decode cX10_price 2 = .ok (.invokevirtual 161, 3) := dq daX10_price_40_0 2 rfl
theorem dX10_price_5 : decode cX10_price 5 = .ok (.astore 7, 2) := dq daX10_price_40_0 3 rfl
theorem dX10_price_7 : decode cX10_price 7 = .ok (.aload 7, 2) := dq daX10_price_40_0 4 rfl
theorem dX10_price_9 : decode cX10_price 9 = .ok (.ifnull 39, 3) := dq daX10_price_40_0 5 rfl
theorem dX10_price_48 : decode cX10_price 48 = .ok (.iconst (-1), 1) := dq daX10_price_40_0 6 rfl
theorem dX10_price_49 : decode cX10_price 49 = .ok (.ireturn, 1) := dq daX10_price_40_0 7 rfl
def dtX10_ahead_40_0 : List (Nat × Jvm.ClassFile.Instr × Nat) := [(0, .aload_n 0, 1), (1, .iload_n 1, 1), (2, .invokevirtual 161, 3), (5, .astore 4, 2), (7, .aload 4, 2), (9, .ifnull 21, 3), (30, .iconst (-1), 1), (31, .ireturn, 1)]
theorem daX10_ahead_40_0 : dtX10_ahead_40_0.all (dqd cX10_ahead) = true := by decide +kernel
theorem dX10_ahead_0 : decode cX10_ahead 0 = .ok (.aload_n 0, 1) := dq daX10_ahead_40_0 0 rfl
theorem dX10_ahead_1 : decode cX10_ahead 1 = .ok (.iload_n 1, 1) := dq daX10_ahead_40_0 1 rfl
theorem dX10_ahead_2 : decode cX10_ahead 2 = .ok (.invokevirtual 161, 3) := dq daX10_ahead_40_0 2 rfl
theorem dX10_ahead_5 : decode cX10_ahead 5 = .ok (.astore 4, 2) := dq daX10_ahead_40_0 3 rfl
theorem dX10_ahead_7 : decode cX10_ahead 7 = .ok (.aload 4, 2) := dq daX10_ahead_40_0 4 rfl
theorem dX10_ahead_9 : decode cX10_ahead 9 = .ok (.ifnull 21, 3) := dq daX10_ahead_40_0 5 rfl
theorem dX10_ahead_30 : decode cX10_ahead 30 = .ok (.iconst (-1), 1) := dq daX10_ahead_40_0 6 rfl
theorem dX10_ahead_31 : decode cX10_ahead 31 = .ok (.ireturn, 1) := dq daX10_ahead_40_0 7 rfl
def dtX10_fill_40_0 : List (Nat × Jvm.ClassFile.Instr × Nat) := [(0, .aload_n 0, 1), (1, .getfield 10, 3), (4, .iload_n 1, 1), (5, .invokevirtual 136, 3), (8, .istore_n 3, 1), (9, .iload_n 3, 1), (10, .iconst (-1), 1), (11, .if_icmp .eq 37, 3), (48, .iconst (-1), 1), (49, .ireturn, 1), (14, .iload_n 2, 1), (15, .ldc 140, 2), (17, .invokestatic 79, 3), (20, .ifCond .eq 28, 3), (23, .aload_n 0, 1), (24, .getfield 10, 3), (27, .iload_n 3, 1), (28, .aload_n 0, 1), (29, .getfield 10, 3), (32, .aload_n 0, 1), (33, .getfield 10, 3), (36, .getfield 141, 3), (39, .invokevirtual 144, 3), (42, .invokevirtual 147, 3), (45, .ifCond .ne 5, 3), (50, .aload_n 0, 1), (51, .getfield 10, 3), (54, .getfield 107, 3), (57, .iload_n 1, 1), (58, .iconst 0, 1), (59, .invokevirtual 150, 3), (62, .istore 4, 2)]
theorem daX10_fill_40_0 : dtX10_fill_40_0.all (dqd cX10_fill) = true := by decide +kernel
theorem dX10_fill_0 : decode cX10_fill 0 = .ok (.aload_n 0, 1) := dq daX10_fill_40_0 0 rfl
theorem dX10_fill_1 : decode cX10_fill 1 = .ok (.getfield 10, 3) := dq daX10_fill_40_0 1 rfl
theorem dX10_fill_4 : decode cX10_fill 4 = .ok (.iload_n 1, 1) := dq daX10_fill_40_0 2 rfl
theorem dX10_fill_5 : decode cX10_fill 5 = .ok (.invokevirtual 136, 3) := dq daX10_fill_40_0 3 rfl
theorem dX10_fill_8 : decode cX10_fill 8 = .ok (.istore_n 3, 1) := dq daX10_fill_40_0 4 rfl
theorem dX10_fill_9 : decode cX10_fill 9 = .ok (.iload_n 3, 1) := dq daX10_fill_40_0 5 rfl
theorem dX10_fill_10 : decode cX10_fill 10 = .ok (.iconst (-1), 1) := dq daX10_fill_40_0 6 rfl
theorem dX10_fill_11 : decode cX10_fill 11 = .ok (.if_icmp .eq 37, 3) := dq daX10_fill_40_0 7 rfl
theorem dX10_fill_48 : decode cX10_fill 48 = .ok (.iconst (-1), 1) := dq daX10_fill_40_0 8 rfl
theorem dX10_fill_49 : decode cX10_fill 49 = .ok (.ireturn, 1) := dq daX10_fill_40_0 9 rfl
theorem dX10_fill_14 : decode cX10_fill 14 = .ok (.iload_n 2, 1) := dq daX10_fill_40_0 10 rfl
theorem dX10_fill_15 : decode cX10_fill 15 = .ok (.ldc 140, 2) := dq daX10_fill_40_0 11 rfl
theorem dX10_fill_17 : decode cX10_fill 17 = .ok (.invokestatic 79, 3) := dq daX10_fill_40_0 12 rfl
theorem dX10_fill_20 : decode cX10_fill 20 = .ok (.ifCond .eq 28, 3) := dq daX10_fill_40_0 13 rfl
theorem dX10_fill_23 : decode cX10_fill 23 = .ok (.aload_n 0, 1) := dq daX10_fill_40_0 14 rfl
theorem dX10_fill_24 : decode cX10_fill 24 = .ok (.getfield 10, 3) := dq daX10_fill_40_0 15 rfl
theorem dX10_fill_27 : decode cX10_fill 27 = .ok (.iload_n 3, 1) := dq daX10_fill_40_0 16 rfl
theorem dX10_fill_28 : decode cX10_fill 28 = .ok (.aload_n 0, 1) := dq daX10_fill_40_0 17 rfl
theorem dX10_fill_29 : decode cX10_fill 29 = .ok (.getfield 10, 3) := dq daX10_fill_40_0 18 rfl
theorem dX10_fill_32 : decode cX10_fill 32 = .ok (.aload_n 0, 1) := dq daX10_fill_40_0 19 rfl
theorem dX10_fill_33 : decode cX10_fill 33 = .ok (.getfield 10, 3) := dq daX10_fill_40_0 20 rfl
theorem dX10_fill_36 : decode cX10_fill 36 = .ok (.getfield 141, 3) := dq daX10_fill_40_0 21 rfl
theorem dX10_fill_39 : decode cX10_fill 39 = .ok (.invokevirtual 144, 3) := dq daX10_fill_40_0 22 rfl
theorem dX10_fill_42 : decode cX10_fill 42 = .ok (.invokevirtual 147, 3) := dq daX10_fill_40_0 23 rfl
theorem dX10_fill_45 : decode cX10_fill 45 = .ok (.ifCond .ne 5, 3) := dq daX10_fill_40_0 24 rfl
theorem dX10_fill_50 : decode cX10_fill 50 = .ok (.aload_n 0, 1) := dq daX10_fill_40_0 25 rfl
theorem dX10_fill_51 : decode cX10_fill 51 = .ok (.getfield 10, 3) := dq daX10_fill_40_0 26 rfl
theorem dX10_fill_54 : decode cX10_fill 54 = .ok (.getfield 107, 3) := dq daX10_fill_40_0 27 rfl
theorem dX10_fill_57 : decode cX10_fill 57 = .ok (.iload_n 1, 1) := dq daX10_fill_40_0 28 rfl
theorem dX10_fill_58 : decode cX10_fill 58 = .ok (.iconst 0, 1) := dq daX10_fill_40_0 29 rfl
theorem dX10_fill_59 : decode cX10_fill 59 = .ok (.invokevirtual 150, 3) := dq daX10_fill_40_0 30 rfl
theorem dX10_fill_62 : decode cX10_fill 62 = .ok (.istore 4, 2) := dq daX10_fill_40_0 31 rfl
def dtX10_fill_40_1 : List (Nat × Jvm.ClassFile.Instr × Nat) := [(64, .aload_n 0, 1), (65, .getfield 10, 3), (68, .getfield 107, 3), (71, .iload_n 1, 1), (72, .iconst 0, 1), (73, .iload_n 2, 1), (74, .invokevirtual 93, 3), (77, .iload 4, 2), (79, .ireturn, 1)]
theorem daX10_fill_40_1 : dtX10_fill_40_1.all (dqd cX10_fill) = true := by decide +kernel
theorem dX10_fill_64 : decode cX10_fill 64 = .ok (.aload_n 0, 1) := dq daX10_fill_40_1 0 rfl
theorem dX10_fill_65 : decode cX10_fill 65 = .ok (.getfield 10, 3) := dq daX10_fill_40_1 1 rfl
theorem dX10_fill_68 : decode cX10_fill 68 = .ok (.getfield 107, 3) := dq daX10_fill_40_1 2 rfl
theorem dX10_fill_71 : decode cX10_fill 71 = .ok (.iload_n 1, 1) := dq daX10_fill_40_1 3 rfl
theorem dX10_fill_72 : decode cX10_fill 72 = .ok (.iconst 0, 1) := dq daX10_fill_40_1 4 rfl
theorem dX10_fill_73 : decode cX10_fill 73 = .ok (.iload_n 2, 1) := dq daX10_fill_40_1 5 rfl
theorem dX10_fill_74 : decode cX10_fill 74 = .ok (.invokevirtual 93, 3) := dq daX10_fill_40_1 6 rfl
theorem dX10_fill_77 : decode cX10_fill 77 = .ok (.iload 4, 2) := dq daX10_fill_40_1 7 rfl
theorem dX10_fill_79 : decode cX10_fill 79 = .ok (.ireturn, 1) := dq daX10_fill_40_1 8 rfl
def dtX10_pour_40_0 : List (Nat × Jvm.ClassFile.Instr × Nat) := [(0, .aload_n 0, 1), (1, .getfield 10, 3), (4, .iload_n 1, 1), (5, .invokevirtual 136, 3), (8, .istore_n 2, 1), (9, .iload_n 2, 1), (10, .iconst (-1), 1), (11, .if_icmp .ne 5, 3), (16, .aload_n 0, 1), (17, .getfield 10, 3), (20, .iload_n 2, 1), (21, .aload_n 0, 1), (22, .getfield 10, 3), (25, .getfield 107, 3), (28, .iload_n 1, 1), (29, .iconst 0, 1), (30, .invokevirtual 150, 3), (33, .invokevirtual 154, 3), (36, .istore_n 3, 1), (37, .aload_n 0, 1), (38, .getfield 10, 3), (41, .getfield 107, 3), (44, .iload_n 1, 1), (45, .iconst 0, 1), (46, .iconst 0, 1), (47, .invokevirtual 93, 3), (50, .iload_n 3, 1), (14, .iconst (-1), 1), (15, .ireturn, 1), (51, .ireturn, 1)]
theorem daX10_pour_40_0 : dtX10_pour_40_0.all (dqd cX10_pour) = true := by decide +kernel
theorem dX10_pour_0 : decode cX10_pour 0 = .ok (.aload_n 0, 1) := dq daX10_pour_40_0 0 rfl
theorem dX10_pour_1 : decode cX10_pour 1 = .ok (.getfield 10, 3) := dq daX10_pour_40_0 1 rfl
theorem dX10_pour_4 : decode cX10_pour 4 = .ok (.iload_n 1, 1) := dq daX10_pour_40_0 2 rfl
theorem dX10_pour_5 : decode cX10_pour 5 = .ok (.invokevirtual 136, 3) := dq daX10_pour_40_0 3 rfl
theorem dX10_pour_8 : decode cX10_pour 8 = .ok (.istore_n 2, 1) := dq daX10_pour_40_0 4 rfl
theorem dX10_pour_9 : decode cX10_pour 9 = .ok (.iload_n 2, 1) := dq daX10_pour_40_0 5 rfl
theorem dX10_pour_10 : decode cX10_pour 10 = .ok (.iconst (-1), 1) := dq daX10_pour_40_0 6 rfl
theorem dX10_pour_11 : decode cX10_pour 11 = .ok (.if_icmp .ne 5, 3) := dq daX10_pour_40_0 7 rfl
theorem dX10_pour_16 : decode cX10_pour 16 = .ok (.aload_n 0, 1) := dq daX10_pour_40_0 8 rfl
theorem dX10_pour_17 : decode cX10_pour 17 = .ok (.getfield 10, 3) := dq daX10_pour_40_0 9 rfl
theorem dX10_pour_20 : decode cX10_pour 20 = .ok (.iload_n 2, 1) := dq daX10_pour_40_0 10 rfl
theorem dX10_pour_21 : decode cX10_pour 21 = .ok (.aload_n 0, 1) := dq daX10_pour_40_0 11 rfl
theorem dX10_pour_22 : decode cX10_pour 22 = .ok (.getfield 10, 3) := dq daX10_pour_40_0 12 rfl
theorem dX10_pour_25 : decode cX10_pour 25 = .ok (.getfield 107, 3) := dq daX10_pour_40_0 13 rfl
theorem dX10_pour_28 : decode cX10_pour 28 = .ok (.iload_n 1, 1) := dq daX10_pour_40_0 14 rfl
theorem dX10_pour_29 : decode cX10_pour 29 = .ok (.iconst 0, 1) := dq daX10_pour_40_0 15 rfl
theorem dX10_pour_30 : decode cX10_pour 30 = .ok (.invokevirtual 150, 3) := dq daX10_pour_40_0 16 rfl
theorem dX10_pour_33 : decode cX10_pour 33 = .ok (.invokevirtual 154, 3) := dq daX10_pour_40_0 17 rfl
theorem dX10_pour_36 : decode cX10_pour 36 = .ok (.istore_n 3, 1) := dq daX10_pour_40_0 18 rfl
theorem dX10_pour_37 : decode cX10_pour 37 = .ok (.aload_n 0, 1) := dq daX10_pour_40_0 19 rfl
theorem dX10_pour_38 : decode cX10_pour 38 = .ok (.getfield 10, 3) := dq daX10_pour_40_0 20 rfl
theorem dX10_pour_41 : decode cX10_pour 41 = .ok (.getfield 107, 3) := dq daX10_pour_40_0 21 rfl
theorem dX10_pour_44 : decode cX10_pour 44 = .ok (.iload_n 1, 1) := dq daX10_pour_40_0 22 rfl
theorem dX10_pour_45 : decode cX10_pour 45 = .ok (.iconst 0, 1) := dq daX10_pour_40_0 23 rfl
theorem dX10_pour_46 : decode cX10_pour 46 = .ok (.iconst 0, 1) := dq daX10_pour_40_0 24 rfl
theorem dX10_pour_47 : decode cX10_pour 47 = .ok (.invokevirtual 93, 3) := dq daX10_pour_40_0 25 rfl
theorem dX10_pour_50 : decode cX10_pour 50 = .ok (.iload_n 3, 1) := dq daX10_pour_40_0 26 rfl
theorem dX10_pour_14 : decode cX10_pour 14 = .ok (.iconst (-1), 1) := dq daX10_pour_40_0 27 rfl
theorem dX10_pour_15 : decode cX10_pour 15 = .ok (.ireturn, 1) := dq daX10_pour_40_0 28 rfl
theorem dX10_pour_51 : decode cX10_pour 51 = .ok (.ireturn, 1) := dq daX10_pour_40_0 29 rfl
def dtX10_store_40_0 : List (Nat × Jvm.ClassFile.Instr × Nat) := [(0, .aload_n 0, 1), (1, .getfield 10, 3), (4, .getfield 83, 3), (7, .iload_n 1, 1), (8, .invokevirtual 97, 3), (11, .ifCond .eq 12, 3), (23, .iconst (-1), 1), (24, .ireturn, 1), (14, .iload_n 2, 1), (15, .ldc 157, 2), (17, .invokestatic 79, 3), (20, .ifCond .ne 5, 3), (25, .aload_n 0, 1), (26, .getfield 10, 3), (29, .getfield 83, 3), (32, .iload_n 1, 1), (33, .iconst 3, 1), (34, .invokevirtual 150, 3), (37, .istore_n 3, 1), (38, .aload_n 0, 1), (39, .getfield 10, 3), (42, .getfield 83, 3), (45, .iload_n 1, 1), (46, .iconst 3, 1), (47, .iload_n 2, 1), (48, .invokevirtual 93, 3), (51, .iload_n 3, 1), (52, .ireturn, 1)]
theorem daX10_store_40_0 : dtX10_store_40_0.all (dqd cX10_store) = true := by decide +kernel
theorem dX10_store_0 : decode cX10_store 0 = .ok (.aload_n 0, 1) := dq daX10_store_40_0 0 rfl
theorem dX10_store_1 : decode cX10_store 1 = .ok (.getfield 10, 3) := dq daX10_store_40_0 1 rfl
theorem dX10_store_4 : decode cX10_store 4 = .ok (.getfield 83, 3) := dq daX10_store_40_0 2 rfl
theorem dX10_store_7 : decode cX10_store 7 = .ok (.iload_n 1, 1) := dq daX10_store_40_0 3 rfl
theorem dX10_store_8 : decode cX10_store 8 = .ok (.invokevirtual 97, 3) := dq daX10_store_40_0 4 rfl
theorem dX10_store_11 : decode cX10_store 11 = .ok (.ifCond .eq 12, 3) := dq daX10_store_40_0 5 rfl
theorem dX10_store_23 : decode cX10_store 23 = .ok (.iconst (-1), 1) := dq daX10_store_40_0 6 rfl
theorem dX10_store_24 : decode cX10_store 24 = .ok (.ireturn, 1) := dq daX10_store_40_0 7 rfl
theorem dX10_store_14 : decode cX10_store 14 = .ok (.iload_n 2, 1) := dq daX10_store_40_0 8 rfl
theorem dX10_store_15 : decode cX10_store 15 = .ok (.ldc 157, 2) := dq daX10_store_40_0 9 rfl
theorem dX10_store_17 : decode cX10_store 17 = .ok (.invokestatic 79, 3) := dq daX10_store_40_0 10 rfl
theorem dX10_store_20 : decode cX10_store 20 = .ok (.ifCond .ne 5, 3) := dq daX10_store_40_0 11 rfl
theorem dX10_store_25 : decode cX10_store 25 = .ok (.aload_n 0, 1) := dq daX10_store_40_0 12 rfl
theorem dX10_store_26 : decode cX10_store 26 = .ok (.getfield 10, 3) := dq daX10_store_40_0 13 rfl
theorem dX10_store_29 : decode cX10_store 29 = .ok (.getfield 83, 3) := dq daX10_store_40_0 14 rfl
theorem dX10_store_32 : decode cX10_store 32 = .ok (.iload_n 1, 1) := dq daX10_store_40_0 15 rfl
theorem dX10_store_33 : decode cX10_store 33 = .ok (.iconst 3, 1) := dq daX10_store_40_0 16 rfl
theorem dX10_store_34 : decode cX10_store 34 = .ok (.invokevirtual 150, 3) := dq daX10_store_40_0 17 rfl
theorem dX10_store_37 : decode cX10_store 37 = .ok (.istore_n 3, 1) := dq daX10_store_40_0 18 rfl
theorem dX10_store_38 : decode cX10_store 38 = .ok (.aload_n 0, 1) := dq daX10_store_40_0 19 rfl
theorem dX10_store_39 : decode cX10_store 39 = .ok (.getfield 10, 3) := dq daX10_store_40_0 20 rfl
theorem dX10_store_42 : decode cX10_store 42 = .ok (.getfield 83, 3) := dq daX10_store_40_0 21 rfl
theorem dX10_store_45 : decode cX10_store 45 = .ok (.iload_n 1, 1) := dq daX10_store_40_0 22 rfl
theorem dX10_store_46 : decode cX10_store 46 = .ok (.iconst 3, 1) := dq daX10_store_40_0 23 rfl
theorem dX10_store_47 : decode cX10_store 47 = .ok (.iload_n 2, 1) := dq daX10_store_40_0 24 rfl
theorem dX10_store_48 : decode cX10_store 48 = .ok (.invokevirtual 93, 3) := dq daX10_store_40_0 25 rfl
theorem dX10_store_51 : decode cX10_store 51 = .ok (.iload_n 3, 1) := dq daX10_store_40_0 26 rfl
theorem dX10_store_52 : decode cX10_store 52 = .ok (.ireturn, 1) := dq daX10_store_40_0 27 rfl
def dtX10_leave_40_0 : List (Nat × Jvm.ClassFile.Instr × Nat) := [(0, .aload_n 0, 1), (1, .getfield 10, 3), (4, .iload_n 1, 1), (5, .invokevirtual 136, 3), (8, .istore_n 3, 1), (9, .iload_n 3, 1), (10, .iconst (-1), 1), (11, .if_icmp .ne 7, 3), (18, .aload_n 0, 1), (19, .getfield 10, 3), (22, .iload_n 2, 1), (23, .iload_n 3, 1), (24, .invokevirtual 158, 3), (27, .istore 4, 2), (29, .iload 4, 2), (31, .iconst (-1), 1), (32, .if_icmp .ne 5, 3), (37, .aload_n 0, 1), (38, .getfield 10, 3), (41, .getfield 107, 3), (44, .iload_n 1, 1), (45, .iconst 1, 1), (46, .bipush 12, 2), (48, .invokevirtual 93, 3), (51, .aload_n 0, 1), (52, .getfield 10, 3), (55, .getfield 107, 3), (58, .iload_n 1, 1), (59, .iconst 2, 1), (60, .iload_n 2, 1), (61, .invokevirtual 93, 3), (64, .aload_n 0, 1)]
theorem daX10_leave_40_0 : dtX10_leave_40_0.all (dqd cX10_leave) = true := by decide +kernel
theorem dX10_leave_0 : decode cX10_leave 0 = .ok (.aload_n 0, 1) := dq daX10_leave_40_0 0 rfl
theorem dX10_leave_1 : decode cX10_leave 1 = .ok (.getfield 10, 3) := dq daX10_leave_40_0 1 rfl
theorem dX10_leave_4 : decode cX10_leave 4 = .ok (.iload_n 1, 1) := dq daX10_leave_40_0 2 rfl
theorem dX10_leave_5 : decode cX10_leave 5 = .ok (.invokevirtual 136, 3) := dq daX10_leave_40_0 3 rfl
theorem dX10_leave_8 : decode cX10_leave 8 = .ok (.istore_n 3, 1) := dq daX10_leave_40_0 4 rfl
theorem dX10_leave_9 : decode cX10_leave 9 = .ok (.iload_n 3, 1) := dq daX10_leave_40_0 5 rfl
theorem dX10_leave_10 : decode cX10_leave 10 = .ok (.iconst (-1), 1) := dq daX10_leave_40_0 6 rfl
theorem dX10_leave_11 : decode cX10_leave 11 = .ok (.if_icmp .ne 7, 3) := dq daX10_leave_40_0 7 rfl
theorem dX10_leave_18 : decode cX10_leave 18 = .ok (.aload_n 0, 1) := dq daX10_leave_40_0 8 rfl
theorem dX10_leave_19 : decode cX10_leave 19 = .ok (.getfield 10, 3) := dq daX10_leave_40_0 9 rfl
theorem dX10_leave_22 : decode cX10_leave 22 = .ok (.iload_n 2, 1) := dq daX10_leave_40_0 10 rfl
theorem dX10_leave_23 : decode cX10_leave 23 = .ok (.iload_n 3, 1) := dq daX10_leave_40_0 11 rfl
theorem dX10_leave_24 : decode cX10_leave 24 = .ok (.invokevirtual 158, 3) := dq daX10_leave_40_0 12 rfl
theorem dX10_leave_27 : decode cX10_leave 27 = .ok (.istore 4, 2) := dq daX10_leave_40_0 13 rfl
theorem dX10_leave_29 : decode cX10_leave 29 = .ok (.iload 4, 2) := dq daX10_leave_40_0 14 rfl
theorem dX10_leave_31 : decode cX10_leave 31 = .ok (.iconst (-1), 1) := dq daX10_leave_40_0 15 rfl
theorem dX10_leave_32 : decode cX10_leave 32 = .ok (.if_icmp .ne 5, 3) := dq daX10_leave_40_0 16 rfl
theorem dX10_leave_37 : decode cX10_leave 37 = .ok (.aload_n 0, 1) := dq daX10_leave_40_0 17 rfl
theorem dX10_leave_38 : decode cX10_leave 38 = .ok (.getfield 10, 3) := dq daX10_leave_40_0 18 rfl
theorem dX10_leave_41 : decode cX10_leave 41 = .ok (.getfield 107, 3) := dq daX10_leave_40_0 19 rfl
theorem dX10_leave_44 : decode cX10_leave 44 = .ok (.iload_n 1, 1) := dq daX10_leave_40_0 20 rfl
theorem dX10_leave_45 : decode cX10_leave 45 = .ok (.iconst 1, 1) := dq daX10_leave_40_0 21 rfl
theorem dX10_leave_46 : decode cX10_leave 46 = .ok (.bipush 12, 2) := dq daX10_leave_40_0 22 rfl
theorem dX10_leave_48 : decode cX10_leave 48 = .ok (.invokevirtual 93, 3) := dq daX10_leave_40_0 23 rfl
theorem dX10_leave_51 : decode cX10_leave 51 = .ok (.aload_n 0, 1) := dq daX10_leave_40_0 24 rfl
theorem dX10_leave_52 : decode cX10_leave 52 = .ok (.getfield 10, 3) := dq daX10_leave_40_0 25 rfl
theorem dX10_leave_55 : decode cX10_leave 55 = .ok (.getfield 107, 3) := dq daX10_leave_40_0 26 rfl
theorem dX10_leave_58 : decode cX10_leave 58 = .ok (.iload_n 1, 1) := dq daX10_leave_40_0 27 rfl
theorem dX10_leave_59 : decode cX10_leave 59 = .ok (.iconst 2, 1) := dq daX10_leave_40_0 28 rfl
theorem dX10_leave_60 : decode cX10_leave 60 = .ok (.iload_n 2, 1) := dq daX10_leave_40_0 29 rfl
theorem dX10_leave_61 : decode cX10_leave 61 = .ok (.invokevirtual 93, 3) := dq daX10_leave_40_0 30 rfl
theorem dX10_leave_64 : decode cX10_leave 64 = .ok (.aload_n 0, 1) := dq daX10_leave_40_0 31 rfl
def dtX10_leave_40_1 : List (Nat × Jvm.ClassFile.Instr × Nat) := [(65, .getfield 10, 3), (68, .getfield 107, 3), (71, .iload_n 1, 1), (72, .iconst 3, 1), (73, .iconst 0, 1), (74, .invokevirtual 93, 3), (77, .aload_n 0, 1), (78, .getfield 10, 3), (81, .getfield 107, 3), (84, .iload_n 1, 1), (85, .iconst 4, 1), (86, .iload 4, 2), (88, .invokevirtual 93, 3), (91, .iconst 1, 1), (35, .iconst 0, 1), (36, .ireturn, 1), (14, .iconst (-1), 1), (15, .goto 12, 3), (92, .ireturn, 1)]
theorem daX10_leave_40_1 : dtX10_leave_40_1.all (dqd cX10_leave) = true := by decide +kernel
theorem dX10_leave_65 : decode cX10_leave 65 = .ok (.getfield 10, 3) := dq daX10_leave_40_1 0 rfl
theorem dX10_leave_68 : decode cX10_leave 68 = .ok (.getfield 107, 3) := dq daX10_leave_40_1 1 rfl
theorem dX10_leave_71 : decode cX10_leave 71 = .ok (.iload_n 1, 1) := dq daX10_leave_40_1 2 rfl
theorem dX10_leave_72 : decode cX10_leave 72 = .ok (.iconst 3, 1) := dq daX10_leave_40_1 3 rfl
theorem dX10_leave_73 : decode cX10_leave 73 = .ok (.iconst 0, 1) := dq daX10_leave_40_1 4 rfl
theorem dX10_leave_74 : decode cX10_leave 74 = .ok (.invokevirtual 93, 3) := dq daX10_leave_40_1 5 rfl
theorem dX10_leave_77 : decode cX10_leave 77 = .ok (.aload_n 0, 1) := dq daX10_leave_40_1 6 rfl
theorem dX10_leave_78 : decode cX10_leave 78 = .ok (.getfield 10, 3) := dq daX10_leave_40_1 7 rfl
theorem dX10_leave_81 : decode cX10_leave 81 = .ok (.getfield 107, 3) := dq daX10_leave_40_1 8 rfl
theorem dX10_leave_84 : decode cX10_leave 84 = .ok (.iload_n 1, 1) := dq daX10_leave_40_1 9 rfl
theorem dX10_leave_85 : decode cX10_leave 85 = .ok (.iconst 4, 1) := dq daX10_leave_40_1 10 rfl
theorem dX10_leave_86 : decode cX10_leave 86 = .ok (.iload 4, 2) := dq daX10_leave_40_1 11 rfl
theorem dX10_leave_88 : decode cX10_leave 88 = .ok (.invokevirtual 93, 3) := dq daX10_leave_40_1 12 rfl
theorem dX10_leave_91 : decode cX10_leave 91 = .ok (.iconst 1, 1) := dq daX10_leave_40_1 13 rfl
theorem dX10_leave_35 : decode cX10_leave 35 = .ok (.iconst 0, 1) := dq daX10_leave_40_1 14 rfl
theorem dX10_leave_36 : decode cX10_leave 36 = .ok (.ireturn, 1) := dq daX10_leave_40_1 15 rfl
theorem dX10_leave_14 : decode cX10_leave 14 = .ok (.iconst (-1), 1) := dq daX10_leave_40_1 16 rfl
theorem dX10_leave_15 : decode cX10_leave 15 = .ok (.goto 12, 3) := dq daX10_leave_40_1 17 rfl
theorem dX10_leave_92 : decode cX10_leave 92 = .ok (.ireturn, 1) := dq daX10_leave_40_1 18 rfl
def dtX10_at_40_0 : List (Nat × Jvm.ClassFile.Instr × Nat) := [(0, .aload_n 0, 1), (1, .getfield 10, 3), (4, .getfield 83, 3), (7, .iload_n 1, 1), (8, .invokevirtual 97, 3), (11, .ifCond .ne 5, 3), (16, .iload_n 2, 1), (17, .iconst 3, 1), (18, .invokestatic 79, 3), (21, .ifCond .eq 16, 3), (37, .iload_n 2, 1), (38, .iconst 4, 1), (39, .if_icmp .ne 34, 3), (73, .iload_n 2, 1), (74, .iconst 5, 1), (75, .if_icmp .ne 14, 3), (89, .iconst (-1), 1), (90, .ireturn, 1), (78, .aload_n 0, 1), (79, .getfield 10, 3), (82, .iload_n 1, 1), (83, .invokevirtual 169, 3), (86, .goto 4, 3), (42, .aload_n 0, 1), (43, .getfield 10, 3), (46, .iload_n 1, 1), (47, .aload_n 0, 1), (48, .getfield 10, 3), (51, .aload_n 0, 1), (52, .getfield 10, 3), (55, .getfield 141, 3), (58, .invokevirtual 144, 3)]
theorem daX10_at_40_0 : dtX10_at_40_0.all (dqd cX10_at) = true := by decide +kernel
theorem dX10_at_0 : decode cX10_at 0 = .ok (.aload_n 0, 1) := dq daX10_at_40_0 0 rfl
theorem dX10_at_1 : decode cX10_at 1 = .ok (.getfield 10, 3) := dq daX10_at_40_0 1 rfl
theorem dX10_at_4 : decode cX10_at 4 = .ok (.getfield 83, 3) := dq daX10_at_40_0 2 rfl
theorem dX10_at_7 : decode cX10_at 7 = .ok (.iload_n 1, 1) := dq daX10_at_40_0 3 rfl
theorem dX10_at_8 : decode cX10_at 8 = .ok (.invokevirtual 97, 3) := dq daX10_at_40_0 4 rfl
theorem dX10_at_11 : decode cX10_at 11 = .ok (.ifCond .ne 5, 3) := dq daX10_at_40_0 5 rfl
theorem dX10_at_16 : decode cX10_at 16 = .ok (.iload_n 2, 1) := dq daX10_at_40_0 6 rfl
theorem dX10_at_17 : decode cX10_at 17 = .ok (.iconst 3, 1) := dq daX10_at_40_0 7 rfl
theorem dX10_at_18 : decode cX10_at 18 = .ok (.invokestatic 79, 3) := dq daX10_at_40_0 8 rfl
theorem dX10_at_21 : decode cX10_at 21 = .ok (.ifCond .eq 16, 3) := dq daX10_at_40_0 9 rfl
theorem dX10_at_37 : decode cX10_at 37 = .ok (.iload_n 2, 1) := dq daX10_at_40_0 10 rfl
theorem dX10_at_38 : decode cX10_at 38 = .ok (.iconst 4, 1) := dq daX10_at_40_0 11 rfl
theorem dX10_at_39 : decode cX10_at 39 = .ok (.if_icmp .ne 34, 3) := dq daX10_at_40_0 12 rfl
theorem dX10_at_73 : decode cX10_at 73 = .ok (.iload_n 2, 1) := dq daX10_at_40_0 13 rfl
theorem dX10_at_74 : decode cX10_at 74 = .ok (.iconst 5, 1) := dq daX10_at_40_0 14 rfl
theorem dX10_at_75 : decode cX10_at 75 = .ok (.if_icmp .ne 14, 3) := dq daX10_at_40_0 15 rfl
theorem dX10_at_89 : decode cX10_at 89 = .ok (.iconst (-1), 1) := dq daX10_at_40_0 16 rfl
theorem dX10_at_90 : decode cX10_at 90 = .ok (.ireturn, 1) := dq daX10_at_40_0 17 rfl
theorem dX10_at_78 : decode cX10_at 78 = .ok (.aload_n 0, 1) := dq daX10_at_40_0 18 rfl
theorem dX10_at_79 : decode cX10_at 79 = .ok (.getfield 10, 3) := dq daX10_at_40_0 19 rfl
theorem dX10_at_82 : decode cX10_at 82 = .ok (.iload_n 1, 1) := dq daX10_at_40_0 20 rfl
theorem dX10_at_83 : decode cX10_at 83 = .ok (.invokevirtual 169, 3) := dq daX10_at_40_0 21 rfl
theorem dX10_at_86 : decode cX10_at 86 = .ok (.goto 4, 3) := dq daX10_at_40_0 22 rfl
theorem dX10_at_42 : decode cX10_at 42 = .ok (.aload_n 0, 1) := dq daX10_at_40_0 23 rfl
theorem dX10_at_43 : decode cX10_at 43 = .ok (.getfield 10, 3) := dq daX10_at_40_0 24 rfl
theorem dX10_at_46 : decode cX10_at 46 = .ok (.iload_n 1, 1) := dq daX10_at_40_0 25 rfl
theorem dX10_at_47 : decode cX10_at 47 = .ok (.aload_n 0, 1) := dq daX10_at_40_0 26 rfl
theorem dX10_at_48 : decode cX10_at 48 = .ok (.getfield 10, 3) := dq daX10_at_40_0 27 rfl
theorem dX10_at_51 : decode cX10_at 51 = .ok (.aload_n 0, 1) := dq daX10_at_40_0 28 rfl
theorem dX10_at_52 : decode cX10_at 52 = .ok (.getfield 10, 3) := dq daX10_at_40_0 29 rfl
theorem dX10_at_55 : decode cX10_at 55 = .ok (.getfield 141, 3) := dq daX10_at_40_0 30 rfl
theorem dX10_at_58 : decode cX10_at 58 = .ok (.invokevirtual 144, 3) := dq daX10_at_40_0 31 rfl
def dtX10_at_40_1 : List (Nat × Jvm.ClassFile.Instr × Nat) := [(61, .invokevirtual 147, 3), (64, .ifCond .eq 7, 3), (71, .iconst 0, 1), (72, .ireturn, 1), (67, .iconst 1, 1), (68, .goto 4, 3), (24, .aload_n 0, 1), (25, .getfield 10, 3), (28, .getfield 83, 3), (31, .iload_n 1, 1), (32, .iload_n 2, 1), (33, .invokevirtual 150, 3), (36, .ireturn, 1), (14, .iconst (-1), 1), (15, .ireturn, 1)]
theorem daX10_at_40_1 : dtX10_at_40_1.all (dqd cX10_at) = true := by decide +kernel
theorem dX10_at_61 : decode cX10_at 61 = .ok (.invokevirtual 147, 3) := dq daX10_at_40_1 0 rfl
theorem dX10_at_64 : decode cX10_at 64 = .ok (.ifCond .eq 7, 3) := dq daX10_at_40_1 1 rfl
theorem dX10_at_71 : decode cX10_at 71 = .ok (.iconst 0, 1) := dq daX10_at_40_1 2 rfl
theorem dX10_at_72 : decode cX10_at 72 = .ok (.ireturn, 1) := dq daX10_at_40_1 3 rfl
theorem dX10_at_67 : decode cX10_at 67 = .ok (.iconst 1, 1) := dq daX10_at_40_1 4 rfl
theorem dX10_at_68 : decode cX10_at 68 = .ok (.goto 4, 3) := dq daX10_at_40_1 5 rfl
theorem dX10_at_24 : decode cX10_at 24 = .ok (.aload_n 0, 1) := dq daX10_at_40_1 6 rfl
theorem dX10_at_25 : decode cX10_at 25 = .ok (.getfield 10, 3) := dq daX10_at_40_1 7 rfl
theorem dX10_at_28 : decode cX10_at 28 = .ok (.getfield 83, 3) := dq daX10_at_40_1 8 rfl
theorem dX10_at_31 : decode cX10_at 31 = .ok (.iload_n 1, 1) := dq daX10_at_40_1 9 rfl
theorem dX10_at_32 : decode cX10_at 32 = .ok (.iload_n 2, 1) := dq daX10_at_40_1 10 rfl
theorem dX10_at_33 : decode cX10_at 33 = .ok (.invokevirtual 150, 3) := dq daX10_at_40_1 11 rfl
theorem dX10_at_36 : decode cX10_at 36 = .ok (.ireturn, 1) := dq daX10_at_40_1 12 rfl
theorem dX10_at_14 : decode cX10_at 14 = .ok (.iconst (-1), 1) := dq daX10_at_40_1 13 rfl
theorem dX10_at_15 : decode cX10_at 15 = .ok (.ireturn, 1) := dq daX10_at_40_1 14 rfl
def dtX10_of_40_0 : List (Nat × Jvm.ClassFile.Instr × Nat) := [(0, .aload_n 0, 1), (1, .getfield 10, 3), (4, .getfield 107, 3), (7, .iload_n 1, 1), (8, .invokevirtual 97, 3), (11, .ifCond .eq 12, 3), (23, .bipush (-2), 2), (25, .ireturn, 1), (14, .iload_n 2, 1), (15, .bipush 8, 2), (17, .invokestatic 79, 3), (20, .ifCond .ne 6, 3), (26, .aload_n 0, 1), (27, .getfield 10, 3), (30, .getfield 107, 3), (33, .iload_n 1, 1), (34, .iload_n 2, 1), (35, .invokevirtual 150, 3), (38, .ireturn, 1)]
theorem daX10_of_40_0 : dtX10_of_40_0.all (dqd cX10_of) = true := by decide +kernel
theorem dX10_of_0 : decode cX10_of 0 = .ok (.aload_n 0, 1) := dq daX10_of_40_0 0 rfl
theorem dX10_of_1 : decode cX10_of 1 = .ok (.getfield 10, 3) := dq daX10_of_40_0 1 rfl
theorem dX10_of_4 : decode cX10_of 4 = .ok (.getfield 107, 3) := dq daX10_of_40_0 2 rfl
theorem dX10_of_7 : decode cX10_of 7 = .ok (.iload_n 1, 1) := dq daX10_of_40_0 3 rfl
theorem dX10_of_8 : decode cX10_of 8 = .ok (.invokevirtual 97, 3) := dq daX10_of_40_0 4 rfl
theorem dX10_of_11 : decode cX10_of 11 = .ok (.ifCond .eq 12, 3) := dq daX10_of_40_0 5 rfl
theorem dX10_of_23 : decode cX10_of 23 = .ok (.bipush (-2), 2) := dq daX10_of_40_0 6 rfl
theorem dX10_of_25 : decode cX10_of 25 = .ok (.ireturn, 1) := dq daX10_of_40_0 7 rfl
theorem dX10_of_14 : decode cX10_of 14 = .ok (.iload_n 2, 1) := dq daX10_of_40_0 8 rfl
theorem dX10_of_15 : decode cX10_of 15 = .ok (.bipush 8, 2) := dq daX10_of_40_0 9 rfl
theorem dX10_of_17 : decode cX10_of 17 = .ok (.invokestatic 79, 3) := dq daX10_of_40_0 10 rfl
theorem dX10_of_20 : decode cX10_of 20 = .ok (.ifCond .ne 6, 3) := dq daX10_of_40_0 11 rfl
theorem dX10_of_26 : decode cX10_of 26 = .ok (.aload_n 0, 1) := dq daX10_of_40_0 12 rfl
theorem dX10_of_27 : decode cX10_of 27 = .ok (.getfield 10, 3) := dq daX10_of_40_0 13 rfl
theorem dX10_of_30 : decode cX10_of 30 = .ok (.getfield 107, 3) := dq daX10_of_40_0 14 rfl
theorem dX10_of_33 : decode cX10_of 33 = .ok (.iload_n 1, 1) := dq daX10_of_40_0 15 rfl
theorem dX10_of_34 : decode cX10_of 34 = .ok (.iload_n 2, 1) := dq daX10_of_40_0 16 rfl
theorem dX10_of_35 : decode cX10_of 35 = .ok (.invokevirtual 150, 3) := dq daX10_of_40_0 17 rfl
theorem dX10_of_38 : decode cX10_of 38 = .ok (.ireturn, 1) := dq daX10_of_40_0 18 rfl
def dtX10_lay_40_0 : List (Nat × Jvm.ClassFile.Instr × Nat) := [(0, .aload_n 0, 1), (1, .getfield 10, 3), (4, .getfield 176, 3), (7, .iconst (-1), 1), (8, .if_icmp .ne 7, 3), (15, .aload_n 0, 1), (16, .getfield 10, 3), (19, .iload_n 1, 1), (20, .aload_n 0, 1), (21, .getfield 10, 3), (24, .invokevirtual 179, 3), (27, .invokevirtual 158, 3), (30, .istore_n 2, 1), (31, .iload_n 2, 1), (32, .iconst (-1), 1), (33, .if_icmp .eq 14, 3), (47, .iconst (-1), 1), (48, .ireturn, 1), (36, .aload_n 0, 1), (37, .getfield 10, 3), (40, .iload_n 2, 1), (41, .invokevirtual 182, 3), (44, .ifCond .eq 5, 3), (49, .aload_n 0, 1), (50, .getfield 10, 3), (53, .getfield 185, 3), (56, .invokevirtual 87, 3), (59, .istore_n 3, 1), (60, .iload_n 3, 1), (61, .iconst (-1), 1), (62, .if_icmp .ne 5, 3), (67, .aload_n 0, 1)]
theorem daX10_lay_40_0 : dtX10_lay_40_0.all (dqd cX10_lay) = true := by decide +kernel
theorem dX10_lay_0 : decode cX10_lay 0 = .ok (.aload_n 0, 1) := dq daX10_lay_40_0 0 rfl
theorem dX10_lay_1 : decode cX10_lay 1 = .ok (.getfield 10, 3) := dq daX10_lay_40_0 1 rfl
theorem dX10_lay_4 : decode cX10_lay 4 = .ok (.getfield 176, 3) := dq daX10_lay_40_0 2 rfl
theorem dX10_lay_7 : decode cX10_lay 7 = .ok (.iconst (-1), 1) := dq daX10_lay_40_0 3 rfl
theorem dX10_lay_8 : decode cX10_lay 8 = .ok (.if_icmp .ne 7, 3) := dq daX10_lay_40_0 4 rfl
theorem dX10_lay_15 : decode cX10_lay 15 = .ok (.aload_n 0, 1) := dq daX10_lay_40_0 5 rfl
theorem dX10_lay_16 : decode cX10_lay 16 = .ok (.getfield 10, 3) := dq daX10_lay_40_0 6 rfl
theorem dX10_lay_19 : decode cX10_lay 19 = .ok (.iload_n 1, 1) := dq daX10_lay_40_0 7 rfl
theorem dX10_lay_20 : decode cX10_lay 20 = .ok (.aload_n 0, 1) := dq daX10_lay_40_0 8 rfl
theorem dX10_lay_21 : decode cX10_lay 21 = .ok (.getfield 10, 3) := dq daX10_lay_40_0 9 rfl
theorem dX10_lay_24 : decode cX10_lay 24 = .ok (.invokevirtual 179, 3) := dq daX10_lay_40_0 10 rfl
theorem dX10_lay_27 : decode cX10_lay 27 = .ok (.invokevirtual 158, 3) := dq daX10_lay_40_0 11 rfl
theorem dX10_lay_30 : decode cX10_lay 30 = .ok (.istore_n 2, 1) := dq daX10_lay_40_0 12 rfl
theorem dX10_lay_31 : decode cX10_lay 31 = .ok (.iload_n 2, 1) := dq daX10_lay_40_0 13 rfl
theorem dX10_lay_32 : decode cX10_lay 32 = .ok (.iconst (-1), 1) := dq daX10_lay_40_0 14 rfl
theorem dX10_lay_33 : decode cX10_lay 33 = .ok (.if_icmp .eq 14, 3) := dq daX10_lay_40_0 15 rfl
theorem dX10_lay_47 : decode cX10_lay 47 = .ok (.iconst (-1), 1) := dq daX10_lay_40_0 16 rfl
theorem dX10_lay_48 : decode cX10_lay 48 = .ok (.ireturn, 1) := dq daX10_lay_40_0 17 rfl
theorem dX10_lay_36 : decode cX10_lay 36 = .ok (.aload_n 0, 1) := dq daX10_lay_40_0 18 rfl
theorem dX10_lay_37 : decode cX10_lay 37 = .ok (.getfield 10, 3) := dq daX10_lay_40_0 19 rfl
theorem dX10_lay_40 : decode cX10_lay 40 = .ok (.iload_n 2, 1) := dq daX10_lay_40_0 20 rfl
theorem dX10_lay_41 : decode cX10_lay 41 = .ok (.invokevirtual 182, 3) := dq daX10_lay_40_0 21 rfl
theorem dX10_lay_44 : decode cX10_lay 44 = .ok (.ifCond .eq 5, 3) := dq daX10_lay_40_0 22 rfl
theorem dX10_lay_49 : decode cX10_lay 49 = .ok (.aload_n 0, 1) := dq daX10_lay_40_0 23 rfl
theorem dX10_lay_50 : decode cX10_lay 50 = .ok (.getfield 10, 3) := dq daX10_lay_40_0 24 rfl
theorem dX10_lay_53 : decode cX10_lay 53 = .ok (.getfield 185, 3) := dq daX10_lay_40_0 25 rfl
theorem dX10_lay_56 : decode cX10_lay 56 = .ok (.invokevirtual 87, 3) := dq daX10_lay_40_0 26 rfl
theorem dX10_lay_59 : decode cX10_lay 59 = .ok (.istore_n 3, 1) := dq daX10_lay_40_0 27 rfl
theorem dX10_lay_60 : decode cX10_lay 60 = .ok (.iload_n 3, 1) := dq daX10_lay_40_0 28 rfl
theorem dX10_lay_61 : decode cX10_lay 61 = .ok (.iconst (-1), 1) := dq daX10_lay_40_0 29 rfl
theorem dX10_lay_62 : decode cX10_lay 62 = .ok (.if_icmp .ne 5, 3) := dq daX10_lay_40_0 30 rfl
theorem dX10_lay_67 : decode cX10_lay 67 = .ok (.aload_n 0, 1) := dq daX10_lay_40_0 31 rfl
def dtX10_lay_40_1 : List (Nat × Jvm.ClassFile.Instr × Nat) := [(68, .getfield 10, 3), (71, .getfield 185, 3), (74, .iload_n 3, 1), (75, .iconst 0, 1), (76, .iload_n 1, 1), (77, .invokevirtual 93, 3), (80, .iload_n 3, 1), (81, .iconst 1, 1), (82, .iadd, 1), (65, .iconst (-1), 1), (11, .iconst (-1), 1), (12, .goto 18, 3), (83, .ireturn, 1), (66, .ireturn, 1)]
theorem daX10_lay_40_1 : dtX10_lay_40_1.all (dqd cX10_lay) = true := by decide +kernel
theorem dX10_lay_68 : decode cX10_lay 68 = .ok (.getfield 10, 3) := dq daX10_lay_40_1 0 rfl
theorem dX10_lay_71 : decode cX10_lay 71 = .ok (.getfield 185, 3) := dq daX10_lay_40_1 1 rfl
theorem dX10_lay_74 : decode cX10_lay 74 = .ok (.iload_n 3, 1) := dq daX10_lay_40_1 2 rfl
theorem dX10_lay_75 : decode cX10_lay 75 = .ok (.iconst 0, 1) := dq daX10_lay_40_1 3 rfl
theorem dX10_lay_76 : decode cX10_lay 76 = .ok (.iload_n 1, 1) := dq daX10_lay_40_1 4 rfl
theorem dX10_lay_77 : decode cX10_lay 77 = .ok (.invokevirtual 93, 3) := dq daX10_lay_40_1 5 rfl
theorem dX10_lay_80 : decode cX10_lay 80 = .ok (.iload_n 3, 1) := dq daX10_lay_40_1 6 rfl
theorem dX10_lay_81 : decode cX10_lay 81 = .ok (.iconst 1, 1) := dq daX10_lay_40_1 7 rfl
theorem dX10_lay_82 : decode cX10_lay 82 = .ok (.iadd, 1) := dq daX10_lay_40_1 8 rfl
theorem dX10_lay_65 : decode cX10_lay 65 = .ok (.iconst (-1), 1) := dq daX10_lay_40_1 9 rfl
theorem dX10_lay_11 : decode cX10_lay 11 = .ok (.iconst (-1), 1) := dq daX10_lay_40_1 10 rfl
theorem dX10_lay_12 : decode cX10_lay 12 = .ok (.goto 18, 3) := dq daX10_lay_40_1 11 rfl
theorem dX10_lay_83 : decode cX10_lay 83 = .ok (.ireturn, 1) := dq daX10_lay_40_1 12 rfl
theorem dX10_lay_66 : decode cX10_lay 66 = .ok (.ireturn, 1) := dq daX10_lay_40_1 13 rfl
def dtX10_soonest_40_0 : List (Nat × Jvm.ClassFile.Instr × Nat) := [(0, .aload_n 0, 1), (1, .getfield 10, 3), (4, .getfield 83, 3), (7, .iload_n 1, 1), (8, .invokevirtual 97, 3), (11, .ifCond .eq 17, 3), (28, .iconst (-1), 1), (29, .ireturn, 1), (14, .aload_n 0, 1), (15, .getfield 10, 3), (18, .getfield 83, 3), (21, .iload_n 2, 1), (22, .invokevirtual 97, 3), (25, .ifCond .ne 5, 3), (30, .aload_n 0, 1), (31, .getfield 61, 3), (34, .iload_n 1, 1), (35, .iconst (-1), 1), (36, .iconst 1, 1), (37, .invokevirtual 229, 3), (40, .aload_n 0, 1), (41, .getfield 61, 3), (44, .iload_n 2, 1), (45, .invokevirtual 233, 3), (48, .istore_n 3, 1), (49, .iload_n 3, 1), (50, .ldc 236, 2), (52, .if_icmp .ge 7, 3), (59, .bipush (-2), 2), (55, .iload_n 3, 1), (56, .goto 5, 3), (61, .ireturn, 1)]
theorem daX10_soonest_40_0 : dtX10_soonest_40_0.all (dqd cX10_soonest) = true := by decide +kernel
theorem dX10_soonest_0 : decode cX10_soonest 0 = .ok (.aload_n 0, 1) := dq daX10_soonest_40_0 0 rfl
theorem dX10_soonest_1 : decode cX10_soonest 1 = .ok (.getfield 10, 3) := dq daX10_soonest_40_0 1 rfl
theorem dX10_soonest_4 : decode cX10_soonest 4 = .ok (.getfield 83, 3) := dq daX10_soonest_40_0 2 rfl
theorem dX10_soonest_7 : decode cX10_soonest 7 = .ok (.iload_n 1, 1) := dq daX10_soonest_40_0 3 rfl
theorem dX10_soonest_8 : decode cX10_soonest 8 = .ok (.invokevirtual 97, 3) := dq daX10_soonest_40_0 4 rfl
theorem dX10_soonest_11 : decode cX10_soonest 11 = .ok (.ifCond .eq 17, 3) := dq daX10_soonest_40_0 5 rfl
theorem dX10_soonest_28 : decode cX10_soonest 28 = .ok (.iconst (-1), 1) := dq daX10_soonest_40_0 6 rfl
theorem dX10_soonest_29 : decode cX10_soonest 29 = .ok (.ireturn, 1) := dq daX10_soonest_40_0 7 rfl
theorem dX10_soonest_14 : decode cX10_soonest 14 = .ok (.aload_n 0, 1) := dq daX10_soonest_40_0 8 rfl
theorem dX10_soonest_15 : decode cX10_soonest 15 = .ok (.getfield 10, 3) := dq daX10_soonest_40_0 9 rfl
theorem dX10_soonest_18 : decode cX10_soonest 18 = .ok (.getfield 83, 3) := dq daX10_soonest_40_0 10 rfl
theorem dX10_soonest_21 : decode cX10_soonest 21 = .ok (.iload_n 2, 1) := dq daX10_soonest_40_0 11 rfl
theorem dX10_soonest_22 : decode cX10_soonest 22 = .ok (.invokevirtual 97, 3) := dq daX10_soonest_40_0 12 rfl
theorem dX10_soonest_25 : decode cX10_soonest 25 = .ok (.ifCond .ne 5, 3) := dq daX10_soonest_40_0 13 rfl
theorem dX10_soonest_30 : decode cX10_soonest 30 = .ok (.aload_n 0, 1) := dq daX10_soonest_40_0 14 rfl
theorem dX10_soonest_31 : decode cX10_soonest 31 = .ok (.getfield 61, 3) := dq daX10_soonest_40_0 15 rfl
theorem dX10_soonest_34 : decode cX10_soonest 34 = .ok (.iload_n 1, 1) := dq daX10_soonest_40_0 16 rfl
theorem dX10_soonest_35 : decode cX10_soonest 35 = .ok (.iconst (-1), 1) := dq daX10_soonest_40_0 17 rfl
theorem dX10_soonest_36 : decode cX10_soonest 36 = .ok (.iconst 1, 1) := dq daX10_soonest_40_0 18 rfl
theorem dX10_soonest_37 : decode cX10_soonest 37 = .ok (.invokevirtual 229, 3) := dq daX10_soonest_40_0 19 rfl
theorem dX10_soonest_40 : decode cX10_soonest 40 = .ok (.aload_n 0, 1) := dq daX10_soonest_40_0 20 rfl
theorem dX10_soonest_41 : decode cX10_soonest 41 = .ok (.getfield 61, 3) := dq daX10_soonest_40_0 21 rfl
theorem dX10_soonest_44 : decode cX10_soonest 44 = .ok (.iload_n 2, 1) := dq daX10_soonest_40_0 22 rfl
theorem dX10_soonest_45 : decode cX10_soonest 45 = .ok (.invokevirtual 233, 3) := dq daX10_soonest_40_0 23 rfl
theorem dX10_soonest_48 : decode cX10_soonest 48 = .ok (.istore_n 3, 1) := dq daX10_soonest_40_0 24 rfl
theorem dX10_soonest_49 : decode cX10_soonest 49 = .ok (.iload_n 3, 1) := dq daX10_soonest_40_0 25 rfl
theorem dX10_soonest_50 : decode cX10_soonest 50 = .ok (.ldc 236, 2) := dq daX10_soonest_40_0 26 rfl
theorem dX10_soonest_52 : decode cX10_soonest 52 = .ok (.if_icmp .ge 7, 3) := dq daX10_soonest_40_0 27 rfl
theorem dX10_soonest_59 : decode cX10_soonest 59 = .ok (.bipush (-2), 2) := dq daX10_soonest_40_0 28 rfl
theorem dX10_soonest_55 : decode cX10_soonest 55 = .ok (.iload_n 3, 1) := dq daX10_soonest_40_0 29 rfl
theorem dX10_soonest_56 : decode cX10_soonest 56 = .ok (.goto 5, 3) := dq daX10_soonest_40_0 30 rfl
theorem dX10_soonest_61 : decode cX10_soonest 61 = .ok (.ireturn, 1) := dq daX10_soonest_40_0 31 rfl
def dtX10_nearest_40_0 : List (Nat × Jvm.ClassFile.Instr × Nat) := [(0, .aload_n 0, 1), (1, .getfield 10, 3), (4, .getfield 83, 3), (7, .iload_n 1, 1), (8, .invokevirtual 97, 3), (11, .ifCond .eq 12, 3), (23, .iconst (-1), 1), (24, .ireturn, 1), (14, .iload_n 2, 1), (15, .bipush 11, 2), (17, .invokestatic 79, 3), (20, .ifCond .ne 5, 3), (25, .aload_n 0, 1), (26, .getfield 61, 3), (29, .iload_n 1, 1), (30, .iconst (-1), 1), (31, .iconst 1, 1), (32, .invokevirtual 229, 3), (35, .bipush (-2), 2), (37, .istore_n 3, 1), (38, .ldc 236, 2), (40, .istore 4, 2), (42, .iconst 0, 1), (43, .istore 5, 2), (45, .iload 5, 2), (47, .aload_n 0, 1), (48, .getfield 10, 3), (51, .getfield 83, 3), (54, .getfield 188, 3), (57, .if_icmp .ge 50, 3), (60, .aload_n 0, 1), (61, .getfield 10, 3)]
theorem daX10_nearest_40_0 : dtX10_nearest_40_0.all (dqd cX10_nearest) = true := by decide +kernel
theorem dX10_nearest_0 : decode cX10_nearest 0 = .ok (.aload_n 0, 1) := dq daX10_nearest_40_0 0 rfl
theorem dX10_nearest_1 : decode cX10_nearest 1 = .ok (.getfield 10, 3) := dq daX10_nearest_40_0 1 rfl
theorem dX10_nearest_4 : decode cX10_nearest 4 = .ok (.getfield 83, 3) := dq daX10_nearest_40_0 2 rfl
theorem dX10_nearest_7 : decode cX10_nearest 7 = .ok (.iload_n 1, 1) := dq daX10_nearest_40_0 3 rfl
theorem dX10_nearest_8 : decode cX10_nearest 8 = .ok (.invokevirtual 97, 3) := dq daX10_nearest_40_0 4 rfl
theorem dX10_nearest_11 : decode cX10_nearest 11 = .ok (.ifCond .eq 12, 3) := dq daX10_nearest_40_0 5 rfl
theorem dX10_nearest_23 : decode cX10_nearest 23 = .ok (.iconst (-1), 1) := dq daX10_nearest_40_0 6 rfl
theorem dX10_nearest_24 : decode cX10_nearest 24 = .ok (.ireturn, 1) := dq daX10_nearest_40_0 7 rfl
theorem dX10_nearest_14 : decode cX10_nearest 14 = .ok (.iload_n 2, 1) := dq daX10_nearest_40_0 8 rfl
theorem dX10_nearest_15 : decode cX10_nearest 15 = .ok (.bipush 11, 2) := dq daX10_nearest_40_0 9 rfl
theorem dX10_nearest_17 : decode cX10_nearest 17 = .ok (.invokestatic 79, 3) := dq daX10_nearest_40_0 10 rfl
theorem dX10_nearest_20 : decode cX10_nearest 20 = .ok (.ifCond .ne 5, 3) := dq daX10_nearest_40_0 11 rfl
theorem dX10_nearest_25 : decode cX10_nearest 25 = .ok (.aload_n 0, 1) := dq daX10_nearest_40_0 12 rfl
theorem dX10_nearest_26 : decode cX10_nearest 26 = .ok (.getfield 61, 3) := dq daX10_nearest_40_0 13 rfl
theorem dX10_nearest_29 : decode cX10_nearest 29 = .ok (.iload_n 1, 1) := dq daX10_nearest_40_0 14 rfl
theorem dX10_nearest_30 : decode cX10_nearest 30 = .ok (.iconst (-1), 1) := dq daX10_nearest_40_0 15 rfl
theorem dX10_nearest_31 : decode cX10_nearest 31 = .ok (.iconst 1, 1) := dq daX10_nearest_40_0 16 rfl
theorem dX10_nearest_32 : decode cX10_nearest 32 = .ok (.invokevirtual 229, 3) := dq daX10_nearest_40_0 17 rfl
theorem dX10_nearest_35 : decode cX10_nearest 35 = .ok (.bipush (-2), 2) := dq daX10_nearest_40_0 18 rfl
theorem dX10_nearest_37 : decode cX10_nearest 37 = .ok (.istore_n 3, 1) := dq daX10_nearest_40_0 19 rfl
theorem dX10_nearest_38 : decode cX10_nearest 38 = .ok (.ldc 236, 2) := dq daX10_nearest_40_0 20 rfl
theorem dX10_nearest_40 : decode cX10_nearest 40 = .ok (.istore 4, 2) := dq daX10_nearest_40_0 21 rfl
theorem dX10_nearest_42 : decode cX10_nearest 42 = .ok (.iconst 0, 1) := dq daX10_nearest_40_0 22 rfl
theorem dX10_nearest_43 : decode cX10_nearest 43 = .ok (.istore 5, 2) := dq daX10_nearest_40_0 23 rfl
theorem dX10_nearest_45 : decode cX10_nearest 45 = .ok (.iload 5, 2) := dq daX10_nearest_40_0 24 rfl
theorem dX10_nearest_47 : decode cX10_nearest 47 = .ok (.aload_n 0, 1) := dq daX10_nearest_40_0 25 rfl
theorem dX10_nearest_48 : decode cX10_nearest 48 = .ok (.getfield 10, 3) := dq daX10_nearest_40_0 26 rfl
theorem dX10_nearest_51 : decode cX10_nearest 51 = .ok (.getfield 83, 3) := dq daX10_nearest_40_0 27 rfl
theorem dX10_nearest_54 : decode cX10_nearest 54 = .ok (.getfield 188, 3) := dq daX10_nearest_40_0 28 rfl
theorem dX10_nearest_57 : decode cX10_nearest 57 = .ok (.if_icmp .ge 50, 3) := dq daX10_nearest_40_0 29 rfl
theorem dX10_nearest_60 : decode cX10_nearest 60 = .ok (.aload_n 0, 1) := dq daX10_nearest_40_0 30 rfl
theorem dX10_nearest_61 : decode cX10_nearest 61 = .ok (.getfield 10, 3) := dq daX10_nearest_40_0 31 rfl
def dtX10_nearest_40_1 : List (Nat × Jvm.ClassFile.Instr × Nat) := [(64, .iload 5, 2), (66, .iload_n 2, 1), (67, .invokevirtual 147, 3), (70, .ifCond .eq 31, 3), (101, .iinc 5 1, 3), (104, .goto (-59), 3), (73, .aload_n 0, 1), (74, .getfield 61, 3), (77, .iload 5, 2), (79, .invokevirtual 233, 3), (82, .iload 4, 2), (84, .if_icmp .ge 17, 3), (87, .iload 5, 2), (89, .istore_n 3, 1), (90, .aload_n 0, 1), (91, .getfield 61, 3), (94, .iload 5, 2), (96, .invokevirtual 233, 3), (99, .istore 4, 2), (107, .iload_n 3, 1), (108, .ireturn, 1)]
theorem daX10_nearest_40_1 : dtX10_nearest_40_1.all (dqd cX10_nearest) = true := by decide +kernel
theorem dX10_nearest_64 : decode cX10_nearest 64 = .ok (.iload 5, 2) := dq daX10_nearest_40_1 0 rfl
theorem dX10_nearest_66 : decode cX10_nearest 66 = .ok (.iload_n 2, 1) := dq daX10_nearest_40_1 1 rfl
theorem dX10_nearest_67 : decode cX10_nearest 67 = .ok (.invokevirtual 147, 3) := dq daX10_nearest_40_1 2 rfl
theorem dX10_nearest_70 : decode cX10_nearest 70 = .ok (.ifCond .eq 31, 3) := dq daX10_nearest_40_1 3 rfl
theorem dX10_nearest_101 : decode cX10_nearest 101 = .ok (.iinc 5 1, 3) := dq daX10_nearest_40_1 4 rfl
theorem dX10_nearest_104 : decode cX10_nearest 104 = .ok (.goto (-59), 3) := dq daX10_nearest_40_1 5 rfl
theorem dX10_nearest_73 : decode cX10_nearest 73 = .ok (.aload_n 0, 1) := dq daX10_nearest_40_1 6 rfl
theorem dX10_nearest_74 : decode cX10_nearest 74 = .ok (.getfield 61, 3) := dq daX10_nearest_40_1 7 rfl
theorem dX10_nearest_77 : decode cX10_nearest 77 = .ok (.iload 5, 2) := dq daX10_nearest_40_1 8 rfl
theorem dX10_nearest_79 : decode cX10_nearest 79 = .ok (.invokevirtual 233, 3) := dq daX10_nearest_40_1 9 rfl
theorem dX10_nearest_82 : decode cX10_nearest 82 = .ok (.iload 4, 2) := dq daX10_nearest_40_1 10 rfl
theorem dX10_nearest_84 : decode cX10_nearest 84 = .ok (.if_icmp .ge 17, 3) := dq daX10_nearest_40_1 11 rfl
theorem dX10_nearest_87 : decode cX10_nearest 87 = .ok (.iload 5, 2) := dq daX10_nearest_40_1 12 rfl
theorem dX10_nearest_89 : decode cX10_nearest 89 = .ok (.istore_n 3, 1) := dq daX10_nearest_40_1 13 rfl
theorem dX10_nearest_90 : decode cX10_nearest 90 = .ok (.aload_n 0, 1) := dq daX10_nearest_40_1 14 rfl
theorem dX10_nearest_91 : decode cX10_nearest 91 = .ok (.getfield 61, 3) := dq daX10_nearest_40_1 15 rfl
theorem dX10_nearest_94 : decode cX10_nearest 94 = .ok (.iload 5, 2) := dq daX10_nearest_40_1 16 rfl
theorem dX10_nearest_96 : decode cX10_nearest 96 = .ok (.invokevirtual 233, 3) := dq daX10_nearest_40_1 17 rfl
theorem dX10_nearest_99 : decode cX10_nearest 99 = .ok (.istore 4, 2) := dq daX10_nearest_40_1 18 rfl
theorem dX10_nearest_107 : decode cX10_nearest 107 = .ok (.iload_n 3, 1) := dq daX10_nearest_40_1 19 rfl
theorem dX10_nearest_108 : decode cX10_nearest 108 = .ok (.ireturn, 1) := dq daX10_nearest_40_1 20 rfl
def dtX10_seed_40_0 : List (Nat × Jvm.ClassFile.Instr × Nat) := [(0, .iload_n 1, 1), (1, .ifCond .ge 5, 3), (6, .aload_n 0, 1), (7, .getfield 10, 3), (10, .getfield 118, 3), (13, .istore_n 2, 1), (14, .aload_n 0, 1), (15, .getfield 10, 3), (18, .iload_n 1, 1), (19, .putfield 118, 3), (22, .iload_n 2, 1), (4, .iconst (-1), 1), (5, .ireturn, 1), (23, .ireturn, 1)]
theorem daX10_seed_40_0 : dtX10_seed_40_0.all (dqd cX10_seed) = true := by decide +kernel
theorem dX10_seed_0 : decode cX10_seed 0 = .ok (.iload_n 1, 1) := dq daX10_seed_40_0 0 rfl
theorem dX10_seed_1 : decode cX10_seed 1 = .ok (.ifCond .ge 5, 3) := dq daX10_seed_40_0 1 rfl
theorem dX10_seed_6 : decode cX10_seed 6 = .ok (.aload_n 0, 1) := dq daX10_seed_40_0 2 rfl
theorem dX10_seed_7 : decode cX10_seed 7 = .ok (.getfield 10, 3) := dq daX10_seed_40_0 3 rfl
theorem dX10_seed_10 : decode cX10_seed 10 = .ok (.getfield 118, 3) := dq daX10_seed_40_0 4 rfl
theorem dX10_seed_13 : decode cX10_seed 13 = .ok (.istore_n 2, 1) := dq daX10_seed_40_0 5 rfl
theorem dX10_seed_14 : decode cX10_seed 14 = .ok (.aload_n 0, 1) := dq daX10_seed_40_0 6 rfl
theorem dX10_seed_15 : decode cX10_seed 15 = .ok (.getfield 10, 3) := dq daX10_seed_40_0 7 rfl
theorem dX10_seed_18 : decode cX10_seed 18 = .ok (.iload_n 1, 1) := dq daX10_seed_40_0 8 rfl
theorem dX10_seed_19 : decode cX10_seed 19 = .ok (.putfield 118, 3) := dq daX10_seed_40_0 9 rfl
theorem dX10_seed_22 : decode cX10_seed 22 = .ok (.iload_n 2, 1) := dq daX10_seed_40_0 10 rfl
theorem dX10_seed_4 : decode cX10_seed 4 = .ok (.iconst (-1), 1) := dq daX10_seed_40_0 11 rfl
theorem dX10_seed_5 : decode cX10_seed 5 = .ok (.ireturn, 1) := dq daX10_seed_40_0 12 rfl
theorem dX10_seed_23 : decode cX10_seed 23 = .ok (.ireturn, 1) := dq daX10_seed_40_0 13 rfl
def dtX10_count_40_0 : List (Nat × Jvm.ClassFile.Instr × Nat) := [(0, .iload_n 1, 1), (1, .tableswitch 181 0 10 #[59, 70, 81, 92, 97, 105, 120, 131, 142, 168, 176], 59), (182, .iconst (-1), 1), (183, .ireturn, 1), (60, .aload_n 0, 1), (61, .getfield 10, 3), (64, .getfield 83, 3), (67, .getfield 188, 3), (70, .ireturn, 1), (71, .aload_n 0, 1), (72, .getfield 10, 3), (75, .getfield 101, 3), (78, .getfield 188, 3), (81, .ireturn, 1), (82, .aload_n 0, 1), (83, .getfield 10, 3), (86, .getfield 107, 3), (89, .getfield 188, 3), (92, .ireturn, 1), (93, .aload_n 0, 1), (94, .getfield 128, 3), (97, .ireturn, 1), (98, .aload_n 0, 1), (99, .getfield 10, 3), (102, .getfield 141, 3), (105, .ireturn, 1), (106, .aload_n 0, 1), (107, .getfield 10, 3), (110, .aload_n 0, 1), (111, .getfield 10, 3), (114, .getfield 141, 3), (117, .invokevirtual 144, 3)]
theorem daX10_count_40_0 : dtX10_count_40_0.all (dqd cX10_count) = true := by decide +kernel
theorem dX10_count_0 : decode cX10_count 0 = .ok (.iload_n 1, 1) := dq daX10_count_40_0 0 rfl
theorem dX10_count_1 : decode cX10_count 1 = .ok (.tableswitch 181 0 10 #[59, 70, 81, 92, 97, 105, 120, 131, 142, 168, 176], 59) := dq daX10_count_40_0 1 rfl
theorem dX10_count_182 : decode cX10_count 182 = .ok (.iconst (-1), 1) := dq daX10_count_40_0 2 rfl
theorem dX10_count_183 : decode cX10_count 183 = .ok (.ireturn, 1) := dq daX10_count_40_0 3 rfl
theorem dX10_count_60 : decode cX10_count 60 = .ok (.aload_n 0, 1) := dq daX10_count_40_0 4 rfl
theorem dX10_count_61 : decode cX10_count 61 = .ok (.getfield 10, 3) := dq daX10_count_40_0 5 rfl
theorem dX10_count_64 : decode cX10_count 64 = .ok (.getfield 83, 3) := dq daX10_count_40_0 6 rfl
theorem dX10_count_67 : decode cX10_count 67 = .ok (.getfield 188, 3) := dq daX10_count_40_0 7 rfl
theorem dX10_count_70 : decode cX10_count 70 = .ok (.ireturn, 1) := dq daX10_count_40_0 8 rfl
theorem dX10_count_71 : decode cX10_count 71 = .ok (.aload_n 0, 1) := dq daX10_count_40_0 9 rfl
theorem dX10_count_72 : decode cX10_count 72 = .ok (.getfield 10, 3) := dq daX10_count_40_0 10 rfl
theorem dX10_count_75 : decode cX10_count 75 = .ok (.getfield 101, 3) := dq daX10_count_40_0 11 rfl
theorem dX10_count_78 : decode cX10_count 78 = .ok (.getfield 188, 3) := dq daX10_count_40_0 12 rfl
theorem dX10_count_81 : decode cX10_count 81 = .ok (.ireturn, 1) := dq daX10_count_40_0 13 rfl
theorem dX10_count_82 : decode cX10_count 82 = .ok (.aload_n 0, 1) := dq daX10_count_40_0 14 rfl
theorem dX10_count_83 : decode cX10_count 83 = .ok (.getfield 10, 3) := dq daX10_count_40_0 15 rfl
theorem dX10_count_86 : decode cX10_count 86 = .ok (.getfield 107, 3) := dq daX10_count_40_0 16 rfl
theorem dX10_count_89 : decode cX10_count 89 = .ok (.getfield 188, 3) := dq daX10_count_40_0 17 rfl
theorem dX10_count_92 : decode cX10_count 92 = .ok (.ireturn, 1) := dq daX10_count_40_0 18 rfl
theorem dX10_count_93 : decode cX10_count 93 = .ok (.aload_n 0, 1) := dq daX10_count_40_0 19 rfl
theorem dX10_count_94 : decode cX10_count 94 = .ok (.getfield 128, 3) := dq daX10_count_40_0 20 rfl
theorem dX10_count_97 : decode cX10_count 97 = .ok (.ireturn, 1) := dq daX10_count_40_0 21 rfl
theorem dX10_count_98 : decode cX10_count 98 = .ok (.aload_n 0, 1) := dq daX10_count_40_0 22 rfl
theorem dX10_count_99 : decode cX10_count 99 = .ok (.getfield 10, 3) := dq daX10_count_40_0 23 rfl
theorem dX10_count_102 : decode cX10_count 102 = .ok (.getfield 141, 3) := dq daX10_count_40_0 24 rfl
theorem dX10_count_105 : decode cX10_count 105 = .ok (.ireturn, 1) := dq daX10_count_40_0 25 rfl
theorem dX10_count_106 : decode cX10_count 106 = .ok (.aload_n 0, 1) := dq daX10_count_40_0 26 rfl
theorem dX10_count_107 : decode cX10_count 107 = .ok (.getfield 10, 3) := dq daX10_count_40_0 27 rfl
theorem dX10_count_110 : decode cX10_count 110 = .ok (.aload_n 0, 1) := dq daX10_count_40_0 28 rfl
theorem dX10_count_111 : decode cX10_count 111 = .ok (.getfield 10, 3) := dq daX10_count_40_0 29 rfl
theorem dX10_count_114 : decode cX10_count 114 = .ok (.getfield 141, 3) := dq daX10_count_40_0 30 rfl
theorem dX10_count_117 : decode cX10_count 117 = .ok (.invokevirtual 144, 3) := dq daX10_count_40_0 31 rfl
def dtX10_count_40_1 : List (Nat × Jvm.ClassFile.Instr × Nat) := [(120, .ireturn, 1), (121, .aload_n 0, 1), (122, .getfield 10, 3), (125, .getfield 263, 3), (128, .getfield 188, 3), (131, .ireturn, 1), (132, .aload_n 0, 1), (133, .getfield 10, 3), (136, .getfield 285, 3), (139, .getfield 188, 3), (142, .ireturn, 1), (143, .aload_n 0, 1), (144, .getfield 10, 3), (147, .getfield 176, 3), (150, .iconst (-1), 1), (151, .if_icmp .ne 7, 3), (158, .aload_n 0, 1), (159, .getfield 10, 3), (162, .getfield 185, 3), (165, .getfield 188, 3), (168, .ireturn, 1), (154, .iconst (-1), 1), (155, .goto 13, 3), (169, .aload_n 0, 1), (170, .getfield 10, 3), (173, .getfield 118, 3), (176, .ireturn, 1), (177, .aload_n 0, 1), (178, .getfield 121, 3), (181, .ireturn, 1)]
theorem daX10_count_40_1 : dtX10_count_40_1.all (dqd cX10_count) = true := by decide +kernel
theorem dX10_count_120 : decode cX10_count 120 = .ok (.ireturn, 1) := dq daX10_count_40_1 0 rfl
theorem dX10_count_121 : decode cX10_count 121 = .ok (.aload_n 0, 1) := dq daX10_count_40_1 1 rfl
theorem dX10_count_122 : decode cX10_count 122 = .ok (.getfield 10, 3) := dq daX10_count_40_1 2 rfl
theorem dX10_count_125 : decode cX10_count 125 = .ok (.getfield 263, 3) := dq daX10_count_40_1 3 rfl
theorem dX10_count_128 : decode cX10_count 128 = .ok (.getfield 188, 3) := dq daX10_count_40_1 4 rfl
theorem dX10_count_131 : decode cX10_count 131 = .ok (.ireturn, 1) := dq daX10_count_40_1 5 rfl
theorem dX10_count_132 : decode cX10_count 132 = .ok (.aload_n 0, 1) := dq daX10_count_40_1 6 rfl
theorem dX10_count_133 : decode cX10_count 133 = .ok (.getfield 10, 3) := dq daX10_count_40_1 7 rfl
theorem dX10_count_136 : decode cX10_count 136 = .ok (.getfield 285, 3) := dq daX10_count_40_1 8 rfl
theorem dX10_count_139 : decode cX10_count 139 = .ok (.getfield 188, 3) := dq daX10_count_40_1 9 rfl
theorem dX10_count_142 : decode cX10_count 142 = .ok (.ireturn, 1) := dq daX10_count_40_1 10 rfl
theorem dX10_count_143 : decode cX10_count 143 = .ok (.aload_n 0, 1) := dq daX10_count_40_1 11 rfl
theorem dX10_count_144 : decode cX10_count 144 = .ok (.getfield 10, 3) := dq daX10_count_40_1 12 rfl
theorem dX10_count_147 : decode cX10_count 147 = .ok (.getfield 176, 3) := dq daX10_count_40_1 13 rfl
theorem dX10_count_150 : decode cX10_count 150 = .ok (.iconst (-1), 1) := dq daX10_count_40_1 14 rfl
theorem dX10_count_151 : decode cX10_count 151 = .ok (.if_icmp .ne 7, 3) := dq daX10_count_40_1 15 rfl
theorem dX10_count_158 : decode cX10_count 158 = .ok (.aload_n 0, 1) := dq daX10_count_40_1 16 rfl
theorem dX10_count_159 : decode cX10_count 159 = .ok (.getfield 10, 3) := dq daX10_count_40_1 17 rfl
theorem dX10_count_162 : decode cX10_count 162 = .ok (.getfield 185, 3) := dq daX10_count_40_1 18 rfl
theorem dX10_count_165 : decode cX10_count 165 = .ok (.getfield 188, 3) := dq daX10_count_40_1 19 rfl
theorem dX10_count_168 : decode cX10_count 168 = .ok (.ireturn, 1) := dq daX10_count_40_1 20 rfl
theorem dX10_count_154 : decode cX10_count 154 = .ok (.iconst (-1), 1) := dq daX10_count_40_1 21 rfl
theorem dX10_count_155 : decode cX10_count 155 = .ok (.goto 13, 3) := dq daX10_count_40_1 22 rfl
theorem dX10_count_169 : decode cX10_count 169 = .ok (.aload_n 0, 1) := dq daX10_count_40_1 23 rfl
theorem dX10_count_170 : decode cX10_count 170 = .ok (.getfield 10, 3) := dq daX10_count_40_1 24 rfl
theorem dX10_count_173 : decode cX10_count 173 = .ok (.getfield 118, 3) := dq daX10_count_40_1 25 rfl
theorem dX10_count_176 : decode cX10_count 176 = .ok (.ireturn, 1) := dq daX10_count_40_1 26 rfl
theorem dX10_count_177 : decode cX10_count 177 = .ok (.aload_n 0, 1) := dq daX10_count_40_1 27 rfl
theorem dX10_count_178 : decode cX10_count 178 = .ok (.getfield 121, 3) := dq daX10_count_40_1 28 rfl
theorem dX10_count_181 : decode cX10_count 181 = .ok (.ireturn, 1) := dq daX10_count_40_1 29 rfl
def dtX10_feed_40_0 : List (Nat × Jvm.ClassFile.Instr × Nat) := [(0, .aload_n 0, 1), (1, .getfield 121, 3), (4, .bipush 20, 2), (6, .iadd, 1), (7, .sipush 400, 3), (10, .if_icmp .le 5, 3), (15, .aload_n 0, 1), (16, .iload_n 1, 1), (17, .invokevirtual 124, 3), (20, .aload_n 0, 1), (21, .iload_n 2, 1), (22, .invokevirtual 124, 3), (25, .aload_n 0, 1), (26, .iload_n 3, 1), (27, .invokevirtual 124, 3), (30, .aload_n 0, 1), (31, .iload 4, 2), (33, .invokevirtual 124, 3), (36, .aload_n 0, 1), (37, .iload 5, 2), (39, .invokevirtual 124, 3), (42, .aload_n 0, 1), (43, .getfield 121, 3), (13, .iconst (-1), 1), (14, .ireturn, 1), (46, .ireturn, 1)]
theorem daX10_feed_40_0 : dtX10_feed_40_0.all (dqd cX10_feed) = true := by decide +kernel
theorem dX10_feed_0 : decode cX10_feed 0 = .ok (.aload_n 0, 1) := dq daX10_feed_40_0 0 rfl
theorem dX10_feed_1 : decode cX10_feed 1 = .ok (.getfield 121, 3) := dq daX10_feed_40_0 1 rfl
theorem dX10_feed_4 : decode cX10_feed 4 = .ok (.bipush 20, 2) := dq daX10_feed_40_0 2 rfl
theorem dX10_feed_6 : decode cX10_feed 6 = .ok (.iadd, 1) := dq daX10_feed_40_0 3 rfl
theorem dX10_feed_7 : decode cX10_feed 7 = .ok (.sipush 400, 3) := dq daX10_feed_40_0 4 rfl
theorem dX10_feed_10 : decode cX10_feed 10 = .ok (.if_icmp .le 5, 3) := dq daX10_feed_40_0 5 rfl
theorem dX10_feed_15 : decode cX10_feed 15 = .ok (.aload_n 0, 1) := dq daX10_feed_40_0 6 rfl
theorem dX10_feed_16 : decode cX10_feed 16 = .ok (.iload_n 1, 1) := dq daX10_feed_40_0 7 rfl
theorem dX10_feed_17 : decode cX10_feed 17 = .ok (.invokevirtual 124, 3) := dq daX10_feed_40_0 8 rfl
theorem dX10_feed_20 : decode cX10_feed 20 = .ok (.aload_n 0, 1) := dq daX10_feed_40_0 9 rfl
theorem dX10_feed_21 : decode cX10_feed 21 = .ok (.iload_n 2, 1) := dq daX10_feed_40_0 10 rfl
theorem dX10_feed_22 : decode cX10_feed 22 = .ok (.invokevirtual 124, 3) := dq daX10_feed_40_0 11 rfl
theorem dX10_feed_25 : decode cX10_feed 25 = .ok (.aload_n 0, 1) := dq daX10_feed_40_0 12 rfl
theorem dX10_feed_26 : decode cX10_feed 26 = .ok (.iload_n 3, 1) := dq daX10_feed_40_0 13 rfl
theorem dX10_feed_27 : decode cX10_feed 27 = .ok (.invokevirtual 124, 3) := dq daX10_feed_40_0 14 rfl
theorem dX10_feed_30 : decode cX10_feed 30 = .ok (.aload_n 0, 1) := dq daX10_feed_40_0 15 rfl
theorem dX10_feed_31 : decode cX10_feed 31 = .ok (.iload 4, 2) := dq daX10_feed_40_0 16 rfl
theorem dX10_feed_33 : decode cX10_feed 33 = .ok (.invokevirtual 124, 3) := dq daX10_feed_40_0 17 rfl
theorem dX10_feed_36 : decode cX10_feed 36 = .ok (.aload_n 0, 1) := dq daX10_feed_40_0 18 rfl
theorem dX10_feed_37 : decode cX10_feed 37 = .ok (.iload 5, 2) := dq daX10_feed_40_0 19 rfl
theorem dX10_feed_39 : decode cX10_feed 39 = .ok (.invokevirtual 124, 3) := dq daX10_feed_40_0 20 rfl
theorem dX10_feed_42 : decode cX10_feed 42 = .ok (.aload_n 0, 1) := dq daX10_feed_40_0 21 rfl
theorem dX10_feed_43 : decode cX10_feed 43 = .ok (.getfield 121, 3) := dq daX10_feed_40_0 22 rfl
theorem dX10_feed_13 : decode cX10_feed 13 = .ok (.iconst (-1), 1) := dq daX10_feed_40_0 23 rfl
theorem dX10_feed_14 : decode cX10_feed 14 = .ok (.ireturn, 1) := dq daX10_feed_40_0 24 rfl
theorem dX10_feed_46 : decode cX10_feed 46 = .ok (.ireturn, 1) := dq daX10_feed_40_0 25 rfl
def dtX10_end_40_0 : List (Nat × Jvm.ClassFile.Instr × Nat) := [(0, .iload_n 1, 1), (1, .aload_n 0, 1), (2, .getfield 121, 3), (5, .invokestatic 79, 3), (8, .ifCond .ne 5, 3), (13, .aload_n 0, 1), (14, .iload_n 1, 1), (15, .putfield 121, 3), (18, .iload_n 1, 1), (11, .iconst (-1), 1), (12, .ireturn, 1), (19, .ireturn, 1)]
theorem daX10_end_40_0 : dtX10_end_40_0.all (dqd cX10_end) = true := by decide +kernel
theorem dX10_end_0 : decode cX10_end 0 = .ok (.iload_n 1, 1) := dq daX10_end_40_0 0 rfl
theorem dX10_end_1 : decode cX10_end 1 = .ok (.aload_n 0, 1) := dq daX10_end_40_0 1 rfl
theorem dX10_end_2 : decode cX10_end 2 = .ok (.getfield 121, 3) := dq daX10_end_40_0 2 rfl
theorem dX10_end_5 : decode cX10_end 5 = .ok (.invokestatic 79, 3) := dq daX10_end_40_0 3 rfl
theorem dX10_end_8 : decode cX10_end 8 = .ok (.ifCond .ne 5, 3) := dq daX10_end_40_0 4 rfl
theorem dX10_end_13 : decode cX10_end 13 = .ok (.aload_n 0, 1) := dq daX10_end_40_0 5 rfl
theorem dX10_end_14 : decode cX10_end 14 = .ok (.iload_n 1, 1) := dq daX10_end_40_0 6 rfl
theorem dX10_end_15 : decode cX10_end 15 = .ok (.putfield 121, 3) := dq daX10_end_40_0 7 rfl
theorem dX10_end_18 : decode cX10_end 18 = .ok (.iload_n 1, 1) := dq daX10_end_40_0 8 rfl
theorem dX10_end_11 : decode cX10_end 11 = .ok (.iconst (-1), 1) := dq daX10_end_40_0 9 rfl
theorem dX10_end_12 : decode cX10_end 12 = .ok (.ireturn, 1) := dq daX10_end_40_0 10 rfl
theorem dX10_end_19 : decode cX10_end 19 = .ok (.ireturn, 1) := dq daX10_end_40_0 11 rfl
