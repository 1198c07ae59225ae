theorem kX2_addToken_1 {a : Array Value} {s : State} (hts : ∀ w ∈ wsX2_addToken, w.before a s = true) : (.fieldLink RX2 65 "SnowMules$LawReader" "tokenCount" "I" : Cond).before a s = true := kw (A := ixX2_addToken) wt297 hts (by decide +kernel)
theorem kX2_addToken_2 {a : Array Value} {s : State} (hts : ∀ w ∈ wsX2_addToken, w.before a s = true) : (.fieldLink RX2 13 "SnowMules$LawReader" "tokens" "[I" : Cond).before a s = true := kw (A := ixX2_addToken) wt72 hts (by decide +kernel)
theorem kX2_addToken_3 {a : Array Value} {s : State} (hts : ∀ w ∈ wsX2_addToken, w.before a s = true) : (.fieldLink RX2 17 "SnowMules$LawReader" "places" "[I" : Cond).before a s = true := kw (A := ixX2_addToken) wt73 hts (by decide +kernel)
theorem kJ0_coder_7d493_1 {a : Array Value} {s : State} (hts : ∀ w ∈ wsJ0_coder_7d493, w.before a s = true) : (.fieldLink RJ0 38 "java/lang/String" "COMPACT_STRINGS" "Z" : Cond).before a s = true := kw (A := ixJ0_coder_7d493) wt323 hts (by decide +kernel)
theorem kJ0_coder_7d493_2 {a : Array Value} {s : State} (hts : ∀ w ∈ wsJ0_coder_7d493, w.before a s = true) : (.fieldLink RJ0 15 "java/lang/String" "coder" "B" : Cond).before a s = true := kw (A := ixJ0_coder_7d493) wt324 hts (by decide +kernel)
theorem kJ0_length_8abf5_1 {a : Array Value} {s : State} (hts : ∀ w ∈ wsJ0_length_8abf5, w.before a s = true) : (.fieldLink RJ0 9 "java/lang/String" "value" "[B" : Cond).before a s = true := kw (A := ixJ0_length_8abf5) wt318 hts (by decide +kernel)
theorem kJ0_isLatin1_aae02_1 {a : Array Value} {s : State} (hts : ∀ w ∈ wsJ0_isLatin1_aae02, w.before a s = true) : (.fieldLink RJ0 38 "java/lang/String" "COMPACT_STRINGS" "Z" : Cond).before a s = true := kw (A := ixJ0_isLatin1_aae02) wt323 hts (by decide +kernel)
theorem kJ0_isLatin1_aae02_2 {a : Array Value} {s : State} (hts : ∀ w ∈ wsJ0_isLatin1_aae02, w.before a s = true) : (.fieldLink RJ0 15 "java/lang/String" "coder" "B" : Cond).before a s = true := kw (A := ixJ0_isLatin1_aae02) wt324 hts (by decide +kernel)
theorem kJ0_checkIndex_df160_1 {a : Array Value} {s : State} (hts : ∀ w ∈ wsJ0_checkIndex_df160, w.before a s = true) : (.fieldLink RJ0 1053 "jdk/internal/util/Preconditions" "SIOOBE_FORMATTER" "Ljava/util/function/BiFunction;" : Cond).before a s = true := kw (A := ixJ0_checkIndex_df160) wt340 hts (by decide +kernel)
theorem kJ0_charAt_5068e_1 {a : Array Value} {s : State} (hts : ∀ w ∈ wsJ0_charAt_5068e, w.before a s = true) : (.fieldLink RJ0 9 "java/lang/String" "value" "[B" : Cond).before a s = true := kw (A := ixJ0_charAt_5068e) wt318 hts (by decide +kernel)
theorem kX2_cut_1 {a : Array Value} {s : State} (hts : ∀ w ∈ wsX2_cut, w.before a s = true) : (.fieldLink RX2 65 "SnowMules$LawReader" "tokenCount" "I" : Cond).before a s = true := kw (A := ixX2_cut) wt297 hts (by decide +kernel)
theorem kX2_token_1 {a : Array Value} {s : State} (hts : ∀ w ∈ wsX2_token, w.before a s = true) : (.fieldLink RX2 37 "SnowMules$LawReader" "next" "I" : Cond).before a s = true := kw (A := ixX2_token) wt289 hts (by decide +kernel)
theorem kX2_token_2 {a : Array Value} {s : State} (hts : ∀ w ∈ wsX2_token, w.before a s = true) : (.fieldLink RX2 65 "SnowMules$LawReader" "tokenCount" "I" : Cond).before a s = true := kw (A := ixX2_token) wt297 hts (by decide +kernel)
theorem kX2_token_3 {a : Array Value} {s : State} (hts : ∀ w ∈ wsX2_token, w.before a s = true) : (.fieldLink RX2 13 "SnowMules$LawReader" "tokens" "[I" : Cond).before a s = true := kw (A := ixX2_token) wt72 hts (by decide +kernel)
theorem kX2_refuse_1 {a : Array Value} {s : State} (hts : ∀ w ∈ wsX2_refuse, w.before a s = true) : (.fieldLink RX2 37 "SnowMules$LawReader" "next" "I" : Cond).before a s = true := kw (A := ixX2_refuse) wt289 hts (by decide +kernel)
theorem kX2_refuse_3 {a : Array Value} {s : State} (hts : ∀ w ∈ wsX2_refuse, w.before a s = true) : (.fieldLink RX2 41 "SnowMules$LawReader" "fault" "I" : Cond).before a s = true := kw (A := ixX2_refuse) wt290 hts (by decide +kernel)
theorem kX2_refuse_2 {a : Array Value} {s : State} (hts : ∀ w ∈ wsX2_refuse, w.before a s = true) : (.fieldLink RX2 17 "SnowMules$LawReader" "places" "[I" : Cond).before a s = true := kw (A := ixX2_refuse) wt73 hts (by decide +kernel)
theorem kX2_take_1 {a : Array Value} {s : State} (hts : ∀ w ∈ wsX2_take, w.before a s = true) : (.fieldLink RX2 37 "SnowMules$LawReader" "next" "I" : Cond).before a s = true := kw (A := ixX2_take) wt289 hts (by decide +kernel)
theorem kX2_readChain_1 {a : Array Value} {s : State} (hts : ∀ w ∈ wsX2_readChain, w.before a s = true) : (.fieldLink RX2 47 "SnowMules$LawReader" "chained" "Z" : Cond).before a s = true := kw (A := ixX2_readChain) wt292 hts (by decide +kernel)
theorem kX2_readChain_2 {a : Array Value} {s : State} (hts : ∀ w ∈ wsX2_readChain, w.before a s = true) : (.fieldLink RX2 23 "SnowMules$LawReader" "law" "LSnowMules$Law;" : Cond).before a s = true := kw (A := ixX2_readChain) wt77 hts (by decide +kernel)
theorem kX2_readChain_3 {a : Array Value} {s : State} (hts : ∀ w ∈ wsX2_readChain, w.before a s = true) : (.fieldLink RX2 125 "SnowMules$Law" "chain" "I" : Cond).before a s = true := kw (A := ixX2_readChain) wt394 hts (by decide +kernel)
theorem kX2_readChain_4 {a : Array Value} {s : State} (hts : ∀ w ∈ wsX2_readChain, w.before a s = true) : (.fieldLink RX2 37 "SnowMules$LawReader" "next" "I" : Cond).before a s = true := kw (A := ixX2_readChain) wt289 hts (by decide +kernel)
theorem kX2_readValue_1 {a : Array Value} {s : State} (hts : ∀ w ∈ wsX2_readValue, w.before a s = true) : (.fieldLink RX2 44 "SnowMules$LawReader" "parts" "I" : Cond).before a s = true := kw (A := ixX2_readValue) wt291 hts (by decide +kernel)
theorem kX2_readValue_2 {a : Array Value} {s : State} (hts : ∀ w ∈ wsX2_readValue, w.before a s = true) : (.fieldLink RX2 23 "SnowMules$LawReader" "law" "LSnowMules$Law;" : Cond).before a s = true := kw (A := ixX2_readValue) wt77 hts (by decide +kernel)
theorem kX2_readValue_3 {a : Array Value} {s : State} (hts : ∀ w ∈ wsX2_readValue, w.before a s = true) : (.fieldLink RX2 37 "SnowMules$LawReader" "next" "I" : Cond).before a s = true := kw (A := ixX2_readValue) wt289 hts (by decide +kernel)
theorem kX2_readSum_1 {a : Array Value} {s : State} (hts : ∀ w ∈ wsX2_readSum, w.before a s = true) : (.fieldLink RX2 37 "SnowMules$LawReader" "next" "I" : Cond).before a s = true := kw (A := ixX2_readSum) wt289 hts (by decide +kernel)
theorem kX2_readComparison_1 {a : Array Value} {s : State} (hts : ∀ w ∈ wsX2_readComparison, w.before a s = true) : (.fieldLink RX2 23 "SnowMules$LawReader" "law" "LSnowMules$Law;" : Cond).before a s = true := kw (A := ixX2_readComparison) wt77 hts (by decide +kernel)
theorem kX2_readComparison_2 {a : Array Value} {s : State} (hts : ∀ w ∈ wsX2_readComparison, w.before a s = true) : (.fieldLink RX2 44 "SnowMules$LawReader" "parts" "I" : Cond).before a s = true := kw (A := ixX2_readComparison) wt291 hts (by decide +kernel)
theorem kX2_readComparison_3 {a : Array Value} {s : State} (hts : ∀ w ∈ wsX2_readComparison, w.before a s = true) : (.fieldLink RX2 37 "SnowMules$LawReader" "next" "I" : Cond).before a s = true := kw (A := ixX2_readComparison) wt289 hts (by decide +kernel)
theorem kX2_readPart_2 {a : Array Value} {s : State} (hts : ∀ w ∈ wsX2_readPart, w.before a s = true) : (.fieldLink RX2 37 "SnowMules$LawReader" "next" "I" : Cond).before a s = true := kw (A := ixX2_readPart) wt289 hts (by decide +kernel)
theorem kX2_readPart_1 {a : Array Value} {s : State} (hts : ∀ w ∈ wsX2_readPart, w.before a s = true) : (.fieldLink RX2 23 "SnowMules$LawReader" "law" "LSnowMules$Law;" : Cond).before a s = true := kw (A := ixX2_readPart) wt77 hts (by decide +kernel)
theorem kX2_readTest_2 {a : Array Value} {s : State} (hts : ∀ w ∈ wsX2_readTest, w.before a s = true) : (.fieldLink RX2 37 "SnowMules$LawReader" "next" "I" : Cond).before a s = true := kw (A := ixX2_readTest) wt289 hts (by decide +kernel)
theorem kX2_readTest_1 {a : Array Value} {s : State} (hts : ∀ w ∈ wsX2_readTest, w.before a s = true) : (.fieldLink RX2 23 "SnowMules$LawReader" "law" "LSnowMules$Law;" : Cond).before a s = true := kw (A := ixX2_readTest) wt77 hts (by decide +kernel)
theorem kX2_readFact_1 {a : Array Value} {s : State} (hts : ∀ w ∈ wsX2_readFact, w.before a s = true) : (.fieldLink RX2 37 "SnowMules$LawReader" "next" "I" : Cond).before a s = true := kw (A := ixX2_readFact) wt289 hts (by decide +kernel)
theorem kX2_readFact_2 {a : Array Value} {s : State} (hts : ∀ w ∈ wsX2_readFact, w.before a s = true) : (.fieldLink RX2 23 "SnowMules$LawReader" "law" "LSnowMules$Law;" : Cond).before a s = true := kw (A := ixX2_readFact) wt77 hts (by decide +kernel)
theorem kX2_readClause_2 {a : Array Value} {s : State} (hts : ∀ w ∈ wsX2_readClause, w.before a s = true) : (.fieldLink RX2 37 "SnowMules$LawReader" "next" "I" : Cond).before a s = true := kw (A := ixX2_readClause) wt289 hts (by decide +kernel)
theorem kX2_readClause_3 {a : Array Value} {s : State} (hts : ∀ w ∈ wsX2_readClause, w.before a s = true) : (.fieldLink RX2 23 "SnowMules$LawReader" "law" "LSnowMules$Law;" : Cond).before a s = true := kw (A := ixX2_readClause) wt77 hts (by decide +kernel)
theorem kX2_readClause_1 {a : Array Value} {s : State} (hts : ∀ w ∈ wsX2_readClause, w.before a s = true) : (.fieldLink RX2 47 "SnowMules$LawReader" "chained" "Z" : Cond).before a s = true := kw (A := ixX2_readClause) wt292 hts (by decide +kernel)
theorem kX2_read_1 {a : Array Value} {s : State} (hts : ∀ w ∈ wsX2_read, w.before a s = true) : (.methodLink RX2 27 Lib.Math.min.name : Cond).before a s = true := kw (A := ixX2_read) wt286 hts (by decide +kernel)
theorem kX2_read_2 {a : Array Value} {s : State} (hts : ∀ w ∈ wsX2_read, w.before a s = true) : (.static Lib.Math.min.name : Cond).before a s = true := kw (A := ixX2_read) wt287 hts (by decide +kernel)
theorem kX2_read_3 {a : Array Value} {s : State} (hts : ∀ w ∈ wsX2_read, w.before a s = true) : (.initialized "java/lang/Math" : Cond).before a s = true := kw (A := ixX2_read) wt66 hts (by decide +kernel)
theorem kX2_read_4 {a : Array Value} {s : State} (hts : ∀ w ∈ wsX2_read, w.before a s = true) : (.code Lib.Math.min.name Lib.Math.min.code 2 (some .int) : Cond).before a s = true := kw (A := ixX2_read) wt288 hts (by decide +kernel)
theorem kX2_read_5 {a : Array Value} {s : State} (hts : ∀ w ∈ wsX2_read, w.before a s = true) : (.fieldLink RX2 37 "SnowMules$LawReader" "next" "I" : Cond).before a s = true := kw (A := ixX2_read) wt289 hts (by decide +kernel)
theorem kX2_read_6 {a : Array Value} {s : State} (hts : ∀ w ∈ wsX2_read, w.before a s = true) : (.fieldLink RX2 41 "SnowMules$LawReader" "fault" "I" : Cond).before a s = true := kw (A := ixX2_read) wt290 hts (by decide +kernel)
theorem kX2_read_7 {a : Array Value} {s : State} (hts : ∀ w ∈ wsX2_read, w.before a s = true) : (.fieldLink RX2 44 "SnowMules$LawReader" "parts" "I" : Cond).before a s = true := kw (A := ixX2_read) wt291 hts (by decide +kernel)
theorem kX2_read_8 {a : Array Value} {s : State} (hts : ∀ w ∈ wsX2_read, w.before a s = true) : (.fieldLink RX2 47 "SnowMules$LawReader" "chained" "Z" : Cond).before a s = true := kw (A := ixX2_read) wt292 hts (by decide +kernel)
theorem kX2_read_9 {a : Array Value} {s : State} (hts : ∀ w ∈ wsX2_read, w.before a s = true) : (.fieldLink RX2 23 "SnowMules$LawReader" "law" "LSnowMules$Law;" : Cond).before a s = true := kw (A := ixX2_read) wt77 hts (by decide +kernel)
theorem iX2_addToken_X2 : ∀ w ∈ wsX20, w ∈ wsX2_addToken := inW (A := ixX2_addToken) uwX2 (by decide +kernel)
theorem iX2_cut_X2 : ∀ w ∈ wsX20, w ∈ wsX2_cut := inW (A := ixX2_cut) uwX2 (by decide +kernel)
theorem iX2_token_X2 : ∀ w ∈ wsX20, w ∈ wsX2_token := inW (A := ixX2_token) uwX2 (by decide +kernel)
theorem iX2_refuse_X2 : ∀ w ∈ wsX20, w ∈ wsX2_refuse := inW (A := ixX2_refuse) uwX2 (by decide +kernel)
theorem iX2_take_X2 : ∀ w ∈ wsX20, w ∈ wsX2_take := inW (A := ixX2_take) uwX2 (by decide +kernel)
theorem iX2_readChain_X2 : ∀ w ∈ wsX20, w ∈ wsX2_readChain := inW (A := ixX2_readChain) uwX2 (by decide +kernel)
theorem iX2_readChain_X1 : ∀ w ∈ wsX10, w ∈ wsX2_readChain := inW (A := ixX2_readChain) uwX1 (by decide +kernel)
theorem iX2_readValue_X2 : ∀ w ∈ wsX20, w ∈ wsX2_readValue := inW (A := ixX2_readValue) uwX2 (by decide +kernel)
theorem iX2_readSum_X2 : ∀ w ∈ wsX20, w ∈ wsX2_readSum := inW (A := ixX2_readSum) uwX2 (by decide +kernel)
theorem iX2_readComparison_X2 : ∀ w ∈ wsX20, w ∈ wsX2_readComparison := inW (A := ixX2_readComparison) uwX2 (by decide +kernel)
theorem iX2_readComparison_X1 : ∀ w ∈ wsX10, w ∈ wsX2_readComparison := inW (A := ixX2_readComparison) uwX1 (by decide +kernel)
theorem iX2_readPart_X2 : ∀ w ∈ wsX20, w ∈ wsX2_readPart := inW (A := ixX2_readPart) uwX2 (by decide +kernel)
theorem iX2_readTest_X2 : ∀ w ∈ wsX20, w ∈ wsX2_readTest := inW (A := ixX2_readTest) uwX2 (by decide +kernel)
theorem iX2_readFact_X2 : ∀ w ∈ wsX20, w ∈ wsX2_readFact := inW (A := ixX2_readFact) uwX2 (by decide +kernel)
theorem iX2_readClause_X2 : ∀ w ∈ wsX20, w ∈ wsX2_readClause := inW (A := ixX2_readClause) uwX2 (by decide +kernel)
theorem iX2_read_X2 : ∀ w ∈ wsX20, w ∈ wsX2_read := inW (A := ixX2_read) uwX2 (by decide +kernel)
theorem hdX2_isLetter : yX2_isLetter.cls ≠ "java/lang/invoke/MethodHandle" ∧ yX2_isLetter.cls ≠ "java/lang/invoke/VarHandle" ∧ (parseMethodDescriptor yX2_isLetter.desc).map (fun d => d.parameters.length) = some 1 := ⟨hdc_12.1, hdc_12.2, hdd_1⟩
theorem hdX2_isDigit : yX2_isDigit.cls ≠ "java/lang/invoke/MethodHandle" ∧ yX2_isDigit.cls ≠ "java/lang/invoke/VarHandle" ∧ (parseMethodDescriptor yX2_isDigit.desc).map (fun d => d.parameters.length) = some 1 := ⟨hdc_12.1, hdc_12.2, hdd_1⟩
theorem hdJ0_coder_7d493 : yJ0_coder_7d493.cls ≠ "java/lang/invoke/MethodHandle" ∧ yJ0_coder_7d493.cls ≠ "java/lang/invoke/VarHandle" ∧ (parseMethodDescriptor yJ0_coder_7d493.desc).map (fun d => d.parameters.length) = some 0 := ⟨hdc_13.1, hdc_13.2, hdd_44⟩
theorem hdJ3_checkIndex_8e157 : yJ3_checkIndex_8e157.cls ≠ "java/lang/invoke/MethodHandle" ∧ yJ3_checkIndex_8e157.cls ≠ "java/lang/invoke/VarHandle" ∧ (parseMethodDescriptor yJ3_checkIndex_8e157.desc).map (fun d => d.parameters.length) = some 3 := ⟨hdc_14.1, hdc_14.2, hdd_45⟩
theorem hdJ0_checkIndex_df160 : yJ0_checkIndex_df160.cls ≠ "java/lang/invoke/MethodHandle" ∧ yJ0_checkIndex_df160.cls ≠ "java/lang/invoke/VarHandle" ∧ (parseMethodDescriptor yJ0_checkIndex_df160.desc).map (fun d => d.parameters.length) = some 2 := ⟨hdc_13.1, hdc_13.2, hdd_18⟩
theorem hdJ0_isLatin1_aae02 : yJ0_isLatin1_aae02.cls ≠ "java/lang/invoke/MethodHandle" ∧ yJ0_isLatin1_aae02.cls ≠ "java/lang/invoke/VarHandle" ∧ (parseMethodDescriptor yJ0_isLatin1_aae02.desc).map (fun d => d.parameters.length) = some 0 := ⟨hdc_13.1, hdc_13.2, hdd_22⟩
theorem hdJ1_charAt_3b067 : yJ1_charAt_3b067.cls ≠ "java/lang/invoke/MethodHandle" ∧ yJ1_charAt_3b067.cls ≠ "java/lang/invoke/VarHandle" ∧ (parseMethodDescriptor yJ1_charAt_3b067.desc).map (fun d => d.parameters.length) = some 2 := ⟨hdc_15.1, hdc_15.2, hdd_46⟩
theorem hdJ0_length_8abf5 : yJ0_length_8abf5.cls ≠ "java/lang/invoke/MethodHandle" ∧ yJ0_length_8abf5.cls ≠ "java/lang/invoke/VarHandle" ∧ (parseMethodDescriptor yJ0_length_8abf5.desc).map (fun d => d.parameters.length) = some 0 := ⟨hdc_13.1, hdc_13.2, hdd_6⟩
theorem hdJ0_charAt_5068e : yJ0_charAt_5068e.cls ≠ "java/lang/invoke/MethodHandle" ∧ yJ0_charAt_5068e.cls ≠ "java/lang/invoke/VarHandle" ∧ (parseMethodDescriptor yJ0_charAt_5068e.desc).map (fun d => d.parameters.length) = some 1 := ⟨hdc_13.1, hdc_13.2, hdd_47⟩
theorem hdX2_numberToken : yX2_numberToken.cls ≠ "java/lang/invoke/MethodHandle" ∧ yX2_numberToken.cls ≠ "java/lang/invoke/VarHandle" ∧ (parseMethodDescriptor yX2_numberToken.desc).map (fun d => d.parameters.length) = some 3 := ⟨hdc_12.1, hdc_12.2, hdd_48⟩
theorem hdX2_wordToken : yX2_wordToken.cls ≠ "java/lang/invoke/MethodHandle" ∧ yX2_wordToken.cls ≠ "java/lang/invoke/VarHandle" ∧ (parseMethodDescriptor yX2_wordToken.desc).map (fun d => d.parameters.length) = some 3 := ⟨hdc_12.1, hdc_12.2, hdd_48⟩
theorem hdX2_stopOf : yX2_stopOf.cls ≠ "java/lang/invoke/MethodHandle" ∧ yX2_stopOf.cls ≠ "java/lang/invoke/VarHandle" ∧ (parseMethodDescriptor yX2_stopOf.desc).map (fun d => d.parameters.length) = some 3 := ⟨hdc_12.1, hdc_12.2, hdd_48⟩
theorem hdX2_tokenOf : yX2_tokenOf.cls ≠ "java/lang/invoke/MethodHandle" ∧ yX2_tokenOf.cls ≠ "java/lang/invoke/VarHandle" ∧ (parseMethodDescriptor yX2_tokenOf.desc).map (fun d => d.parameters.length) = some 3 := ⟨hdc_12.1, hdc_12.2, hdd_48⟩
theorem hdX2_addToken : yX2_addToken.cls ≠ "java/lang/invoke/MethodHandle" ∧ yX2_addToken.cls ≠ "java/lang/invoke/VarHandle" ∧ (parseMethodDescriptor yX2_addToken.desc).map (fun d => d.parameters.length) = some 2 := ⟨hdc_12.1, hdc_12.2, hdd_18⟩
theorem hdX2_token : yX2_token.cls ≠ "java/lang/invoke/MethodHandle" ∧ yX2_token.cls ≠ "java/lang/invoke/VarHandle" ∧ (parseMethodDescriptor yX2_token.desc).map (fun d => d.parameters.length) = some 0 := ⟨hdc_12.1, hdc_12.2, hdd_6⟩
theorem hdX2_refuse : yX2_refuse.cls ≠ "java/lang/invoke/MethodHandle" ∧ yX2_refuse.cls ≠ "java/lang/invoke/VarHandle" ∧ (parseMethodDescriptor yX2_refuse.desc).map (fun d => d.parameters.length) = some 1 := ⟨hdc_12.1, hdc_12.2, hdd_1⟩
theorem hdX1_addValue : yX1_addValue.cls ≠ "java/lang/invoke/MethodHandle" ∧ yX1_addValue.cls ≠ "java/lang/invoke/VarHandle" ∧ (parseMethodDescriptor yX1_addValue.desc).map (fun d => d.parameters.length) = some 2 := ⟨hdc_3.1, hdc_3.2, hdd_18⟩
theorem hdX2_readValue : yX2_readValue.cls ≠ "java/lang/invoke/MethodHandle" ∧ yX2_readValue.cls ≠ "java/lang/invoke/VarHandle" ∧ (parseMethodDescriptor yX2_readValue.desc).map (fun d => d.parameters.length) = some 1 := ⟨hdc_12.1, hdc_12.2, hdd_1⟩
theorem hdX2_joinOf : yX2_joinOf.cls ≠ "java/lang/invoke/MethodHandle" ∧ yX2_joinOf.cls ≠ "java/lang/invoke/VarHandle" ∧ (parseMethodDescriptor yX2_joinOf.desc).map (fun d => d.parameters.length) = some 1 := ⟨hdc_12.1, hdc_12.2, hdd_3⟩
theorem hdX2_readSum : yX2_readSum.cls ≠ "java/lang/invoke/MethodHandle" ∧ yX2_readSum.cls ≠ "java/lang/invoke/VarHandle" ∧ (parseMethodDescriptor yX2_readSum.desc).map (fun d => d.parameters.length) = some 0 := ⟨hdc_12.1, hdc_12.2, hdd_22⟩
theorem hdX2_signOf : yX2_signOf.cls ≠ "java/lang/invoke/MethodHandle" ∧ yX2_signOf.cls ≠ "java/lang/invoke/VarHandle" ∧ (parseMethodDescriptor yX2_signOf.desc).map (fun d => d.parameters.length) = some 1 := ⟨hdc_12.1, hdc_12.2, hdd_3⟩
theorem hdX1_addFact : yX1_addFact.cls ≠ "java/lang/invoke/MethodHandle" ∧ yX1_addFact.cls ≠ "java/lang/invoke/VarHandle" ∧ (parseMethodDescriptor yX1_addFact.desc).map (fun d => d.parameters.length) = some 3 := ⟨hdc_3.1, hdc_3.2, hdd_25⟩
theorem hdX2_readComparison : yX2_readComparison.cls ≠ "java/lang/invoke/MethodHandle" ∧ yX2_readComparison.cls ≠ "java/lang/invoke/VarHandle" ∧ (parseMethodDescriptor yX2_readComparison.desc).map (fun d => d.parameters.length) = some 0 := ⟨hdc_12.1, hdc_12.2, hdd_22⟩
theorem hdX2_readFact : yX2_readFact.cls ≠ "java/lang/invoke/MethodHandle" ∧ yX2_readFact.cls ≠ "java/lang/invoke/VarHandle" ∧ (parseMethodDescriptor yX2_readFact.desc).map (fun d => d.parameters.length) = some 1 := ⟨hdc_12.1, hdc_12.2, hdd_1⟩
theorem hdX2_readPart : yX2_readPart.cls ≠ "java/lang/invoke/MethodHandle" ∧ yX2_readPart.cls ≠ "java/lang/invoke/VarHandle" ∧ (parseMethodDescriptor yX2_readPart.desc).map (fun d => d.parameters.length) = some 1 := ⟨hdc_12.1, hdc_12.2, hdd_1⟩
theorem hdX2_readTest : yX2_readTest.cls ≠ "java/lang/invoke/MethodHandle" ∧ yX2_readTest.cls ≠ "java/lang/invoke/VarHandle" ∧ (parseMethodDescriptor yX2_readTest.desc).map (fun d => d.parameters.length) = some 1 := ⟨hdc_12.1, hdc_12.2, hdd_1⟩
theorem hdX2_take : yX2_take.cls ≠ "java/lang/invoke/MethodHandle" ∧ yX2_take.cls ≠ "java/lang/invoke/VarHandle" ∧ (parseMethodDescriptor yX2_take.desc).map (fun d => d.parameters.length) = some 1 := ⟨hdc_12.1, hdc_12.2, hdd_1⟩
theorem hdX1_beginClause : yX1_beginClause.cls ≠ "java/lang/invoke/MethodHandle" ∧ yX1_beginClause.cls ≠ "java/lang/invoke/VarHandle" ∧ (parseMethodDescriptor yX1_beginClause.desc).map (fun d => d.parameters.length) = some 1 := ⟨hdc_3.1, hdc_3.2, hdd_17⟩
theorem hdX1_endSum : yX1_endSum.cls ≠ "java/lang/invoke/MethodHandle" ∧ yX1_endSum.cls ≠ "java/lang/invoke/VarHandle" ∧ (parseMethodDescriptor yX1_endSum.desc).map (fun d => d.parameters.length) = some 0 := ⟨hdc_3.1, hdc_3.2, hdd_24⟩
theorem hdX1_endTest : yX1_endTest.cls ≠ "java/lang/invoke/MethodHandle" ∧ yX1_endTest.cls ≠ "java/lang/invoke/VarHandle" ∧ (parseMethodDescriptor yX1_endTest.desc).map (fun d => d.parameters.length) = some 0 := ⟨hdc_3.1, hdc_3.2, hdd_24⟩
theorem hdX2_readChain : yX2_readChain.cls ≠ "java/lang/invoke/MethodHandle" ∧ yX2_readChain.cls ≠ "java/lang/invoke/VarHandle" ∧ (parseMethodDescriptor yX2_readChain.desc).map (fun d => d.parameters.length) = some 0 := ⟨hdc_12.1, hdc_12.2, hdd_22⟩
theorem hdX2_cut : yX2_cut.cls ≠ "java/lang/invoke/MethodHandle" ∧ yX2_cut.cls ≠ "java/lang/invoke/VarHandle" ∧ (parseMethodDescriptor yX2_cut.desc).map (fun d => d.parameters.length) = some 2 := ⟨hdc_12.1, hdc_12.2, hdd_49⟩
theorem hdX1_clear : yX1_clear.cls ≠ "java/lang/invoke/MethodHandle" ∧ yX1_clear.cls ≠ "java/lang/invoke/VarHandle" ∧ (parseMethodDescriptor yX1_clear.desc).map (fun d => d.parameters.length) = some 0 := ⟨hdc_3.1, hdc_3.2, hdd_24⟩
theorem hdX2_readClause : yX2_readClause.cls ≠ "java/lang/invoke/MethodHandle" ∧ yX2_readClause.cls ≠ "java/lang/invoke/VarHandle" ∧ (parseMethodDescriptor yX2_readClause.desc).map (fun d => d.parameters.length) = some 1 := ⟨hdc_12.1, hdc_12.2, hdd_1⟩
def dtX2_isLetter_39_0 : List (Nat × Jvm.ClassFile.Instr × Nat) := [(0, .iload_n 0, 1), (1, .bipush 97, 2), (3, .if_icmp .lt 13, 3), (16, .iconst 0, 1), (17, .ireturn, 1), (6, .iload_n 0, 1), (7, .bipush 122, 2), (9, .if_icmp .gt 7, 3), (12, .iconst 1, 1), (13, .goto 4, 3)]
theorem daX2_isLetter_39_0 : dtX2_isLetter_39_0.all (dqd cX2_isLetter) = true := by decide +kernel
theorem dX2_isLetter_0 : decode cX2_isLetter 0 = .ok (.iload_n 0, 1) := dq daX2_isLetter_39_0 0 rfl
theorem dX2_isLetter_1 : decode cX2_isLetter 1 = .ok (.bipush 97, 2) := dq daX2_isLetter_39_0 1 rfl
theorem dX2_isLetter_3 : decode cX2_isLetter 3 = .ok (.if_icmp .lt 13, 3) := dq daX2_isLetter_39_0 2 rfl
theorem dX2_isLetter_16 : decode cX2_isLetter 16 = .ok (.iconst 0, 1) := dq daX2_isLetter_39_0 3 rfl
theorem dX2_isLetter_17 : decode cX2_isLetter 17 = .ok (.ireturn, 1) := dq daX2_isLetter_39_0 4 rfl
theorem dX2_isLetter_6 : decode cX2_isLetter 6 = .ok (.iload_n 0, 1) := dq daX2_isLetter_39_0 5 rfl
theorem dX2_isLetter_7 : decode cX2_isLetter 7 = .ok (.bipush 122, 2) := dq daX2_isLetter_39_0 6 rfl
theorem dX2_isLetter_9 : decode cX2_isLetter 9 = .ok (.if_icmp .gt 7, 3) := dq daX2_isLetter_39_0 7 rfl
theorem dX2_isLetter_12 : decode cX2_isLetter 12 = .ok (.iconst 1, 1) := dq daX2_isLetter_39_0 8 rfl
theorem dX2_isLetter_13 : decode cX2_isLetter 13 = .ok (.goto 4, 3) := dq daX2_isLetter_39_0 9 rfl
def dtX2_isDigit_39_0 : List (Nat × Jvm.ClassFile.Instr × Nat) := [(0, .iload_n 0, 1), (1, .bipush 48, 2), (3, .if_icmp .lt 13, 3), (16, .iconst 0, 1), (17, .ireturn, 1), (6, .iload_n 0, 1), (7, .bipush 57, 2), (9, .if_icmp .gt 7, 3), (12, .iconst 1, 1), (13, .goto 4, 3)]
theorem daX2_isDigit_39_0 : dtX2_isDigit_39_0.all (dqd cX2_isDigit) = true := by decide +kernel
theorem dX2_isDigit_0 : decode cX2_isDigit 0 = .ok (.iload_n 0, 1) := dq daX2_isDigit_39_0 0 rfl
theorem dX2_isDigit_1 : decode cX2_isDigit 1 = .ok (.bipush 48, 2) := dq daX2_isDigit_39_0 1 rfl
theorem dX2_isDigit_3 : decode cX2_isDigit 3 = .ok (.if_icmp .lt 13, 3) := dq daX2_isDigit_39_0 2 rfl
theorem dX2_isDigit_16 : decode cX2_isDigit 16 = .ok (.iconst 0, 1) := dq daX2_isDigit_39_0 3 rfl
theorem dX2_isDigit_17 : decode cX2_isDigit 17 = .ok (.ireturn, 1) := dq daX2_isDigit_39_0 4 rfl
theorem dX2_isDigit_6 : decode cX2_isDigit 6 = .ok (.iload_n 0, 1) := dq daX2_isDigit_39_0 5 rfl
theorem dX2_isDigit_7 : decode cX2_isDigit 7 = .ok (.bipush 57, 2) := dq daX2_isDigit_39_0 6 rfl
theorem dX2_isDigit_9 : decode cX2_isDigit 9 = .ok (.if_icmp .gt 7, 3) := dq daX2_isDigit_39_0 7 rfl
theorem dX2_isDigit_12 : decode cX2_isDigit 12 = .ok (.iconst 1, 1) := dq daX2_isDigit_39_0 8 rfl
theorem dX2_isDigit_13 : decode cX2_isDigit 13 = .ok (.goto 4, 3) := dq daX2_isDigit_39_0 9 rfl
def dtX2_joinOf_39_0 : List (Nat × Jvm.ClassFile.Instr × Nat) := [(0, .iload_n 0, 1), (1, .tableswitch 47 42 47 #[43, 39, 47, 41, 47, 45], 39), (48, .iconst (-1), 1), (49, .ireturn, 1), (44, .iconst 2, 1), (45, .ireturn, 1), (40, .iconst 0, 1), (41, .ireturn, 1), (42, .iconst 1, 1), (43, .ireturn, 1), (46, .iconst 3, 1), (47, .ireturn, 1)]
theorem daX2_joinOf_39_0 : dtX2_joinOf_39_0.all (dqd cX2_joinOf) = true := by decide +kernel
theorem dX2_joinOf_0 : decode cX2_joinOf 0 = .ok (.iload_n 0, 1) := dq daX2_joinOf_39_0 0 rfl
theorem dX2_joinOf_1 : decode cX2_joinOf 1 = .ok (.tableswitch 47 42 47 #[43, 39, 47, 41, 47, 45], 39) := dq daX2_joinOf_39_0 1 rfl
theorem dX2_joinOf_48 : decode cX2_joinOf 48 = .ok (.iconst (-1), 1) := dq daX2_joinOf_39_0 2 rfl
theorem dX2_joinOf_49 : decode cX2_joinOf 49 = .ok (.ireturn, 1) := dq daX2_joinOf_39_0 3 rfl
theorem dX2_joinOf_44 : decode cX2_joinOf 44 = .ok (.iconst 2, 1) := dq daX2_joinOf_39_0 4 rfl
theorem dX2_joinOf_45 : decode cX2_joinOf 45 = .ok (.ireturn, 1) := dq daX2_joinOf_39_0 5 rfl
theorem dX2_joinOf_40 : decode cX2_joinOf 40 = .ok (.iconst 0, 1) := dq daX2_joinOf_39_0 6 rfl
theorem dX2_joinOf_41 : decode cX2_joinOf 41 = .ok (.ireturn, 1) := dq daX2_joinOf_39_0 7 rfl
theorem dX2_joinOf_42 : decode cX2_joinOf 42 = .ok (.iconst 1, 1) := dq daX2_joinOf_39_0 8 rfl
theorem dX2_joinOf_43 : decode cX2_joinOf 43 = .ok (.ireturn, 1) := dq daX2_joinOf_39_0 9 rfl
theorem dX2_joinOf_46 : decode cX2_joinOf 46 = .ok (.iconst 3, 1) := dq daX2_joinOf_39_0 10 rfl
theorem dX2_joinOf_47 : decode cX2_joinOf 47 = .ok (.ireturn, 1) := dq daX2_joinOf_39_0 11 rfl
def dtX2_signOf_39_0 : List (Nat × Jvm.ClassFile.Instr × Nat) := [(0, .iload_n 0, 1), (1, .lookupswitch 61 #[(60, 51), (61, 55), (62, 59), (256, 53), (257, 57)], 51), (52, .iconst 0, 1), (53, .ireturn, 1), (56, .iconst 2, 1), (57, .ireturn, 1), (60, .iconst 4, 1), (61, .ireturn, 1), (54, .iconst 1, 1), (55, .ireturn, 1), (58, .iconst 3, 1), (59, .ireturn, 1), (62, .iconst (-1), 1), (63, .ireturn, 1)]
theorem daX2_signOf_39_0 : dtX2_signOf_39_0.all (dqd cX2_signOf) = true := by decide +kernel
theorem dX2_signOf_0 : decode cX2_signOf 0 = .ok (.iload_n 0, 1) := dq daX2_signOf_39_0 0 rfl
theorem dX2_signOf_1 : decode cX2_signOf 1 = .ok (.lookupswitch 61 #[(60, 51), (61, 55), (62, 59), (256, 53), (257, 57)], 51) := dq daX2_signOf_39_0 1 rfl
theorem dX2_signOf_52 : decode cX2_signOf 52 = .ok (.iconst 0, 1) := dq daX2_signOf_39_0 2 rfl
theorem dX2_signOf_53 : decode cX2_signOf 53 = .ok (.ireturn, 1) := dq daX2_signOf_39_0 3 rfl
theorem dX2_signOf_56 : decode cX2_signOf 56 = .ok (.iconst 2, 1) := dq daX2_signOf_39_0 4 rfl
theorem dX2_signOf_57 : decode cX2_signOf 57 = .ok (.ireturn, 1) := dq daX2_signOf_39_0 5 rfl
theorem dX2_signOf_60 : decode cX2_signOf 60 = .ok (.iconst 4, 1) := dq daX2_signOf_39_0 6 rfl
theorem dX2_signOf_61 : decode cX2_signOf 61 = .ok (.ireturn, 1) := dq daX2_signOf_39_0 7 rfl
theorem dX2_signOf_54 : decode cX2_signOf 54 = .ok (.iconst 1, 1) := dq daX2_signOf_39_0 8 rfl
theorem dX2_signOf_55 : decode cX2_signOf 55 = .ok (.ireturn, 1) := dq daX2_signOf_39_0 9 rfl
theorem dX2_signOf_58 : decode cX2_signOf 58 = .ok (.iconst 3, 1) := dq daX2_signOf_39_0 10 rfl
theorem dX2_signOf_59 : decode cX2_signOf 59 = .ok (.ireturn, 1) := dq daX2_signOf_39_0 11 rfl
theorem dX2_signOf_62 : decode cX2_signOf 62 = .ok (.iconst (-1), 1) := dq daX2_signOf_39_0 12 rfl
theorem dX2_signOf_63 : decode cX2_signOf 63 = .ok (.ireturn, 1) := dq daX2_signOf_39_0 13 rfl
def dtX2_addToken_39_0 : List (Nat × Jvm.ClassFile.Instr × Nat) := [(0, .aload_n 0, 1), (1, .getfield 65, 3), (4, .aload_n 0, 1), (5, .getfield 13, 3), (8, .arraylength, 1), (9, .if_icmp .ge 45, 3), (54, .return_, 1), (12, .aload_n 0, 1), (13, .getfield 65, 3), (16, .aload_n 0, 1), (17, .getfield 17, 3), (20, .arraylength, 1), (21, .if_icmp .ge 33, 3), (24, .aload_n 0, 1), (25, .getfield 13, 3), (28, .aload_n 0, 1), (29, .getfield 65, 3), (32, .iload_n 1, 1), (33, .iastore, 1), (34, .aload_n 0, 1), (35, .getfield 17, 3), (38, .aload_n 0, 1), (39, .getfield 65, 3), (42, .iload_n 2, 1), (43, .iastore, 1), (44, .aload_n 0, 1), (45, .dup, 1), (46, .getfield 65, 3), (49, .iconst 1, 1), (50, .iadd, 1), (51, .putfield 65, 3)]
theorem daX2_addToken_39_0 : dtX2_addToken_39_0.all (dqd cX2_addToken) = true := by decide +kernel
theorem dX2_addToken_0 : decode cX2_addToken 0 = .ok (.aload_n 0, 1) := dq daX2_addToken_39_0 0 rfl
theorem dX2_addToken_1 : decode cX2_addToken 1 = .ok (.getfield 65, 3) := dq daX2_addToken_39_0 1 rfl
theorem dX2_addToken_4 : decode cX2_addToken 4 = .ok (.aload_n 0, 1) := dq daX2_addToken_39_0 2 rfl
theorem dX2_addToken_5 : decode cX2_addToken 5 = .ok (.getfield 13, 3) := dq daX2_addToken_39_0 3 rfl
theorem dX2_addToken_8 : decode cX2_addToken 8 = .ok (.arraylength, 1) := dq daX2_addToken_39_0 4 rfl
theorem dX2_addToken_9 : decode cX2_addToken 9 = .ok (.if_icmp .ge 45, 3) := dq daX2_addToken_39_0 5 rfl
theorem dX2_addToken_54 : decode cX2_addToken 54 = .ok (.return_, 1) := dq daX2_addToken_39_0 6 rfl
theorem dX2_addToken_12 : decode cX2_addToken 12 = .ok (.aload_n 0, 1) := dq daX2_addToken_39_0 7 rfl
theorem dX2_addToken_13 : decode cX2_addToken 13 = .ok (.getfield 65, 3) := dq daX2_addToken_39_0 8 rfl
theorem dX2_addToken_16 : decode cX2_addToken 16 = .ok (.aload_n 0, 1) := dq daX2_addToken_39_0 9 rfl
theorem dX2_addToken_17 : decode cX2_addToken 17 = .ok (.getfield 17, 3) := dq daX2_addToken_39_0 10 rfl
theorem dX2_addToken_20 : decode cX2_addToken 20 = .ok (.arraylength, 1) := dq daX2_addToken_39_0 11 rfl
theorem dX2_addToken_21 : decode cX2_addToken 21 = .ok (.if_icmp .ge 33, 3) := dq daX2_addToken_39_0 12 rfl
theorem dX2_addToken_24 : decode cX2_addToken 24 = .ok (.aload_n 0, 1) := dq daX2_addToken_39_0 13 rfl
theorem dX2_addToken_25 : decode cX2_addToken 25 = .ok (.getfield 13, 3) := dq daX2_addToken_39_0 14 rfl
theorem dX2_addToken_28 : decode cX2_addToken 28 = .ok (.aload_n 0, 1) := dq daX2_addToken_39_0 15 rfl
theorem dX2_addToken_29 : decode cX2_addToken 29 = .ok (.getfield 65, 3) := dq daX2_addToken_39_0 16 rfl
theorem dX2_addToken_32 : decode cX2_addToken 32 = .ok (.iload_n 1, 1) := dq daX2_addToken_39_0 17 rfl
theorem dX2_addToken_33 : decode cX2_addToken 33 = .ok (.iastore, 1) := dq daX2_addToken_39_0 18 rfl
theorem dX2_addToken_34 : decode cX2_addToken 34 = .ok (.aload_n 0, 1) := dq daX2_addToken_39_0 19 rfl
theorem dX2_addToken_35 : decode cX2_addToken 35 = .ok (.getfield 17, 3) := dq daX2_addToken_39_0 20 rfl
theorem dX2_addToken_38 : decode cX2_addToken 38 = .ok (.aload_n 0, 1) := dq daX2_addToken_39_0 21 rfl
theorem dX2_addToken_39 : decode cX2_addToken 39 = .ok (.getfield 65, 3) := dq daX2_addToken_39_0 22 rfl
theorem dX2_addToken_42 : decode cX2_addToken 42 = .ok (.iload_n 2, 1) := dq daX2_addToken_39_0 23 rfl
theorem dX2_addToken_43 : decode cX2_addToken 43 = .ok (.iastore, 1) := dq daX2_addToken_39_0 24 rfl
theorem dX2_addToken_44 : decode cX2_addToken 44 = .ok (.aload_n 0, 1) := dq daX2_addToken_39_0 25 rfl
theorem dX2_addToken_45 : decode cX2_addToken 45 = .ok (.dup, 1) := dq daX2_addToken_39_0 26 rfl
theorem dX2_addToken_46 : decode cX2_addToken 46 = .ok (.getfield 65, 3) := dq daX2_addToken_39_0 27 rfl
theorem dX2_addToken_49 : decode cX2_addToken 49 = .ok (.iconst 1, 1) := dq daX2_addToken_39_0 28 rfl
theorem dX2_addToken_50 : decode cX2_addToken 50 = .ok (.iadd, 1) := dq daX2_addToken_39_0 29 rfl
theorem dX2_addToken_51 : decode cX2_addToken 51 = .ok (.putfield 65, 3) := dq daX2_addToken_39_0 30 rfl
def dtX2_stopOf_39_0 : List (Nat × Jvm.ClassFile.Instr × Nat) := [(0, .aload_n 0, 1), (1, .iload_n 2, 1), (2, .iaload, 1), (3, .istore_n 3, 1), (4, .iload_n 2, 1), (5, .iconst 1, 1), (6, .iadd, 1), (7, .istore 4, 2), (9, .iload_n 3, 1), (10, .invokestatic 79, 3), (13, .ifCond .eq 25, 3), (38, .iload_n 3, 1), (39, .invokestatic 82, 3), (42, .ifCond .eq 25, 3), (67, .iload_n 3, 1), (68, .bipush 60, 2), (70, .if_icmp .eq 9, 3), (79, .iload 4, 2), (81, .iload_n 1, 1), (82, .if_icmp .ge 15, 3), (97, .iload 4, 2), (99, .ireturn, 1), (85, .aload_n 0, 1), (86, .iload 4, 2), (88, .iaload, 1), (89, .bipush 61, 2), (91, .if_icmp .ne 6, 3), (94, .iinc 4 1, 3), (73, .iload_n 3, 1), (74, .bipush 62, 2), (76, .if_icmp .ne 21, 3), (45, .iload 4, 2)]
theorem daX2_stopOf_39_0 : dtX2_stopOf_39_0.all (dqd cX2_stopOf) = true := by decide +kernel
theorem dX2_stopOf_0 : decode cX2_stopOf 0 = .ok (.aload_n 0, 1) := dq daX2_stopOf_39_0 0 rfl
theorem dX2_stopOf_1 : decode cX2_stopOf 1 = .ok (.iload_n 2, 1) := dq daX2_stopOf_39_0 1 rfl
theorem dX2_stopOf_2 : decode cX2_stopOf 2 = .ok (.iaload, 1) := dq daX2_stopOf_39_0 2 rfl
theorem dX2_stopOf_3 : decode cX2_stopOf 3 = .ok (.istore_n 3, 1) := dq daX2_stopOf_39_0 3 rfl
theorem dX2_stopOf_4 : decode cX2_stopOf 4 = .ok (.iload_n 2, 1) := dq daX2_stopOf_39_0 4 rfl
theorem dX2_stopOf_5 : decode cX2_stopOf 5 = .ok (.iconst 1, 1) := dq daX2_stopOf_39_0 5 rfl
theorem dX2_stopOf_6 : decode cX2_stopOf 6 = .ok (.iadd, 1) := dq daX2_stopOf_39_0 6 rfl
theorem dX2_stopOf_7 : decode cX2_stopOf 7 = .ok (.istore 4, 2) := dq daX2_stopOf_39_0 7 rfl
theorem dX2_stopOf_9 : decode cX2_stopOf 9 = .ok (.iload_n 3, 1) := dq daX2_stopOf_39_0 8 rfl
theorem dX2_stopOf_10 : decode cX2_stopOf 10 = .ok (.invokestatic 79, 3) := dq daX2_stopOf_39_0 9 rfl
theorem dX2_stopOf_13 : decode cX2_stopOf 13 = .ok (.ifCond .eq 25, 3) := dq daX2_stopOf_39_0 10 rfl
theorem dX2_stopOf_38 : decode cX2_stopOf 38 = .ok (.iload_n 3, 1) := dq daX2_stopOf_39_0 11 rfl
theorem dX2_stopOf_39 : decode cX2_stopOf 39 = .ok (.invokestatic 82, 3) := dq daX2_stopOf_39_0 12 rfl
theorem dX2_stopOf_42 : decode cX2_stopOf 42 = .ok (.ifCond .eq 25, 3) := dq daX2_stopOf_39_0 13 rfl
theorem dX2_stopOf_67 : decode cX2_stopOf 67 = .ok (.iload_n 3, 1) := dq daX2_stopOf_39_0 14 rfl
theorem dX2_stopOf_68 : decode cX2_stopOf 68 = .ok (.bipush 60, 2) := dq daX2_stopOf_39_0 15 rfl
theorem dX2_stopOf_70 : decode cX2_stopOf 70 = .ok (.if_icmp .eq 9, 3) := dq daX2_stopOf_39_0 16 rfl
theorem dX2_stopOf_79 : decode cX2_stopOf 79 = .ok (.iload 4, 2) := dq daX2_stopOf_39_0 17 rfl
theorem dX2_stopOf_81 : decode cX2_stopOf 81 = .ok (.iload_n 1, 1) := dq daX2_stopOf_39_0 18 rfl
theorem dX2_stopOf_82 : decode cX2_stopOf 82 = .ok (.if_icmp .ge 15, 3) := dq daX2_stopOf_39_0 19 rfl
theorem dX2_stopOf_97 : decode cX2_stopOf 97 = .ok (.iload 4, 2) := dq daX2_stopOf_39_0 20 rfl
theorem dX2_stopOf_99 : decode cX2_stopOf 99 = .ok (.ireturn, 1) := dq daX2_stopOf_39_0 21 rfl
theorem dX2_stopOf_85 : decode cX2_stopOf 85 = .ok (.aload_n 0, 1) := dq daX2_stopOf_39_0 22 rfl
theorem dX2_stopOf_86 : decode cX2_stopOf 86 = .ok (.iload 4, 2) := dq daX2_stopOf_39_0 23 rfl
theorem dX2_stopOf_88 : decode cX2_stopOf 88 = .ok (.iaload, 1) := dq daX2_stopOf_39_0 24 rfl
theorem dX2_stopOf_89 : decode cX2_stopOf 89 = .ok (.bipush 61, 2) := dq daX2_stopOf_39_0 25 rfl
theorem dX2_stopOf_91 : decode cX2_stopOf 91 = .ok (.if_icmp .ne 6, 3) := dq daX2_stopOf_39_0 26 rfl
theorem dX2_stopOf_94 : decode cX2_stopOf 94 = .ok (.iinc 4 1, 3) := dq daX2_stopOf_39_0 27 rfl
theorem dX2_stopOf_73 : decode cX2_stopOf 73 = .ok (.iload_n 3, 1) := dq daX2_stopOf_39_0 28 rfl
theorem dX2_stopOf_74 : decode cX2_stopOf 74 = .ok (.bipush 62, 2) := dq daX2_stopOf_39_0 29 rfl
theorem dX2_stopOf_76 : decode cX2_stopOf 76 = .ok (.if_icmp .ne 21, 3) := dq daX2_stopOf_39_0 30 rfl
theorem dX2_stopOf_45 : decode cX2_stopOf 45 = .ok (.iload 4, 2) := dq daX2_stopOf_39_0 31 rfl
def dtX2_stopOf_39_1 : List (Nat × Jvm.ClassFile.Instr × Nat) := [(47, .iload_n 1, 1), (48, .if_icmp .ge 49, 3), (51, .aload_n 0, 1), (52, .iload 4, 2), (54, .iaload, 1), (55, .invokestatic 82, 3), (58, .ifCond .eq 39, 3), (61, .iinc 4 1, 3), (64, .goto (-19), 3), (16, .iload 4, 2), (18, .iload_n 1, 1), (19, .if_icmp .ge 78, 3), (22, .aload_n 0, 1), (23, .iload 4, 2), (25, .iaload, 1), (26, .invokestatic 79, 3), (29, .ifCond .eq 68, 3), (32, .iinc 4 1, 3), (35, .goto (-19), 3)]
theorem daX2_stopOf_39_1 : dtX2_stopOf_39_1.all (dqd cX2_stopOf) = true := by decide +kernel
theorem dX2_stopOf_47 : decode cX2_stopOf 47 = .ok (.iload_n 1, 1) := dq daX2_stopOf_39_1 0 rfl
theorem dX2_stopOf_48 : decode cX2_stopOf 48 = .ok (.if_icmp .ge 49, 3) := dq daX2_stopOf_39_1 1 rfl
theorem dX2_stopOf_51 : decode cX2_stopOf 51 = .ok (.aload_n 0, 1) := dq daX2_stopOf_39_1 2 rfl
theorem dX2_stopOf_52 : decode cX2_stopOf 52 = .ok (.iload 4, 2) := dq daX2_stopOf_39_1 3 rfl
theorem dX2_stopOf_54 : decode cX2_stopOf 54 = .ok (.iaload, 1) := dq daX2_stopOf_39_1 4 rfl
theorem dX2_stopOf_55 : decode cX2_stopOf 55 = .ok (.invokestatic 82, 3) := dq daX2_stopOf_39_1 5 rfl
theorem dX2_stopOf_58 : decode cX2_stopOf 58 = .ok (.ifCond .eq 39, 3) := dq daX2_stopOf_39_1 6 rfl
theorem dX2_stopOf_61 : decode cX2_stopOf 61 = .ok (.iinc 4 1, 3) := dq daX2_stopOf_39_1 7 rfl
theorem dX2_stopOf_64 : decode cX2_stopOf 64 = .ok (.goto (-19), 3) := dq daX2_stopOf_39_1 8 rfl
theorem dX2_stopOf_16 : decode cX2_stopOf 16 = .ok (.iload 4, 2) := dq daX2_stopOf_39_1 9 rfl
theorem dX2_stopOf_18 : decode cX2_stopOf 18 = .ok (.iload_n 1, 1) := dq daX2_stopOf_39_1 10 rfl
theorem dX2_stopOf_19 : decode cX2_stopOf 19 = .ok (.if_icmp .ge 78, 3) := dq daX2_stopOf_39_1 11 rfl
theorem dX2_stopOf_22 : decode cX2_stopOf 22 = .ok (.aload_n 0, 1) := dq daX2_stopOf_39_1 12 rfl
theorem dX2_stopOf_23 : decode cX2_stopOf 23 = .ok (.iload 4, 2) := dq daX2_stopOf_39_1 13 rfl
theorem dX2_stopOf_25 : decode cX2_stopOf 25 = .ok (.iaload, 1) := dq daX2_stopOf_39_1 14 rfl
theorem dX2_stopOf_26 : decode cX2_stopOf 26 = .ok (.invokestatic 79, 3) := dq daX2_stopOf_39_1 15 rfl
theorem dX2_stopOf_29 : decode cX2_stopOf 29 = .ok (.ifCond .eq 68, 3) := dq daX2_stopOf_39_1 16 rfl
theorem dX2_stopOf_32 : decode cX2_stopOf 32 = .ok (.iinc 4 1, 3) := dq daX2_stopOf_39_1 17 rfl
theorem dX2_stopOf_35 : decode cX2_stopOf 35 = .ok (.goto (-19), 3) := dq daX2_stopOf_39_1 18 rfl
def dtX2_numberToken_39_0 : List (Nat × Jvm.ClassFile.Instr × Nat) := [(0, .iload_n 2, 1), (1, .iload_n 1, 1), (2, .isub, 1), (3, .iconst 5, 1), (4, .if_icmp .le 7, 3), (11, .iconst 0, 1), (12, .istore_n 3, 1), (13, .iload_n 1, 1), (14, .istore 4, 2), (16, .iload 4, 2), (18, .iload_n 2, 1), (19, .if_icmp .ge 22, 3), (22, .iload_n 3, 1), (23, .bipush 10, 2), (25, .imul, 1), (26, .aload_n 0, 1), (27, .iload 4, 2), (29, .iaload, 1), (30, .bipush 48, 2), (32, .isub, 1), (33, .iadd, 1), (34, .istore_n 3, 1), (35, .iinc 4 1, 3), (38, .goto (-22), 3), (41, .sipush 1000, 3), (44, .iload_n 3, 1), (45, .iadd, 1), (46, .ireturn, 1), (7, .sipush 259, 3), (10, .ireturn, 1)]
theorem daX2_numberToken_39_0 : dtX2_numberToken_39_0.all (dqd cX2_numberToken) = true := by decide +kernel
theorem dX2_numberToken_0 : decode cX2_numberToken 0 = .ok (.iload_n 2, 1) := dq daX2_numberToken_39_0 0 rfl
theorem dX2_numberToken_1 : decode cX2_numberToken 1 = .ok (.iload_n 1, 1) := dq daX2_numberToken_39_0 1 rfl
theorem dX2_numberToken_2 : decode cX2_numberToken 2 = .ok (.isub, 1) := dq daX2_numberToken_39_0 2 rfl
theorem dX2_numberToken_3 : decode cX2_numberToken 3 = .ok (.iconst 5, 1) := dq daX2_numberToken_39_0 3 rfl
theorem dX2_numberToken_4 : decode cX2_numberToken 4 = .ok (.if_icmp .le 7, 3) := dq daX2_numberToken_39_0 4 rfl
theorem dX2_numberToken_11 : decode cX2_numberToken 11 = .ok (.iconst 0, 1) := dq daX2_numberToken_39_0 5 rfl
theorem dX2_numberToken_12 : decode cX2_numberToken 12 = .ok (.istore_n 3, 1) := dq daX2_numberToken_39_0 6 rfl
theorem dX2_numberToken_13 : decode cX2_numberToken 13 = .ok (.iload_n 1, 1) := dq daX2_numberToken_39_0 7 rfl
theorem dX2_numberToken_14 : decode cX2_numberToken 14 = .ok (.istore 4, 2) := dq daX2_numberToken_39_0 8 rfl
theorem dX2_numberToken_16 : decode cX2_numberToken 16 = .ok (.iload 4, 2) := dq daX2_numberToken_39_0 9 rfl
theorem dX2_numberToken_18 : decode cX2_numberToken 18 = .ok (.iload_n 2, 1) := dq daX2_numberToken_39_0 10 rfl
theorem dX2_numberToken_19 : decode cX2_numberToken 19 = .ok (.if_icmp .ge 22, 3) := dq daX2_numberToken_39_0 11 rfl
theorem dX2_numberToken_22 : decode cX2_numberToken 22 = .ok (.iload_n 3, 1) := dq daX2_numberToken_39_0 12 rfl
theorem dX2_numberToken_23 : decode cX2_numberToken 23 = .ok (.bipush 10, 2) := dq daX2_numberToken_39_0 13 rfl
theorem dX2_numberToken_25 : decode cX2_numberToken 25 = .ok (.imul, 1) := dq daX2_numberToken_39_0 14 rfl
theorem dX2_numberToken_26 : decode cX2_numberToken 26 = .ok (.aload_n 0, 1) := dq daX2_numberToken_39_0 15 rfl
theorem dX2_numberToken_27 : decode cX2_numberToken 27 = .ok (.iload 4, 2) := dq daX2_numberToken_39_0 16 rfl
theorem dX2_numberToken_29 : decode cX2_numberToken 29 = .ok (.iaload, 1) := dq daX2_numberToken_39_0 17 rfl
theorem dX2_numberToken_30 : decode cX2_numberToken 30 = .ok (.bipush 48, 2) := dq daX2_numberToken_39_0 18 rfl
theorem dX2_numberToken_32 : decode cX2_numberToken 32 = .ok (.isub, 1) := dq daX2_numberToken_39_0 19 rfl
theorem dX2_numberToken_33 : decode cX2_numberToken 33 = .ok (.iadd, 1) := dq daX2_numberToken_39_0 20 rfl
theorem dX2_numberToken_34 : decode cX2_numberToken 34 = .ok (.istore_n 3, 1) := dq daX2_numberToken_39_0 21 rfl
theorem dX2_numberToken_35 : decode cX2_numberToken 35 = .ok (.iinc 4 1, 3) := dq daX2_numberToken_39_0 22 rfl
theorem dX2_numberToken_38 : decode cX2_numberToken 38 = .ok (.goto (-22), 3) := dq daX2_numberToken_39_0 23 rfl
theorem dX2_numberToken_41 : decode cX2_numberToken 41 = .ok (.sipush 1000, 3) := dq daX2_numberToken_39_0 24 rfl
theorem dX2_numberToken_44 : decode cX2_numberToken 44 = .ok (.iload_n 3, 1) := dq daX2_numberToken_39_0 25 rfl
theorem dX2_numberToken_45 : decode cX2_numberToken 45 = .ok (.iadd, 1) := dq daX2_numberToken_39_0 26 rfl
theorem dX2_numberToken_46 : decode cX2_numberToken 46 = .ok (.ireturn, 1) := dq daX2_numberToken_39_0 27 rfl
theorem dX2_numberToken_7 : decode cX2_numberToken 7 = .ok (.sipush 259, 3) := dq daX2_numberToken_39_0 28 rfl
theorem dX2_numberToken_10 : decode cX2_numberToken 10 = .ok (.ireturn, 1) := dq daX2_numberToken_39_0 29 rfl
def dtJ0_coder_7d493_39_0 : List (Nat × Jvm.ClassFile.Instr × Nat) := [(0, .getstatic 38, 3), (3, .ifCond .eq 10, 3), (6, .aload_n 0, 1), (7, .getfield 15, 3), (10, .goto 4, 3), (14, .ireturn, 1)]
theorem daJ0_coder_7d493_39_0 : dtJ0_coder_7d493_39_0.all (dqd cJ0_coder_7d493) = true := by decide +kernel
theorem dJ0_coder_7d493_0 : decode cJ0_coder_7d493 0 = .ok (.getstatic 38, 3) := dq daJ0_coder_7d493_39_0 0 rfl
theorem dJ0_coder_7d493_3 : decode cJ0_coder_7d493 3 = .ok (.ifCond .eq 10, 3) := dq daJ0_coder_7d493_39_0 1 rfl
theorem dJ0_coder_7d493_6 : decode cJ0_coder_7d493 6 = .ok (.aload_n 0, 1) := dq daJ0_coder_7d493_39_0 2 rfl
theorem dJ0_coder_7d493_7 : decode cJ0_coder_7d493 7 = .ok (.getfield 15, 3) := dq daJ0_coder_7d493_39_0 3 rfl
theorem dJ0_coder_7d493_10 : decode cJ0_coder_7d493 10 = .ok (.goto 4, 3) := dq daJ0_coder_7d493_39_0 4 rfl
theorem dJ0_coder_7d493_14 : decode cJ0_coder_7d493 14 = .ok (.ireturn, 1) := dq daJ0_coder_7d493_39_0 5 rfl
def dtJ0_length_8abf5_39_0 : List (Nat × Jvm.ClassFile.Instr × Nat) := [(0, .aload_n 0, 1), (1, .getfield 9, 3), (4, .arraylength, 1), (5, .aload_n 0, 1), (6, .invokevirtual 335, 3), (9, .ishr, 1), (10, .ireturn, 1)]
theorem daJ0_length_8abf5_39_0 : dtJ0_length_8abf5_39_0.all (dqd cJ0_length_8abf5) = true := by decide +kernel
theorem dJ0_length_8abf5_0 : decode cJ0_length_8abf5 0 = .ok (.aload_n 0, 1) := dq daJ0_length_8abf5_39_0 0 rfl
theorem dJ0_length_8abf5_1 : decode cJ0_length_8abf5 1 = .ok (.getfield 9, 3) := dq daJ0_length_8abf5_39_0 1 rfl
theorem dJ0_length_8abf5_4 : decode cJ0_length_8abf5 4 = .ok (.arraylength, 1) := dq daJ0_length_8abf5_39_0 2 rfl
theorem dJ0_length_8abf5_5 : decode cJ0_length_8abf5 5 = .ok (.aload_n 0, 1) := dq daJ0_length_8abf5_39_0 3 rfl
theorem dJ0_length_8abf5_6 : decode cJ0_length_8abf5 6 = .ok (.invokevirtual 335, 3) := dq daJ0_length_8abf5_39_0 4 rfl
theorem dJ0_length_8abf5_9 : decode cJ0_length_8abf5 9 = .ok (.ishr, 1) := dq daJ0_length_8abf5_39_0 5 rfl
theorem dJ0_length_8abf5_10 : decode cJ0_length_8abf5 10 = .ok (.ireturn, 1) := dq daJ0_length_8abf5_39_0 6 rfl
def dtJ0_isLatin1_aae02_39_0 : List (Nat × Jvm.ClassFile.Instr × Nat) := [(0, .getstatic 38, 3), (3, .ifCond .eq 14, 3), (6, .aload_n 0, 1), (7, .getfield 15, 3), (10, .ifCond .ne 7, 3), (13, .iconst 1, 1), (14, .goto 4, 3), (18, .ireturn, 1)]
theorem daJ0_isLatin1_aae02_39_0 : dtJ0_isLatin1_aae02_39_0.all (dqd cJ0_isLatin1_aae02) = true := by decide +kernel
theorem dJ0_isLatin1_aae02_0 : decode cJ0_isLatin1_aae02 0 = .ok (.getstatic 38, 3) := dq daJ0_isLatin1_aae02_39_0 0 rfl
theorem dJ0_isLatin1_aae02_3 : decode cJ0_isLatin1_aae02 3 = .ok (.ifCond .eq 14, 3) := dq daJ0_isLatin1_aae02_39_0 1 rfl
theorem dJ0_isLatin1_aae02_6 : decode cJ0_isLatin1_aae02 6 = .ok (.aload_n 0, 1) := dq daJ0_isLatin1_aae02_39_0 2 rfl
theorem dJ0_isLatin1_aae02_7 : decode cJ0_isLatin1_aae02 7 = .ok (.getfield 15, 3) := dq daJ0_isLatin1_aae02_39_0 3 rfl
theorem dJ0_isLatin1_aae02_10 : decode cJ0_isLatin1_aae02 10 = .ok (.ifCond .ne 7, 3) := dq daJ0_isLatin1_aae02_39_0 4 rfl
theorem dJ0_isLatin1_aae02_13 : decode cJ0_isLatin1_aae02 13 = .ok (.iconst 1, 1) := dq daJ0_isLatin1_aae02_39_0 5 rfl
theorem dJ0_isLatin1_aae02_14 : decode cJ0_isLatin1_aae02 14 = .ok (.goto 4, 3) := dq daJ0_isLatin1_aae02_39_0 6 rfl
theorem dJ0_isLatin1_aae02_18 : decode cJ0_isLatin1_aae02 18 = .ok (.ireturn, 1) := dq daJ0_isLatin1_aae02_39_0 7 rfl
def dtJ3_checkIndex_8e157_39_0 : List (Nat × Jvm.ClassFile.Instr × Nat) := [(0, .iload_n 0, 1), (1, .ifCond .lt 8, 3), (4, .iload_n 0, 1), (5, .iload_n 1, 1), (6, .if_icmp .lt 10, 3), (16, .iload_n 0, 1), (17, .ireturn, 1)]
theorem daJ3_checkIndex_8e157_39_0 : dtJ3_checkIndex_8e157_39_0.all (dqd cJ3_checkIndex_8e157) = true := by decide +kernel
theorem dJ3_checkIndex_8e157_0 : decode cJ3_checkIndex_8e157 0 = .ok (.iload_n 0, 1) := dq daJ3_checkIndex_8e157_39_0 0 rfl
theorem dJ3_checkIndex_8e157_1 : decode cJ3_checkIndex_8e157 1 = .ok (.ifCond .lt 8, 3) := dq daJ3_checkIndex_8e157_39_0 1 rfl
theorem dJ3_checkIndex_8e157_4 : decode cJ3_checkIndex_8e157 4 = .ok (.iload_n 0, 1) := dq daJ3_checkIndex_8e157_39_0 2 rfl
theorem dJ3_checkIndex_8e157_5 : decode cJ3_checkIndex_8e157 5 = .ok (.iload_n 1, 1) := dq daJ3_checkIndex_8e157_39_0 3 rfl
theorem dJ3_checkIndex_8e157_6 : decode cJ3_checkIndex_8e157 6 = .ok (.if_icmp .lt 10, 3) := dq daJ3_checkIndex_8e157_39_0 4 rfl
theorem dJ3_checkIndex_8e157_16 : decode cJ3_checkIndex_8e157 16 = .ok (.iload_n 0, 1) := dq daJ3_checkIndex_8e157_39_0 5 rfl
theorem dJ3_checkIndex_8e157_17 : decode cJ3_checkIndex_8e157 17 = .ok (.ireturn, 1) := dq daJ3_checkIndex_8e157_39_0 6 rfl
def dtJ0_checkIndex_df160_39_0 : List (Nat × Jvm.ClassFile.Instr × Nat) := [(0, .iload_n 0, 1), (1, .iload_n 1, 1), (2, .getstatic 1053, 3), (5, .invokestatic 1059, 3), (8, .pop, 1), (9, .return_, 1)]
theorem daJ0_checkIndex_df160_39_0 : dtJ0_checkIndex_df160_39_0.all (dqd cJ0_checkIndex_df160) = true := by decide +kernel
theorem dJ0_checkIndex_df160_0 : decode cJ0_checkIndex_df160 0 = .ok (.iload_n 0, 1) := dq daJ0_checkIndex_df160_39_0 0 rfl
theorem dJ0_checkIndex_df160_1 : decode cJ0_checkIndex_df160 1 = .ok (.iload_n 1, 1) := dq daJ0_checkIndex_df160_39_0 1 rfl
theorem dJ0_checkIndex_df160_2 : decode cJ0_checkIndex_df160 2 = .ok (.getstatic 1053, 3) := dq daJ0_checkIndex_df160_39_0 2 rfl
theorem dJ0_checkIndex_df160_5 : decode cJ0_checkIndex_df160 5 = .ok (.invokestatic 1059, 3) := dq daJ0_checkIndex_df160_39_0 3 rfl
theorem dJ0_checkIndex_df160_8 : decode cJ0_checkIndex_df160 8 = .ok (.pop, 1) := dq daJ0_checkIndex_df160_39_0 4 rfl
theorem dJ0_checkIndex_df160_9 : decode cJ0_checkIndex_df160 9 = .ok (.return_, 1) := dq daJ0_checkIndex_df160_39_0 5 rfl
def dtJ1_charAt_3b067_39_0 : List (Nat × Jvm.ClassFile.Instr × Nat) := [(0, .iload_n 1, 1), (1, .aload_n 0, 1), (2, .arraylength, 1), (3, .invokestatic 9, 3), (6, .aload_n 0, 1), (7, .iload_n 1, 1), (8, .baload, 1), (9, .sipush 255, 3), (12, .iand, 1), (13, .i2c, 1), (14, .ireturn, 1)]
theorem daJ1_charAt_3b067_39_0 : dtJ1_charAt_3b067_39_0.all (dqd cJ1_charAt_3b067) = true := by decide +kernel
theorem dJ1_charAt_3b067_0 : decode cJ1_charAt_3b067 0 = .ok (.iload_n 1, 1) := dq daJ1_charAt_3b067_39_0 0 rfl
theorem dJ1_charAt_3b067_1 : decode cJ1_charAt_3b067 1 = .ok (.aload_n 0, 1) := dq daJ1_charAt_3b067_39_0 1 rfl
theorem dJ1_charAt_3b067_2 : decode cJ1_charAt_3b067 2 = .ok (.arraylength, 1) := dq daJ1_charAt_3b067_39_0 2 rfl
theorem dJ1_charAt_3b067_3 : decode cJ1_charAt_3b067 3 = .ok (.invokestatic 9, 3) := dq daJ1_charAt_3b067_39_0 3 rfl
theorem dJ1_charAt_3b067_6 : decode cJ1_charAt_3b067 6 = .ok (.aload_n 0, 1) := dq daJ1_charAt_3b067_39_0 4 rfl
theorem dJ1_charAt_3b067_7 : decode cJ1_charAt_3b067 7 = .ok (.iload_n 1, 1) := dq daJ1_charAt_3b067_39_0 5 rfl
theorem dJ1_charAt_3b067_8 : decode cJ1_charAt_3b067 8 = .ok (.baload, 1) := dq daJ1_charAt_3b067_39_0 6 rfl
theorem dJ1_charAt_3b067_9 : decode cJ1_charAt_3b067 9 = .ok (.sipush 255, 3) := dq daJ1_charAt_3b067_39_0 7 rfl
theorem dJ1_charAt_3b067_12 : decode cJ1_charAt_3b067 12 = .ok (.iand, 1) := dq daJ1_charAt_3b067_39_0 8 rfl
theorem dJ1_charAt_3b067_13 : decode cJ1_charAt_3b067 13 = .ok (.i2c, 1) := dq daJ1_charAt_3b067_39_0 9 rfl
theorem dJ1_charAt_3b067_14 : decode cJ1_charAt_3b067 14 = .ok (.ireturn, 1) := dq daJ1_charAt_3b067_39_0 10 rfl
def dtJ0_charAt_5068e_39_0 : List (Nat × Jvm.ClassFile.Instr × Nat) := [(0, .aload_n 0, 1), (1, .invokevirtual 492, 3), (4, .ifCond .eq 12, 3), (7, .aload_n 0, 1), (8, .getfield 9, 3), (11, .iload_n 1, 1), (12, .invokestatic 495, 3), (15, .ireturn, 1)]
theorem daJ0_charAt_5068e_39_0 : dtJ0_charAt_5068e_39_0.all (dqd cJ0_charAt_5068e) = true := by decide +kernel
theorem dJ0_charAt_5068e_0 : decode cJ0_charAt_5068e 0 = .ok (.aload_n 0, 1) := dq daJ0_charAt_5068e_39_0 0 rfl
theorem dJ0_charAt_5068e_1 : decode cJ0_charAt_5068e 1 = .ok (.invokevirtual 492, 3) := dq daJ0_charAt_5068e_39_0 1 rfl
theorem dJ0_charAt_5068e_4 : decode cJ0_charAt_5068e 4 = .ok (.ifCond .eq 12, 3) := dq daJ0_charAt_5068e_39_0 2 rfl
theorem dJ0_charAt_5068e_7 : decode cJ0_charAt_5068e 7 = .ok (.aload_n 0, 1) := dq daJ0_charAt_5068e_39_0 3 rfl
theorem dJ0_charAt_5068e_8 : decode cJ0_charAt_5068e 8 = .ok (.getfield 9, 3) := dq daJ0_charAt_5068e_39_0 4 rfl
theorem dJ0_charAt_5068e_11 : decode cJ0_charAt_5068e 11 = .ok (.iload_n 1, 1) := dq daJ0_charAt_5068e_39_0 5 rfl
theorem dJ0_charAt_5068e_12 : decode cJ0_charAt_5068e 12 = .ok (.invokestatic 495, 3) := dq daJ0_charAt_5068e_39_0 6 rfl
theorem dJ0_charAt_5068e_15 : decode cJ0_charAt_5068e 15 = .ok (.ireturn, 1) := dq daJ0_charAt_5068e_39_0 7 rfl
def dtX2_wordToken_39_0 : List (Nat × Jvm.ClassFile.Instr × Nat) := [(0, .sipush 300, 3), (3, .istore_n 3, 1), (4, .iload_n 1, 1), (5, .istore 4, 2), (7, .iconst 1, 1), (8, .istore 5, 2), (10, .iconst 0, 1), (11, .istore 6, 2), (13, .iload 6, 2), (15, .ldc 91, 2), (17, .invokevirtual 93, 3), (20, .if_icmp .ge 80, 3), (23, .ldc 91, 2), (25, .iload 6, 2), (27, .invokevirtual 98, 3), (30, .istore 7, 2), (32, .iload 7, 2), (34, .bipush 32, 2), (36, .if_icmp .eq 36, 3), (72, .iload 5, 2), (74, .ifCond .eq 11, 3), (77, .iload 4, 2), (79, .iload_n 2, 1), (80, .if_icmp .ne 5, 3), (85, .iinc 3 1, 3), (88, .iload_n 1, 1), (89, .istore 4, 2), (91, .iconst 1, 1), (92, .istore 5, 2), (94, .iinc 6 1, 3), (97, .goto (-84), 3), (39, .iload 5, 2)]
theorem daX2_wordToken_39_0 : dtX2_wordToken_39_0.all (dqd cX2_wordToken) = true := by decide +kernel
theorem dX2_wordToken_0 : decode cX2_wordToken 0 = .ok (.sipush 300, 3) := dq daX2_wordToken_39_0 0 rfl
theorem dX2_wordToken_3 : decode cX2_wordToken 3 = .ok (.istore_n 3, 1) := dq daX2_wordToken_39_0 1 rfl
theorem dX2_wordToken_4 : decode cX2_wordToken 4 = .ok (.iload_n 1, 1) := dq daX2_wordToken_39_0 2 rfl
theorem dX2_wordToken_5 : decode cX2_wordToken 5 = .ok (.istore 4, 2) := dq daX2_wordToken_39_0 3 rfl
theorem dX2_wordToken_7 : decode cX2_wordToken 7 = .ok (.iconst 1, 1) := dq daX2_wordToken_39_0 4 rfl
theorem dX2_wordToken_8 : decode cX2_wordToken 8 = .ok (.istore 5, 2) := dq daX2_wordToken_39_0 5 rfl
theorem dX2_wordToken_10 : decode cX2_wordToken 10 = .ok (.iconst 0, 1) := dq daX2_wordToken_39_0 6 rfl
theorem dX2_wordToken_11 : decode cX2_wordToken 11 = .ok (.istore 6, 2) := dq daX2_wordToken_39_0 7 rfl
theorem dX2_wordToken_13 : decode cX2_wordToken 13 = .ok (.iload 6, 2) := dq daX2_wordToken_39_0 8 rfl
theorem dX2_wordToken_15 : decode cX2_wordToken 15 = .ok (.ldc 91, 2) := dq daX2_wordToken_39_0 9 rfl
theorem dX2_wordToken_17 : decode cX2_wordToken 17 = .ok (.invokevirtual 93, 3) := dq daX2_wordToken_39_0 10 rfl
theorem dX2_wordToken_20 : decode cX2_wordToken 20 = .ok (.if_icmp .ge 80, 3) := dq daX2_wordToken_39_0 11 rfl
theorem dX2_wordToken_23 : decode cX2_wordToken 23 = .ok (.ldc 91, 2) := dq daX2_wordToken_39_0 12 rfl
theorem dX2_wordToken_25 : decode cX2_wordToken 25 = .ok (.iload 6, 2) := dq daX2_wordToken_39_0 13 rfl
theorem dX2_wordToken_27 : decode cX2_wordToken 27 = .ok (.invokevirtual 98, 3) := dq daX2_wordToken_39_0 14 rfl
theorem dX2_wordToken_30 : decode cX2_wordToken 30 = .ok (.istore 7, 2) := dq daX2_wordToken_39_0 15 rfl
theorem dX2_wordToken_32 : decode cX2_wordToken 32 = .ok (.iload 7, 2) := dq daX2_wordToken_39_0 16 rfl
theorem dX2_wordToken_34 : decode cX2_wordToken 34 = .ok (.bipush 32, 2) := dq daX2_wordToken_39_0 17 rfl
theorem dX2_wordToken_36 : decode cX2_wordToken 36 = .ok (.if_icmp .eq 36, 3) := dq daX2_wordToken_39_0 18 rfl
theorem dX2_wordToken_72 : decode cX2_wordToken 72 = .ok (.iload 5, 2) := dq daX2_wordToken_39_0 19 rfl
theorem dX2_wordToken_74 : decode cX2_wordToken 74 = .ok (.ifCond .eq 11, 3) := dq daX2_wordToken_39_0 20 rfl
theorem dX2_wordToken_77 : decode cX2_wordToken 77 = .ok (.iload 4, 2) := dq daX2_wordToken_39_0 21 rfl
theorem dX2_wordToken_79 : decode cX2_wordToken 79 = .ok (.iload_n 2, 1) := dq daX2_wordToken_39_0 22 rfl
theorem dX2_wordToken_80 : decode cX2_wordToken 80 = .ok (.if_icmp .ne 5, 3) := dq daX2_wordToken_39_0 23 rfl
theorem dX2_wordToken_85 : decode cX2_wordToken 85 = .ok (.iinc 3 1, 3) := dq daX2_wordToken_39_0 24 rfl
theorem dX2_wordToken_88 : decode cX2_wordToken 88 = .ok (.iload_n 1, 1) := dq daX2_wordToken_39_0 25 rfl
theorem dX2_wordToken_89 : decode cX2_wordToken 89 = .ok (.istore 4, 2) := dq daX2_wordToken_39_0 26 rfl
theorem dX2_wordToken_91 : decode cX2_wordToken 91 = .ok (.iconst 1, 1) := dq daX2_wordToken_39_0 27 rfl
theorem dX2_wordToken_92 : decode cX2_wordToken 92 = .ok (.istore 5, 2) := dq daX2_wordToken_39_0 28 rfl
theorem dX2_wordToken_94 : decode cX2_wordToken 94 = .ok (.iinc 6 1, 3) := dq daX2_wordToken_39_0 29 rfl
theorem dX2_wordToken_97 : decode cX2_wordToken 97 = .ok (.goto (-84), 3) := dq daX2_wordToken_39_0 30 rfl
theorem dX2_wordToken_39 : decode cX2_wordToken 39 = .ok (.iload 5, 2) := dq daX2_wordToken_39_0 31 rfl
def dtX2_wordToken_39_1 : List (Nat × Jvm.ClassFile.Instr × Nat) := [(41, .ifCond .eq 22, 3), (44, .iload 4, 2), (46, .iload_n 2, 1), (47, .if_icmp .ge 16, 3), (63, .iconst 0, 1), (64, .istore 5, 2), (66, .iinc 4 1, 3), (69, .goto 25, 3), (50, .aload_n 0, 1), (51, .iload 4, 2), (53, .iaload, 1), (54, .iload 7, 2), (56, .if_icmp .ne 7, 3), (59, .iconst 1, 1), (60, .goto 4, 3), (83, .iload_n 3, 1), (84, .ireturn, 1), (100, .sipush 260, 3), (103, .ireturn, 1)]
theorem daX2_wordToken_39_1 : dtX2_wordToken_39_1.all (dqd cX2_wordToken) = true := by decide +kernel
theorem dX2_wordToken_41 : decode cX2_wordToken 41 = .ok (.ifCond .eq 22, 3) := dq daX2_wordToken_39_1 0 rfl
theorem dX2_wordToken_44 : decode cX2_wordToken 44 = .ok (.iload 4, 2) := dq daX2_wordToken_39_1 1 rfl
theorem dX2_wordToken_46 : decode cX2_wordToken 46 = .ok (.iload_n 2, 1) := dq daX2_wordToken_39_1 2 rfl
theorem dX2_wordToken_47 : decode cX2_wordToken 47 = .ok (.if_icmp .ge 16, 3) := dq daX2_wordToken_39_1 3 rfl
theorem dX2_wordToken_63 : decode cX2_wordToken 63 = .ok (.iconst 0, 1) := dq daX2_wordToken_39_1 4 rfl
theorem dX2_wordToken_64 : decode cX2_wordToken 64 = .ok (.istore 5, 2) := dq daX2_wordToken_39_1 5 rfl
theorem dX2_wordToken_66 : decode cX2_wordToken 66 = .ok (.iinc 4 1, 3) := dq daX2_wordToken_39_1 6 rfl
theorem dX2_wordToken_69 : decode cX2_wordToken 69 = .ok (.goto 25, 3) := dq daX2_wordToken_39_1 7 rfl
theorem dX2_wordToken_50 : decode cX2_wordToken 50 = .ok (.aload_n 0, 1) := dq daX2_wordToken_39_1 8 rfl
theorem dX2_wordToken_51 : decode cX2_wordToken 51 = .ok (.iload 4, 2) := dq daX2_wordToken_39_1 9 rfl
theorem dX2_wordToken_53 : decode cX2_wordToken 53 = .ok (.iaload, 1) := dq daX2_wordToken_39_1 10 rfl
theorem dX2_wordToken_54 : decode cX2_wordToken 54 = .ok (.iload 7, 2) := dq daX2_wordToken_39_1 11 rfl
theorem dX2_wordToken_56 : decode cX2_wordToken 56 = .ok (.if_icmp .ne 7, 3) := dq daX2_wordToken_39_1 12 rfl
theorem dX2_wordToken_59 : decode cX2_wordToken 59 = .ok (.iconst 1, 1) := dq daX2_wordToken_39_1 13 rfl
theorem dX2_wordToken_60 : decode cX2_wordToken 60 = .ok (.goto 4, 3) := dq daX2_wordToken_39_1 14 rfl
theorem dX2_wordToken_83 : decode cX2_wordToken 83 = .ok (.iload_n 3, 1) := dq daX2_wordToken_39_1 15 rfl
theorem dX2_wordToken_84 : decode cX2_wordToken 84 = .ok (.ireturn, 1) := dq daX2_wordToken_39_1 16 rfl
theorem dX2_wordToken_100 : decode cX2_wordToken 100 = .ok (.sipush 260, 3) := dq daX2_wordToken_39_1 17 rfl
theorem dX2_wordToken_103 : decode cX2_wordToken 103 = .ok (.ireturn, 1) := dq daX2_wordToken_39_1 18 rfl
def dtX2_tokenOf_39_0 : List (Nat × Jvm.ClassFile.Instr × Nat) := [(0, .aload_n 0, 1), (1, .iload_n 1, 1), (2, .iaload, 1), (3, .istore_n 3, 1), (4, .iload_n 3, 1), (5, .invokestatic 79, 3), (8, .ifCond .eq 10, 3), (18, .iload_n 3, 1), (19, .invokestatic 82, 3), (22, .ifCond .eq 10, 3), (32, .iload_n 2, 1), (33, .iload_n 1, 1), (34, .isub, 1), (35, .iconst 2, 1), (36, .if_icmp .ne 19, 3), (55, .iload_n 3, 1), (56, .ireturn, 1), (39, .iload_n 3, 1), (40, .bipush 60, 2), (42, .if_icmp .ne 9, 3), (51, .sipush 257, 3), (54, .ireturn, 1), (45, .sipush 256, 3), (48, .goto 6, 3), (25, .aload_n 0, 1), (26, .iload_n 1, 1), (27, .iload_n 2, 1), (28, .invokestatic 88, 3), (31, .ireturn, 1), (11, .aload_n 0, 1), (12, .iload_n 1, 1), (13, .iload_n 2, 1)]
theorem daX2_tokenOf_39_0 : dtX2_tokenOf_39_0.all (dqd cX2_tokenOf) = true := by decide +kernel
theorem dX2_tokenOf_0 : decode cX2_tokenOf 0 = .ok (.aload_n 0, 1) := dq daX2_tokenOf_39_0 0 rfl
theorem dX2_tokenOf_1 : decode cX2_tokenOf 1 = .ok (.iload_n 1, 1) := dq daX2_tokenOf_39_0 1 rfl
theorem dX2_tokenOf_2 : decode cX2_tokenOf 2 = .ok (.iaload, 1) := dq daX2_tokenOf_39_0 2 rfl
theorem dX2_tokenOf_3 : decode cX2_tokenOf 3 = .ok (.istore_n 3, 1) := dq daX2_tokenOf_39_0 3 rfl
theorem dX2_tokenOf_4 : decode cX2_tokenOf 4 = .ok (.iload_n 3, 1) := dq daX2_tokenOf_39_0 4 rfl
theorem dX2_tokenOf_5 : decode cX2_tokenOf 5 = .ok (.invokestatic 79, 3) := dq daX2_tokenOf_39_0 5 rfl
theorem dX2_tokenOf_8 : decode cX2_tokenOf 8 = .ok (.ifCond .eq 10, 3) := dq daX2_tokenOf_39_0 6 rfl
theorem dX2_tokenOf_18 : decode cX2_tokenOf 18 = .ok (.iload_n 3, 1) := dq daX2_tokenOf_39_0 7 rfl
theorem dX2_tokenOf_19 : decode cX2_tokenOf 19 = .ok (.invokestatic 82, 3) := dq daX2_tokenOf_39_0 8 rfl
theorem dX2_tokenOf_22 : decode cX2_tokenOf 22 = .ok (.ifCond .eq 10, 3) := dq daX2_tokenOf_39_0 9 rfl
theorem dX2_tokenOf_32 : decode cX2_tokenOf 32 = .ok (.iload_n 2, 1) := dq daX2_tokenOf_39_0 10 rfl
theorem dX2_tokenOf_33 : decode cX2_tokenOf 33 = .ok (.iload_n 1, 1) := dq daX2_tokenOf_39_0 11 rfl
theorem dX2_tokenOf_34 : decode cX2_tokenOf 34 = .ok (.isub, 1) := dq daX2_tokenOf_39_0 12 rfl
theorem dX2_tokenOf_35 : decode cX2_tokenOf 35 = .ok (.iconst 2, 1) := dq daX2_tokenOf_39_0 13 rfl
theorem dX2_tokenOf_36 : decode cX2_tokenOf 36 = .ok (.if_icmp .ne 19, 3) := dq daX2_tokenOf_39_0 14 rfl
theorem dX2_tokenOf_55 : decode cX2_tokenOf 55 = .ok (.iload_n 3, 1) := dq daX2_tokenOf_39_0 15 rfl
theorem dX2_tokenOf_56 : decode cX2_tokenOf 56 = .ok (.ireturn, 1) := dq daX2_tokenOf_39_0 16 rfl
theorem dX2_tokenOf_39 : decode cX2_tokenOf 39 = .ok (.iload_n 3, 1) := dq daX2_tokenOf_39_0 17 rfl
theorem dX2_tokenOf_40 : decode cX2_tokenOf 40 = .ok (.bipush 60, 2) := dq daX2_tokenOf_39_0 18 rfl
theorem dX2_tokenOf_42 : decode cX2_tokenOf 42 = .ok (.if_icmp .ne 9, 3) := dq daX2_tokenOf_39_0 19 rfl
theorem dX2_tokenOf_51 : decode cX2_tokenOf 51 = .ok (.sipush 257, 3) := dq daX2_tokenOf_39_0 20 rfl
theorem dX2_tokenOf_54 : decode cX2_tokenOf 54 = .ok (.ireturn, 1) := dq daX2_tokenOf_39_0 21 rfl
theorem dX2_tokenOf_45 : decode cX2_tokenOf 45 = .ok (.sipush 256, 3) := dq daX2_tokenOf_39_0 22 rfl
theorem dX2_tokenOf_48 : decode cX2_tokenOf 48 = .ok (.goto 6, 3) := dq daX2_tokenOf_39_0 23 rfl
theorem dX2_tokenOf_25 : decode cX2_tokenOf 25 = .ok (.aload_n 0, 1) := dq daX2_tokenOf_39_0 24 rfl
theorem dX2_tokenOf_26 : decode cX2_tokenOf 26 = .ok (.iload_n 1, 1) := dq daX2_tokenOf_39_0 25 rfl
theorem dX2_tokenOf_27 : decode cX2_tokenOf 27 = .ok (.iload_n 2, 1) := dq daX2_tokenOf_39_0 26 rfl
theorem dX2_tokenOf_28 : decode cX2_tokenOf 28 = .ok (.invokestatic 88, 3) := dq daX2_tokenOf_39_0 27 rfl
theorem dX2_tokenOf_31 : decode cX2_tokenOf 31 = .ok (.ireturn, 1) := dq daX2_tokenOf_39_0 28 rfl
theorem dX2_tokenOf_11 : decode cX2_tokenOf 11 = .ok (.aload_n 0, 1) := dq daX2_tokenOf_39_0 29 rfl
theorem dX2_tokenOf_12 : decode cX2_tokenOf 12 = .ok (.iload_n 1, 1) := dq daX2_tokenOf_39_0 30 rfl
theorem dX2_tokenOf_13 : decode cX2_tokenOf 13 = .ok (.iload_n 2, 1) := dq daX2_tokenOf_39_0 31 rfl
def dtX2_tokenOf_39_1 : List (Nat × Jvm.ClassFile.Instr × Nat) := [(14, .invokestatic 85, 3), (17, .ireturn, 1)]
theorem daX2_tokenOf_39_1 : dtX2_tokenOf_39_1.all (dqd cX2_tokenOf) = true := by decide +kernel
theorem dX2_tokenOf_14 : decode cX2_tokenOf 14 = .ok (.invokestatic 85, 3) := dq daX2_tokenOf_39_1 0 rfl
theorem dX2_tokenOf_17 : decode cX2_tokenOf 17 = .ok (.ireturn, 1) := dq daX2_tokenOf_39_1 1 rfl
def dtX2_cut_39_0 : List (Nat × Jvm.ClassFile.Instr × Nat) := [(0, .aload_n 0, 1), (1, .iconst 0, 1), (2, .putfield 65, 3), (5, .iconst 0, 1), (6, .istore_n 3, 1), (7, .iconst 0, 1), (8, .istore 4, 2), (10, .iload 4, 2), (12, .iload_n 2, 1), (13, .if_icmp .ge 45, 3), (16, .iload 4, 2), (18, .iload_n 3, 1), (19, .if_icmp .lt 33, 3), (22, .aload_n 1, 1), (23, .iload 4, 2), (25, .iaload, 1), (26, .bipush 32, 2), (28, .if_icmp .eq 24, 3), (52, .iinc 4 1, 3), (55, .goto (-45), 3), (31, .aload_n 1, 1), (32, .iload_n 2, 1), (33, .iload 4, 2), (35, .invokestatic 68, 3), (38, .istore_n 3, 1), (39, .aload_n 0, 1), (40, .aload_n 1, 1), (41, .iload 4, 2), (43, .iload_n 3, 1), (44, .invokestatic 72, 3), (47, .iload 4, 2), (49, .invokevirtual 75, 3)]
theorem daX2_cut_39_0 : dtX2_cut_39_0.all (dqd cX2_cut) = true := by decide +kernel
theorem dX2_cut_0 : decode cX2_cut 0 = .ok (.aload_n 0, 1) := dq daX2_cut_39_0 0 rfl
theorem dX2_cut_1 : decode cX2_cut 1 = .ok (.iconst 0, 1) := dq daX2_cut_39_0 1 rfl
theorem dX2_cut_2 : decode cX2_cut 2 = .ok (.putfield 65, 3) := dq daX2_cut_39_0 2 rfl
theorem dX2_cut_5 : decode cX2_cut 5 = .ok (.iconst 0, 1) := dq daX2_cut_39_0 3 rfl
theorem dX2_cut_6 : decode cX2_cut 6 = .ok (.istore_n 3, 1) := dq daX2_cut_39_0 4 rfl
theorem dX2_cut_7 : decode cX2_cut 7 = .ok (.iconst 0, 1) := dq daX2_cut_39_0 5 rfl
theorem dX2_cut_8 : decode cX2_cut 8 = .ok (.istore 4, 2) := dq daX2_cut_39_0 6 rfl
theorem dX2_cut_10 : decode cX2_cut 10 = .ok (.iload 4, 2) := dq daX2_cut_39_0 7 rfl
theorem dX2_cut_12 : decode cX2_cut 12 = .ok (.iload_n 2, 1) := dq daX2_cut_39_0 8 rfl
theorem dX2_cut_13 : decode cX2_cut 13 = .ok (.if_icmp .ge 45, 3) := dq daX2_cut_39_0 9 rfl
theorem dX2_cut_16 : decode cX2_cut 16 = .ok (.iload 4, 2) := dq daX2_cut_39_0 10 rfl
theorem dX2_cut_18 : decode cX2_cut 18 = .ok (.iload_n 3, 1) := dq daX2_cut_39_0 11 rfl
theorem dX2_cut_19 : decode cX2_cut 19 = .ok (.if_icmp .lt 33, 3) := dq daX2_cut_39_0 12 rfl
theorem dX2_cut_22 : decode cX2_cut 22 = .ok (.aload_n 1, 1) := dq daX2_cut_39_0 13 rfl
theorem dX2_cut_23 : decode cX2_cut 23 = .ok (.iload 4, 2) := dq daX2_cut_39_0 14 rfl
theorem dX2_cut_25 : decode cX2_cut 25 = .ok (.iaload, 1) := dq daX2_cut_39_0 15 rfl
theorem dX2_cut_26 : decode cX2_cut 26 = .ok (.bipush 32, 2) := dq daX2_cut_39_0 16 rfl
theorem dX2_cut_28 : decode cX2_cut 28 = .ok (.if_icmp .eq 24, 3) := dq daX2_cut_39_0 17 rfl
theorem dX2_cut_52 : decode cX2_cut 52 = .ok (.iinc 4 1, 3) := dq daX2_cut_39_0 18 rfl
theorem dX2_cut_55 : decode cX2_cut 55 = .ok (.goto (-45), 3) := dq daX2_cut_39_0 19 rfl
theorem dX2_cut_31 : decode cX2_cut 31 = .ok (.aload_n 1, 1) := dq daX2_cut_39_0 20 rfl
theorem dX2_cut_32 : decode cX2_cut 32 = .ok (.iload_n 2, 1) := dq daX2_cut_39_0 21 rfl
theorem dX2_cut_33 : decode cX2_cut 33 = .ok (.iload 4, 2) := dq daX2_cut_39_0 22 rfl
theorem dX2_cut_35 : decode cX2_cut 35 = .ok (.invokestatic 68, 3) := dq daX2_cut_39_0 23 rfl
theorem dX2_cut_38 : decode cX2_cut 38 = .ok (.istore_n 3, 1) := dq daX2_cut_39_0 24 rfl
theorem dX2_cut_39 : decode cX2_cut 39 = .ok (.aload_n 0, 1) := dq daX2_cut_39_0 25 rfl
theorem dX2_cut_40 : decode cX2_cut 40 = .ok (.aload_n 1, 1) := dq daX2_cut_39_0 26 rfl
theorem dX2_cut_41 : decode cX2_cut 41 = .ok (.iload 4, 2) := dq daX2_cut_39_0 27 rfl
theorem dX2_cut_43 : decode cX2_cut 43 = .ok (.iload_n 3, 1) := dq daX2_cut_39_0 28 rfl
theorem dX2_cut_44 : decode cX2_cut 44 = .ok (.invokestatic 72, 3) := dq daX2_cut_39_0 29 rfl
theorem dX2_cut_47 : decode cX2_cut 47 = .ok (.iload 4, 2) := dq daX2_cut_39_0 30 rfl
theorem dX2_cut_49 : decode cX2_cut 49 = .ok (.invokevirtual 75, 3) := dq daX2_cut_39_0 31 rfl
def dtX2_cut_39_1 : List (Nat × Jvm.ClassFile.Instr × Nat) := [(58, .aload_n 0, 1), (59, .sipush 258, 3), (62, .iload_n 2, 1), (63, .invokevirtual 75, 3), (66, .return_, 1)]
theorem daX2_cut_39_1 : dtX2_cut_39_1.all (dqd cX2_cut) = true := by decide +kernel
theorem dX2_cut_58 : decode cX2_cut 58 = .ok (.aload_n 0, 1) := dq daX2_cut_39_1 0 rfl
theorem dX2_cut_59 : decode cX2_cut 59 = .ok (.sipush 258, 3) := dq daX2_cut_39_1 1 rfl
theorem dX2_cut_62 : decode cX2_cut 62 = .ok (.iload_n 2, 1) := dq daX2_cut_39_1 2 rfl
theorem dX2_cut_63 : decode cX2_cut 63 = .ok (.invokevirtual 75, 3) := dq daX2_cut_39_1 3 rfl
theorem dX2_cut_66 : decode cX2_cut 66 = .ok (.return_, 1) := dq daX2_cut_39_1 4 rfl
def dtX2_token_39_0 : List (Nat × Jvm.ClassFile.Instr × Nat) := [(0, .aload_n 0, 1), (1, .getfield 37, 3), (4, .ifCond .lt 38, 3), (42, .sipush 258, 3), (45, .ireturn, 1), (7, .aload_n 0, 1), (8, .getfield 37, 3), (11, .aload_n 0, 1), (12, .getfield 65, 3), (15, .if_icmp .ge 27, 3), (18, .aload_n 0, 1), (19, .getfield 37, 3), (22, .aload_n 0, 1), (23, .getfield 13, 3), (26, .arraylength, 1), (27, .if_icmp .ge 15, 3), (30, .aload_n 0, 1), (31, .getfield 13, 3), (34, .aload_n 0, 1), (35, .getfield 37, 3), (38, .iaload, 1), (39, .goto 6, 3)]
theorem daX2_token_39_0 : dtX2_token_39_0.all (dqd cX2_token) = true := by decide +kernel
theorem dX2_token_0 : decode cX2_token 0 = .ok (.aload_n 0, 1) := dq daX2_token_39_0 0 rfl
theorem dX2_token_1 : decode cX2_token 1 = .ok (.getfield 37, 3) := dq daX2_token_39_0 1 rfl
theorem dX2_token_4 : decode cX2_token 4 = .ok (.ifCond .lt 38, 3) := dq daX2_token_39_0 2 rfl
theorem dX2_token_42 : decode cX2_token 42 = .ok (.sipush 258, 3) := dq daX2_token_39_0 3 rfl
theorem dX2_token_45 : decode cX2_token 45 = .ok (.ireturn, 1) := dq daX2_token_39_0 4 rfl
theorem dX2_token_7 : decode cX2_token 7 = .ok (.aload_n 0, 1) := dq daX2_token_39_0 5 rfl
theorem dX2_token_8 : decode cX2_token 8 = .ok (.getfield 37, 3) := dq daX2_token_39_0 6 rfl
theorem dX2_token_11 : decode cX2_token 11 = .ok (.aload_n 0, 1) := dq daX2_token_39_0 7 rfl
theorem dX2_token_12 : decode cX2_token 12 = .ok (.getfield 65, 3) := dq daX2_token_39_0 8 rfl
theorem dX2_token_15 : decode cX2_token 15 = .ok (.if_icmp .ge 27, 3) := dq daX2_token_39_0 9 rfl
theorem dX2_token_18 : decode cX2_token 18 = .ok (.aload_n 0, 1) := dq daX2_token_39_0 10 rfl
theorem dX2_token_19 : decode cX2_token 19 = .ok (.getfield 37, 3) := dq daX2_token_39_0 11 rfl
theorem dX2_token_22 : decode cX2_token 22 = .ok (.aload_n 0, 1) := dq daX2_token_39_0 12 rfl
theorem dX2_token_23 : decode cX2_token 23 = .ok (.getfield 13, 3) := dq daX2_token_39_0 13 rfl
theorem dX2_token_26 : decode cX2_token 26 = .ok (.arraylength, 1) := dq daX2_token_39_0 14 rfl
theorem dX2_token_27 : decode cX2_token 27 = .ok (.if_icmp .ge 15, 3) := dq daX2_token_39_0 15 rfl
theorem dX2_token_30 : decode cX2_token 30 = .ok (.aload_n 0, 1) := dq daX2_token_39_0 16 rfl
theorem dX2_token_31 : decode cX2_token 31 = .ok (.getfield 13, 3) := dq daX2_token_39_0 17 rfl
theorem dX2_token_34 : decode cX2_token 34 = .ok (.aload_n 0, 1) := dq daX2_token_39_0 18 rfl
theorem dX2_token_35 : decode cX2_token 35 = .ok (.getfield 37, 3) := dq daX2_token_39_0 19 rfl
theorem dX2_token_38 : decode cX2_token 38 = .ok (.iaload, 1) := dq daX2_token_39_0 20 rfl
theorem dX2_token_39 : decode cX2_token 39 = .ok (.goto 6, 3) := dq daX2_token_39_0 21 rfl
def dtX2_refuse_39_0 : List (Nat × Jvm.ClassFile.Instr × Nat) := [(0, .aload_n 0, 1), (1, .getfield 37, 3), (4, .ifCond .lt 27, 3), (31, .iconst 0, 1), (32, .istore_n 2, 1), (33, .aload_n 0, 1), (34, .iconst 1, 1), (35, .bipush 8, 2), (37, .iload_n 2, 1), (38, .imul, 1), (39, .iadd, 1), (40, .iload_n 1, 1), (41, .iadd, 1), (42, .putfield 41, 3), (45, .iconst 0, 1), (7, .aload_n 0, 1), (8, .getfield 37, 3), (11, .aload_n 0, 1), (12, .getfield 17, 3), (15, .arraylength, 1), (16, .if_icmp .ge 15, 3), (19, .aload_n 0, 1), (20, .getfield 17, 3), (23, .aload_n 0, 1), (24, .getfield 37, 3), (27, .iaload, 1), (28, .goto 4, 3), (46, .ireturn, 1)]
theorem daX2_refuse_39_0 : dtX2_refuse_39_0.all (dqd cX2_refuse) = true := by decide +kernel
theorem dX2_refuse_0 : decode cX2_refuse 0 = .ok (.aload_n 0, 1) := dq daX2_refuse_39_0 0 rfl
theorem dX2_refuse_1 : decode cX2_refuse 1 = .ok (.getfield 37, 3) := dq daX2_refuse_39_0 1 rfl
theorem dX2_refuse_4 : decode cX2_refuse 4 = .ok (.ifCond .lt 27, 3) := dq daX2_refuse_39_0 2 rfl
theorem dX2_refuse_31 : decode cX2_refuse 31 = .ok (.iconst 0, 1) := dq daX2_refuse_39_0 3 rfl
theorem dX2_refuse_32 : decode cX2_refuse 32 = .ok (.istore_n 2, 1) := dq daX2_refuse_39_0 4 rfl
theorem dX2_refuse_33 : decode cX2_refuse 33 = .ok (.aload_n 0, 1) := dq daX2_refuse_39_0 5 rfl
theorem dX2_refuse_34 : decode cX2_refuse 34 = .ok (.iconst 1, 1) := dq daX2_refuse_39_0 6 rfl
theorem dX2_refuse_35 : decode cX2_refuse 35 = .ok (.bipush 8, 2) := dq daX2_refuse_39_0 7 rfl
theorem dX2_refuse_37 : decode cX2_refuse 37 = .ok (.iload_n 2, 1) := dq daX2_refuse_39_0 8 rfl
theorem dX2_refuse_38 : decode cX2_refuse 38 = .ok (.imul, 1) := dq daX2_refuse_39_0 9 rfl
theorem dX2_refuse_39 : decode cX2_refuse 39 = .ok (.iadd, 1) := dq daX2_refuse_39_0 10 rfl
theorem dX2_refuse_40 : decode cX2_refuse 40 = .ok (.iload_n 1, 1) := dq daX2_refuse_39_0 11 rfl
theorem dX2_refuse_41 : decode cX2_refuse 41 = .ok (.iadd, 1) := dq daX2_refuse_39_0 12 rfl
theorem dX2_refuse_42 : decode cX2_refuse 42 = .ok (.putfield 41, 3) := dq daX2_refuse_39_0 13 rfl
theorem dX2_refuse_45 : decode cX2_refuse 45 = .ok (.iconst 0, 1) := dq daX2_refuse_39_0 14 rfl
theorem dX2_refuse_7 : decode cX2_refuse 7 = .ok (.aload_n 0, 1) := dq daX2_refuse_39_0 15 rfl
theorem dX2_refuse_8 : decode cX2_refuse 8 = .ok (.getfield 37, 3) := dq daX2_refuse_39_0 16 rfl
theorem dX2_refuse_11 : decode cX2_refuse 11 = .ok (.aload_n 0, 1) := dq daX2_refuse_39_0 17 rfl
theorem dX2_refuse_12 : decode cX2_refuse 12 = .ok (.getfield 17, 3) := dq daX2_refuse_39_0 18 rfl
theorem dX2_refuse_15 : decode cX2_refuse 15 = .ok (.arraylength, 1) := dq daX2_refuse_39_0 19 rfl
theorem dX2_refuse_16 : decode cX2_refuse 16 = .ok (.if_icmp .ge 15, 3) := dq daX2_refuse_39_0 20 rfl
theorem dX2_refuse_19 : decode cX2_refuse 19 = .ok (.aload_n 0, 1) := dq daX2_refuse_39_0 21 rfl
theorem dX2_refuse_20 : decode cX2_refuse 20 = .ok (.getfield 17, 3) := dq daX2_refuse_39_0 22 rfl
theorem dX2_refuse_23 : decode cX2_refuse 23 = .ok (.aload_n 0, 1) := dq daX2_refuse_39_0 23 rfl
theorem dX2_refuse_24 : decode cX2_refuse 24 = .ok (.getfield 37, 3) := dq daX2_refuse_39_0 24 rfl
theorem dX2_refuse_27 : decode cX2_refuse 27 = .ok (.iaload, 1) := dq daX2_refuse_39_0 25 rfl
theorem dX2_refuse_28 : decode cX2_refuse 28 = .ok (.goto 4, 3) := dq daX2_refuse_39_0 26 rfl
theorem dX2_refuse_46 : decode cX2_refuse 46 = .ok (.ireturn, 1) := dq daX2_refuse_39_0 27 rfl
def dtX2_take_39_0 : List (Nat × Jvm.ClassFile.Instr × Nat) := [(0, .aload_n 0, 1), (1, .invokevirtual 58, 3), (4, .iload_n 1, 1), (5, .if_icmp .eq 9, 3), (14, .aload_n 0, 1), (15, .dup, 1), (16, .getfield 37, 3), (19, .iconst 1, 1), (20, .iadd, 1), (21, .putfield 37, 3), (24, .iconst 1, 1), (8, .aload_n 0, 1), (9, .iconst 0, 1), (10, .invokevirtual 102, 3), (25, .ireturn, 1), (13, .ireturn, 1)]
theorem daX2_take_39_0 : dtX2_take_39_0.all (dqd cX2_take) = true := by decide +kernel
theorem dX2_take_0 : decode cX2_take 0 = .ok (.aload_n 0, 1) := dq daX2_take_39_0 0 rfl
theorem dX2_take_1 : decode cX2_take 1 = .ok (.invokevirtual 58, 3) := dq daX2_take_39_0 1 rfl
theorem dX2_take_4 : decode cX2_take 4 = .ok (.iload_n 1, 1) := dq daX2_take_39_0 2 rfl
theorem dX2_take_5 : decode cX2_take 5 = .ok (.if_icmp .eq 9, 3) := dq daX2_take_39_0 3 rfl
theorem dX2_take_14 : decode cX2_take 14 = .ok (.aload_n 0, 1) := dq daX2_take_39_0 4 rfl
theorem dX2_take_15 : decode cX2_take 15 = .ok (.dup, 1) := dq daX2_take_39_0 5 rfl
theorem dX2_take_16 : decode cX2_take 16 = .ok (.getfield 37, 3) := dq daX2_take_39_0 6 rfl
theorem dX2_take_19 : decode cX2_take 19 = .ok (.iconst 1, 1) := dq daX2_take_39_0 7 rfl
theorem dX2_take_20 : decode cX2_take 20 = .ok (.iadd, 1) := dq daX2_take_39_0 8 rfl
theorem dX2_take_21 : decode cX2_take 21 = .ok (.putfield 37, 3) := dq daX2_take_39_0 9 rfl
theorem dX2_take_24 : decode cX2_take 24 = .ok (.iconst 1, 1) := dq daX2_take_39_0 10 rfl
theorem dX2_take_8 : decode cX2_take 8 = .ok (.aload_n 0, 1) := dq daX2_take_39_0 11 rfl
theorem dX2_take_9 : decode cX2_take 9 = .ok (.iconst 0, 1) := dq daX2_take_39_0 12 rfl
theorem dX2_take_10 : decode cX2_take 10 = .ok (.invokevirtual 102, 3) := dq daX2_take_39_0 13 rfl
theorem dX2_take_25 : decode cX2_take 25 = .ok (.ireturn, 1) := dq daX2_take_39_0 14 rfl
theorem dX2_take_13 : decode cX2_take 13 = .ok (.ireturn, 1) := dq daX2_take_39_0 15 rfl
def dtX2_readChain_39_0 : List (Nat × Jvm.ClassFile.Instr × Nat) := [(0, .aload_n 0, 1), (1, .iconst 1, 1), (2, .putfield 47, 3), (5, .aload_n 0, 1), (6, .invokevirtual 58, 3), (9, .sipush 259, 3), (12, .if_icmp .eq 19, 3), (31, .aload_n 0, 1), (32, .invokevirtual 58, 3), (35, .sipush 1000, 3), (38, .isub, 1), (39, .istore_n 1, 1), (40, .iload_n 1, 1), (41, .ifCond .lt 9, 3), (50, .aload_n 0, 1), (51, .iconst 1, 1), (52, .invokevirtual 102, 3), (44, .iload_n 1, 1), (45, .bipush 10, 2), (47, .if_icmp .le 9, 3), (56, .aload_n 0, 1), (57, .getfield 23, 3), (60, .iload_n 1, 1), (61, .putfield 125, 3), (64, .aload_n 0, 1), (65, .dup, 1), (66, .getfield 37, 3), (69, .iconst 1, 1), (70, .iadd, 1), (71, .putfield 37, 3), (74, .iconst 1, 1), (15, .aload_n 0, 1)]
theorem daX2_readChain_39_0 : dtX2_readChain_39_0.all (dqd cX2_readChain) = true := by decide +kernel
theorem dX2_readChain_0 : decode cX2_readChain 0 = .ok (.aload_n 0, 1) := dq daX2_readChain_39_0 0 rfl
theorem dX2_readChain_1 : decode cX2_readChain 1 = .ok (.iconst 1, 1) := dq daX2_readChain_39_0 1 rfl
theorem dX2_readChain_2 : decode cX2_readChain 2 = .ok (.putfield 47, 3) := dq daX2_readChain_39_0 2 rfl
theorem dX2_readChain_5 : decode cX2_readChain 5 = .ok (.aload_n 0, 1) := dq daX2_readChain_39_0 3 rfl
theorem dX2_readChain_6 : decode cX2_readChain 6 = .ok (.invokevirtual 58, 3) := dq daX2_readChain_39_0 4 rfl
theorem dX2_readChain_9 : decode cX2_readChain 9 = .ok (.sipush 259, 3) := dq daX2_readChain_39_0 5 rfl
theorem dX2_readChain_12 : decode cX2_readChain 12 = .ok (.if_icmp .eq 19, 3) := dq daX2_readChain_39_0 6 rfl
theorem dX2_readChain_31 : decode cX2_readChain 31 = .ok (.aload_n 0, 1) := dq daX2_readChain_39_0 7 rfl
theorem dX2_readChain_32 : decode cX2_readChain 32 = .ok (.invokevirtual 58, 3) := dq daX2_readChain_39_0 8 rfl
theorem dX2_readChain_35 : decode cX2_readChain 35 = .ok (.sipush 1000, 3) := dq daX2_readChain_39_0 9 rfl
theorem dX2_readChain_38 : decode cX2_readChain 38 = .ok (.isub, 1) := dq daX2_readChain_39_0 10 rfl
theorem dX2_readChain_39 : decode cX2_readChain 39 = .ok (.istore_n 1, 1) := dq daX2_readChain_39_0 11 rfl
theorem dX2_readChain_40 : decode cX2_readChain 40 = .ok (.iload_n 1, 1) := dq daX2_readChain_39_0 12 rfl
theorem dX2_readChain_41 : decode cX2_readChain 41 = .ok (.ifCond .lt 9, 3) := dq daX2_readChain_39_0 13 rfl
theorem dX2_readChain_50 : decode cX2_readChain 50 = .ok (.aload_n 0, 1) := dq daX2_readChain_39_0 14 rfl
theorem dX2_readChain_51 : decode cX2_readChain 51 = .ok (.iconst 1, 1) := dq daX2_readChain_39_0 15 rfl
theorem dX2_readChain_52 : decode cX2_readChain 52 = .ok (.invokevirtual 102, 3) := dq daX2_readChain_39_0 16 rfl
theorem dX2_readChain_44 : decode cX2_readChain 44 = .ok (.iload_n 1, 1) := dq daX2_readChain_39_0 17 rfl
theorem dX2_readChain_45 : decode cX2_readChain 45 = .ok (.bipush 10, 2) := dq daX2_readChain_39_0 18 rfl
theorem dX2_readChain_47 : decode cX2_readChain 47 = .ok (.if_icmp .le 9, 3) := dq daX2_readChain_39_0 19 rfl
theorem dX2_readChain_56 : decode cX2_readChain 56 = .ok (.aload_n 0, 1) := dq daX2_readChain_39_0 20 rfl
theorem dX2_readChain_57 : decode cX2_readChain 57 = .ok (.getfield 23, 3) := dq daX2_readChain_39_0 21 rfl
theorem dX2_readChain_60 : decode cX2_readChain 60 = .ok (.iload_n 1, 1) := dq daX2_readChain_39_0 22 rfl
theorem dX2_readChain_61 : decode cX2_readChain 61 = .ok (.putfield 125, 3) := dq daX2_readChain_39_0 23 rfl
theorem dX2_readChain_64 : decode cX2_readChain 64 = .ok (.aload_n 0, 1) := dq daX2_readChain_39_0 24 rfl
theorem dX2_readChain_65 : decode cX2_readChain 65 = .ok (.dup, 1) := dq daX2_readChain_39_0 25 rfl
theorem dX2_readChain_66 : decode cX2_readChain 66 = .ok (.getfield 37, 3) := dq daX2_readChain_39_0 26 rfl
theorem dX2_readChain_69 : decode cX2_readChain 69 = .ok (.iconst 1, 1) := dq daX2_readChain_39_0 27 rfl
theorem dX2_readChain_70 : decode cX2_readChain 70 = .ok (.iadd, 1) := dq daX2_readChain_39_0 28 rfl
theorem dX2_readChain_71 : decode cX2_readChain 71 = .ok (.putfield 37, 3) := dq daX2_readChain_39_0 29 rfl
theorem dX2_readChain_74 : decode cX2_readChain 74 = .ok (.iconst 1, 1) := dq daX2_readChain_39_0 30 rfl
theorem dX2_readChain_15 : decode cX2_readChain 15 = .ok (.aload_n 0, 1) := dq daX2_readChain_39_0 31 rfl
def dtX2_readChain_39_1 : List (Nat × Jvm.ClassFile.Instr × Nat) := [(16, .invokevirtual 58, 3), (19, .sipush 1000, 3), (22, .if_icmp .ge 9, 3), (25, .aload_n 0, 1), (26, .iconst 0, 1), (27, .invokevirtual 102, 3), (55, .ireturn, 1), (75, .ireturn, 1), (30, .ireturn, 1)]
theorem daX2_readChain_39_1 : dtX2_readChain_39_1.all (dqd cX2_readChain) = true := by decide +kernel
theorem dX2_readChain_16 : decode cX2_readChain 16 = .ok (.invokevirtual 58, 3) := dq daX2_readChain_39_1 0 rfl
theorem dX2_readChain_19 : decode cX2_readChain 19 = .ok (.sipush 1000, 3) := dq daX2_readChain_39_1 1 rfl
theorem dX2_readChain_22 : decode cX2_readChain 22 = .ok (.if_icmp .ge 9, 3) := dq daX2_readChain_39_1 2 rfl
theorem dX2_readChain_25 : decode cX2_readChain 25 = .ok (.aload_n 0, 1) := dq daX2_readChain_39_1 3 rfl
theorem dX2_readChain_26 : decode cX2_readChain 26 = .ok (.iconst 0, 1) := dq daX2_readChain_39_1 4 rfl
theorem dX2_readChain_27 : decode cX2_readChain 27 = .ok (.invokevirtual 102, 3) := dq daX2_readChain_39_1 5 rfl
theorem dX2_readChain_55 : decode cX2_readChain 55 = .ok (.ireturn, 1) := dq daX2_readChain_39_1 6 rfl
theorem dX2_readChain_75 : decode cX2_readChain 75 = .ok (.ireturn, 1) := dq daX2_readChain_39_1 7 rfl
theorem dX2_readChain_30 : decode cX2_readChain 30 = .ok (.ireturn, 1) := dq daX2_readChain_39_1 8 rfl
def dtX2_readValue_39_0 : List (Nat × Jvm.ClassFile.Instr × Nat) := [(0, .aload_n 0, 1), (1, .invokevirtual 58, 3), (4, .istore_n 2, 1), (5, .iload_n 2, 1), (6, .sipush 300, 3), (9, .if_icmp .lt 14, 3), (23, .iconst 0, 1), (24, .istore_n 3, 1), (25, .iload_n 2, 1), (26, .sipush 259, 3), (29, .if_icmp .ne 9, 3), (38, .iload_n 3, 1), (39, .ifCond .ne 16, 3), (42, .iload_n 2, 1), (43, .sipush 1000, 3), (46, .if_icmp .ge 9, 3), (55, .aload_n 0, 1), (56, .getfield 44, 3), (59, .bipush 60, 2), (61, .if_icmp .lt 9, 3), (70, .aload_n 0, 1), (71, .dup, 1), (72, .getfield 44, 3), (75, .iconst 1, 1), (76, .iadd, 1), (77, .putfield 44, 3), (80, .aload_n 0, 1), (81, .getfield 23, 3), (84, .iload_n 1, 1), (85, .iload_n 3, 1), (86, .ifCond .eq 13, 3), (99, .iload_n 2, 1)]
theorem daX2_readValue_39_0 : dtX2_readValue_39_0.all (dqd cX2_readValue) = true := by decide +kernel
theorem dX2_readValue_0 : decode cX2_readValue 0 = .ok (.aload_n 0, 1) := dq daX2_readValue_39_0 0 rfl
theorem dX2_readValue_1 : decode cX2_readValue 1 = .ok (.invokevirtual 58, 3) := dq daX2_readValue_39_0 1 rfl
theorem dX2_readValue_4 : decode cX2_readValue 4 = .ok (.istore_n 2, 1) := dq daX2_readValue_39_0 2 rfl
theorem dX2_readValue_5 : decode cX2_readValue 5 = .ok (.iload_n 2, 1) := dq daX2_readValue_39_0 3 rfl
theorem dX2_readValue_6 : decode cX2_readValue 6 = .ok (.sipush 300, 3) := dq daX2_readValue_39_0 4 rfl
theorem dX2_readValue_9 : decode cX2_readValue 9 = .ok (.if_icmp .lt 14, 3) := dq daX2_readValue_39_0 5 rfl
theorem dX2_readValue_23 : decode cX2_readValue 23 = .ok (.iconst 0, 1) := dq daX2_readValue_39_0 6 rfl
theorem dX2_readValue_24 : decode cX2_readValue 24 = .ok (.istore_n 3, 1) := dq daX2_readValue_39_0 7 rfl
theorem dX2_readValue_25 : decode cX2_readValue 25 = .ok (.iload_n 2, 1) := dq daX2_readValue_39_0 8 rfl
theorem dX2_readValue_26 : decode cX2_readValue 26 = .ok (.sipush 259, 3) := dq daX2_readValue_39_0 9 rfl
theorem dX2_readValue_29 : decode cX2_readValue 29 = .ok (.if_icmp .ne 9, 3) := dq daX2_readValue_39_0 10 rfl
theorem dX2_readValue_38 : decode cX2_readValue 38 = .ok (.iload_n 3, 1) := dq daX2_readValue_39_0 11 rfl
theorem dX2_readValue_39 : decode cX2_readValue 39 = .ok (.ifCond .ne 16, 3) := dq daX2_readValue_39_0 12 rfl
theorem dX2_readValue_42 : decode cX2_readValue 42 = .ok (.iload_n 2, 1) := dq daX2_readValue_39_0 13 rfl
theorem dX2_readValue_43 : decode cX2_readValue 43 = .ok (.sipush 1000, 3) := dq daX2_readValue_39_0 14 rfl
theorem dX2_readValue_46 : decode cX2_readValue 46 = .ok (.if_icmp .ge 9, 3) := dq daX2_readValue_39_0 15 rfl
theorem dX2_readValue_55 : decode cX2_readValue 55 = .ok (.aload_n 0, 1) := dq daX2_readValue_39_0 16 rfl
theorem dX2_readValue_56 : decode cX2_readValue 56 = .ok (.getfield 44, 3) := dq daX2_readValue_39_0 17 rfl
theorem dX2_readValue_59 : decode cX2_readValue 59 = .ok (.bipush 60, 2) := dq daX2_readValue_39_0 18 rfl
theorem dX2_readValue_61 : decode cX2_readValue 61 = .ok (.if_icmp .lt 9, 3) := dq daX2_readValue_39_0 19 rfl
theorem dX2_readValue_70 : decode cX2_readValue 70 = .ok (.aload_n 0, 1) := dq daX2_readValue_39_0 20 rfl
theorem dX2_readValue_71 : decode cX2_readValue 71 = .ok (.dup, 1) := dq daX2_readValue_39_0 21 rfl
theorem dX2_readValue_72 : decode cX2_readValue 72 = .ok (.getfield 44, 3) := dq daX2_readValue_39_0 22 rfl
theorem dX2_readValue_75 : decode cX2_readValue 75 = .ok (.iconst 1, 1) := dq daX2_readValue_39_0 23 rfl
theorem dX2_readValue_76 : decode cX2_readValue 76 = .ok (.iadd, 1) := dq daX2_readValue_39_0 24 rfl
theorem dX2_readValue_77 : decode cX2_readValue 77 = .ok (.putfield 44, 3) := dq daX2_readValue_39_0 25 rfl
theorem dX2_readValue_80 : decode cX2_readValue 80 = .ok (.aload_n 0, 1) := dq daX2_readValue_39_0 26 rfl
theorem dX2_readValue_81 : decode cX2_readValue 81 = .ok (.getfield 23, 3) := dq daX2_readValue_39_0 27 rfl
theorem dX2_readValue_84 : decode cX2_readValue 84 = .ok (.iload_n 1, 1) := dq daX2_readValue_39_0 28 rfl
theorem dX2_readValue_85 : decode cX2_readValue 85 = .ok (.iload_n 3, 1) := dq daX2_readValue_39_0 29 rfl
theorem dX2_readValue_86 : decode cX2_readValue 86 = .ok (.ifCond .eq 13, 3) := dq daX2_readValue_39_0 30 rfl
theorem dX2_readValue_99 : decode cX2_readValue 99 = .ok (.iload_n 2, 1) := dq daX2_readValue_39_0 31 rfl
def dtX2_readValue_39_1 : List (Nat × Jvm.ClassFile.Instr × Nat) := [(100, .sipush 1000, 3), (103, .isub, 1), (104, .invokevirtual 135, 3), (107, .aload_n 0, 1), (108, .dup, 1), (109, .getfield 37, 3), (112, .iconst 1, 1), (113, .iadd, 1), (114, .putfield 37, 3), (117, .iconst 1, 1), (64, .aload_n 0, 1), (65, .iconst 3, 1), (66, .invokevirtual 102, 3), (49, .aload_n 0, 1), (50, .iconst 0, 1), (51, .invokevirtual 102, 3), (32, .aload_n 0, 1), (33, .iconst 1, 1), (34, .invokevirtual 102, 3), (12, .iload_n 2, 1), (13, .sipush 311, 3), (16, .if_icmp .ge 7, 3), (19, .iconst 1, 1), (20, .goto 4, 3), (89, .iconst (-1), 1), (90, .iload_n 2, 1), (91, .sipush 300, 3), (94, .isub, 1), (95, .isub, 1), (96, .goto 8, 3), (118, .ireturn, 1), (69, .ireturn, 1)]
theorem daX2_readValue_39_1 : dtX2_readValue_39_1.all (dqd cX2_readValue) = true := by decide +kernel
theorem dX2_readValue_100 : decode cX2_readValue 100 = .ok (.sipush 1000, 3) := dq daX2_readValue_39_1 0 rfl
theorem dX2_readValue_103 : decode cX2_readValue 103 = .ok (.isub, 1) := dq daX2_readValue_39_1 1 rfl
theorem dX2_readValue_104 : decode cX2_readValue 104 = .ok (.invokevirtual 135, 3) := dq daX2_readValue_39_1 2 rfl
theorem dX2_readValue_107 : decode cX2_readValue 107 = .ok (.aload_n 0, 1) := dq daX2_readValue_39_1 3 rfl
theorem dX2_readValue_108 : decode cX2_readValue 108 = .ok (.dup, 1) := dq daX2_readValue_39_1 4 rfl
theorem dX2_readValue_109 : decode cX2_readValue 109 = .ok (.getfield 37, 3) := dq daX2_readValue_39_1 5 rfl
theorem dX2_readValue_112 : decode cX2_readValue 112 = .ok (.iconst 1, 1) := dq daX2_readValue_39_1 6 rfl
theorem dX2_readValue_113 : decode cX2_readValue 113 = .ok (.iadd, 1) := dq daX2_readValue_39_1 7 rfl
theorem dX2_readValue_114 : decode cX2_readValue 114 = .ok (.putfield 37, 3) := dq daX2_readValue_39_1 8 rfl
theorem dX2_readValue_117 : decode cX2_readValue 117 = .ok (.iconst 1, 1) := dq daX2_readValue_39_1 9 rfl
theorem dX2_readValue_64 : decode cX2_readValue 64 = .ok (.aload_n 0, 1) := dq daX2_readValue_39_1 10 rfl
theorem dX2_readValue_65 : decode cX2_readValue 65 = .ok (.iconst 3, 1) := dq daX2_readValue_39_1 11 rfl
theorem dX2_readValue_66 : decode cX2_readValue 66 = .ok (.invokevirtual 102, 3) := dq daX2_readValue_39_1 12 rfl
theorem dX2_readValue_49 : decode cX2_readValue 49 = .ok (.aload_n 0, 1) := dq daX2_readValue_39_1 13 rfl
theorem dX2_readValue_50 : decode cX2_readValue 50 = .ok (.iconst 0, 1) := dq daX2_readValue_39_1 14 rfl
theorem dX2_readValue_51 : decode cX2_readValue 51 = .ok (.invokevirtual 102, 3) := dq daX2_readValue_39_1 15 rfl
theorem dX2_readValue_32 : decode cX2_readValue 32 = .ok (.aload_n 0, 1) := dq daX2_readValue_39_1 16 rfl
theorem dX2_readValue_33 : decode cX2_readValue 33 = .ok (.iconst 1, 1) := dq daX2_readValue_39_1 17 rfl
theorem dX2_readValue_34 : decode cX2_readValue 34 = .ok (.invokevirtual 102, 3) := dq daX2_readValue_39_1 18 rfl
theorem dX2_readValue_12 : decode cX2_readValue 12 = .ok (.iload_n 2, 1) := dq daX2_readValue_39_1 19 rfl
theorem dX2_readValue_13 : decode cX2_readValue 13 = .ok (.sipush 311, 3) := dq daX2_readValue_39_1 20 rfl
theorem dX2_readValue_16 : decode cX2_readValue 16 = .ok (.if_icmp .ge 7, 3) := dq daX2_readValue_39_1 21 rfl
theorem dX2_readValue_19 : decode cX2_readValue 19 = .ok (.iconst 1, 1) := dq daX2_readValue_39_1 22 rfl
theorem dX2_readValue_20 : decode cX2_readValue 20 = .ok (.goto 4, 3) := dq daX2_readValue_39_1 23 rfl
theorem dX2_readValue_89 : decode cX2_readValue 89 = .ok (.iconst (-1), 1) := dq daX2_readValue_39_1 24 rfl
theorem dX2_readValue_90 : decode cX2_readValue 90 = .ok (.iload_n 2, 1) := dq daX2_readValue_39_1 25 rfl
theorem dX2_readValue_91 : decode cX2_readValue 91 = .ok (.sipush 300, 3) := dq daX2_readValue_39_1 26 rfl
theorem dX2_readValue_94 : decode cX2_readValue 94 = .ok (.isub, 1) := dq daX2_readValue_39_1 27 rfl
theorem dX2_readValue_95 : decode cX2_readValue 95 = .ok (.isub, 1) := dq daX2_readValue_39_1 28 rfl
theorem dX2_readValue_96 : decode cX2_readValue 96 = .ok (.goto 8, 3) := dq daX2_readValue_39_1 29 rfl
theorem dX2_readValue_118 : decode cX2_readValue 118 = .ok (.ireturn, 1) := dq daX2_readValue_39_1 30 rfl
theorem dX2_readValue_69 : decode cX2_readValue 69 = .ok (.ireturn, 1) := dq daX2_readValue_39_1 31 rfl
def dtX2_readValue_39_2 : List (Nat × Jvm.ClassFile.Instr × Nat) := [(54, .ireturn, 1), (37, .ireturn, 1)]
theorem daX2_readValue_39_2 : dtX2_readValue_39_2.all (dqd cX2_readValue) = true := by decide +kernel
theorem dX2_readValue_54 : decode cX2_readValue 54 = .ok (.ireturn, 1) := dq daX2_readValue_39_2 0 rfl
theorem dX2_readValue_37 : decode cX2_readValue 37 = .ok (.ireturn, 1) := dq daX2_readValue_39_2 1 rfl
def dtX2_readSum_39_0 : List (Nat × Jvm.ClassFile.Instr × Nat) := [(0, .iconst 0, 1), (1, .istore_n 1, 1), (2, .iconst 0, 1), (3, .istore_n 2, 1), (4, .iload_n 2, 1), (5, .sipush 400, 3), (8, .if_icmp .gt 44, 3), (11, .aload_n 0, 1), (12, .iload_n 1, 1), (13, .invokevirtual 128, 3), (16, .ifCond .ne 5, 3), (21, .aload_n 0, 1), (22, .invokevirtual 58, 3), (25, .invokestatic 131, 3), (28, .istore_n 1, 1), (29, .iload_n 1, 1), (30, .iconst (-1), 1), (31, .if_icmp .ne 5, 3), (36, .aload_n 0, 1), (37, .dup, 1), (38, .getfield 37, 3), (41, .iconst 1, 1), (42, .iadd, 1), (43, .putfield 37, 3), (46, .iinc 2 1, 3), (49, .goto (-45), 3), (19, .iconst 0, 1), (34, .iconst 1, 1), (20, .ireturn, 1), (35, .ireturn, 1), (52, .aload_n 0, 1), (53, .iconst 3, 1)]
theorem daX2_readSum_39_0 : dtX2_readSum_39_0.all (dqd cX2_readSum) = true := by decide +kernel
theorem dX2_readSum_0 : decode cX2_readSum 0 = .ok (.iconst 0, 1) := dq daX2_readSum_39_0 0 rfl
theorem dX2_readSum_1 : decode cX2_readSum 1 = .ok (.istore_n 1, 1) := dq daX2_readSum_39_0 1 rfl
theorem dX2_readSum_2 : decode cX2_readSum 2 = .ok (.iconst 0, 1) := dq daX2_readSum_39_0 2 rfl
theorem dX2_readSum_3 : decode cX2_readSum 3 = .ok (.istore_n 2, 1) := dq daX2_readSum_39_0 3 rfl
theorem dX2_readSum_4 : decode cX2_readSum 4 = .ok (.iload_n 2, 1) := dq daX2_readSum_39_0 4 rfl
theorem dX2_readSum_5 : decode cX2_readSum 5 = .ok (.sipush 400, 3) := dq daX2_readSum_39_0 5 rfl
theorem dX2_readSum_8 : decode cX2_readSum 8 = .ok (.if_icmp .gt 44, 3) := dq daX2_readSum_39_0 6 rfl
theorem dX2_readSum_11 : decode cX2_readSum 11 = .ok (.aload_n 0, 1) := dq daX2_readSum_39_0 7 rfl
theorem dX2_readSum_12 : decode cX2_readSum 12 = .ok (.iload_n 1, 1) := dq daX2_readSum_39_0 8 rfl
theorem dX2_readSum_13 : decode cX2_readSum 13 = .ok (.invokevirtual 128, 3) := dq daX2_readSum_39_0 9 rfl
theorem dX2_readSum_16 : decode cX2_readSum 16 = .ok (.ifCond .ne 5, 3) := dq daX2_readSum_39_0 10 rfl
theorem dX2_readSum_21 : decode cX2_readSum 21 = .ok (.aload_n 0, 1) := dq daX2_readSum_39_0 11 rfl
theorem dX2_readSum_22 : decode cX2_readSum 22 = .ok (.invokevirtual 58, 3) := dq daX2_readSum_39_0 12 rfl
theorem dX2_readSum_25 : decode cX2_readSum 25 = .ok (.invokestatic 131, 3) := dq daX2_readSum_39_0 13 rfl
theorem dX2_readSum_28 : decode cX2_readSum 28 = .ok (.istore_n 1, 1) := dq daX2_readSum_39_0 14 rfl
theorem dX2_readSum_29 : decode cX2_readSum 29 = .ok (.iload_n 1, 1) := dq daX2_readSum_39_0 15 rfl
theorem dX2_readSum_30 : decode cX2_readSum 30 = .ok (.iconst (-1), 1) := dq daX2_readSum_39_0 16 rfl
theorem dX2_readSum_31 : decode cX2_readSum 31 = .ok (.if_icmp .ne 5, 3) := dq daX2_readSum_39_0 17 rfl
theorem dX2_readSum_36 : decode cX2_readSum 36 = .ok (.aload_n 0, 1) := dq daX2_readSum_39_0 18 rfl
theorem dX2_readSum_37 : decode cX2_readSum 37 = .ok (.dup, 1) := dq daX2_readSum_39_0 19 rfl
theorem dX2_readSum_38 : decode cX2_readSum 38 = .ok (.getfield 37, 3) := dq daX2_readSum_39_0 20 rfl
theorem dX2_readSum_41 : decode cX2_readSum 41 = .ok (.iconst 1, 1) := dq daX2_readSum_39_0 21 rfl
theorem dX2_readSum_42 : decode cX2_readSum 42 = .ok (.iadd, 1) := dq daX2_readSum_39_0 22 rfl
theorem dX2_readSum_43 : decode cX2_readSum 43 = .ok (.putfield 37, 3) := dq daX2_readSum_39_0 23 rfl
theorem dX2_readSum_46 : decode cX2_readSum 46 = .ok (.iinc 2 1, 3) := dq daX2_readSum_39_0 24 rfl
theorem dX2_readSum_49 : decode cX2_readSum 49 = .ok (.goto (-45), 3) := dq daX2_readSum_39_0 25 rfl
theorem dX2_readSum_19 : decode cX2_readSum 19 = .ok (.iconst 0, 1) := dq daX2_readSum_39_0 26 rfl
theorem dX2_readSum_34 : decode cX2_readSum 34 = .ok (.iconst 1, 1) := dq daX2_readSum_39_0 27 rfl
theorem dX2_readSum_20 : decode cX2_readSum 20 = .ok (.ireturn, 1) := dq daX2_readSum_39_0 28 rfl
theorem dX2_readSum_35 : decode cX2_readSum 35 = .ok (.ireturn, 1) := dq daX2_readSum_39_0 29 rfl
theorem dX2_readSum_52 : decode cX2_readSum 52 = .ok (.aload_n 0, 1) := dq daX2_readSum_39_0 30 rfl
theorem dX2_readSum_53 : decode cX2_readSum 53 = .ok (.iconst 3, 1) := dq daX2_readSum_39_0 31 rfl
def dtX2_readSum_39_1 : List (Nat × Jvm.ClassFile.Instr × Nat) := [(54, .invokevirtual 102, 3), (57, .ireturn, 1)]
theorem daX2_readSum_39_1 : dtX2_readSum_39_1.all (dqd cX2_readSum) = true := by decide +kernel
theorem dX2_readSum_54 : decode cX2_readSum 54 = .ok (.invokevirtual 102, 3) := dq daX2_readSum_39_1 0 rfl
theorem dX2_readSum_57 : decode cX2_readSum 57 = .ok (.ireturn, 1) := dq daX2_readSum_39_1 1 rfl
def dtX2_readComparison_39_0 : List (Nat × Jvm.ClassFile.Instr × Nat) := [(0, .aload_n 0, 1), (1, .getfield 23, 3), (4, .getfield 150, 3), (7, .istore_n 1, 1), (8, .aload_n 0, 1), (9, .invokevirtual 113, 3), (12, .ifCond .ne 5, 3), (17, .aload_n 0, 1), (18, .getfield 23, 3), (21, .getfield 150, 3), (24, .istore_n 2, 1), (25, .aload_n 0, 1), (26, .invokevirtual 58, 3), (29, .invokestatic 153, 3), (32, .istore_n 3, 1), (33, .iload_n 3, 1), (34, .iconst (-1), 1), (35, .if_icmp .ne 9, 3), (44, .aload_n 0, 1), (45, .getfield 44, 3), (48, .bipush 60, 2), (50, .if_icmp .lt 9, 3), (59, .aload_n 0, 1), (60, .dup, 1), (61, .getfield 44, 3), (64, .iconst 1, 1), (65, .iadd, 1), (66, .putfield 44, 3), (69, .aload_n 0, 1), (70, .dup, 1), (71, .getfield 37, 3), (74, .iconst 1, 1)]
theorem daX2_readComparison_39_0 : dtX2_readComparison_39_0.all (dqd cX2_readComparison) = true := by decide +kernel
theorem dX2_readComparison_0 : decode cX2_readComparison 0 = .ok (.aload_n 0, 1) := dq daX2_readComparison_39_0 0 rfl
theorem dX2_readComparison_1 : decode cX2_readComparison 1 = .ok (.getfield 23, 3) := dq daX2_readComparison_39_0 1 rfl
theorem dX2_readComparison_4 : decode cX2_readComparison 4 = .ok (.getfield 150, 3) := dq daX2_readComparison_39_0 2 rfl
theorem dX2_readComparison_7 : decode cX2_readComparison 7 = .ok (.istore_n 1, 1) := dq daX2_readComparison_39_0 3 rfl
theorem dX2_readComparison_8 : decode cX2_readComparison 8 = .ok (.aload_n 0, 1) := dq daX2_readComparison_39_0 4 rfl
theorem dX2_readComparison_9 : decode cX2_readComparison 9 = .ok (.invokevirtual 113, 3) := dq daX2_readComparison_39_0 5 rfl
theorem dX2_readComparison_12 : decode cX2_readComparison 12 = .ok (.ifCond .ne 5, 3) := dq daX2_readComparison_39_0 6 rfl
theorem dX2_readComparison_17 : decode cX2_readComparison 17 = .ok (.aload_n 0, 1) := dq daX2_readComparison_39_0 7 rfl
theorem dX2_readComparison_18 : decode cX2_readComparison 18 = .ok (.getfield 23, 3) := dq daX2_readComparison_39_0 8 rfl
theorem dX2_readComparison_21 : decode cX2_readComparison 21 = .ok (.getfield 150, 3) := dq daX2_readComparison_39_0 9 rfl
theorem dX2_readComparison_24 : decode cX2_readComparison 24 = .ok (.istore_n 2, 1) := dq daX2_readComparison_39_0 10 rfl
theorem dX2_readComparison_25 : decode cX2_readComparison 25 = .ok (.aload_n 0, 1) := dq daX2_readComparison_39_0 11 rfl
theorem dX2_readComparison_26 : decode cX2_readComparison 26 = .ok (.invokevirtual 58, 3) := dq daX2_readComparison_39_0 12 rfl
theorem dX2_readComparison_29 : decode cX2_readComparison 29 = .ok (.invokestatic 153, 3) := dq daX2_readComparison_39_0 13 rfl
theorem dX2_readComparison_32 : decode cX2_readComparison 32 = .ok (.istore_n 3, 1) := dq daX2_readComparison_39_0 14 rfl
theorem dX2_readComparison_33 : decode cX2_readComparison 33 = .ok (.iload_n 3, 1) := dq daX2_readComparison_39_0 15 rfl
theorem dX2_readComparison_34 : decode cX2_readComparison 34 = .ok (.iconst (-1), 1) := dq daX2_readComparison_39_0 16 rfl
theorem dX2_readComparison_35 : decode cX2_readComparison 35 = .ok (.if_icmp .ne 9, 3) := dq daX2_readComparison_39_0 17 rfl
theorem dX2_readComparison_44 : decode cX2_readComparison 44 = .ok (.aload_n 0, 1) := dq daX2_readComparison_39_0 18 rfl
theorem dX2_readComparison_45 : decode cX2_readComparison 45 = .ok (.getfield 44, 3) := dq daX2_readComparison_39_0 19 rfl
theorem dX2_readComparison_48 : decode cX2_readComparison 48 = .ok (.bipush 60, 2) := dq daX2_readComparison_39_0 20 rfl
theorem dX2_readComparison_50 : decode cX2_readComparison 50 = .ok (.if_icmp .lt 9, 3) := dq daX2_readComparison_39_0 21 rfl
theorem dX2_readComparison_59 : decode cX2_readComparison 59 = .ok (.aload_n 0, 1) := dq daX2_readComparison_39_0 22 rfl
theorem dX2_readComparison_60 : decode cX2_readComparison 60 = .ok (.dup, 1) := dq daX2_readComparison_39_0 23 rfl
theorem dX2_readComparison_61 : decode cX2_readComparison 61 = .ok (.getfield 44, 3) := dq daX2_readComparison_39_0 24 rfl
theorem dX2_readComparison_64 : decode cX2_readComparison 64 = .ok (.iconst 1, 1) := dq daX2_readComparison_39_0 25 rfl
theorem dX2_readComparison_65 : decode cX2_readComparison 65 = .ok (.iadd, 1) := dq daX2_readComparison_39_0 26 rfl
theorem dX2_readComparison_66 : decode cX2_readComparison 66 = .ok (.putfield 44, 3) := dq daX2_readComparison_39_0 27 rfl
theorem dX2_readComparison_69 : decode cX2_readComparison 69 = .ok (.aload_n 0, 1) := dq daX2_readComparison_39_0 28 rfl
theorem dX2_readComparison_70 : decode cX2_readComparison 70 = .ok (.dup, 1) := dq daX2_readComparison_39_0 29 rfl
theorem dX2_readComparison_71 : decode cX2_readComparison 71 = .ok (.getfield 37, 3) := dq daX2_readComparison_39_0 30 rfl
theorem dX2_readComparison_74 : decode cX2_readComparison 74 = .ok (.iconst 1, 1) := dq daX2_readComparison_39_0 31 rfl
def dtX2_readComparison_39_1 : List (Nat × Jvm.ClassFile.Instr × Nat) := [(75, .iadd, 1), (76, .putfield 37, 3), (79, .aload_n 0, 1), (80, .invokevirtual 113, 3), (83, .ifCond .ne 5, 3), (88, .aload_n 0, 1), (89, .getfield 23, 3), (92, .iload_n 1, 1), (93, .iload_n 2, 1), (94, .iload_n 3, 1), (95, .invokevirtual 156, 3), (98, .iconst 1, 1), (86, .iconst 0, 1), (53, .aload_n 0, 1), (54, .iconst 3, 1), (55, .invokevirtual 102, 3), (38, .aload_n 0, 1), (39, .iconst 0, 1), (40, .invokevirtual 102, 3), (15, .iconst 0, 1), (99, .ireturn, 1), (87, .ireturn, 1), (58, .ireturn, 1), (43, .ireturn, 1), (16, .ireturn, 1)]
theorem daX2_readComparison_39_1 : dtX2_readComparison_39_1.all (dqd cX2_readComparison) = true := by decide +kernel
theorem dX2_readComparison_75 : decode cX2_readComparison 75 = .ok (.iadd, 1) := dq daX2_readComparison_39_1 0 rfl
theorem dX2_readComparison_76 : decode cX2_readComparison 76 = .ok (.putfield 37, 3) := dq daX2_readComparison_39_1 1 rfl
theorem dX2_readComparison_79 : decode cX2_readComparison 79 = .ok (.aload_n 0, 1) := dq daX2_readComparison_39_1 2 rfl
theorem dX2_readComparison_80 : decode cX2_readComparison 80 = .ok (.invokevirtual 113, 3) := dq daX2_readComparison_39_1 3 rfl
theorem dX2_readComparison_83 : decode cX2_readComparison 83 = .ok (.ifCond .ne 5, 3) := dq daX2_readComparison_39_1 4 rfl
theorem dX2_readComparison_88 : decode cX2_readComparison 88 = .ok (.aload_n 0, 1) := dq daX2_readComparison_39_1 5 rfl
theorem dX2_readComparison_89 : decode cX2_readComparison 89 = .ok (.getfield 23, 3) := dq daX2_readComparison_39_1 6 rfl
theorem dX2_readComparison_92 : decode cX2_readComparison 92 = .ok (.iload_n 1, 1) := dq daX2_readComparison_39_1 7 rfl
theorem dX2_readComparison_93 : decode cX2_readComparison 93 = .ok (.iload_n 2, 1) := dq daX2_readComparison_39_1 8 rfl
theorem dX2_readComparison_94 : decode cX2_readComparison 94 = .ok (.iload_n 3, 1) := dq daX2_readComparison_39_1 9 rfl
theorem dX2_readComparison_95 : decode cX2_readComparison 95 = .ok (.invokevirtual 156, 3) := dq daX2_readComparison_39_1 10 rfl
theorem dX2_readComparison_98 : decode cX2_readComparison 98 = .ok (.iconst 1, 1) := dq daX2_readComparison_39_1 11 rfl
theorem dX2_readComparison_86 : decode cX2_readComparison 86 = .ok (.iconst 0, 1) := dq daX2_readComparison_39_1 12 rfl
theorem dX2_readComparison_53 : decode cX2_readComparison 53 = .ok (.aload_n 0, 1) := dq daX2_readComparison_39_1 13 rfl
theorem dX2_readComparison_54 : decode cX2_readComparison 54 = .ok (.iconst 3, 1) := dq daX2_readComparison_39_1 14 rfl
theorem dX2_readComparison_55 : decode cX2_readComparison 55 = .ok (.invokevirtual 102, 3) := dq daX2_readComparison_39_1 15 rfl
theorem dX2_readComparison_38 : decode cX2_readComparison 38 = .ok (.aload_n 0, 1) := dq daX2_readComparison_39_1 16 rfl
theorem dX2_readComparison_39 : decode cX2_readComparison 39 = .ok (.iconst 0, 1) := dq daX2_readComparison_39_1 17 rfl
theorem dX2_readComparison_40 : decode cX2_readComparison 40 = .ok (.invokevirtual 102, 3) := dq daX2_readComparison_39_1 18 rfl
theorem dX2_readComparison_15 : decode cX2_readComparison 15 = .ok (.iconst 0, 1) := dq daX2_readComparison_39_1 19 rfl
theorem dX2_readComparison_99 : decode cX2_readComparison 99 = .ok (.ireturn, 1) := dq daX2_readComparison_39_1 20 rfl
theorem dX2_readComparison_87 : decode cX2_readComparison 87 = .ok (.ireturn, 1) := dq daX2_readComparison_39_1 21 rfl
theorem dX2_readComparison_58 : decode cX2_readComparison 58 = .ok (.ireturn, 1) := dq daX2_readComparison_39_1 22 rfl
theorem dX2_readComparison_43 : decode cX2_readComparison 43 = .ok (.ireturn, 1) := dq daX2_readComparison_39_1 23 rfl
theorem dX2_readComparison_16 : decode cX2_readComparison 16 = .ok (.ireturn, 1) := dq daX2_readComparison_39_1 24 rfl
def dtX2_readFact_39_0 : List (Nat × Jvm.ClassFile.Instr × Nat) := [(0, .aload_n 0, 1), (1, .invokevirtual 58, 3), (4, .sipush 319, 3), (7, .if_icmp .ne 7, 3), (14, .iconst 0, 1), (15, .istore_n 2, 1), (16, .iload_n 2, 1), (17, .ifCond .ne 17, 3), (20, .aload_n 0, 1), (21, .invokevirtual 58, 3), (24, .bipush 91, 2), (26, .if_icmp .eq 8, 3), (34, .iload_n 1, 1), (35, .bipush 10, 2), (37, .if_icmp .lt 9, 3), (40, .aload_n 0, 1), (41, .iconst 2, 1), (42, .invokevirtual 102, 3), (29, .aload_n 0, 1), (30, .invokevirtual 147, 3), (10, .iconst 1, 1), (11, .goto 4, 3), (45, .ireturn, 1), (33, .ireturn, 1), (46, .aload_n 0, 1), (47, .dup, 1), (48, .getfield 37, 3), (51, .iconst 1, 1), (52, .iadd, 1), (53, .putfield 37, 3), (56, .iload_n 2, 1), (57, .ifCond .ne 28, 3)]
theorem daX2_readFact_39_0 : dtX2_readFact_39_0.all (dqd cX2_readFact) = true := by decide +kernel
theorem dX2_readFact_0 : decode cX2_readFact 0 = .ok (.aload_n 0, 1) := dq daX2_readFact_39_0 0 rfl
theorem dX2_readFact_1 : decode cX2_readFact 1 = .ok (.invokevirtual 58, 3) := dq daX2_readFact_39_0 1 rfl
theorem dX2_readFact_4 : decode cX2_readFact 4 = .ok (.sipush 319, 3) := dq daX2_readFact_39_0 2 rfl
theorem dX2_readFact_7 : decode cX2_readFact 7 = .ok (.if_icmp .ne 7, 3) := dq daX2_readFact_39_0 3 rfl
theorem dX2_readFact_14 : decode cX2_readFact 14 = .ok (.iconst 0, 1) := dq daX2_readFact_39_0 4 rfl
theorem dX2_readFact_15 : decode cX2_readFact 15 = .ok (.istore_n 2, 1) := dq daX2_readFact_39_0 5 rfl
theorem dX2_readFact_16 : decode cX2_readFact 16 = .ok (.iload_n 2, 1) := dq daX2_readFact_39_0 6 rfl
theorem dX2_readFact_17 : decode cX2_readFact 17 = .ok (.ifCond .ne 17, 3) := dq daX2_readFact_39_0 7 rfl
theorem dX2_readFact_20 : decode cX2_readFact 20 = .ok (.aload_n 0, 1) := dq daX2_readFact_39_0 8 rfl
theorem dX2_readFact_21 : decode cX2_readFact 21 = .ok (.invokevirtual 58, 3) := dq daX2_readFact_39_0 9 rfl
theorem dX2_readFact_24 : decode cX2_readFact 24 = .ok (.bipush 91, 2) := dq daX2_readFact_39_0 10 rfl
theorem dX2_readFact_26 : decode cX2_readFact 26 = .ok (.if_icmp .eq 8, 3) := dq daX2_readFact_39_0 11 rfl
theorem dX2_readFact_34 : decode cX2_readFact 34 = .ok (.iload_n 1, 1) := dq daX2_readFact_39_0 12 rfl
theorem dX2_readFact_35 : decode cX2_readFact 35 = .ok (.bipush 10, 2) := dq daX2_readFact_39_0 13 rfl
theorem dX2_readFact_37 : decode cX2_readFact 37 = .ok (.if_icmp .lt 9, 3) := dq daX2_readFact_39_0 14 rfl
theorem dX2_readFact_40 : decode cX2_readFact 40 = .ok (.aload_n 0, 1) := dq daX2_readFact_39_0 15 rfl
theorem dX2_readFact_41 : decode cX2_readFact 41 = .ok (.iconst 2, 1) := dq daX2_readFact_39_0 16 rfl
theorem dX2_readFact_42 : decode cX2_readFact 42 = .ok (.invokevirtual 102, 3) := dq daX2_readFact_39_0 17 rfl
theorem dX2_readFact_29 : decode cX2_readFact 29 = .ok (.aload_n 0, 1) := dq daX2_readFact_39_0 18 rfl
theorem dX2_readFact_30 : decode cX2_readFact 30 = .ok (.invokevirtual 147, 3) := dq daX2_readFact_39_0 19 rfl
theorem dX2_readFact_10 : decode cX2_readFact 10 = .ok (.iconst 1, 1) := dq daX2_readFact_39_0 20 rfl
theorem dX2_readFact_11 : decode cX2_readFact 11 = .ok (.goto 4, 3) := dq daX2_readFact_39_0 21 rfl
theorem dX2_readFact_45 : decode cX2_readFact 45 = .ok (.ireturn, 1) := dq daX2_readFact_39_0 22 rfl
theorem dX2_readFact_33 : decode cX2_readFact 33 = .ok (.ireturn, 1) := dq daX2_readFact_39_0 23 rfl
theorem dX2_readFact_46 : decode cX2_readFact 46 = .ok (.aload_n 0, 1) := dq daX2_readFact_39_0 24 rfl
theorem dX2_readFact_47 : decode cX2_readFact 47 = .ok (.dup, 1) := dq daX2_readFact_39_0 25 rfl
theorem dX2_readFact_48 : decode cX2_readFact 48 = .ok (.getfield 37, 3) := dq daX2_readFact_39_0 26 rfl
theorem dX2_readFact_51 : decode cX2_readFact 51 = .ok (.iconst 1, 1) := dq daX2_readFact_39_0 27 rfl
theorem dX2_readFact_52 : decode cX2_readFact 52 = .ok (.iadd, 1) := dq daX2_readFact_39_0 28 rfl
theorem dX2_readFact_53 : decode cX2_readFact 53 = .ok (.putfield 37, 3) := dq daX2_readFact_39_0 29 rfl
theorem dX2_readFact_56 : decode cX2_readFact 56 = .ok (.iload_n 2, 1) := dq daX2_readFact_39_0 30 rfl
theorem dX2_readFact_57 : decode cX2_readFact 57 = .ok (.ifCond .ne 28, 3) := dq daX2_readFact_39_0 31 rfl
def dtX2_readFact_39_1 : List (Nat × Jvm.ClassFile.Instr × Nat) := [(60, .aload_n 0, 1), (61, .iload_n 1, 1), (62, .iconst 1, 1), (63, .iadd, 1), (64, .invokevirtual 119, 3), (67, .ifCond .eq 16, 3), (83, .iconst 0, 1), (70, .aload_n 0, 1), (71, .bipush 93, 2), (73, .invokevirtual 62, 3), (76, .ifCond .eq 7, 3), (79, .iconst 1, 1), (80, .goto 4, 3), (85, .aload_n 0, 1), (86, .iload_n 1, 1), (87, .iconst 1, 1), (88, .iadd, 1), (89, .invokevirtual 144, 3), (92, .istore_n 3, 1), (93, .aload_n 0, 1), (94, .getfield 23, 3), (97, .iconst (-1), 1), (98, .invokevirtual 141, 3), (101, .iload_n 3, 1), (84, .ireturn, 1), (102, .ireturn, 1)]
theorem daX2_readFact_39_1 : dtX2_readFact_39_1.all (dqd cX2_readFact) = true := by decide +kernel
theorem dX2_readFact_60 : decode cX2_readFact 60 = .ok (.aload_n 0, 1) := dq daX2_readFact_39_1 0 rfl
theorem dX2_readFact_61 : decode cX2_readFact 61 = .ok (.iload_n 1, 1) := dq daX2_readFact_39_1 1 rfl
theorem dX2_readFact_62 : decode cX2_readFact 62 = .ok (.iconst 1, 1) := dq daX2_readFact_39_1 2 rfl
theorem dX2_readFact_63 : decode cX2_readFact 63 = .ok (.iadd, 1) := dq daX2_readFact_39_1 3 rfl
theorem dX2_readFact_64 : decode cX2_readFact 64 = .ok (.invokevirtual 119, 3) := dq daX2_readFact_39_1 4 rfl
theorem dX2_readFact_67 : decode cX2_readFact 67 = .ok (.ifCond .eq 16, 3) := dq daX2_readFact_39_1 5 rfl
theorem dX2_readFact_83 : decode cX2_readFact 83 = .ok (.iconst 0, 1) := dq daX2_readFact_39_1 6 rfl
theorem dX2_readFact_70 : decode cX2_readFact 70 = .ok (.aload_n 0, 1) := dq daX2_readFact_39_1 7 rfl
theorem dX2_readFact_71 : decode cX2_readFact 71 = .ok (.bipush 93, 2) := dq daX2_readFact_39_1 8 rfl
theorem dX2_readFact_73 : decode cX2_readFact 73 = .ok (.invokevirtual 62, 3) := dq daX2_readFact_39_1 9 rfl
theorem dX2_readFact_76 : decode cX2_readFact 76 = .ok (.ifCond .eq 7, 3) := dq daX2_readFact_39_1 10 rfl
theorem dX2_readFact_79 : decode cX2_readFact 79 = .ok (.iconst 1, 1) := dq daX2_readFact_39_1 11 rfl
theorem dX2_readFact_80 : decode cX2_readFact 80 = .ok (.goto 4, 3) := dq daX2_readFact_39_1 12 rfl
theorem dX2_readFact_85 : decode cX2_readFact 85 = .ok (.aload_n 0, 1) := dq daX2_readFact_39_1 13 rfl
theorem dX2_readFact_86 : decode cX2_readFact 86 = .ok (.iload_n 1, 1) := dq daX2_readFact_39_1 14 rfl
theorem dX2_readFact_87 : decode cX2_readFact 87 = .ok (.iconst 1, 1) := dq daX2_readFact_39_1 15 rfl
theorem dX2_readFact_88 : decode cX2_readFact 88 = .ok (.iadd, 1) := dq daX2_readFact_39_1 16 rfl
theorem dX2_readFact_89 : decode cX2_readFact 89 = .ok (.invokevirtual 144, 3) := dq daX2_readFact_39_1 17 rfl
theorem dX2_readFact_92 : decode cX2_readFact 92 = .ok (.istore_n 3, 1) := dq daX2_readFact_39_1 18 rfl
theorem dX2_readFact_93 : decode cX2_readFact 93 = .ok (.aload_n 0, 1) := dq daX2_readFact_39_1 19 rfl
theorem dX2_readFact_94 : decode cX2_readFact 94 = .ok (.getfield 23, 3) := dq daX2_readFact_39_1 20 rfl
theorem dX2_readFact_97 : decode cX2_readFact 97 = .ok (.iconst (-1), 1) := dq daX2_readFact_39_1 21 rfl
theorem dX2_readFact_98 : decode cX2_readFact 98 = .ok (.invokevirtual 141, 3) := dq daX2_readFact_39_1 22 rfl
theorem dX2_readFact_101 : decode cX2_readFact 101 = .ok (.iload_n 3, 1) := dq daX2_readFact_39_1 23 rfl
theorem dX2_readFact_84 : decode cX2_readFact 84 = .ok (.ireturn, 1) := dq daX2_readFact_39_1 24 rfl
theorem dX2_readFact_102 : decode cX2_readFact 102 = .ok (.ireturn, 1) := dq daX2_readFact_39_1 25 rfl
def dtX2_readPart_39_0 : List (Nat × Jvm.ClassFile.Instr × Nat) := [(0, .iconst 0, 1), (1, .istore_n 2, 1), (2, .iload_n 2, 1), (3, .sipush 400, 3), (6, .if_icmp .gt 54, 3), (9, .aload_n 0, 1), (10, .iload_n 1, 1), (11, .invokevirtual 144, 3), (14, .ifCond .ne 5, 3), (19, .iload_n 2, 1), (20, .ifCond .le 12, 3), (32, .aload_n 0, 1), (33, .invokevirtual 58, 3), (36, .sipush 318, 3), (39, .if_icmp .eq 5, 3), (44, .aload_n 0, 1), (45, .dup, 1), (46, .getfield 37, 3), (49, .iconst 1, 1), (50, .iadd, 1), (51, .putfield 37, 3), (54, .iinc 2 1, 3), (57, .goto (-55), 3), (17, .iconst 0, 1), (42, .iconst 1, 1), (23, .aload_n 0, 1), (24, .getfield 23, 3), (27, .bipush (-2), 2), (29, .invokevirtual 141, 3), (18, .ireturn, 1), (43, .ireturn, 1), (60, .aload_n 0, 1)]
theorem daX2_readPart_39_0 : dtX2_readPart_39_0.all (dqd cX2_readPart) = true := by decide +kernel
theorem dX2_readPart_0 : decode cX2_readPart 0 = .ok (.iconst 0, 1) := dq daX2_readPart_39_0 0 rfl
theorem dX2_readPart_1 : decode cX2_readPart 1 = .ok (.istore_n 2, 1) := dq daX2_readPart_39_0 1 rfl
theorem dX2_readPart_2 : decode cX2_readPart 2 = .ok (.iload_n 2, 1) := dq daX2_readPart_39_0 2 rfl
theorem dX2_readPart_3 : decode cX2_readPart 3 = .ok (.sipush 400, 3) := dq daX2_readPart_39_0 3 rfl
theorem dX2_readPart_6 : decode cX2_readPart 6 = .ok (.if_icmp .gt 54, 3) := dq daX2_readPart_39_0 4 rfl
theorem dX2_readPart_9 : decode cX2_readPart 9 = .ok (.aload_n 0, 1) := dq daX2_readPart_39_0 5 rfl
theorem dX2_readPart_10 : decode cX2_readPart 10 = .ok (.iload_n 1, 1) := dq daX2_readPart_39_0 6 rfl
theorem dX2_readPart_11 : decode cX2_readPart 11 = .ok (.invokevirtual 144, 3) := dq daX2_readPart_39_0 7 rfl
theorem dX2_readPart_14 : decode cX2_readPart 14 = .ok (.ifCond .ne 5, 3) := dq daX2_readPart_39_0 8 rfl
theorem dX2_readPart_19 : decode cX2_readPart 19 = .ok (.iload_n 2, 1) := dq daX2_readPart_39_0 9 rfl
theorem dX2_readPart_20 : decode cX2_readPart 20 = .ok (.ifCond .le 12, 3) := dq daX2_readPart_39_0 10 rfl
theorem dX2_readPart_32 : decode cX2_readPart 32 = .ok (.aload_n 0, 1) := dq daX2_readPart_39_0 11 rfl
theorem dX2_readPart_33 : decode cX2_readPart 33 = .ok (.invokevirtual 58, 3) := dq daX2_readPart_39_0 12 rfl
theorem dX2_readPart_36 : decode cX2_readPart 36 = .ok (.sipush 318, 3) := dq daX2_readPart_39_0 13 rfl
theorem dX2_readPart_39 : decode cX2_readPart 39 = .ok (.if_icmp .eq 5, 3) := dq daX2_readPart_39_0 14 rfl
theorem dX2_readPart_44 : decode cX2_readPart 44 = .ok (.aload_n 0, 1) := dq daX2_readPart_39_0 15 rfl
theorem dX2_readPart_45 : decode cX2_readPart 45 = .ok (.dup, 1) := dq daX2_readPart_39_0 16 rfl
theorem dX2_readPart_46 : decode cX2_readPart 46 = .ok (.getfield 37, 3) := dq daX2_readPart_39_0 17 rfl
theorem dX2_readPart_49 : decode cX2_readPart 49 = .ok (.iconst 1, 1) := dq daX2_readPart_39_0 18 rfl
theorem dX2_readPart_50 : decode cX2_readPart 50 = .ok (.iadd, 1) := dq daX2_readPart_39_0 19 rfl
theorem dX2_readPart_51 : decode cX2_readPart 51 = .ok (.putfield 37, 3) := dq daX2_readPart_39_0 20 rfl
theorem dX2_readPart_54 : decode cX2_readPart 54 = .ok (.iinc 2 1, 3) := dq daX2_readPart_39_0 21 rfl
theorem dX2_readPart_57 : decode cX2_readPart 57 = .ok (.goto (-55), 3) := dq daX2_readPart_39_0 22 rfl
theorem dX2_readPart_17 : decode cX2_readPart 17 = .ok (.iconst 0, 1) := dq daX2_readPart_39_0 23 rfl
theorem dX2_readPart_42 : decode cX2_readPart 42 = .ok (.iconst 1, 1) := dq daX2_readPart_39_0 24 rfl
theorem dX2_readPart_23 : decode cX2_readPart 23 = .ok (.aload_n 0, 1) := dq daX2_readPart_39_0 25 rfl
theorem dX2_readPart_24 : decode cX2_readPart 24 = .ok (.getfield 23, 3) := dq daX2_readPart_39_0 26 rfl
theorem dX2_readPart_27 : decode cX2_readPart 27 = .ok (.bipush (-2), 2) := dq daX2_readPart_39_0 27 rfl
theorem dX2_readPart_29 : decode cX2_readPart 29 = .ok (.invokevirtual 141, 3) := dq daX2_readPart_39_0 28 rfl
theorem dX2_readPart_18 : decode cX2_readPart 18 = .ok (.ireturn, 1) := dq daX2_readPart_39_0 29 rfl
theorem dX2_readPart_43 : decode cX2_readPart 43 = .ok (.ireturn, 1) := dq daX2_readPart_39_0 30 rfl
theorem dX2_readPart_60 : decode cX2_readPart 60 = .ok (.aload_n 0, 1) := dq daX2_readPart_39_0 31 rfl
def dtX2_readPart_39_1 : List (Nat × Jvm.ClassFile.Instr × Nat) := [(61, .iconst 3, 1), (62, .invokevirtual 102, 3), (65, .ireturn, 1)]
theorem daX2_readPart_39_1 : dtX2_readPart_39_1.all (dqd cX2_readPart) = true := by decide +kernel
theorem dX2_readPart_61 : decode cX2_readPart 61 = .ok (.iconst 3, 1) := dq daX2_readPart_39_1 0 rfl
theorem dX2_readPart_62 : decode cX2_readPart 62 = .ok (.invokevirtual 102, 3) := dq daX2_readPart_39_1 1 rfl
theorem dX2_readPart_65 : decode cX2_readPart 65 = .ok (.ireturn, 1) := dq daX2_readPart_39_1 2 rfl
def dtX2_readTest_39_0 : List (Nat × Jvm.ClassFile.Instr × Nat) := [(0, .iconst 0, 1), (1, .istore_n 2, 1), (2, .iload_n 2, 1), (3, .sipush 400, 3), (6, .if_icmp .gt 54, 3), (9, .aload_n 0, 1), (10, .iload_n 1, 1), (11, .invokevirtual 138, 3), (14, .ifCond .ne 5, 3), (19, .iload_n 2, 1), (20, .ifCond .le 12, 3), (32, .aload_n 0, 1), (33, .invokevirtual 58, 3), (36, .sipush 317, 3), (39, .if_icmp .eq 5, 3), (44, .aload_n 0, 1), (45, .dup, 1), (46, .getfield 37, 3), (49, .iconst 1, 1), (50, .iadd, 1), (51, .putfield 37, 3), (54, .iinc 2 1, 3), (57, .goto (-55), 3), (17, .iconst 0, 1), (42, .iconst 1, 1), (23, .aload_n 0, 1), (24, .getfield 23, 3), (27, .bipush (-3), 2), (29, .invokevirtual 141, 3), (18, .ireturn, 1), (43, .ireturn, 1), (60, .aload_n 0, 1)]
theorem daX2_readTest_39_0 : dtX2_readTest_39_0.all (dqd cX2_readTest) = true := by decide +kernel
theorem dX2_readTest_0 : decode cX2_readTest 0 = .ok (.iconst 0, 1) := dq daX2_readTest_39_0 0 rfl
theorem dX2_readTest_1 : decode cX2_readTest 1 = .ok (.istore_n 2, 1) := dq daX2_readTest_39_0 1 rfl
theorem dX2_readTest_2 : decode cX2_readTest 2 = .ok (.iload_n 2, 1) := dq daX2_readTest_39_0 2 rfl
theorem dX2_readTest_3 : decode cX2_readTest 3 = .ok (.sipush 400, 3) := dq daX2_readTest_39_0 3 rfl
theorem dX2_readTest_6 : decode cX2_readTest 6 = .ok (.if_icmp .gt 54, 3) := dq daX2_readTest_39_0 4 rfl
theorem dX2_readTest_9 : decode cX2_readTest 9 = .ok (.aload_n 0, 1) := dq daX2_readTest_39_0 5 rfl
theorem dX2_readTest_10 : decode cX2_readTest 10 = .ok (.iload_n 1, 1) := dq daX2_readTest_39_0 6 rfl
theorem dX2_readTest_11 : decode cX2_readTest 11 = .ok (.invokevirtual 138, 3) := dq daX2_readTest_39_0 7 rfl
theorem dX2_readTest_14 : decode cX2_readTest 14 = .ok (.ifCond .ne 5, 3) := dq daX2_readTest_39_0 8 rfl
theorem dX2_readTest_19 : decode cX2_readTest 19 = .ok (.iload_n 2, 1) := dq daX2_readTest_39_0 9 rfl
theorem dX2_readTest_20 : decode cX2_readTest 20 = .ok (.ifCond .le 12, 3) := dq daX2_readTest_39_0 10 rfl
theorem dX2_readTest_32 : decode cX2_readTest 32 = .ok (.aload_n 0, 1) := dq daX2_readTest_39_0 11 rfl
theorem dX2_readTest_33 : decode cX2_readTest 33 = .ok (.invokevirtual 58, 3) := dq daX2_readTest_39_0 12 rfl
theorem dX2_readTest_36 : decode cX2_readTest 36 = .ok (.sipush 317, 3) := dq daX2_readTest_39_0 13 rfl
theorem dX2_readTest_39 : decode cX2_readTest 39 = .ok (.if_icmp .eq 5, 3) := dq daX2_readTest_39_0 14 rfl
theorem dX2_readTest_44 : decode cX2_readTest 44 = .ok (.aload_n 0, 1) := dq daX2_readTest_39_0 15 rfl
theorem dX2_readTest_45 : decode cX2_readTest 45 = .ok (.dup, 1) := dq daX2_readTest_39_0 16 rfl
theorem dX2_readTest_46 : decode cX2_readTest 46 = .ok (.getfield 37, 3) := dq daX2_readTest_39_0 17 rfl
theorem dX2_readTest_49 : decode cX2_readTest 49 = .ok (.iconst 1, 1) := dq daX2_readTest_39_0 18 rfl
theorem dX2_readTest_50 : decode cX2_readTest 50 = .ok (.iadd, 1) := dq daX2_readTest_39_0 19 rfl
theorem dX2_readTest_51 : decode cX2_readTest 51 = .ok (.putfield 37, 3) := dq daX2_readTest_39_0 20 rfl
theorem dX2_readTest_54 : decode cX2_readTest 54 = .ok (.iinc 2 1, 3) := dq daX2_readTest_39_0 21 rfl
theorem dX2_readTest_57 : decode cX2_readTest 57 = .ok (.goto (-55), 3) := dq daX2_readTest_39_0 22 rfl
theorem dX2_readTest_17 : decode cX2_readTest 17 = .ok (.iconst 0, 1) := dq daX2_readTest_39_0 23 rfl
theorem dX2_readTest_42 : decode cX2_readTest 42 = .ok (.iconst 1, 1) := dq daX2_readTest_39_0 24 rfl
theorem dX2_readTest_23 : decode cX2_readTest 23 = .ok (.aload_n 0, 1) := dq daX2_readTest_39_0 25 rfl
theorem dX2_readTest_24 : decode cX2_readTest 24 = .ok (.getfield 23, 3) := dq daX2_readTest_39_0 26 rfl
theorem dX2_readTest_27 : decode cX2_readTest 27 = .ok (.bipush (-3), 2) := dq daX2_readTest_39_0 27 rfl
theorem dX2_readTest_29 : decode cX2_readTest 29 = .ok (.invokevirtual 141, 3) := dq daX2_readTest_39_0 28 rfl
theorem dX2_readTest_18 : decode cX2_readTest 18 = .ok (.ireturn, 1) := dq daX2_readTest_39_0 29 rfl
theorem dX2_readTest_43 : decode cX2_readTest 43 = .ok (.ireturn, 1) := dq daX2_readTest_39_0 30 rfl
theorem dX2_readTest_60 : decode cX2_readTest 60 = .ok (.aload_n 0, 1) := dq daX2_readTest_39_0 31 rfl
def dtX2_readTest_39_1 : List (Nat × Jvm.ClassFile.Instr × Nat) := [(61, .iconst 3, 1), (62, .invokevirtual 102, 3), (65, .ireturn, 1)]
theorem daX2_readTest_39_1 : dtX2_readTest_39_1.all (dqd cX2_readTest) = true := by decide +kernel
theorem dX2_readTest_61 : decode cX2_readTest 61 = .ok (.iconst 3, 1) := dq daX2_readTest_39_1 0 rfl
theorem dX2_readTest_62 : decode cX2_readTest 62 = .ok (.invokevirtual 102, 3) := dq daX2_readTest_39_1 1 rfl
theorem dX2_readTest_65 : decode cX2_readTest 65 = .ok (.ireturn, 1) := dq daX2_readTest_39_1 2 rfl
def dtX2_readClause_39_0 : List (Nat × Jvm.ClassFile.Instr × Nat) := [(0, .aload_n 0, 1), (1, .invokevirtual 58, 3), (4, .sipush 311, 3), (7, .isub, 1), (8, .istore_n 2, 1), (9, .iload_n 2, 1), (10, .ifCond .lt 8, 3), (18, .aload_n 0, 1), (19, .iconst 0, 1), (20, .invokevirtual 102, 3), (13, .iload_n 2, 1), (14, .iconst 4, 1), (15, .if_icmp .le 9, 3), (24, .iload_n 1, 1), (25, .bipush 12, 2), (27, .if_icmp .ge 15, 3), (42, .aload_n 0, 1), (43, .iconst 4, 1), (44, .invokevirtual 102, 3), (30, .iload_n 2, 1), (31, .iconst 4, 1), (32, .if_icmp .ne 16, 3), (48, .aload_n 0, 1), (49, .dup, 1), (50, .getfield 37, 3), (53, .iconst 1, 1), (54, .iadd, 1), (55, .putfield 37, 3), (58, .iload_n 2, 1), (59, .iconst 4, 1), (60, .if_icmp .ne 8, 3), (68, .aload_n 0, 1)]
theorem daX2_readClause_39_0 : dtX2_readClause_39_0.all (dqd cX2_readClause) = true := by decide +kernel
theorem dX2_readClause_0 : decode cX2_readClause 0 = .ok (.aload_n 0, 1) := dq daX2_readClause_39_0 0 rfl
theorem dX2_readClause_1 : decode cX2_readClause 1 = .ok (.invokevirtual 58, 3) := dq daX2_readClause_39_0 1 rfl
theorem dX2_readClause_4 : decode cX2_readClause 4 = .ok (.sipush 311, 3) := dq daX2_readClause_39_0 2 rfl
theorem dX2_readClause_7 : decode cX2_readClause 7 = .ok (.isub, 1) := dq daX2_readClause_39_0 3 rfl
theorem dX2_readClause_8 : decode cX2_readClause 8 = .ok (.istore_n 2, 1) := dq daX2_readClause_39_0 4 rfl
theorem dX2_readClause_9 : decode cX2_readClause 9 = .ok (.iload_n 2, 1) := dq daX2_readClause_39_0 5 rfl
theorem dX2_readClause_10 : decode cX2_readClause 10 = .ok (.ifCond .lt 8, 3) := dq daX2_readClause_39_0 6 rfl
theorem dX2_readClause_18 : decode cX2_readClause 18 = .ok (.aload_n 0, 1) := dq daX2_readClause_39_0 7 rfl
theorem dX2_readClause_19 : decode cX2_readClause 19 = .ok (.iconst 0, 1) := dq daX2_readClause_39_0 8 rfl
theorem dX2_readClause_20 : decode cX2_readClause 20 = .ok (.invokevirtual 102, 3) := dq daX2_readClause_39_0 9 rfl
theorem dX2_readClause_13 : decode cX2_readClause 13 = .ok (.iload_n 2, 1) := dq daX2_readClause_39_0 10 rfl
theorem dX2_readClause_14 : decode cX2_readClause 14 = .ok (.iconst 4, 1) := dq daX2_readClause_39_0 11 rfl
theorem dX2_readClause_15 : decode cX2_readClause 15 = .ok (.if_icmp .le 9, 3) := dq daX2_readClause_39_0 12 rfl
theorem dX2_readClause_24 : decode cX2_readClause 24 = .ok (.iload_n 1, 1) := dq daX2_readClause_39_0 13 rfl
theorem dX2_readClause_25 : decode cX2_readClause 25 = .ok (.bipush 12, 2) := dq daX2_readClause_39_0 14 rfl
theorem dX2_readClause_27 : decode cX2_readClause 27 = .ok (.if_icmp .ge 15, 3) := dq daX2_readClause_39_0 15 rfl
theorem dX2_readClause_42 : decode cX2_readClause 42 = .ok (.aload_n 0, 1) := dq daX2_readClause_39_0 16 rfl
theorem dX2_readClause_43 : decode cX2_readClause 43 = .ok (.iconst 4, 1) := dq daX2_readClause_39_0 17 rfl
theorem dX2_readClause_44 : decode cX2_readClause 44 = .ok (.invokevirtual 102, 3) := dq daX2_readClause_39_0 18 rfl
theorem dX2_readClause_30 : decode cX2_readClause 30 = .ok (.iload_n 2, 1) := dq daX2_readClause_39_0 19 rfl
theorem dX2_readClause_31 : decode cX2_readClause 31 = .ok (.iconst 4, 1) := dq daX2_readClause_39_0 20 rfl
theorem dX2_readClause_32 : decode cX2_readClause 32 = .ok (.if_icmp .ne 16, 3) := dq daX2_readClause_39_0 21 rfl
theorem dX2_readClause_48 : decode cX2_readClause 48 = .ok (.aload_n 0, 1) := dq daX2_readClause_39_0 22 rfl
theorem dX2_readClause_49 : decode cX2_readClause 49 = .ok (.dup, 1) := dq daX2_readClause_39_0 23 rfl
theorem dX2_readClause_50 : decode cX2_readClause 50 = .ok (.getfield 37, 3) := dq daX2_readClause_39_0 24 rfl
theorem dX2_readClause_53 : decode cX2_readClause 53 = .ok (.iconst 1, 1) := dq daX2_readClause_39_0 25 rfl
theorem dX2_readClause_54 : decode cX2_readClause 54 = .ok (.iadd, 1) := dq daX2_readClause_39_0 26 rfl
theorem dX2_readClause_55 : decode cX2_readClause 55 = .ok (.putfield 37, 3) := dq daX2_readClause_39_0 27 rfl
theorem dX2_readClause_58 : decode cX2_readClause 58 = .ok (.iload_n 2, 1) := dq daX2_readClause_39_0 28 rfl
theorem dX2_readClause_59 : decode cX2_readClause 59 = .ok (.iconst 4, 1) := dq daX2_readClause_39_0 29 rfl
theorem dX2_readClause_60 : decode cX2_readClause 60 = .ok (.if_icmp .ne 8, 3) := dq daX2_readClause_39_0 30 rfl
theorem dX2_readClause_68 : decode cX2_readClause 68 = .ok (.aload_n 0, 1) := dq daX2_readClause_39_0 31 rfl
def dtX2_readClause_39_1 : List (Nat × Jvm.ClassFile.Instr × Nat) := [(69, .getfield 23, 3), (72, .iload_n 2, 1), (73, .invokevirtual 109, 3), (76, .aload_n 0, 1), (77, .invokevirtual 113, 3), (80, .ifCond .ne 5, 3), (85, .aload_n 0, 1), (86, .getfield 23, 3), (89, .invokevirtual 116, 3), (92, .aload_n 0, 1), (93, .invokevirtual 58, 3), (96, .sipush 316, 3), (99, .if_icmp .eq 5, 3), (104, .aload_n 0, 1), (105, .dup, 1), (106, .getfield 37, 3), (109, .iconst 1, 1), (110, .iadd, 1), (111, .putfield 37, 3), (114, .aload_n 0, 1), (115, .iconst 0, 1), (116, .invokevirtual 119, 3), (119, .ifCond .ne 5, 3), (124, .aload_n 0, 1), (125, .getfield 23, 3), (128, .invokevirtual 122, 3), (131, .iconst 1, 1), (122, .iconst 0, 1), (102, .iconst 1, 1), (83, .iconst 0, 1), (63, .aload_n 0, 1), (64, .invokevirtual 105, 3)]
theorem daX2_readClause_39_1 : dtX2_readClause_39_1.all (dqd cX2_readClause) = true := by decide +kernel
theorem dX2_readClause_69 : decode cX2_readClause 69 = .ok (.getfield 23, 3) := dq daX2_readClause_39_1 0 rfl
theorem dX2_readClause_72 : decode cX2_readClause 72 = .ok (.iload_n 2, 1) := dq daX2_readClause_39_1 1 rfl
theorem dX2_readClause_73 : decode cX2_readClause 73 = .ok (.invokevirtual 109, 3) := dq daX2_readClause_39_1 2 rfl
theorem dX2_readClause_76 : decode cX2_readClause 76 = .ok (.aload_n 0, 1) := dq daX2_readClause_39_1 3 rfl
theorem dX2_readClause_77 : decode cX2_readClause 77 = .ok (.invokevirtual 113, 3) := dq daX2_readClause_39_1 4 rfl
theorem dX2_readClause_80 : decode cX2_readClause 80 = .ok (.ifCond .ne 5, 3) := dq daX2_readClause_39_1 5 rfl
theorem dX2_readClause_85 : decode cX2_readClause 85 = .ok (.aload_n 0, 1) := dq daX2_readClause_39_1 6 rfl
theorem dX2_readClause_86 : decode cX2_readClause 86 = .ok (.getfield 23, 3) := dq daX2_readClause_39_1 7 rfl
theorem dX2_readClause_89 : decode cX2_readClause 89 = .ok (.invokevirtual 116, 3) := dq daX2_readClause_39_1 8 rfl
theorem dX2_readClause_92 : decode cX2_readClause 92 = .ok (.aload_n 0, 1) := dq daX2_readClause_39_1 9 rfl
theorem dX2_readClause_93 : decode cX2_readClause 93 = .ok (.invokevirtual 58, 3) := dq daX2_readClause_39_1 10 rfl
theorem dX2_readClause_96 : decode cX2_readClause 96 = .ok (.sipush 316, 3) := dq daX2_readClause_39_1 11 rfl
theorem dX2_readClause_99 : decode cX2_readClause 99 = .ok (.if_icmp .eq 5, 3) := dq daX2_readClause_39_1 12 rfl
theorem dX2_readClause_104 : decode cX2_readClause 104 = .ok (.aload_n 0, 1) := dq daX2_readClause_39_1 13 rfl
theorem dX2_readClause_105 : decode cX2_readClause 105 = .ok (.dup, 1) := dq daX2_readClause_39_1 14 rfl
theorem dX2_readClause_106 : decode cX2_readClause 106 = .ok (.getfield 37, 3) := dq daX2_readClause_39_1 15 rfl
theorem dX2_readClause_109 : decode cX2_readClause 109 = .ok (.iconst 1, 1) := dq daX2_readClause_39_1 16 rfl
theorem dX2_readClause_110 : decode cX2_readClause 110 = .ok (.iadd, 1) := dq daX2_readClause_39_1 17 rfl
theorem dX2_readClause_111 : decode cX2_readClause 111 = .ok (.putfield 37, 3) := dq daX2_readClause_39_1 18 rfl
theorem dX2_readClause_114 : decode cX2_readClause 114 = .ok (.aload_n 0, 1) := dq daX2_readClause_39_1 19 rfl
theorem dX2_readClause_115 : decode cX2_readClause 115 = .ok (.iconst 0, 1) := dq daX2_readClause_39_1 20 rfl
theorem dX2_readClause_116 : decode cX2_readClause 116 = .ok (.invokevirtual 119, 3) := dq daX2_readClause_39_1 21 rfl
theorem dX2_readClause_119 : decode cX2_readClause 119 = .ok (.ifCond .ne 5, 3) := dq daX2_readClause_39_1 22 rfl
theorem dX2_readClause_124 : decode cX2_readClause 124 = .ok (.aload_n 0, 1) := dq daX2_readClause_39_1 23 rfl
theorem dX2_readClause_125 : decode cX2_readClause 125 = .ok (.getfield 23, 3) := dq daX2_readClause_39_1 24 rfl
theorem dX2_readClause_128 : decode cX2_readClause 128 = .ok (.invokevirtual 122, 3) := dq daX2_readClause_39_1 25 rfl
theorem dX2_readClause_131 : decode cX2_readClause 131 = .ok (.iconst 1, 1) := dq daX2_readClause_39_1 26 rfl
theorem dX2_readClause_122 : decode cX2_readClause 122 = .ok (.iconst 0, 1) := dq daX2_readClause_39_1 27 rfl
theorem dX2_readClause_102 : decode cX2_readClause 102 = .ok (.iconst 1, 1) := dq daX2_readClause_39_1 28 rfl
theorem dX2_readClause_83 : decode cX2_readClause 83 = .ok (.iconst 0, 1) := dq daX2_readClause_39_1 29 rfl
theorem dX2_readClause_63 : decode cX2_readClause 63 = .ok (.aload_n 0, 1) := dq daX2_readClause_39_1 30 rfl
theorem dX2_readClause_64 : decode cX2_readClause 64 = .ok (.invokevirtual 105, 3) := dq daX2_readClause_39_1 31 rfl
def dtX2_readClause_39_2 : List (Nat × Jvm.ClassFile.Instr × Nat) := [(35, .aload_n 0, 1), (36, .getfield 47, 3), (39, .ifCond .eq 9, 3), (23, .ireturn, 1), (47, .ireturn, 1), (132, .ireturn, 1), (123, .ireturn, 1), (103, .ireturn, 1), (84, .ireturn, 1), (67, .ireturn, 1)]
theorem daX2_readClause_39_2 : dtX2_readClause_39_2.all (dqd cX2_readClause) = true := by decide +kernel
theorem dX2_readClause_35 : decode cX2_readClause 35 = .ok (.aload_n 0, 1) := dq daX2_readClause_39_2 0 rfl
theorem dX2_readClause_36 : decode cX2_readClause 36 = .ok (.getfield 47, 3) := dq daX2_readClause_39_2 1 rfl
theorem dX2_readClause_39 : decode cX2_readClause 39 = .ok (.ifCond .eq 9, 3) := dq daX2_readClause_39_2 2 rfl
theorem dX2_readClause_23 : decode cX2_readClause 23 = .ok (.ireturn, 1) := dq daX2_readClause_39_2 3 rfl
theorem dX2_readClause_47 : decode cX2_readClause 47 = .ok (.ireturn, 1) := dq daX2_readClause_39_2 4 rfl
theorem dX2_readClause_132 : decode cX2_readClause 132 = .ok (.ireturn, 1) := dq daX2_readClause_39_2 5 rfl
theorem dX2_readClause_123 : decode cX2_readClause 123 = .ok (.ireturn, 1) := dq daX2_readClause_39_2 6 rfl
theorem dX2_readClause_103 : decode cX2_readClause 103 = .ok (.ireturn, 1) := dq daX2_readClause_39_2 7 rfl
theorem dX2_readClause_84 : decode cX2_readClause 84 = .ok (.ireturn, 1) := dq daX2_readClause_39_2 8 rfl
theorem dX2_readClause_67 : decode cX2_readClause 67 = .ok (.ireturn, 1) := dq daX2_readClause_39_2 9 rfl
def dtX2_read_39_0 : List (Nat × Jvm.ClassFile.Instr × Nat) := [(0, .aload_n 0, 1), (1, .aload_n 1, 1), (2, .iload_n 2, 1), (3, .aload_n 1, 1), (4, .arraylength, 1), (5, .invokestatic 27, 3), (8, .invokevirtual 33, 3), (11, .aload_n 0, 1), (12, .iconst 0, 1), (13, .putfield 37, 3), (16, .aload_n 0, 1), (17, .iconst 0, 1), (18, .putfield 41, 3), (21, .aload_n 0, 1), (22, .iconst 0, 1), (23, .putfield 44, 3), (26, .aload_n 0, 1), (27, .iconst 0, 1), (28, .putfield 47, 3), (31, .aload_n 0, 1), (32, .aload_n 3, 1), (33, .putfield 23, 3), (36, .aload_n 0, 1), (37, .getfield 23, 3), (40, .invokevirtual 51, 3), (43, .iconst 0, 1), (44, .istore 4, 2), (46, .iload 4, 2), (48, .bipush 12, 2), (50, .if_icmp .gt 44, 3), (53, .aload_n 0, 1), (54, .getfield 41, 3)]
theorem daX2_read_39_0 : dtX2_read_39_0.all (dqd cX2_read) = true := by decide +kernel
theorem dX2_read_0 : decode cX2_read 0 = .ok (.aload_n 0, 1) := dq daX2_read_39_0 0 rfl
theorem dX2_read_1 : decode cX2_read 1 = .ok (.aload_n 1, 1) := dq daX2_read_39_0 1 rfl
theorem dX2_read_2 : decode cX2_read 2 = .ok (.iload_n 2, 1) := dq daX2_read_39_0 2 rfl
theorem dX2_read_3 : decode cX2_read 3 = .ok (.aload_n 1, 1) := dq daX2_read_39_0 3 rfl
theorem dX2_read_4 : decode cX2_read 4 = .ok (.arraylength, 1) := dq daX2_read_39_0 4 rfl
theorem dX2_read_5 : decode cX2_read 5 = .ok (.invokestatic 27, 3) := dq daX2_read_39_0 5 rfl
theorem dX2_read_8 : decode cX2_read 8 = .ok (.invokevirtual 33, 3) := dq daX2_read_39_0 6 rfl
theorem dX2_read_11 : decode cX2_read 11 = .ok (.aload_n 0, 1) := dq daX2_read_39_0 7 rfl
theorem dX2_read_12 : decode cX2_read 12 = .ok (.iconst 0, 1) := dq daX2_read_39_0 8 rfl
theorem dX2_read_13 : decode cX2_read 13 = .ok (.putfield 37, 3) := dq daX2_read_39_0 9 rfl
theorem dX2_read_16 : decode cX2_read 16 = .ok (.aload_n 0, 1) := dq daX2_read_39_0 10 rfl
theorem dX2_read_17 : decode cX2_read 17 = .ok (.iconst 0, 1) := dq daX2_read_39_0 11 rfl
theorem dX2_read_18 : decode cX2_read 18 = .ok (.putfield 41, 3) := dq daX2_read_39_0 12 rfl
theorem dX2_read_21 : decode cX2_read 21 = .ok (.aload_n 0, 1) := dq daX2_read_39_0 13 rfl
theorem dX2_read_22 : decode cX2_read 22 = .ok (.iconst 0, 1) := dq daX2_read_39_0 14 rfl
theorem dX2_read_23 : decode cX2_read 23 = .ok (.putfield 44, 3) := dq daX2_read_39_0 15 rfl
theorem dX2_read_26 : decode cX2_read 26 = .ok (.aload_n 0, 1) := dq daX2_read_39_0 16 rfl
theorem dX2_read_27 : decode cX2_read 27 = .ok (.iconst 0, 1) := dq daX2_read_39_0 17 rfl
theorem dX2_read_28 : decode cX2_read 28 = .ok (.putfield 47, 3) := dq daX2_read_39_0 18 rfl
theorem dX2_read_31 : decode cX2_read 31 = .ok (.aload_n 0, 1) := dq daX2_read_39_0 19 rfl
theorem dX2_read_32 : decode cX2_read 32 = .ok (.aload_n 3, 1) := dq daX2_read_39_0 20 rfl
theorem dX2_read_33 : decode cX2_read 33 = .ok (.putfield 23, 3) := dq daX2_read_39_0 21 rfl
theorem dX2_read_36 : decode cX2_read 36 = .ok (.aload_n 0, 1) := dq daX2_read_39_0 22 rfl
theorem dX2_read_37 : decode cX2_read 37 = .ok (.getfield 23, 3) := dq daX2_read_39_0 23 rfl
theorem dX2_read_40 : decode cX2_read 40 = .ok (.invokevirtual 51, 3) := dq daX2_read_39_0 24 rfl
theorem dX2_read_43 : decode cX2_read 43 = .ok (.iconst 0, 1) := dq daX2_read_39_0 25 rfl
theorem dX2_read_44 : decode cX2_read 44 = .ok (.istore 4, 2) := dq daX2_read_39_0 26 rfl
theorem dX2_read_46 : decode cX2_read 46 = .ok (.iload 4, 2) := dq daX2_read_39_0 27 rfl
theorem dX2_read_48 : decode cX2_read 48 = .ok (.bipush 12, 2) := dq daX2_read_39_0 28 rfl
theorem dX2_read_50 : decode cX2_read 50 = .ok (.if_icmp .gt 44, 3) := dq daX2_read_39_0 29 rfl
theorem dX2_read_53 : decode cX2_read 53 = .ok (.aload_n 0, 1) := dq daX2_read_39_0 30 rfl
theorem dX2_read_54 : decode cX2_read 54 = .ok (.getfield 41, 3) := dq daX2_read_39_0 31 rfl
def dtX2_read_39_1 : List (Nat × Jvm.ClassFile.Instr × Nat) := [(57, .ifCond .ne 37, 3), (60, .aload_n 0, 1), (61, .iload 4, 2), (63, .invokevirtual 54, 3), (66, .ifCond .eq 22, 3), (88, .iinc 4 1, 3), (91, .goto (-45), 3), (69, .aload_n 0, 1), (70, .invokevirtual 58, 3), (73, .sipush 258, 3), (76, .if_icmp .ne 5, 3), (81, .aload_n 0, 1), (82, .bipush 59, 2), (84, .invokevirtual 62, 3), (87, .pop, 1), (79, .iconst 0, 1), (80, .ireturn, 1), (94, .aload_n 0, 1), (95, .getfield 41, 3), (98, .ireturn, 1)]
theorem daX2_read_39_1 : dtX2_read_39_1.all (dqd cX2_read) = true := by decide +kernel
theorem dX2_read_57 : decode cX2_read 57 = .ok (.ifCond .ne 37, 3) := dq daX2_read_39_1 0 rfl
theorem dX2_read_60 : decode cX2_read 60 = .ok (.aload_n 0, 1) := dq daX2_read_39_1 1 rfl
theorem dX2_read_61 : decode cX2_read 61 = .ok (.iload 4, 2) := dq daX2_read_39_1 2 rfl
theorem dX2_read_63 : decode cX2_read 63 = .ok (.invokevirtual 54, 3) := dq daX2_read_39_1 3 rfl
theorem dX2_read_66 : decode cX2_read 66 = .ok (.ifCond .eq 22, 3) := dq daX2_read_39_1 4 rfl
theorem dX2_read_88 : decode cX2_read 88 = .ok (.iinc 4 1, 3) := dq daX2_read_39_1 5 rfl
theorem dX2_read_91 : decode cX2_read 91 = .ok (.goto (-45), 3) := dq daX2_read_39_1 6 rfl
theorem dX2_read_69 : decode cX2_read 69 = .ok (.aload_n 0, 1) := dq daX2_read_39_1 7 rfl
theorem dX2_read_70 : decode cX2_read 70 = .ok (.invokevirtual 58, 3) := dq daX2_read_39_1 8 rfl
theorem dX2_read_73 : decode cX2_read 73 = .ok (.sipush 258, 3) := dq daX2_read_39_1 9 rfl
theorem dX2_read_76 : decode cX2_read 76 = .ok (.if_icmp .ne 5, 3) := dq daX2_read_39_1 10 rfl
theorem dX2_read_81 : decode cX2_read 81 = .ok (.aload_n 0, 1) := dq daX2_read_39_1 11 rfl
theorem dX2_read_82 : decode cX2_read 82 = .ok (.bipush 59, 2) := dq daX2_read_39_1 12 rfl
theorem dX2_read_84 : decode cX2_read 84 = .ok (.invokevirtual 62, 3) := dq daX2_read_39_1 13 rfl
theorem dX2_read_87 : decode cX2_read 87 = .ok (.pop, 1) := dq daX2_read_39_1 14 rfl
theorem dX2_read_79 : decode cX2_read 79 = .ok (.iconst 0, 1) := dq daX2_read_39_1 15 rfl
theorem dX2_read_80 : decode cX2_read 80 = .ok (.ireturn, 1) := dq daX2_read_39_1 16 rfl
theorem dX2_read_94 : decode cX2_read 94 = .ok (.aload_n 0, 1) := dq daX2_read_39_1 17 rfl
theorem dX2_read_95 : decode cX2_read 95 = .ok (.getfield 41, 3) := dq daX2_read_39_1 18 rfl
theorem dX2_read_98 : decode cX2_read 98 = .ok (.ireturn, 1) := dq daX2_read_39_1 19 rfl
