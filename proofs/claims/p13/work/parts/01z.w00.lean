theorem wt0 : wt 0 = (.classLink RL 7 RX10 : Cond) := rfl
theorem wt1 : wt 1 = (.instantiable RX10 13 : Cond) := rfl
theorem wt2 : wt 2 = (.initialized RX10 : Cond) := rfl
theorem wt3 : wt 3 = (.classLink RL 10 RX11 : Cond) := rfl
theorem wt4 : wt 4 = (.instantiable RX11 42 : Cond) := rfl
theorem wt5 : wt 5 = (.initialized RX11 : Cond) := rfl
theorem wt6 : wt 6 = (.methodLink RL 9 yX10_init : Cond) := rfl
theorem wt7 : wt 7 = (.instanceMethod yX10_init : Cond) := rfl
theorem wt8 : wt 8 = (.code yX10_init cX10_init 1 none : Cond) := rfl
theorem wt9 : wt 9 = (.methodLink RX10 1 objectInit : Cond) := rfl
theorem wt10 : wt 10 = (.instanceMethod objectInit : Cond) := rfl
theorem wt11 : wt 11 = (.code objectInit ⟨#[0xb1]⟩ 1 none : Cond) := rfl
theorem wt12 : wt 12 = (.classLink RX10 7 RX9 : Cond) := rfl
theorem wt13 : wt 13 = (.instantiable RX9 10 : Cond) := rfl
theorem wt14 : wt 14 = (.initialized RX9 : Cond) := rfl
theorem wt15 : wt 15 = (.fieldLink RX10 10 "SnowMules" "world" "LSnowMules$World;" : Cond) := rfl
theorem wt16 : wt 16 = (.fieldLink RX10 16 "SnowMules" "later" "LSnowMules$World;" : Cond) := rfl
theorem wt17 : wt 17 = (.fieldLink RX10 19 "SnowMules" "images" "[LSnowMules$World;" : Cond) := rfl
theorem wt18 : wt 18 = (.arrayClass .int : Cond) := rfl
theorem wt19 : wt 19 = (.fieldLink RX10 23 "SnowMules" "tape" "[I" : Cond) := rfl
theorem wt20 : wt 20 = (.classLink RX10 27 RX1 : Cond) := rfl
theorem wt21 : wt 21 = (.fieldLink RX10 29 "SnowMules" "laws" "[LSnowMules$Law;" : Cond) := rfl
theorem wt22 : wt 22 = (.classLink RX10 33 RX2 : Cond) := rfl
theorem wt23 : wt 23 = (.instantiable RX2 8 : Cond) := rfl
theorem wt24 : wt 24 = (.initialized RX2 : Cond) := rfl
theorem wt25 : wt 25 = (.fieldLink RX10 36 "SnowMules" "reader" "LSnowMules$LawReader;" : Cond) := rfl
theorem wt26 : wt 26 = (.classLink RX10 40 RX0 : Cond) := rfl
theorem wt27 : wt 27 = (.instantiable RX0 1 : Cond) := rfl
theorem wt28 : wt 28 = (.initialized RX0 : Cond) := rfl
theorem wt29 : wt 29 = (.fieldLink RX10 43 "SnowMules" "hours" "LSnowMules$Hours;" : Cond) := rfl
theorem wt30 : wt 30 = (.classLink RX10 47 RX7 : Cond) := rfl
theorem wt31 : wt 31 = (.instantiable RX7 9 : Cond) := rfl
theorem wt32 : wt 32 = (.initialized RX7 : Cond) := rfl
theorem wt33 : wt 33 = (.fieldLink RX10 52 "SnowMules" "trip" "LSnowMules$Trip;" : Cond) := rfl
theorem wt34 : wt 34 = (.classLink RX10 56 RX5 : Cond) := rfl
theorem wt35 : wt 35 = (.instantiable RX5 13 : Cond) := rfl
theorem wt36 : wt 36 = (.initialized RX5 : Cond) := rfl
theorem wt37 : wt 37 = (.fieldLink RX10 61 "SnowMules" "search" "LSnowMules$Search;" : Cond) := rfl
theorem wt38 : wt 38 = (.classLink RX10 65 RX8 : Cond) := rfl
theorem wt39 : wt 39 = (.instantiable RX8 7 : Cond) := rfl
theorem wt40 : wt 40 = (.initialized RX8 : Cond) := rfl
theorem wt41 : wt 41 = (.fieldLink RX10 68 "SnowMules" "waits" "LSnowMules$Waits;" : Cond) := rfl
theorem wt42 : wt 42 = (.classLink RX10 72 RX3 : Cond) := rfl
theorem wt43 : wt 43 = (.instantiable RX3 4 : Cond) := rfl
theorem wt44 : wt 44 = (.initialized RX3 : Cond) := rfl
theorem wt45 : wt 45 = (.fieldLink RX10 75 "SnowMules" "market" "LSnowMules$Market;" : Cond) := rfl
theorem wt46 : wt 46 = (.instanceMethod yX9_init : Cond) := rfl
theorem wt47 : wt 47 = (.code yX9_init cX9_init 1 none : Cond) := rfl
theorem wt48 : wt 48 = (.methodLink RX9 3 objectInit : Cond) := rfl
theorem wt49 : wt 49 = (.classLink RX9 9 RX6 : Cond) := rfl
theorem wt50 : wt 50 = (.instantiable RX6 3 : Cond) := rfl
theorem wt51 : wt 51 = (.initialized RX6 : Cond) := rfl
theorem wt52 : wt 52 = (.fieldLink RX9 14 "SnowMules$World" "nodes" "LSnowMules$Table;" : Cond) := rfl
theorem wt53 : wt 53 = (.fieldLink RX9 20 "SnowMules$World" "passes" "LSnowMules$Table;" : Cond) := rfl
theorem wt54 : wt 54 = (.fieldLink RX9 23 "SnowMules$World" "jars" "LSnowMules$Table;" : Cond) := rfl
theorem wt55 : wt 55 = (.fieldLink RX9 26 "SnowMules$World" "orders" "LSnowMules$Table;" : Cond) := rfl
theorem wt56 : wt 56 = (.fieldLink RX9 29 "SnowMules$World" "feasts" "LSnowMules$Table;" : Cond) := rfl
theorem wt57 : wt 57 = (.fieldLink RX9 32 "SnowMules$World" "way" "LSnowMules$Table;" : Cond) := rfl
theorem wt58 : wt 58 = (.fieldLink RX9 35 "SnowMules$World" "wayStart" "I" : Cond) := rfl
theorem wt59 : wt 59 = (.methodLink RX9 11 yX6_init : Cond) := rfl
theorem wt60 : wt 60 = (.instanceMethod yX6_init : Cond) := rfl
theorem wt61 : wt 61 = (.code yX6_init cX6_init 3 none : Cond) := rfl
theorem wt62 : wt 62 = (.methodLink RX6 3 objectInit : Cond) := rfl
theorem wt63 : wt 63 = (.fieldLink RX6 9 "SnowMules$Table" "width" "I" : Cond) := rfl
theorem wt64 : wt 64 = (.methodLink RX6 15 Lib.Math.max.name : Cond) := rfl
theorem wt65 : wt 65 = (.static Lib.Math.max.name : Cond) := rfl
theorem wt66 : wt 66 = (.initialized "java/lang/Math" : Cond) := rfl
theorem wt67 : wt 67 = (.code Lib.Math.max.name Lib.Math.max.code 2 (some .int) : Cond) := rfl
theorem wt68 : wt 68 = (.fieldLink RX6 21 "SnowMules$Table" "cells" "[I" : Cond) := rfl
theorem wt69 : wt 69 = (.instanceMethod yX2_init : Cond) := rfl
theorem wt70 : wt 70 = (.code yX2_init cX2_init 1 none : Cond) := rfl
theorem wt71 : wt 71 = (.methodLink RX2 7 objectInit : Cond) := rfl
theorem wt72 : wt 72 = (.fieldLink RX2 13 "SnowMules$LawReader" "tokens" "[I" : Cond) := rfl
theorem wt73 : wt 73 = (.fieldLink RX2 17 "SnowMules$LawReader" "places" "[I" : Cond) := rfl
theorem wt74 : wt 74 = (.classLink RX2 20 RX1 : Cond) := rfl
theorem wt75 : wt 75 = (.instantiable RX1 17 : Cond) := rfl
theorem wt76 : wt 76 = (.initialized RX1 : Cond) := rfl
theorem wt77 : wt 77 = (.fieldLink RX2 23 "SnowMules$LawReader" "law" "LSnowMules$Law;" : Cond) := rfl
theorem wt78 : wt 78 = (.instanceMethod yX1_init : Cond) := rfl
theorem wt79 : wt 79 = (.code yX1_init cX1_init 1 none : Cond) := rfl
theorem wt80 : wt 80 = (.methodLink RX1 1 objectInit : Cond) := rfl
theorem wt81 : wt 81 = (.fieldLink RX1 9 "SnowMules$Law" "sorts" "[I" : Cond) := rfl
theorem wt82 : wt 82 = (.fieldLink RX1 13 "SnowMules$Law" "sumStarts" "[I" : Cond) := rfl
theorem wt83 : wt 83 = (.fieldLink RX1 16 "SnowMules$Law" "sumStops" "[I" : Cond) := rfl
theorem wt84 : wt 84 = (.fieldLink RX1 19 "SnowMules$Law" "testStarts" "[I" : Cond) := rfl
theorem wt85 : wt 85 = (.fieldLink RX1 22 "SnowMules$Law" "testStops" "[I" : Cond) := rfl
theorem wt86 : wt 86 = (.fieldLink RX1 25 "SnowMules$Law" "joins" "[I" : Cond) := rfl
theorem wt87 : wt 87 = (.fieldLink RX1 28 "SnowMules$Law" "operands" "[I" : Cond) := rfl
theorem wt88 : wt 88 = (.fieldLink RX1 31 "SnowMules$Law" "factStarts" "[I" : Cond) := rfl
theorem wt89 : wt 89 = (.fieldLink RX1 34 "SnowMules$Law" "factMiddles" "[I" : Cond) := rfl
theorem wt90 : wt 90 = (.fieldLink RX1 37 "SnowMules$Law" "factStops" "[I" : Cond) := rfl
theorem wt91 : wt 91 = (.fieldLink RX1 40 "SnowMules$Law" "signs" "[I" : Cond) := rfl
theorem wt92 : wt 92 = (.fieldLink RX1 43 "SnowMules$Law" "tests" "[I" : Cond) := rfl
theorem wt93 : wt 93 = (.instanceMethod yX0_init : Cond) := rfl
theorem wt94 : wt 94 = (.code yX0_init cX0_init 1 none : Cond) := rfl
theorem wt95 : wt 95 = (.methodLink RX0 3 objectInit : Cond) := rfl
theorem wt96 : wt 96 = (.classLink RX0 9 RX4 : Cond) := rfl
theorem wt97 : wt 97 = (.instantiable RX4 4 : Cond) := rfl
theorem wt98 : wt 98 = (.initialized RX4 : Cond) := rfl
theorem wt99 : wt 99 = (.fieldLink RX0 12 "SnowMules$Hours" "scene" "LSnowMules$Scene;" : Cond) := rfl
theorem wt100 : wt 100 = (.instanceMethod yX4_init : Cond) := rfl
theorem wt101 : wt 101 = (.code yX4_init cX4_init 1 none : Cond) := rfl
theorem wt102 : wt 102 = (.methodLink RX4 3 objectInit : Cond) := rfl
theorem wt103 : wt 103 = (.fieldLink RX4 11 "SnowMules$Scene" "words" "[I" : Cond) := rfl
theorem wt104 : wt 104 = (.methodLink RX10 49 yX7_init : Cond) := rfl
theorem wt105 : wt 105 = (.instanceMethod yX7_init : Cond) := rfl
theorem wt106 : wt 106 = (.code yX7_init cX7_init 2 none : Cond) := rfl
theorem wt107 : wt 107 = (.methodLink RX7 3 objectInit : Cond) := rfl
theorem wt108 : wt 108 = (.classLink RX7 9 RX1 : Cond) := rfl
theorem wt109 : wt 109 = (.fieldLink RX7 12 "SnowMules$Trip" "law" "LSnowMules$Law;" : Cond) := rfl
theorem wt110 : wt 110 = (.classLink RX7 18 RX4 : Cond) := rfl
theorem wt111 : wt 111 = (.fieldLink RX7 21 "SnowMules$Trip" "scene" "LSnowMules$Scene;" : Cond) := rfl
theorem wt112 : wt 112 = (.fieldLink RX7 25 "SnowMules$Trip" "world" "LSnowMules$World;" : Cond) := rfl
theorem wt113 : wt 113 = (.methodLink RX10 58 yX5_init : Cond) := rfl
theorem wt114 : wt 114 = (.instanceMethod yX5_init : Cond) := rfl
theorem wt115 : wt 115 = (.code yX5_init cX5_init 3 none : Cond) := rfl
theorem wt116 : wt 116 = (.methodLink RX5 3 objectInit : Cond) := rfl
theorem wt117 : wt 117 = (.fieldLink RX5 9 "SnowMules$Search" "far" "[I" : Cond) := rfl
theorem wt118 : wt 118 = (.fieldLink RX5 15 "SnowMules$Search" "row" "[I" : Cond) := rfl
theorem wt119 : wt 119 = (.fieldLink RX5 18 "SnowMules$Search" "bestRow" "[I" : Cond) := rfl
theorem wt120 : wt 120 = (.fieldLink RX5 21 "SnowMules$Search" "world" "LSnowMules$World;" : Cond) := rfl
theorem wt121 : wt 121 = (.fieldLink RX5 25 "SnowMules$Search" "trip" "LSnowMules$Trip;" : Cond) := rfl
theorem wt122 : wt 122 = (.methodLink RX10 67 yX8_init : Cond) := rfl
theorem wt123 : wt 123 = (.instanceMethod yX8_init : Cond) := rfl
theorem wt124 : wt 124 = (.code yX8_init cX8_init 3 none : Cond) := rfl
theorem wt125 : wt 125 = (.methodLink RX8 3 objectInit : Cond) := rfl
theorem wt126 : wt 126 = (.fieldLink RX8 9 "SnowMules$Waits" "waited" "[I" : Cond) := rfl
theorem wt127 : wt 127 = (.fieldLink RX8 15 "SnowMules$Waits" "fewest" "[I" : Cond) := rfl
theorem wt128 : wt 128 = (.fieldLink RX8 18 "SnowMules$Waits" "most" "[I" : Cond) := rfl
theorem wt129 : wt 129 = (.fieldLink RX8 21 "SnowMules$Waits" "world" "LSnowMules$World;" : Cond) := rfl
theorem wt130 : wt 130 = (.fieldLink RX8 25 "SnowMules$Waits" "trip" "LSnowMules$Trip;" : Cond) := rfl
theorem wt131 : wt 131 = (.methodLink RX10 74 yX3_init : Cond) := rfl
theorem wt132 : wt 132 = (.instanceMethod yX3_init : Cond) := rfl
theorem wt133 : wt 133 = (.code yX3_init cX3_init 2 none : Cond) := rfl
theorem wt134 : wt 134 = (.methodLink RX3 3 objectInit : Cond) := rfl
theorem wt135 : wt 135 = (.fieldLink RX3 9 "SnowMules$Market" "offers" "[I" : Cond) := rfl
theorem wt136 : wt 136 = (.fieldLink RX3 15 "SnowMules$Market" "chosen" "[I" : Cond) := rfl
theorem wt137 : wt 137 = (.fieldLink RX3 18 "SnowMules$Market" "world" "LSnowMules$World;" : Cond) := rfl
theorem wt138 : wt 138 = (.methodLink RL 12 yX11_init : Cond) := rfl
theorem wt139 : wt 139 = (.instanceMethod yX11_init : Cond) := rfl
theorem wt140 : wt 140 = (.code yX11_init cX11_init 1 none : Cond) := rfl
theorem wt141 : wt 141 = (.methodLink RX11 1 objectInit : Cond) := rfl
theorem wt142 : wt 142 = (.arrayClass .byte : Cond) := rfl
theorem wt143 : wt 143 = (.fieldLink RX11 7 "SnowMulesModel" "tape" "[B" : Cond) := rfl
theorem wt144 : wt 144 = (.fieldLink RX11 13 "SnowMulesModel" "sign" "[I" : Cond) := rfl
theorem wt145 : wt 145 = (.fieldLink RX11 17 "SnowMulesModel" "length" "[I" : Cond) := rfl
theorem wt146 : wt 146 = (.fieldLink RX11 20 "SnowMulesModel" "clause" "[I" : Cond) := rfl
theorem wt147 : wt 147 = (.fieldLink RX11 23 "SnowMulesModel" "clauses" "[I" : Cond) := rfl
theorem wt148 : wt 148 = (.fieldLink RX11 26 "SnowMulesModel" "chain" "[I" : Cond) := rfl
theorem wt149 : wt 149 = (.fieldLink RX11 29 "SnowMulesModel" "open" "[I" : Cond) := rfl
theorem wt150 : wt 150 = (.arrayClass .long : Cond) := rfl
theorem wt151 : wt 151 = (.fieldLink RX11 32 "SnowMulesModel" "stack" "[J" : Cond) := rfl
theorem wt152 : wt 152 = (.fieldLink RX11 36 "SnowMulesModel" "word" "[J" : Cond) := rfl
theorem wt153 : wt 153 = (.fieldLink RX11 39 "SnowMulesModel" "said" "[I" : Cond) := rfl
theorem wt154 : wt 154 = (.fieldLink RX11 42 "SnowMulesModel" "kept" "[I" : Cond) := rfl
theorem wt155 : wt 155 = (.fieldLink RX11 45 "SnowMulesModel" "stepNode" "[I" : Cond) := rfl
theorem wt156 : wt 156 = (.fieldLink RX11 48 "SnowMulesModel" "stepDrops" "[I" : Cond) := rfl
theorem wt157 : wt 157 = (.fieldLink RX11 51 "SnowMulesModel" "stepHour" "[I" : Cond) := rfl
theorem wt158 : wt 158 = (.fieldLink RX11 54 "SnowMulesModel" "stepNext" "[I" : Cond) := rfl
theorem wt159 : wt 159 = (.fieldLink RX11 57 "SnowMulesModel" "stepPass" "[I" : Cond) := rfl
theorem wt160 : wt 160 = (.fieldLink RX11 60 "SnowMulesModel" "bestPass" "[I" : Cond) := rfl
theorem wt161 : wt 161 = (.fieldLink RX11 63 "SnowMulesModel" "far" "[I" : Cond) := rfl
theorem wt162 : wt 162 = (.fieldLink RX11 66 "SnowMulesModel" "waited" "[I" : Cond) := rfl
theorem wt163 : wt 163 = (.fieldLink RX11 69 "SnowMulesModel" "servers" "[I" : Cond) := rfl
theorem wt164 : wt 164 = (.fieldLink RX11 72 "SnowMulesModel" "images" "[I" : Cond) := rfl
theorem wt165 : wt 165 = (.arrayClass .boolean : Cond) := rfl
theorem wt166 : wt 166 = (.fieldLink RX11 75 "SnowMulesModel" "isMade" "[Z" : Cond) := rfl
theorem wt167 : wt 167 = (.methodLink RL 13 yX10_node : Cond) := rfl
theorem wt168 : wt 168 = (.instanceMethod yX10_node : Cond) := rfl
theorem wt169 : wt 169 = (.selects RX10 yX10_node yX10_node : Cond) := rfl
theorem wt170 : wt 170 = (.code yX10_node cX10_node 6 (some .int) : Cond) := rfl
theorem wt171 : wt 171 = (.fieldLink RX10 83 "SnowMules$World" "nodes" "LSnowMules$Table;" : Cond) := rfl
theorem wt172 : wt 172 = (.methodLink RX10 79 yX10_within : Cond) := rfl
theorem wt173 : wt 173 = (.static yX10_within : Cond) := rfl
theorem wt174 : wt 174 = (.code yX10_within cX10_within 2 (some .boolean) : Cond) := rfl
theorem wt175 : wt 175 = (.methodLink RX10 87 yX6_grow : Cond) := rfl
theorem wt176 : wt 176 = (.instanceMethod yX6_grow : Cond) := rfl
theorem wt177 : wt 177 = (.selects RX6 yX6_grow yX6_grow : Cond) := rfl
theorem wt178 : wt 178 = (.code yX6_grow cX6_grow 1 (some .int) : Cond) := rfl
theorem wt179 : wt 179 = (.fieldLink RX6 25 "SnowMules$Table" "size" "I" : Cond) := rfl
theorem wt180 : wt 180 = (.methodLink RX10 93 yX6_put : Cond) := rfl
theorem wt181 : wt 181 = (.instanceMethod yX6_put : Cond) := rfl
theorem wt182 : wt 182 = (.selects RX6 yX6_put yX6_put : Cond) := rfl
theorem wt183 : wt 183 = (.code yX6_put cX6_put 5 none : Cond) := rfl
theorem wt184 : wt 184 = (.methodLink RL 17 yX11_node : Cond) := rfl
theorem wt185 : wt 185 = (.instanceMethod yX11_node : Cond) := rfl
theorem wt186 : wt 186 = (.selects RX11 yX11_node yX11_node : Cond) := rfl
theorem wt187 : wt 187 = (.code yX11_node cX11_node 5 (some .int) : Cond) := rfl
theorem wt188 : wt 188 = (.constantLong RX11 261 (400) : Cond) := rfl
theorem wt189 : wt 189 = (.constantLong RX11 263 (4095) : Cond) := rfl
theorem wt190 : wt 190 = (.constantLong RX11 265 (9) : Cond) := rfl
theorem wt191 : wt 191 = (.methodLink RX11 118 yX11_in : Cond) := rfl
theorem wt192 : wt 192 = (.static yX11_in : Cond) := rfl
theorem wt193 : wt 193 = (.code yX11_in cX11_in 6 (some .boolean) : Cond) := rfl
theorem wt194 : wt 194 = (.methodLink RL 18 yX10_pass : Cond) := rfl
theorem wt195 : wt 195 = (.instanceMethod yX10_pass : Cond) := rfl
theorem wt196 : wt 196 = (.selects RX10 yX10_pass yX10_pass : Cond) := rfl
theorem wt197 : wt 197 = (.code yX10_pass cX10_pass 9 (some .int) : Cond) := rfl
theorem wt198 : wt 198 = (.fieldLink RX10 101 "SnowMules$World" "passes" "LSnowMules$Table;" : Cond) := rfl
theorem wt199 : wt 199 = (.methodLink RX10 97 yX6_has : Cond) := rfl
theorem wt200 : wt 200 = (.instanceMethod yX6_has : Cond) := rfl
theorem wt201 : wt 201 = (.selects RX6 yX6_has yX6_has : Cond) := rfl
theorem wt202 : wt 202 = (.code yX6_has cX6_has 2 (some .boolean) : Cond) := rfl
theorem wt203 : wt 203 = (.methodLink RL 22 yX11_pass : Cond) := rfl
theorem wt204 : wt 204 = (.instanceMethod yX11_pass : Cond) := rfl
theorem wt205 : wt 205 = (.selects RX11 yX11_pass yX11_pass : Cond) := rfl
theorem wt206 : wt 206 = (.code yX11_pass cX11_pass 7 (some .int) : Cond) := rfl
theorem wt207 : wt 207 = (.constantLong RX11 270 (24) : Cond) := rfl
theorem wt208 : wt 208 = (.constantLong RX11 272 (1000) : Cond) := rfl
theorem wt209 : wt 209 = (.methodLink RX11 267 yX11_isNode : Cond) := rfl
theorem wt210 : wt 210 = (.instanceMethod yX11_isNode : Cond) := rfl
theorem wt211 : wt 211 = (.selects RX11 yX11_isNode yX11_isNode : Cond) := rfl
theorem wt212 : wt 212 = (.code yX11_isNode cX11_isNode 2 (some .boolean) : Cond) := rfl
theorem wt213 : wt 213 = (.methodLink RL 23 yX10_jar : Cond) := rfl
theorem wt214 : wt 214 = (.instanceMethod yX10_jar : Cond) := rfl
theorem wt215 : wt 215 = (.selects RX10 yX10_jar yX10_jar : Cond) := rfl
theorem wt216 : wt 216 = (.code yX10_jar cX10_jar 8 (some .int) : Cond) := rfl
theorem wt217 : wt 217 = (.fieldLink RX10 107 "SnowMules$World" "jars" "LSnowMules$Table;" : Cond) := rfl
theorem wt218 : wt 218 = (.methodLink RX10 104 yX10_isCover : Cond) := rfl
theorem wt219 : wt 219 = (.static yX10_isCover : Cond) := rfl
theorem wt220 : wt 220 = (.code yX10_isCover cX10_isCover 2 (some .boolean) : Cond) := rfl
theorem wt221 : wt 221 = (.methodLink RX10 110 yX9_standAt : Cond) := rfl
theorem wt222 : wt 222 = (.instanceMethod yX9_standAt : Cond) := rfl
theorem wt223 : wt 223 = (.selects RX9 yX9_standAt yX9_standAt : Cond) := rfl
theorem wt224 : wt 224 = (.code yX9_standAt cX9_standAt 3 none : Cond) := rfl
theorem wt225 : wt 225 = (.methodLink RX9 66 yX6_put : Cond) := rfl
theorem wt226 : wt 226 = (.methodLink RL 26 yX11_jar : Cond) := rfl
theorem wt227 : wt 227 = (.instanceMethod yX11_jar : Cond) := rfl
theorem wt228 : wt 228 = (.selects RX11 yX11_jar yX11_jar : Cond) := rfl
theorem wt229 : wt 229 = (.code yX11_jar cX11_jar 7 (some .int) : Cond) := rfl
theorem wt230 : wt 230 = (.constantLong RX11 274 (7) : Cond) := rfl
theorem wt231 : wt 231 = (.constantLong RX11 276 (15) : Cond) := rfl
theorem wt232 : wt 232 = (.methodLink RL 27 yX10_month : Cond) := rfl
theorem wt233 : wt 233 = (.instanceMethod yX10_month : Cond) := rfl
theorem wt234 : wt 234 = (.selects RX10 yX10_month yX10_month : Cond) := rfl
theorem wt235 : wt 235 = (.code yX10_month cX10_month 3 (some .int) : Cond) := rfl
theorem wt236 : wt 236 = (.fieldLink RX10 114 "SnowMules$World" "firstMonth" "I" : Cond) := rfl
theorem wt237 : wt 237 = (.methodLink RL 31 yX11_month : Cond) := rfl
theorem wt238 : wt 238 = (.instanceMethod yX11_month : Cond) := rfl
theorem wt239 : wt 239 = (.selects RX11 yX11_month yX11_month : Cond) := rfl
theorem wt240 : wt 240 = (.code yX11_month cX11_month 3 (some .int) : Cond) := rfl
theorem wt241 : wt 241 = (.constantLong RX11 278 (11) : Cond) := rfl
theorem wt242 : wt 242 = (.methodLink RL 32 yX10_seed : Cond) := rfl
theorem wt243 : wt 243 = (.instanceMethod yX10_seed : Cond) := rfl
theorem wt244 : wt 244 = (.selects RX10 yX10_seed yX10_seed : Cond) := rfl
theorem wt245 : wt 245 = (.code yX10_seed cX10_seed 3 (some .int) : Cond) := rfl
theorem wt246 : wt 246 = (.fieldLink RX10 118 "SnowMules$World" "x" "I" : Cond) := rfl
theorem wt247 : wt 247 = (.methodLink RL 35 yX11_seed : Cond) := rfl
theorem wt248 : wt 248 = (.instanceMethod yX11_seed : Cond) := rfl
theorem wt249 : wt 249 = (.selects RX11 yX11_seed yX11_seed : Cond) := rfl
theorem wt250 : wt 250 = (.code yX11_seed cX11_seed 3 (some .int) : Cond) := rfl
theorem wt251 : wt 251 = (.methodLink RL 36 yX10_feed : Cond) := rfl
theorem wt252 : wt 252 = (.instanceMethod yX10_feed : Cond) := rfl
theorem wt253 : wt 253 = (.selects RX10 yX10_feed yX10_feed : Cond) := rfl
theorem wt254 : wt 254 = (.code yX10_feed cX10_feed 6 (some .int) : Cond) := rfl
theorem wt255 : wt 255 = (.fieldLink RX10 121 "SnowMules" "tapeLength" "I" : Cond) := rfl
theorem wt256 : wt 256 = (.methodLink RX10 124 yX10_writeBytes : Cond) := rfl
theorem wt257 : wt 257 = (.instanceMethod yX10_writeBytes : Cond) := rfl
theorem wt258 : wt 258 = (.selects RX10 yX10_writeBytes yX10_writeBytes : Cond) := rfl
theorem wt259 : wt 259 = (.code yX10_writeBytes cX10_writeBytes 3 none : Cond) := rfl
theorem wt260 : wt 260 = (.methodLink RL 39 yX11_feed : Cond) := rfl
theorem wt261 : wt 261 = (.instanceMethod yX11_feed : Cond) := rfl
theorem wt262 : wt 262 = (.selects RX11 yX11_feed yX11_feed : Cond) := rfl
theorem wt263 : wt 263 = (.code yX11_feed cX11_feed 6 (some .int) : Cond) := rfl
theorem wt264 : wt 264 = (.fieldLink RX11 79 "SnowMulesModel" "taped" "I" : Cond) := rfl
theorem wt265 : wt 265 = (.methodLink RX11 83 yX11_four : Cond) := rfl
theorem wt266 : wt 266 = (.instanceMethod yX11_four : Cond) := rfl
theorem wt267 : wt 267 = (.selects RX11 yX11_four yX11_four : Cond) := rfl
theorem wt268 : wt 268 = (.code yX11_four cX11_four 3 none : Cond) := rfl
theorem wt269 : wt 269 = (.methodLink RL 40 yX10_end : Cond) := rfl
theorem wt270 : wt 270 = (.instanceMethod yX10_end : Cond) := rfl
theorem wt271 : wt 271 = (.selects RX10 yX10_end yX10_end : Cond) := rfl
theorem wt272 : wt 272 = (.code yX10_end cX10_end 2 (some .int) : Cond) := rfl
theorem wt273 : wt 273 = (.methodLink RL 43 yX11_end : Cond) := rfl
theorem wt274 : wt 274 = (.instanceMethod yX11_end : Cond) := rfl
theorem wt275 : wt 275 = (.selects RX11 yX11_end yX11_end : Cond) := rfl
theorem wt276 : wt 276 = (.code yX11_end cX11_end 2 (some .int) : Cond) := rfl
theorem wt277 : wt 277 = (.methodLink RL 44 yX10_law : Cond) := rfl
theorem wt278 : wt 278 = (.instanceMethod yX10_law : Cond) := rfl
theorem wt279 : wt 279 = (.selects RX10 yX10_law yX10_law : Cond) := rfl
theorem wt280 : wt 280 = (.code yX10_law cX10_law 2 (some .int) : Cond) := rfl
theorem wt281 : wt 281 = (.fieldLink RX10 128 "SnowMules" "lawCount" "I" : Cond) := rfl
theorem wt282 : wt 282 = (.methodLink RX10 132 yX2_read : Cond) := rfl
theorem wt283 : wt 283 = (.instanceMethod yX2_read : Cond) := rfl
theorem wt284 : wt 284 = (.selects RX2 yX2_read yX2_read : Cond) := rfl
theorem wt285 : wt 285 = (.code yX2_read cX2_read 5 (some .int) : Cond) := rfl
theorem wt286 : wt 286 = (.methodLink RX2 27 Lib.Math.min.name : Cond) := rfl
theorem wt287 : wt 287 = (.static Lib.Math.min.name : Cond) := rfl
theorem wt288 : wt 288 = (.code Lib.Math.min.name Lib.Math.min.code 2 (some .int) : Cond) := rfl
theorem wt289 : wt 289 = (.fieldLink RX2 37 "SnowMules$LawReader" "next" "I" : Cond) := rfl
theorem wt290 : wt 290 = (.fieldLink RX2 41 "SnowMules$LawReader" "fault" "I" : Cond) := rfl
theorem wt291 : wt 291 = (.fieldLink RX2 44 "SnowMules$LawReader" "parts" "I" : Cond) := rfl
theorem wt292 : wt 292 = (.fieldLink RX2 47 "SnowMules$LawReader" "chained" "Z" : Cond) := rfl
theorem wt293 : wt 293 = (.methodLink RX2 33 yX2_cut : Cond) := rfl
theorem wt294 : wt 294 = (.instanceMethod yX2_cut : Cond) := rfl
theorem wt295 : wt 295 = (.selects RX2 yX2_cut yX2_cut : Cond) := rfl
theorem wt296 : wt 296 = (.code yX2_cut cX2_cut 5 none : Cond) := rfl
theorem wt297 : wt 297 = (.fieldLink RX2 65 "SnowMules$LawReader" "tokenCount" "I" : Cond) := rfl
theorem wt298 : wt 298 = (.methodLink RX2 68 yX2_stopOf : Cond) := rfl
theorem wt299 : wt 299 = (.static yX2_stopOf : Cond) := rfl
theorem wt300 : wt 300 = (.code yX2_stopOf cX2_stopOf 5 (some .int) : Cond) := rfl
theorem wt301 : wt 301 = (.methodLink RX2 79 yX2_isLetter : Cond) := rfl
theorem wt302 : wt 302 = (.static yX2_isLetter : Cond) := rfl
theorem wt303 : wt 303 = (.code yX2_isLetter cX2_isLetter 1 (some .boolean) : Cond) := rfl
theorem wt304 : wt 304 = (.methodLink RX2 82 yX2_isDigit : Cond) := rfl
theorem wt305 : wt 305 = (.static yX2_isDigit : Cond) := rfl
theorem wt306 : wt 306 = (.code yX2_isDigit cX2_isDigit 1 (some .boolean) : Cond) := rfl
theorem wt307 : wt 307 = (.methodLink RX2 72 yX2_tokenOf : Cond) := rfl
theorem wt308 : wt 308 = (.static yX2_tokenOf : Cond) := rfl
theorem wt309 : wt 309 = (.code yX2_tokenOf cX2_tokenOf 4 (some .int) : Cond) := rfl
theorem wt310 : wt 310 = (.methodLink RX2 85 yX2_wordToken : Cond) := rfl
theorem wt311 : wt 311 = (.static yX2_wordToken : Cond) := rfl
theorem wt312 : wt 312 = (.code yX2_wordToken cX2_wordToken 8 (some .int) : Cond) := rfl
theorem wt313 : wt 313 = (.methodLink RX2 93 yJ0_length_8abf5 : Cond) := rfl
theorem wt314 : wt 314 = (.instanceMethod yJ0_length_8abf5 : Cond) := rfl
theorem wt315 : wt 315 = (.selects RJ0 yJ0_length_8abf5 yJ0_length_8abf5 : Cond) := rfl
theorem wt316 : wt 316 = (.initialized RJ0 : Cond) := rfl
theorem wt317 : wt 317 = (.code yJ0_length_8abf5 cJ0_length_8abf5 1 (some .int) : Cond) := rfl
theorem wt318 : wt 318 = (.fieldLink RJ0 9 "java/lang/String" "value" "[B" : Cond) := rfl
theorem wt319 : wt 319 = (.methodLink RJ0 335 yJ0_coder_7d493 : Cond) := rfl
theorem wt320 : wt 320 = (.instanceMethod yJ0_coder_7d493 : Cond) := rfl
theorem wt321 : wt 321 = (.selects RJ0 yJ0_coder_7d493 yJ0_coder_7d493 : Cond) := rfl
theorem wt322 : wt 322 = (.code yJ0_coder_7d493 cJ0_coder_7d493 1 (some .byte) : Cond) := rfl
theorem wt323 : wt 323 = (.fieldLink RJ0 38 "java/lang/String" "COMPACT_STRINGS" "Z" : Cond) := rfl
theorem wt324 : wt 324 = (.fieldLink RJ0 15 "java/lang/String" "coder" "B" : Cond) := rfl
theorem wt325 : wt 325 = (.methodLink RX2 98 yJ0_charAt_5068e : Cond) := rfl
theorem wt326 : wt 326 = (.instanceMethod yJ0_charAt_5068e : Cond) := rfl
theorem wt327 : wt 327 = (.selects RJ0 yJ0_charAt_5068e yJ0_charAt_5068e : Cond) := rfl
theorem wt328 : wt 328 = (.code yJ0_charAt_5068e cJ0_charAt_5068e 2 (some .char) : Cond) := rfl
theorem wt329 : wt 329 = (.methodLink RJ0 492 yJ0_isLatin1_aae02 : Cond) := rfl
theorem wt330 : wt 330 = (.instanceMethod yJ0_isLatin1_aae02 : Cond) := rfl
theorem wt331 : wt 331 = (.selects RJ0 yJ0_isLatin1_aae02 yJ0_isLatin1_aae02 : Cond) := rfl
theorem wt332 : wt 332 = (.code yJ0_isLatin1_aae02 cJ0_isLatin1_aae02 1 (some .boolean) : Cond) := rfl
theorem wt333 : wt 333 = (.methodLink RJ0 495 yJ1_charAt_3b067 : Cond) := rfl
theorem wt334 : wt 334 = (.static yJ1_charAt_3b067 : Cond) := rfl
theorem wt335 : wt 335 = (.initialized RJ1 : Cond) := rfl
theorem wt336 : wt 336 = (.code yJ1_charAt_3b067 cJ1_charAt_3b067 2 (some .char) : Cond) := rfl
theorem wt337 : wt 337 = (.methodLink RJ1 9 yJ0_checkIndex_df160 : Cond) := rfl
theorem wt338 : wt 338 = (.static yJ0_checkIndex_df160 : Cond) := rfl
theorem wt339 : wt 339 = (.code yJ0_checkIndex_df160 cJ0_checkIndex_df160 2 none : Cond) := rfl
theorem wt340 : wt 340 = (.fieldLink RJ0 1053 "jdk/internal/util/Preconditions" "SIOOBE_FORMATTER" "Ljava/util/function/BiFunction;" : Cond) := rfl
theorem wt341 : wt 341 = (.methodLink RJ0 1059 yJ3_checkIndex_8e157 : Cond) := rfl
theorem wt342 : wt 342 = (.static yJ3_checkIndex_8e157 : Cond) := rfl
theorem wt343 : wt 343 = (.initialized RJ3 : Cond) := rfl
theorem wt344 : wt 344 = (.code yJ3_checkIndex_8e157 cJ3_checkIndex_8e157 3 (some .int) : Cond) := rfl
theorem wt345 : wt 345 = (.methodLink RJ0 498 yJ2_charAt_3b067 : Cond) := rfl
theorem wt346 : wt 346 = (.static yJ2_charAt_3b067 : Cond) := rfl
theorem wt347 : wt 347 = (.initialized RJ2 : Cond) := rfl
theorem wt348 : wt 348 = (.code yJ2_charAt_3b067 cJ2_charAt_3b067 2 (some .char) : Cond) := rfl
theorem wt349 : wt 349 = (.methodLink RJ2 67 yJ2_checkIndex_2214a : Cond) := rfl
theorem wt350 : wt 350 = (.static yJ2_checkIndex_2214a : Cond) := rfl
theorem wt351 : wt 351 = (.code yJ2_checkIndex_2214a cJ2_checkIndex_2214a 2 none : Cond) := rfl
theorem wt352 : wt 352 = (.methodLink RJ2 48 yJ2_length_9d52b : Cond) := rfl
theorem wt353 : wt 353 = (.static yJ2_length_9d52b : Cond) := rfl
theorem wt354 : wt 354 = (.code yJ2_length_9d52b cJ2_length_9d52b 1 (some .int) : Cond) := rfl
theorem wt355 : wt 355 = (.methodLink RJ2 414 yJ0_checkIndex_df160 : Cond) := rfl
theorem wt356 : wt 356 = (.methodLink RJ2 71 yJ2_getChar_3b067 : Cond) := rfl
theorem wt357 : wt 357 = (.static yJ2_getChar_3b067 : Cond) := rfl
theorem wt358 : wt 358 = (.code yJ2_getChar_3b067 cJ2_getChar_3b067 2 (some .char) : Cond) := rfl
theorem wt359 : wt 359 = (.fieldLink RJ2 44 "java/lang/StringUTF16" "$assertionsDisabled" "Z" : Cond) := rfl
theorem wt360 : wt 360 = (.fieldLink RJ2 59 "java/lang/StringUTF16" "HI_BYTE_SHIFT" "I" : Cond) := rfl
theorem wt361 : wt 361 = (.fieldLink RJ2 63 "java/lang/StringUTF16" "LO_BYTE_SHIFT" "I" : Cond) := rfl
theorem wt362 : wt 362 = (.methodLink RX2 88 yX2_numberToken : Cond) := rfl
theorem wt363 : wt 363 = (.static yX2_numberToken : Cond) := rfl
theorem wt364 : wt 364 = (.code yX2_numberToken cX2_numberToken 5 (some .int) : Cond) := rfl
theorem wt365 : wt 365 = (.methodLink RX2 75 yX2_addToken : Cond) := rfl
theorem wt366 : wt 366 = (.instanceMethod yX2_addToken : Cond) := rfl
theorem wt367 : wt 367 = (.selects RX2 yX2_addToken yX2_addToken : Cond) := rfl
theorem wt368 : wt 368 = (.code yX2_addToken cX2_addToken 3 none : Cond) := rfl
theorem wt369 : wt 369 = (.methodLink RX2 51 yX1_clear : Cond) := rfl
theorem wt370 : wt 370 = (.instanceMethod yX1_clear : Cond) := rfl
theorem wt371 : wt 371 = (.selects RX1 yX1_clear yX1_clear : Cond) := rfl
theorem wt372 : wt 372 = (.code yX1_clear cX1_clear 1 none : Cond) := rfl
theorem wt373 : wt 373 = (.fieldLink RX1 46 "SnowMules$Law" "chain" "I" : Cond) := rfl
theorem wt374 : wt 374 = (.fieldLink RX1 50 "SnowMules$Law" "clauses" "I" : Cond) := rfl
theorem wt375 : wt 375 = (.fieldLink RX1 53 "SnowMules$Law" "values" "I" : Cond) := rfl
theorem wt376 : wt 376 = (.fieldLink RX1 56 "SnowMules$Law" "facts" "I" : Cond) := rfl
theorem wt377 : wt 377 = (.fieldLink RX1 59 "SnowMules$Law" "steps" "I" : Cond) := rfl
theorem wt378 : wt 378 = (.methodLink RX2 54 yX2_readClause : Cond) := rfl
theorem wt379 : wt 379 = (.instanceMethod yX2_readClause : Cond) := rfl
theorem wt380 : wt 380 = (.selects RX2 yX2_readClause yX2_readClause : Cond) := rfl
theorem wt381 : wt 381 = (.code yX2_readClause cX2_readClause 3 (some .boolean) : Cond) := rfl
theorem wt382 : wt 382 = (.methodLink RX2 58 yX2_token : Cond) := rfl
theorem wt383 : wt 383 = (.instanceMethod yX2_token : Cond) := rfl
theorem wt384 : wt 384 = (.selects RX2 yX2_token yX2_token : Cond) := rfl
theorem wt385 : wt 385 = (.code yX2_token cX2_token 1 (some .int) : Cond) := rfl
theorem wt386 : wt 386 = (.methodLink RX2 102 yX2_refuse : Cond) := rfl
theorem wt387 : wt 387 = (.instanceMethod yX2_refuse : Cond) := rfl
theorem wt388 : wt 388 = (.selects RX2 yX2_refuse yX2_refuse : Cond) := rfl
theorem wt389 : wt 389 = (.code yX2_refuse cX2_refuse 3 (some .boolean) : Cond) := rfl
theorem wt390 : wt 390 = (.methodLink RX2 105 yX2_readChain : Cond) := rfl
theorem wt391 : wt 391 = (.instanceMethod yX2_readChain : Cond) := rfl
theorem wt392 : wt 392 = (.selects RX2 yX2_readChain yX2_readChain : Cond) := rfl
theorem wt393 : wt 393 = (.code yX2_readChain cX2_readChain 2 (some .boolean) : Cond) := rfl
theorem wt394 : wt 394 = (.fieldLink RX2 125 "SnowMules$Law" "chain" "I" : Cond) := rfl
theorem wt395 : wt 395 = (.methodLink RX2 109 yX1_beginClause : Cond) := rfl
theorem wt396 : wt 396 = (.instanceMethod yX1_beginClause : Cond) := rfl
theorem wt397 : wt 397 = (.selects RX1 yX1_beginClause yX1_beginClause : Cond) := rfl
theorem wt398 : wt 398 = (.code yX1_beginClause cX1_beginClause 2 none : Cond) := rfl
theorem wt399 : wt 399 = (.methodLink RX2 113 yX2_readSum : Cond) := rfl
