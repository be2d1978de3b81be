def wsX9_drawn_r3 : List Cond := [Cond.instanceMethod yX9_leastSound, Cond.selects RX9 yX9_leastSound yX9_leastSound, Cond.code yX9_leastSound cX9_leastSound 7 (some .int)]
def wsX9_drawn : List Cond := .code yX9_drawn cX9_drawn 9 (some .int) :: ((wsX9_drawn_r1 ++ (wsX9_drawn_r2 ++ wsX9_drawn_r3)) ++ wsX90)
def wsX9_image : List Cond := .code yX9_image cX9_image 1 (some .int) :: ([.fieldLink RX9 22 "SoundLawsModel" "kinds" "[I", .fieldLink RX9 70 "SoundLawsModel" "keptKinds" "[I", .fieldLink RX9 25 "SoundLawsModel" "longs" "[I", .fieldLink RX9 73 "SoundLawsModel" "keptLongs" "[I", .fieldLink RX9 28 "SoundLawsModel" "words" "[I", .fieldLink RX9 76 "SoundLawsModel" "keptWords" "[I", .fieldLink RX9 67 "SoundLawsModel" "sights" "[I", .fieldLink RX9 79 "SoundLawsModel" "keptSights" "[I", .fieldLink RX9 147 "SoundLawsModel" "sets" "I", .fieldLink RX9 299 "SoundLawsModel" "keptMany" "I", .fieldLink RX9 150 "SoundLawsModel" "tongues" "I", .fieldLink RX9 302 "SoundLawsModel" "keptTongues" "I", .fieldLink RX9 157 "SoundLawsModel" "seenMany" "I", .fieldLink RX9 305 "SoundLawsModel" "keptSeen" "I", .fieldLink RX9 160 "SoundLawsModel" "setsRead" "I", .fieldLink RX9 82 "SoundLawsModel" "keptSets" "I", .methodLink RX9 292 yX9_lacks, .instanceMethod yX9_lacks, .selects RX9 yX9_lacks yX9_lacks, .initialized RX9, .code yX9_lacks cX9_lacks 1 (some .boolean), .methodLink RX9 295 yX9_copyRow, .static yX9_copyRow, .code yX9_copyRow cX9_copyRow 3 none] ++ wsX90)
def wsX9_restore : List Cond := .code yX9_restore cX9_restore 1 (some .int) :: ([.fieldLink RX9 82 "SoundLawsModel" "keptSets" "I", .fieldLink RX9 160 "SoundLawsModel" "setsRead" "I", .fieldLink RX9 70 "SoundLawsModel" "keptKinds" "[I", .fieldLink RX9 22 "SoundLawsModel" "kinds" "[I", .fieldLink RX9 73 "SoundLawsModel" "keptLongs" "[I", .fieldLink RX9 25 "SoundLawsModel" "longs" "[I", .fieldLink RX9 76 "SoundLawsModel" "keptWords" "[I", .fieldLink RX9 28 "SoundLawsModel" "words" "[I", .fieldLink RX9 79 "SoundLawsModel" "keptSights" "[I", .fieldLink RX9 67 "SoundLawsModel" "sights" "[I", .fieldLink RX9 299 "SoundLawsModel" "keptMany" "I", .fieldLink RX9 147 "SoundLawsModel" "sets" "I", .fieldLink RX9 302 "SoundLawsModel" "keptTongues" "I", .fieldLink RX9 150 "SoundLawsModel" "tongues" "I", .fieldLink RX9 305 "SoundLawsModel" "keptSeen" "I", .fieldLink RX9 157 "SoundLawsModel" "seenMany" "I", .fieldLink RX9 153 "SoundLawsModel" "old" "Z", .methodLink RX9 295 yX9_copyRow, .static yX9_copyRow, .initialized RX9, .code yX9_copyRow cX9_copyRow 3 none] ++ wsX90)
def wsX9_sumLaws : List Cond := .code yX9_sumLaws cX9_sumLaws 4 (some .int) :: ([.fieldLink RX9 150 "SoundLawsModel" "tongues" "I", .fieldLink RX9 46 "SoundLawsModel" "laws" "[I", .fieldLink RX9 52 "SoundLawsModel" "exceptions" "[I"] ++ wsX90)
def wsX9_borrowedAll_r1 : List Cond := [Cond.fieldLink RX9 147 "SoundLawsModel" "sets" "I", Cond.methodLink RX9 247 yX9_borrowed, Cond.instanceMethod yX9_borrowed, Cond.selects RX9 yX9_borrowed yX9_borrowed, Cond.initialized RX9, Cond.code yX9_borrowed cX9_borrowed 4 (some .int), Cond.fieldLink RX9 150 "SoundLawsModel" "tongues" "I", Cond.methodLink RX9 237 yX9_isBorrowed, Cond.instanceMethod yX9_isBorrowed, Cond.selects RX9 yX9_isBorrowed yX9_isBorrowed, Cond.code yX9_isBorrowed cX9_isBorrowed 4 (some .boolean), Cond.fieldLink RX9 25 "SoundLawsModel" "longs" "[I", Cond.methodLink RX9 230 yX9_strangeOf, Cond.instanceMethod yX9_strangeOf, Cond.selects RX9 yX9_strangeOf yX9_strangeOf, Cond.code yX9_strangeOf cX9_strangeOf 6 (some .int), Cond.fieldLink RX9 28 "SoundLawsModel" "words" "[I", Cond.methodLink RX9 196 yX9_isRebuilt, Cond.instanceMethod yX9_isRebuilt, Cond.selects RX9 yX9_isRebuilt yX9_isRebuilt, Cond.code yX9_isRebuilt cX9_isRebuilt 2 (some .boolean), Cond.fieldLink RX9 22 "SoundLawsModel" "kinds" "[I", Cond.methodLink RX9 226 yX9_lawAt, Cond.instanceMethod yX9_lawAt]
def wsX9_borrowedAll_r2 : List Cond := [Cond.selects RX9 yX9_lawAt yX9_lawAt, Cond.code yX9_lawAt cX9_lawAt 4 (some .int), Cond.fieldLink RX9 46 "SoundLawsModel" "laws" "[I", Cond.methodLink RX9 205 yX9_oldSound, Cond.instanceMethod yX9_oldSound, Cond.selects RX9 yX9_oldSound yX9_oldSound, Cond.code yX9_oldSound cX9_oldSound 3 (some .int), Cond.fieldLink RX9 40 "SoundLawsModel" "rebuilt" "[I", Cond.methodLink RX9 177 yX9_nodesBy, Cond.instanceMethod yX9_nodesBy, Cond.selects RX9 yX9_nodesBy yX9_nodesBy, Cond.code yX9_nodesBy cX9_nodesBy 2 (some .int), Cond.methodLink RX9 274 yX9_ones, Cond.static yX9_ones, Cond.code yX9_ones cX9_ones 3 (some .int)]
def wsX9_borrowedAll : List Cond := .code yX9_borrowedAll cX9_borrowedAll 3 (some .int) :: ((wsX9_borrowedAll_r1 ++ wsX9_borrowedAll_r2) ++ wsX90)
def wsX9_countSets_r1 : List Cond := [Cond.fieldLink RX9 150 "SoundLawsModel" "tongues" "I", Cond.methodLink RX9 292 yX9_lacks, Cond.instanceMethod yX9_lacks, Cond.selects RX9 yX9_lacks yX9_lacks, Cond.initialized RX9, Cond.code yX9_lacks cX9_lacks 1 (some .boolean), Cond.fieldLink RX9 147 "SoundLawsModel" "sets" "I", Cond.methodLink RX9 223 yX9_freshen, Cond.instanceMethod yX9_freshen, Cond.selects RX9 yX9_freshen yX9_freshen, Cond.code yX9_freshen cX9_freshen 2 none, Cond.fieldLink RX9 153 "SoundLawsModel" "old" "Z", Cond.methodLink RX9 212 yX9_laySets, Cond.instanceMethod yX9_laySets, Cond.selects RX9 yX9_laySets yX9_laySets, Cond.code yX9_laySets cX9_laySets 4 none, Cond.fieldLink RX9 43 "SoundLawsModel" "changes" "[I", Cond.fieldLink RX9 25 "SoundLawsModel" "longs" "[I", Cond.fieldLink RX9 37 "SoundLawsModel" "said" "[I", Cond.fieldLink RX9 28 "SoundLawsModel" "words" "[I", Cond.fieldLink RX9 40 "SoundLawsModel" "rebuilt" "[I", Cond.fieldLink RX9 34 "SoundLawsModel" "had" "[I", Cond.methodLink RX9 196 yX9_isRebuilt, Cond.instanceMethod yX9_isRebuilt]
def wsX9_countSets_r2 : List Cond := [Cond.selects RX9 yX9_isRebuilt yX9_isRebuilt, Cond.code yX9_isRebuilt cX9_isRebuilt 2 (some .boolean), Cond.fieldLink RX9 22 "SoundLawsModel" "kinds" "[I", Cond.methodLink RX9 199 yX9_rebuild, Cond.instanceMethod yX9_rebuild, Cond.selects RX9 yX9_rebuild yX9_rebuild, Cond.code yX9_rebuild cX9_rebuild 4 (some .int), Cond.fieldLink RX9 31 "SoundLawsModel" "costs" "[I", Cond.methodLink RX9 189 yX9_layCosts, Cond.instanceMethod yX9_layCosts, Cond.selects RX9 yX9_layCosts yX9_layCosts, Cond.code yX9_layCosts cX9_layCosts 4 none, Cond.methodLink RX9 177 yX9_nodesBy, Cond.instanceMethod yX9_nodesBy, Cond.selects RX9 yX9_nodesBy yX9_nodesBy, Cond.code yX9_nodesBy cX9_nodesBy 2 (some .int), Cond.methodLink RX9 180 yX9_belowFirst, Cond.static yX9_belowFirst, Cond.code yX9_belowFirst cX9_belowFirst 2 (some .int), Cond.methodLink RX9 183 yX9_least, Cond.instanceMethod yX9_least, Cond.selects RX9 yX9_least yX9_least, Cond.code yX9_least cX9_least 6 (some .int), Cond.methodLink RX9 173 yX9_costOf]
def wsX9_countSets_r3 : List Cond := [Cond.static yX9_costOf, Cond.code yX9_costOf cX9_costOf 2 (some .int), Cond.methodLink RX9 168 yX9_isVowel, Cond.static yX9_isVowel, Cond.code yX9_isVowel cX9_isVowel 1 (some .boolean), Cond.constantLong RX9 166 (3), Cond.methodLink RX9 88 yX9_in, Cond.static yX9_in, Cond.code yX9_in cX9_in 6 (some .boolean), Cond.methodLink RX9 186 yX9_belowSecond, Cond.static yX9_belowSecond, Cond.code yX9_belowSecond cX9_belowSecond 2 (some .int), Cond.methodLink RX9 193 yX9_leastSound, Cond.instanceMethod yX9_leastSound, Cond.selects RX9 yX9_leastSound yX9_leastSound, Cond.code yX9_leastSound cX9_leastSound 7 (some .int), Cond.methodLink RX9 215 yX9_layLaw, Cond.instanceMethod yX9_layLaw, Cond.selects RX9 yX9_layLaw yX9_layLaw, Cond.code yX9_layLaw cX9_layLaw 8 none, Cond.fieldLink RX9 55 "SoundLawsModel" "tally" "[I", Cond.fieldLink RX9 46 "SoundLawsModel" "laws" "[I", Cond.fieldLink RX9 49 "SoundLawsModel" "follows" "[I", Cond.fieldLink RX9 52 "SoundLawsModel" "exceptions" "[I"]
def wsX9_countSets_r4 : List Cond := [Cond.methodLink RX9 208 yX9_layTally, Cond.instanceMethod yX9_layTally, Cond.selects RX9 yX9_layTally yX9_layTally, Cond.code yX9_layTally cX9_layTally 7 none, Cond.methodLink RX9 202 yX9_weightBy, Cond.static yX9_weightBy, Cond.code yX9_weightBy cX9_weightBy 1 (some .int), Cond.methodLink RX9 205 yX9_oldSound, Cond.instanceMethod yX9_oldSound, Cond.selects RX9 yX9_oldSound yX9_oldSound, Cond.code yX9_oldSound cX9_oldSound 3 (some .int), Cond.methodLink RX9 268 yX9_changesAll, Cond.instanceMethod yX9_changesAll, Cond.selects RX9 yX9_changesAll yX9_changesAll, Cond.code yX9_changesAll cX9_changesAll 3 (some .int), Cond.methodLink RX9 308 yX9_sumLaws, Cond.instanceMethod yX9_sumLaws, Cond.selects RX9 yX9_sumLaws yX9_sumLaws, Cond.code yX9_sumLaws cX9_sumLaws 4 (some .int), Cond.methodLink RX9 312 yX9_borrowedAll, Cond.instanceMethod yX9_borrowedAll, Cond.selects RX9 yX9_borrowedAll yX9_borrowedAll, Cond.code yX9_borrowedAll cX9_borrowedAll 3 (some .int), Cond.methodLink RX9 247 yX9_borrowed]
def wsX9_countSets_r5 : List Cond := [Cond.instanceMethod yX9_borrowed, Cond.selects RX9 yX9_borrowed yX9_borrowed, Cond.code yX9_borrowed cX9_borrowed 4 (some .int), Cond.methodLink RX9 237 yX9_isBorrowed, Cond.instanceMethod yX9_isBorrowed, Cond.selects RX9 yX9_isBorrowed yX9_isBorrowed, Cond.code yX9_isBorrowed cX9_isBorrowed 4 (some .boolean), Cond.methodLink RX9 230 yX9_strangeOf, Cond.instanceMethod yX9_strangeOf, Cond.selects RX9 yX9_strangeOf yX9_strangeOf, Cond.code yX9_strangeOf cX9_strangeOf 6 (some .int), Cond.methodLink RX9 226 yX9_lawAt, Cond.instanceMethod yX9_lawAt, Cond.selects RX9 yX9_lawAt yX9_lawAt, Cond.code yX9_lawAt cX9_lawAt 4 (some .int), Cond.methodLink RX9 274 yX9_ones, Cond.static yX9_ones, Cond.code yX9_ones cX9_ones 3 (some .int)]
def wsX9_countSets : List Cond := .code yX9_countSets cX9_countSets 2 (some .int) :: ((wsX9_countSets_r1 ++ (wsX9_countSets_r2 ++ (wsX9_countSets_r3 ++ (wsX9_countSets_r4 ++ wsX9_countSets_r5)))) ++ wsX90)
def wsX9_countOf_r1 : List Cond := [Cond.fieldLink RX9 147 "SoundLawsModel" "sets" "I", Cond.fieldLink RX9 157 "SoundLawsModel" "seenMany" "I", Cond.fieldLink RX9 92 "SoundLawsModel" "pageMany" "I", Cond.fieldLink RX9 160 "SoundLawsModel" "setsRead" "I", Cond.methodLink RX9 315 yX9_countSets, Cond.instanceMethod yX9_countSets, Cond.selects RX9 yX9_countSets yX9_countSets, Cond.initialized RX9, Cond.code yX9_countSets cX9_countSets 2 (some .int), Cond.fieldLink RX9 150 "SoundLawsModel" "tongues" "I", Cond.methodLink RX9 292 yX9_lacks, Cond.instanceMethod yX9_lacks, Cond.selects RX9 yX9_lacks yX9_lacks, Cond.code yX9_lacks cX9_lacks 1 (some .boolean), Cond.methodLink RX9 223 yX9_freshen, Cond.instanceMethod yX9_freshen, Cond.selects RX9 yX9_freshen yX9_freshen, Cond.code yX9_freshen cX9_freshen 2 none, Cond.fieldLink RX9 153 "SoundLawsModel" "old" "Z", Cond.methodLink RX9 212 yX9_laySets, Cond.instanceMethod yX9_laySets, Cond.selects RX9 yX9_laySets yX9_laySets, Cond.code yX9_laySets cX9_laySets 4 none, Cond.fieldLink RX9 43 "SoundLawsModel" "changes" "[I"]
def wsX9_countOf_r2 : List Cond := [Cond.fieldLink RX9 25 "SoundLawsModel" "longs" "[I", Cond.fieldLink RX9 37 "SoundLawsModel" "said" "[I", Cond.fieldLink RX9 28 "SoundLawsModel" "words" "[I", Cond.fieldLink RX9 40 "SoundLawsModel" "rebuilt" "[I", Cond.fieldLink RX9 34 "SoundLawsModel" "had" "[I", Cond.methodLink RX9 196 yX9_isRebuilt, Cond.instanceMethod yX9_isRebuilt, Cond.selects RX9 yX9_isRebuilt yX9_isRebuilt, Cond.code yX9_isRebuilt cX9_isRebuilt 2 (some .boolean), Cond.fieldLink RX9 22 "SoundLawsModel" "kinds" "[I", Cond.methodLink RX9 199 yX9_rebuild, Cond.instanceMethod yX9_rebuild, Cond.selects RX9 yX9_rebuild yX9_rebuild, Cond.code yX9_rebuild cX9_rebuild 4 (some .int), Cond.fieldLink RX9 31 "SoundLawsModel" "costs" "[I", Cond.methodLink RX9 189 yX9_layCosts, Cond.instanceMethod yX9_layCosts, Cond.selects RX9 yX9_layCosts yX9_layCosts, Cond.code yX9_layCosts cX9_layCosts 4 none, Cond.methodLink RX9 177 yX9_nodesBy, Cond.instanceMethod yX9_nodesBy, Cond.selects RX9 yX9_nodesBy yX9_nodesBy, Cond.code yX9_nodesBy cX9_nodesBy 2 (some .int), Cond.methodLink RX9 180 yX9_belowFirst]
def wsX9_countOf_r3 : List Cond := [Cond.static yX9_belowFirst, Cond.code yX9_belowFirst cX9_belowFirst 2 (some .int), Cond.methodLink RX9 183 yX9_least, Cond.instanceMethod yX9_least, Cond.selects RX9 yX9_least yX9_least, Cond.code yX9_least cX9_least 6 (some .int), Cond.methodLink RX9 173 yX9_costOf, Cond.static yX9_costOf, Cond.code yX9_costOf cX9_costOf 2 (some .int), Cond.methodLink RX9 168 yX9_isVowel, Cond.static yX9_isVowel, Cond.code yX9_isVowel cX9_isVowel 1 (some .boolean), Cond.constantLong RX9 166 (3), Cond.methodLink RX9 88 yX9_in, Cond.static yX9_in, Cond.code yX9_in cX9_in 6 (some .boolean), Cond.methodLink RX9 186 yX9_belowSecond, Cond.static yX9_belowSecond, Cond.code yX9_belowSecond cX9_belowSecond 2 (some .int), Cond.methodLink RX9 193 yX9_leastSound, Cond.instanceMethod yX9_leastSound, Cond.selects RX9 yX9_leastSound yX9_leastSound, Cond.code yX9_leastSound cX9_leastSound 7 (some .int), Cond.methodLink RX9 215 yX9_layLaw]
def wsX9_countOf_r4 : List Cond := [Cond.instanceMethod yX9_layLaw, Cond.selects RX9 yX9_layLaw yX9_layLaw, Cond.code yX9_layLaw cX9_layLaw 8 none, Cond.fieldLink RX9 55 "SoundLawsModel" "tally" "[I", Cond.fieldLink RX9 46 "SoundLawsModel" "laws" "[I", Cond.fieldLink RX9 49 "SoundLawsModel" "follows" "[I", Cond.fieldLink RX9 52 "SoundLawsModel" "exceptions" "[I", Cond.methodLink RX9 208 yX9_layTally, Cond.instanceMethod yX9_layTally, Cond.selects RX9 yX9_layTally yX9_layTally, Cond.code yX9_layTally cX9_layTally 7 none, Cond.methodLink RX9 202 yX9_weightBy, Cond.static yX9_weightBy, Cond.code yX9_weightBy cX9_weightBy 1 (some .int), Cond.methodLink RX9 205 yX9_oldSound, Cond.instanceMethod yX9_oldSound, Cond.selects RX9 yX9_oldSound yX9_oldSound, Cond.code yX9_oldSound cX9_oldSound 3 (some .int), Cond.methodLink RX9 268 yX9_changesAll, Cond.instanceMethod yX9_changesAll, Cond.selects RX9 yX9_changesAll yX9_changesAll, Cond.code yX9_changesAll cX9_changesAll 3 (some .int), Cond.methodLink RX9 308 yX9_sumLaws, Cond.instanceMethod yX9_sumLaws]
def wsX9_countOf_r5 : List Cond := [Cond.selects RX9 yX9_sumLaws yX9_sumLaws, Cond.code yX9_sumLaws cX9_sumLaws 4 (some .int), Cond.methodLink RX9 312 yX9_borrowedAll, Cond.instanceMethod yX9_borrowedAll, Cond.selects RX9 yX9_borrowedAll yX9_borrowedAll, Cond.code yX9_borrowedAll cX9_borrowedAll 3 (some .int), Cond.methodLink RX9 247 yX9_borrowed, Cond.instanceMethod yX9_borrowed, Cond.selects RX9 yX9_borrowed yX9_borrowed, Cond.code yX9_borrowed cX9_borrowed 4 (some .int), Cond.methodLink RX9 237 yX9_isBorrowed, Cond.instanceMethod yX9_isBorrowed, Cond.selects RX9 yX9_isBorrowed yX9_isBorrowed, Cond.code yX9_isBorrowed cX9_isBorrowed 4 (some .boolean), Cond.methodLink RX9 230 yX9_strangeOf, Cond.instanceMethod yX9_strangeOf, Cond.selects RX9 yX9_strangeOf yX9_strangeOf, Cond.code yX9_strangeOf cX9_strangeOf 6 (some .int), Cond.methodLink RX9 226 yX9_lawAt, Cond.instanceMethod yX9_lawAt, Cond.selects RX9 yX9_lawAt yX9_lawAt, Cond.code yX9_lawAt cX9_lawAt 4 (some .int), Cond.methodLink RX9 274 yX9_ones, Cond.static yX9_ones]
def wsX9_countOf_r6 : List Cond := [Cond.code yX9_ones cX9_ones 3 (some .int)]
def wsX9_countOf : List Cond := .code yX9_countOf cX9_countOf 2 (some .int) :: ((wsX9_countOf_r1 ++ (wsX9_countOf_r2 ++ (wsX9_countOf_r3 ++ (wsX9_countOf_r4 ++ (wsX9_countOf_r5 ++ wsX9_countOf_r6))))) ++ wsX90)
def wsX9_count_r1 : List Cond := [Cond.methodLink RX9 318 yX9_countOf, Cond.instanceMethod yX9_countOf, Cond.selects RX9 yX9_countOf yX9_countOf, Cond.initialized RX9, Cond.code yX9_countOf cX9_countOf 2 (some .int), Cond.fieldLink RX9 147 "SoundLawsModel" "sets" "I", Cond.fieldLink RX9 157 "SoundLawsModel" "seenMany" "I", Cond.fieldLink RX9 92 "SoundLawsModel" "pageMany" "I", Cond.fieldLink RX9 160 "SoundLawsModel" "setsRead" "I", Cond.methodLink RX9 315 yX9_countSets, Cond.instanceMethod yX9_countSets, Cond.selects RX9 yX9_countSets yX9_countSets, Cond.code yX9_countSets cX9_countSets 2 (some .int), Cond.fieldLink RX9 150 "SoundLawsModel" "tongues" "I", Cond.methodLink RX9 292 yX9_lacks, Cond.instanceMethod yX9_lacks, Cond.selects RX9 yX9_lacks yX9_lacks, Cond.code yX9_lacks cX9_lacks 1 (some .boolean), Cond.methodLink RX9 223 yX9_freshen, Cond.instanceMethod yX9_freshen, Cond.selects RX9 yX9_freshen yX9_freshen, Cond.code yX9_freshen cX9_freshen 2 none, Cond.fieldLink RX9 153 "SoundLawsModel" "old" "Z", Cond.methodLink RX9 212 yX9_laySets]
def wsX9_count_r2 : List Cond := [Cond.instanceMethod yX9_laySets, Cond.selects RX9 yX9_laySets yX9_laySets, Cond.code yX9_laySets cX9_laySets 4 none, Cond.fieldLink RX9 43 "SoundLawsModel" "changes" "[I", Cond.fieldLink RX9 25 "SoundLawsModel" "longs" "[I", Cond.fieldLink RX9 37 "SoundLawsModel" "said" "[I", Cond.fieldLink RX9 28 "SoundLawsModel" "words" "[I", Cond.fieldLink RX9 40 "SoundLawsModel" "rebuilt" "[I", Cond.fieldLink RX9 34 "SoundLawsModel" "had" "[I", Cond.methodLink RX9 196 yX9_isRebuilt, Cond.instanceMethod yX9_isRebuilt, Cond.selects RX9 yX9_isRebuilt yX9_isRebuilt, Cond.code yX9_isRebuilt cX9_isRebuilt 2 (some .boolean), Cond.fieldLink RX9 22 "SoundLawsModel" "kinds" "[I", Cond.methodLink RX9 199 yX9_rebuild, Cond.instanceMethod yX9_rebuild, Cond.selects RX9 yX9_rebuild yX9_rebuild, Cond.code yX9_rebuild cX9_rebuild 4 (some .int), Cond.fieldLink RX9 31 "SoundLawsModel" "costs" "[I", Cond.methodLink RX9 189 yX9_layCosts, Cond.instanceMethod yX9_layCosts, Cond.selects RX9 yX9_layCosts yX9_layCosts, Cond.code yX9_layCosts cX9_layCosts 4 none, Cond.methodLink RX9 177 yX9_nodesBy]
def wsX9_count_r3 : List Cond := [Cond.instanceMethod yX9_nodesBy, Cond.selects RX9 yX9_nodesBy yX9_nodesBy, Cond.code yX9_nodesBy cX9_nodesBy 2 (some .int), Cond.methodLink RX9 180 yX9_belowFirst, Cond.static yX9_belowFirst, Cond.code yX9_belowFirst cX9_belowFirst 2 (some .int), Cond.methodLink RX9 183 yX9_least, Cond.instanceMethod yX9_least, Cond.selects RX9 yX9_least yX9_least, Cond.code yX9_least cX9_least 6 (some .int), Cond.methodLink RX9 173 yX9_costOf, Cond.static yX9_costOf, Cond.code yX9_costOf cX9_costOf 2 (some .int), Cond.methodLink RX9 168 yX9_isVowel, Cond.static yX9_isVowel, Cond.code yX9_isVowel cX9_isVowel 1 (some .boolean), Cond.constantLong RX9 166 (3), Cond.methodLink RX9 88 yX9_in, Cond.static yX9_in, Cond.code yX9_in cX9_in 6 (some .boolean), Cond.methodLink RX9 186 yX9_belowSecond, Cond.static yX9_belowSecond, Cond.code yX9_belowSecond cX9_belowSecond 2 (some .int), Cond.methodLink RX9 193 yX9_leastSound]
def wsX9_count_r4 : List Cond := [Cond.instanceMethod yX9_leastSound, Cond.selects RX9 yX9_leastSound yX9_leastSound, Cond.code yX9_leastSound cX9_leastSound 7 (some .int), Cond.methodLink RX9 215 yX9_layLaw, Cond.instanceMethod yX9_layLaw, Cond.selects RX9 yX9_layLaw yX9_layLaw, Cond.code yX9_layLaw cX9_layLaw 8 none, Cond.fieldLink RX9 55 "SoundLawsModel" "tally" "[I", Cond.fieldLink RX9 46 "SoundLawsModel" "laws" "[I", Cond.fieldLink RX9 49 "SoundLawsModel" "follows" "[I", Cond.fieldLink RX9 52 "SoundLawsModel" "exceptions" "[I", Cond.methodLink RX9 208 yX9_layTally, Cond.instanceMethod yX9_layTally, Cond.selects RX9 yX9_layTally yX9_layTally, Cond.code yX9_layTally cX9_layTally 7 none, Cond.methodLink RX9 202 yX9_weightBy, Cond.static yX9_weightBy, Cond.code yX9_weightBy cX9_weightBy 1 (some .int), Cond.methodLink RX9 205 yX9_oldSound, Cond.instanceMethod yX9_oldSound, Cond.selects RX9 yX9_oldSound yX9_oldSound, Cond.code yX9_oldSound cX9_oldSound 3 (some .int), Cond.methodLink RX9 268 yX9_changesAll, Cond.instanceMethod yX9_changesAll]
def wsX9_count_r5 : List Cond := [Cond.selects RX9 yX9_changesAll yX9_changesAll, Cond.code yX9_changesAll cX9_changesAll 3 (some .int), Cond.methodLink RX9 308 yX9_sumLaws, Cond.instanceMethod yX9_sumLaws, Cond.selects RX9 yX9_sumLaws yX9_sumLaws, Cond.code yX9_sumLaws cX9_sumLaws 4 (some .int), Cond.methodLink RX9 312 yX9_borrowedAll, Cond.instanceMethod yX9_borrowedAll, Cond.selects RX9 yX9_borrowedAll yX9_borrowedAll, Cond.code yX9_borrowedAll cX9_borrowedAll 3 (some .int), Cond.methodLink RX9 247 yX9_borrowed, Cond.instanceMethod yX9_borrowed, Cond.selects RX9 yX9_borrowed yX9_borrowed, Cond.code yX9_borrowed cX9_borrowed 4 (some .int), Cond.methodLink RX9 237 yX9_isBorrowed, Cond.instanceMethod yX9_isBorrowed, Cond.selects RX9 yX9_isBorrowed yX9_isBorrowed, Cond.code yX9_isBorrowed cX9_isBorrowed 4 (some .boolean), Cond.methodLink RX9 230 yX9_strangeOf, Cond.instanceMethod yX9_strangeOf, Cond.selects RX9 yX9_strangeOf yX9_strangeOf, Cond.code yX9_strangeOf cX9_strangeOf 6 (some .int), Cond.methodLink RX9 226 yX9_lawAt, Cond.instanceMethod yX9_lawAt]
def wsX9_count_r6 : List Cond := [Cond.selects RX9 yX9_lawAt yX9_lawAt, Cond.code yX9_lawAt cX9_lawAt 4 (some .int), Cond.methodLink RX9 274 yX9_ones, Cond.static yX9_ones, Cond.code yX9_ones cX9_ones 3 (some .int)]
def wsX9_count : List Cond := .code yX9_count cX9_count 2 (some .int) :: ((wsX9_count_r1 ++ (wsX9_count_r2 ++ (wsX9_count_r3 ++ (wsX9_count_r4 ++ (wsX9_count_r5 ++ wsX9_count_r6))))) ++ wsX90)
def wsX9_note : List Cond := .code yX9_note cX9_note 3 none :: ([.constantLong RX9 321 (31), .fieldLink RX9 323 "SoundLawsModel" "hash" "J"] ++ wsX90)
def wsX9_saySet_r1 : List Cond := [Cond.fieldLink RX9 25 "SoundLawsModel" "longs" "[I", Cond.fieldLink RX9 150 "SoundLawsModel" "tongues" "I", Cond.fieldLink RX9 40 "SoundLawsModel" "rebuilt" "[I", Cond.methodLink RX9 256 yX9_tellSet, Cond.instanceMethod yX9_tellSet, Cond.selects RX9 yX9_tellSet yX9_tellSet, Cond.initialized RX9, Cond.code yX9_tellSet cX9_tellSet 3 (some .int), Cond.fieldLink RX9 22 "SoundLawsModel" "kinds" "[I", Cond.fieldLink RX9 43 "SoundLawsModel" "changes" "[I", Cond.methodLink RX9 223 yX9_freshen, Cond.instanceMethod yX9_freshen, Cond.selects RX9 yX9_freshen yX9_freshen, Cond.code yX9_freshen cX9_freshen 2 none, Cond.fieldLink RX9 153 "SoundLawsModel" "old" "Z", Cond.methodLink RX9 212 yX9_laySets, Cond.instanceMethod yX9_laySets, Cond.selects RX9 yX9_laySets yX9_laySets, Cond.code yX9_laySets cX9_laySets 4 none, Cond.fieldLink RX9 147 "SoundLawsModel" "sets" "I", Cond.fieldLink RX9 37 "SoundLawsModel" "said" "[I", Cond.fieldLink RX9 28 "SoundLawsModel" "words" "[I", Cond.fieldLink RX9 34 "SoundLawsModel" "had" "[I", Cond.methodLink RX9 196 yX9_isRebuilt]
def wsX9_saySet_r2 : List Cond := [Cond.instanceMethod yX9_isRebuilt, Cond.selects RX9 yX9_isRebuilt yX9_isRebuilt, Cond.code yX9_isRebuilt cX9_isRebuilt 2 (some .boolean), Cond.methodLink RX9 199 yX9_rebuild, Cond.instanceMethod yX9_rebuild, Cond.selects RX9 yX9_rebuild yX9_rebuild, Cond.code yX9_rebuild cX9_rebuild 4 (some .int), Cond.fieldLink RX9 31 "SoundLawsModel" "costs" "[I", Cond.methodLink RX9 189 yX9_layCosts, Cond.instanceMethod yX9_layCosts, Cond.selects RX9 yX9_layCosts yX9_layCosts, Cond.code yX9_layCosts cX9_layCosts 4 none, Cond.methodLink RX9 177 yX9_nodesBy, Cond.instanceMethod yX9_nodesBy, Cond.selects RX9 yX9_nodesBy yX9_nodesBy, Cond.code yX9_nodesBy cX9_nodesBy 2 (some .int), Cond.methodLink RX9 180 yX9_belowFirst, Cond.static yX9_belowFirst, Cond.code yX9_belowFirst cX9_belowFirst 2 (some .int), Cond.methodLink RX9 183 yX9_least, Cond.instanceMethod yX9_least, Cond.selects RX9 yX9_least yX9_least, Cond.code yX9_least cX9_least 6 (some .int), Cond.methodLink RX9 173 yX9_costOf]
def wsX9_saySet_r3 : List Cond := [Cond.static yX9_costOf, Cond.code yX9_costOf cX9_costOf 2 (some .int), Cond.methodLink RX9 168 yX9_isVowel, Cond.static yX9_isVowel, Cond.code yX9_isVowel cX9_isVowel 1 (some .boolean), Cond.constantLong RX9 166 (3), Cond.methodLink RX9 88 yX9_in, Cond.static yX9_in, Cond.code yX9_in cX9_in 6 (some .boolean), Cond.methodLink RX9 186 yX9_belowSecond, Cond.static yX9_belowSecond, Cond.code yX9_belowSecond cX9_belowSecond 2 (some .int), Cond.methodLink RX9 193 yX9_leastSound, Cond.instanceMethod yX9_leastSound, Cond.selects RX9 yX9_leastSound yX9_leastSound, Cond.code yX9_leastSound cX9_leastSound 7 (some .int), Cond.methodLink RX9 215 yX9_layLaw, Cond.instanceMethod yX9_layLaw, Cond.selects RX9 yX9_layLaw yX9_layLaw, Cond.code yX9_layLaw cX9_layLaw 8 none, Cond.fieldLink RX9 55 "SoundLawsModel" "tally" "[I", Cond.fieldLink RX9 46 "SoundLawsModel" "laws" "[I", Cond.fieldLink RX9 49 "SoundLawsModel" "follows" "[I", Cond.fieldLink RX9 52 "SoundLawsModel" "exceptions" "[I"]
def wsX9_saySet_r4 : List Cond := [Cond.methodLink RX9 208 yX9_layTally, Cond.instanceMethod yX9_layTally, Cond.selects RX9 yX9_layTally yX9_layTally, Cond.code yX9_layTally cX9_layTally 7 none, Cond.methodLink RX9 202 yX9_weightBy, Cond.static yX9_weightBy, Cond.code yX9_weightBy cX9_weightBy 1 (some .int), Cond.methodLink RX9 205 yX9_oldSound, Cond.instanceMethod yX9_oldSound, Cond.selects RX9 yX9_oldSound yX9_oldSound, Cond.code yX9_oldSound cX9_oldSound 3 (some .int), Cond.methodLink RX9 244 yX9_strangeAll, Cond.instanceMethod yX9_strangeAll, Cond.selects RX9 yX9_strangeAll yX9_strangeAll, Cond.code yX9_strangeAll cX9_strangeAll 4 (some .int), Cond.methodLink RX9 230 yX9_strangeOf, Cond.instanceMethod yX9_strangeOf, Cond.selects RX9 yX9_strangeOf yX9_strangeOf, Cond.code yX9_strangeOf cX9_strangeOf 6 (some .int), Cond.methodLink RX9 226 yX9_lawAt, Cond.instanceMethod yX9_lawAt, Cond.selects RX9 yX9_lawAt yX9_lawAt, Cond.code yX9_lawAt cX9_lawAt 4 (some .int), Cond.methodLink RX9 247 yX9_borrowed]
def wsX9_saySet_r5 : List Cond := [Cond.instanceMethod yX9_borrowed, Cond.selects RX9 yX9_borrowed yX9_borrowed, Cond.code yX9_borrowed cX9_borrowed 4 (some .int), Cond.methodLink RX9 237 yX9_isBorrowed, Cond.instanceMethod yX9_isBorrowed, Cond.selects RX9 yX9_isBorrowed yX9_isBorrowed, Cond.code yX9_isBorrowed cX9_isBorrowed 4 (some .boolean), Cond.methodLink RX9 250 yX9_sortsOf, Cond.instanceMethod yX9_sortsOf, Cond.selects RX9 yX9_sortsOf yX9_sortsOf, Cond.code yX9_sortsOf cX9_sortsOf 5 (some .int), Cond.fieldLink RX9 157 "SoundLawsModel" "seenMany" "I", Cond.fieldLink RX9 67 "SoundLawsModel" "sights" "[I", Cond.methodLink RX9 271 yX9_sortsBy, Cond.static yX9_sortsBy, Cond.code yX9_sortsBy cX9_sortsBy 1 (some .int), Cond.methodLink RX9 253 yX9_askOf, Cond.instanceMethod yX9_askOf, Cond.selects RX9 yX9_askOf yX9_askOf, Cond.code yX9_askOf cX9_askOf 9 (some .int), Cond.methodLink RX9 274 yX9_ones, Cond.static yX9_ones, Cond.code yX9_ones cX9_ones 3 (some .int), Cond.methodLink RX9 327 yX9_note]
def wsX9_saySet_r6 : List Cond := [Cond.instanceMethod yX9_note, Cond.selects RX9 yX9_note yX9_note, Cond.code yX9_note cX9_note 3 none, Cond.constantLong RX9 321 (31), Cond.fieldLink RX9 323 "SoundLawsModel" "hash" "J"]
def wsX9_saySet : List Cond := .code yX9_saySet cX9_saySet 4 none :: ((wsX9_saySet_r1 ++ (wsX9_saySet_r2 ++ (wsX9_saySet_r3 ++ (wsX9_saySet_r4 ++ (wsX9_saySet_r5 ++ wsX9_saySet_r6))))) ++ wsX90)
def wsX9_digest_r1 : List Cond := [Cond.constantLong RX9 331 (1459), Cond.fieldLink RX9 323 "SoundLawsModel" "hash" "J", Cond.fieldLink RX9 147 "SoundLawsModel" "sets" "I", Cond.fieldLink RX9 150 "SoundLawsModel" "tongues" "I", Cond.fieldLink RX9 46 "SoundLawsModel" "laws" "[I", Cond.fieldLink RX9 49 "SoundLawsModel" "follows" "[I", Cond.fieldLink RX9 52 "SoundLawsModel" "exceptions" "[I", Cond.fieldLink RX9 92 "SoundLawsModel" "pageMany" "I", Cond.fieldLink RX9 7 "SoundLawsModel" "page" "[I", Cond.methodLink RX9 333 yX9_saySet, Cond.instanceMethod yX9_saySet, Cond.selects RX9 yX9_saySet yX9_saySet, Cond.initialized RX9, Cond.code yX9_saySet cX9_saySet 4 none, Cond.fieldLink RX9 25 "SoundLawsModel" "longs" "[I", Cond.fieldLink RX9 40 "SoundLawsModel" "rebuilt" "[I", Cond.methodLink RX9 256 yX9_tellSet, Cond.instanceMethod yX9_tellSet, Cond.selects RX9 yX9_tellSet yX9_tellSet, Cond.code yX9_tellSet cX9_tellSet 3 (some .int), Cond.fieldLink RX9 22 "SoundLawsModel" "kinds" "[I", Cond.fieldLink RX9 43 "SoundLawsModel" "changes" "[I", Cond.methodLink RX9 223 yX9_freshen, Cond.instanceMethod yX9_freshen]
def wsX9_digest_r2 : List Cond := [Cond.selects RX9 yX9_freshen yX9_freshen, Cond.code yX9_freshen cX9_freshen 2 none, Cond.fieldLink RX9 153 "SoundLawsModel" "old" "Z", Cond.methodLink RX9 212 yX9_laySets, Cond.instanceMethod yX9_laySets, Cond.selects RX9 yX9_laySets yX9_laySets, Cond.code yX9_laySets cX9_laySets 4 none, Cond.fieldLink RX9 37 "SoundLawsModel" "said" "[I", Cond.fieldLink RX9 28 "SoundLawsModel" "words" "[I", Cond.fieldLink RX9 34 "SoundLawsModel" "had" "[I", Cond.methodLink RX9 196 yX9_isRebuilt, Cond.instanceMethod yX9_isRebuilt, Cond.selects RX9 yX9_isRebuilt yX9_isRebuilt, Cond.code yX9_isRebuilt cX9_isRebuilt 2 (some .boolean), Cond.methodLink RX9 199 yX9_rebuild, Cond.instanceMethod yX9_rebuild, Cond.selects RX9 yX9_rebuild yX9_rebuild, Cond.code yX9_rebuild cX9_rebuild 4 (some .int), Cond.fieldLink RX9 31 "SoundLawsModel" "costs" "[I", Cond.methodLink RX9 189 yX9_layCosts, Cond.instanceMethod yX9_layCosts, Cond.selects RX9 yX9_layCosts yX9_layCosts, Cond.code yX9_layCosts cX9_layCosts 4 none, Cond.methodLink RX9 177 yX9_nodesBy]
def wsX9_digest_r3 : List Cond := [Cond.instanceMethod yX9_nodesBy, Cond.selects RX9 yX9_nodesBy yX9_nodesBy, Cond.code yX9_nodesBy cX9_nodesBy 2 (some .int), Cond.methodLink RX9 180 yX9_belowFirst, Cond.static yX9_belowFirst, Cond.code yX9_belowFirst cX9_belowFirst 2 (some .int), Cond.methodLink RX9 183 yX9_least, Cond.instanceMethod yX9_least, Cond.selects RX9 yX9_least yX9_least, Cond.code yX9_least cX9_least 6 (some .int), Cond.methodLink RX9 173 yX9_costOf, Cond.static yX9_costOf, Cond.code yX9_costOf cX9_costOf 2 (some .int), Cond.methodLink RX9 168 yX9_isVowel, Cond.static yX9_isVowel, Cond.code yX9_isVowel cX9_isVowel 1 (some .boolean), Cond.constantLong RX9 166 (3), Cond.methodLink RX9 88 yX9_in, Cond.static yX9_in, Cond.code yX9_in cX9_in 6 (some .boolean), Cond.methodLink RX9 186 yX9_belowSecond, Cond.static yX9_belowSecond, Cond.code yX9_belowSecond cX9_belowSecond 2 (some .int), Cond.methodLink RX9 193 yX9_leastSound]
def wsX9_digest_r4 : List Cond := [Cond.instanceMethod yX9_leastSound, Cond.selects RX9 yX9_leastSound yX9_leastSound, Cond.code yX9_leastSound cX9_leastSound 7 (some .int), Cond.methodLink RX9 215 yX9_layLaw, Cond.instanceMethod yX9_layLaw, Cond.selects RX9 yX9_layLaw yX9_layLaw, Cond.code yX9_layLaw cX9_layLaw 8 none, Cond.fieldLink RX9 55 "SoundLawsModel" "tally" "[I", Cond.methodLink RX9 208 yX9_layTally, Cond.instanceMethod yX9_layTally, Cond.selects RX9 yX9_layTally yX9_layTally, Cond.code yX9_layTally cX9_layTally 7 none, Cond.methodLink RX9 202 yX9_weightBy, Cond.static yX9_weightBy, Cond.code yX9_weightBy cX9_weightBy 1 (some .int), Cond.methodLink RX9 205 yX9_oldSound, Cond.instanceMethod yX9_oldSound, Cond.selects RX9 yX9_oldSound yX9_oldSound, Cond.code yX9_oldSound cX9_oldSound 3 (some .int), Cond.methodLink RX9 244 yX9_strangeAll, Cond.instanceMethod yX9_strangeAll, Cond.selects RX9 yX9_strangeAll yX9_strangeAll, Cond.code yX9_strangeAll cX9_strangeAll 4 (some .int), Cond.methodLink RX9 230 yX9_strangeOf]
def wsX9_digest_r5 : List Cond := [Cond.instanceMethod yX9_strangeOf, Cond.selects RX9 yX9_strangeOf yX9_strangeOf, Cond.code yX9_strangeOf cX9_strangeOf 6 (some .int), Cond.methodLink RX9 226 yX9_lawAt, Cond.instanceMethod yX9_lawAt, Cond.selects RX9 yX9_lawAt yX9_lawAt, Cond.code yX9_lawAt cX9_lawAt 4 (some .int), Cond.methodLink RX9 247 yX9_borrowed, Cond.instanceMethod yX9_borrowed, Cond.selects RX9 yX9_borrowed yX9_borrowed, Cond.code yX9_borrowed cX9_borrowed 4 (some .int), Cond.methodLink RX9 237 yX9_isBorrowed, Cond.instanceMethod yX9_isBorrowed, Cond.selects RX9 yX9_isBorrowed yX9_isBorrowed, Cond.code yX9_isBorrowed cX9_isBorrowed 4 (some .boolean), Cond.methodLink RX9 250 yX9_sortsOf, Cond.instanceMethod yX9_sortsOf, Cond.selects RX9 yX9_sortsOf yX9_sortsOf, Cond.code yX9_sortsOf cX9_sortsOf 5 (some .int), Cond.fieldLink RX9 157 "SoundLawsModel" "seenMany" "I", Cond.fieldLink RX9 67 "SoundLawsModel" "sights" "[I", Cond.methodLink RX9 271 yX9_sortsBy, Cond.static yX9_sortsBy, Cond.code yX9_sortsBy cX9_sortsBy 1 (some .int)]
def wsX9_digest_r6 : List Cond := [Cond.methodLink RX9 253 yX9_askOf, Cond.instanceMethod yX9_askOf, Cond.selects RX9 yX9_askOf yX9_askOf, Cond.code yX9_askOf cX9_askOf 9 (some .int), Cond.methodLink RX9 274 yX9_ones, Cond.static yX9_ones, Cond.code yX9_ones cX9_ones 3 (some .int), Cond.methodLink RX9 327 yX9_note, Cond.instanceMethod yX9_note, Cond.selects RX9 yX9_note yX9_note, Cond.code yX9_note cX9_note 3 none, Cond.constantLong RX9 321 (31), Cond.methodLink RX9 318 yX9_countOf, Cond.instanceMethod yX9_countOf, Cond.selects RX9 yX9_countOf yX9_countOf, Cond.code yX9_countOf cX9_countOf 2 (some .int), Cond.fieldLink RX9 160 "SoundLawsModel" "setsRead" "I", Cond.methodLink RX9 315 yX9_countSets, Cond.instanceMethod yX9_countSets, Cond.selects RX9 yX9_countSets yX9_countSets, Cond.code yX9_countSets cX9_countSets 2 (some .int), Cond.methodLink RX9 292 yX9_lacks, Cond.instanceMethod yX9_lacks, Cond.selects RX9 yX9_lacks yX9_lacks]
def wsX9_digest_r7 : List Cond := [Cond.code yX9_lacks cX9_lacks 1 (some .boolean), Cond.methodLink RX9 268 yX9_changesAll, Cond.instanceMethod yX9_changesAll, Cond.selects RX9 yX9_changesAll yX9_changesAll, Cond.code yX9_changesAll cX9_changesAll 3 (some .int), Cond.methodLink RX9 308 yX9_sumLaws, Cond.instanceMethod yX9_sumLaws, Cond.selects RX9 yX9_sumLaws yX9_sumLaws, Cond.code yX9_sumLaws cX9_sumLaws 4 (some .int), Cond.methodLink RX9 312 yX9_borrowedAll, Cond.instanceMethod yX9_borrowedAll, Cond.selects RX9 yX9_borrowedAll yX9_borrowedAll, Cond.code yX9_borrowedAll cX9_borrowedAll 3 (some .int)]
def wsX9_digest : List Cond := .code yX9_digest cX9_digest 2 (some .long) :: ((wsX9_digest_r1 ++ (wsX9_digest_r2 ++ (wsX9_digest_r3 ++ (wsX9_digest_r4 ++ (wsX9_digest_r5 ++ (wsX9_digest_r6 ++ wsX9_digest_r7)))))) ++ wsX90)
def wsJ9_max_7cf53 : List Cond := .code yJ9_max_7cf53 cJ9_max_7cf53 2 (some .int) :: ([])
def wsJ9_min_7cf53 : List Cond := .code yJ9_min_7cf53 cJ9_min_7cf53 2 (some .int) :: ([])
def wsL_law_r1 : List Cond := [Cond.classLink RL 7 RX8, Cond.instantiable RX8 13, Cond.initialized RX8, Cond.classLink RL 10 RX9, Cond.instantiable RX9 41, Cond.initialized RX9, Cond.methodLink RL 9 yX8_init, Cond.instanceMethod yX8_init, Cond.code yX8_init cX8_init 1 none, Cond.methodLink RX8 1 objectInit, Cond.instanceMethod objectInit, Cond.code objectInit ⟨#[0xb1]⟩ 1 none, Cond.arrayClass .int, Cond.fieldLink RX8 9 "SoundLaws" "page" "[I", Cond.classLink RX8 13 RX3, Cond.instantiable RX3 7, Cond.initialized RX3, Cond.fieldLink RX8 16 "SoundLaws" "reader" "LSoundLaws$Reader;", Cond.classLink RX8 20 RX5, Cond.instantiable RX5 5, Cond.initialized RX5, Cond.fieldLink RX8 23 "SoundLaws" "stock" "LSoundLaws$Stock;", Cond.classLink RX8 27 RX4, Cond.instantiable RX4 4]
def wsL_law_r2 : List Cond := [Cond.initialized RX4, Cond.fieldLink RX8 30 "SoundLaws" "sightings" "LSoundLaws$Sightings;", Cond.classLink RX8 34 RX6, Cond.instantiable RX6 6, Cond.initialized RX6, Cond.fieldLink RX8 37 "SoundLaws" "study" "LSoundLaws$Study;", Cond.fieldLink RX8 41 "SoundLaws" "keptStock" "LSoundLaws$Stock;", Cond.fieldLink RX8 44 "SoundLaws" "keptSightings" "LSoundLaws$Sightings;", Cond.classLink RX8 47 RX0, Cond.instantiable RX0 5, Cond.initialized RX0, Cond.fieldLink RX8 50 "SoundLaws" "aligner" "LSoundLaws$Aligner;", Cond.classLink RX8 54 RX1, Cond.instantiable RX1 4, Cond.initialized RX1, Cond.fieldLink RX8 57 "SoundLaws" "draws" "LSoundLaws$Draws;", Cond.instanceMethod yX3_init, Cond.code yX3_init cX3_init 1 none, Cond.methodLink RX3 3 objectInit, Cond.classLink RX3 9 RX5, Cond.fieldLink RX3 12 "SoundLaws$Reader" "draft" "LSoundLaws$Stock;", Cond.instanceMethod yX5_init, Cond.code yX5_init cX5_init 1 none, Cond.methodLink RX5 3 objectInit]
def wsL_law_r3 : List Cond := [Cond.fieldLink RX5 9 "SoundLaws$Stock" "kinds" "[I", Cond.fieldLink RX5 15 "SoundLaws$Stock" "lengths" "[I", Cond.fieldLink RX5 18 "SoundLaws$Stock" "words" "[I", Cond.instanceMethod yX4_init, Cond.code yX4_init cX4_init 1 none, Cond.methodLink RX4 3 objectInit, Cond.fieldLink RX4 9 "SoundLaws$Sightings" "sets" "[I", Cond.fieldLink RX4 15 "SoundLaws$Sightings" "questions" "[I", Cond.arrayClass .boolean, Cond.fieldLink RX4 18 "SoundLaws$Sightings" "answers" "[Z", Cond.instanceMethod yX6_init, Cond.code yX6_init cX6_init 1 none, Cond.methodLink RX6 3 objectInit, Cond.fieldLink RX6 9 "SoundLaws$Study" "sounds" "[I", Cond.fieldLink RX6 15 "SoundLaws$Study" "changes" "[I", Cond.fieldLink RX6 18 "SoundLaws$Study" "strangePlaces" "[I", Cond.classLink RX6 21 RX2, Cond.instantiable RX2 6, Cond.initialized RX2, Cond.fieldLink RX6 24 "SoundLaws$Study" "laws" "LSoundLaws$Laws;", Cond.classLink RX6 28 RX7, Cond.instantiable RX7 3, Cond.initialized RX7, Cond.fieldLink RX6 31 "SoundLaws$Study" "tree" "LSoundLaws$Tree;"]
def wsL_law_r4 : List Cond := [Cond.instanceMethod yX2_init, Cond.code yX2_init cX2_init 1 none, Cond.methodLink RX2 3 objectInit, Cond.fieldLink RX2 9 "SoundLaws$Laws" "becomes" "[I", Cond.fieldLink RX2 15 "SoundLaws$Laws" "follows" "[I", Cond.fieldLink RX2 18 "SoundLaws$Laws" "exceptions" "[I", Cond.fieldLink RX2 21 "SoundLaws$Laws" "weights" "[I", Cond.instanceMethod yX7_init, Cond.code yX7_init cX7_init 1 none, Cond.methodLink RX7 3 objectInit, Cond.fieldLink RX7 9 "SoundLaws$Tree" "sounds" "[I", Cond.fieldLink RX7 15 "SoundLaws$Tree" "least" "[I", Cond.instanceMethod yX0_init, Cond.code yX0_init cX0_init 1 none, Cond.methodLink RX0 3 objectInit, Cond.fieldLink RX0 9 "SoundLaws$Aligner" "first" "[I", Cond.fieldLink RX0 15 "SoundLaws$Aligner" "second" "[I", Cond.fieldLink RX0 18 "SoundLaws$Aligner" "row" "[I", Cond.instanceMethod yX1_init, Cond.code yX1_init cX1_init 1 none, Cond.methodLink RX1 3 objectInit, Cond.classLink RX1 9 RX7, Cond.fieldLink RX1 12 "SoundLaws$Draws" "tree" "LSoundLaws$Tree;", Cond.methodLink RL 12 yX9_init]
def wsL_law_r5 : List Cond := [Cond.instanceMethod yX9_init, Cond.code yX9_init cX9_init 1 none, Cond.methodLink RX9 1 objectInit, Cond.fieldLink RX9 7 "SoundLawsModel" "page" "[I", Cond.fieldLink RX9 13 "SoundLawsModel" "readKinds" "[I", Cond.fieldLink RX9 16 "SoundLawsModel" "readLongs" "[I", Cond.fieldLink RX9 19 "SoundLawsModel" "readSounds" "[I", Cond.fieldLink RX9 22 "SoundLawsModel" "kinds" "[I", Cond.fieldLink RX9 25 "SoundLawsModel" "longs" "[I", Cond.fieldLink RX9 28 "SoundLawsModel" "words" "[I", Cond.fieldLink RX9 31 "SoundLawsModel" "costs" "[I", Cond.fieldLink RX9 34 "SoundLawsModel" "had" "[I", Cond.fieldLink RX9 37 "SoundLawsModel" "said" "[I", Cond.fieldLink RX9 40 "SoundLawsModel" "rebuilt" "[I", Cond.fieldLink RX9 43 "SoundLawsModel" "changes" "[I", Cond.fieldLink RX9 46 "SoundLawsModel" "laws" "[I", Cond.fieldLink RX9 49 "SoundLawsModel" "follows" "[I", Cond.fieldLink RX9 52 "SoundLawsModel" "exceptions" "[I", Cond.fieldLink RX9 55 "SoundLawsModel" "tally" "[I", Cond.fieldLink RX9 58 "SoundLawsModel" "one" "[I", Cond.fieldLink RX9 61 "SoundLawsModel" "other" "[I", Cond.fieldLink RX9 64 "SoundLawsModel" "lines" "[I", Cond.fieldLink RX9 67 "SoundLawsModel" "sights" "[I", Cond.fieldLink RX9 70 "SoundLawsModel" "keptKinds" "[I"]
def wsL_law_r6 : List Cond := [Cond.fieldLink RX9 73 "SoundLawsModel" "keptLongs" "[I", Cond.fieldLink RX9 76 "SoundLawsModel" "keptWords" "[I", Cond.fieldLink RX9 79 "SoundLawsModel" "keptSights" "[I", Cond.fieldLink RX9 82 "SoundLawsModel" "keptSets" "I", Cond.methodLink RL 13 yX8_letter, Cond.instanceMethod yX8_letter, Cond.selects RX8 yX8_letter yX8_letter, Cond.code yX8_letter cX8_letter 2 (some .int), Cond.fieldLink RX8 61 "SoundLaws" "letters" "I", Cond.methodLink RL 17 yX9_letter, Cond.instanceMethod yX9_letter, Cond.selects RX9 yX9_letter yX9_letter, Cond.code yX9_letter cX9_letter 2 (some .int), Cond.constantLong RX9 86 (126), Cond.fieldLink RX9 92 "SoundLawsModel" "pageMany" "I", Cond.methodLink RX9 88 yX9_in, Cond.static yX9_in, Cond.code yX9_in cX9_in 6 (some .boolean), Cond.methodLink RL 18 yX8_blank, Cond.instanceMethod yX8_blank, Cond.selects RX8 yX8_blank yX8_blank, Cond.code yX8_blank cX8_blank 2 (some .int), Cond.methodLink RL 22 yX9_blank, Cond.instanceMethod yX9_blank]
def wsL_law_r7 : List Cond := [Cond.selects RX9 yX9_blank yX9_blank, Cond.code yX9_blank cX9_blank 2 (some .int), Cond.methodLink RL 23 yX8_fault, Cond.instanceMethod yX8_fault, Cond.selects RX8 yX8_fault yX8_fault, Cond.code yX8_fault cX8_fault 1 (some .int), Cond.methodLink RX8 65 yX8_readPage, Cond.instanceMethod yX8_readPage, Cond.selects RX8 yX8_readPage yX8_readPage, Cond.code yX8_readPage cX8_readPage 2 (some .int), Cond.methodLink RX8 248 yX3_start, Cond.instanceMethod yX3_start, Cond.selects RX3 yX3_start yX3_start, Cond.code yX3_start cX3_start 1 none, Cond.fieldLink RX3 18 "SoundLaws$Stock" "size" "I", Cond.fieldLink RX3 22 "SoundLaws$Stock" "tongues" "I", Cond.fieldLink RX3 25 "SoundLaws$Reader" "kindIsDue" "Z", Cond.fieldLink RX3 29 "SoundLaws$Reader" "hasSilentWord" "Z", Cond.methodLink RX8 251 yX3_accepts, Cond.instanceMethod yX3_accepts, Cond.selects RX3 yX3_accepts yX3_accepts, Cond.code yX3_accepts cX3_accepts 2 (some .boolean), Cond.methodLink RX3 34 yJ0_indexOf_0f7a4, Cond.instanceMethod yJ0_indexOf_0f7a4]
def wsL_law_r8 : List Cond := [Cond.selects RJ0 yJ0_indexOf_0f7a4 yJ0_indexOf_0f7a4, Cond.initialized RJ0, Cond.code yJ0_indexOf_0f7a4 cJ0_indexOf_0f7a4 2 (some .int), Cond.methodLink RJ0 633 yJ0_indexOf_7cf53, Cond.instanceMethod yJ0_indexOf_7cf53, Cond.selects RJ0 yJ0_indexOf_7cf53 yJ0_indexOf_7cf53, Cond.code yJ0_indexOf_7cf53 cJ0_indexOf_7cf53 3 (some .int), Cond.fieldLink RJ0 9 "java/lang/String" "value" "[B", Cond.methodLink RJ0 492 yJ0_isLatin1_aae02, Cond.instanceMethod yJ0_isLatin1_aae02, Cond.selects RJ0 yJ0_isLatin1_aae02 yJ0_isLatin1_aae02, Cond.code yJ0_isLatin1_aae02 cJ0_isLatin1_aae02 1 (some .boolean), Cond.fieldLink RJ0 38 "java/lang/String" "COMPACT_STRINGS" "Z", Cond.fieldLink RJ0 15 "java/lang/String" "coder" "B", Cond.methodLink RJ0 505 yJ0_length_8abf5, Cond.instanceMethod yJ0_length_8abf5, Cond.selects RJ0 yJ0_length_8abf5 yJ0_length_8abf5, Cond.code yJ0_length_8abf5 cJ0_length_8abf5 1 (some .int), Cond.methodLink RJ0 335 yJ0_coder_7d493, Cond.instanceMethod yJ0_coder_7d493, Cond.selects RJ0 yJ0_coder_7d493 yJ0_coder_7d493, Cond.code yJ0_coder_7d493 cJ0_coder_7d493 1 (some .byte), Cond.methodLink RJ0 637 yJ1_indexOf_4cfef, Cond.static yJ1_indexOf_4cfef]
def wsL_law_r9 : List Cond := [Cond.initialized RJ1, Cond.code yJ1_indexOf_4cfef cJ1_indexOf_4cfef 4 (some .int), Cond.methodLink RJ1 92 Lib.Math.max.name, Cond.static Lib.Math.max.name, Cond.initialized "java/lang/Math", Cond.code Lib.Math.max.name Lib.Math.max.code 2 (some .int), Cond.methodLink RJ1 38 Lib.Math.min.name, Cond.static Lib.Math.min.name, Cond.code Lib.Math.min.name Lib.Math.min.code 2 (some .int), Cond.methodLink RJ1 88 yJ1_canEncode_9a6ad, Cond.static yJ1_canEncode_9a6ad, Cond.code yJ1_canEncode_9a6ad cJ1_canEncode_9a6ad 1 (some .boolean), Cond.methodLink RJ1 95 yJ1_indexOfChar_4cfef, Cond.static yJ1_indexOfChar_4cfef, Cond.code yJ1_indexOfChar_4cfef cJ1_indexOfChar_4cfef 6 (some .int), Cond.methodLink RJ0 640 yJ2_indexOf_4cfef, Cond.static yJ2_indexOf_4cfef, Cond.initialized RJ2, Cond.code yJ2_indexOf_4cfef cJ2_indexOf_4cfef 4 (some .int), Cond.methodLink RJ2 224 Lib.Math.max.name, Cond.methodLink RJ2 183 Lib.Math.min.name, Cond.constant RJ2 227 (65536), Cond.methodLink RJ2 228 yJ2_indexOfChar_4cfef, Cond.static yJ2_indexOfChar_4cfef]
def wsL_law_r10 : List Cond := [Cond.code yJ2_indexOfChar_4cfef cJ2_indexOfChar_4cfef 4 (some .int), Cond.methodLink RJ2 96 yJ2_checkBoundsBeginEnd_d044e, Cond.static yJ2_checkBoundsBeginEnd_d044e, Cond.code yJ2_checkBoundsBeginEnd_d044e cJ2_checkBoundsBeginEnd_d044e 3 none, Cond.methodLink RJ2 48 yJ2_length_9d52b, Cond.static yJ2_length_9d52b, Cond.code yJ2_length_9d52b cJ2_length_9d52b 1 (some .int), Cond.methodLink RJ2 241 yJ0_checkBoundsBeginEnd_23922, Cond.static yJ0_checkBoundsBeginEnd_23922, Cond.code yJ0_checkBoundsBeginEnd_23922 cJ0_checkBoundsBeginEnd_23922 3 none, Cond.fieldLink RJ0 1053 "jdk/internal/util/Preconditions" "SIOOBE_FORMATTER" "Ljava/util/function/BiFunction;", Cond.methodLink RJ0 1062 yJ3_checkFromToIndex_8c36e, Cond.static yJ3_checkFromToIndex_8c36e, Cond.initialized RJ3, Cond.code yJ3_checkFromToIndex_8c36e cJ3_checkFromToIndex_8c36e 4 (some .int), Cond.methodLink RJ2 244 yJ2_indexOfCharUnsafe_4cfef, Cond.static yJ2_indexOfCharUnsafe_4cfef, Cond.code yJ2_indexOfCharUnsafe_4cfef cJ2_indexOfCharUnsafe_4cfef 5 (some .int), Cond.methodLink RJ2 71 yJ2_getChar_3b067, Cond.static yJ2_getChar_3b067, Cond.code yJ2_getChar_3b067 cJ2_getChar_3b067 2 (some .char), Cond.fieldLink RJ2 44 "java/lang/StringUTF16" "$assertionsDisabled" "Z", Cond.fieldLink RJ2 59 "java/lang/StringUTF16" "HI_BYTE_SHIFT" "I", Cond.fieldLink RJ2 63 "java/lang/StringUTF16" "LO_BYTE_SHIFT" "I"]
def wsL_law_r11 : List Cond := [Cond.methodLink RJ2 232 yJ2_indexOfSupplementary_4cfef, Cond.static yJ2_indexOfSupplementary_4cfef, Cond.code yJ2_indexOfSupplementary_4cfef cJ2_indexOfSupplementary_4cfef 7 (some .int), Cond.methodLink RJ2 164 yJ11_isValidCodePoint_9a6ad, Cond.static yJ11_isValidCodePoint_9a6ad, Cond.initialized RJ11, Cond.code yJ11_isValidCodePoint_9a6ad cJ11_isValidCodePoint_9a6ad 2 (some .boolean), Cond.methodLink RJ2 157 yJ11_highSurrogate_5068e, Cond.static yJ11_highSurrogate_5068e, Cond.code yJ11_highSurrogate_5068e cJ11_highSurrogate_5068e 1 (some .char), Cond.constant RJ11 110 (55232), Cond.methodLink RJ2 161 yJ11_lowSurrogate_5068e, Cond.static yJ11_lowSurrogate_5068e, Cond.code yJ11_lowSurrogate_5068e cJ11_lowSurrogate_5068e 1 (some .char), Cond.constant RJ11 76 (56320), Cond.methodLink RX3 40 yX3_acceptsKind, Cond.instanceMethod yX3_acceptsKind, Cond.selects RX3 yX3_acceptsKind yX3_acceptsKind, Cond.code yX3_acceptsKind cX3_acceptsKind 2 (some .boolean), Cond.fieldLink RX3 65 "SoundLaws$Reader" "set" "I", Cond.fieldLink RX3 68 "SoundLaws$Stock" "kinds" "[I", Cond.fieldLink RX3 62 "SoundLaws$Reader" "tongue" "I", Cond.methodLink RX3 72 yX3_openWord, Cond.instanceMethod yX3_openWord]
def wsL_law_r12 : List Cond := [Cond.selects RX3 yX3_openWord yX3_openWord, Cond.code yX3_openWord cX3_openWord 1 none, Cond.fieldLink RX3 78 "SoundLaws$Reader" "place" "I", Cond.fieldLink RX3 88 "SoundLaws$Reader" "wordIsSilent" "Z", Cond.methodLink RX3 44 yX3_endsWord, Cond.instanceMethod yX3_endsWord, Cond.selects RX3 yX3_endsWord yX3_endsWord, Cond.code yX3_endsWord cX3_endsWord 2 (some .boolean), Cond.methodLink RX3 91 yX3_wordIsWhole, Cond.instanceMethod yX3_wordIsWhole, Cond.selects RX3 yX3_wordIsWhole yX3_wordIsWhole, Cond.code yX3_wordIsWhole cX3_wordIsWhole 1 (some .boolean), Cond.fieldLink RX3 75 "SoundLaws$Stock" "lengths" "[I", Cond.methodLink RX3 59 yX3_closeWord, Cond.instanceMethod yX3_closeWord, Cond.selects RX3 yX3_closeWord yX3_closeWord, Cond.code yX3_closeWord cX3_closeWord 1 none, Cond.methodLink RX3 48 yX3_endsSet, Cond.instanceMethod yX3_endsSet, Cond.selects RX3 yX3_endsSet yX3_endsSet, Cond.code yX3_endsSet cX3_endsSet 1 (some .boolean), Cond.methodLink RX3 56 yX3_setIsWhole, Cond.instanceMethod yX3_setIsWhole, Cond.selects RX3 yX3_setIsWhole yX3_setIsWhole]
def wsL_law_r13 : List Cond := [Cond.code yX3_setIsWhole cX3_setIsWhole 2 (some .boolean), Cond.methodLink RX3 53 yX3_acceptsSound, Cond.instanceMethod yX3_acceptsSound, Cond.selects RX3 yX3_acceptsSound yX3_acceptsSound, Cond.code yX3_acceptsSound cX3_acceptsSound 3 (some .boolean), Cond.fieldLink RX3 81 "SoundLaws$Stock" "words" "[I", Cond.static yX8_wordAt, Cond.code yX8_wordAt cX8_wordAt 2 (some .int), Cond.methodLink RL 26 yX9_fault, Cond.instanceMethod yX9_fault, Cond.selects RX9 yX9_fault yX9_fault, Cond.code yX9_fault cX9_fault 1 (some .int), Cond.methodLink RX9 140 yX9_faultOf, Cond.instanceMethod yX9_faultOf, Cond.selects RX9 yX9_faultOf yX9_faultOf, Cond.code yX9_faultOf cX9_faultOf 2 (some .int), Cond.fieldLink RX9 115 "SoundLawsModel" "readSets" "I", Cond.fieldLink RX9 98 "SoundLawsModel" "readWords" "I", Cond.fieldLink RX9 108 "SoundLawsModel" "readTongues" "I", Cond.methodLink RX9 137 yX9_isGood, Cond.instanceMethod yX9_isGood, Cond.selects RX9 yX9_isGood yX9_isGood, Cond.code yX9_isGood cX9_isGood 2 (some .boolean), Cond.methodLink RX9 124 yX9_isBegun]
def wsL_law_r14 : List Cond := [Cond.instanceMethod yX9_isBegun, Cond.selects RX9 yX9_isBegun yX9_isBegun, Cond.code yX9_isBegun cX9_isBegun 2 (some .boolean), Cond.fieldLink RX9 95 "SoundLawsModel" "readHere" "I", Cond.fieldLink RX9 101 "SoundLawsModel" "readLong" "I", Cond.methodLink RX9 111 yX9_kindBy, Cond.static yX9_kindBy, Cond.code yX9_kindBy cX9_kindBy 1 (some .int), Cond.methodLink RX9 128 yX9_isSlash, Cond.instanceMethod yX9_isSlash, Cond.selects RX9 yX9_isSlash yX9_isSlash, Cond.code yX9_isSlash cX9_isSlash 2 (some .boolean), Cond.methodLink RX9 104 yX9_isWordWhole, Cond.instanceMethod yX9_isWordWhole, Cond.selects RX9 yX9_isWordWhole yX9_isWordWhole, Cond.code yX9_isWordWhole cX9_isWordWhole 1 (some .boolean), Cond.methodLink RX9 131 yX9_isComma, Cond.instanceMethod yX9_isComma, Cond.selects RX9 yX9_isComma yX9_isComma, Cond.code yX9_isComma cX9_isComma 2 (some .boolean), Cond.methodLink RX9 118 yX9_isSetWhole, Cond.instanceMethod yX9_isSetWhole, Cond.selects RX9 yX9_isSetWhole yX9_isSetWhole, Cond.code yX9_isSetWhole cX9_isSetWhole 1 (some .boolean)]
def wsL_law_r15 : List Cond := [Cond.methodLink RX9 134 yX9_isSound, Cond.instanceMethod yX9_isSound, Cond.selects RX9 yX9_isSound yX9_isSound, Cond.code yX9_isSound cX9_isSound 2 (some .boolean), Cond.methodLink RX9 121 yX9_soundBy, Cond.static yX9_soundBy, Cond.code yX9_soundBy cX9_soundBy 1 (some .int), Cond.methodLink RL 27 yX8_sets, Cond.instanceMethod yX8_sets, Cond.selects RX8 yX8_sets yX8_sets, Cond.code yX8_sets cX8_sets 1 (some .int), Cond.fieldLink RX8 73 "SoundLaws$Reader" "draft" "LSoundLaws$Stock;", Cond.fieldLink RX8 83 "SoundLaws" "kept" "Z", Cond.fieldLink RX8 87 "SoundLaws" "studied" "Z", Cond.fieldLink RX8 90 "SoundLaws" "readings" "I", Cond.fieldLink RX8 93 "SoundLaws$Stock" "size" "I", Cond.methodLink RX8 69 yX3_finish, Cond.instanceMethod yX3_finish, Cond.selects RX3 yX3_finish yX3_finish, Cond.code yX3_finish cX3_finish 1 (some .boolean), Cond.methodLink RX8 76 yX5_become, Cond.instanceMethod yX5_become, Cond.selects RX5 yX5_become yX5_become, Cond.code yX5_become cX5_become 2 none]
def wsL_law_r16 : List Cond := [Cond.fieldLink RX5 21 "SoundLaws$Stock" "size" "I", Cond.fieldLink RX5 25 "SoundLaws$Stock" "tongues" "I", Cond.methodLink RX5 28 arraycopyName, Cond.native arraycopyName, Cond.static arraycopyName, Cond.initialized "java/lang/System", Cond.methodLink RX8 80 yX4_clear, Cond.instanceMethod yX4_clear, Cond.selects RX4 yX4_clear yX4_clear, Cond.code yX4_clear cX4_clear 1 none, Cond.fieldLink RX4 22 "SoundLaws$Sightings" "size" "I", Cond.methodLink RL 30 yX9_sets, Cond.instanceMethod yX9_sets, Cond.selects RX9 yX9_sets yX9_sets, Cond.code yX9_sets cX9_sets 2 (some .int), Cond.fieldLink RX9 147 "SoundLawsModel" "sets" "I", Cond.fieldLink RX9 150 "SoundLawsModel" "tongues" "I", Cond.fieldLink RX9 153 "SoundLawsModel" "old" "Z", Cond.fieldLink RX9 157 "SoundLawsModel" "seenMany" "I", Cond.fieldLink RX9 160 "SoundLawsModel" "setsRead" "I", Cond.methodLink RX9 144 yX9_isMute, Cond.instanceMethod yX9_isMute, Cond.selects RX9 yX9_isMute yX9_isMute, Cond.code yX9_isMute cX9_isMute 6 (some .boolean)]
def wsL_law_r17 : List Cond := [Cond.methodLink RL 31 yX8_set, Cond.instanceMethod yX8_set, Cond.selects RX8 yX8_set yX8_set, Cond.code yX8_set cX8_set 3 (some .int), Cond.methodLink RX8 96 yX8_isSet, Cond.instanceMethod yX8_isSet, Cond.selects RX8 yX8_isSet yX8_isSet, Cond.code yX8_isSet cX8_isSet 2 (some .boolean), Cond.methodLink RX8 100 yX8_freshenStudy, Cond.instanceMethod yX8_freshenStudy, Cond.selects RX8 yX8_freshenStudy yX8_freshenStudy, Cond.code yX8_freshenStudy cX8_freshenStudy 1 none, Cond.methodLink RX8 254 yX6_renew, Cond.instanceMethod yX6_renew, Cond.selects RX6 yX6_renew yX6_renew, Cond.code yX6_renew cX6_renew 3 none, Cond.fieldLink RX6 35 "SoundLaws$Stock" "tongues" "I", Cond.fieldLink RX6 45 "SoundLaws$Study" "changesOfAll" "I", Cond.fieldLink RX6 48 "SoundLaws$Stock" "size" "I", Cond.methodLink RX6 41 yX7_plant, Cond.instanceMethod yX7_plant, Cond.selects RX7 yX7_plant yX7_plant, Cond.code yX7_plant cX7_plant 2 none, Cond.fieldLink RX7 18 "SoundLaws$Tree" "tongues" "I"]
def wsL_law_r18 : List Cond := [Cond.methodLink RX6 51 yX6_rebuild, Cond.instanceMethod yX6_rebuild, Cond.selects RX6 yX6_rebuild yX6_rebuild, Cond.code yX6_rebuild cX6_rebuild 6 none, Cond.fieldLink RX6 90 "SoundLaws$Stock" "kinds" "[I", Cond.fieldLink RX6 75 "SoundLaws$Stock" "lengths" "[I", Cond.fieldLink RX6 93 "SoundLaws$Tree" "sounds" "[I", Cond.fieldLink RX6 94 "SoundLaws$Stock" "words" "[I", Cond.methodLink RX6 107 arraycopyName, Cond.methodLink RX6 100 yX7_climb, Cond.instanceMethod yX7_climb, Cond.selects RX7 yX7_climb yX7_climb, Cond.code yX7_climb cX7_climb 5 (some .int), Cond.static yX8_nodesOf, Cond.code yX8_nodesOf cX8_nodesOf 1 (some .int), Cond.methodLink RX7 26 yX7_pairOf, Cond.instanceMethod yX7_pairOf, Cond.selects RX7 yX7_pairOf yX7_pairOf, Cond.code yX7_pairOf cX7_pairOf 2 (some .int), Cond.methodLink RX7 32 yX7_leastBelow, Cond.instanceMethod yX7_leastBelow, Cond.selects RX7 yX7_leastBelow yX7_leastBelow, Cond.code yX7_leastBelow cX7_leastBelow 8 (some .int), Cond.methodLink RX6 104 yX7_descend]
def wsL_law_r19 : List Cond := [Cond.instanceMethod yX7_descend, Cond.selects RX7 yX7_descend yX7_descend, Cond.code yX7_descend cX7_descend 3 none, Cond.methodLink RX7 36 yX7_root, Cond.instanceMethod yX7_root, Cond.selects RX7 yX7_root yX7_root, Cond.code yX7_root cX7_root 1 (some .int), Cond.methodLink RX7 40 yX7_settle, Cond.instanceMethod yX7_settle, Cond.selects RX7 yX7_settle yX7_settle, Cond.code yX7_settle cX7_settle 7 none, Cond.static yX8_costOf, Cond.code yX8_costOf cX8_costOf 2 (some .int), Cond.fieldLink RX8 288 "SoundLaws" "COSTS" "[I", Cond.static yX8_nodesAt, Cond.code yX8_nodesAt cX8_nodesAt 2 (some .int), Cond.methodLink RX6 55 yX2_clear, Cond.instanceMethod yX2_clear, Cond.selects RX2 yX2_clear yX2_clear, Cond.code yX2_clear cX2_clear 1 none, Cond.methodLink RX2 24 yJ7_fill_53178, Cond.static yJ7_fill_53178, Cond.initialized RJ7, Cond.code yJ7_fill_53178 cJ7_fill_53178 4 none]
def wsL_law_r20 : List Cond := [Cond.methodLink RX6 58 yX6_weigh, Cond.instanceMethod yX6_weigh, Cond.selects RX6 yX6_weigh yX6_weigh, Cond.code yX6_weigh cX6_weigh 8 none, Cond.methodLink RX6 116 yX6_oldSound, Cond.instanceMethod yX6_oldSound, Cond.selects RX6 yX6_oldSound yX6_oldSound, Cond.code yX6_oldSound cX6_oldSound 4 (some .int), Cond.static yX8_aheadAt, Cond.code yX8_aheadAt cX8_aheadAt 1 (some .int), Cond.static yX8_lawAt, Cond.code yX8_lawAt cX8_lawAt 3 (some .int), Cond.methodLink RX6 127 yX2_weigh, Cond.instanceMethod yX2_weigh, Cond.selects RX2 yX2_weigh yX2_weigh, Cond.code yX2_weigh cX2_weigh 4 none, Cond.methodLink RX6 61 yX2_settle, Cond.instanceMethod yX2_settle, Cond.selects RX2 yX2_settle yX2_settle, Cond.code yX2_settle cX2_settle 3 none, Cond.fieldLink RX2 30 "SoundLaws$Laws" "known" "I", Cond.fieldLink RX2 34 "SoundLaws$Laws" "exceptionsOfAll" "I", Cond.methodLink RX2 37 yX2_settleLaw, Cond.instanceMethod yX2_settleLaw]
def wsL_law_r21 : List Cond := [Cond.selects RX2 yX2_settleLaw yX2_settleLaw, Cond.code yX2_settleLaw cX2_settleLaw 7 none, Cond.methodLink RX6 64 yX6_findStrange, Cond.instanceMethod yX6_findStrange, Cond.selects RX6 yX6_findStrange yX6_findStrange, Cond.code yX6_findStrange cX6_findStrange 8 none, Cond.fieldLink RX6 130 "SoundLaws$Laws" "becomes" "[I", Cond.methodLink RX8 103 yX8_tellOfSet, Cond.instanceMethod yX8_tellOfSet, Cond.selects RX8 yX8_tellOfSet yX8_tellOfSet, Cond.code yX8_tellOfSet cX8_tellOfSet 3 (some .int), Cond.fieldLink RX8 110 "SoundLaws$Stock" "kinds" "[I", Cond.fieldLink RX8 168 "SoundLaws$Stock" "lengths" "[I", Cond.fieldLink RX8 257 "SoundLaws$Study" "changes" "[I", Cond.methodLink RX8 259 yX6_strangeInSet, Cond.instanceMethod yX6_strangeInSet, Cond.selects RX6 yX6_strangeInSet yX6_strangeInSet, Cond.code yX6_strangeInSet cX6_strangeInSet 4 (some .int), Cond.methodLink RX8 262 yX6_borrowedTongues, Cond.instanceMethod yX6_borrowedTongues, Cond.selects RX6 yX6_borrowedTongues yX6_borrowedTongues, Cond.code yX6_borrowedTongues cX6_borrowedTongues 6 (some .int), Cond.methodLink RX8 266 yX4_sortsOf, Cond.instanceMethod yX4_sortsOf]
def wsL_law_r22 : List Cond := [Cond.selects RX4 yX4_sortsOf yX4_sortsOf, Cond.code yX4_sortsOf cX4_sortsOf 5 (some .int), Cond.methodLink RX4 30 yX4_sortsThatCould, Cond.static yX4_sortsThatCould, Cond.code yX4_sortsThatCould cX4_sortsThatCould 3 (some .int), Cond.methodLink RX4 48 yX4_could, Cond.static yX4_could, Cond.code yX4_could cX4_could 2 (some .boolean), Cond.methodLink RX8 269 yX4_questionFor, Cond.instanceMethod yX4_questionFor, Cond.selects RX4 yX4_questionFor yX4_questionFor, Cond.code yX4_questionFor cX4_questionFor 8 (some .int), Cond.methodLink RX4 42 Lib.Math.max.name, Cond.methodLink RX4 34 yX4_sortsOf, Cond.methodLink RX4 37 yJ6_bitCount_0f7a4, Cond.static yJ6_bitCount_0f7a4, Cond.initialized RJ6, Cond.code yJ6_bitCount_0f7a4 cJ6_bitCount_0f7a4 1 (some .int), Cond.constant RJ6 265 (1431655765), Cond.constant RJ6 266 (858993459), Cond.constant RJ6 267 (252645135), Cond.methodLink RL 35 yX9_set, Cond.instanceMethod yX9_set, Cond.selects RX9 yX9_set yX9_set]
def wsL_law_r23 : List Cond := [Cond.code yX9_set cX9_set 3 (some .int), Cond.methodLink RX9 163 yX9_isSet, Cond.instanceMethod yX9_isSet, Cond.selects RX9 yX9_isSet yX9_isSet, Cond.code yX9_isSet cX9_isSet 2 (some .boolean), Cond.methodLink RX9 256 yX9_tellSet, Cond.instanceMethod yX9_tellSet, Cond.selects RX9 yX9_tellSet yX9_tellSet, Cond.code yX9_tellSet cX9_tellSet 3 (some .int), Cond.methodLink RX9 223 yX9_freshen, Cond.instanceMethod yX9_freshen, Cond.selects RX9 yX9_freshen yX9_freshen, Cond.code yX9_freshen cX9_freshen 2 none, Cond.methodLink RX9 212 yX9_laySets, Cond.instanceMethod yX9_laySets, Cond.selects RX9 yX9_laySets yX9_laySets, Cond.code yX9_laySets cX9_laySets 4 none, Cond.methodLink RX9 196 yX9_isRebuilt, Cond.instanceMethod yX9_isRebuilt, Cond.selects RX9 yX9_isRebuilt yX9_isRebuilt, Cond.code yX9_isRebuilt cX9_isRebuilt 2 (some .boolean), Cond.methodLink RX9 199 yX9_rebuild, Cond.instanceMethod yX9_rebuild, Cond.selects RX9 yX9_rebuild yX9_rebuild]
def wsL_law_r24 : List Cond := [Cond.code yX9_rebuild cX9_rebuild 4 (some .int), Cond.methodLink RX9 189 yX9_layCosts, Cond.instanceMethod yX9_layCosts, Cond.selects RX9 yX9_layCosts yX9_layCosts, Cond.code yX9_layCosts cX9_layCosts 4 none, Cond.methodLink RX9 177 yX9_nodesBy, Cond.instanceMethod yX9_nodesBy, Cond.selects RX9 yX9_nodesBy yX9_nodesBy, Cond.code yX9_nodesBy cX9_nodesBy 2 (some .int), Cond.methodLink RX9 180 yX9_belowFirst, Cond.static yX9_belowFirst, Cond.code yX9_belowFirst cX9_belowFirst 2 (some .int), Cond.methodLink RX9 183 yX9_least, Cond.instanceMethod yX9_least, Cond.selects RX9 yX9_least yX9_least, Cond.code yX9_least cX9_least 6 (some .int), Cond.methodLink RX9 173 yX9_costOf, Cond.static yX9_costOf, Cond.code yX9_costOf cX9_costOf 2 (some .int), Cond.methodLink RX9 168 yX9_isVowel, Cond.static yX9_isVowel, Cond.code yX9_isVowel cX9_isVowel 1 (some .boolean), Cond.constantLong RX9 166 (3), Cond.methodLink RX9 186 yX9_belowSecond]
def wsL_law_r25 : List Cond := [Cond.static yX9_belowSecond, Cond.code yX9_belowSecond cX9_belowSecond 2 (some .int), Cond.methodLink RX9 193 yX9_leastSound, Cond.instanceMethod yX9_leastSound, Cond.selects RX9 yX9_leastSound yX9_leastSound, Cond.code yX9_leastSound cX9_leastSound 7 (some .int), Cond.methodLink RX9 215 yX9_layLaw, Cond.instanceMethod yX9_layLaw, Cond.selects RX9 yX9_layLaw yX9_layLaw, Cond.code yX9_layLaw cX9_layLaw 8 none, Cond.methodLink RX9 208 yX9_layTally, Cond.instanceMethod yX9_layTally, Cond.selects RX9 yX9_layTally yX9_layTally, Cond.code yX9_layTally cX9_layTally 7 none, Cond.methodLink RX9 202 yX9_weightBy, Cond.static yX9_weightBy, Cond.code yX9_weightBy cX9_weightBy 1 (some .int), Cond.methodLink RX9 205 yX9_oldSound, Cond.instanceMethod yX9_oldSound, Cond.selects RX9 yX9_oldSound yX9_oldSound, Cond.code yX9_oldSound cX9_oldSound 3 (some .int), Cond.methodLink RX9 244 yX9_strangeAll, Cond.instanceMethod yX9_strangeAll, Cond.selects RX9 yX9_strangeAll yX9_strangeAll]
def wsL_law_r26 : List Cond := [Cond.code yX9_strangeAll cX9_strangeAll 4 (some .int), Cond.methodLink RX9 230 yX9_strangeOf, Cond.instanceMethod yX9_strangeOf, Cond.selects RX9 yX9_strangeOf yX9_strangeOf, Cond.code yX9_strangeOf cX9_strangeOf 6 (some .int), Cond.methodLink RX9 226 yX9_lawAt, Cond.instanceMethod yX9_lawAt, Cond.selects RX9 yX9_lawAt yX9_lawAt, Cond.code yX9_lawAt cX9_lawAt 4 (some .int), Cond.methodLink RX9 247 yX9_borrowed, Cond.instanceMethod yX9_borrowed, Cond.selects RX9 yX9_borrowed yX9_borrowed, Cond.code yX9_borrowed cX9_borrowed 4 (some .int), Cond.methodLink RX9 237 yX9_isBorrowed, Cond.instanceMethod yX9_isBorrowed, Cond.selects RX9 yX9_isBorrowed yX9_isBorrowed, Cond.code yX9_isBorrowed cX9_isBorrowed 4 (some .boolean), Cond.methodLink RX9 250 yX9_sortsOf, Cond.instanceMethod yX9_sortsOf, Cond.selects RX9 yX9_sortsOf yX9_sortsOf, Cond.code yX9_sortsOf cX9_sortsOf 5 (some .int), Cond.methodLink RX9 271 yX9_sortsBy, Cond.static yX9_sortsBy, Cond.code yX9_sortsBy cX9_sortsBy 1 (some .int)]
def wsL_law_r27 : List Cond := [Cond.methodLink RX9 253 yX9_askOf, Cond.instanceMethod yX9_askOf, Cond.selects RX9 yX9_askOf yX9_askOf, Cond.code yX9_askOf cX9_askOf 9 (some .int), Cond.methodLink RX9 274 yX9_ones, Cond.static yX9_ones, Cond.code yX9_ones cX9_ones 3 (some .int), Cond.methodLink RL 36 yX8_as, Cond.instanceMethod yX8_as, Cond.selects RX8 yX8_as yX8_as, Cond.code yX8_as cX8_as 3 (some .int), Cond.methodLink RX8 107 yX8_isKind, Cond.static yX8_isKind, Cond.code yX8_isKind cX8_isKind 1 (some .boolean), Cond.methodLink RX8 113 yX8_isOfKind, Cond.static yX8_isOfKind, Cond.code yX8_isOfKind cX8_isOfKind 2 (some .boolean), Cond.methodLink RL 39 yX9_as, Cond.instanceMethod yX9_as, Cond.selects RX9 yX9_as yX9_as, Cond.code yX9_as cX9_as 4 (some .int), Cond.constantLong RX9 259 (4), Cond.methodLink RL 40 yX8_sound, Cond.instanceMethod yX8_sound]
def wsL_law_r28 : List Cond := [Cond.selects RX8 yX8_sound yX8_sound, Cond.code yX8_sound cX8_sound 4 (some .int), Cond.methodLink RX8 117 yX8_isNode, Cond.instanceMethod yX8_isNode, Cond.selects RX8 yX8_isNode yX8_isNode, Cond.code yX8_isNode cX8_isNode 2 (some .boolean), Cond.fieldLink RX8 234 "SoundLaws$Stock" "tongues" "I", Cond.methodLink RX8 243 yX8_nodesOf, Cond.methodLink RX8 120 yX8_isPlace, Cond.instanceMethod yX8_isPlace, Cond.selects RX8 yX8_isPlace yX8_isPlace, Cond.code yX8_isPlace cX8_isPlace 3 (some .boolean), Cond.methodLink RX8 123 yX8_tellOfNode, Cond.instanceMethod yX8_tellOfNode, Cond.selects RX8 yX8_tellOfNode yX8_tellOfNode, Cond.code yX8_tellOfNode cX8_tellOfNode 4 (some .int), Cond.fieldLink RX8 162 "SoundLaws$Stock" "words" "[I", Cond.fieldLink RX8 145 "SoundLaws" "REBUILDS" "[I", Cond.fieldLink RX8 272 "SoundLaws$Study" "sounds" "[I", Cond.methodLink RX8 165 yX8_wordAt, Cond.methodLink RX8 275 yX8_nodesAt, Cond.methodLink RL 44 yX9_sound, Cond.instanceMethod yX9_sound, Cond.selects RX9 yX9_sound yX9_sound]
def wsL_law_r29 : List Cond := [Cond.code yX9_sound cX9_sound 4 (some .int), Cond.methodLink RX9 233 yX9_isPlace, Cond.instanceMethod yX9_isPlace, Cond.selects RX9 yX9_isPlace yX9_isPlace, Cond.code yX9_isPlace cX9_isPlace 3 (some .boolean), Cond.methodLink RL 45 yX8_law, Cond.instanceMethod yX8_law, Cond.selects RX8 yX8_law yX8_law, Cond.code yX8_law cX8_law 5 (some .int), Cond.fieldLink RX8 133 "SoundLaws$Study" "laws" "LSoundLaws$Laws;", Cond.methodLink RX8 127 yX8_isTongue, Cond.instanceMethod yX8_isTongue, Cond.selects RX8 yX8_isTongue yX8_isTongue, Cond.code yX8_isTongue cX8_isTongue 2 (some .boolean), Cond.methodLink RX8 130 yX8_isSound, Cond.static yX8_isSound, Cond.code yX8_isSound cX8_isSound 1 (some .boolean), Cond.methodLink RX8 137 yX8_lawAt, Cond.methodLink RX8 140 yX2_tell, Cond.instanceMethod yX2_tell, Cond.selects RX2 yX2_tell yX2_tell, Cond.code yX2_tell cX2_tell 3 (some .int), Cond.methodLink RL 49 yX9_law, Cond.instanceMethod yX9_law]
def wsL_law_r30 : List Cond := [Cond.selects RX9 yX9_law yX9_law, Cond.code yX9_law cX9_law 6 (some .int), Cond.constantLong RX9 171 (8), Cond.constantLong RX9 221 (2), Cond.methodLink RX9 218 yX9_isTongue, Cond.instanceMethod yX9_isTongue, Cond.selects RX9 yX9_isTongue yX9_isTongue, Cond.code yX9_isTongue cX9_isTongue 2 (some .boolean), Cond.methodLink RL 50 yX8_strange, Cond.instanceMethod yX8_strange, Cond.selects RX8 yX8_strange yX8_strange, Cond.code yX8_strange cX8_strange 3 (some .int), Cond.fieldLink RX8 148 "SoundLaws$Study" "strangePlaces" "[I", Cond.methodLink RL 53 yX9_strange, Cond.instanceMethod yX9_strange, Cond.selects RX9 yX9_strange yX9_strange, Cond.code yX9_strange cX9_strange 3 (some .int), Cond.methodLink RL 54 yX8_say, Cond.instanceMethod yX8_say, Cond.selects RX8 yX8_say yX8_say, Cond.code yX8_say cX8_say 6 (some .int), Cond.fieldLink RX8 155 "SoundLaws$Laws" "becomes" "[I", Cond.methodLink RX8 151 yX6_oldSound, Cond.methodLink RX8 158 yX8_aheadAt]
def wsL_law_r31 : List Cond := [Cond.methodLink RL 57 yX9_say, Cond.instanceMethod yX9_say, Cond.selects RX9 yX9_say yX9_say, Cond.code yX9_say cX9_say 5 (some .int), Cond.methodLink RL 58 yX8_line, Cond.instanceMethod yX8_line, Cond.selects RX8 yX8_line yX8_line, Cond.code yX8_line cX8_line 5 (some .int), Cond.methodLink RX8 171 yX0_readFirst, Cond.instanceMethod yX0_readFirst, Cond.selects RX0 yX0_readFirst yX0_readFirst, Cond.code yX0_readFirst cX0_readFirst 4 none, Cond.fieldLink RX0 25 "SoundLaws$Aligner" "firstLength" "I", Cond.methodLink RX0 21 yX0_readSounds, Cond.static yX0_readSounds, Cond.code yX0_readSounds cX0_readSounds 7 (some .int), Cond.methodLink RX8 175 yX0_readSecond, Cond.instanceMethod yX0_readSecond, Cond.selects RX0 yX0_readSecond yX0_readSecond, Cond.code yX0_readSecond cX0_readSecond 4 none, Cond.fieldLink RX0 29 "SoundLaws$Aligner" "secondLength" "I", Cond.methodLink RX8 178 yX0_leastCost, Cond.instanceMethod yX0_leastCost, Cond.selects RX0 yX0_leastCost yX0_leastCost]
def wsL_law_r32 : List Cond := [Cond.code yX0_leastCost cX0_leastCost 6 (some .int), Cond.methodLink RX0 36 Lib.Math.min.name, Cond.methodLink RL 61 yX9_line, Cond.instanceMethod yX9_line, Cond.selects RX9 yX9_line yX9_line, Cond.code yX9_line cX9_line 13 (some .int), Cond.methodLink RX9 240 yX9_strip, Cond.instanceMethod yX9_strip, Cond.selects RX9 yX9_strip yX9_strip, Cond.code yX9_strip cX9_strip 7 (some .int), Cond.methodLink RL 62 yX8_cost, Cond.instanceMethod yX8_cost, Cond.selects RX8 yX8_cost yX8_cost, Cond.code yX8_cost cX8_cost 3 (some .int), Cond.methodLink RX8 181 yX8_costOf, Cond.methodLink RL 65 yX9_cost, Cond.instanceMethod yX9_cost, Cond.selects RX9 yX9_cost yX9_cost, Cond.code yX9_cost cX9_cost 3 (some .int), Cond.methodLink RL 66 yX8_put, Cond.instanceMethod yX8_put, Cond.selects RX8 yX8_put yX8_put, Cond.code yX8_put cX8_put 7 (some .int), Cond.methodLink RX8 184 yX5_isSilentBut]
def wsL_law_r33 : List Cond := [Cond.instanceMethod yX5_isSilentBut, Cond.selects RX5 yX5_isSilentBut yX5_isSilentBut, Cond.code yX5_isSilentBut cX5_isSilentBut 5 (some .boolean), Cond.methodLink RL 69 yX9_put, Cond.instanceMethod yX9_put, Cond.selects RX9 yX9_put yX9_put, Cond.code yX9_put cX9_put 7 (some .int), Cond.methodLink RX9 261 yX9_isOnlyNone, Cond.instanceMethod yX9_isOnlyNone, Cond.selects RX9 yX9_isOnlyNone yX9_isOnlyNone, Cond.code yX9_isOnlyNone cX9_isOnlyNone 5 (some .boolean), Cond.methodLink RL 70 yX8_copy, Cond.instanceMethod yX8_copy, Cond.selects RX8 yX8_copy yX8_copy, Cond.code yX8_copy cX8_copy 3 (some .int), Cond.methodLink RX8 188 yX5_putOver, Cond.instanceMethod yX5_putOver, Cond.selects RX5 yX5_putOver yX5_putOver, Cond.code yX5_putOver cX5_putOver 3 none, Cond.methodLink RL 73 yX9_copy, Cond.instanceMethod yX9_copy, Cond.selects RX9 yX9_copy yX9_copy, Cond.code yX9_copy cX9_copy 2 (some .int), Cond.methodLink RX9 264 yX9_layLike]
def wsL_law_r34 : List Cond := [Cond.instanceMethod yX9_layLike, Cond.selects RX9 yX9_layLike yX9_layLike, Cond.code yX9_layLike cX9_layLike 4 none, Cond.methodLink RL 74 yX8_take, Cond.instanceMethod yX8_take, Cond.selects RX8 yX8_take yX8_take, Cond.code yX8_take cX8_take 2 (some .int), Cond.methodLink RX8 192 yX5_remove, Cond.instanceMethod yX5_remove, Cond.selects RX5 yX5_remove yX5_remove, Cond.code yX5_remove cX5_remove 3 none, Cond.methodLink RX5 38 yX5_putOver, Cond.methodLink RX8 196 yX4_loseSet, Cond.instanceMethod yX4_loseSet, Cond.selects RX4 yX4_loseSet yX4_loseSet, Cond.code yX4_loseSet cX4_loseSet 3 none, Cond.methodLink RL 77 yX9_take, Cond.instanceMethod yX9_take, Cond.selects RX9 yX9_take yX9_take, Cond.code yX9_take cX9_take 3 (some .int), Cond.methodLink RL 78 yX8_change, Cond.instanceMethod yX8_change, Cond.selects RX8 yX8_change yX8_change, Cond.code yX8_change cX8_change 4 (some .int)]
def wsL_law_r35 : List Cond := [Cond.methodLink RL 81 yX9_change, Cond.instanceMethod yX9_change, Cond.selects RX9 yX9_change yX9_change, Cond.code yX9_change cX9_change 4 (some .int), Cond.methodLink RL 82 yX8_swap, Cond.instanceMethod yX8_swap, Cond.selects RX8 yX8_swap yX8_swap, Cond.code yX8_swap cX8_swap 3 (some .int), Cond.fieldLink RX8 202 "SoundLaws$Study" "changesOfAll" "I", Cond.methodLink RX8 199 yX5_exchange, Cond.instanceMethod yX5_exchange, Cond.selects RX5 yX5_exchange yX5_exchange, Cond.code yX5_exchange cX5_exchange 8 none, Cond.methodLink RL 85 yX9_swap, Cond.instanceMethod yX9_swap, Cond.selects RX9 yX9_swap yX9_swap, Cond.code yX9_swap cX9_swap 7 (some .int), Cond.methodLink RX9 268 yX9_changesAll, Cond.instanceMethod yX9_changesAll, Cond.selects RX9 yX9_changesAll yX9_changesAll, Cond.code yX9_changesAll cX9_changesAll 3 (some .int), Cond.methodLink RL 86 yX8_see, Cond.instanceMethod yX8_see, Cond.selects RX8 yX8_see yX8_see]
def wsL_law_r36 : List Cond := [Cond.code yX8_see cX8_see 4 (some .int), Cond.fieldLink RX8 205 "SoundLaws$Sightings" "size" "I", Cond.methodLink RX8 206 yX4_add, Cond.instanceMethod yX4_add, Cond.selects RX4 yX4_add yX4_add, Cond.code yX4_add cX4_add 4 none, Cond.methodLink RL 90 yX9_see, Cond.instanceMethod yX9_see, Cond.selects RX9 yX9_see yX9_see, Cond.code yX9_see cX9_see 4 (some .int), Cond.methodLink RL 91 yX8_forget, Cond.instanceMethod yX8_forget, Cond.selects RX8 yX8_forget yX8_forget, Cond.code yX8_forget cX8_forget 2 (some .int), Cond.methodLink RL 94 yX9_forget, Cond.instanceMethod yX9_forget, Cond.selects RX9 yX9_forget yX9_forget, Cond.code yX9_forget cX9_forget 2 (some .int), Cond.methodLink RL 95 yX8_drawn, Cond.instanceMethod yX8_drawn, Cond.selects RX8 yX8_drawn yX8_drawn, Cond.code yX8_drawn cX8_drawn 4 (some .int), Cond.fieldLink RX8 213 "SoundLaws$Draws" "changes" "I", Cond.fieldLink RX8 216 "SoundLaws$Draws" "foreign" "I"]
def wsL_law_r37 : List Cond := [Cond.fieldLink RX8 219 "SoundLaws$Draws" "seed" "I", Cond.methodLink RX8 210 yX1_drawSets, Cond.instanceMethod yX1_drawSets, Cond.selects RX1 yX1_drawSets yX1_drawSets, Cond.code yX1_drawSets cX1_drawSets 5 none, Cond.fieldLink RX1 18 "SoundLaws$Draws" "seed" "I", Cond.fieldLink RX1 22 "SoundLaws$Draws" "changes" "I", Cond.fieldLink RX1 25 "SoundLaws$Draws" "foreign" "I", Cond.fieldLink RX1 32 "SoundLaws$Tree" "sounds" "[I", Cond.methodLink RX1 28 yX7_plant, Cond.methodLink RX1 36 yX1_drawSound, Cond.instanceMethod yX1_drawSound, Cond.selects RX1 yX1_drawSound yX1_drawSound, Cond.code yX1_drawSound cX1_drawSound 1 (some .int), Cond.constantLong RX1 50 (1103515245), Cond.constantLong RX1 52 (12345), Cond.constantLong RX1 54 (2147483648), Cond.constant RX1 56 (65536), Cond.methodLink RX1 40 yX7_climb, Cond.methodLink RX1 43 yX7_root, Cond.methodLink RX1 46 yX1_isForeign, Cond.instanceMethod yX1_isForeign, Cond.selects RX1 yX1_isForeign yX1_isForeign, Cond.code yX1_isForeign cX1_isForeign 3 (some .boolean)]
def wsL_law_r38 : List Cond := [Cond.methodLink RL 98 yX9_drawn, Cond.instanceMethod yX9_drawn, Cond.selects RX9 yX9_drawn yX9_drawn, Cond.code yX9_drawn cX9_drawn 9 (some .int), Cond.constantLong RX9 287 (40), Cond.fieldLink RX9 279 "SoundLawsModel" "seedNow" "I", Cond.methodLink RX9 289 yX9_draw, Cond.instanceMethod yX9_draw, Cond.selects RX9 yX9_draw yX9_draw, Cond.code yX9_draw cX9_draw 2 (some .int), Cond.constantLong RX9 277 (1103515245), Cond.constantLong RX9 282 (12345), Cond.constantLong RX9 284 (2147483647), Cond.constant RX9 286 (65536), Cond.methodLink RL 99 yX8_image, Cond.instanceMethod yX8_image, Cond.selects RX8 yX8_image yX8_image, Cond.code yX8_image cX8_image 1 (some .int), Cond.methodLink RX8 222 yX4_become, Cond.instanceMethod yX4_become, Cond.selects RX4 yX4_become yX4_become, Cond.code yX4_become cX4_become 3 none, Cond.methodLink RX4 26 yX4_add, Cond.methodLink RL 102 yX9_image]
def wsL_law_r39 : List Cond := [Cond.instanceMethod yX9_image, Cond.selects RX9 yX9_image yX9_image, Cond.code yX9_image cX9_image 1 (some .int), Cond.fieldLink RX9 299 "SoundLawsModel" "keptMany" "I", Cond.fieldLink RX9 302 "SoundLawsModel" "keptTongues" "I", Cond.fieldLink RX9 305 "SoundLawsModel" "keptSeen" "I", Cond.methodLink RX9 292 yX9_lacks, Cond.instanceMethod yX9_lacks, Cond.selects RX9 yX9_lacks yX9_lacks, Cond.code yX9_lacks cX9_lacks 1 (some .boolean), Cond.methodLink RX9 295 yX9_copyRow, Cond.static yX9_copyRow, Cond.code yX9_copyRow cX9_copyRow 3 none, Cond.methodLink RL 103 yX8_restore, Cond.instanceMethod yX8_restore, Cond.selects RX8 yX8_restore yX8_restore, Cond.code yX8_restore cX8_restore 1 (some .int), Cond.methodLink RL 106 yX9_restore, Cond.instanceMethod yX9_restore, Cond.selects RX9 yX9_restore yX9_restore, Cond.code yX9_restore cX9_restore 1 (some .int), Cond.methodLink RL 107 yX8_count, Cond.instanceMethod yX8_count, Cond.selects RX8 yX8_count yX8_count]
def wsL_law_r40 : List Cond := [Cond.code yX8_count cX8_count 2 (some .int), Cond.methodLink RX8 225 yX8_tellOfAll, Cond.instanceMethod yX8_tellOfAll, Cond.selects RX8 yX8_tellOfAll yX8_tellOfAll, Cond.code yX8_tellOfAll cX8_tellOfAll 2 (some .int), Cond.fieldLink RX8 278 "SoundLaws$Laws" "known" "I", Cond.fieldLink RX8 281 "SoundLaws$Laws" "exceptionsOfAll" "I", Cond.methodLink RX8 284 yX6_borrowedWords, Cond.instanceMethod yX6_borrowedWords, Cond.selects RX6 yX6_borrowedWords yX6_borrowedWords, Cond.code yX6_borrowedWords cX6_borrowedWords 4 (some .int), Cond.methodLink RX6 78 yX6_borrowedTongues, Cond.methodLink RX6 82 yJ6_bitCount_0f7a4, Cond.methodLink RL 110 yX9_count, Cond.instanceMethod yX9_count, Cond.selects RX9 yX9_count yX9_count, Cond.code yX9_count cX9_count 2 (some .int), Cond.methodLink RX9 318 yX9_countOf, Cond.instanceMethod yX9_countOf, Cond.selects RX9 yX9_countOf yX9_countOf, Cond.code yX9_countOf cX9_countOf 2 (some .int), Cond.methodLink RX9 315 yX9_countSets, Cond.instanceMethod yX9_countSets, Cond.selects RX9 yX9_countSets yX9_countSets]
def wsL_law_r41 : List Cond := [Cond.code yX9_countSets cX9_countSets 2 (some .int), Cond.methodLink RX9 308 yX9_sumLaws, Cond.instanceMethod yX9_sumLaws, Cond.selects RX9 yX9_sumLaws yX9_sumLaws, Cond.code yX9_sumLaws cX9_sumLaws 4 (some .int), Cond.methodLink RX9 312 yX9_borrowedAll, Cond.instanceMethod yX9_borrowedAll, Cond.selects RX9 yX9_borrowedAll yX9_borrowedAll, Cond.code yX9_borrowedAll cX9_borrowedAll 3 (some .int), Cond.methodLink RL 111 yX8_digest, Cond.instanceMethod yX8_digest, Cond.selects RX8 yX8_digest yX8_digest, Cond.code yX8_digest cX8_digest 4 (some .long), Cond.constantLong RX8 228 (1459), Cond.methodLink RX8 230 yX8_digestSet, Cond.instanceMethod yX8_digestSet, Cond.selects RX8 yX8_digestSet yX8_digestSet, Cond.code yX8_digestSet cX8_digestSet 9 (some .long), Cond.methodLink RX8 240 yX8_mixed, Cond.static yX8_mixed, Cond.code yX8_mixed cX8_mixed 3 (some .long), Cond.constantLong RX8 246 (31), Cond.methodLink RX8 237 yX8_digestLaws, Cond.instanceMethod yX8_digestLaws]
def wsL_law_r42 : List Cond := [Cond.selects RX8 yX8_digestLaws yX8_digestLaws, Cond.code yX8_digestLaws cX8_digestLaws 10 (some .long), Cond.methodLink RL 115 yX9_digest, Cond.instanceMethod yX9_digest, Cond.selects RX9 yX9_digest yX9_digest, Cond.code yX9_digest cX9_digest 2 (some .long), Cond.constantLong RX9 331 (1459), Cond.fieldLink RX9 323 "SoundLawsModel" "hash" "J", Cond.methodLink RX9 333 yX9_saySet, Cond.instanceMethod yX9_saySet, Cond.selects RX9 yX9_saySet yX9_saySet, Cond.code yX9_saySet cX9_saySet 4 none, Cond.methodLink RX9 327 yX9_note, Cond.instanceMethod yX9_note, Cond.selects RX9 yX9_note yX9_note, Cond.code yX9_note cX9_note 3 none, Cond.constantLong RX9 321 (31)]
def wsL_law : List Cond := (wsL_law_r1 ++ (wsL_law_r2 ++ (wsL_law_r3 ++ (wsL_law_r4 ++ (wsL_law_r5 ++ (wsL_law_r6 ++ (wsL_law_r7 ++ (wsL_law_r8 ++ (wsL_law_r9 ++ (wsL_law_r10 ++ (wsL_law_r11 ++ (wsL_law_r12 ++ (wsL_law_r13 ++ (wsL_law_r14 ++ (wsL_law_r15 ++ (wsL_law_r16 ++ (wsL_law_r17 ++ (wsL_law_r18 ++ (wsL_law_r19 ++ (wsL_law_r20 ++ (wsL_law_r21 ++ (wsL_law_r22 ++ (wsL_law_r23 ++ (wsL_law_r24 ++ (wsL_law_r25 ++ (wsL_law_r26 ++ (wsL_law_r27 ++ (wsL_law_r28 ++ (wsL_law_r29 ++ (wsL_law_r30 ++ (wsL_law_r31 ++ (wsL_law_r32 ++ (wsL_law_r33 ++ (wsL_law_r34 ++ (wsL_law_r35 ++ (wsL_law_r36 ++ (wsL_law_r37 ++ (wsL_law_r38 ++ (wsL_law_r39 ++ (wsL_law_r40 ++ (wsL_law_r41 ++ wsL_law_r42))))))))))))))))))))))))))))))))))))))))) ++ wsX80 ++ wsX90 ++ wsX30 ++ wsX50 ++ wsX40 ++ wsX60 ++ wsX00 ++ wsX10 ++ wsX20 ++ wsX70 ++ ([] : List Cond)
theorem mem_r {big : List Cond} (ws : List Cond) (ps : List Nat) (hp : ws = ps.filterMap (fun i => big[i]?)) : ∀ w ∈ ws, w ∈ big := by
  intro w hw
  rw [hp] at hw
  obtain ⟨i, -, hi⟩ := List.mem_filterMap.mp hw
  exact List.mem_of_getElem? hi
set_option maxRecDepth 20000 in
theorem wsL_law_r1_in : ∀ w ∈ wsL_law_r1, w ∈ lw_tbl := mem_r _ [91, 92, 72, 866, 867, 81, 93, 94, 95, 96, 97, 98, 142, 312, 99, 100, 73, 314, 166, 106, 74, 316, 168, 169] (by decide +kernel)
set_option maxRecDepth 20000 in
theorem wsL_law_r2_in : ∀ w ∈ wsL_law_r2, w ∈ lw_tbl := mem_r _ [75, 317, 189, 190, 76, 318, 320, 321, 266, 267, 79, 323, 288, 289, 80, 324, 102, 103, 104, 105, 143, 108, 109, 110] (by decide +kernel)
set_option maxRecDepth 20000 in
theorem wsL_law_r3_in : ∀ w ∈ wsL_law_r3, w ∈ lw_tbl := mem_r _ [119, 123, 127, 171, 172, 173, 176, 177, 188, 178, 192, 193, 194, 242, 244, 246, 195, 196, 77, 248, 224, 225, 78, 252] (by decide +kernel)
set_option maxRecDepth 20000 in
theorem wsL_law_r4_in : ∀ w ∈ wsL_law_r4, w ∈ lw_tbl := mem_r _ [198, 199, 200, 201, 204, 205, 210, 227, 228, 229, 231, 234, 269, 270, 271, 272, 273, 276, 291, 292, 293, 294, 302, 868] (by decide +kernel)
set_option maxRecDepth 20000 in
theorem wsL_law_r5_in : ∀ w ∈ wsL_law_r5, w ∈ lw_tbl := mem_r _ [869, 870, 871, 872, 879, 880, 881, 885, 886, 887, 889, 890, 891, 892, 893, 894, 895, 896, 897, 898, 899, 900, 902, 908] (by decide +kernel)
set_option maxRecDepth 20000 in
theorem wsL_law_r6_in : ∀ w ∈ wsL_law_r6, w ∈ lw_tbl := mem_r _ [909, 910, 911, 904, 352, 353, 354, 355, 313, 996, 997, 998, 999, 1000, 873, 1001, 1002, 1003, 356, 357, 358, 359, 1004, 1005] (by decide +kernel)
set_option maxRecDepth 20000 in
theorem wsL_law_r7_in : ∀ w ∈ wsL_law_r7, w ∈ lw_tbl := mem_r _ [1006, 1007, 360, 361, 362, 363, 364, 366, 0, 367, 368, 369, 370, 371, 112, 117, 145, 150, 372, 373, 374, 375, 377, 378] (by decide +kernel)
set_option maxRecDepth 20000 in
theorem wsL_law_r8_in : ∀ w ∈ wsL_law_r8, w ∈ lw_tbl := mem_r _ [379, 82, 380, 381, 382, 383, 384, 1310, 385, 386, 387, 388, 389, 1309, 391, 392, 393, 394, 395, 396, 397, 398, 399, 400] (by decide +kernel)
set_option maxRecDepth 20000 in
theorem wsL_law_r9_in : ∀ w ∈ wsL_law_r9, w ∈ lw_tbl := mem_r _ [83, 401, 405, 406, 84, 407, 408, 409, 410, 402, 403, 404, 411, 412, 413, 414, 415, 85, 416, 417, 418, 419, 420, 421] (by decide +kernel)
set_option maxRecDepth 20000 in
theorem wsL_law_r10_in : ∀ w ∈ wsL_law_r10, w ∈ lw_tbl := mem_r _ [422, 423, 424, 425, 426, 427, 428, 429, 430, 431, 432, 434, 435, 86, 436, 437, 438, 439, 440, 441, 442, 443, 445, 447] (by decide +kernel)
set_option maxRecDepth 20000 in
theorem wsL_law_r11_in : ∀ w ∈ wsL_law_r11, w ∈ lw_tbl := mem_r _ [449, 450, 451, 452, 453, 87, 454, 455, 456, 457, 458, 459, 460, 461, 462, 463, 465, 1, 466, 146, 120, 147, 467, 469] (by decide +kernel)
set_option maxRecDepth 20000 in
theorem wsL_law_r12_in : ∀ w ∈ wsL_law_r12, w ∈ lw_tbl := mem_r _ [2, 470, 148, 149, 471, 473, 3, 474, 475, 477, 4, 478, 125, 479, 481, 5, 482, 483, 485, 6, 486, 487, 489, 7] (by decide +kernel)
set_option maxRecDepth 20000 in
theorem wsL_law_r13_in : ∀ w ∈ wsL_law_r13, w ∈ lw_tbl := mem_r _ [490, 492, 494, 8, 495, 128, 497, 498, 1008, 1009, 1010, 1011, 1012, 1014, 28, 1015, 874, 875, 878, 1016, 1018, 29, 1019, 1020] (by decide +kernel)
set_option maxRecDepth 20000 in
theorem wsL_law_r14_in : ∀ w ∈ wsL_law_r14, w ∈ lw_tbl := mem_r _ [1022, 30, 1023, 876, 877, 1024, 1025, 1026, 1027, 1029, 31, 1030, 1031, 1033, 32, 1034, 1035, 1037, 33, 1038, 1039, 1041, 34, 1042] (by decide +kernel)
set_option maxRecDepth 20000 in
theorem wsL_law_r15_in : ∀ w ∈ wsL_law_r15, w ∈ lw_tbl := mem_r _ [1043, 1045, 35, 1046, 1047, 1048, 1049, 500, 501, 502, 503, 144, 322, 319, 315, 114, 504, 505, 506, 507, 508, 509, 510, 511] (by decide +kernel)
set_option maxRecDepth 20000 in
theorem wsL_law_r16_in : ∀ w ∈ wsL_law_r16, w ∈ lw_tbl := mem_r _ [111, 116, 512, 514, 513, 88, 515, 516, 517, 518, 174, 1050, 1051, 1052, 1053, 882, 883, 888, 901, 884, 1054, 1056, 36, 1057] (by decide +kernel)
set_option maxRecDepth 20000 in
theorem wsL_law_r17_in : ∀ w ∈ wsL_law_r17, w ∈ lw_tbl := mem_r _ [519, 520, 521, 522, 523, 525, 9, 526, 527, 529, 10, 530, 531, 532, 533, 534, 115, 250, 113, 535, 536, 537, 538, 230] (by decide +kernel)
set_option maxRecDepth 20000 in
theorem wsL_law_r18_in : ∀ w ∈ wsL_law_r18, w ∈ lw_tbl := mem_r _ [539, 541, 11, 542, 121, 124, 233, 129, 586, 546, 547, 548, 549, 551, 552, 553, 555, 12, 556, 561, 563, 13, 564, 567] (by decide +kernel)
set_option maxRecDepth 20000 in
theorem wsL_law_r19_in : ∀ w ∈ wsL_law_r19, w ∈ lw_tbl := mem_r _ [568, 569, 570, 571, 572, 573, 574, 575, 577, 14, 578, 580, 581, 582, 584, 585, 587, 588, 589, 590, 591, 592, 89, 593] (by decide +kernel)
set_option maxRecDepth 20000 in
theorem wsL_law_r20_in : ∀ w ∈ wsL_law_r20, w ∈ lw_tbl := mem_r _ [594, 596, 15, 597, 600, 601, 602, 603, 606, 607, 609, 610, 611, 612, 613, 614, 615, 616, 617, 618, 206, 208, 619, 621] (by decide +kernel)
set_option maxRecDepth 20000 in
theorem wsL_law_r21_in : ∀ w ∈ wsL_law_r21, w ∈ lw_tbl := mem_r _ [16, 622, 623, 625, 17, 626, 202, 627, 629, 18, 630, 122, 126, 245, 631, 632, 633, 634, 635, 636, 637, 638, 639, 640] (by decide +kernel)
set_option maxRecDepth 20000 in
theorem wsL_law_r22_in : ∀ w ∈ wsL_law_r22, w ∈ lw_tbl := mem_r _ [641, 642, 643, 644, 645, 646, 647, 648, 651, 652, 653, 654, 662, 655, 656, 657, 90, 658, 659, 660, 661, 1164, 1165, 1166] (by decide +kernel)
set_option maxRecDepth 20000 in
theorem wsL_law_r23_in : ∀ w ∈ wsL_law_r23, w ∈ lw_tbl := mem_r _ [1167, 1136, 1138, 49, 1139, 1168, 1170, 54, 1171, 1079, 1081, 38, 1082, 1083, 1085, 39, 1086, 1087, 1089, 40, 1090, 1091, 1093, 41] (by decide +kernel)
set_option maxRecDepth 20000 in
theorem wsL_law_r24_in : ∀ w ∈ wsL_law_r24, w ∈ lw_tbl := mem_r _ [1094, 1095, 1097, 42, 1098, 1099, 1101, 43, 1102, 1103, 1104, 1105, 1106, 1108, 44, 1109, 1063, 1064, 1065, 1066, 1067, 1068, 1069, 1110] (by decide +kernel)
set_option maxRecDepth 20000 in
theorem wsL_law_r25_in : ∀ w ∈ wsL_law_r25, w ∈ lw_tbl := mem_r _ [1111, 1112, 1113, 1115, 45, 1116, 1117, 1119, 46, 1120, 1121, 1123, 47, 1124, 1125, 1126, 1127, 1128, 1130, 48, 1131, 1172, 1174, 55] (by decide +kernel)
set_option maxRecDepth 20000 in
theorem wsL_law_r26_in : ∀ w ∈ wsL_law_r26, w ∈ lw_tbl := mem_r _ [1175, 1140, 1142, 50, 1143, 1144, 1146, 51, 1147, 1176, 1178, 56, 1179, 1180, 1182, 57, 1183, 1184, 1186, 58, 1187, 1188, 1189, 1190] (by decide +kernel)
set_option maxRecDepth 20000 in
theorem wsL_law_r27_in : ∀ w ∈ wsL_law_r27, w ∈ lw_tbl := mem_r _ [1191, 1193, 59, 1194, 1195, 1196, 1197, 663, 664, 665, 666, 667, 668, 669, 670, 671, 672, 1198, 1199, 1200, 1201, 1202, 673, 674] (by decide +kernel)
set_option maxRecDepth 20000 in
theorem wsL_law_r28_in : ∀ w ∈ wsL_law_r28, w ∈ lw_tbl := mem_r _ [675, 676, 677, 679, 19, 680, 118, 681, 682, 684, 20, 685, 686, 688, 21, 689, 130, 691, 243, 690, 692, 1203, 1204, 1205] (by decide +kernel)
set_option maxRecDepth 20000 in
theorem wsL_law_r29_in : ∀ w ∈ wsL_law_r29, w ∈ lw_tbl := mem_r _ [1206, 1152, 1154, 52, 1155, 693, 694, 695, 696, 249, 697, 699, 22, 700, 701, 702, 703, 704, 705, 706, 707, 708, 1070, 1071] (by decide +kernel)
set_option maxRecDepth 20000 in
theorem wsL_law_r30_in : ∀ w ∈ wsL_law_r30, w ∈ lw_tbl := mem_r _ [1072, 1073, 1062, 1078, 1074, 1076, 37, 1077, 709, 710, 711, 712, 247, 1132, 1133, 1134, 1135, 713, 714, 715, 716, 203, 717, 718] (by decide +kernel)
set_option maxRecDepth 20000 in
theorem wsL_law_r31_in : ∀ w ∈ wsL_law_r31, w ∈ lw_tbl := mem_r _ [1148, 1149, 1150, 1151, 719, 720, 721, 722, 723, 724, 725, 726, 274, 727, 728, 729, 730, 731, 732, 733, 275, 734, 735, 736] (by decide +kernel)
set_option maxRecDepth 20000 in
theorem wsL_law_r32_in : ∀ w ∈ wsL_law_r32, w ∈ lw_tbl := mem_r _ [737, 739, 1156, 1157, 1158, 1159, 1160, 1162, 53, 1163, 740, 741, 742, 743, 744, 1058, 1059, 1060, 1061, 745, 746, 747, 748, 749] (by decide +kernel)
set_option maxRecDepth 20000 in
theorem wsL_law_r33_in : ∀ w ∈ wsL_law_r33, w ∈ lw_tbl := mem_r _ [750, 751, 752, 1207, 1208, 1209, 1210, 1211, 1213, 60, 1214, 754, 755, 756, 757, 758, 759, 760, 761, 1215, 1216, 1217, 1218, 1219] (by decide +kernel)
set_option maxRecDepth 20000 in
theorem wsL_law_r34_in : ∀ w ∈ wsL_law_r34, w ∈ lw_tbl := mem_r _ [1221, 61, 1222, 762, 763, 764, 765, 766, 767, 768, 769, 770, 771, 772, 773, 774, 1223, 1224, 1225, 1226, 775, 776, 777, 778] (by decide +kernel)
set_option maxRecDepth 20000 in
theorem wsL_law_r35_in : ∀ w ∈ wsL_law_r35, w ∈ lw_tbl := mem_r _ [1227, 1228, 1229, 1230, 779, 780, 781, 782, 251, 783, 784, 785, 786, 1231, 1232, 1233, 1234, 1235, 1237, 62, 1238, 787, 788, 789] (by decide +kernel)
set_option maxRecDepth 20000 in
theorem wsL_law_r36_in : ∀ w ∈ wsL_law_r36, w ∈ lw_tbl := mem_r _ [790, 175, 791, 792, 793, 794, 1239, 1240, 1241, 1242, 795, 796, 797, 798, 1243, 1244, 1245, 1246, 799, 800, 801, 802, 299, 301] (by decide +kernel)
set_option maxRecDepth 20000 in
theorem wsL_law_r37_in : ∀ w ∈ wsL_law_r37, w ∈ lw_tbl := mem_r _ [297, 803, 804, 805, 806, 296, 298, 300, 232, 807, 808, 810, 23, 811, 812, 813, 814, 815, 816, 817, 818, 820, 24, 821] (by decide +kernel)
set_option maxRecDepth 20000 in
theorem wsL_law_r38_in : ∀ w ∈ wsL_law_r38, w ∈ lw_tbl := mem_r _ [1247, 1248, 1249, 1250, 1251, 903, 1252, 1254, 63, 1255, 1256, 1257, 1258, 1259, 822, 823, 824, 825, 826, 827, 828, 829, 830, 1260] (by decide +kernel)
set_option maxRecDepth 20000 in
theorem wsL_law_r39_in : ∀ w ∈ wsL_law_r39, w ∈ lw_tbl := mem_r _ [1261, 1262, 1263, 905, 906, 907, 1264, 1266, 64, 1267, 1268, 1269, 1270, 831, 832, 833, 834, 1271, 1272, 1273, 1274, 835, 836, 837] (by decide +kernel)
set_option maxRecDepth 20000 in
theorem wsL_law_r40_in : ∀ w ∈ wsL_law_r40, w ∈ lw_tbl := mem_r _ [838, 839, 841, 25, 842, 207, 209, 843, 844, 845, 846, 847, 848, 1275, 1276, 1277, 1278, 1279, 1281, 65, 1282, 1283, 1285, 66] (by decide +kernel)
set_option maxRecDepth 20000 in
theorem wsL_law_r41_in : ∀ w ∈ wsL_law_r41, w ∈ lw_tbl := mem_r _ [1286, 1287, 1289, 67, 1290, 1291, 1293, 68, 1294, 849, 850, 851, 852, 853, 854, 856, 26, 857, 858, 859, 860, 861, 862, 864] (by decide +kernel)
set_option maxRecDepth 20000 in
theorem wsL_law_r42_in : ∀ w ∈ wsL_law_r42, w ∈ lw_tbl := mem_r _ [27, 865, 1295, 1296, 1297, 1298, 1299, 912, 1300, 1302, 69, 1303, 1304, 1306, 70, 1307, 1308] (by decide +kernel)
set_option maxRecDepth 20000 in
theorem wsX00_in : ∀ w ∈ wsX00, w ∈ lw_tbl := mem_r _ [277, 279, 281, 283, 285] (by decide +kernel)
set_option maxRecDepth 20000 in
theorem wsX10_in : ∀ w ∈ wsX10, w ∈ lw_tbl := mem_r _ [303, 305, 307, 309] (by decide +kernel)
set_option maxRecDepth 20000 in
theorem wsX20_in : ∀ w ∈ wsX20, w ∈ lw_tbl := mem_r _ [211, 213, 215, 217, 219, 221] (by decide +kernel)
set_option maxRecDepth 20000 in
theorem wsX30_in : ∀ w ∈ wsX30, w ∈ lw_tbl := mem_r _ [151, 153, 155, 157, 159, 161, 163] (by decide +kernel)
set_option maxRecDepth 20000 in
theorem wsX40_in : ∀ w ∈ wsX40, w ∈ lw_tbl := mem_r _ [179, 181, 183, 185] (by decide +kernel)
set_option maxRecDepth 20000 in
theorem wsX50_in : ∀ w ∈ wsX50, w ∈ lw_tbl := mem_r _ [131, 133, 135, 137, 139] (by decide +kernel)
set_option maxRecDepth 20000 in
theorem wsX60_in : ∀ w ∈ wsX60, w ∈ lw_tbl := mem_r _ [253, 255, 257, 259, 261, 263] (by decide +kernel)
set_option maxRecDepth 20000 in
theorem wsX70_in : ∀ w ∈ wsX70, w ∈ lw_tbl := mem_r _ [235, 237, 239] (by decide +kernel)
set_option maxRecDepth 20000 in
theorem wsX80_in : ∀ w ∈ wsX80, w ∈ lw_tbl := mem_r _ [325, 327, 329, 331, 333, 335, 337, 339, 341, 343, 345, 347, 349] (by decide +kernel)
set_option maxRecDepth 20000 in
theorem wsX90_in : ∀ w ∈ wsX90, w ∈ lw_tbl := mem_r _ [913, 915, 917, 919, 921, 923, 925, 927, 929, 931, 933, 935, 937, 939, 941, 943, 945, 947, 949, 951, 953, 955, 957, 959, 961, 963, 965, 967, 969, 971, 973, 975, 977, 979, 981, 983, 985, 987, 989, 991, 993] (by decide +kernel)
theorem wsL_law_in : ∀ w ∈ wsL_law, w ∈ lw_tbl := by
  unfold wsL_law
  exact List.forall_mem_append.mpr ⟨List.forall_mem_append.mpr ⟨List.forall_mem_append.mpr ⟨List.forall_mem_append.mpr ⟨List.forall_mem_append.mpr ⟨List.forall_mem_append.mpr ⟨List.forall_mem_append.mpr ⟨List.forall_mem_append.mpr ⟨List.forall_mem_append.mpr ⟨List.forall_mem_append.mpr ⟨List.forall_mem_append.mpr ⟨List.forall_mem_append.mpr ⟨wsL_law_r1_in, List.forall_mem_append.mpr ⟨wsL_law_r2_in, List.forall_mem_append.mpr ⟨wsL_law_r3_in, List.forall_mem_append.mpr ⟨wsL_law_r4_in, List.forall_mem_append.mpr ⟨wsL_law_r5_in, List.forall_mem_append.mpr ⟨wsL_law_r6_in, List.forall_mem_append.mpr ⟨wsL_law_r7_in, List.forall_mem_append.mpr ⟨wsL_law_r8_in, List.forall_mem_append.mpr ⟨wsL_law_r9_in, List.forall_mem_append.mpr ⟨wsL_law_r10_in, List.forall_mem_append.mpr ⟨wsL_law_r11_in, List.forall_mem_append.mpr ⟨wsL_law_r12_in, List.forall_mem_append.mpr ⟨wsL_law_r13_in, List.forall_mem_append.mpr ⟨wsL_law_r14_in, List.forall_mem_append.mpr ⟨wsL_law_r15_in, List.forall_mem_append.mpr ⟨wsL_law_r16_in, List.forall_mem_append.mpr ⟨wsL_law_r17_in, List.forall_mem_append.mpr ⟨wsL_law_r18_in, List.forall_mem_append.mpr ⟨wsL_law_r19_in, List.forall_mem_append.mpr ⟨wsL_law_r20_in, List.forall_mem_append.mpr ⟨wsL_law_r21_in, List.forall_mem_append.mpr ⟨wsL_law_r22_in, List.forall_mem_append.mpr ⟨wsL_law_r23_in, List.forall_mem_append.mpr ⟨wsL_law_r24_in, List.forall_mem_append.mpr ⟨wsL_law_r25_in, List.forall_mem_append.mpr ⟨wsL_law_r26_in, List.forall_mem_append.mpr ⟨wsL_law_r27_in, List.forall_mem_append.mpr ⟨wsL_law_r28_in, List.forall_mem_append.mpr ⟨wsL_law_r29_in, List.forall_mem_append.mpr ⟨wsL_law_r30_in, List.forall_mem_append.mpr ⟨wsL_law_r31_in, List.forall_mem_append.mpr ⟨wsL_law_r32_in, List.forall_mem_append.mpr ⟨wsL_law_r33_in, List.forall_mem_append.mpr ⟨wsL_law_r34_in, List.forall_mem_append.mpr ⟨wsL_law_r35_in, List.forall_mem_append.mpr ⟨wsL_law_r36_in, List.forall_mem_append.mpr ⟨wsL_law_r37_in, List.forall_mem_append.mpr ⟨wsL_law_r38_in, List.forall_mem_append.mpr ⟨wsL_law_r39_in, List.forall_mem_append.mpr ⟨wsL_law_r40_in, List.forall_mem_append.mpr ⟨wsL_law_r41_in, wsL_law_r42_in⟩⟩⟩⟩⟩⟩⟩⟩⟩⟩⟩⟩⟩⟩⟩⟩⟩⟩⟩⟩⟩⟩⟩⟩⟩⟩⟩⟩⟩⟩⟩⟩⟩⟩⟩⟩⟩⟩⟩⟩⟩, wsX80_in⟩, wsX90_in⟩, wsX30_in⟩, wsX50_in⟩, wsX40_in⟩, wsX60_in⟩, wsX00_in⟩, wsX10_in⟩, wsX20_in⟩, wsX70_in⟩, (fun _ h => absurd h List.not_mem_nil)⟩
theorem inlX0 : ∀ w ∈ wsX00, w ∈ wsL_law := fun _ h => List.mem_append_left _ (List.mem_append_left _ (List.mem_append_left _ (List.mem_append_left _ (List.mem_append_right _ h))))
theorem inX0 : ∀ w ∈ wsX00, w ∈ lw_tbl := fun w h => wsL_law_in w (inlX0 w h)
theorem inlX1 : ∀ w ∈ wsX10, w ∈ wsL_law := fun _ h => List.mem_append_left _ (List.mem_append_left _ (List.mem_append_left _ (List.mem_append_right _ h)))
theorem inX1 : ∀ w ∈ wsX10, w ∈ lw_tbl := fun w h => wsL_law_in w (inlX1 w h)
theorem inlX2 : ∀ w ∈ wsX20, w ∈ wsL_law := fun _ h => List.mem_append_left _ (List.mem_append_left _ (List.mem_append_right _ h))
theorem inX2 : ∀ w ∈ wsX20, w ∈ lw_tbl := fun w h => wsL_law_in w (inlX2 w h)
theorem inlX3 : ∀ w ∈ wsX30, w ∈ wsL_law := fun _ h => List.mem_append_left _ (List.mem_append_left _ (List.mem_append_left _ (List.mem_append_left _ (List.mem_append_left _ (List.mem_append_left _ (List.mem_append_left _ (List.mem_append_left _ (List.mem_append_right _ h))))))))
theorem inX3 : ∀ w ∈ wsX30, w ∈ lw_tbl := fun w h => wsL_law_in w (inlX3 w h)
theorem inlX4 : ∀ w ∈ wsX40, w ∈ wsL_law := fun _ h => List.mem_append_left _ (List.mem_append_left _ (List.mem_append_left _ (List.mem_append_left _ (List.mem_append_left _ (List.mem_append_left _ (List.mem_append_right _ h))))))
theorem inX4 : ∀ w ∈ wsX40, w ∈ lw_tbl := fun w h => wsL_law_in w (inlX4 w h)
theorem inlX5 : ∀ w ∈ wsX50, w ∈ wsL_law := fun _ h => List.mem_append_left _ (List.mem_append_left _ (List.mem_append_left _ (List.mem_append_left _ (List.mem_append_left _ (List.mem_append_left _ (List.mem_append_left _ (List.mem_append_right _ h)))))))
theorem inX5 : ∀ w ∈ wsX50, w ∈ lw_tbl := fun w h => wsL_law_in w (inlX5 w h)
theorem inlX6 : ∀ w ∈ wsX60, w ∈ wsL_law := fun _ h => List.mem_append_left _ (List.mem_append_left _ (List.mem_append_left _ (List.mem_append_left _ (List.mem_append_left _ (List.mem_append_right _ h)))))
theorem inX6 : ∀ w ∈ wsX60, w ∈ lw_tbl := fun w h => wsL_law_in w (inlX6 w h)
theorem inlX7 : ∀ w ∈ wsX70, w ∈ wsL_law := fun _ h => List.mem_append_left _ (List.mem_append_right _ h)
theorem inX7 : ∀ w ∈ wsX70, w ∈ lw_tbl := fun w h => wsL_law_in w (inlX7 w h)
theorem inlX8 : ∀ w ∈ wsX80, w ∈ wsL_law := fun _ h => List.mem_append_left _ (List.mem_append_left _ (List.mem_append_left _ (List.mem_append_left _ (List.mem_append_left _ (List.mem_append_left _ (List.mem_append_left _ (List.mem_append_left _ (List.mem_append_left _ (List.mem_append_left _ (List.mem_append_right _ h))))))))))
theorem inX8 : ∀ w ∈ wsX80, w ∈ lw_tbl := fun w h => wsL_law_in w (inlX8 w h)
theorem inlX9 : ∀ w ∈ wsX90, w ∈ wsL_law := fun _ h => List.mem_append_left _ (List.mem_append_left _ (List.mem_append_left _ (List.mem_append_left _ (List.mem_append_left _ (List.mem_append_left _ (List.mem_append_left _ (List.mem_append_left _ (List.mem_append_left _ (List.mem_append_right _ h)))))))))
theorem inX9 : ∀ w ∈ wsX90, w ∈ lw_tbl := fun w h => wsL_law_in w (inlX9 w h)
theorem inJx145de : ∀ w ∈ wsJx145de0, w ∈ lw_tbl := by decide +kernel
theorem inJx9f9b0 : ∀ w ∈ wsJx9f9b00, w ∈ lw_tbl := by decide +kernel
theorem inJ11 : ∀ w ∈ wsJ110, w ∈ lw_tbl := by decide +kernel
theorem inJxb160c : ∀ w ∈ wsJxb160c0, w ∈ lw_tbl := by decide +kernel
theorem inJ6 : ∀ w ∈ wsJ60, w ∈ lw_tbl := by decide +kernel
theorem inJ9 : ∀ w ∈ wsJ90, w ∈ lw_tbl := by decide +kernel
theorem inJ0 : ∀ w ∈ wsJ00, w ∈ lw_tbl := by decide +kernel
theorem inJ1 : ∀ w ∈ wsJ10, w ∈ lw_tbl := by decide +kernel
theorem inJ2 : ∀ w ∈ wsJ20, w ∈ lw_tbl := by decide +kernel
theorem inJ10 : ∀ w ∈ wsJ100, w ∈ lw_tbl := by decide +kernel
theorem inJxfd54e : ∀ w ∈ wsJxfd54e0, w ∈ lw_tbl := by decide +kernel
theorem inJx3cf43 : ∀ w ∈ wsJx3cf430, w ∈ lw_tbl := by decide +kernel
theorem inJ7 : ∀ w ∈ wsJ70, w ∈ lw_tbl := by decide +kernel
theorem inJ3 : ∀ w ∈ wsJ30, w ∈ lw_tbl := by decide +kernel
theorem dX0_init_0 : decode cX0_init 0 = .ok (.aload_n 0, 1) := by decide +kernel
theorem dX0_init_1 : decode cX0_init 1 = .ok (.invokespecial 3, 3) := by decide +kernel
theorem dX0_init_4 : decode cX0_init 4 = .ok (.aload_n 0, 1) := by decide +kernel
theorem dX0_init_5 : decode cX0_init 5 = .ok (.iconst 4, 1) := by decide +kernel
theorem dX0_init_6 : decode cX0_init 6 = .ok (.newarray .int, 2) := by decide +kernel
theorem dX0_init_8 : decode cX0_init 8 = .ok (.putfield 9, 3) := by decide +kernel
theorem dX0_init_11 : decode cX0_init 11 = .ok (.aload_n 0, 1) := by decide +kernel
theorem dX0_init_12 : decode cX0_init 12 = .ok (.iconst 4, 1) := by decide +kernel
theorem dX0_init_13 : decode cX0_init 13 = .ok (.newarray .int, 2) := by decide +kernel
theorem dX0_init_15 : decode cX0_init 15 = .ok (.putfield 15, 3) := by decide +kernel
theorem dX0_init_18 : decode cX0_init 18 = .ok (.aload_n 0, 1) := by decide +kernel
theorem dX0_init_19 : decode cX0_init 19 = .ok (.iconst 5, 1) := by decide +kernel
theorem dX0_init_20 : decode cX0_init 20 = .ok (.newarray .int, 2) := by decide +kernel
theorem dX0_init_22 : decode cX0_init 22 = .ok (.putfield 18, 3) := by decide +kernel
theorem dX0_init_25 : decode cX0_init 25 = .ok (.return_, 1) := by decide +kernel
set_option maxRecDepth 20000 in
theorem ggX0_readFirst_X0_readSounds : GoodIn wsX0_readFirst wsX0_readSounds := goodIn_r _ [6] (by decide +kernel) (by decide +kernel)
set_option maxRecDepth 20000 in
theorem gX0_readFirst_X0_readSounds : GoodIn wsX0_readFirst (va_wsS RX0 21 yX0_readSounds wsX0_readSounds) := goodIn_app (goodIn_of _ (by decide +kernel)) ggX0_readFirst_X0_readSounds
theorem dX0_readFirst_0 : decode cX0_readFirst 0 = .ok (.aload_n 0, 1) := by decide +kernel
theorem dX0_readFirst_1 : decode cX0_readFirst 1 = .ok (.aload_n 1, 1) := by decide +kernel
theorem dX0_readFirst_2 : decode cX0_readFirst 2 = .ok (.iload_n 2, 1) := by decide +kernel
theorem dX0_readFirst_3 : decode cX0_readFirst 3 = .ok (.iload_n 3, 1) := by decide +kernel
theorem dX0_readFirst_4 : decode cX0_readFirst 4 = .ok (.aload_n 0, 1) := by decide +kernel
theorem dX0_readFirst_5 : decode cX0_readFirst 5 = .ok (.getfield 9, 3) := by decide +kernel
theorem dX0_readFirst_8 : decode cX0_readFirst 8 = .ok (.invokestatic 21, 3) := by decide +kernel
theorem dX0_readFirst_11 : decode cX0_readFirst 11 = .ok (.putfield 25, 3) := by decide +kernel
theorem dX0_readFirst_14 : decode cX0_readFirst 14 = .ok (.return_, 1) := by decide +kernel
set_option maxRecDepth 20000 in
theorem ggX0_readSecond_X0_readSounds : GoodIn wsX0_readSecond wsX0_readSounds := goodIn_r _ [6] (by decide +kernel) (by decide +kernel)
set_option maxRecDepth 20000 in
theorem gX0_readSecond_X0_readSounds : GoodIn wsX0_readSecond (va_wsS RX0 21 yX0_readSounds wsX0_readSounds) := goodIn_app (goodIn_of _ (by decide +kernel)) ggX0_readSecond_X0_readSounds
theorem dX0_readSecond_0 : decode cX0_readSecond 0 = .ok (.aload_n 0, 1) := by decide +kernel
theorem dX0_readSecond_1 : decode cX0_readSecond 1 = .ok (.aload_n 1, 1) := by decide +kernel
theorem dX0_readSecond_2 : decode cX0_readSecond 2 = .ok (.iload_n 2, 1) := by decide +kernel
theorem dX0_readSecond_3 : decode cX0_readSecond 3 = .ok (.iload_n 3, 1) := by decide +kernel
theorem dX0_readSecond_4 : decode cX0_readSecond 4 = .ok (.aload_n 0, 1) := by decide +kernel
theorem dX0_readSecond_5 : decode cX0_readSecond 5 = .ok (.getfield 15, 3) := by decide +kernel
theorem dX0_readSecond_8 : decode cX0_readSecond 8 = .ok (.invokestatic 21, 3) := by decide +kernel
theorem dX0_readSecond_11 : decode cX0_readSecond 11 = .ok (.putfield 29, 3) := by decide +kernel
theorem dX0_readSecond_14 : decode cX0_readSecond 14 = .ok (.return_, 1) := by decide +kernel
set_option maxRecDepth 20000 in
theorem ggX0_leastCost_X8_costOf : GoodIn wsX0_leastCost wsX8_costOf := goodIn_r _ [12, 13] (by decide +kernel) (by decide +kernel)
set_option maxRecDepth 20000 in
theorem gX0_leastCost_X8_costOf_n32 : GoodIn wsX0_leastCost (wsX8_costOf) := ggX0_leastCost_X8_costOf
theorem dX0_leastCost_0 : decode cX0_leastCost 0 = .ok (.iconst 0, 1) := by decide +kernel
theorem dX0_leastCost_1 : decode cX0_leastCost 1 = .ok (.istore_n 1, 1) := by decide +kernel
theorem dX0_leastCost_2 : decode cX0_leastCost 2 = .ok (.iload_n 1, 1) := by decide +kernel
theorem dX0_leastCost_3 : decode cX0_leastCost 3 = .ok (.aload_n 0, 1) := by decide +kernel
theorem dX0_leastCost_4 : decode cX0_leastCost 4 = .ok (.getfield 29, 3) := by decide +kernel
theorem dX0_leastCost_7 : decode cX0_leastCost 7 = .ok (.if_icmp .gt 18, 3) := by decide +kernel
theorem dX0_leastCost_10 : decode cX0_leastCost 10 = .ok (.aload_n 0, 1) := by decide +kernel
theorem dX0_leastCost_11 : decode cX0_leastCost 11 = .ok (.getfield 18, 3) := by decide +kernel
theorem dX0_leastCost_14 : decode cX0_leastCost 14 = .ok (.iload_n 1, 1) := by decide +kernel
theorem dX0_leastCost_15 : decode cX0_leastCost 15 = .ok (.iload_n 1, 1) := by decide +kernel
theorem dX0_leastCost_16 : decode cX0_leastCost 16 = .ok (.iconst 3, 1) := by decide +kernel
theorem dX0_leastCost_17 : decode cX0_leastCost 17 = .ok (.imul, 1) := by decide +kernel
theorem dX0_leastCost_18 : decode cX0_leastCost 18 = .ok (.iastore, 1) := by decide +kernel
theorem dX0_leastCost_19 : decode cX0_leastCost 19 = .ok (.iinc 1 1, 3) := by decide +kernel
theorem dX0_leastCost_22 : decode cX0_leastCost 22 = .ok (.goto (-20), 3) := by decide +kernel
theorem dX0_leastCost_25 : decode cX0_leastCost 25 = .ok (.iconst 0, 1) := by decide +kernel
theorem dX0_leastCost_26 : decode cX0_leastCost 26 = .ok (.istore_n 1, 1) := by decide +kernel
theorem dX0_leastCost_27 : decode cX0_leastCost 27 = .ok (.iload_n 1, 1) := by decide +kernel
theorem dX0_leastCost_28 : decode cX0_leastCost 28 = .ok (.aload_n 0, 1) := by decide +kernel
theorem dX0_leastCost_29 : decode cX0_leastCost 29 = .ok (.getfield 25, 3) := by decide +kernel
theorem dX0_leastCost_32 : decode cX0_leastCost 32 = .ok (.if_icmp .ge 104, 3) := by decide +kernel
theorem dX0_leastCost_35 : decode cX0_leastCost 35 = .ok (.aload_n 0, 1) := by decide +kernel
theorem dX0_leastCost_36 : decode cX0_leastCost 36 = .ok (.getfield 18, 3) := by decide +kernel
theorem dX0_leastCost_39 : decode cX0_leastCost 39 = .ok (.iconst 0, 1) := by decide +kernel
theorem dX0_leastCost_40 : decode cX0_leastCost 40 = .ok (.iaload, 1) := by decide +kernel
theorem dX0_leastCost_41 : decode cX0_leastCost 41 = .ok (.istore_n 2, 1) := by decide +kernel
theorem dX0_leastCost_42 : decode cX0_leastCost 42 = .ok (.aload_n 0, 1) := by decide +kernel
theorem dX0_leastCost_43 : decode cX0_leastCost 43 = .ok (.getfield 18, 3) := by decide +kernel
theorem dX0_leastCost_46 : decode cX0_leastCost 46 = .ok (.iconst 0, 1) := by decide +kernel
theorem dX0_leastCost_47 : decode cX0_leastCost 47 = .ok (.dup2, 1) := by decide +kernel
theorem dX0_leastCost_48 : decode cX0_leastCost 48 = .ok (.iaload, 1) := by decide +kernel
theorem dX0_leastCost_49 : decode cX0_leastCost 49 = .ok (.iconst 3, 1) := by decide +kernel
theorem dX0_leastCost_50 : decode cX0_leastCost 50 = .ok (.iadd, 1) := by decide +kernel
theorem dX0_leastCost_51 : decode cX0_leastCost 51 = .ok (.iastore, 1) := by decide +kernel
theorem dX0_leastCost_52 : decode cX0_leastCost 52 = .ok (.iconst 1, 1) := by decide +kernel
theorem dX0_leastCost_53 : decode cX0_leastCost 53 = .ok (.istore_n 3, 1) := by decide +kernel
theorem dX0_leastCost_54 : decode cX0_leastCost 54 = .ok (.iload_n 3, 1) := by decide +kernel
theorem dX0_leastCost_55 : decode cX0_leastCost 55 = .ok (.aload_n 0, 1) := by decide +kernel
theorem dX0_leastCost_56 : decode cX0_leastCost 56 = .ok (.getfield 29, 3) := by decide +kernel
theorem dX0_leastCost_59 : decode cX0_leastCost 59 = .ok (.if_icmp .gt 71, 3) := by decide +kernel
theorem dX0_leastCost_62 : decode cX0_leastCost 62 = .ok (.iload_n 2, 1) := by decide +kernel
theorem dX0_leastCost_63 : decode cX0_leastCost 63 = .ok (.aload_n 0, 1) := by decide +kernel
theorem dX0_leastCost_64 : decode cX0_leastCost 64 = .ok (.getfield 9, 3) := by decide +kernel
theorem dX0_leastCost_67 : decode cX0_leastCost 67 = .ok (.iload_n 1, 1) := by decide +kernel
theorem dX0_leastCost_68 : decode cX0_leastCost 68 = .ok (.iaload, 1) := by decide +kernel
theorem dX0_leastCost_69 : decode cX0_leastCost 69 = .ok (.aload_n 0, 1) := by decide +kernel
theorem dX0_leastCost_70 : decode cX0_leastCost 70 = .ok (.getfield 15, 3) := by decide +kernel
theorem dX0_leastCost_73 : decode cX0_leastCost 73 = .ok (.iload_n 3, 1) := by decide +kernel
theorem dX0_leastCost_74 : decode cX0_leastCost 74 = .ok (.iconst 1, 1) := by decide +kernel
theorem dX0_leastCost_75 : decode cX0_leastCost 75 = .ok (.isub, 1) := by decide +kernel
theorem dX0_leastCost_76 : decode cX0_leastCost 76 = .ok (.iaload, 1) := by decide +kernel
theorem dX0_leastCost_77 : decode cX0_leastCost 77 = .ok (.invokestatic 32, 3) := by decide +kernel
theorem dX0_leastCost_80 : decode cX0_leastCost 80 = .ok (.iadd, 1) := by decide +kernel
theorem dX0_leastCost_81 : decode cX0_leastCost 81 = .ok (.istore 4, 2) := by decide +kernel
theorem dX0_leastCost_83 : decode cX0_leastCost 83 = .ok (.aload_n 0, 1) := by decide +kernel
theorem dX0_leastCost_84 : decode cX0_leastCost 84 = .ok (.getfield 18, 3) := by decide +kernel
theorem dX0_leastCost_87 : decode cX0_leastCost 87 = .ok (.iload_n 3, 1) := by decide +kernel
theorem dX0_leastCost_88 : decode cX0_leastCost 88 = .ok (.iaload, 1) := by decide +kernel
theorem dX0_leastCost_89 : decode cX0_leastCost 89 = .ok (.aload_n 0, 1) := by decide +kernel
theorem dX0_leastCost_90 : decode cX0_leastCost 90 = .ok (.getfield 18, 3) := by decide +kernel
theorem dX0_leastCost_93 : decode cX0_leastCost 93 = .ok (.iload_n 3, 1) := by decide +kernel
theorem dX0_leastCost_94 : decode cX0_leastCost 94 = .ok (.iconst 1, 1) := by decide +kernel
theorem dX0_leastCost_95 : decode cX0_leastCost 95 = .ok (.isub, 1) := by decide +kernel
theorem dX0_leastCost_96 : decode cX0_leastCost 96 = .ok (.iaload, 1) := by decide +kernel
theorem dX0_leastCost_97 : decode cX0_leastCost 97 = .ok (.invokestatic 36, 3) := by decide +kernel
theorem dX0_leastCost_100 : decode cX0_leastCost 100 = .ok (.iconst 3, 1) := by decide +kernel
theorem dX0_leastCost_101 : decode cX0_leastCost 101 = .ok (.iadd, 1) := by decide +kernel
theorem dX0_leastCost_102 : decode cX0_leastCost 102 = .ok (.istore 5, 2) := by decide +kernel
theorem dX0_leastCost_104 : decode cX0_leastCost 104 = .ok (.aload_n 0, 1) := by decide +kernel
theorem dX0_leastCost_105 : decode cX0_leastCost 105 = .ok (.getfield 18, 3) := by decide +kernel
theorem dX0_leastCost_108 : decode cX0_leastCost 108 = .ok (.iload_n 3, 1) := by decide +kernel
theorem dX0_leastCost_109 : decode cX0_leastCost 109 = .ok (.iaload, 1) := by decide +kernel
theorem dX0_leastCost_110 : decode cX0_leastCost 110 = .ok (.istore_n 2, 1) := by decide +kernel
theorem dX0_leastCost_111 : decode cX0_leastCost 111 = .ok (.aload_n 0, 1) := by decide +kernel
theorem dX0_leastCost_112 : decode cX0_leastCost 112 = .ok (.getfield 18, 3) := by decide +kernel
theorem dX0_leastCost_115 : decode cX0_leastCost 115 = .ok (.iload_n 3, 1) := by decide +kernel
theorem dX0_leastCost_116 : decode cX0_leastCost 116 = .ok (.iload 4, 2) := by decide +kernel
theorem dX0_leastCost_118 : decode cX0_leastCost 118 = .ok (.iload 5, 2) := by decide +kernel
theorem dX0_leastCost_120 : decode cX0_leastCost 120 = .ok (.invokestatic 36, 3) := by decide +kernel
theorem dX0_leastCost_123 : decode cX0_leastCost 123 = .ok (.iastore, 1) := by decide +kernel
theorem dX0_leastCost_124 : decode cX0_leastCost 124 = .ok (.iinc 3 1, 3) := by decide +kernel
theorem dX0_leastCost_127 : decode cX0_leastCost 127 = .ok (.goto (-73), 3) := by decide +kernel
theorem dX0_leastCost_130 : decode cX0_leastCost 130 = .ok (.iinc 1 1, 3) := by decide +kernel
theorem dX0_leastCost_133 : decode cX0_leastCost 133 = .ok (.goto (-106), 3) := by decide +kernel
theorem dX0_leastCost_136 : decode cX0_leastCost 136 = .ok (.aload_n 0, 1) := by decide +kernel
theorem dX0_leastCost_137 : decode cX0_leastCost 137 = .ok (.getfield 18, 3) := by decide +kernel
theorem dX0_leastCost_140 : decode cX0_leastCost 140 = .ok (.aload_n 0, 1) := by decide +kernel
theorem dX0_leastCost_141 : decode cX0_leastCost 141 = .ok (.getfield 29, 3) := by decide +kernel
theorem dX0_leastCost_144 : decode cX0_leastCost 144 = .ok (.iaload, 1) := by decide +kernel
theorem dX0_leastCost_145 : decode cX0_leastCost 145 = .ok (.ireturn, 1) := by decide +kernel
theorem dX0_readSounds_0 : decode cX0_readSounds 0 = .ok (.iconst 0, 1) := by decide +kernel
theorem dX0_readSounds_1 : decode cX0_readSounds 1 = .ok (.istore 4, 2) := by decide +kernel
theorem dX0_readSounds_3 : decode cX0_readSounds 3 = .ok (.iconst 0, 1) := by decide +kernel
theorem dX0_readSounds_4 : decode cX0_readSounds 4 = .ok (.istore 5, 2) := by decide +kernel
theorem dX0_readSounds_6 : decode cX0_readSounds 6 = .ok (.iload 5, 2) := by decide +kernel
theorem dX0_readSounds_8 : decode cX0_readSounds 8 = .ok (.iload_n 2, 1) := by decide +kernel
theorem dX0_readSounds_9 : decode cX0_readSounds 9 = .ok (.if_icmp .ge 31, 3) := by decide +kernel
theorem dX0_readSounds_12 : decode cX0_readSounds 12 = .ok (.aload_n 0, 1) := by decide +kernel
theorem dX0_readSounds_13 : decode cX0_readSounds 13 = .ok (.iload_n 1, 1) := by decide +kernel
theorem dX0_readSounds_14 : decode cX0_readSounds 14 = .ok (.iload 5, 2) := by decide +kernel
theorem dX0_readSounds_16 : decode cX0_readSounds 16 = .ok (.iadd, 1) := by decide +kernel
theorem dX0_readSounds_17 : decode cX0_readSounds 17 = .ok (.iaload, 1) := by decide +kernel
theorem dX0_readSounds_18 : decode cX0_readSounds 18 = .ok (.istore 6, 2) := by decide +kernel
theorem dX0_readSounds_20 : decode cX0_readSounds 20 = .ok (.iload 6, 2) := by decide +kernel
theorem dX0_readSounds_22 : decode cX0_readSounds 22 = .ok (.ifCond .eq 12, 3) := by decide +kernel
theorem dX0_readSounds_25 : decode cX0_readSounds 25 = .ok (.aload_n 3, 1) := by decide +kernel
theorem dX0_readSounds_26 : decode cX0_readSounds 26 = .ok (.iload 4, 2) := by decide +kernel
theorem dX0_readSounds_28 : decode cX0_readSounds 28 = .ok (.iload 6, 2) := by decide +kernel
theorem dX0_readSounds_30 : decode cX0_readSounds 30 = .ok (.iastore, 1) := by decide +kernel
theorem dX0_readSounds_31 : decode cX0_readSounds 31 = .ok (.iinc 4 1, 3) := by decide +kernel
theorem dX0_readSounds_34 : decode cX0_readSounds 34 = .ok (.iinc 5 1, 3) := by decide +kernel
theorem dX0_readSounds_37 : decode cX0_readSounds 37 = .ok (.goto (-31), 3) := by decide +kernel
theorem dX0_readSounds_40 : decode cX0_readSounds 40 = .ok (.iload 4, 2) := by decide +kernel
theorem dX0_readSounds_42 : decode cX0_readSounds 42 = .ok (.ireturn, 1) := by decide +kernel
set_option maxRecDepth 20000 in
theorem ggX1_init_X7_init : GoodIn wsX1_init wsX7_init := goodIn_r _ [9, 10, 2, 3, 11, 12, 13, 14, 15, 16] (by decide +kernel) (by decide +kernel)
set_option maxRecDepth 20000 in
theorem gX1_init_X7_init_n11 : GoodIn wsX1_init (wsX7_init) := ggX1_init_X7_init
theorem dX1_init_0 : decode cX1_init 0 = .ok (.aload_n 0, 1) := by decide +kernel
theorem dX1_init_1 : decode cX1_init 1 = .ok (.invokespecial 3, 3) := by decide +kernel
theorem dX1_init_4 : decode cX1_init 4 = .ok (.aload_n 0, 1) := by decide +kernel
theorem dX1_init_5 : decode cX1_init 5 = .ok (.new 9, 3) := by decide +kernel
theorem dX1_init_8 : decode cX1_init 8 = .ok (.dup, 1) := by decide +kernel
theorem dX1_init_9 : decode cX1_init 9 = .ok (.invokespecial 11, 3) := by decide +kernel
theorem dX1_init_12 : decode cX1_init 12 = .ok (.putfield 12, 3) := by decide +kernel
theorem dX1_init_15 : decode cX1_init 15 = .ok (.return_, 1) := by decide +kernel
set_option maxRecDepth 20000 in
theorem ggX1_drawSets_X7_plant : GoodIn wsX1_drawSets wsX7_plant := goodIn_r _ [10, 11, 50, 51, 52] (by decide +kernel) (by decide +kernel)
set_option maxRecDepth 20000 in
theorem gX1_drawSets_X7_plant : GoodIn wsX1_drawSets (wsV RX1 28 RX7 yX7_plant wsX7_plant) := goodIn_app (goodIn_of _ (by decide +kernel)) ggX1_drawSets_X7_plant
set_option maxRecDepth 20000 in
theorem ggX1_drawSets_X1_drawSound : GoodIn wsX1_drawSets wsX1_drawSound := goodIn_r _ [16, 17, 1, 18, 19, 20, 46, 47, 48, 49] (by decide +kernel) (by decide +kernel)
set_option maxRecDepth 20000 in
theorem gX1_drawSets_X1_drawSound : GoodIn wsX1_drawSets (wsV RX1 36 RX1 yX1_drawSound wsX1_drawSound) := goodIn_app (goodIn_of _ (by decide +kernel)) ggX1_drawSets_X1_drawSound
set_option maxRecDepth 20000 in
theorem ggX1_drawSets_X7_climb : GoodIn wsX1_drawSets wsX7_climb := goodIn_r _ [24, 11, 25, 26, 27, 28, 29, 30, 31, 32, 9, 33, 34, 35, 36, 37, 50, 51, 52] (by decide +kernel) (by decide +kernel)
set_option maxRecDepth 20000 in
theorem gX1_drawSets_X7_climb : GoodIn wsX1_drawSets (wsV RX1 40 RX7 yX7_climb wsX7_climb) := goodIn_app (goodIn_of _ (by decide +kernel)) ggX1_drawSets_X7_climb
set_option maxRecDepth 20000 in
theorem ggX1_drawSets_X7_root : GoodIn wsX1_drawSets wsX7_root := goodIn_r _ [41, 11, 27, 28, 29, 50, 51, 52] (by decide +kernel) (by decide +kernel)
set_option maxRecDepth 20000 in
theorem gX1_drawSets_X7_root : GoodIn wsX1_drawSets (wsV RX1 43 RX7 yX7_root wsX7_root) := goodIn_app (goodIn_of _ (by decide +kernel)) ggX1_drawSets_X7_root
set_option maxRecDepth 20000 in
theorem ggX1_drawSets_X1_isForeign : GoodIn wsX1_drawSets wsX1_isForeign := goodIn_r _ [45, 4, 5, 46, 47, 48, 49, 50, 51, 52] (by decide +kernel) (by decide +kernel)
set_option maxRecDepth 20000 in
theorem gX1_drawSets_X1_isForeign : GoodIn wsX1_drawSets (wsV RX1 46 RX1 yX1_isForeign wsX1_isForeign) := goodIn_app (goodIn_of _ (by decide +kernel)) ggX1_drawSets_X1_isForeign
theorem dX1_drawSets_0 : decode cX1_drawSets 0 = .ok (.aload_n 0, 1) := by decide +kernel
theorem dX1_drawSets_1 : decode cX1_drawSets 1 = .ok (.iload_n 2, 1) := by decide +kernel
theorem dX1_drawSets_2 : decode cX1_drawSets 2 = .ok (.putfield 18, 3) := by decide +kernel
theorem dX1_drawSets_5 : decode cX1_drawSets 5 = .ok (.aload_n 0, 1) := by decide +kernel
theorem dX1_drawSets_6 : decode cX1_drawSets 6 = .ok (.iconst 0, 1) := by decide +kernel
theorem dX1_drawSets_7 : decode cX1_drawSets 7 = .ok (.putfield 22, 3) := by decide +kernel
theorem dX1_drawSets_10 : decode cX1_drawSets 10 = .ok (.aload_n 0, 1) := by decide +kernel
theorem dX1_drawSets_11 : decode cX1_drawSets 11 = .ok (.iconst 0, 1) := by decide +kernel
theorem dX1_drawSets_12 : decode cX1_drawSets 12 = .ok (.putfield 25, 3) := by decide +kernel
theorem dX1_drawSets_15 : decode cX1_drawSets 15 = .ok (.aload_n 0, 1) := by decide +kernel
theorem dX1_drawSets_16 : decode cX1_drawSets 16 = .ok (.getfield 12, 3) := by decide +kernel
theorem dX1_drawSets_19 : decode cX1_drawSets 19 = .ok (.iconst 4, 1) := by decide +kernel
theorem dX1_drawSets_20 : decode cX1_drawSets 20 = .ok (.invokevirtual 28, 3) := by decide +kernel
theorem dX1_drawSets_23 : decode cX1_drawSets 23 = .ok (.iconst 0, 1) := by decide +kernel
theorem dX1_drawSets_24 : decode cX1_drawSets 24 = .ok (.istore_n 3, 1) := by decide +kernel
theorem dX1_drawSets_25 : decode cX1_drawSets 25 = .ok (.iload_n 3, 1) := by decide +kernel
theorem dX1_drawSets_26 : decode cX1_drawSets 26 = .ok (.iload_n 1, 1) := by decide +kernel
theorem dX1_drawSets_27 : decode cX1_drawSets 27 = .ok (.if_icmp .ge 86, 3) := by decide +kernel
theorem dX1_drawSets_30 : decode cX1_drawSets 30 = .ok (.iconst 0, 1) := by decide +kernel
theorem dX1_drawSets_31 : decode cX1_drawSets 31 = .ok (.istore 4, 2) := by decide +kernel
theorem dX1_drawSets_33 : decode cX1_drawSets 33 = .ok (.iload 4, 2) := by decide +kernel
theorem dX1_drawSets_35 : decode cX1_drawSets 35 = .ok (.iconst 4, 1) := by decide +kernel
theorem dX1_drawSets_36 : decode cX1_drawSets 36 = .ok (.if_icmp .ge 23, 3) := by decide +kernel
theorem dX1_drawSets_39 : decode cX1_drawSets 39 = .ok (.aload_n 0, 1) := by decide +kernel
theorem dX1_drawSets_40 : decode cX1_drawSets 40 = .ok (.getfield 12, 3) := by decide +kernel
theorem dX1_drawSets_43 : decode cX1_drawSets 43 = .ok (.getfield 32, 3) := by decide +kernel
theorem dX1_drawSets_46 : decode cX1_drawSets 46 = .ok (.iload 4, 2) := by decide +kernel
theorem dX1_drawSets_48 : decode cX1_drawSets 48 = .ok (.aload_n 0, 1) := by decide +kernel
theorem dX1_drawSets_49 : decode cX1_drawSets 49 = .ok (.invokevirtual 36, 3) := by decide +kernel
theorem dX1_drawSets_52 : decode cX1_drawSets 52 = .ok (.iastore, 1) := by decide +kernel
theorem dX1_drawSets_53 : decode cX1_drawSets 53 = .ok (.iinc 4 1, 3) := by decide +kernel
theorem dX1_drawSets_56 : decode cX1_drawSets 56 = .ok (.goto (-23), 3) := by decide +kernel
theorem dX1_drawSets_59 : decode cX1_drawSets 59 = .ok (.aload_n 0, 1) := by decide +kernel
theorem dX1_drawSets_60 : decode cX1_drawSets 60 = .ok (.dup, 1) := by decide +kernel
theorem dX1_drawSets_61 : decode cX1_drawSets 61 = .ok (.getfield 22, 3) := by decide +kernel
theorem dX1_drawSets_64 : decode cX1_drawSets 64 = .ok (.aload_n 0, 1) := by decide +kernel
theorem dX1_drawSets_65 : decode cX1_drawSets 65 = .ok (.getfield 12, 3) := by decide +kernel
theorem dX1_drawSets_68 : decode cX1_drawSets 68 = .ok (.invokevirtual 40, 3) := by decide +kernel
theorem dX1_drawSets_71 : decode cX1_drawSets 71 = .ok (.iadd, 1) := by decide +kernel
theorem dX1_drawSets_72 : decode cX1_drawSets 72 = .ok (.putfield 22, 3) := by decide +kernel
theorem dX1_drawSets_75 : decode cX1_drawSets 75 = .ok (.aload_n 0, 1) := by decide +kernel
theorem dX1_drawSets_76 : decode cX1_drawSets 76 = .ok (.aload_n 0, 1) := by decide +kernel
theorem dX1_drawSets_77 : decode cX1_drawSets 77 = .ok (.getfield 12, 3) := by decide +kernel
theorem dX1_drawSets_80 : decode cX1_drawSets 80 = .ok (.getfield 32, 3) := by decide +kernel
theorem dX1_drawSets_83 : decode cX1_drawSets 83 = .ok (.aload_n 0, 1) := by decide +kernel
theorem dX1_drawSets_84 : decode cX1_drawSets 84 = .ok (.getfield 12, 3) := by decide +kernel
theorem dX1_drawSets_87 : decode cX1_drawSets 87 = .ok (.invokevirtual 43, 3) := by decide +kernel
theorem dX1_drawSets_90 : decode cX1_drawSets 90 = .ok (.iaload, 1) := by decide +kernel
theorem dX1_drawSets_91 : decode cX1_drawSets 91 = .ok (.invokevirtual 46, 3) := by decide +kernel
theorem dX1_drawSets_94 : decode cX1_drawSets 94 = .ok (.ifCond .eq 13, 3) := by decide +kernel
theorem dX1_drawSets_97 : decode cX1_drawSets 97 = .ok (.aload_n 0, 1) := by decide +kernel
theorem dX1_drawSets_98 : decode cX1_drawSets 98 = .ok (.dup, 1) := by decide +kernel
theorem dX1_drawSets_99 : decode cX1_drawSets 99 = .ok (.getfield 25, 3) := by decide +kernel
theorem dX1_drawSets_102 : decode cX1_drawSets 102 = .ok (.iconst 1, 1) := by decide +kernel
theorem dX1_drawSets_103 : decode cX1_drawSets 103 = .ok (.iadd, 1) := by decide +kernel
theorem dX1_drawSets_104 : decode cX1_drawSets 104 = .ok (.putfield 25, 3) := by decide +kernel
theorem dX1_drawSets_107 : decode cX1_drawSets 107 = .ok (.iinc 3 1, 3) := by decide +kernel
theorem dX1_drawSets_110 : decode cX1_drawSets 110 = .ok (.goto (-85), 3) := by decide +kernel
theorem dX1_drawSets_113 : decode cX1_drawSets 113 = .ok (.return_, 1) := by decide +kernel
theorem dX1_drawSound_0 : decode cX1_drawSound 0 = .ok (.aload_n 0, 1) := by decide +kernel
theorem dX1_drawSound_1 : decode cX1_drawSound 1 = .ok (.ldc2_w 50, 3) := by decide +kernel
theorem dX1_drawSound_4 : decode cX1_drawSound 4 = .ok (.aload_n 0, 1) := by decide +kernel
theorem dX1_drawSound_5 : decode cX1_drawSound 5 = .ok (.getfield 18, 3) := by decide +kernel
theorem dX1_drawSound_8 : decode cX1_drawSound 8 = .ok (.i2l, 1) := by decide +kernel
theorem dX1_drawSound_9 : decode cX1_drawSound 9 = .ok (.lmul, 1) := by decide +kernel
theorem dX1_drawSound_10 : decode cX1_drawSound 10 = .ok (.ldc2_w 52, 3) := by decide +kernel
theorem dX1_drawSound_13 : decode cX1_drawSound 13 = .ok (.ladd, 1) := by decide +kernel
theorem dX1_drawSound_14 : decode cX1_drawSound 14 = .ok (.ldc2_w 54, 3) := by decide +kernel
theorem dX1_drawSound_17 : decode cX1_drawSound 17 = .ok (.lrem, 1) := by decide +kernel
theorem dX1_drawSound_18 : decode cX1_drawSound 18 = .ok (.l2i, 1) := by decide +kernel
theorem dX1_drawSound_19 : decode cX1_drawSound 19 = .ok (.putfield 18, 3) := by decide +kernel
theorem dX1_drawSound_22 : decode cX1_drawSound 22 = .ok (.aload_n 0, 1) := by decide +kernel
theorem dX1_drawSound_23 : decode cX1_drawSound 23 = .ok (.getfield 18, 3) := by decide +kernel
theorem dX1_drawSound_26 : decode cX1_drawSound 26 = .ok (.ldc 56, 2) := by decide +kernel
theorem dX1_drawSound_28 : decode cX1_drawSound 28 = .ok (.idiv, 1) := by decide +kernel
theorem dX1_drawSound_29 : decode cX1_drawSound 29 = .ok (.bipush 9, 2) := by decide +kernel
theorem dX1_drawSound_31 : decode cX1_drawSound 31 = .ok (.irem, 1) := by decide +kernel
theorem dX1_drawSound_32 : decode cX1_drawSound 32 = .ok (.ireturn, 1) := by decide +kernel
theorem dX1_isForeign_0 : decode cX1_isForeign 0 = .ok (.iconst 0, 1) := by decide +kernel
theorem dX1_isForeign_1 : decode cX1_isForeign 1 = .ok (.istore_n 2, 1) := by decide +kernel
theorem dX1_isForeign_2 : decode cX1_isForeign 2 = .ok (.iload_n 2, 1) := by decide +kernel
theorem dX1_isForeign_3 : decode cX1_isForeign 3 = .ok (.iconst 4, 1) := by decide +kernel
theorem dX1_isForeign_4 : decode cX1_isForeign 4 = .ok (.if_icmp .ge 24, 3) := by decide +kernel
theorem dX1_isForeign_7 : decode cX1_isForeign 7 = .ok (.aload_n 0, 1) := by decide +kernel
theorem dX1_isForeign_8 : decode cX1_isForeign 8 = .ok (.getfield 12, 3) := by decide +kernel
theorem dX1_isForeign_11 : decode cX1_isForeign 11 = .ok (.getfield 32, 3) := by decide +kernel
theorem dX1_isForeign_14 : decode cX1_isForeign 14 = .ok (.iload_n 2, 1) := by decide +kernel
theorem dX1_isForeign_15 : decode cX1_isForeign 15 = .ok (.iaload, 1) := by decide +kernel
theorem dX1_isForeign_16 : decode cX1_isForeign 16 = .ok (.iload_n 1, 1) := by decide +kernel
theorem dX1_isForeign_17 : decode cX1_isForeign 17 = .ok (.if_icmp .ne 5, 3) := by decide +kernel
theorem dX1_isForeign_20 : decode cX1_isForeign 20 = .ok (.iconst 0, 1) := by decide +kernel
theorem dX1_isForeign_21 : decode cX1_isForeign 21 = .ok (.ireturn, 1) := by decide +kernel
theorem dX1_isForeign_22 : decode cX1_isForeign 22 = .ok (.iinc 2 1, 3) := by decide +kernel
theorem dX1_isForeign_25 : decode cX1_isForeign 25 = .ok (.goto (-23), 3) := by decide +kernel
theorem dX1_isForeign_28 : decode cX1_isForeign 28 = .ok (.iconst 1, 1) := by decide +kernel
theorem dX1_isForeign_29 : decode cX1_isForeign 29 = .ok (.ireturn, 1) := by decide +kernel
theorem dX2_init_0 : decode cX2_init 0 = .ok (.aload_n 0, 1) := by decide +kernel
theorem dX2_init_1 : decode cX2_init 1 = .ok (.invokespecial 3, 3) := by decide +kernel
theorem dX2_init_4 : decode cX2_init 4 = .ok (.aload_n 0, 1) := by decide +kernel
theorem dX2_init_5 : decode cX2_init 5 = .ok (.bipush 72, 2) := by decide +kernel
theorem dX2_init_7 : decode cX2_init 7 = .ok (.newarray .int, 2) := by decide +kernel
theorem dX2_init_9 : decode cX2_init 9 = .ok (.putfield 9, 3) := by decide +kernel
theorem dX2_init_12 : decode cX2_init 12 = .ok (.aload_n 0, 1) := by decide +kernel
theorem dX2_init_13 : decode cX2_init 13 = .ok (.bipush 72, 2) := by decide +kernel
theorem dX2_init_15 : decode cX2_init 15 = .ok (.newarray .int, 2) := by decide +kernel
theorem dX2_init_17 : decode cX2_init 17 = .ok (.putfield 15, 3) := by decide +kernel
theorem dX2_init_20 : decode cX2_init 20 = .ok (.aload_n 0, 1) := by decide +kernel
theorem dX2_init_21 : decode cX2_init 21 = .ok (.bipush 72, 2) := by decide +kernel
theorem dX2_init_23 : decode cX2_init 23 = .ok (.newarray .int, 2) := by decide +kernel
theorem dX2_init_25 : decode cX2_init 25 = .ok (.putfield 18, 3) := by decide +kernel
theorem dX2_init_28 : decode cX2_init 28 = .ok (.aload_n 0, 1) := by decide +kernel
theorem dX2_init_29 : decode cX2_init 29 = .ok (.sipush 648, 3) := by decide +kernel
theorem dX2_init_32 : decode cX2_init 32 = .ok (.newarray .int, 2) := by decide +kernel
theorem dX2_init_34 : decode cX2_init 34 = .ok (.putfield 21, 3) := by decide +kernel
theorem dX2_init_37 : decode cX2_init 37 = .ok (.return_, 1) := by decide +kernel
set_option maxRecDepth 20000 in
theorem ggX2_clear_J7_fill_53178 : GoodIn wsX2_clear wsJ7_fill_53178 := goodIn_r _ [5] (by decide +kernel) (by decide +kernel)
set_option maxRecDepth 20000 in
theorem gX2_clear_J7_fill_53178 : GoodIn wsX2_clear (va_wsS RX2 24 yJ7_fill_53178 wsJ7_fill_53178) := goodIn_app (goodIn_of _ (by decide +kernel)) ggX2_clear_J7_fill_53178
theorem dX2_clear_0 : decode cX2_clear 0 = .ok (.aload_n 0, 1) := by decide +kernel
theorem dX2_clear_1 : decode cX2_clear 1 = .ok (.getfield 21, 3) := by decide +kernel
theorem dX2_clear_4 : decode cX2_clear 4 = .ok (.iconst 0, 1) := by decide +kernel
theorem dX2_clear_5 : decode cX2_clear 5 = .ok (.invokestatic 24, 3) := by decide +kernel
theorem dX2_clear_8 : decode cX2_clear 8 = .ok (.return_, 1) := by decide +kernel
theorem dX2_weigh_0 : decode cX2_weigh 0 = .ok (.aload_n 0, 1) := by decide +kernel
theorem dX2_weigh_1 : decode cX2_weigh 1 = .ok (.getfield 21, 3) := by decide +kernel
theorem dX2_weigh_4 : decode cX2_weigh 4 = .ok (.iload_n 1, 1) := by decide +kernel
theorem dX2_weigh_5 : decode cX2_weigh 5 = .ok (.bipush 9, 2) := by decide +kernel
theorem dX2_weigh_7 : decode cX2_weigh 7 = .ok (.imul, 1) := by decide +kernel
theorem dX2_weigh_8 : decode cX2_weigh 8 = .ok (.iload_n 2, 1) := by decide +kernel
theorem dX2_weigh_9 : decode cX2_weigh 9 = .ok (.iadd, 1) := by decide +kernel
theorem dX2_weigh_10 : decode cX2_weigh 10 = .ok (.dup2, 1) := by decide +kernel
theorem dX2_weigh_11 : decode cX2_weigh 11 = .ok (.iaload, 1) := by decide +kernel
theorem dX2_weigh_12 : decode cX2_weigh 12 = .ok (.iload_n 3, 1) := by decide +kernel
theorem dX2_weigh_13 : decode cX2_weigh 13 = .ok (.iadd, 1) := by decide +kernel
theorem dX2_weigh_14 : decode cX2_weigh 14 = .ok (.iastore, 1) := by decide +kernel
theorem dX2_weigh_15 : decode cX2_weigh 15 = .ok (.return_, 1) := by decide +kernel
theorem dX2_tell_0 : decode cX2_tell 0 = .ok (.iload_n 2, 1) := by decide +kernel
theorem dX2_tell_1 : decode cX2_tell 1 = .ok (.lookupswitch 41 #[(0, 27), (1, 34)], 27) := by decide +kernel
theorem dX2_tell_28 : decode cX2_tell 28 = .ok (.aload_n 0, 1) := by decide +kernel
theorem dX2_tell_29 : decode cX2_tell 29 = .ok (.getfield 9, 3) := by decide +kernel
theorem dX2_tell_32 : decode cX2_tell 32 = .ok (.iload_n 1, 1) := by decide +kernel
theorem dX2_tell_33 : decode cX2_tell 33 = .ok (.iaload, 1) := by decide +kernel
theorem dX2_tell_34 : decode cX2_tell 34 = .ok (.ireturn, 1) := by decide +kernel
theorem dX2_tell_35 : decode cX2_tell 35 = .ok (.aload_n 0, 1) := by decide +kernel
theorem dX2_tell_36 : decode cX2_tell 36 = .ok (.getfield 15, 3) := by decide +kernel
theorem dX2_tell_39 : decode cX2_tell 39 = .ok (.iload_n 1, 1) := by decide +kernel
theorem dX2_tell_40 : decode cX2_tell 40 = .ok (.iaload, 1) := by decide +kernel
theorem dX2_tell_41 : decode cX2_tell 41 = .ok (.ireturn, 1) := by decide +kernel
theorem dX2_tell_42 : decode cX2_tell 42 = .ok (.aload_n 0, 1) := by decide +kernel
theorem dX2_tell_43 : decode cX2_tell 43 = .ok (.getfield 18, 3) := by decide +kernel
theorem dX2_tell_46 : decode cX2_tell 46 = .ok (.iload_n 1, 1) := by decide +kernel
theorem dX2_tell_47 : decode cX2_tell 47 = .ok (.iaload, 1) := by decide +kernel
theorem dX2_tell_48 : decode cX2_tell 48 = .ok (.ireturn, 1) := by decide +kernel
set_option maxRecDepth 20000 in
theorem ggX2_settle_X2_settleLaw : GoodIn wsX2_settle wsX2_settleLaw := goodIn_r _ [9, 10, 3, 11, 4, 12, 13, 14, 15, 16, 17] (by decide +kernel) (by decide +kernel)
set_option maxRecDepth 20000 in
theorem gX2_settle_X2_settleLaw : GoodIn wsX2_settle (wsV RX2 37 RX2 yX2_settleLaw wsX2_settleLaw) := goodIn_app (goodIn_of _ (by decide +kernel)) ggX2_settle_X2_settleLaw
theorem dX2_settle_0 : decode cX2_settle 0 = .ok (.aload_n 0, 1) := by decide +kernel
theorem dX2_settle_1 : decode cX2_settle 1 = .ok (.iconst 0, 1) := by decide +kernel
theorem dX2_settle_2 : decode cX2_settle 2 = .ok (.putfield 30, 3) := by decide +kernel
theorem dX2_settle_5 : decode cX2_settle 5 = .ok (.aload_n 0, 1) := by decide +kernel
theorem dX2_settle_6 : decode cX2_settle 6 = .ok (.iconst 0, 1) := by decide +kernel
theorem dX2_settle_7 : decode cX2_settle 7 = .ok (.putfield 34, 3) := by decide +kernel
theorem dX2_settle_10 : decode cX2_settle 10 = .ok (.iconst 0, 1) := by decide +kernel
theorem dX2_settle_11 : decode cX2_settle 11 = .ok (.istore_n 2, 1) := by decide +kernel
theorem dX2_settle_12 : decode cX2_settle 12 = .ok (.iload_n 2, 1) := by decide +kernel
theorem dX2_settle_13 : decode cX2_settle 13 = .ok (.iload_n 1, 1) := by decide +kernel
theorem dX2_settle_14 : decode cX2_settle 14 = .ok (.bipush 9, 2) := by decide +kernel
theorem dX2_settle_16 : decode cX2_settle 16 = .ok (.imul, 1) := by decide +kernel
theorem dX2_settle_17 : decode cX2_settle 17 = .ok (.iconst 2, 1) := by decide +kernel
theorem dX2_settle_18 : decode cX2_settle 18 = .ok (.imul, 1) := by decide +kernel
theorem dX2_settle_19 : decode cX2_settle 19 = .ok (.if_icmp .ge 49, 3) := by decide +kernel
theorem dX2_settle_22 : decode cX2_settle 22 = .ok (.aload_n 0, 1) := by decide +kernel
theorem dX2_settle_23 : decode cX2_settle 23 = .ok (.iload_n 2, 1) := by decide +kernel
theorem dX2_settle_24 : decode cX2_settle 24 = .ok (.invokevirtual 37, 3) := by decide +kernel
theorem dX2_settle_27 : decode cX2_settle 27 = .ok (.aload_n 0, 1) := by decide +kernel
theorem dX2_settle_28 : decode cX2_settle 28 = .ok (.getfield 9, 3) := by decide +kernel
theorem dX2_settle_31 : decode cX2_settle 31 = .ok (.iload_n 2, 1) := by decide +kernel
theorem dX2_settle_32 : decode cX2_settle 32 = .ok (.iaload, 1) := by decide +kernel
theorem dX2_settle_33 : decode cX2_settle 33 = .ok (.iconst (-1), 1) := by decide +kernel
theorem dX2_settle_34 : decode cX2_settle 34 = .ok (.if_icmp .eq 13, 3) := by decide +kernel
theorem dX2_settle_37 : decode cX2_settle 37 = .ok (.aload_n 0, 1) := by decide +kernel
theorem dX2_settle_38 : decode cX2_settle 38 = .ok (.dup, 1) := by decide +kernel
theorem dX2_settle_39 : decode cX2_settle 39 = .ok (.getfield 30, 3) := by decide +kernel
theorem dX2_settle_42 : decode cX2_settle 42 = .ok (.iconst 1, 1) := by decide +kernel
theorem dX2_settle_43 : decode cX2_settle 43 = .ok (.iadd, 1) := by decide +kernel
theorem dX2_settle_44 : decode cX2_settle 44 = .ok (.putfield 30, 3) := by decide +kernel
theorem dX2_settle_47 : decode cX2_settle 47 = .ok (.aload_n 0, 1) := by decide +kernel
theorem dX2_settle_48 : decode cX2_settle 48 = .ok (.dup, 1) := by decide +kernel
theorem dX2_settle_49 : decode cX2_settle 49 = .ok (.getfield 34, 3) := by decide +kernel
theorem dX2_settle_52 : decode cX2_settle 52 = .ok (.aload_n 0, 1) := by decide +kernel
theorem dX2_settle_53 : decode cX2_settle 53 = .ok (.getfield 18, 3) := by decide +kernel
theorem dX2_settle_56 : decode cX2_settle 56 = .ok (.iload_n 2, 1) := by decide +kernel
theorem dX2_settle_57 : decode cX2_settle 57 = .ok (.iaload, 1) := by decide +kernel
theorem dX2_settle_58 : decode cX2_settle 58 = .ok (.iadd, 1) := by decide +kernel
theorem dX2_settle_59 : decode cX2_settle 59 = .ok (.putfield 34, 3) := by decide +kernel
theorem dX2_settle_62 : decode cX2_settle 62 = .ok (.iinc 2 1, 3) := by decide +kernel
theorem dX2_settle_65 : decode cX2_settle 65 = .ok (.goto (-53), 3) := by decide +kernel
theorem dX2_settle_68 : decode cX2_settle 68 = .ok (.return_, 1) := by decide +kernel
theorem dX2_settleLaw_0 : decode cX2_settleLaw 0 = .ok (.iconst (-1), 1) := by decide +kernel
theorem dX2_settleLaw_1 : decode cX2_settleLaw 1 = .ok (.istore_n 2, 1) := by decide +kernel
theorem dX2_settleLaw_2 : decode cX2_settleLaw 2 = .ok (.iconst 0, 1) := by decide +kernel
theorem dX2_settleLaw_3 : decode cX2_settleLaw 3 = .ok (.istore_n 3, 1) := by decide +kernel
theorem dX2_settleLaw_4 : decode cX2_settleLaw 4 = .ok (.iconst 0, 1) := by decide +kernel
theorem dX2_settleLaw_5 : decode cX2_settleLaw 5 = .ok (.istore 4, 2) := by decide +kernel
theorem dX2_settleLaw_7 : decode cX2_settleLaw 7 = .ok (.iconst 0, 1) := by decide +kernel
theorem dX2_settleLaw_8 : decode cX2_settleLaw 8 = .ok (.istore 5, 2) := by decide +kernel
theorem dX2_settleLaw_10 : decode cX2_settleLaw 10 = .ok (.iload 5, 2) := by decide +kernel
theorem dX2_settleLaw_12 : decode cX2_settleLaw 12 = .ok (.bipush 9, 2) := by decide +kernel
theorem dX2_settleLaw_14 : decode cX2_settleLaw 14 = .ok (.if_icmp .ge 42, 3) := by decide +kernel
theorem dX2_settleLaw_17 : decode cX2_settleLaw 17 = .ok (.aload_n 0, 1) := by decide +kernel
theorem dX2_settleLaw_18 : decode cX2_settleLaw 18 = .ok (.getfield 21, 3) := by decide +kernel
theorem dX2_settleLaw_21 : decode cX2_settleLaw 21 = .ok (.iload_n 1, 1) := by decide +kernel
theorem dX2_settleLaw_22 : decode cX2_settleLaw 22 = .ok (.bipush 9, 2) := by decide +kernel
theorem dX2_settleLaw_24 : decode cX2_settleLaw 24 = .ok (.imul, 1) := by decide +kernel
theorem dX2_settleLaw_25 : decode cX2_settleLaw 25 = .ok (.iload 5, 2) := by decide +kernel
theorem dX2_settleLaw_27 : decode cX2_settleLaw 27 = .ok (.iadd, 1) := by decide +kernel
theorem dX2_settleLaw_28 : decode cX2_settleLaw 28 = .ok (.iaload, 1) := by decide +kernel
theorem dX2_settleLaw_29 : decode cX2_settleLaw 29 = .ok (.istore 6, 2) := by decide +kernel
theorem dX2_settleLaw_31 : decode cX2_settleLaw 31 = .ok (.iload 4, 2) := by decide +kernel
theorem dX2_settleLaw_33 : decode cX2_settleLaw 33 = .ok (.iload 6, 2) := by decide +kernel
theorem dX2_settleLaw_35 : decode cX2_settleLaw 35 = .ok (.iadd, 1) := by decide +kernel
theorem dX2_settleLaw_36 : decode cX2_settleLaw 36 = .ok (.istore 4, 2) := by decide +kernel
theorem dX2_settleLaw_38 : decode cX2_settleLaw 38 = .ok (.iload 6, 2) := by decide +kernel
theorem dX2_settleLaw_40 : decode cX2_settleLaw 40 = .ok (.iload_n 3, 1) := by decide +kernel
theorem dX2_settleLaw_41 : decode cX2_settleLaw 41 = .ok (.if_icmp .le 9, 3) := by decide +kernel
theorem dX2_settleLaw_44 : decode cX2_settleLaw 44 = .ok (.iload 6, 2) := by decide +kernel
theorem dX2_settleLaw_46 : decode cX2_settleLaw 46 = .ok (.istore_n 3, 1) := by decide +kernel
theorem dX2_settleLaw_47 : decode cX2_settleLaw 47 = .ok (.iload 5, 2) := by decide +kernel
theorem dX2_settleLaw_49 : decode cX2_settleLaw 49 = .ok (.istore_n 2, 1) := by decide +kernel
theorem dX2_settleLaw_50 : decode cX2_settleLaw 50 = .ok (.iinc 5 1, 3) := by decide +kernel
theorem dX2_settleLaw_53 : decode cX2_settleLaw 53 = .ok (.goto (-43), 3) := by decide +kernel
theorem dX2_settleLaw_56 : decode cX2_settleLaw 56 = .ok (.aload_n 0, 1) := by decide +kernel
theorem dX2_settleLaw_57 : decode cX2_settleLaw 57 = .ok (.getfield 9, 3) := by decide +kernel
theorem dX2_settleLaw_60 : decode cX2_settleLaw 60 = .ok (.iload_n 1, 1) := by decide +kernel
theorem dX2_settleLaw_61 : decode cX2_settleLaw 61 = .ok (.iload_n 2, 1) := by decide +kernel
theorem dX2_settleLaw_62 : decode cX2_settleLaw 62 = .ok (.iastore, 1) := by decide +kernel
theorem dX2_settleLaw_63 : decode cX2_settleLaw 63 = .ok (.aload_n 0, 1) := by decide +kernel
theorem dX2_settleLaw_64 : decode cX2_settleLaw 64 = .ok (.getfield 15, 3) := by decide +kernel
theorem dX2_settleLaw_67 : decode cX2_settleLaw 67 = .ok (.iload_n 1, 1) := by decide +kernel
theorem dX2_settleLaw_68 : decode cX2_settleLaw 68 = .ok (.iload_n 3, 1) := by decide +kernel
theorem dX2_settleLaw_69 : decode cX2_settleLaw 69 = .ok (.iastore, 1) := by decide +kernel
theorem dX2_settleLaw_70 : decode cX2_settleLaw 70 = .ok (.aload_n 0, 1) := by decide +kernel
theorem dX2_settleLaw_71 : decode cX2_settleLaw 71 = .ok (.getfield 18, 3) := by decide +kernel
theorem dX2_settleLaw_74 : decode cX2_settleLaw 74 = .ok (.iload_n 1, 1) := by decide +kernel
theorem dX2_settleLaw_75 : decode cX2_settleLaw 75 = .ok (.iload 4, 2) := by decide +kernel
theorem dX2_settleLaw_77 : decode cX2_settleLaw 77 = .ok (.iload_n 3, 1) := by decide +kernel
theorem dX2_settleLaw_78 : decode cX2_settleLaw 78 = .ok (.isub, 1) := by decide +kernel
theorem dX2_settleLaw_79 : decode cX2_settleLaw 79 = .ok (.iastore, 1) := by decide +kernel
theorem dX2_settleLaw_80 : decode cX2_settleLaw 80 = .ok (.return_, 1) := by decide +kernel
set_option maxRecDepth 20000 in
theorem ggX3_init_X5_init : GoodIn wsX3_init wsX5_init := goodIn_r _ [9, 10, 2, 3, 11, 12, 13, 14, 15, 16, 17, 18, 19] (by decide +kernel) (by decide +kernel)
set_option maxRecDepth 20000 in
theorem gX3_init_X5_init_n11 : GoodIn wsX3_init (wsX5_init) := ggX3_init_X5_init
theorem dX3_init_0 : decode cX3_init 0 = .ok (.aload_n 0, 1) := by decide +kernel
theorem dX3_init_1 : decode cX3_init 1 = .ok (.invokespecial 3, 3) := by decide +kernel
theorem dX3_init_4 : decode cX3_init 4 = .ok (.aload_n 0, 1) := by decide +kernel
theorem dX3_init_5 : decode cX3_init 5 = .ok (.new 9, 3) := by decide +kernel
theorem dX3_init_8 : decode cX3_init 8 = .ok (.dup, 1) := by decide +kernel
theorem dX3_init_9 : decode cX3_init 9 = .ok (.invokespecial 11, 3) := by decide +kernel
theorem dX3_init_12 : decode cX3_init 12 = .ok (.putfield 12, 3) := by decide +kernel
theorem dX3_init_15 : decode cX3_init 15 = .ok (.return_, 1) := by decide +kernel
theorem dX3_start_0 : decode cX3_start 0 = .ok (.aload_n 0, 1) := by decide +kernel
theorem dX3_start_1 : decode cX3_start 1 = .ok (.getfield 12, 3) := by decide +kernel
theorem dX3_start_4 : decode cX3_start 4 = .ok (.iconst 0, 1) := by decide +kernel
theorem dX3_start_5 : decode cX3_start 5 = .ok (.putfield 18, 3) := by decide +kernel
theorem dX3_start_8 : decode cX3_start 8 = .ok (.aload_n 0, 1) := by decide +kernel
theorem dX3_start_9 : decode cX3_start 9 = .ok (.getfield 12, 3) := by decide +kernel
theorem dX3_start_12 : decode cX3_start 12 = .ok (.iconst 0, 1) := by decide +kernel
theorem dX3_start_13 : decode cX3_start 13 = .ok (.putfield 22, 3) := by decide +kernel
theorem dX3_start_16 : decode cX3_start 16 = .ok (.aload_n 0, 1) := by decide +kernel
theorem dX3_start_17 : decode cX3_start 17 = .ok (.iconst 1, 1) := by decide +kernel
theorem dX3_start_18 : decode cX3_start 18 = .ok (.putfield 25, 3) := by decide +kernel
theorem dX3_start_21 : decode cX3_start 21 = .ok (.aload_n 0, 1) := by decide +kernel
theorem dX3_start_22 : decode cX3_start 22 = .ok (.iconst 0, 1) := by decide +kernel
theorem dX3_start_23 : decode cX3_start 23 = .ok (.putfield 29, 3) := by decide +kernel
theorem dX3_start_26 : decode cX3_start 26 = .ok (.return_, 1) := by decide +kernel
set_option maxRecDepth 20000 in
theorem ggX3_accepts_J0_indexOf_0f7a4 : GoodIn wsX3_accepts wsJ0_indexOf_0f7a4 := goodIn_r _ [6, 7, 8, 9, 5, 10, 11, 12, 13, 14, 15, 16, 17, 18, 19, 20, 21, 22, 23, 24, 25, 26, 27, 28, 29, 30, 31, 32, 33, 34, 35, 36, 37, 38, 39, 40, 41, 42, 43, 44, 45, 46, 47, 48, 49, 50, 51, 52, 53, 54, 55, 56, 57, 58, 59, 60, 61, 62, 63, 64, 65, 66, 67, 68, 69, 70, 71, 72, 73, 74, 75, 76, 77, 78, 79, 80, 81, 82, 83, 84, 85, 86, 87, 88, 89, 90] (by decide +kernel) (by decide +kernel)
set_option maxRecDepth 20000 in
theorem gX3_accepts_J0_indexOf_0f7a4 : GoodIn wsX3_accepts (wsV RX3 34 RJ0 yJ0_indexOf_0f7a4 wsJ0_indexOf_0f7a4) := goodIn_app (goodIn_of _ (by decide +kernel)) ggX3_accepts_J0_indexOf_0f7a4
set_option maxRecDepth 20000 in
theorem ggX3_accepts_X3_acceptsKind : GoodIn wsX3_accepts wsX3_acceptsKind := goodIn_r _ [95, 96, 97, 98, 99, 100, 1, 101, 102, 103, 94, 104, 105, 106, 138, 139, 140, 141, 142, 143, 144, 145, 146, 147, 148, 149] (by decide +kernel) (by decide +kernel)
set_option maxRecDepth 20000 in
theorem gX3_accepts_X3_acceptsKind : GoodIn wsX3_accepts (wsV RX3 40 RX3 yX3_acceptsKind wsX3_acceptsKind) := goodIn_app (goodIn_of _ (by decide +kernel)) ggX3_accepts_X3_acceptsKind
set_option maxRecDepth 20000 in
theorem ggX3_accepts_X3_endsWord : GoodIn wsX3_accepts wsX3_endsWord := goodIn_r _ [110, 96, 111, 100, 112, 113, 114, 94, 115, 105, 116, 98, 117, 118, 119, 120, 106, 121, 101, 102, 103, 104, 138, 139, 140, 141, 142, 143, 144, 145, 146, 147, 148, 149] (by decide +kernel) (by decide +kernel)
set_option maxRecDepth 20000 in
theorem gX3_accepts_X3_endsWord : GoodIn wsX3_accepts (wsV RX3 44 RX3 yX3_endsWord wsX3_endsWord) := goodIn_app (goodIn_of _ (by decide +kernel)) ggX3_accepts_X3_endsWord
set_option maxRecDepth 20000 in
theorem ggX3_accepts_X3_endsSet : GoodIn wsX3_accepts wsX3_endsSet := goodIn_r _ [125, 96, 97, 100, 111, 1, 126, 127, 128, 94, 129, 112, 113, 114, 115, 105, 116, 98, 117, 118, 119, 120, 106, 121, 138, 139, 140, 141, 142, 143, 144, 145, 146, 147, 148, 149] (by decide +kernel) (by decide +kernel)
set_option maxRecDepth 20000 in
theorem gX3_accepts_X3_endsSet : GoodIn wsX3_accepts (wsV RX3 48 RX3 yX3_endsSet wsX3_endsSet) := goodIn_app (goodIn_of _ (by decide +kernel)) ggX3_accepts_X3_endsSet
set_option maxRecDepth 20000 in
theorem ggX3_accepts_X3_acceptsSound : GoodIn wsX3_accepts wsX3_acceptsSound := goodIn_r _ [133, 100, 96, 116, 98, 105, 134, 106, 135, 136, 137, 138, 139, 140, 141, 142, 143, 144, 145, 146, 147, 148, 149] (by decide +kernel) (by decide +kernel)
set_option maxRecDepth 20000 in
theorem gX3_accepts_X3_acceptsSound : GoodIn wsX3_accepts (wsV RX3 53 RX3 yX3_acceptsSound wsX3_acceptsSound) := goodIn_app (goodIn_of _ (by decide +kernel)) ggX3_accepts_X3_acceptsSound
theorem dX3_accepts_0 : decode cX3_accepts 0 = .ok (.aload_n 0, 1) := by decide +kernel
theorem dX3_accepts_1 : decode cX3_accepts 1 = .ok (.getfield 25, 3) := by decide +kernel
theorem dX3_accepts_4 : decode cX3_accepts 4 = .ok (.ifCond .eq 15, 3) := by decide +kernel
theorem dX3_accepts_7 : decode cX3_accepts 7 = .ok (.aload_n 0, 1) := by decide +kernel
theorem dX3_accepts_8 : decode cX3_accepts 8 = .ok (.ldc 32, 2) := by decide +kernel
theorem dX3_accepts_10 : decode cX3_accepts 10 = .ok (.iload_n 1, 1) := by decide +kernel
theorem dX3_accepts_11 : decode cX3_accepts 11 = .ok (.i2c, 1) := by decide +kernel
theorem dX3_accepts_12 : decode cX3_accepts 12 = .ok (.invokevirtual 34, 3) := by decide +kernel
theorem dX3_accepts_15 : decode cX3_accepts 15 = .ok (.invokevirtual 40, 3) := by decide +kernel
theorem dX3_accepts_18 : decode cX3_accepts 18 = .ok (.ireturn, 1) := by decide +kernel
theorem dX3_accepts_19 : decode cX3_accepts 19 = .ok (.iload_n 1, 1) := by decide +kernel
theorem dX3_accepts_20 : decode cX3_accepts 20 = .ok (.bipush 47, 2) := by decide +kernel
theorem dX3_accepts_22 : decode cX3_accepts 22 = .ok (.if_icmp .ne 8, 3) := by decide +kernel
theorem dX3_accepts_25 : decode cX3_accepts 25 = .ok (.aload_n 0, 1) := by decide +kernel
theorem dX3_accepts_26 : decode cX3_accepts 26 = .ok (.invokevirtual 44, 3) := by decide +kernel
theorem dX3_accepts_29 : decode cX3_accepts 29 = .ok (.ireturn, 1) := by decide +kernel
theorem dX3_accepts_30 : decode cX3_accepts 30 = .ok (.iload_n 1, 1) := by decide +kernel
theorem dX3_accepts_31 : decode cX3_accepts 31 = .ok (.bipush 44, 2) := by decide +kernel
theorem dX3_accepts_33 : decode cX3_accepts 33 = .ok (.if_icmp .ne 8, 3) := by decide +kernel
theorem dX3_accepts_36 : decode cX3_accepts 36 = .ok (.aload_n 0, 1) := by decide +kernel
theorem dX3_accepts_37 : decode cX3_accepts 37 = .ok (.invokevirtual 48, 3) := by decide +kernel
theorem dX3_accepts_40 : decode cX3_accepts 40 = .ok (.ireturn, 1) := by decide +kernel
theorem dX3_accepts_41 : decode cX3_accepts 41 = .ok (.aload_n 0, 1) := by decide +kernel
theorem dX3_accepts_42 : decode cX3_accepts 42 = .ok (.ldc 51, 2) := by decide +kernel
theorem dX3_accepts_44 : decode cX3_accepts 44 = .ok (.iload_n 1, 1) := by decide +kernel
theorem dX3_accepts_45 : decode cX3_accepts 45 = .ok (.i2c, 1) := by decide +kernel
theorem dX3_accepts_46 : decode cX3_accepts 46 = .ok (.invokevirtual 34, 3) := by decide +kernel
theorem dX3_accepts_49 : decode cX3_accepts 49 = .ok (.invokevirtual 53, 3) := by decide +kernel
theorem dX3_accepts_52 : decode cX3_accepts 52 = .ok (.ireturn, 1) := by decide +kernel
set_option maxRecDepth 20000 in
theorem ggX3_finish_X3_setIsWhole : GoodIn wsX3_finish wsX3_setIsWhole := goodIn_r _ [10, 3, 2, 4, 11, 12, 13, 9, 14, 15, 16, 17, 23, 24, 25, 26, 27, 28, 29, 30, 31, 32, 33, 34] (by decide +kernel) (by decide +kernel)
set_option maxRecDepth 20000 in
theorem gX3_finish_X3_setIsWhole : GoodIn wsX3_finish (wsV RX3 56 RX3 yX3_setIsWhole wsX3_setIsWhole) := goodIn_app (goodIn_of _ (by decide +kernel)) ggX3_finish_X3_setIsWhole
set_option maxRecDepth 20000 in
theorem ggX3_finish_X3_closeWord : GoodIn wsX3_finish wsX3_closeWord := goodIn_r _ [21, 2, 16, 17, 15, 22, 5, 23, 24, 25, 26, 27, 28, 29, 30, 31, 32, 33, 34] (by decide +kernel) (by decide +kernel)
set_option maxRecDepth 20000 in
theorem gX3_finish_X3_closeWord : GoodIn wsX3_finish (wsV RX3 59 RX3 yX3_closeWord wsX3_closeWord) := goodIn_app (goodIn_of _ (by decide +kernel)) ggX3_finish_X3_closeWord
theorem dX3_finish_0 : decode cX3_finish 0 = .ok (.aload_n 0, 1) := by decide +kernel
theorem dX3_finish_1 : decode cX3_finish 1 = .ok (.getfield 25, 3) := by decide +kernel
theorem dX3_finish_4 : decode cX3_finish 4 = .ok (.ifCond .ne 10, 3) := by decide +kernel
theorem dX3_finish_7 : decode cX3_finish 7 = .ok (.aload_n 0, 1) := by decide +kernel
theorem dX3_finish_8 : decode cX3_finish 8 = .ok (.invokevirtual 56, 3) := by decide +kernel
theorem dX3_finish_11 : decode cX3_finish 11 = .ok (.ifCond .ne 5, 3) := by decide +kernel
theorem dX3_finish_14 : decode cX3_finish 14 = .ok (.iconst 0, 1) := by decide +kernel
theorem dX3_finish_15 : decode cX3_finish 15 = .ok (.ireturn, 1) := by decide +kernel
theorem dX3_finish_16 : decode cX3_finish 16 = .ok (.aload_n 0, 1) := by decide +kernel
theorem dX3_finish_17 : decode cX3_finish 17 = .ok (.invokevirtual 59, 3) := by decide +kernel
theorem dX3_finish_20 : decode cX3_finish 20 = .ok (.aload_n 0, 1) := by decide +kernel
theorem dX3_finish_21 : decode cX3_finish 21 = .ok (.getfield 12, 3) := by decide +kernel
theorem dX3_finish_24 : decode cX3_finish 24 = .ok (.aload_n 0, 1) := by decide +kernel
theorem dX3_finish_25 : decode cX3_finish 25 = .ok (.getfield 62, 3) := by decide +kernel
theorem dX3_finish_28 : decode cX3_finish 28 = .ok (.iconst 1, 1) := by decide +kernel
theorem dX3_finish_29 : decode cX3_finish 29 = .ok (.iadd, 1) := by decide +kernel
theorem dX3_finish_30 : decode cX3_finish 30 = .ok (.putfield 22, 3) := by decide +kernel
theorem dX3_finish_33 : decode cX3_finish 33 = .ok (.aload_n 0, 1) := by decide +kernel
theorem dX3_finish_34 : decode cX3_finish 34 = .ok (.getfield 29, 3) := by decide +kernel
theorem dX3_finish_37 : decode cX3_finish 37 = .ok (.ifCond .ne 7, 3) := by decide +kernel
theorem dX3_finish_40 : decode cX3_finish 40 = .ok (.iconst 1, 1) := by decide +kernel
theorem dX3_finish_41 : decode cX3_finish 41 = .ok (.goto 4, 3) := by decide +kernel
theorem dX3_finish_44 : decode cX3_finish 44 = .ok (.iconst 0, 1) := by decide +kernel
theorem dX3_finish_45 : decode cX3_finish 45 = .ok (.ireturn, 1) := by decide +kernel
set_option maxRecDepth 20000 in
theorem ggX3_acceptsKind_X3_openWord : GoodIn wsX3_acceptsKind wsX3_openWord := goodIn_r _ [11, 12, 13, 14, 15, 16, 17, 18, 19, 20] (by decide +kernel) (by decide +kernel)
set_option maxRecDepth 20000 in
theorem gX3_acceptsKind_X3_openWord : GoodIn wsX3_acceptsKind (wsV RX3 72 RX3 yX3_openWord wsX3_openWord) := goodIn_app (goodIn_of _ (by decide +kernel)) ggX3_acceptsKind_X3_openWord
theorem dX3_acceptsKind_0 : decode cX3_acceptsKind 0 = .ok (.iload_n 1, 1) := by decide +kernel
theorem dX3_acceptsKind_1 : decode cX3_acceptsKind 1 = .ok (.ifCond .ge 5, 3) := by decide +kernel
theorem dX3_acceptsKind_4 : decode cX3_acceptsKind 4 = .ok (.iconst 0, 1) := by decide +kernel
theorem dX3_acceptsKind_5 : decode cX3_acceptsKind 5 = .ok (.ireturn, 1) := by decide +kernel
theorem dX3_acceptsKind_6 : decode cX3_acceptsKind 6 = .ok (.aload_n 0, 1) := by decide +kernel
theorem dX3_acceptsKind_7 : decode cX3_acceptsKind 7 = .ok (.aload_n 0, 1) := by decide +kernel
theorem dX3_acceptsKind_8 : decode cX3_acceptsKind 8 = .ok (.getfield 12, 3) := by decide +kernel
theorem dX3_acceptsKind_11 : decode cX3_acceptsKind 11 = .ok (.getfield 18, 3) := by decide +kernel
theorem dX3_acceptsKind_14 : decode cX3_acceptsKind 14 = .ok (.putfield 65, 3) := by decide +kernel
theorem dX3_acceptsKind_17 : decode cX3_acceptsKind 17 = .ok (.aload_n 0, 1) := by decide +kernel
theorem dX3_acceptsKind_18 : decode cX3_acceptsKind 18 = .ok (.getfield 12, 3) := by decide +kernel
theorem dX3_acceptsKind_21 : decode cX3_acceptsKind 21 = .ok (.dup, 1) := by decide +kernel
theorem dX3_acceptsKind_22 : decode cX3_acceptsKind 22 = .ok (.getfield 18, 3) := by decide +kernel
theorem dX3_acceptsKind_25 : decode cX3_acceptsKind 25 = .ok (.iconst 1, 1) := by decide +kernel
theorem dX3_acceptsKind_26 : decode cX3_acceptsKind 26 = .ok (.iadd, 1) := by decide +kernel
theorem dX3_acceptsKind_27 : decode cX3_acceptsKind 27 = .ok (.putfield 18, 3) := by decide +kernel
theorem dX3_acceptsKind_30 : decode cX3_acceptsKind 30 = .ok (.aload_n 0, 1) := by decide +kernel
theorem dX3_acceptsKind_31 : decode cX3_acceptsKind 31 = .ok (.getfield 12, 3) := by decide +kernel
theorem dX3_acceptsKind_34 : decode cX3_acceptsKind 34 = .ok (.getfield 68, 3) := by decide +kernel
theorem dX3_acceptsKind_37 : decode cX3_acceptsKind 37 = .ok (.aload_n 0, 1) := by decide +kernel
theorem dX3_acceptsKind_38 : decode cX3_acceptsKind 38 = .ok (.getfield 65, 3) := by decide +kernel
theorem dX3_acceptsKind_41 : decode cX3_acceptsKind 41 = .ok (.iload_n 1, 1) := by decide +kernel
theorem dX3_acceptsKind_42 : decode cX3_acceptsKind 42 = .ok (.iastore, 1) := by decide +kernel
theorem dX3_acceptsKind_43 : decode cX3_acceptsKind 43 = .ok (.aload_n 0, 1) := by decide +kernel
theorem dX3_acceptsKind_44 : decode cX3_acceptsKind 44 = .ok (.iconst 0, 1) := by decide +kernel
theorem dX3_acceptsKind_45 : decode cX3_acceptsKind 45 = .ok (.putfield 62, 3) := by decide +kernel
theorem dX3_acceptsKind_48 : decode cX3_acceptsKind 48 = .ok (.aload_n 0, 1) := by decide +kernel
theorem dX3_acceptsKind_49 : decode cX3_acceptsKind 49 = .ok (.invokevirtual 72, 3) := by decide +kernel
theorem dX3_acceptsKind_52 : decode cX3_acceptsKind 52 = .ok (.aload_n 0, 1) := by decide +kernel
theorem dX3_acceptsKind_53 : decode cX3_acceptsKind 53 = .ok (.iconst 0, 1) := by decide +kernel
theorem dX3_acceptsKind_54 : decode cX3_acceptsKind 54 = .ok (.putfield 25, 3) := by decide +kernel
theorem dX3_acceptsKind_57 : decode cX3_acceptsKind 57 = .ok (.iconst 1, 1) := by decide +kernel
theorem dX3_acceptsKind_58 : decode cX3_acceptsKind 58 = .ok (.ireturn, 1) := by decide +kernel
set_option maxRecDepth 20000 in
theorem ggX3_acceptsSound_X8_wordAt : GoodIn wsX3_acceptsSound wsX8_wordAt := goodIn_r _ [10] (by decide +kernel) (by decide +kernel)
set_option maxRecDepth 20000 in
theorem gX3_acceptsSound_X8_wordAt_n84 : GoodIn wsX3_acceptsSound (wsX8_wordAt) := ggX3_acceptsSound_X8_wordAt
theorem dX3_acceptsSound_0 : decode cX3_acceptsSound 0 = .ok (.aload_n 0, 1) := by decide +kernel
theorem dX3_acceptsSound_1 : decode cX3_acceptsSound 1 = .ok (.getfield 62, 3) := by decide +kernel
theorem dX3_acceptsSound_4 : decode cX3_acceptsSound 4 = .ok (.ifCond .ne 7, 3) := by decide +kernel
theorem dX3_acceptsSound_7 : decode cX3_acceptsSound 7 = .ok (.iconst 4, 1) := by decide +kernel
theorem dX3_acceptsSound_8 : decode cX3_acceptsSound 8 = .ok (.goto 15, 3) := by decide +kernel
theorem dX3_acceptsSound_11 : decode cX3_acceptsSound 11 = .ok (.aload_n 0, 1) := by decide +kernel
theorem dX3_acceptsSound_12 : decode cX3_acceptsSound 12 = .ok (.getfield 12, 3) := by decide +kernel
theorem dX3_acceptsSound_15 : decode cX3_acceptsSound 15 = .ok (.getfield 75, 3) := by decide +kernel
theorem dX3_acceptsSound_18 : decode cX3_acceptsSound 18 = .ok (.aload_n 0, 1) := by decide +kernel
theorem dX3_acceptsSound_19 : decode cX3_acceptsSound 19 = .ok (.getfield 65, 3) := by decide +kernel
theorem dX3_acceptsSound_22 : decode cX3_acceptsSound 22 = .ok (.iaload, 1) := by decide +kernel
theorem dX3_acceptsSound_23 : decode cX3_acceptsSound 23 = .ok (.istore_n 2, 1) := by decide +kernel
theorem dX3_acceptsSound_24 : decode cX3_acceptsSound 24 = .ok (.iload_n 1, 1) := by decide +kernel
theorem dX3_acceptsSound_25 : decode cX3_acceptsSound 25 = .ok (.ifCond .lt 11, 3) := by decide +kernel
theorem dX3_acceptsSound_28 : decode cX3_acceptsSound 28 = .ok (.aload_n 0, 1) := by decide +kernel
theorem dX3_acceptsSound_29 : decode cX3_acceptsSound 29 = .ok (.getfield 78, 3) := by decide +kernel
theorem dX3_acceptsSound_32 : decode cX3_acceptsSound 32 = .ok (.iload_n 2, 1) := by decide +kernel
theorem dX3_acceptsSound_33 : decode cX3_acceptsSound 33 = .ok (.if_icmp .lt 5, 3) := by decide +kernel
theorem dX3_acceptsSound_36 : decode cX3_acceptsSound 36 = .ok (.iconst 0, 1) := by decide +kernel
theorem dX3_acceptsSound_37 : decode cX3_acceptsSound 37 = .ok (.ireturn, 1) := by decide +kernel
theorem dX3_acceptsSound_38 : decode cX3_acceptsSound 38 = .ok (.aload_n 0, 1) := by decide +kernel
theorem dX3_acceptsSound_39 : decode cX3_acceptsSound 39 = .ok (.getfield 12, 3) := by decide +kernel
theorem dX3_acceptsSound_42 : decode cX3_acceptsSound 42 = .ok (.getfield 81, 3) := by decide +kernel
theorem dX3_acceptsSound_45 : decode cX3_acceptsSound 45 = .ok (.aload_n 0, 1) := by decide +kernel
theorem dX3_acceptsSound_46 : decode cX3_acceptsSound 46 = .ok (.getfield 65, 3) := by decide +kernel
theorem dX3_acceptsSound_49 : decode cX3_acceptsSound 49 = .ok (.aload_n 0, 1) := by decide +kernel
theorem dX3_acceptsSound_50 : decode cX3_acceptsSound 50 = .ok (.getfield 62, 3) := by decide +kernel
theorem dX3_acceptsSound_53 : decode cX3_acceptsSound 53 = .ok (.invokestatic 84, 3) := by decide +kernel
theorem dX3_acceptsSound_56 : decode cX3_acceptsSound 56 = .ok (.aload_n 0, 1) := by decide +kernel
theorem dX3_acceptsSound_57 : decode cX3_acceptsSound 57 = .ok (.getfield 78, 3) := by decide +kernel
theorem dX3_acceptsSound_60 : decode cX3_acceptsSound 60 = .ok (.iadd, 1) := by decide +kernel
theorem dX3_acceptsSound_61 : decode cX3_acceptsSound 61 = .ok (.iload_n 1, 1) := by decide +kernel
theorem dX3_acceptsSound_62 : decode cX3_acceptsSound 62 = .ok (.iastore, 1) := by decide +kernel
theorem dX3_acceptsSound_63 : decode cX3_acceptsSound 63 = .ok (.aload_n 0, 1) := by decide +kernel
theorem dX3_acceptsSound_64 : decode cX3_acceptsSound 64 = .ok (.dup, 1) := by decide +kernel
theorem dX3_acceptsSound_65 : decode cX3_acceptsSound 65 = .ok (.getfield 78, 3) := by decide +kernel
theorem dX3_acceptsSound_68 : decode cX3_acceptsSound 68 = .ok (.iconst 1, 1) := by decide +kernel
theorem dX3_acceptsSound_69 : decode cX3_acceptsSound 69 = .ok (.iadd, 1) := by decide +kernel
theorem dX3_acceptsSound_70 : decode cX3_acceptsSound 70 = .ok (.putfield 78, 3) := by decide +kernel
theorem dX3_acceptsSound_73 : decode cX3_acceptsSound 73 = .ok (.iload_n 1, 1) := by decide +kernel
theorem dX3_acceptsSound_74 : decode cX3_acceptsSound 74 = .ok (.ifCond .eq 8, 3) := by decide +kernel
theorem dX3_acceptsSound_77 : decode cX3_acceptsSound 77 = .ok (.aload_n 0, 1) := by decide +kernel
theorem dX3_acceptsSound_78 : decode cX3_acceptsSound 78 = .ok (.iconst 0, 1) := by decide +kernel
theorem dX3_acceptsSound_79 : decode cX3_acceptsSound 79 = .ok (.putfield 88, 3) := by decide +kernel
theorem dX3_acceptsSound_82 : decode cX3_acceptsSound 82 = .ok (.iconst 1, 1) := by decide +kernel
theorem dX3_acceptsSound_83 : decode cX3_acceptsSound 83 = .ok (.ireturn, 1) := by decide +kernel
set_option maxRecDepth 20000 in
theorem ggX3_endsWord_X3_wordIsWhole : GoodIn wsX3_endsWord wsX3_wordIsWhole := goodIn_r _ [8, 3, 9, 1, 10, 11, 22, 23, 24, 25, 26, 27, 28, 29, 30, 31, 32, 33] (by decide +kernel) (by decide +kernel)
set_option maxRecDepth 20000 in
theorem gX3_endsWord_X3_wordIsWhole : GoodIn wsX3_endsWord (wsV RX3 91 RX3 yX3_wordIsWhole wsX3_wordIsWhole) := goodIn_app (goodIn_of _ (by decide +kernel)) ggX3_endsWord_X3_wordIsWhole
set_option maxRecDepth 20000 in
theorem ggX3_endsWord_X3_closeWord : GoodIn wsX3_endsWord wsX3_closeWord := goodIn_r _ [15, 1, 10, 11, 9, 16, 17, 22, 23, 24, 25, 26, 27, 28, 29, 30, 31, 32, 33] (by decide +kernel) (by decide +kernel)
set_option maxRecDepth 20000 in
theorem gX3_endsWord_X3_closeWord : GoodIn wsX3_endsWord (wsV RX3 59 RX3 yX3_closeWord wsX3_closeWord) := goodIn_app (goodIn_of _ (by decide +kernel)) ggX3_endsWord_X3_closeWord
set_option maxRecDepth 20000 in
theorem ggX3_endsWord_X3_openWord : GoodIn wsX3_endsWord wsX3_openWord := goodIn_r _ [21, 9, 16, 22, 23, 24, 25, 26, 27, 28] (by decide +kernel) (by decide +kernel)
set_option maxRecDepth 20000 in
theorem gX3_endsWord_X3_openWord : GoodIn wsX3_endsWord (wsV RX3 72 RX3 yX3_openWord wsX3_openWord) := goodIn_app (goodIn_of _ (by decide +kernel)) ggX3_endsWord_X3_openWord
theorem dX3_endsWord_0 : decode cX3_endsWord 0 = .ok (.aload_n 0, 1) := by decide +kernel
theorem dX3_endsWord_1 : decode cX3_endsWord 1 = .ok (.getfield 12, 3) := by decide +kernel
theorem dX3_endsWord_4 : decode cX3_endsWord 4 = .ok (.getfield 22, 3) := by decide +kernel
theorem dX3_endsWord_7 : decode cX3_endsWord 7 = .ok (.ifCond .ne 7, 3) := by decide +kernel
theorem dX3_endsWord_10 : decode cX3_endsWord 10 = .ok (.iconst 4, 1) := by decide +kernel
theorem dX3_endsWord_11 : decode cX3_endsWord 11 = .ok (.goto 10, 3) := by decide +kernel
theorem dX3_endsWord_14 : decode cX3_endsWord 14 = .ok (.aload_n 0, 1) := by decide +kernel
theorem dX3_endsWord_15 : decode cX3_endsWord 15 = .ok (.getfield 12, 3) := by decide +kernel
theorem dX3_endsWord_18 : decode cX3_endsWord 18 = .ok (.getfield 22, 3) := by decide +kernel
theorem dX3_endsWord_21 : decode cX3_endsWord 21 = .ok (.istore_n 1, 1) := by decide +kernel
theorem dX3_endsWord_22 : decode cX3_endsWord 22 = .ok (.aload_n 0, 1) := by decide +kernel
theorem dX3_endsWord_23 : decode cX3_endsWord 23 = .ok (.invokevirtual 91, 3) := by decide +kernel
theorem dX3_endsWord_26 : decode cX3_endsWord 26 = .ok (.ifCond .eq 13, 3) := by decide +kernel
theorem dX3_endsWord_29 : decode cX3_endsWord 29 = .ok (.aload_n 0, 1) := by decide +kernel
theorem dX3_endsWord_30 : decode cX3_endsWord 30 = .ok (.getfield 62, 3) := by decide +kernel
theorem dX3_endsWord_33 : decode cX3_endsWord 33 = .ok (.iconst 1, 1) := by decide +kernel
theorem dX3_endsWord_34 : decode cX3_endsWord 34 = .ok (.iadd, 1) := by decide +kernel
theorem dX3_endsWord_35 : decode cX3_endsWord 35 = .ok (.iload_n 1, 1) := by decide +kernel
theorem dX3_endsWord_36 : decode cX3_endsWord 36 = .ok (.if_icmp .lt 5, 3) := by decide +kernel
theorem dX3_endsWord_39 : decode cX3_endsWord 39 = .ok (.iconst 0, 1) := by decide +kernel
theorem dX3_endsWord_40 : decode cX3_endsWord 40 = .ok (.ireturn, 1) := by decide +kernel
theorem dX3_endsWord_41 : decode cX3_endsWord 41 = .ok (.aload_n 0, 1) := by decide +kernel
theorem dX3_endsWord_42 : decode cX3_endsWord 42 = .ok (.invokevirtual 59, 3) := by decide +kernel
theorem dX3_endsWord_45 : decode cX3_endsWord 45 = .ok (.aload_n 0, 1) := by decide +kernel
theorem dX3_endsWord_46 : decode cX3_endsWord 46 = .ok (.dup, 1) := by decide +kernel
theorem dX3_endsWord_47 : decode cX3_endsWord 47 = .ok (.getfield 62, 3) := by decide +kernel
theorem dX3_endsWord_50 : decode cX3_endsWord 50 = .ok (.iconst 1, 1) := by decide +kernel
theorem dX3_endsWord_51 : decode cX3_endsWord 51 = .ok (.iadd, 1) := by decide +kernel
theorem dX3_endsWord_52 : decode cX3_endsWord 52 = .ok (.putfield 62, 3) := by decide +kernel
theorem dX3_endsWord_55 : decode cX3_endsWord 55 = .ok (.aload_n 0, 1) := by decide +kernel
theorem dX3_endsWord_56 : decode cX3_endsWord 56 = .ok (.invokevirtual 72, 3) := by decide +kernel
theorem dX3_endsWord_59 : decode cX3_endsWord 59 = .ok (.iconst 1, 1) := by decide +kernel
theorem dX3_endsWord_60 : decode cX3_endsWord 60 = .ok (.ireturn, 1) := by decide +kernel
set_option maxRecDepth 20000 in
theorem ggX3_endsSet_X3_setIsWhole : GoodIn wsX3_endsSet wsX3_setIsWhole := goodIn_r _ [10, 3, 1, 4, 11, 12, 13, 9, 14, 15, 16, 17, 24, 25, 26, 27, 28, 29, 30, 31, 32, 33, 34, 35] (by decide +kernel) (by decide +kernel)
set_option maxRecDepth 20000 in
theorem gX3_endsSet_X3_setIsWhole : GoodIn wsX3_endsSet (wsV RX3 56 RX3 yX3_setIsWhole wsX3_setIsWhole) := goodIn_app (goodIn_of _ (by decide +kernel)) ggX3_endsSet_X3_setIsWhole
set_option maxRecDepth 20000 in
theorem ggX3_endsSet_X3_closeWord : GoodIn wsX3_endsSet wsX3_closeWord := goodIn_r _ [21, 1, 16, 17, 15, 22, 23, 24, 25, 26, 27, 28, 29, 30, 31, 32, 33, 34, 35] (by decide +kernel) (by decide +kernel)
set_option maxRecDepth 20000 in
theorem gX3_endsSet_X3_closeWord : GoodIn wsX3_endsSet (wsV RX3 59 RX3 yX3_closeWord wsX3_closeWord) := goodIn_app (goodIn_of _ (by decide +kernel)) ggX3_endsSet_X3_closeWord
theorem dX3_endsSet_0 : decode cX3_endsSet 0 = .ok (.aload_n 0, 1) := by decide +kernel
theorem dX3_endsSet_1 : decode cX3_endsSet 1 = .ok (.invokevirtual 56, 3) := by decide +kernel
theorem dX3_endsSet_4 : decode cX3_endsSet 4 = .ok (.ifCond .eq 14, 3) := by decide +kernel
theorem dX3_endsSet_7 : decode cX3_endsSet 7 = .ok (.aload_n 0, 1) := by decide +kernel
theorem dX3_endsSet_8 : decode cX3_endsSet 8 = .ok (.getfield 12, 3) := by decide +kernel
theorem dX3_endsSet_11 : decode cX3_endsSet 11 = .ok (.getfield 18, 3) := by decide +kernel
theorem dX3_endsSet_14 : decode cX3_endsSet 14 = .ok (.iconst 5, 1) := by decide +kernel
theorem dX3_endsSet_15 : decode cX3_endsSet 15 = .ok (.if_icmp .lt 5, 3) := by decide +kernel
theorem dX3_endsSet_18 : decode cX3_endsSet 18 = .ok (.iconst 0, 1) := by decide +kernel
theorem dX3_endsSet_19 : decode cX3_endsSet 19 = .ok (.ireturn, 1) := by decide +kernel
theorem dX3_endsSet_20 : decode cX3_endsSet 20 = .ok (.aload_n 0, 1) := by decide +kernel
theorem dX3_endsSet_21 : decode cX3_endsSet 21 = .ok (.invokevirtual 59, 3) := by decide +kernel
theorem dX3_endsSet_24 : decode cX3_endsSet 24 = .ok (.aload_n 0, 1) := by decide +kernel
theorem dX3_endsSet_25 : decode cX3_endsSet 25 = .ok (.getfield 12, 3) := by decide +kernel
theorem dX3_endsSet_28 : decode cX3_endsSet 28 = .ok (.aload_n 0, 1) := by decide +kernel
theorem dX3_endsSet_29 : decode cX3_endsSet 29 = .ok (.getfield 62, 3) := by decide +kernel
theorem dX3_endsSet_32 : decode cX3_endsSet 32 = .ok (.iconst 1, 1) := by decide +kernel
theorem dX3_endsSet_33 : decode cX3_endsSet 33 = .ok (.iadd, 1) := by decide +kernel
theorem dX3_endsSet_34 : decode cX3_endsSet 34 = .ok (.putfield 22, 3) := by decide +kernel
theorem dX3_endsSet_37 : decode cX3_endsSet 37 = .ok (.aload_n 0, 1) := by decide +kernel
theorem dX3_endsSet_38 : decode cX3_endsSet 38 = .ok (.iconst 1, 1) := by decide +kernel
theorem dX3_endsSet_39 : decode cX3_endsSet 39 = .ok (.putfield 25, 3) := by decide +kernel
theorem dX3_endsSet_42 : decode cX3_endsSet 42 = .ok (.iconst 1, 1) := by decide +kernel
theorem dX3_endsSet_43 : decode cX3_endsSet 43 = .ok (.ireturn, 1) := by decide +kernel
theorem dX3_wordIsWhole_0 : decode cX3_wordIsWhole 0 = .ok (.aload_n 0, 1) := by decide +kernel
theorem dX3_wordIsWhole_1 : decode cX3_wordIsWhole 1 = .ok (.getfield 62, 3) := by decide +kernel
theorem dX3_wordIsWhole_4 : decode cX3_wordIsWhole 4 = .ok (.ifCond .ne 18, 3) := by decide +kernel
theorem dX3_wordIsWhole_7 : decode cX3_wordIsWhole 7 = .ok (.aload_n 0, 1) := by decide +kernel
theorem dX3_wordIsWhole_8 : decode cX3_wordIsWhole 8 = .ok (.getfield 78, 3) := by decide +kernel
theorem dX3_wordIsWhole_11 : decode cX3_wordIsWhole 11 = .ok (.ifCond .le 7, 3) := by decide +kernel
theorem dX3_wordIsWhole_14 : decode cX3_wordIsWhole 14 = .ok (.iconst 1, 1) := by decide +kernel
theorem dX3_wordIsWhole_15 : decode cX3_wordIsWhole 15 = .ok (.goto 31, 3) := by decide +kernel
theorem dX3_wordIsWhole_18 : decode cX3_wordIsWhole 18 = .ok (.iconst 0, 1) := by decide +kernel
theorem dX3_wordIsWhole_19 : decode cX3_wordIsWhole 19 = .ok (.goto 27, 3) := by decide +kernel
theorem dX3_wordIsWhole_22 : decode cX3_wordIsWhole 22 = .ok (.aload_n 0, 1) := by decide +kernel
theorem dX3_wordIsWhole_23 : decode cX3_wordIsWhole 23 = .ok (.getfield 78, 3) := by decide +kernel
theorem dX3_wordIsWhole_26 : decode cX3_wordIsWhole 26 = .ok (.aload_n 0, 1) := by decide +kernel
theorem dX3_wordIsWhole_27 : decode cX3_wordIsWhole 27 = .ok (.getfield 12, 3) := by decide +kernel
theorem dX3_wordIsWhole_30 : decode cX3_wordIsWhole 30 = .ok (.getfield 75, 3) := by decide +kernel
theorem dX3_wordIsWhole_33 : decode cX3_wordIsWhole 33 = .ok (.aload_n 0, 1) := by decide +kernel
theorem dX3_wordIsWhole_34 : decode cX3_wordIsWhole 34 = .ok (.getfield 65, 3) := by decide +kernel
theorem dX3_wordIsWhole_37 : decode cX3_wordIsWhole 37 = .ok (.iaload, 1) := by decide +kernel
theorem dX3_wordIsWhole_38 : decode cX3_wordIsWhole 38 = .ok (.if_icmp .ne 7, 3) := by decide +kernel
theorem dX3_wordIsWhole_41 : decode cX3_wordIsWhole 41 = .ok (.iconst 1, 1) := by decide +kernel
theorem dX3_wordIsWhole_42 : decode cX3_wordIsWhole 42 = .ok (.goto 4, 3) := by decide +kernel
theorem dX3_wordIsWhole_45 : decode cX3_wordIsWhole 45 = .ok (.iconst 0, 1) := by decide +kernel
theorem dX3_wordIsWhole_46 : decode cX3_wordIsWhole 46 = .ok (.ireturn, 1) := by decide +kernel
set_option maxRecDepth 20000 in
theorem ggX3_setIsWhole_X3_wordIsWhole : GoodIn wsX3_setIsWhole wsX3_wordIsWhole := goodIn_r _ [8, 1, 9, 2, 10, 11, 12, 13, 14, 15, 16, 17, 18, 19, 20, 21, 22, 23] (by decide +kernel) (by decide +kernel)
set_option maxRecDepth 20000 in
theorem gX3_setIsWhole_X3_wordIsWhole : GoodIn wsX3_setIsWhole (wsV RX3 91 RX3 yX3_wordIsWhole wsX3_wordIsWhole) := goodIn_app (goodIn_of _ (by decide +kernel)) ggX3_setIsWhole_X3_wordIsWhole
theorem dX3_setIsWhole_0 : decode cX3_setIsWhole 0 = .ok (.aload_n 0, 1) := by decide +kernel
theorem dX3_setIsWhole_1 : decode cX3_setIsWhole 1 = .ok (.getfield 62, 3) := by decide +kernel
theorem dX3_setIsWhole_4 : decode cX3_setIsWhole 4 = .ok (.iconst 1, 1) := by decide +kernel
theorem dX3_setIsWhole_5 : decode cX3_setIsWhole 5 = .ok (.iadd, 1) := by decide +kernel
theorem dX3_setIsWhole_6 : decode cX3_setIsWhole 6 = .ok (.istore_n 1, 1) := by decide +kernel
theorem dX3_setIsWhole_7 : decode cX3_setIsWhole 7 = .ok (.aload_n 0, 1) := by decide +kernel
theorem dX3_setIsWhole_8 : decode cX3_setIsWhole 8 = .ok (.invokevirtual 91, 3) := by decide +kernel
theorem dX3_setIsWhole_11 : decode cX3_setIsWhole 11 = .ok (.ifCond .eq 8, 3) := by decide +kernel
theorem dX3_setIsWhole_14 : decode cX3_setIsWhole 14 = .ok (.iload_n 1, 1) := by decide +kernel
theorem dX3_setIsWhole_15 : decode cX3_setIsWhole 15 = .ok (.iconst 2, 1) := by decide +kernel
theorem dX3_setIsWhole_16 : decode cX3_setIsWhole 16 = .ok (.if_icmp .ge 5, 3) := by decide +kernel
theorem dX3_setIsWhole_19 : decode cX3_setIsWhole 19 = .ok (.iconst 0, 1) := by decide +kernel
theorem dX3_setIsWhole_20 : decode cX3_setIsWhole 20 = .ok (.ireturn, 1) := by decide +kernel
theorem dX3_setIsWhole_21 : decode cX3_setIsWhole 21 = .ok (.aload_n 0, 1) := by decide +kernel
theorem dX3_setIsWhole_22 : decode cX3_setIsWhole 22 = .ok (.getfield 12, 3) := by decide +kernel
theorem dX3_setIsWhole_25 : decode cX3_setIsWhole 25 = .ok (.getfield 22, 3) := by decide +kernel
theorem dX3_setIsWhole_28 : decode cX3_setIsWhole 28 = .ok (.ifCond .eq 14, 3) := by decide +kernel
theorem dX3_setIsWhole_31 : decode cX3_setIsWhole 31 = .ok (.iload_n 1, 1) := by decide +kernel
theorem dX3_setIsWhole_32 : decode cX3_setIsWhole 32 = .ok (.aload_n 0, 1) := by decide +kernel
theorem dX3_setIsWhole_33 : decode cX3_setIsWhole 33 = .ok (.getfield 12, 3) := by decide +kernel
theorem dX3_setIsWhole_36 : decode cX3_setIsWhole 36 = .ok (.getfield 22, 3) := by decide +kernel
theorem dX3_setIsWhole_39 : decode cX3_setIsWhole 39 = .ok (.if_icmp .ne 7, 3) := by decide +kernel
theorem dX3_setIsWhole_42 : decode cX3_setIsWhole 42 = .ok (.iconst 1, 1) := by decide +kernel
theorem dX3_setIsWhole_43 : decode cX3_setIsWhole 43 = .ok (.goto 4, 3) := by decide +kernel
theorem dX3_setIsWhole_46 : decode cX3_setIsWhole 46 = .ok (.iconst 0, 1) := by decide +kernel
theorem dX3_setIsWhole_47 : decode cX3_setIsWhole 47 = .ok (.ireturn, 1) := by decide +kernel
theorem dX3_openWord_0 : decode cX3_openWord 0 = .ok (.aload_n 0, 1) := by decide +kernel
theorem dX3_openWord_1 : decode cX3_openWord 1 = .ok (.iconst 0, 1) := by decide +kernel
theorem dX3_openWord_2 : decode cX3_openWord 2 = .ok (.putfield 78, 3) := by decide +kernel
theorem dX3_openWord_5 : decode cX3_openWord 5 = .ok (.aload_n 0, 1) := by decide +kernel
theorem dX3_openWord_6 : decode cX3_openWord 6 = .ok (.iconst 1, 1) := by decide +kernel
theorem dX3_openWord_7 : decode cX3_openWord 7 = .ok (.putfield 88, 3) := by decide +kernel
theorem dX3_openWord_10 : decode cX3_openWord 10 = .ok (.return_, 1) := by decide +kernel
theorem dX3_closeWord_0 : decode cX3_closeWord 0 = .ok (.aload_n 0, 1) := by decide +kernel
theorem dX3_closeWord_1 : decode cX3_closeWord 1 = .ok (.getfield 12, 3) := by decide +kernel
theorem dX3_closeWord_4 : decode cX3_closeWord 4 = .ok (.getfield 75, 3) := by decide +kernel
theorem dX3_closeWord_7 : decode cX3_closeWord 7 = .ok (.aload_n 0, 1) := by decide +kernel
theorem dX3_closeWord_8 : decode cX3_closeWord 8 = .ok (.getfield 65, 3) := by decide +kernel
theorem dX3_closeWord_11 : decode cX3_closeWord 11 = .ok (.aload_n 0, 1) := by decide +kernel
theorem dX3_closeWord_12 : decode cX3_closeWord 12 = .ok (.getfield 78, 3) := by decide +kernel
theorem dX3_closeWord_15 : decode cX3_closeWord 15 = .ok (.iastore, 1) := by decide +kernel
theorem dX3_closeWord_16 : decode cX3_closeWord 16 = .ok (.aload_n 0, 1) := by decide +kernel
theorem dX3_closeWord_17 : decode cX3_closeWord 17 = .ok (.getfield 88, 3) := by decide +kernel
theorem dX3_closeWord_20 : decode cX3_closeWord 20 = .ok (.ifCond .eq 8, 3) := by decide +kernel
theorem dX3_closeWord_23 : decode cX3_closeWord 23 = .ok (.aload_n 0, 1) := by decide +kernel
theorem dX3_closeWord_24 : decode cX3_closeWord 24 = .ok (.iconst 1, 1) := by decide +kernel
theorem dX3_closeWord_25 : decode cX3_closeWord 25 = .ok (.putfield 29, 3) := by decide +kernel
theorem dX3_closeWord_28 : decode cX3_closeWord 28 = .ok (.return_, 1) := by decide +kernel
theorem dX4_init_0 : decode cX4_init 0 = .ok (.aload_n 0, 1) := by decide +kernel
theorem dX4_init_1 : decode cX4_init 1 = .ok (.invokespecial 3, 3) := by decide +kernel
theorem dX4_init_4 : decode cX4_init 4 = .ok (.aload_n 0, 1) := by decide +kernel
theorem dX4_init_5 : decode cX4_init 5 = .ok (.bipush 6, 2) := by decide +kernel
theorem dX4_init_7 : decode cX4_init 7 = .ok (.newarray .int, 2) := by decide +kernel
theorem dX4_init_9 : decode cX4_init 9 = .ok (.putfield 9, 3) := by decide +kernel
theorem dX4_init_12 : decode cX4_init 12 = .ok (.aload_n 0, 1) := by decide +kernel
theorem dX4_init_13 : decode cX4_init 13 = .ok (.bipush 6, 2) := by decide +kernel
theorem dX4_init_15 : decode cX4_init 15 = .ok (.newarray .int, 2) := by decide +kernel
theorem dX4_init_17 : decode cX4_init 17 = .ok (.putfield 15, 3) := by decide +kernel
theorem dX4_init_20 : decode cX4_init 20 = .ok (.aload_n 0, 1) := by decide +kernel
theorem dX4_init_21 : decode cX4_init 21 = .ok (.bipush 6, 2) := by decide +kernel
theorem dX4_init_23 : decode cX4_init 23 = .ok (.newarray .boolean, 2) := by decide +kernel
theorem dX4_init_25 : decode cX4_init 25 = .ok (.putfield 18, 3) := by decide +kernel
theorem dX4_init_28 : decode cX4_init 28 = .ok (.return_, 1) := by decide +kernel
theorem dX4_clear_0 : decode cX4_clear 0 = .ok (.aload_n 0, 1) := by decide +kernel
theorem dX4_clear_1 : decode cX4_clear 1 = .ok (.iconst 0, 1) := by decide +kernel
theorem dX4_clear_2 : decode cX4_clear 2 = .ok (.putfield 22, 3) := by decide +kernel
theorem dX4_clear_5 : decode cX4_clear 5 = .ok (.return_, 1) := by decide +kernel
theorem dX4_add_0 : decode cX4_add 0 = .ok (.aload_n 0, 1) := by decide +kernel
theorem dX4_add_1 : decode cX4_add 1 = .ok (.getfield 9, 3) := by decide +kernel
theorem dX4_add_4 : decode cX4_add 4 = .ok (.aload_n 0, 1) := by decide +kernel
theorem dX4_add_5 : decode cX4_add 5 = .ok (.getfield 22, 3) := by decide +kernel
theorem dX4_add_8 : decode cX4_add 8 = .ok (.iload_n 1, 1) := by decide +kernel
theorem dX4_add_9 : decode cX4_add 9 = .ok (.iastore, 1) := by decide +kernel
theorem dX4_add_10 : decode cX4_add 10 = .ok (.aload_n 0, 1) := by decide +kernel
theorem dX4_add_11 : decode cX4_add 11 = .ok (.getfield 15, 3) := by decide +kernel
theorem dX4_add_14 : decode cX4_add 14 = .ok (.aload_n 0, 1) := by decide +kernel
theorem dX4_add_15 : decode cX4_add 15 = .ok (.getfield 22, 3) := by decide +kernel
theorem dX4_add_18 : decode cX4_add 18 = .ok (.iload_n 2, 1) := by decide +kernel
theorem dX4_add_19 : decode cX4_add 19 = .ok (.iastore, 1) := by decide +kernel
theorem dX4_add_20 : decode cX4_add 20 = .ok (.aload_n 0, 1) := by decide +kernel
theorem dX4_add_21 : decode cX4_add 21 = .ok (.getfield 18, 3) := by decide +kernel
theorem dX4_add_24 : decode cX4_add 24 = .ok (.aload_n 0, 1) := by decide +kernel
theorem dX4_add_25 : decode cX4_add 25 = .ok (.getfield 22, 3) := by decide +kernel
theorem dX4_add_28 : decode cX4_add 28 = .ok (.iload_n 3, 1) := by decide +kernel
theorem dX4_add_29 : decode cX4_add 29 = .ok (.bastore, 1) := by decide +kernel
theorem dX4_add_30 : decode cX4_add 30 = .ok (.aload_n 0, 1) := by decide +kernel
theorem dX4_add_31 : decode cX4_add 31 = .ok (.dup, 1) := by decide +kernel
theorem dX4_add_32 : decode cX4_add 32 = .ok (.getfield 22, 3) := by decide +kernel
theorem dX4_add_35 : decode cX4_add 35 = .ok (.iconst 1, 1) := by decide +kernel
theorem dX4_add_36 : decode cX4_add 36 = .ok (.iadd, 1) := by decide +kernel
theorem dX4_add_37 : decode cX4_add 37 = .ok (.putfield 22, 3) := by decide +kernel
theorem dX4_add_40 : decode cX4_add 40 = .ok (.return_, 1) := by decide +kernel
set_option maxRecDepth 20000 in
theorem ggX4_become_X4_add : GoodIn wsX4_become wsX4_add := goodIn_r _ [9, 2, 1, 3, 4, 10, 11, 12, 13] (by decide +kernel) (by decide +kernel)
set_option maxRecDepth 20000 in
theorem gX4_become_X4_add : GoodIn wsX4_become (wsV RX4 26 RX4 yX4_add wsX4_add) := goodIn_app (goodIn_of _ (by decide +kernel)) ggX4_become_X4_add
theorem dX4_become_0 : decode cX4_become 0 = .ok (.aload_n 0, 1) := by decide +kernel
theorem dX4_become_1 : decode cX4_become 1 = .ok (.iconst 0, 1) := by decide +kernel
theorem dX4_become_2 : decode cX4_become 2 = .ok (.putfield 22, 3) := by decide +kernel
theorem dX4_become_5 : decode cX4_become 5 = .ok (.iconst 0, 1) := by decide +kernel
theorem dX4_become_6 : decode cX4_become 6 = .ok (.istore_n 2, 1) := by decide +kernel
theorem dX4_become_7 : decode cX4_become 7 = .ok (.iload_n 2, 1) := by decide +kernel
theorem dX4_become_8 : decode cX4_become 8 = .ok (.aload_n 1, 1) := by decide +kernel
theorem dX4_become_9 : decode cX4_become 9 = .ok (.getfield 22, 3) := by decide +kernel
theorem dX4_become_12 : decode cX4_become 12 = .ok (.if_icmp .ge 31, 3) := by decide +kernel
theorem dX4_become_15 : decode cX4_become 15 = .ok (.aload_n 0, 1) := by decide +kernel
theorem dX4_become_16 : decode cX4_become 16 = .ok (.aload_n 1, 1) := by decide +kernel
theorem dX4_become_17 : decode cX4_become 17 = .ok (.getfield 9, 3) := by decide +kernel
theorem dX4_become_20 : decode cX4_become 20 = .ok (.iload_n 2, 1) := by decide +kernel
theorem dX4_become_21 : decode cX4_become 21 = .ok (.iaload, 1) := by decide +kernel
theorem dX4_become_22 : decode cX4_become 22 = .ok (.aload_n 1, 1) := by decide +kernel
theorem dX4_become_23 : decode cX4_become 23 = .ok (.getfield 15, 3) := by decide +kernel
theorem dX4_become_26 : decode cX4_become 26 = .ok (.iload_n 2, 1) := by decide +kernel
theorem dX4_become_27 : decode cX4_become 27 = .ok (.iaload, 1) := by decide +kernel
theorem dX4_become_28 : decode cX4_become 28 = .ok (.aload_n 1, 1) := by decide +kernel
theorem dX4_become_29 : decode cX4_become 29 = .ok (.getfield 18, 3) := by decide +kernel
theorem dX4_become_32 : decode cX4_become 32 = .ok (.iload_n 2, 1) := by decide +kernel
theorem dX4_become_33 : decode cX4_become 33 = .ok (.baload, 1) := by decide +kernel
theorem dX4_become_34 : decode cX4_become 34 = .ok (.invokevirtual 26, 3) := by decide +kernel
theorem dX4_become_37 : decode cX4_become 37 = .ok (.iinc 2 1, 3) := by decide +kernel
theorem dX4_become_40 : decode cX4_become 40 = .ok (.goto (-33), 3) := by decide +kernel
theorem dX4_become_43 : decode cX4_become 43 = .ok (.return_, 1) := by decide +kernel
theorem dX4_loseSet_0 : decode cX4_loseSet 0 = .ok (.iconst 0, 1) := by decide +kernel
theorem dX4_loseSet_1 : decode cX4_loseSet 1 = .ok (.istore_n 2, 1) := by decide +kernel
theorem dX4_loseSet_2 : decode cX4_loseSet 2 = .ok (.iload_n 2, 1) := by decide +kernel
theorem dX4_loseSet_3 : decode cX4_loseSet 3 = .ok (.aload_n 0, 1) := by decide +kernel
theorem dX4_loseSet_4 : decode cX4_loseSet 4 = .ok (.getfield 22, 3) := by decide +kernel
theorem dX4_loseSet_7 : decode cX4_loseSet 7 = .ok (.if_icmp .ge 49, 3) := by decide +kernel
theorem dX4_loseSet_10 : decode cX4_loseSet 10 = .ok (.aload_n 0, 1) := by decide +kernel
theorem dX4_loseSet_11 : decode cX4_loseSet 11 = .ok (.getfield 9, 3) := by decide +kernel
theorem dX4_loseSet_14 : decode cX4_loseSet 14 = .ok (.iload_n 2, 1) := by decide +kernel
theorem dX4_loseSet_15 : decode cX4_loseSet 15 = .ok (.iaload, 1) := by decide +kernel
theorem dX4_loseSet_16 : decode cX4_loseSet 16 = .ok (.iload_n 1, 1) := by decide +kernel
theorem dX4_loseSet_17 : decode cX4_loseSet 17 = .ok (.if_icmp .ne 13, 3) := by decide +kernel
theorem dX4_loseSet_20 : decode cX4_loseSet 20 = .ok (.aload_n 0, 1) := by decide +kernel
theorem dX4_loseSet_21 : decode cX4_loseSet 21 = .ok (.getfield 9, 3) := by decide +kernel
theorem dX4_loseSet_24 : decode cX4_loseSet 24 = .ok (.iload_n 2, 1) := by decide +kernel
theorem dX4_loseSet_25 : decode cX4_loseSet 25 = .ok (.iconst (-1), 1) := by decide +kernel
theorem dX4_loseSet_26 : decode cX4_loseSet 26 = .ok (.iastore, 1) := by decide +kernel
theorem dX4_loseSet_27 : decode cX4_loseSet 27 = .ok (.goto 23, 3) := by decide +kernel
theorem dX4_loseSet_30 : decode cX4_loseSet 30 = .ok (.aload_n 0, 1) := by decide +kernel
theorem dX4_loseSet_31 : decode cX4_loseSet 31 = .ok (.getfield 9, 3) := by decide +kernel
theorem dX4_loseSet_34 : decode cX4_loseSet 34 = .ok (.iload_n 2, 1) := by decide +kernel
theorem dX4_loseSet_35 : decode cX4_loseSet 35 = .ok (.iaload, 1) := by decide +kernel
theorem dX4_loseSet_36 : decode cX4_loseSet 36 = .ok (.iload_n 1, 1) := by decide +kernel
theorem dX4_loseSet_37 : decode cX4_loseSet 37 = .ok (.if_icmp .le 13, 3) := by decide +kernel
theorem dX4_loseSet_40 : decode cX4_loseSet 40 = .ok (.aload_n 0, 1) := by decide +kernel
theorem dX4_loseSet_41 : decode cX4_loseSet 41 = .ok (.getfield 9, 3) := by decide +kernel
theorem dX4_loseSet_44 : decode cX4_loseSet 44 = .ok (.iload_n 2, 1) := by decide +kernel
theorem dX4_loseSet_45 : decode cX4_loseSet 45 = .ok (.dup2, 1) := by decide +kernel
theorem dX4_loseSet_46 : decode cX4_loseSet 46 = .ok (.iaload, 1) := by decide +kernel
theorem dX4_loseSet_47 : decode cX4_loseSet 47 = .ok (.iconst 1, 1) := by decide +kernel
theorem dX4_loseSet_48 : decode cX4_loseSet 48 = .ok (.isub, 1) := by decide +kernel
theorem dX4_loseSet_49 : decode cX4_loseSet 49 = .ok (.iastore, 1) := by decide +kernel
theorem dX4_loseSet_50 : decode cX4_loseSet 50 = .ok (.iinc 2 1, 3) := by decide +kernel
theorem dX4_loseSet_53 : decode cX4_loseSet 53 = .ok (.goto (-51), 3) := by decide +kernel
theorem dX4_loseSet_56 : decode cX4_loseSet 56 = .ok (.return_, 1) := by decide +kernel
set_option maxRecDepth 20000 in
theorem ggX4_sortsOf_X4_sortsThatCould : GoodIn wsX4_sortsOf wsX4_sortsThatCould := goodIn_r _ [8, 9, 10, 7, 11] (by decide +kernel) (by decide +kernel)
set_option maxRecDepth 20000 in
theorem gX4_sortsOf_X4_sortsThatCould : GoodIn wsX4_sortsOf (va_wsS RX4 30 yX4_sortsThatCould wsX4_sortsThatCould) := goodIn_app (goodIn_of _ (by decide +kernel)) ggX4_sortsOf_X4_sortsThatCould
theorem dX4_sortsOf_0 : decode cX4_sortsOf 0 = .ok (.bipush 31, 2) := by decide +kernel
theorem dX4_sortsOf_2 : decode cX4_sortsOf 2 = .ok (.istore_n 2, 1) := by decide +kernel
theorem dX4_sortsOf_3 : decode cX4_sortsOf 3 = .ok (.iconst 0, 1) := by decide +kernel
theorem dX4_sortsOf_4 : decode cX4_sortsOf 4 = .ok (.istore_n 3, 1) := by decide +kernel
theorem dX4_sortsOf_5 : decode cX4_sortsOf 5 = .ok (.iload_n 3, 1) := by decide +kernel
theorem dX4_sortsOf_6 : decode cX4_sortsOf 6 = .ok (.aload_n 0, 1) := by decide +kernel
theorem dX4_sortsOf_7 : decode cX4_sortsOf 7 = .ok (.getfield 22, 3) := by decide +kernel
theorem dX4_sortsOf_10 : decode cX4_sortsOf 10 = .ok (.if_icmp .ge 51, 3) := by decide +kernel
theorem dX4_sortsOf_13 : decode cX4_sortsOf 13 = .ok (.aload_n 0, 1) := by decide +kernel
theorem dX4_sortsOf_14 : decode cX4_sortsOf 14 = .ok (.getfield 9, 3) := by decide +kernel
theorem dX4_sortsOf_17 : decode cX4_sortsOf 17 = .ok (.iload_n 3, 1) := by decide +kernel
theorem dX4_sortsOf_18 : decode cX4_sortsOf 18 = .ok (.iaload, 1) := by decide +kernel
theorem dX4_sortsOf_19 : decode cX4_sortsOf 19 = .ok (.iload_n 1, 1) := by decide +kernel
theorem dX4_sortsOf_20 : decode cX4_sortsOf 20 = .ok (.if_icmp .ne 35, 3) := by decide +kernel
theorem dX4_sortsOf_23 : decode cX4_sortsOf 23 = .ok (.aload_n 0, 1) := by decide +kernel
theorem dX4_sortsOf_24 : decode cX4_sortsOf 24 = .ok (.getfield 15, 3) := by decide +kernel
theorem dX4_sortsOf_27 : decode cX4_sortsOf 27 = .ok (.iload_n 3, 1) := by decide +kernel
theorem dX4_sortsOf_28 : decode cX4_sortsOf 28 = .ok (.iaload, 1) := by decide +kernel
theorem dX4_sortsOf_29 : decode cX4_sortsOf 29 = .ok (.invokestatic 30, 3) := by decide +kernel
theorem dX4_sortsOf_32 : decode cX4_sortsOf 32 = .ok (.istore 4, 2) := by decide +kernel
theorem dX4_sortsOf_34 : decode cX4_sortsOf 34 = .ok (.iload_n 2, 1) := by decide +kernel
theorem dX4_sortsOf_35 : decode cX4_sortsOf 35 = .ok (.aload_n 0, 1) := by decide +kernel
theorem dX4_sortsOf_36 : decode cX4_sortsOf 36 = .ok (.getfield 18, 3) := by decide +kernel
theorem dX4_sortsOf_39 : decode cX4_sortsOf 39 = .ok (.iload_n 3, 1) := by decide +kernel
theorem dX4_sortsOf_40 : decode cX4_sortsOf 40 = .ok (.baload, 1) := by decide +kernel
theorem dX4_sortsOf_41 : decode cX4_sortsOf 41 = .ok (.ifCond .eq 8, 3) := by decide +kernel
theorem dX4_sortsOf_44 : decode cX4_sortsOf 44 = .ok (.iload 4, 2) := by decide +kernel
theorem dX4_sortsOf_46 : decode cX4_sortsOf 46 = .ok (.goto 7, 3) := by decide +kernel
theorem dX4_sortsOf_49 : decode cX4_sortsOf 49 = .ok (.iload 4, 2) := by decide +kernel
theorem dX4_sortsOf_51 : decode cX4_sortsOf 51 = .ok (.iconst (-1), 1) := by decide +kernel
theorem dX4_sortsOf_52 : decode cX4_sortsOf 52 = .ok (.ixor, 1) := by decide +kernel
theorem dX4_sortsOf_53 : decode cX4_sortsOf 53 = .ok (.iand, 1) := by decide +kernel
theorem dX4_sortsOf_54 : decode cX4_sortsOf 54 = .ok (.istore_n 2, 1) := by decide +kernel
theorem dX4_sortsOf_55 : decode cX4_sortsOf 55 = .ok (.iinc 3 1, 3) := by decide +kernel
theorem dX4_sortsOf_58 : decode cX4_sortsOf 58 = .ok (.goto (-53), 3) := by decide +kernel
theorem dX4_sortsOf_61 : decode cX4_sortsOf 61 = .ok (.iload_n 2, 1) := by decide +kernel
theorem dX4_sortsOf_62 : decode cX4_sortsOf 62 = .ok (.ireturn, 1) := by decide +kernel
set_option maxRecDepth 20000 in
theorem ggX4_questionFor_X4_sortsOf : GoodIn wsX4_questionFor wsX4_sortsOf := goodIn_r _ [9, 10, 11, 12, 13, 14, 15, 8, 16, 17, 18, 19, 27, 28, 29, 30] (by decide +kernel) (by decide +kernel)
set_option maxRecDepth 20000 in
theorem gX4_questionFor_X4_sortsOf : GoodIn wsX4_questionFor (wsV RX4 34 RX4 yX4_sortsOf wsX4_sortsOf) := goodIn_app (goodIn_of _ (by decide +kernel)) ggX4_questionFor_X4_sortsOf
set_option maxRecDepth 20000 in
theorem ggX4_questionFor_X4_sortsThatCould : GoodIn wsX4_questionFor wsX4_sortsThatCould := goodIn_r _ [16, 17, 18, 8, 19] (by decide +kernel) (by decide +kernel)
set_option maxRecDepth 20000 in
theorem gX4_questionFor_X4_sortsThatCould : GoodIn wsX4_questionFor (va_wsS RX4 30 yX4_sortsThatCould wsX4_sortsThatCould) := goodIn_app (goodIn_of _ (by decide +kernel)) ggX4_questionFor_X4_sortsThatCould
set_option maxRecDepth 20000 in
theorem ggX4_questionFor_J6_bitCount_0f7a4 : GoodIn wsX4_questionFor wsJ6_bitCount_0f7a4 := goodIn_r _ [23, 24, 25, 26] (by decide +kernel) (by decide +kernel)
set_option maxRecDepth 20000 in
theorem gX4_questionFor_J6_bitCount_0f7a4 : GoodIn wsX4_questionFor (va_wsS RX4 37 yJ6_bitCount_0f7a4 wsJ6_bitCount_0f7a4) := goodIn_app (goodIn_of _ (by decide +kernel)) ggX4_questionFor_J6_bitCount_0f7a4
theorem dX4_questionFor_0 : decode cX4_questionFor 0 = .ok (.aload_n 0, 1) := by decide +kernel
theorem dX4_questionFor_1 : decode cX4_questionFor 1 = .ok (.iload_n 1, 1) := by decide +kernel
theorem dX4_questionFor_2 : decode cX4_questionFor 2 = .ok (.invokevirtual 34, 3) := by decide +kernel
theorem dX4_questionFor_5 : decode cX4_questionFor 5 = .ok (.istore_n 2, 1) := by decide +kernel
theorem dX4_questionFor_6 : decode cX4_questionFor 6 = .ok (.iconst (-1), 1) := by decide +kernel
theorem dX4_questionFor_7 : decode cX4_questionFor 7 = .ok (.istore_n 3, 1) := by decide +kernel
theorem dX4_questionFor_8 : decode cX4_questionFor 8 = .ok (.iconst 0, 1) := by decide +kernel
theorem dX4_questionFor_9 : decode cX4_questionFor 9 = .ok (.istore 4, 2) := by decide +kernel
theorem dX4_questionFor_11 : decode cX4_questionFor 11 = .ok (.iconst 0, 1) := by decide +kernel
theorem dX4_questionFor_12 : decode cX4_questionFor 12 = .ok (.istore 5, 2) := by decide +kernel
theorem dX4_questionFor_14 : decode cX4_questionFor 14 = .ok (.iload 5, 2) := by decide +kernel
theorem dX4_questionFor_16 : decode cX4_questionFor 16 = .ok (.iconst 4, 1) := by decide +kernel
theorem dX4_questionFor_17 : decode cX4_questionFor 17 = .ok (.if_icmp .ge 60, 3) := by decide +kernel
theorem dX4_questionFor_20 : decode cX4_questionFor 20 = .ok (.iload_n 2, 1) := by decide +kernel
theorem dX4_questionFor_21 : decode cX4_questionFor 21 = .ok (.ifCond .eq 56, 3) := by decide +kernel
theorem dX4_questionFor_24 : decode cX4_questionFor 24 = .ok (.iload 5, 2) := by decide +kernel
theorem dX4_questionFor_26 : decode cX4_questionFor 26 = .ok (.invokestatic 30, 3) := by decide +kernel
theorem dX4_questionFor_29 : decode cX4_questionFor 29 = .ok (.istore 6, 2) := by decide +kernel
theorem dX4_questionFor_31 : decode cX4_questionFor 31 = .ok (.iload_n 2, 1) := by decide +kernel
theorem dX4_questionFor_32 : decode cX4_questionFor 32 = .ok (.iload 6, 2) := by decide +kernel
theorem dX4_questionFor_34 : decode cX4_questionFor 34 = .ok (.iand, 1) := by decide +kernel
theorem dX4_questionFor_35 : decode cX4_questionFor 35 = .ok (.invokestatic 37, 3) := by decide +kernel
theorem dX4_questionFor_38 : decode cX4_questionFor 38 = .ok (.iload_n 2, 1) := by decide +kernel
theorem dX4_questionFor_39 : decode cX4_questionFor 39 = .ok (.iload 6, 2) := by decide +kernel
theorem dX4_questionFor_41 : decode cX4_questionFor 41 = .ok (.iconst (-1), 1) := by decide +kernel
theorem dX4_questionFor_42 : decode cX4_questionFor 42 = .ok (.ixor, 1) := by decide +kernel
theorem dX4_questionFor_43 : decode cX4_questionFor 43 = .ok (.iand, 1) := by decide +kernel
theorem dX4_questionFor_44 : decode cX4_questionFor 44 = .ok (.invokestatic 37, 3) := by decide +kernel
theorem dX4_questionFor_47 : decode cX4_questionFor 47 = .ok (.invokestatic 42, 3) := by decide +kernel
theorem dX4_questionFor_50 : decode cX4_questionFor 50 = .ok (.istore 7, 2) := by decide +kernel
theorem dX4_questionFor_52 : decode cX4_questionFor 52 = .ok (.iload_n 3, 1) := by decide +kernel
theorem dX4_questionFor_53 : decode cX4_questionFor 53 = .ok (.iconst (-1), 1) := by decide +kernel
theorem dX4_questionFor_54 : decode cX4_questionFor 54 = .ok (.if_icmp .eq 10, 3) := by decide +kernel
theorem dX4_questionFor_57 : decode cX4_questionFor 57 = .ok (.iload 7, 2) := by decide +kernel
theorem dX4_questionFor_59 : decode cX4_questionFor 59 = .ok (.iload 4, 2) := by decide +kernel
theorem dX4_questionFor_61 : decode cX4_questionFor 61 = .ok (.if_icmp .ge 10, 3) := by decide +kernel
theorem dX4_questionFor_64 : decode cX4_questionFor 64 = .ok (.iload 5, 2) := by decide +kernel
theorem dX4_questionFor_66 : decode cX4_questionFor 66 = .ok (.istore_n 3, 1) := by decide +kernel
theorem dX4_questionFor_67 : decode cX4_questionFor 67 = .ok (.iload 7, 2) := by decide +kernel
theorem dX4_questionFor_69 : decode cX4_questionFor 69 = .ok (.istore 4, 2) := by decide +kernel
theorem dX4_questionFor_71 : decode cX4_questionFor 71 = .ok (.iinc 5 1, 3) := by decide +kernel
theorem dX4_questionFor_74 : decode cX4_questionFor 74 = .ok (.goto (-60), 3) := by decide +kernel
theorem dX4_questionFor_77 : decode cX4_questionFor 77 = .ok (.iload_n 3, 1) := by decide +kernel
theorem dX4_questionFor_78 : decode cX4_questionFor 78 = .ok (.ireturn, 1) := by decide +kernel
set_option maxRecDepth 20000 in
theorem ggX4_sortsThatCould_X4_could : GoodIn wsX4_sortsThatCould wsX4_could := goodIn_r _ [4] (by decide +kernel) (by decide +kernel)
set_option maxRecDepth 20000 in
theorem gX4_sortsThatCould_X4_could : GoodIn wsX4_sortsThatCould (va_wsS RX4 48 yX4_could wsX4_could) := goodIn_app (goodIn_of _ (by decide +kernel)) ggX4_sortsThatCould_X4_could
theorem dX4_sortsThatCould_0 : decode cX4_sortsThatCould 0 = .ok (.iconst 0, 1) := by decide +kernel
theorem dX4_sortsThatCould_1 : decode cX4_sortsThatCould 1 = .ok (.istore_n 1, 1) := by decide +kernel
theorem dX4_sortsThatCould_2 : decode cX4_sortsThatCould 2 = .ok (.iconst 0, 1) := by decide +kernel
theorem dX4_sortsThatCould_3 : decode cX4_sortsThatCould 3 = .ok (.istore_n 2, 1) := by decide +kernel
theorem dX4_sortsThatCould_4 : decode cX4_sortsThatCould 4 = .ok (.iload_n 2, 1) := by decide +kernel
theorem dX4_sortsThatCould_5 : decode cX4_sortsThatCould 5 = .ok (.iconst 5, 1) := by decide +kernel
theorem dX4_sortsThatCould_6 : decode cX4_sortsThatCould 6 = .ok (.if_icmp .ge 23, 3) := by decide +kernel
theorem dX4_sortsThatCould_9 : decode cX4_sortsThatCould 9 = .ok (.iload_n 2, 1) := by decide +kernel
theorem dX4_sortsThatCould_10 : decode cX4_sortsThatCould 10 = .ok (.iload_n 0, 1) := by decide +kernel
theorem dX4_sortsThatCould_11 : decode cX4_sortsThatCould 11 = .ok (.invokestatic 48, 3) := by decide +kernel
theorem dX4_sortsThatCould_14 : decode cX4_sortsThatCould 14 = .ok (.ifCond .eq 9, 3) := by decide +kernel
theorem dX4_sortsThatCould_17 : decode cX4_sortsThatCould 17 = .ok (.iload_n 1, 1) := by decide +kernel
theorem dX4_sortsThatCould_18 : decode cX4_sortsThatCould 18 = .ok (.iconst 1, 1) := by decide +kernel
theorem dX4_sortsThatCould_19 : decode cX4_sortsThatCould 19 = .ok (.iload_n 2, 1) := by decide +kernel
theorem dX4_sortsThatCould_20 : decode cX4_sortsThatCould 20 = .ok (.ishl, 1) := by decide +kernel
theorem dX4_sortsThatCould_21 : decode cX4_sortsThatCould 21 = .ok (.ior, 1) := by decide +kernel
theorem dX4_sortsThatCould_22 : decode cX4_sortsThatCould 22 = .ok (.istore_n 1, 1) := by decide +kernel
theorem dX4_sortsThatCould_23 : decode cX4_sortsThatCould 23 = .ok (.iinc 2 1, 3) := by decide +kernel
theorem dX4_sortsThatCould_26 : decode cX4_sortsThatCould 26 = .ok (.goto (-22), 3) := by decide +kernel
theorem dX4_sortsThatCould_29 : decode cX4_sortsThatCould 29 = .ok (.iload_n 1, 1) := by decide +kernel
theorem dX4_sortsThatCould_30 : decode cX4_sortsThatCould 30 = .ok (.ireturn, 1) := by decide +kernel
theorem dX4_could_0 : decode cX4_could 0 = .ok (.iload_n 1, 1) := by decide +kernel
theorem dX4_could_1 : decode cX4_could 1 = .ok (.tableswitch 70 0 2 #[27, 41, 55], 27) := by decide +kernel
theorem dX4_could_28 : decode cX4_could 28 = .ok (.getstatic 52, 3) := by decide +kernel
theorem dX4_could_31 : decode cX4_could 31 = .ok (.iload_n 0, 1) := by decide +kernel
theorem dX4_could_32 : decode cX4_could 32 = .ok (.iaload, 1) := by decide +kernel
theorem dX4_could_33 : decode cX4_could 33 = .ok (.ifCond .le 7, 3) := by decide +kernel
theorem dX4_could_36 : decode cX4_could 36 = .ok (.iconst 1, 1) := by decide +kernel
theorem dX4_could_37 : decode cX4_could 37 = .ok (.goto 4, 3) := by decide +kernel
theorem dX4_could_40 : decode cX4_could 40 = .ok (.iconst 0, 1) := by decide +kernel
theorem dX4_could_41 : decode cX4_could 41 = .ok (.ireturn, 1) := by decide +kernel
theorem dX4_could_42 : decode cX4_could 42 = .ok (.getstatic 55, 3) := by decide +kernel
theorem dX4_could_45 : decode cX4_could 45 = .ok (.iload_n 0, 1) := by decide +kernel
theorem dX4_could_46 : decode cX4_could 46 = .ok (.iaload, 1) := by decide +kernel
theorem dX4_could_47 : decode cX4_could 47 = .ok (.ifCond .eq 7, 3) := by decide +kernel
theorem dX4_could_50 : decode cX4_could 50 = .ok (.iconst 1, 1) := by decide +kernel
theorem dX4_could_51 : decode cX4_could 51 = .ok (.goto 4, 3) := by decide +kernel
theorem dX4_could_54 : decode cX4_could 54 = .ok (.iconst 0, 1) := by decide +kernel
theorem dX4_could_55 : decode cX4_could 55 = .ok (.ireturn, 1) := by decide +kernel
theorem dX4_could_56 : decode cX4_could 56 = .ok (.getstatic 52, 3) := by decide +kernel
theorem dX4_could_59 : decode cX4_could 59 = .ok (.iload_n 0, 1) := by decide +kernel
theorem dX4_could_60 : decode cX4_could 60 = .ok (.iaload, 1) := by decide +kernel
theorem dX4_could_61 : decode cX4_could 61 = .ok (.iconst 2, 1) := by decide +kernel
theorem dX4_could_62 : decode cX4_could 62 = .ok (.if_icmp .ne 7, 3) := by decide +kernel
theorem dX4_could_65 : decode cX4_could 65 = .ok (.iconst 1, 1) := by decide +kernel
theorem dX4_could_66 : decode cX4_could 66 = .ok (.goto 4, 3) := by decide +kernel
theorem dX4_could_69 : decode cX4_could 69 = .ok (.iconst 0, 1) := by decide +kernel
theorem dX4_could_70 : decode cX4_could 70 = .ok (.ireturn, 1) := by decide +kernel
theorem dX4_could_71 : decode cX4_could 71 = .ok (.getstatic 55, 3) := by decide +kernel
theorem dX4_could_74 : decode cX4_could 74 = .ok (.iload_n 0, 1) := by decide +kernel
theorem dX4_could_75 : decode cX4_could 75 = .ok (.iaload, 1) := by decide +kernel
theorem dX4_could_76 : decode cX4_could 76 = .ok (.ifCond .eq 15, 3) := by decide +kernel
theorem dX4_could_79 : decode cX4_could 79 = .ok (.getstatic 52, 3) := by decide +kernel
theorem dX4_could_82 : decode cX4_could 82 = .ok (.iload_n 0, 1) := by decide +kernel
theorem dX4_could_83 : decode cX4_could 83 = .ok (.iaload, 1) := by decide +kernel
theorem dX4_could_84 : decode cX4_could 84 = .ok (.ifCond .ne 7, 3) := by decide +kernel
theorem dX4_could_87 : decode cX4_could 87 = .ok (.iconst 1, 1) := by decide +kernel
theorem dX4_could_88 : decode cX4_could 88 = .ok (.goto 4, 3) := by decide +kernel
theorem dX4_could_91 : decode cX4_could 91 = .ok (.iconst 0, 1) := by decide +kernel
theorem dX4_could_92 : decode cX4_could 92 = .ok (.ireturn, 1) := by decide +kernel
theorem dX5_init_0 : decode cX5_init 0 = .ok (.aload_n 0, 1) := by decide +kernel
theorem dX5_init_1 : decode cX5_init 1 = .ok (.invokespecial 3, 3) := by decide +kernel
theorem dX5_init_4 : decode cX5_init 4 = .ok (.aload_n 0, 1) := by decide +kernel
theorem dX5_init_5 : decode cX5_init 5 = .ok (.bipush 6, 2) := by decide +kernel
theorem dX5_init_7 : decode cX5_init 7 = .ok (.newarray .int, 2) := by decide +kernel
theorem dX5_init_9 : decode cX5_init 9 = .ok (.putfield 9, 3) := by decide +kernel
theorem dX5_init_12 : decode cX5_init 12 = .ok (.aload_n 0, 1) := by decide +kernel
theorem dX5_init_13 : decode cX5_init 13 = .ok (.bipush 6, 2) := by decide +kernel
theorem dX5_init_15 : decode cX5_init 15 = .ok (.newarray .int, 2) := by decide +kernel
theorem dX5_init_17 : decode cX5_init 17 = .ok (.putfield 15, 3) := by decide +kernel
theorem dX5_init_20 : decode cX5_init 20 = .ok (.aload_n 0, 1) := by decide +kernel
theorem dX5_init_21 : decode cX5_init 21 = .ok (.bipush 96, 2) := by decide +kernel
theorem dX5_init_23 : decode cX5_init 23 = .ok (.newarray .int, 2) := by decide +kernel
theorem dX5_init_25 : decode cX5_init 25 = .ok (.putfield 18, 3) := by decide +kernel
theorem dX5_init_28 : decode cX5_init 28 = .ok (.return_, 1) := by decide +kernel
theorem dX5_become_0 : decode cX5_become 0 = .ok (.aload_n 0, 1) := by decide +kernel
