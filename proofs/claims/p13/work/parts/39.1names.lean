def ixJ0_charAt_5068e : List Nat := [316, 318, 323, 324, 328, 329, 330, 331, 332, 333, 334, 335, 336, 337, 338, 339, 340, 341, 342, 343, 344, 345, 346, 347, 348, 349, 350, 351, 352, 353, 354, 355, 356, 357, 358, 359, 360, 361]
def wsJ0_charAt_5068e : List Cond := .code yJ0_charAt_5068e cJ0_charAt_5068e 2 (some .char) :: ixJ0_charAt_5068e.map wt
def ixJ0_checkIndex_df160 : List Nat := [339, 340, 341, 342, 343, 344]
def wsJ0_checkIndex_df160 : List Cond := .code yJ0_checkIndex_df160 cJ0_checkIndex_df160 2 none :: ixJ0_checkIndex_df160.map wt
def ixJ0_coder_7d493 : List Nat := [322, 323, 324]
def wsJ0_coder_7d493 : List Cond := .code yJ0_coder_7d493 cJ0_coder_7d493 1 (some .byte) :: ixJ0_coder_7d493.map wt
def ixJ0_isLatin1_aae02 : List Nat := [323, 324, 332]
def wsJ0_isLatin1_aae02 : List Cond := .code yJ0_isLatin1_aae02 cJ0_isLatin1_aae02 1 (some .boolean) :: ixJ0_isLatin1_aae02.map wt
def ixJ0_length_8abf5 : List Nat := [316, 317, 318, 319, 320, 321, 322, 323, 324]
def wsJ0_length_8abf5 : List Cond := .code yJ0_length_8abf5 cJ0_length_8abf5 1 (some .int) :: ixJ0_length_8abf5.map wt
def ixJ1_charAt_3b067 : List Nat := [316, 336, 337, 338, 339, 340, 341, 342, 343, 344]
def wsJ1_charAt_3b067 : List Cond := .code yJ1_charAt_3b067 cJ1_charAt_3b067 2 (some .char) :: ixJ1_charAt_3b067.map wt
def ixJ3_checkIndex_8e157 : List Nat := [344]
def wsJ3_checkIndex_8e157 : List Cond := .code yJ3_checkIndex_8e157 cJ3_checkIndex_8e157 3 (some .int) :: ixJ3_checkIndex_8e157.map wt
def ixX2_addToken : List Nat := [72, 73, 297, 368, 1428, 1429, 1430, 1431, 1432, 1433, 1434, 1435]
def wsX2_addToken : List Cond := .code yX2_addToken cX2_addToken 3 none :: ixX2_addToken.map wt
def ixX2_cut : List Nat := [24, 72, 73, 296, 297, 298, 299, 300, 301, 302, 303, 304, 305, 306, 307, 308, 309, 310, 311, 312, 313, 314, 315, 316, 317, 318, 319, 320, 321, 322, 323, 324, 325, 326, 327, 328, 329, 330, 331, 332, 333, 334, 335, 336, 337, 338, 339, 340, 341, 342, 343, 344, 345, 346, 347, 348, 349, 350, 351, 352, 353, 354, 355, 356, 357, 358, 359, 360, 361, 362, 363, 364, 365, 366, 367, 368, 1428, 1429, 1430, 1431, 1432, 1433, 1434, 1435]
def wsX2_cut : List Cond := .code yX2_cut cX2_cut 5 none :: ixX2_cut.map wt
def ixX2_isDigit : List Nat := [306]
def wsX2_isDigit : List Cond := .code yX2_isDigit cX2_isDigit 1 (some .boolean) :: ixX2_isDigit.map wt
def ixX2_isLetter : List Nat := [303]
def wsX2_isLetter : List Cond := .code yX2_isLetter cX2_isLetter 1 (some .boolean) :: ixX2_isLetter.map wt
def ixX2_joinOf : List Nat := [413]
def wsX2_joinOf : List Cond := .code yX2_joinOf cX2_joinOf 1 (some .int) :: ixX2_joinOf.map wt
def ixX2_numberToken : List Nat := [364]
def wsX2_numberToken : List Cond := .code yX2_numberToken cX2_numberToken 5 (some .int) :: ixX2_numberToken.map wt
def ixX2_read : List Nat := [24, 66, 72, 73, 76, 77, 81, 82, 83, 84, 85, 86, 87, 88, 89, 90, 91, 92, 285, 286, 287, 288, 289, 290, 291, 292, 293, 294, 295, 296, 297, 298, 299, 300, 301, 302, 303, 304, 305, 306, 307, 308, 309, 310, 311, 312, 313, 314, 315, 316, 317, 318, 319, 320, 321, 322, 323, 324, 325, 326, 327, 328, 329, 330, 331, 332, 333, 334, 335, 336, 337, 338, 339, 340, 341, 342, 343, 344, 345, 346, 347, 348, 349, 350, 351, 352, 353, 354, 355, 356, 357, 358, 359, 360, 361, 362, 363, 364, 365, 366, 367, 368, 369, 370, 371, 372, 373, 374, 375, 376, 377, 378, 379, 380, 381, 382, 383, 384, 385, 386, 387, 388, 389, 390, 391, 392, 393, 394, 395, 396, 397, 398, 399, 400, 401, 402, 403, 404, 405, 406, 407, 408, 409, 410, 411, 412, 413, 414, 415, 416, 417, 418, 419, 420, 421, 422, 423, 424, 425, 426, 427, 428, 429, 430, 431, 432, 433, 434, 435, 436, 437, 438, 439, 440, 441, 442, 443, 444, 445, 446, 447, 448, 449, 450, 451, 452, 453, 1411, 1412, 1413, 1414, 1415, 1416, 1417, 1418, 1419, 1420, 1421, 1422, 1423, 1424, 1425, 1426, 1427, 1428, 1429, 1430, 1431, 1432, 1433, 1434, 1435]
def wsX2_read : List Cond := .code yX2_read cX2_read 5 (some .int) :: ixX2_read.map wt
def ixX2_readChain : List Nat := [24, 72, 73, 77, 289, 290, 292, 297, 382, 383, 384, 385, 386, 387, 388, 389, 393, 394, 1411, 1412, 1413, 1414, 1415, 1416, 1417, 1418, 1419, 1420, 1421, 1422, 1423, 1424, 1425, 1426, 1427, 1428, 1429, 1430, 1431, 1432, 1433, 1434, 1435]
def wsX2_readChain : List Cond := .code yX2_readChain cX2_readChain 2 (some .boolean) :: ixX2_readChain.map wt
def ixX2_readClause : List Nat := [24, 72, 73, 76, 77, 81, 82, 83, 84, 85, 86, 87, 88, 89, 90, 91, 92, 289, 290, 291, 292, 297, 374, 375, 376, 377, 381, 382, 383, 384, 385, 386, 387, 388, 389, 390, 391, 392, 393, 394, 395, 396, 397, 398, 399, 400, 401, 402, 403, 404, 405, 406, 407, 408, 409, 410, 411, 412, 413, 414, 415, 416, 417, 418, 419, 420, 421, 422, 423, 424, 425, 426, 427, 428, 429, 430, 431, 432, 433, 434, 435, 436, 437, 438, 439, 440, 441, 442, 443, 444, 445, 446, 447, 448, 449, 450, 451, 452, 453, 1411, 1412, 1413, 1414, 1415, 1416, 1417, 1418, 1419, 1420, 1421, 1422, 1423, 1424, 1425, 1426, 1427, 1428, 1429, 1430, 1431, 1432, 1433, 1434, 1435]
def wsX2_readClause : List Cond := .code yX2_readClause cX2_readClause 3 (some .boolean) :: ixX2_readClause.map wt
def ixX2_readComparison : List Nat := [24, 72, 73, 76, 77, 86, 87, 88, 89, 90, 91, 92, 289, 290, 291, 297, 375, 376, 377, 382, 383, 384, 385, 386, 387, 388, 389, 399, 400, 401, 402, 403, 404, 405, 406, 407, 408, 409, 410, 411, 412, 413, 426, 427, 428, 433, 434, 435, 436, 437, 438, 439, 440, 441, 1411, 1412, 1413, 1414, 1415, 1416, 1417, 1418, 1419, 1420, 1421, 1422, 1423, 1424, 1425, 1426, 1427, 1428, 1429, 1430, 1431, 1432, 1433, 1434, 1435]
def wsX2_readComparison : List Cond := .code yX2_readComparison cX2_readComparison 4 (some .boolean) :: ixX2_readComparison.map wt
def ixX2_readFact : List Nat := [24, 72, 73, 76, 77, 86, 87, 88, 89, 90, 91, 92, 289, 290, 291, 297, 375, 376, 377, 382, 383, 384, 385, 386, 387, 388, 389, 399, 400, 401, 402, 403, 404, 405, 406, 407, 408, 409, 410, 411, 412, 413, 418, 419, 420, 421, 422, 423, 424, 425, 426, 427, 428, 429, 430, 431, 432, 433, 434, 435, 436, 437, 438, 439, 440, 441, 442, 443, 444, 445, 446, 447, 448, 449, 1411, 1412, 1413, 1414, 1415, 1416, 1417, 1418, 1419, 1420, 1421, 1422, 1423, 1424, 1425, 1426, 1427, 1428, 1429, 1430, 1431, 1432, 1433, 1434, 1435]
def wsX2_readFact : List Cond := .code yX2_readFact cX2_readFact 4 (some .boolean) :: ixX2_readFact.map wt
def ixX2_readPart : List Nat := [24, 72, 73, 76, 77, 86, 87, 88, 89, 90, 91, 92, 289, 290, 291, 297, 375, 376, 377, 382, 383, 384, 385, 386, 387, 388, 389, 399, 400, 401, 402, 403, 404, 405, 406, 407, 408, 409, 410, 411, 412, 413, 418, 419, 420, 421, 422, 423, 424, 425, 426, 427, 428, 429, 430, 431, 432, 433, 434, 435, 436, 437, 438, 439, 440, 441, 442, 443, 444, 445, 446, 447, 448, 449, 1411, 1412, 1413, 1414, 1415, 1416, 1417, 1418, 1419, 1420, 1421, 1422, 1423, 1424, 1425, 1426, 1427, 1428, 1429, 1430, 1431, 1432, 1433, 1434, 1435]
def wsX2_readPart : List Cond := .code yX2_readPart cX2_readPart 3 (some .boolean) :: ixX2_readPart.map wt
def ixX2_readSum : List Nat := [24, 72, 73, 76, 77, 86, 87, 289, 290, 291, 297, 375, 382, 383, 384, 385, 386, 387, 388, 389, 402, 403, 404, 405, 406, 407, 408, 409, 410, 411, 412, 413, 1411, 1412, 1413, 1414, 1415, 1416, 1417, 1418, 1419, 1420, 1421, 1422, 1423, 1424, 1425, 1426, 1427, 1428, 1429, 1430, 1431, 1432, 1433, 1434, 1435]
def wsX2_readSum : List Cond := .code yX2_readSum cX2_readSum 3 (some .boolean) :: ixX2_readSum.map wt
def ixX2_readTest : List Nat := [24, 72, 73, 76, 77, 86, 87, 88, 89, 90, 91, 92, 289, 290, 291, 297, 375, 376, 377, 382, 383, 384, 385, 386, 387, 388, 389, 399, 400, 401, 402, 403, 404, 405, 406, 407, 408, 409, 410, 411, 412, 413, 418, 419, 420, 421, 422, 423, 424, 425, 426, 427, 428, 429, 430, 431, 432, 433, 434, 435, 436, 437, 438, 439, 440, 441, 442, 443, 444, 445, 446, 447, 448, 449, 1411, 1412, 1413, 1414, 1415, 1416, 1417, 1418, 1419, 1420, 1421, 1422, 1423, 1424, 1425, 1426, 1427, 1428, 1429, 1430, 1431, 1432, 1433, 1434, 1435]
def wsX2_readTest : List Cond := .code yX2_readTest cX2_readTest 3 (some .boolean) :: ixX2_readTest.map wt
def ixX2_readValue : List Nat := [24, 72, 73, 76, 77, 86, 87, 289, 290, 291, 297, 375, 382, 383, 384, 385, 386, 387, 388, 389, 406, 407, 408, 409, 410, 1411, 1412, 1413, 1414, 1415, 1416, 1417, 1418, 1419, 1420, 1421, 1422, 1423, 1424, 1425, 1426, 1427, 1428, 1429, 1430, 1431, 1432, 1433, 1434, 1435]
def wsX2_readValue : List Cond := .code yX2_readValue cX2_readValue 4 (some .boolean) :: ixX2_readValue.map wt
def ixX2_refuse : List Nat := [73, 289, 290, 389, 1428, 1429, 1430, 1431, 1432, 1433, 1434, 1435]
def wsX2_refuse : List Cond := .code yX2_refuse cX2_refuse 3 (some .boolean) :: ixX2_refuse.map wt
def ixX2_signOf : List Nat := [436]
def wsX2_signOf : List Cond := .code yX2_signOf cX2_signOf 1 (some .int) :: ixX2_signOf.map wt
def ixX2_stopOf : List Nat := [24, 300, 301, 302, 303, 304, 305, 306]
def wsX2_stopOf : List Cond := .code yX2_stopOf cX2_stopOf 5 (some .int) :: ixX2_stopOf.map wt
def ixX2_take : List Nat := [24, 72, 73, 289, 290, 297, 382, 383, 384, 385, 386, 387, 388, 389, 445, 1428, 1429, 1430, 1431, 1432, 1433, 1434, 1435]
def wsX2_take : List Cond := .code yX2_take cX2_take 2 (some .boolean) :: ixX2_take.map wt
def ixX2_token : List Nat := [72, 289, 297, 385, 1428, 1429, 1430, 1431, 1432, 1433, 1434, 1435]
def wsX2_token : List Cond := .code yX2_token cX2_token 1 (some .int) :: ixX2_token.map wt
def ixX2_tokenOf : List Nat := [24, 301, 302, 303, 304, 305, 306, 309, 310, 311, 312, 313, 314, 315, 316, 317, 318, 319, 320, 321, 322, 323, 324, 325, 326, 327, 328, 329, 330, 331, 332, 333, 334, 335, 336, 337, 338, 339, 340, 341, 342, 343, 344, 345, 346, 347, 348, 349, 350, 351, 352, 353, 354, 355, 356, 357, 358, 359, 360, 361, 362, 363, 364]
def wsX2_tokenOf : List Cond := .code yX2_tokenOf cX2_tokenOf 4 (some .int) :: ixX2_tokenOf.map wt
def ixX2_wordToken : List Nat := [312, 313, 314, 315, 316, 317, 318, 319, 320, 321, 322, 323, 324, 325, 326, 327, 328, 329, 330, 331, 332, 333, 334, 335, 336, 337, 338, 339, 340, 341, 342, 343, 344, 345, 346, 347, 348, 349, 350, 351, 352, 353, 354, 355, 356, 357, 358, 359, 360, 361]
def wsX2_wordToken : List Cond := .code yX2_wordToken cX2_wordToken 8 (some .int) :: ixX2_wordToken.map wt
theorem ggJ0_charAt_5068e_J0_isLatin1_aae02 : GoodIn wsJ0_charAt_5068e wsJ0_isLatin1_aae02 := gi_ (A := ixJ0_charAt_5068e) (B := ixJ0_isLatin1_aae02) wt332 (by decide +kernel)
theorem gJ0_charAt_5068e_J0_isLatin1_aae02 : GoodIn wsJ0_charAt_5068e (wsV RJ0 492 RJ0 yJ0_isLatin1_aae02 wsJ0_isLatin1_aae02) := g4_ (A := ixJ0_charAt_5068e) wt329 wt330 wt331 wt316 (by decide +kernel) ggJ0_charAt_5068e_J0_isLatin1_aae02
theorem ggJ0_charAt_5068e_J1_charAt_3b067 : GoodIn wsJ0_charAt_5068e wsJ1_charAt_3b067 := gi_ (A := ixJ0_charAt_5068e) (B := ixJ1_charAt_3b067) wt336 (by decide +kernel)
theorem gJ0_charAt_5068e_J1_charAt_3b067 : GoodIn wsJ0_charAt_5068e (va_wsS RJ0 495 yJ1_charAt_3b067 wsJ1_charAt_3b067) := g3_ (A := ixJ0_charAt_5068e) wt333 wt334 wt335 (by decide +kernel) ggJ0_charAt_5068e_J1_charAt_3b067
theorem ggJ0_checkIndex_df160_J3_checkIndex_8e157 : GoodIn wsJ0_checkIndex_df160 wsJ3_checkIndex_8e157 := gi_ (A := ixJ0_checkIndex_df160) (B := ixJ3_checkIndex_8e157) wt344 (by decide +kernel)
theorem gJ0_checkIndex_df160_J3_checkIndex_8e157 : GoodIn wsJ0_checkIndex_df160 (va_wsS RJ0 1059 yJ3_checkIndex_8e157 wsJ3_checkIndex_8e157) := g3_ (A := ixJ0_checkIndex_df160) wt341 wt342 wt343 (by decide +kernel) ggJ0_checkIndex_df160_J3_checkIndex_8e157
theorem ggJ0_length_8abf5_J0_coder_7d493 : GoodIn wsJ0_length_8abf5 wsJ0_coder_7d493 := gi_ (A := ixJ0_length_8abf5) (B := ixJ0_coder_7d493) wt322 (by decide +kernel)
theorem gJ0_length_8abf5_J0_coder_7d493 : GoodIn wsJ0_length_8abf5 (wsV RJ0 335 RJ0 yJ0_coder_7d493 wsJ0_coder_7d493) := g4_ (A := ixJ0_length_8abf5) wt319 wt320 wt321 wt316 (by decide +kernel) ggJ0_length_8abf5_J0_coder_7d493
theorem ggJ1_charAt_3b067_J0_checkIndex_df160 : GoodIn wsJ1_charAt_3b067 wsJ0_checkIndex_df160 := gi_ (A := ixJ1_charAt_3b067) (B := ixJ0_checkIndex_df160) wt339 (by decide +kernel)
theorem gJ1_charAt_3b067_J0_checkIndex_df160 : GoodIn wsJ1_charAt_3b067 (va_wsS RJ1 9 yJ0_checkIndex_df160 wsJ0_checkIndex_df160) := g3_ (A := ixJ1_charAt_3b067) wt337 wt338 wt316 (by decide +kernel) ggJ1_charAt_3b067_J0_checkIndex_df160
theorem ggX2_cut_X2_addToken : GoodIn wsX2_cut wsX2_addToken := gi_ (A := ixX2_cut) (B := ixX2_addToken) wt368 (by decide +kernel)
theorem gX2_cut_X2_addToken : GoodIn wsX2_cut (wsV RX2 75 RX2 yX2_addToken wsX2_addToken) := g4_ (A := ixX2_cut) wt365 wt366 wt367 wt24 (by decide +kernel) ggX2_cut_X2_addToken
theorem ggX2_cut_X2_stopOf : GoodIn wsX2_cut wsX2_stopOf := gi_ (A := ixX2_cut) (B := ixX2_stopOf) wt300 (by decide +kernel)
theorem gX2_cut_X2_stopOf : GoodIn wsX2_cut (va_wsS RX2 68 yX2_stopOf wsX2_stopOf) := g3_ (A := ixX2_cut) wt298 wt299 wt24 (by decide +kernel) ggX2_cut_X2_stopOf
theorem ggX2_cut_X2_tokenOf : GoodIn wsX2_cut wsX2_tokenOf := gi_ (A := ixX2_cut) (B := ixX2_tokenOf) wt309 (by decide +kernel)
theorem gX2_cut_X2_tokenOf : GoodIn wsX2_cut (va_wsS RX2 72 yX2_tokenOf wsX2_tokenOf) := g3_ (A := ixX2_cut) wt307 wt308 wt24 (by decide +kernel) ggX2_cut_X2_tokenOf
theorem ggX2_readChain_X2_refuse : GoodIn wsX2_readChain wsX2_refuse := gi_ (A := ixX2_readChain) (B := ixX2_refuse) wt389 (by decide +kernel)
theorem gX2_readChain_X2_refuse : GoodIn wsX2_readChain (wsV RX2 102 RX2 yX2_refuse wsX2_refuse) := g4_ (A := ixX2_readChain) wt386 wt387 wt388 wt24 (by decide +kernel) ggX2_readChain_X2_refuse
theorem ggX2_readChain_X2_token : GoodIn wsX2_readChain wsX2_token := gi_ (A := ixX2_readChain) (B := ixX2_token) wt385 (by decide +kernel)
theorem gX2_readChain_X2_token : GoodIn wsX2_readChain (wsV RX2 58 RX2 yX2_token wsX2_token) := g4_ (A := ixX2_readChain) wt382 wt383 wt384 wt24 (by decide +kernel) ggX2_readChain_X2_token
theorem ggX2_readClause_X1_beginClause : GoodIn wsX2_readClause wsX1_beginClause := gi_ (A := ixX2_readClause) (B := ixX1_beginClause) wt398 (by decide +kernel)
theorem gX2_readClause_X1_beginClause : GoodIn wsX2_readClause (wsV RX2 109 RX1 yX1_beginClause wsX1_beginClause) := g4_ (A := ixX2_readClause) wt395 wt396 wt397 wt76 (by decide +kernel) ggX2_readClause_X1_beginClause
theorem ggX2_readClause_X1_endSum : GoodIn wsX2_readClause wsX1_endSum := gi_ (A := ixX2_readClause) (B := ixX1_endSum) wt417 (by decide +kernel)
theorem gX2_readClause_X1_endSum : GoodIn wsX2_readClause (wsV RX2 116 RX1 yX1_endSum wsX1_endSum) := g4_ (A := ixX2_readClause) wt414 wt415 wt416 wt76 (by decide +kernel) ggX2_readClause_X1_endSum
theorem ggX2_readClause_X1_endTest : GoodIn wsX2_readClause wsX1_endTest := gi_ (A := ixX2_readClause) (B := ixX1_endTest) wt453 (by decide +kernel)
theorem gX2_readClause_X1_endTest : GoodIn wsX2_readClause (wsV RX2 122 RX1 yX1_endTest wsX1_endTest) := g4_ (A := ixX2_readClause) wt450 wt451 wt452 wt76 (by decide +kernel) ggX2_readClause_X1_endTest
theorem ggX2_readClause_X2_readChain : GoodIn wsX2_readClause wsX2_readChain := gi_ (A := ixX2_readClause) (B := ixX2_readChain) wt393 (by decide +kernel)
theorem gX2_readClause_X2_readChain : GoodIn wsX2_readClause (wsV RX2 105 RX2 yX2_readChain wsX2_readChain) := g4_ (A := ixX2_readClause) wt390 wt391 wt392 wt24 (by decide +kernel) ggX2_readClause_X2_readChain
theorem ggX2_readClause_X2_readSum : GoodIn wsX2_readClause wsX2_readSum := gi_ (A := ixX2_readClause) (B := ixX2_readSum) wt402 (by decide +kernel)
theorem gX2_readClause_X2_readSum : GoodIn wsX2_readClause (wsV RX2 113 RX2 yX2_readSum wsX2_readSum) := g4_ (A := ixX2_readClause) wt399 wt400 wt401 wt24 (by decide +kernel) ggX2_readClause_X2_readSum
theorem ggX2_readClause_X2_readTest : GoodIn wsX2_readClause wsX2_readTest := gi_ (A := ixX2_readClause) (B := ixX2_readTest) wt421 (by decide +kernel)
theorem gX2_readClause_X2_readTest : GoodIn wsX2_readClause (wsV RX2 119 RX2 yX2_readTest wsX2_readTest) := g4_ (A := ixX2_readClause) wt418 wt419 wt420 wt24 (by decide +kernel) ggX2_readClause_X2_readTest
theorem ggX2_readClause_X2_refuse : GoodIn wsX2_readClause wsX2_refuse := gi_ (A := ixX2_readClause) (B := ixX2_refuse) wt389 (by decide +kernel)
theorem gX2_readClause_X2_refuse : GoodIn wsX2_readClause (wsV RX2 102 RX2 yX2_refuse wsX2_refuse) := g4_ (A := ixX2_readClause) wt386 wt387 wt388 wt24 (by decide +kernel) ggX2_readClause_X2_refuse
theorem ggX2_readClause_X2_token : GoodIn wsX2_readClause wsX2_token := gi_ (A := ixX2_readClause) (B := ixX2_token) wt385 (by decide +kernel)
theorem gX2_readClause_X2_token : GoodIn wsX2_readClause (wsV RX2 58 RX2 yX2_token wsX2_token) := g4_ (A := ixX2_readClause) wt382 wt383 wt384 wt24 (by decide +kernel) ggX2_readClause_X2_token
theorem ggX2_readComparison_X1_addFact : GoodIn wsX2_readComparison wsX1_addFact := gi_ (A := ixX2_readComparison) (B := ixX1_addFact) wt440 (by decide +kernel)
theorem gX2_readComparison_X1_addFact : GoodIn wsX2_readComparison (wsV RX2 156 RX1 yX1_addFact wsX1_addFact) := g4_ (A := ixX2_readComparison) wt437 wt438 wt439 wt76 (by decide +kernel) ggX2_readComparison_X1_addFact
theorem ggX2_readComparison_X2_readSum : GoodIn wsX2_readComparison wsX2_readSum := gi_ (A := ixX2_readComparison) (B := ixX2_readSum) wt402 (by decide +kernel)
theorem gX2_readComparison_X2_readSum : GoodIn wsX2_readComparison (wsV RX2 113 RX2 yX2_readSum wsX2_readSum) := g4_ (A := ixX2_readComparison) wt399 wt400 wt401 wt24 (by decide +kernel) ggX2_readComparison_X2_readSum
theorem ggX2_readComparison_X2_refuse : GoodIn wsX2_readComparison wsX2_refuse := gi_ (A := ixX2_readComparison) (B := ixX2_refuse) wt389 (by decide +kernel)
theorem gX2_readComparison_X2_refuse : GoodIn wsX2_readComparison (wsV RX2 102 RX2 yX2_refuse wsX2_refuse) := g4_ (A := ixX2_readComparison) wt386 wt387 wt388 wt24 (by decide +kernel) ggX2_readComparison_X2_refuse
theorem ggX2_readComparison_X2_signOf : GoodIn wsX2_readComparison wsX2_signOf := gi_ (A := ixX2_readComparison) (B := ixX2_signOf) wt436 (by decide +kernel)
theorem gX2_readComparison_X2_signOf : GoodIn wsX2_readComparison (va_wsS RX2 153 yX2_signOf wsX2_signOf) := g3_ (A := ixX2_readComparison) wt434 wt435 wt24 (by decide +kernel) ggX2_readComparison_X2_signOf
theorem ggX2_readComparison_X2_token : GoodIn wsX2_readComparison wsX2_token := gi_ (A := ixX2_readComparison) (B := ixX2_token) wt385 (by decide +kernel)
theorem gX2_readComparison_X2_token : GoodIn wsX2_readComparison (wsV RX2 58 RX2 yX2_token wsX2_token) := g4_ (A := ixX2_readComparison) wt382 wt383 wt384 wt24 (by decide +kernel) ggX2_readComparison_X2_token
theorem ggX2_readFact_X1_addStep : GoodIn wsX2_readFact wsX1_addStep := gi_ (A := ixX2_readFact) (B := ixX1_addStep) wt428 (by decide +kernel)
theorem gX2_readFact_X1_addStep : GoodIn wsX2_readFact (wsV RX2 141 RX1 yX1_addStep wsX1_addStep) := g4_ (A := ixX2_readFact) wt425 wt426 wt427 wt76 (by decide +kernel) ggX2_readFact_X1_addStep
theorem ggX2_readFact_X2_readComparison : GoodIn wsX2_readFact wsX2_readComparison := gi_ (A := ixX2_readFact) (B := ixX2_readComparison) wt433 (by decide +kernel)
theorem gX2_readFact_X2_readComparison : GoodIn wsX2_readFact (wsV RX2 147 RX2 yX2_readComparison wsX2_readComparison) := g4_ (A := ixX2_readFact) wt430 wt431 wt432 wt24 (by decide +kernel) ggX2_readFact_X2_readComparison
theorem ggX2_readFact_X2_readFact : GoodIn wsX2_readFact wsX2_readFact := gi_ (A := ixX2_readFact) (B := ixX2_readFact) wt429 (by decide +kernel)
theorem gX2_readFact_X2_readFact : GoodIn wsX2_readFact (wsV RX2 144 RX2 yX2_readFact wsX2_readFact) := g4_ (A := ixX2_readFact) wt446 wt447 wt448 wt24 (by decide +kernel) ggX2_readFact_X2_readFact
theorem ggX2_readFact_X2_readTest : GoodIn wsX2_readFact wsX2_readTest := gi_ (A := ixX2_readFact) (B := ixX2_readTest) wt421 (by decide +kernel)
theorem gX2_readFact_X2_readTest : GoodIn wsX2_readFact (wsV RX2 119 RX2 yX2_readTest wsX2_readTest) := g4_ (A := ixX2_readFact) wt418 wt419 wt420 wt24 (by decide +kernel) ggX2_readFact_X2_readTest
theorem ggX2_readFact_X2_refuse : GoodIn wsX2_readFact wsX2_refuse := gi_ (A := ixX2_readFact) (B := ixX2_refuse) wt389 (by decide +kernel)
theorem gX2_readFact_X2_refuse : GoodIn wsX2_readFact (wsV RX2 102 RX2 yX2_refuse wsX2_refuse) := g4_ (A := ixX2_readFact) wt386 wt387 wt388 wt24 (by decide +kernel) ggX2_readFact_X2_refuse
theorem ggX2_readFact_X2_take : GoodIn wsX2_readFact wsX2_take := gi_ (A := ixX2_readFact) (B := ixX2_take) wt445 (by decide +kernel)
theorem gX2_readFact_X2_take : GoodIn wsX2_readFact (wsV RX2 62 RX2 yX2_take wsX2_take) := g4_ (A := ixX2_readFact) wt442 wt443 wt444 wt24 (by decide +kernel) ggX2_readFact_X2_take
theorem ggX2_readFact_X2_token : GoodIn wsX2_readFact wsX2_token := gi_ (A := ixX2_readFact) (B := ixX2_token) wt385 (by decide +kernel)
theorem gX2_readFact_X2_token : GoodIn wsX2_readFact (wsV RX2 58 RX2 yX2_token wsX2_token) := g4_ (A := ixX2_readFact) wt382 wt383 wt384 wt24 (by decide +kernel) ggX2_readFact_X2_token
theorem ggX2_readPart_X1_addStep : GoodIn wsX2_readPart wsX1_addStep := gi_ (A := ixX2_readPart) (B := ixX1_addStep) wt428 (by decide +kernel)
theorem gX2_readPart_X1_addStep : GoodIn wsX2_readPart (wsV RX2 141 RX1 yX1_addStep wsX1_addStep) := g4_ (A := ixX2_readPart) wt425 wt426 wt427 wt76 (by decide +kernel) ggX2_readPart_X1_addStep
theorem ggX2_readPart_X2_readFact : GoodIn wsX2_readPart wsX2_readFact := gi_ (A := ixX2_readPart) (B := ixX2_readFact) wt429 (by decide +kernel)
theorem gX2_readPart_X2_readFact : GoodIn wsX2_readPart (wsV RX2 144 RX2 yX2_readFact wsX2_readFact) := g4_ (A := ixX2_readPart) wt446 wt447 wt448 wt24 (by decide +kernel) ggX2_readPart_X2_readFact
theorem ggX2_readPart_X2_refuse : GoodIn wsX2_readPart wsX2_refuse := gi_ (A := ixX2_readPart) (B := ixX2_refuse) wt389 (by decide +kernel)
theorem gX2_readPart_X2_refuse : GoodIn wsX2_readPart (wsV RX2 102 RX2 yX2_refuse wsX2_refuse) := g4_ (A := ixX2_readPart) wt386 wt387 wt388 wt24 (by decide +kernel) ggX2_readPart_X2_refuse
theorem ggX2_readPart_X2_token : GoodIn wsX2_readPart wsX2_token := gi_ (A := ixX2_readPart) (B := ixX2_token) wt385 (by decide +kernel)
theorem gX2_readPart_X2_token : GoodIn wsX2_readPart (wsV RX2 58 RX2 yX2_token wsX2_token) := g4_ (A := ixX2_readPart) wt382 wt383 wt384 wt24 (by decide +kernel) ggX2_readPart_X2_token
theorem ggX2_readSum_X2_joinOf : GoodIn wsX2_readSum wsX2_joinOf := gi_ (A := ixX2_readSum) (B := ixX2_joinOf) wt413 (by decide +kernel)
theorem gX2_readSum_X2_joinOf : GoodIn wsX2_readSum (va_wsS RX2 131 yX2_joinOf wsX2_joinOf) := g3_ (A := ixX2_readSum) wt411 wt412 wt24 (by decide +kernel) ggX2_readSum_X2_joinOf
theorem ggX2_readSum_X2_readValue : GoodIn wsX2_readSum wsX2_readValue := gi_ (A := ixX2_readSum) (B := ixX2_readValue) wt406 (by decide +kernel)
theorem gX2_readSum_X2_readValue : GoodIn wsX2_readSum (wsV RX2 128 RX2 yX2_readValue wsX2_readValue) := g4_ (A := ixX2_readSum) wt403 wt404 wt405 wt24 (by decide +kernel) ggX2_readSum_X2_readValue
theorem ggX2_readSum_X2_refuse : GoodIn wsX2_readSum wsX2_refuse := gi_ (A := ixX2_readSum) (B := ixX2_refuse) wt389 (by decide +kernel)
theorem gX2_readSum_X2_refuse : GoodIn wsX2_readSum (wsV RX2 102 RX2 yX2_refuse wsX2_refuse) := g4_ (A := ixX2_readSum) wt386 wt387 wt388 wt24 (by decide +kernel) ggX2_readSum_X2_refuse
theorem ggX2_readSum_X2_token : GoodIn wsX2_readSum wsX2_token := gi_ (A := ixX2_readSum) (B := ixX2_token) wt385 (by decide +kernel)
theorem gX2_readSum_X2_token : GoodIn wsX2_readSum (wsV RX2 58 RX2 yX2_token wsX2_token) := g4_ (A := ixX2_readSum) wt382 wt383 wt384 wt24 (by decide +kernel) ggX2_readSum_X2_token
theorem ggX2_readTest_X1_addStep : GoodIn wsX2_readTest wsX1_addStep := gi_ (A := ixX2_readTest) (B := ixX1_addStep) wt428 (by decide +kernel)
theorem gX2_readTest_X1_addStep : GoodIn wsX2_readTest (wsV RX2 141 RX1 yX1_addStep wsX1_addStep) := g4_ (A := ixX2_readTest) wt425 wt426 wt427 wt76 (by decide +kernel) ggX2_readTest_X1_addStep
theorem ggX2_readTest_X2_readPart : GoodIn wsX2_readTest wsX2_readPart := gi_ (A := ixX2_readTest) (B := ixX2_readPart) wt449 (by decide +kernel)
theorem gX2_readTest_X2_readPart : GoodIn wsX2_readTest (wsV RX2 138 RX2 yX2_readPart wsX2_readPart) := g4_ (A := ixX2_readTest) wt422 wt423 wt424 wt24 (by decide +kernel) ggX2_readTest_X2_readPart
theorem ggX2_readTest_X2_refuse : GoodIn wsX2_readTest wsX2_refuse := gi_ (A := ixX2_readTest) (B := ixX2_refuse) wt389 (by decide +kernel)
theorem gX2_readTest_X2_refuse : GoodIn wsX2_readTest (wsV RX2 102 RX2 yX2_refuse wsX2_refuse) := g4_ (A := ixX2_readTest) wt386 wt387 wt388 wt24 (by decide +kernel) ggX2_readTest_X2_refuse
theorem ggX2_readTest_X2_token : GoodIn wsX2_readTest wsX2_token := gi_ (A := ixX2_readTest) (B := ixX2_token) wt385 (by decide +kernel)
theorem gX2_readTest_X2_token : GoodIn wsX2_readTest (wsV RX2 58 RX2 yX2_token wsX2_token) := g4_ (A := ixX2_readTest) wt382 wt383 wt384 wt24 (by decide +kernel) ggX2_readTest_X2_token
theorem ggX2_readValue_X1_addValue : GoodIn wsX2_readValue wsX1_addValue := gi_ (A := ixX2_readValue) (B := ixX1_addValue) wt410 (by decide +kernel)
theorem gX2_readValue_X1_addValue : GoodIn wsX2_readValue (wsV RX2 135 RX1 yX1_addValue wsX1_addValue) := g4_ (A := ixX2_readValue) wt407 wt408 wt409 wt76 (by decide +kernel) ggX2_readValue_X1_addValue
theorem ggX2_readValue_X2_refuse : GoodIn wsX2_readValue wsX2_refuse := gi_ (A := ixX2_readValue) (B := ixX2_refuse) wt389 (by decide +kernel)
theorem gX2_readValue_X2_refuse : GoodIn wsX2_readValue (wsV RX2 102 RX2 yX2_refuse wsX2_refuse) := g4_ (A := ixX2_readValue) wt386 wt387 wt388 wt24 (by decide +kernel) ggX2_readValue_X2_refuse
theorem ggX2_readValue_X2_token : GoodIn wsX2_readValue wsX2_token := gi_ (A := ixX2_readValue) (B := ixX2_token) wt385 (by decide +kernel)
theorem gX2_readValue_X2_token : GoodIn wsX2_readValue (wsV RX2 58 RX2 yX2_token wsX2_token) := g4_ (A := ixX2_readValue) wt382 wt383 wt384 wt24 (by decide +kernel) ggX2_readValue_X2_token
theorem ggX2_read_X1_clear : GoodIn wsX2_read wsX1_clear := gi_ (A := ixX2_read) (B := ixX1_clear) wt372 (by decide +kernel)
theorem gX2_read_X1_clear : GoodIn wsX2_read (wsV RX2 51 RX1 yX1_clear wsX1_clear) := g4_ (A := ixX2_read) wt369 wt370 wt371 wt76 (by decide +kernel) ggX2_read_X1_clear
theorem ggX2_read_X2_cut : GoodIn wsX2_read wsX2_cut := gi_ (A := ixX2_read) (B := ixX2_cut) wt296 (by decide +kernel)
theorem gX2_read_X2_cut : GoodIn wsX2_read (wsV RX2 33 RX2 yX2_cut wsX2_cut) := g4_ (A := ixX2_read) wt293 wt294 wt295 wt24 (by decide +kernel) ggX2_read_X2_cut
theorem ggX2_read_X2_readClause : GoodIn wsX2_read wsX2_readClause := gi_ (A := ixX2_read) (B := ixX2_readClause) wt381 (by decide +kernel)
theorem gX2_read_X2_readClause : GoodIn wsX2_read (wsV RX2 54 RX2 yX2_readClause wsX2_readClause) := g4_ (A := ixX2_read) wt378 wt379 wt380 wt24 (by decide +kernel) ggX2_read_X2_readClause
theorem ggX2_read_X2_take : GoodIn wsX2_read wsX2_take := gi_ (A := ixX2_read) (B := ixX2_take) wt445 (by decide +kernel)
theorem gX2_read_X2_take : GoodIn wsX2_read (wsV RX2 62 RX2 yX2_take wsX2_take) := g4_ (A := ixX2_read) wt442 wt443 wt444 wt24 (by decide +kernel) ggX2_read_X2_take
theorem ggX2_read_X2_token : GoodIn wsX2_read wsX2_token := gi_ (A := ixX2_read) (B := ixX2_token) wt385 (by decide +kernel)
theorem gX2_read_X2_token : GoodIn wsX2_read (wsV RX2 58 RX2 yX2_token wsX2_token) := g4_ (A := ixX2_read) wt382 wt383 wt384 wt24 (by decide +kernel) ggX2_read_X2_token
theorem ggX2_stopOf_X2_isDigit : GoodIn wsX2_stopOf wsX2_isDigit := gi_ (A := ixX2_stopOf) (B := ixX2_isDigit) wt306 (by decide +kernel)
theorem gX2_stopOf_X2_isDigit : GoodIn wsX2_stopOf (va_wsS RX2 82 yX2_isDigit wsX2_isDigit) := g3_ (A := ixX2_stopOf) wt304 wt305 wt24 (by decide +kernel) ggX2_stopOf_X2_isDigit
theorem ggX2_stopOf_X2_isLetter : GoodIn wsX2_stopOf wsX2_isLetter := gi_ (A := ixX2_stopOf) (B := ixX2_isLetter) wt303 (by decide +kernel)
theorem gX2_stopOf_X2_isLetter : GoodIn wsX2_stopOf (va_wsS RX2 79 yX2_isLetter wsX2_isLetter) := g3_ (A := ixX2_stopOf) wt301 wt302 wt24 (by decide +kernel) ggX2_stopOf_X2_isLetter
theorem ggX2_take_X2_refuse : GoodIn wsX2_take wsX2_refuse := gi_ (A := ixX2_take) (B := ixX2_refuse) wt389 (by decide +kernel)
theorem gX2_take_X2_refuse : GoodIn wsX2_take (wsV RX2 102 RX2 yX2_refuse wsX2_refuse) := g4_ (A := ixX2_take) wt386 wt387 wt388 wt24 (by decide +kernel) ggX2_take_X2_refuse
theorem ggX2_take_X2_token : GoodIn wsX2_take wsX2_token := gi_ (A := ixX2_take) (B := ixX2_token) wt385 (by decide +kernel)
theorem gX2_take_X2_token : GoodIn wsX2_take (wsV RX2 58 RX2 yX2_token wsX2_token) := g4_ (A := ixX2_take) wt382 wt383 wt384 wt24 (by decide +kernel) ggX2_take_X2_token
theorem ggX2_tokenOf_X2_isDigit : GoodIn wsX2_tokenOf wsX2_isDigit := gi_ (A := ixX2_tokenOf) (B := ixX2_isDigit) wt306 (by decide +kernel)
theorem gX2_tokenOf_X2_isDigit : GoodIn wsX2_tokenOf (va_wsS RX2 82 yX2_isDigit wsX2_isDigit) := g3_ (A := ixX2_tokenOf) wt304 wt305 wt24 (by decide +kernel) ggX2_tokenOf_X2_isDigit
theorem ggX2_tokenOf_X2_isLetter : GoodIn wsX2_tokenOf wsX2_isLetter := gi_ (A := ixX2_tokenOf) (B := ixX2_isLetter) wt303 (by decide +kernel)
theorem gX2_tokenOf_X2_isLetter : GoodIn wsX2_tokenOf (va_wsS RX2 79 yX2_isLetter wsX2_isLetter) := g3_ (A := ixX2_tokenOf) wt301 wt302 wt24 (by decide +kernel) ggX2_tokenOf_X2_isLetter
theorem ggX2_tokenOf_X2_numberToken : GoodIn wsX2_tokenOf wsX2_numberToken := gi_ (A := ixX2_tokenOf) (B := ixX2_numberToken) wt364 (by decide +kernel)
theorem gX2_tokenOf_X2_numberToken : GoodIn wsX2_tokenOf (va_wsS RX2 88 yX2_numberToken wsX2_numberToken) := g3_ (A := ixX2_tokenOf) wt362 wt363 wt24 (by decide +kernel) ggX2_tokenOf_X2_numberToken
theorem ggX2_tokenOf_X2_wordToken : GoodIn wsX2_tokenOf wsX2_wordToken := gi_ (A := ixX2_tokenOf) (B := ixX2_wordToken) wt312 (by decide +kernel)
theorem gX2_tokenOf_X2_wordToken : GoodIn wsX2_tokenOf (va_wsS RX2 85 yX2_wordToken wsX2_wordToken) := g3_ (A := ixX2_tokenOf) wt310 wt311 wt24 (by decide +kernel) ggX2_tokenOf_X2_wordToken
theorem ggX2_wordToken_J0_charAt_5068e : GoodIn wsX2_wordToken wsJ0_charAt_5068e := gi_ (A := ixX2_wordToken) (B := ixJ0_charAt_5068e) wt328 (by decide +kernel)
theorem gX2_wordToken_J0_charAt_5068e : GoodIn wsX2_wordToken (wsV RX2 98 RJ0 yJ0_charAt_5068e wsJ0_charAt_5068e) := g4_ (A := ixX2_wordToken) wt325 wt326 wt327 wt316 (by decide +kernel) ggX2_wordToken_J0_charAt_5068e
theorem ggX2_wordToken_J0_length_8abf5 : GoodIn wsX2_wordToken wsJ0_length_8abf5 := gi_ (A := ixX2_wordToken) (B := ixJ0_length_8abf5) wt317 (by decide +kernel)
theorem gX2_wordToken_J0_length_8abf5 : GoodIn wsX2_wordToken (wsV RX2 93 RJ0 yJ0_length_8abf5 wsJ0_length_8abf5) := g4_ (A := ixX2_wordToken) wt313 wt314 wt315 wt316 (by decide +kernel) ggX2_wordToken_J0_length_8abf5
