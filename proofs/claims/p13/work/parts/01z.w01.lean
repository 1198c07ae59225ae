theorem wt400 : wt 400 = (.instanceMethod yX2_readSum : Cond) := rfl
theorem wt401 : wt 401 = (.selects RX2 yX2_readSum yX2_readSum : Cond) := rfl
theorem wt402 : wt 402 = (.code yX2_readSum cX2_readSum 3 (some .boolean) : Cond) := rfl
theorem wt403 : wt 403 = (.methodLink RX2 128 yX2_readValue : Cond) := rfl
theorem wt404 : wt 404 = (.instanceMethod yX2_readValue : Cond) := rfl
theorem wt405 : wt 405 = (.selects RX2 yX2_readValue yX2_readValue : Cond) := rfl
theorem wt406 : wt 406 = (.code yX2_readValue cX2_readValue 4 (some .boolean) : Cond) := rfl
theorem wt407 : wt 407 = (.methodLink RX2 135 yX1_addValue : Cond) := rfl
theorem wt408 : wt 408 = (.instanceMethod yX1_addValue : Cond) := rfl
theorem wt409 : wt 409 = (.selects RX1 yX1_addValue yX1_addValue : Cond) := rfl
theorem wt410 : wt 410 = (.code yX1_addValue cX1_addValue 3 none : Cond) := rfl
theorem wt411 : wt 411 = (.methodLink RX2 131 yX2_joinOf : Cond) := rfl
theorem wt412 : wt 412 = (.static yX2_joinOf : Cond) := rfl
theorem wt413 : wt 413 = (.code yX2_joinOf cX2_joinOf 1 (some .int) : Cond) := rfl
theorem wt414 : wt 414 = (.methodLink RX2 116 yX1_endSum : Cond) := rfl
theorem wt415 : wt 415 = (.instanceMethod yX1_endSum : Cond) := rfl
theorem wt416 : wt 416 = (.selects RX1 yX1_endSum yX1_endSum : Cond) := rfl
theorem wt417 : wt 417 = (.code yX1_endSum cX1_endSum 2 none : Cond) := rfl
theorem wt418 : wt 418 = (.methodLink RX2 119 yX2_readTest : Cond) := rfl
theorem wt419 : wt 419 = (.instanceMethod yX2_readTest : Cond) := rfl
theorem wt420 : wt 420 = (.selects RX2 yX2_readTest yX2_readTest : Cond) := rfl
theorem wt421 : wt 421 = (.code yX2_readTest cX2_readTest 3 (some .boolean) : Cond) := rfl
theorem wt422 : wt 422 = (.methodLink RX2 138 yX2_readPart : Cond) := rfl
theorem wt423 : wt 423 = (.instanceMethod yX2_readPart : Cond) := rfl
theorem wt424 : wt 424 = (.selects RX2 yX2_readPart yX2_readPart : Cond) := rfl
theorem wt425 : wt 425 = (.methodLink RX2 141 yX1_addStep : Cond) := rfl
theorem wt426 : wt 426 = (.instanceMethod yX1_addStep : Cond) := rfl
theorem wt427 : wt 427 = (.selects RX1 yX1_addStep yX1_addStep : Cond) := rfl
theorem wt428 : wt 428 = (.code yX1_addStep cX1_addStep 2 none : Cond) := rfl
theorem wt429 : wt 429 = (.code yX2_readFact cX2_readFact 4 (some .boolean) : Cond) := rfl
theorem wt430 : wt 430 = (.methodLink RX2 147 yX2_readComparison : Cond) := rfl
theorem wt431 : wt 431 = (.instanceMethod yX2_readComparison : Cond) := rfl
theorem wt432 : wt 432 = (.selects RX2 yX2_readComparison yX2_readComparison : Cond) := rfl
theorem wt433 : wt 433 = (.code yX2_readComparison cX2_readComparison 4 (some .boolean) : Cond) := rfl
theorem wt434 : wt 434 = (.methodLink RX2 153 yX2_signOf : Cond) := rfl
theorem wt435 : wt 435 = (.static yX2_signOf : Cond) := rfl
theorem wt436 : wt 436 = (.code yX2_signOf cX2_signOf 1 (some .int) : Cond) := rfl
theorem wt437 : wt 437 = (.methodLink RX2 156 yX1_addFact : Cond) := rfl
theorem wt438 : wt 438 = (.instanceMethod yX1_addFact : Cond) := rfl
theorem wt439 : wt 439 = (.selects RX1 yX1_addFact yX1_addFact : Cond) := rfl
theorem wt440 : wt 440 = (.code yX1_addFact cX1_addFact 4 none : Cond) := rfl
theorem wt441 : wt 441 = (.methodLink RX1 62 yX1_addStep : Cond) := rfl
theorem wt442 : wt 442 = (.methodLink RX2 62 yX2_take : Cond) := rfl
theorem wt443 : wt 443 = (.instanceMethod yX2_take : Cond) := rfl
theorem wt444 : wt 444 = (.selects RX2 yX2_take yX2_take : Cond) := rfl
theorem wt445 : wt 445 = (.code yX2_take cX2_take 2 (some .boolean) : Cond) := rfl
theorem wt446 : wt 446 = (.methodLink RX2 144 yX2_readFact : Cond) := rfl
theorem wt447 : wt 447 = (.instanceMethod yX2_readFact : Cond) := rfl
theorem wt448 : wt 448 = (.selects RX2 yX2_readFact yX2_readFact : Cond) := rfl
theorem wt449 : wt 449 = (.code yX2_readPart cX2_readPart 3 (some .boolean) : Cond) := rfl
theorem wt450 : wt 450 = (.methodLink RX2 122 yX1_endTest : Cond) := rfl
theorem wt451 : wt 451 = (.instanceMethod yX1_endTest : Cond) := rfl
theorem wt452 : wt 452 = (.selects RX1 yX1_endTest yX1_endTest : Cond) := rfl
theorem wt453 : wt 453 = (.code yX1_endTest cX1_endTest 2 none : Cond) := rfl
theorem wt454 : wt 454 = (.methodLink RL 48 yX11_law : Cond) := rfl
theorem wt455 : wt 455 = (.instanceMethod yX11_law : Cond) := rfl
theorem wt456 : wt 456 = (.selects RX11 yX11_law yX11_law : Cond) := rfl
theorem wt457 : wt 457 = (.code yX11_law cX11_law 2 (some .int) : Cond) := rfl
theorem wt458 : wt 458 = (.fieldLink RX11 232 "SnowMulesModel" "laws" "I" : Cond) := rfl
theorem wt459 : wt 459 = (.fieldLink RX11 144 "SnowMulesModel" "text" "I" : Cond) := rfl
theorem wt460 : wt 460 = (.fieldLink RX11 226 "SnowMulesModel" "lines" "I" : Cond) := rfl
theorem wt461 : wt 461 = (.fieldLink RX11 90 "SnowMulesModel" "next" "I" : Cond) := rfl
theorem wt462 : wt 462 = (.fieldLink RX11 87 "SnowMulesModel" "wrong" "I" : Cond) := rfl
theorem wt463 : wt 463 = (.fieldLink RX11 147 "SnowMulesModel" "made" "I" : Cond) := rfl
theorem wt464 : wt 464 = (.methodLink RX11 235 yX11_clauseHere : Cond) := rfl
theorem wt465 : wt 465 = (.instanceMethod yX11_clauseHere : Cond) := rfl
theorem wt466 : wt 466 = (.selects RX11 yX11_clauseHere yX11_clauseHere : Cond) := rfl
theorem wt467 : wt 467 = (.code yX11_clauseHere cX11_clauseHere 3 (some .boolean) : Cond) := rfl
theorem wt468 : wt 468 = (.constantLong RX11 216 (1835363444) : Cond) := rfl
theorem wt469 : wt 469 = (.constantLong RX11 218 (1919251316) : Cond) := rfl
theorem wt470 : wt 470 = (.constantLong RX11 220 (495672455781) : Cond) := rfl
theorem wt471 : wt 471 = (.constantLong RX11 222 (422877229940) : Cond) := rfl
theorem wt472 : wt 472 = (.constantLong RX11 224 (426952976750) : Cond) := rfl
theorem wt473 : wt 473 = (.fieldLink RX11 115 "SnowMulesModel" "number" "I" : Cond) := rfl
theorem wt474 : wt 474 = (.methodLink RX11 93 yX11_see : Cond) := rfl
theorem wt475 : wt 475 = (.instanceMethod yX11_see : Cond) := rfl
theorem wt476 : wt 476 = (.selects RX11 yX11_see yX11_see : Cond) := rfl
theorem wt477 : wt 477 = (.code yX11_see cX11_see 1 (some .int) : Cond) := rfl
theorem wt478 : wt 478 = (.methodLink RX11 101 yX11_isWord : Cond) := rfl
theorem wt479 : wt 479 = (.instanceMethod yX11_isWord : Cond) := rfl
theorem wt480 : wt 480 = (.selects RX11 yX11_isWord yX11_isWord : Cond) := rfl
theorem wt481 : wt 481 = (.code yX11_isWord cX11_isWord 6 (some .boolean) : Cond) := rfl
theorem wt482 : wt 482 = (.methodLink RX11 97 yX11_isLetter : Cond) := rfl
theorem wt483 : wt 483 = (.instanceMethod yX11_isLetter : Cond) := rfl
theorem wt484 : wt 484 = (.selects RX11 yX11_isLetter yX11_isLetter : Cond) := rfl
theorem wt485 : wt 485 = (.code yX11_isLetter cX11_isLetter 2 (some .boolean) : Cond) := rfl
theorem wt486 : wt 486 = (.methodLink RX11 111 yX11_fails : Cond) := rfl
theorem wt487 : wt 487 = (.instanceMethod yX11_fails : Cond) := rfl
theorem wt488 : wt 488 = (.selects RX11 yX11_fails yX11_fails : Cond) := rfl
theorem wt489 : wt 489 = (.code yX11_fails cX11_fails 3 (some .boolean) : Cond) := rfl
theorem wt490 : wt 490 = (.methodLink RX11 229 yX11_clauseOf : Cond) := rfl
theorem wt491 : wt 491 = (.instanceMethod yX11_clauseOf : Cond) := rfl
theorem wt492 : wt 492 = (.selects RX11 yX11_clauseOf yX11_clauseOf : Cond) := rfl
theorem wt493 : wt 493 = (.code yX11_clauseOf cX11_clauseOf 3 (some .boolean) : Cond) := rfl
theorem wt494 : wt 494 = (.constantLong RX11 208 (26982) : Cond) := rfl
theorem wt495 : wt 495 = (.methodLink RX11 105 yX11_passWord : Cond) := rfl
theorem wt496 : wt 496 = (.instanceMethod yX11_passWord : Cond) := rfl
theorem wt497 : wt 497 = (.selects RX11 yX11_passWord yX11_passWord : Cond) := rfl
theorem wt498 : wt 498 = (.code yX11_passWord cX11_passWord 1 none : Cond) := rfl
theorem wt499 : wt 499 = (.methodLink RX11 181 yX11_sum : Cond) := rfl
theorem wt500 : wt 500 = (.instanceMethod yX11_sum : Cond) := rfl
theorem wt501 : wt 501 = (.selects RX11 yX11_sum yX11_sum : Cond) := rfl
theorem wt502 : wt 502 = (.code yX11_sum cX11_sum 2 (some .boolean) : Cond) := rfl
theorem wt503 : wt 503 = (.methodLink RX11 178 yX11_term : Cond) := rfl
theorem wt504 : wt 504 = (.instanceMethod yX11_term : Cond) := rfl
theorem wt505 : wt 505 = (.selects RX11 yX11_term yX11_term : Cond) := rfl
theorem wt506 : wt 506 = (.code yX11_term cX11_term 2 (some .boolean) : Cond) := rfl
theorem wt507 : wt 507 = (.methodLink RX11 174 yX11_value : Cond) := rfl
theorem wt508 : wt 508 = (.instanceMethod yX11_value : Cond) := rfl
theorem wt509 : wt 509 = (.selects RX11 yX11_value yX11_value : Cond) := rfl
theorem wt510 : wt 510 = (.code yX11_value cX11_value 3 (some .boolean) : Cond) := rfl
theorem wt511 : wt 511 = (.constant RX11 164 (99999) : Cond) := rfl
theorem wt512 : wt 512 = (.methodLink RX11 108 yX11_isDigit : Cond) := rfl
theorem wt513 : wt 513 = (.instanceMethod yX11_isDigit : Cond) := rfl
theorem wt514 : wt 514 = (.selects RX11 yX11_isDigit yX11_isDigit : Cond) := rfl
theorem wt515 : wt 515 = (.code yX11_isDigit cX11_isDigit 2 (some .boolean) : Cond) := rfl
theorem wt516 : wt 516 = (.methodLink RX11 165 yX11_numberHere : Cond) := rfl
theorem wt517 : wt 517 = (.instanceMethod yX11_numberHere : Cond) := rfl
theorem wt518 : wt 518 = (.selects RX11 yX11_numberHere yX11_numberHere : Cond) := rfl
theorem wt519 : wt 519 = (.code yX11_numberHere cX11_numberHere 5 (some .boolean) : Cond) := rfl
theorem wt520 : wt 520 = (.methodLink RX11 168 yX11_makes : Cond) := rfl
theorem wt521 : wt 521 = (.instanceMethod yX11_makes : Cond) := rfl
theorem wt522 : wt 522 = (.selects RX11 yX11_makes yX11_makes : Cond) := rfl
theorem wt523 : wt 523 = (.code yX11_makes cX11_makes 2 (some .boolean) : Cond) := rfl
theorem wt524 : wt 524 = (.methodLink RX11 160 yX11_puts : Cond) := rfl
theorem wt525 : wt 525 = (.instanceMethod yX11_puts : Cond) := rfl
theorem wt526 : wt 526 = (.selects RX11 yX11_puts yX11_puts : Cond) := rfl
theorem wt527 : wt 527 = (.code yX11_puts cX11_puts 3 none : Cond) := rfl
theorem wt528 : wt 528 = (.methodLink RX11 171 yX11_wordHere : Cond) := rfl
theorem wt529 : wt 529 = (.instanceMethod yX11_wordHere : Cond) := rfl
theorem wt530 : wt 530 = (.selects RX11 yX11_wordHere yX11_wordHere : Cond) := rfl
theorem wt531 : wt 531 = (.code yX11_wordHere cX11_wordHere 1 (some .int) : Cond) := rfl
theorem wt532 : wt 532 = (.constantLong RX11 122 (470020945000) : Cond) := rfl
theorem wt533 : wt 533 = (.constantLong RX11 124 (1752135026) : Cond) := rfl
theorem wt534 : wt 534 = (.constantLong RX11 126 (6578553) : Cond) := rfl
theorem wt535 : wt 535 = (.constantLong RX11 128 (114784769370228) : Cond) := rfl
theorem wt536 : wt 536 = (.constantLong RX11 130 (7566702) : Cond) := rfl
theorem wt537 : wt 537 = (.constantLong RX11 132 (1668246628) : Cond) := rfl
theorem wt538 : wt 538 = (.constantLong RX11 134 (1852793957) : Cond) := rfl
theorem wt539 : wt 539 = (.constantLong RX11 136 (431416635507) : Cond) := rfl
theorem wt540 : wt 540 = (.constantLong RX11 138 (1717922932) : Cond) := rfl
theorem wt541 : wt 541 = (.constantLong RX11 140 (1935764596) : Cond) := rfl
theorem wt542 : wt 542 = (.constantLong RX11 142 (1735356005) : Cond) := rfl
theorem wt543 : wt 543 = (.methodLink RX11 210 yX11_takesWord : Cond) := rfl
theorem wt544 : wt 544 = (.instanceMethod yX11_takesWord : Cond) := rfl
theorem wt545 : wt 545 = (.selects RX11 yX11_takesWord yX11_takesWord : Cond) := rfl
theorem wt546 : wt 546 = (.code yX11_takesWord cX11_takesWord 3 (some .boolean) : Cond) := rfl
theorem wt547 : wt 547 = (.methodLink RX11 213 yX11_tested : Cond) := rfl
theorem wt548 : wt 548 = (.instanceMethod yX11_tested : Cond) := rfl
theorem wt549 : wt 549 = (.selects RX11 yX11_tested yX11_tested : Cond) := rfl
theorem wt550 : wt 550 = (.code yX11_tested cX11_tested 3 (some .boolean) : Cond) := rfl
theorem wt551 : wt 551 = (.fieldLink RX11 153 "SnowMulesModel" "opened" "I" : Cond) := rfl
theorem wt552 : wt 552 = (.fieldLink RX11 150 "SnowMulesModel" "deep" "I" : Cond) := rfl
theorem wt553 : wt 553 = (.constantLong RX11 204 (6385252) : Cond) := rfl
theorem wt554 : wt 554 = (.constantLong RX11 206 (28530) : Cond) := rfl
theorem wt555 : wt 555 = (.methodLink RX11 198 yX11_fact : Cond) := rfl
theorem wt556 : wt 556 = (.instanceMethod yX11_fact : Cond) := rfl
theorem wt557 : wt 557 = (.selects RX11 yX11_fact yX11_fact : Cond) := rfl
theorem wt558 : wt 558 = (.code yX11_fact cX11_fact 3 (some .boolean) : Cond) := rfl
theorem wt559 : wt 559 = (.constantLong RX11 184 (7237492) : Cond) := rfl
theorem wt560 : wt 560 = (.methodLink RX11 186 yX11_opens : Cond) := rfl
theorem wt561 : wt 561 = (.instanceMethod yX11_opens : Cond) := rfl
theorem wt562 : wt 562 = (.selects RX11 yX11_opens yX11_opens : Cond) := rfl
theorem wt563 : wt 563 = (.code yX11_opens cX11_opens 2 (some .boolean) : Cond) := rfl
theorem wt564 : wt 564 = (.methodLink RX11 189 yX11_compare : Cond) := rfl
theorem wt565 : wt 565 = (.instanceMethod yX11_compare : Cond) := rfl
theorem wt566 : wt 566 = (.selects RX11 yX11_compare yX11_compare : Cond) := rfl
theorem wt567 : wt 567 = (.code yX11_compare cX11_compare 5 (some .boolean) : Cond) := rfl
theorem wt568 : wt 568 = (.methodLink RX11 201 yX11_closes : Cond) := rfl
theorem wt569 : wt 569 = (.instanceMethod yX11_closes : Cond) := rfl
theorem wt570 : wt 570 = (.selects RX11 yX11_closes yX11_closes : Cond) := rfl
theorem wt571 : wt 571 = (.code yX11_closes cX11_closes 1 none : Cond) := rfl
theorem wt572 : wt 572 = (.methodLink RX11 192 yX11_settles : Cond) := rfl
theorem wt573 : wt 573 = (.instanceMethod yX11_settles : Cond) := rfl
theorem wt574 : wt 574 = (.selects RX11 yX11_settles yX11_settles : Cond) := rfl
theorem wt575 : wt 575 = (.code yX11_settles cX11_settles 2 none : Cond) := rfl
theorem wt576 : wt 576 = (.methodLink RX11 156 yX11_strength : Cond) := rfl
theorem wt577 : wt 577 = (.static yX11_strength : Cond) := rfl
theorem wt578 : wt 578 = (.code yX11_strength cX11_strength 1 (some .int) : Cond) := rfl
theorem wt579 : wt 579 = (.methodLink RX11 195 yX11_isInside : Cond) := rfl
theorem wt580 : wt 580 = (.instanceMethod yX11_isInside : Cond) := rfl
theorem wt581 : wt 581 = (.selects RX11 yX11_isInside yX11_isInside : Cond) := rfl
theorem wt582 : wt 582 = (.code yX11_isInside cX11_isInside 2 (some .boolean) : Cond) := rfl
theorem wt583 : wt 583 = (.methodLink RL 49 yX10_fill : Cond) := rfl
theorem wt584 : wt 584 = (.instanceMethod yX10_fill : Cond) := rfl
theorem wt585 : wt 585 = (.selects RX10 yX10_fill yX10_fill : Cond) := rfl
theorem wt586 : wt 586 = (.code yX10_fill cX10_fill 5 (some .int) : Cond) := rfl
theorem wt587 : wt 587 = (.constant RX10 140 (99999) : Cond) := rfl
theorem wt588 : wt 588 = (.fieldLink RX10 141 "SnowMules$World" "now" "I" : Cond) := rfl
theorem wt589 : wt 589 = (.methodLink RX10 136 yX9_nodeOf : Cond) := rfl
theorem wt590 : wt 590 = (.instanceMethod yX9_nodeOf : Cond) := rfl
theorem wt591 : wt 591 = (.selects RX9 yX9_nodeOf yX9_nodeOf : Cond) := rfl
theorem wt592 : wt 592 = (.code yX9_nodeOf cX9_nodeOf 3 (some .int) : Cond) := rfl
theorem wt593 : wt 593 = (.methodLink RX9 56 yX6_has : Cond) := rfl
theorem wt594 : wt 594 = (.methodLink RX9 52 yX6_get : Cond) := rfl
theorem wt595 : wt 595 = (.instanceMethod yX6_get : Cond) := rfl
theorem wt596 : wt 596 = (.selects RX6 yX6_get yX6_get : Cond) := rfl
theorem wt597 : wt 597 = (.code yX6_get cX6_get 4 (some .int) : Cond) := rfl
theorem wt598 : wt 598 = (.methodLink RX10 144 yX9_monthAt : Cond) := rfl
theorem wt599 : wt 599 = (.instanceMethod yX9_monthAt : Cond) := rfl
theorem wt600 : wt 600 = (.selects RX9 yX9_monthAt yX9_monthAt : Cond) := rfl
theorem wt601 : wt 601 = (.code yX9_monthAt cX9_monthAt 2 (some .int) : Cond) := rfl
theorem wt602 : wt 602 = (.fieldLink RX9 46 "SnowMules$World" "firstMonth" "I" : Cond) := rfl
theorem wt603 : wt 603 = (.methodLink RX10 147 yX9_hasSnow : Cond) := rfl
theorem wt604 : wt 604 = (.instanceMethod yX9_hasSnow : Cond) := rfl
theorem wt605 : wt 605 = (.selects RX9 yX9_hasSnow yX9_hasSnow : Cond) := rfl
theorem wt606 : wt 606 = (.code yX9_hasSnow cX9_hasSnow 3 (some .boolean) : Cond) := rfl
theorem wt607 : wt 607 = (.methodLink RX10 150 yX6_get : Cond) := rfl
theorem wt608 : wt 608 = (.methodLink RL 53 yX11_fill : Cond) := rfl
theorem wt609 : wt 609 = (.instanceMethod yX11_fill : Cond) := rfl
theorem wt610 : wt 610 = (.selects RX11 yX11_fill yX11_fill : Cond) := rfl
theorem wt611 : wt 611 = (.code yX11_fill cX11_fill 4 (some .int) : Cond) := rfl
theorem wt612 : wt 612 = (.constantLong RX11 289 (99999) : Cond) := rfl
theorem wt613 : wt 613 = (.methodLink RX11 286 yX11_stands : Cond) := rfl
theorem wt614 : wt 614 = (.instanceMethod yX11_stands : Cond) := rfl
theorem wt615 : wt 615 = (.selects RX11 yX11_stands yX11_stands : Cond) := rfl
theorem wt616 : wt 616 = (.code yX11_stands cX11_stands 2 (some .boolean) : Cond) := rfl
theorem wt617 : wt 617 = (.methodLink RX11 280 yX11_isJar : Cond) := rfl
theorem wt618 : wt 618 = (.instanceMethod yX11_isJar : Cond) := rfl
theorem wt619 : wt 619 = (.selects RX11 yX11_isJar yX11_isJar : Cond) := rfl
theorem wt620 : wt 620 = (.code yX11_isJar cX11_isJar 2 (some .boolean) : Cond) := rfl
theorem wt621 : wt 621 = (.methodLink RX11 283 yX11_jarOf : Cond) := rfl
theorem wt622 : wt 622 = (.instanceMethod yX11_jarOf : Cond) := rfl
theorem wt623 : wt 623 = (.selects RX11 yX11_jarOf yX11_jarOf : Cond) := rfl
theorem wt624 : wt 624 = (.code yX11_jarOf cX11_jarOf 3 (some .int) : Cond) := rfl
theorem wt625 : wt 625 = (.methodLink RX11 291 yX11_monthAt : Cond) := rfl
theorem wt626 : wt 626 = (.instanceMethod yX11_monthAt : Cond) := rfl
theorem wt627 : wt 627 = (.selects RX11 yX11_monthAt yX11_monthAt : Cond) := rfl
theorem wt628 : wt 628 = (.code yX11_monthAt cX11_monthAt 2 (some .int) : Cond) := rfl
theorem wt629 : wt 629 = (.methodLink RX11 294 yX11_hasSnow : Cond) := rfl
theorem wt630 : wt 630 = (.instanceMethod yX11_hasSnow : Cond) := rfl
theorem wt631 : wt 631 = (.selects RX11 yX11_hasSnow yX11_hasSnow : Cond) := rfl
theorem wt632 : wt 632 = (.code yX11_hasSnow cX11_hasSnow 3 (some .boolean) : Cond) := rfl
theorem wt633 : wt 633 = (.methodLink RX11 257 yX11_nodeOf : Cond) := rfl
theorem wt634 : wt 634 = (.instanceMethod yX11_nodeOf : Cond) := rfl
theorem wt635 : wt 635 = (.selects RX11 yX11_nodeOf yX11_nodeOf : Cond) := rfl
theorem wt636 : wt 636 = (.code yX11_nodeOf cX11_nodeOf 3 (some .int) : Cond) := rfl
theorem wt637 : wt 637 = (.methodLink RL 54 yX10_pour : Cond) := rfl
theorem wt638 : wt 638 = (.instanceMethod yX10_pour : Cond) := rfl
theorem wt639 : wt 639 = (.selects RX10 yX10_pour yX10_pour : Cond) := rfl
theorem wt640 : wt 640 = (.code yX10_pour cX10_pour 4 (some .int) : Cond) := rfl
theorem wt641 : wt 641 = (.methodLink RX10 154 yX9_bring : Cond) := rfl
theorem wt642 : wt 642 = (.instanceMethod yX9_bring : Cond) := rfl
theorem wt643 : wt 643 = (.selects RX9 yX9_bring yX9_bring : Cond) := rfl
theorem wt644 : wt 644 = (.code yX9_bring cX9_bring 5 (some .int) : Cond) := rfl
theorem wt645 : wt 645 = (.constant RX9 73 (999999) : Cond) := rfl
theorem wt646 : wt 646 = (.methodLink RX9 74 Lib.Math.min.name : Cond) := rfl
theorem wt647 : wt 647 = (.methodLink RL 57 yX11_pour : Cond) := rfl
theorem wt648 : wt 648 = (.instanceMethod yX11_pour : Cond) := rfl
theorem wt649 : wt 649 = (.selects RX11 yX11_pour yX11_pour : Cond) := rfl
theorem wt650 : wt 650 = (.code yX11_pour cX11_pour 3 (some .int) : Cond) := rfl
theorem wt651 : wt 651 = (.methodLink RX11 298 yX11_stores : Cond) := rfl
theorem wt652 : wt 652 = (.instanceMethod yX11_stores : Cond) := rfl
theorem wt653 : wt 653 = (.selects RX11 yX11_stores yX11_stores : Cond) := rfl
theorem wt654 : wt 654 = (.code yX11_stores cX11_stores 5 (some .int) : Cond) := rfl
theorem wt655 : wt 655 = (.constant RX11 297 (999999) : Cond) := rfl
theorem wt656 : wt 656 = (.methodLink RL 58 yX10_store : Cond) := rfl
theorem wt657 : wt 657 = (.instanceMethod yX10_store : Cond) := rfl
theorem wt658 : wt 658 = (.selects RX10 yX10_store yX10_store : Cond) := rfl
theorem wt659 : wt 659 = (.code yX10_store cX10_store 4 (some .int) : Cond) := rfl
theorem wt660 : wt 660 = (.constant RX10 157 (999999) : Cond) := rfl
theorem wt661 : wt 661 = (.methodLink RL 61 yX11_store : Cond) := rfl
theorem wt662 : wt 662 = (.instanceMethod yX11_store : Cond) := rfl
theorem wt663 : wt 663 = (.selects RX11 yX11_store yX11_store : Cond) := rfl
theorem wt664 : wt 664 = (.code yX11_store cX11_store 4 (some .int) : Cond) := rfl
theorem wt665 : wt 665 = (.constantLong RX11 301 (999999) : Cond) := rfl
theorem wt666 : wt 666 = (.methodLink RL 62 yX10_leave : Cond) := rfl
theorem wt667 : wt 667 = (.instanceMethod yX10_leave : Cond) := rfl
theorem wt668 : wt 668 = (.selects RX10 yX10_leave yX10_leave : Cond) := rfl
theorem wt669 : wt 669 = (.code yX10_leave cX10_leave 5 (some .boolean) : Cond) := rfl
theorem wt670 : wt 670 = (.methodLink RX10 158 yX9_otherEnd : Cond) := rfl
theorem wt671 : wt 671 = (.instanceMethod yX9_otherEnd : Cond) := rfl
theorem wt672 : wt 672 = (.selects RX9 yX9_otherEnd yX9_otherEnd : Cond) := rfl
theorem wt673 : wt 673 = (.code yX9_otherEnd cX9_otherEnd 5 (some .int) : Cond) := rfl
theorem wt674 : wt 674 = (.methodLink RL 66 yX11_leave : Cond) := rfl
theorem wt675 : wt 675 = (.instanceMethod yX11_leave : Cond) := rfl
theorem wt676 : wt 676 = (.selects RX11 yX11_leave yX11_leave : Cond) := rfl
theorem wt677 : wt 677 = (.code yX11_leave cX11_leave 4 (some .boolean) : Cond) := rfl
theorem wt678 : wt 678 = (.methodLink RX11 306 yX11_isPass : Cond) := rfl
theorem wt679 : wt 679 = (.instanceMethod yX11_isPass : Cond) := rfl
theorem wt680 : wt 680 = (.selects RX11 yX11_isPass yX11_isPass : Cond) := rfl
theorem wt681 : wt 681 = (.code yX11_isPass cX11_isPass 2 (some .boolean) : Cond) := rfl
theorem wt682 : wt 682 = (.methodLink RX11 309 yX11_other : Cond) := rfl
theorem wt683 : wt 683 = (.instanceMethod yX11_other : Cond) := rfl
theorem wt684 : wt 684 = (.selects RX11 yX11_other yX11_other : Cond) := rfl
theorem wt685 : wt 685 = (.code yX11_other cX11_other 3 (some .int) : Cond) := rfl
theorem wt686 : wt 686 = (.methodLink RX11 303 yX11_passOf : Cond) := rfl
theorem wt687 : wt 687 = (.instanceMethod yX11_passOf : Cond) := rfl
theorem wt688 : wt 688 = (.selects RX11 yX11_passOf yX11_passOf : Cond) := rfl
theorem wt689 : wt 689 = (.code yX11_passOf cX11_passOf 3 (some .int) : Cond) := rfl
theorem wt690 : wt 690 = (.methodLink RL 67 yX10_tick : Cond) := rfl
theorem wt691 : wt 691 = (.instanceMethod yX10_tick : Cond) := rfl
theorem wt692 : wt 692 = (.selects RX10 yX10_tick yX10_tick : Cond) := rfl
theorem wt693 : wt 693 = (.code yX10_tick cX10_tick 5 (some .int) : Cond) := rfl
theorem wt694 : wt 694 = (.methodLink RX10 161 yX10_lawOf : Cond) := rfl
theorem wt695 : wt 695 = (.instanceMethod yX10_lawOf : Cond) := rfl
theorem wt696 : wt 696 = (.selects RX10 yX10_lawOf yX10_lawOf : Cond) := rfl
theorem wt697 : wt 697 = (.code yX10_lawOf cX10_lawOf 2 (some (.object "SnowMules$Law")) : Cond) := rfl
theorem wt698 : wt 698 = (.methodLink RX10 165 yX0_step : Cond) := rfl
theorem wt699 : wt 699 = (.instanceMethod yX0_step : Cond) := rfl
theorem wt700 : wt 700 = (.selects RX0 yX0_step yX0_step : Cond) := rfl
theorem wt701 : wt 701 = (.code yX0_step cX0_step 5 none : Cond) := rfl
theorem wt702 : wt 702 = (.fieldLink RX0 18 "SnowMules$World" "jars" "LSnowMules$Table;" : Cond) := rfl
theorem wt703 : wt 703 = (.fieldLink RX0 24 "SnowMules$Table" "size" "I" : Cond) := rfl
theorem wt704 : wt 704 = (.fieldLink RX0 38 "SnowMules$World" "nodes" "LSnowMules$Table;" : Cond) := rfl
theorem wt705 : wt 705 = (.fieldLink RX0 41 "SnowMules$World" "now" "I" : Cond) := rfl
theorem wt706 : wt 706 = (.methodLink RX0 30 yX6_get : Cond) := rfl
theorem wt707 : wt 707 = (.methodLink RX0 34 yX0_stepJar : Cond) := rfl
theorem wt708 : wt 708 = (.instanceMethod yX0_stepJar : Cond) := rfl
theorem wt709 : wt 709 = (.selects RX0 yX0_stepJar yX0_stepJar : Cond) := rfl
theorem wt710 : wt 710 = (.code yX0_stepJar cX0_stepJar 6 none : Cond) := rfl
theorem wt711 : wt 711 = (.fieldLink RX0 56 "SnowMules$World" "passes" "LSnowMules$Table;" : Cond) := rfl
theorem wt712 : wt 712 = (.methodLink RX0 52 yX0_meltOf : Cond) := rfl
theorem wt713 : wt 713 = (.instanceMethod yX0_meltOf : Cond) := rfl
theorem wt714 : wt 714 = (.selects RX0 yX0_meltOf yX0_meltOf : Cond) := rfl
theorem wt715 : wt 715 = (.code yX0_meltOf cX0_meltOf 6 (some .int) : Cond) := rfl
theorem wt716 : wt 716 = (.fieldLink RX0 80 "SnowMules$Scene" "words" "[I" : Cond) := rfl
theorem wt717 : wt 717 = (.methodLink RX0 62 yX4_setPass : Cond) := rfl
theorem wt718 : wt 718 = (.instanceMethod yX4_setPass : Cond) := rfl
theorem wt719 : wt 719 = (.selects RX4 yX4_setPass yX4_setPass : Cond) := rfl
theorem wt720 : wt 720 = (.code yX4_setPass cX4_setPass 5 none : Cond) := rfl
theorem wt721 : wt 721 = (.fieldLink RX4 21 "SnowMules$World" "nodes" "LSnowMules$Table;" : Cond) := rfl
theorem wt722 : wt 722 = (.fieldLink RX4 34 "SnowMules$Scene" "heightBehind" "I" : Cond) := rfl
theorem wt723 : wt 723 = (.fieldLink RX4 38 "SnowMules$Scene" "heightAhead" "I" : Cond) := rfl
theorem wt724 : wt 724 = (.fieldLink RX4 41 "SnowMules$World" "passes" "LSnowMules$Table;" : Cond) := rfl
theorem wt725 : wt 725 = (.fieldLink RX4 44 "SnowMules$Scene" "hoursOfPass" "I" : Cond) := rfl
theorem wt726 : wt 726 = (.methodLink RX4 31 yX9_otherEnd : Cond) := rfl
theorem wt727 : wt 727 = (.methodLink RX4 25 yX6_get : Cond) := rfl
theorem wt728 : wt 728 = (.methodLink RX0 66 yX4_setGone : Cond) := rfl
theorem wt729 : wt 729 = (.instanceMethod yX4_setGone : Cond) := rfl
theorem wt730 : wt 730 = (.selects RX4 yX4_setGone yX4_setGone : Cond) := rfl
theorem wt731 : wt 731 = (.code yX4_setGone cX4_setGone 3 none : Cond) := rfl
theorem wt732 : wt 732 = (.methodLink RX0 70 yX4_setNode : Cond) := rfl
theorem wt733 : wt 733 = (.instanceMethod yX4_setNode : Cond) := rfl
theorem wt734 : wt 734 = (.selects RX4 yX4_setNode yX4_setNode : Cond) := rfl
theorem wt735 : wt 735 = (.code yX4_setNode cX4_setNode 3 none : Cond) := rfl
theorem wt736 : wt 736 = (.methodLink RX0 74 yX4_setHour : Cond) := rfl
theorem wt737 : wt 737 = (.instanceMethod yX4_setHour : Cond) := rfl
theorem wt738 : wt 738 = (.selects RX4 yX4_setHour yX4_setHour : Cond) := rfl
theorem wt739 : wt 739 = (.code yX4_setHour cX4_setHour 3 none : Cond) := rfl
theorem wt740 : wt 740 = (.methodLink RX4 15 yX9_monthAt : Cond) := rfl
theorem wt741 : wt 741 = (.methodLink RX0 77 yX0_setLoadOf : Cond) := rfl
theorem wt742 : wt 742 = (.instanceMethod yX0_setLoadOf : Cond) := rfl
theorem wt743 : wt 743 = (.selects RX0 yX0_setLoadOf yX0_setLoadOf : Cond) := rfl
theorem wt744 : wt 744 = (.code yX0_setLoadOf cX0_setLoadOf 4 none : Cond) := rfl
theorem wt745 : wt 745 = (.methodLink RX0 94 yX4_setLoad : Cond) := rfl
theorem wt746 : wt 746 = (.instanceMethod yX4_setLoad : Cond) := rfl
theorem wt747 : wt 747 = (.selects RX4 yX4_setLoad yX4_setLoad : Cond) := rfl
theorem wt748 : wt 748 = (.code yX4_setLoad cX4_setLoad 4 none : Cond) := rfl
theorem wt749 : wt 749 = (.methodLink RX0 84 yX1_sumOf : Cond) := rfl
theorem wt750 : wt 750 = (.instanceMethod yX1_sumOf : Cond) := rfl
theorem wt751 : wt 751 = (.selects RX1 yX1_sumOf yX1_sumOf : Cond) := rfl
theorem wt752 : wt 752 = (.code yX1_sumOf cX1_sumOf 4 (some .long) : Cond) := rfl
theorem wt753 : wt 753 = (.methodLink RX1 66 yX1_holds : Cond) := rfl
theorem wt754 : wt 754 = (.instanceMethod yX1_holds : Cond) := rfl
theorem wt755 : wt 755 = (.selects RX1 yX1_holds yX1_holds : Cond) := rfl
theorem wt756 : wt 756 = (.code yX1_holds cX1_holds 12 (some .boolean) : Cond) := rfl
theorem wt757 : wt 757 = (.constantLong RX1 74 (-2) : Cond) := rfl
theorem wt758 : wt 758 = (.methodLink RX1 70 yX1_total : Cond) := rfl
theorem wt759 : wt 759 = (.instanceMethod yX1_total : Cond) := rfl
theorem wt760 : wt 760 = (.selects RX1 yX1_total yX1_total : Cond) := rfl
theorem wt761 : wt 761 = (.code yX1_total cX1_total 15 (some .long) : Cond) := rfl
theorem wt762 : wt 762 = (.methodLink RX1 76 yX1_isTrue : Cond) := rfl
theorem wt763 : wt 763 = (.static yX1_isTrue : Cond) := rfl
theorem wt764 : wt 764 = (.code yX1_isTrue cX1_isTrue 5 (some .boolean) : Cond) := rfl
theorem wt765 : wt 765 = (.static yX10_held : Cond) := rfl
theorem wt766 : wt 766 = (.code yX10_held cX10_held 3 (some .int) : Cond) := rfl
theorem wt767 : wt 767 = (.methodLink RX0 48 yX6_put : Cond) := rfl
theorem wt768 : wt 768 = (.methodLink RX0 59 yX0_arrive : Cond) := rfl
theorem wt769 : wt 769 = (.instanceMethod yX0_arrive : Cond) := rfl
theorem wt770 : wt 770 = (.selects RX0 yX0_arrive yX0_arrive : Cond) := rfl
theorem wt771 : wt 771 = (.code yX0_arrive cX0_arrive 8 none : Cond) := rfl
theorem wt772 : wt 772 = (.fieldLink RX0 111 "SnowMules$Law" "chain" "I" : Cond) := rfl
theorem wt773 : wt 773 = (.methodLink RX0 97 yX9_standAt : Cond) := rfl
theorem wt774 : wt 774 = (.methodLink RX0 101 yX9_bring : Cond) := rfl
theorem wt775 : wt 775 = (.methodLink RX0 104 yX9_draw : Cond) := rfl
theorem wt776 : wt 776 = (.instanceMethod yX9_draw : Cond) := rfl
theorem wt777 : wt 777 = (.selects RX9 yX9_draw yX9_draw : Cond) := rfl
theorem wt778 : wt 778 = (.code yX9_draw cX9_draw 1 (some .int) : Cond) := rfl
theorem wt779 : wt 779 = (.fieldLink RX9 49 "SnowMules$World" "x" "I" : Cond) := rfl
theorem wt780 : wt 780 = (.constantLong RX9 83 (1103515245) : Cond) := rfl
theorem wt781 : wt 781 = (.constantLong RX9 85 (12345) : Cond) := rfl
theorem wt782 : wt 782 = (.constantLong RX9 87 (2147483647) : Cond) := rfl
theorem wt783 : wt 783 = (.constant RX9 89 (65536) : Cond) := rfl
theorem wt784 : wt 784 = (.methodLink RX0 108 yX9_lose : Cond) := rfl
theorem wt785 : wt 785 = (.instanceMethod yX9_lose : Cond) := rfl
theorem wt786 : wt 786 = (.selects RX9 yX9_lose yX9_lose : Cond) := rfl
theorem wt787 : wt 787 = (.code yX9_lose cX9_lose 2 none : Cond) := rfl
theorem wt788 : wt 788 = (.methodLink RX9 70 yX9_standAt : Cond) := rfl
theorem wt789 : wt 789 = (.methodLink RX0 114 yX0_burstFrom : Cond) := rfl
theorem wt790 : wt 790 = (.instanceMethod yX0_burstFrom : Cond) := rfl
theorem wt791 : wt 791 = (.selects RX0 yX0_burstFrom yX0_burstFrom : Cond) := rfl
theorem wt792 : wt 792 = (.code yX0_burstFrom cX0_burstFrom 9 none : Cond) := rfl
theorem wt793 : wt 793 = (.methodLink RX0 118 yX0_nextBehind : Cond) := rfl
theorem wt794 : wt 794 = (.instanceMethod yX0_nextBehind : Cond) := rfl
theorem wt795 : wt 795 = (.selects RX0 yX0_nextBehind yX0_nextBehind : Cond) := rfl
theorem wt796 : wt 796 = (.code yX0_nextBehind cX0_nextBehind 12 (some .int) : Cond) := rfl
theorem wt797 : wt 797 = (.methodLink RX0 44 yX0_restOf : Cond) := rfl
theorem wt798 : wt 798 = (.instanceMethod yX0_restOf : Cond) := rfl
theorem wt799 : wt 799 = (.selects RX0 yX0_restOf yX0_restOf : Cond) := rfl
