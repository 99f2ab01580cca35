def qw_b0 : List Cond := [Cond.code yJ0_charAt_5068e cJ0_charAt_5068e 2 (some .char), Cond.fieldLink RJ0 9 "java/lang/String" "value" "[B", Cond.methodLink RJ0 492 yJ0_isLatin1_aae02, Cond.instanceMethod yJ0_isLatin1_aae02, Cond.selects RJ0 yJ0_isLatin1_aae02 yJ0_isLatin1_aae02, Cond.initialized RJ0, Cond.code yJ0_isLatin1_aae02 cJ0_isLatin1_aae02 1 (some .boolean), Cond.fieldLink RJ0 38 "java/lang/String" "COMPACT_STRINGS" "Z", Cond.fieldLink RJ0 15 "java/lang/String" "coder" "B", Cond.methodLink RJ0 495 yJ1_charAt_3b067, Cond.static yJ1_charAt_3b067, Cond.initialized RJ1, Cond.code yJ1_charAt_3b067 cJ1_charAt_3b067 2 (some .char), Cond.methodLink RJ1 9 yJ0_checkIndex_df160, Cond.static yJ0_checkIndex_df160, Cond.code yJ0_checkIndex_df160 cJ0_checkIndex_df160 2 none, Cond.fieldLink RJ0 1053 "jdk/internal/util/Preconditions" "SIOOBE_FORMATTER" "Ljava/util/function/BiFunction;", Cond.methodLink RJ0 1059 yJ3_checkIndex_8e157, Cond.static yJ3_checkIndex_8e157, Cond.initialized RJ3, Cond.code yJ3_checkIndex_8e157 cJ3_checkIndex_8e157 3 (some .int), Cond.methodLink RJ0 498 yJ2_charAt_3b067, Cond.static yJ2_charAt_3b067, Cond.initialized RJ2, Cond.code yJ2_charAt_3b067 cJ2_charAt_3b067 2 (some .char), Cond.methodLink RJ2 67 yJ2_checkIndex_2214a, Cond.static yJ2_checkIndex_2214a, Cond.code yJ2_checkIndex_2214a cJ2_checkIndex_2214a 2 none, Cond.methodLink RJ2 48 yJ2_length_9d52b, Cond.static yJ2_length_9d52b]
def qw_b1 : List Cond := [Cond.code yJ2_length_9d52b cJ2_length_9d52b 1 (some .int), Cond.methodLink RJ2 414 yJ0_checkIndex_df160, Cond.methodLink RJ2 71 yJ2_getChar_3b067, Cond.static yJ2_getChar_3b067, Cond.code yJ2_getChar_3b067 cJ2_getChar_3b067 2 (some .char), Cond.fieldLink RJ2 44 "java/lang/StringUTF16" "$assertionsDisabled" "Z", Cond.fieldLink RJ2 59 "java/lang/StringUTF16" "HI_BYTE_SHIFT" "I", Cond.fieldLink RJ2 63 "java/lang/StringUTF16" "LO_BYTE_SHIFT" "I", Cond.code yJ0_coder_7d493 cJ0_coder_7d493 1 (some .byte), Cond.code yJ0_length_8abf5 cJ0_length_8abf5 1 (some .int), Cond.methodLink RJ0 335 yJ0_coder_7d493, Cond.instanceMethod yJ0_coder_7d493, Cond.selects RJ0 yJ0_coder_7d493 yJ0_coder_7d493, Cond.code yJ7_fill_53178 cJ7_fill_53178 4 none, Cond.code yJ9_abs_0f7a4 cJ9_abs_0f7a4 1 (some .int), Cond.code yJ9_max_7cf53 cJ9_max_7cf53 2 (some .int), Cond.code yJ9_min_7cf53 cJ9_min_7cf53 2 (some .int), Cond.codeWith yL_accountOf cL_accountOf 5 (some .int) [(0, 10, 13, 13)], Cond.classLink RL 13 "java/lang/IndexOutOfBoundsException", Cond.methodLink RL 53 yX7_accountOf, Cond.instanceMethod yX7_accountOf, Cond.selects RX7 yX7_accountOf yX7_accountOf, Cond.initialized RX7, Cond.code yX7_accountOf cX7_accountOf 3 (some .int), Cond.fieldLink RX7 47 "RationOffice" "state" "LRationOffice$State;", Cond.fieldLink RX7 222 "RationOffice$State" "account" "[I", Cond.methodLink RX7 213 yX7_isShop, Cond.instanceMethod yX7_isShop, Cond.selects RX7 yX7_isShop yX7_isShop, Cond.code yX7_isShop cX7_isShop 2 (some .boolean)]
def qw_b2 : List Cond := [Cond.fieldLink RX7 40 "RationOffice" "plan" "LRationOffice$Plan;", Cond.fieldLink RX7 90 "RationOffice$Plan" "shops" "I", Cond.methodLink RX7 115 yX7_isGroup, Cond.instanceMethod yX7_isGroup, Cond.selects RX7 yX7_isGroup yX7_isGroup, Cond.code yX7_isGroup cX7_isGroup 2 (some .boolean), Cond.fieldLink RX7 81 "RationOffice$Plan" "groups" "I", Cond.methodLink RX7 119 yX7_need, Cond.static yX7_need, Cond.code yX7_need cX7_need 1 none, Cond.classLink RX7 338 "java/lang/IndexOutOfBoundsException", Cond.initialized "java/lang/IndexOutOfBoundsException", Cond.methodLink RX7 225 yX5_entry, Cond.static yX5_entry, Cond.initialized RX5, Cond.code yX5_entry cX5_entry 2 (some .int), Cond.codeWith yL_basketCost cL_basketCost 5 (some .int) [(0, 10, 13, 13)], Cond.methodLink RL 112 yX7_basketCost, Cond.instanceMethod yX7_basketCost, Cond.selects RX7 yX7_basketCost yX7_basketCost, Cond.code yX7_basketCost cX7_basketCost 6 (some .int), Cond.fieldLink RX7 30 "RationOffice" "basket" "LRationOffice$Basket;", Cond.fieldLink RX7 283 "RationOffice$Basket" "cost" "[I", Cond.methodLink RX7 150 yX7_isHouse, Cond.instanceMethod yX7_isHouse, Cond.selects RX7 yX7_isHouse yX7_isHouse, Cond.code yX7_isHouse cX7_isHouse 2 (some .boolean), Cond.fieldLink RX7 87 "RationOffice$Plan" "houses" "I", Cond.methodLink RX7 271 yX7_fillBasket, Cond.instanceMethod yX7_fillBasket]
def qw_b3 : List Cond := [Cond.selects RX7 yX7_fillBasket yX7_fillBasket, Cond.code yX7_fillBasket cX7_fillBasket 4 (some .int), Cond.methodLink RX7 231 yX7_isClosed, Cond.instanceMethod yX7_isClosed, Cond.selects RX7 yX7_isClosed yX7_isClosed, Cond.code yX7_isClosed cX7_isClosed 2 (some .boolean), Cond.fieldLink RX7 228 "RationOffice$State" "penalty" "[I", Cond.fieldLink RX7 159 "RationOffice$State" "setting" "[I", Cond.methodLink RX7 162 yX7_holding, Cond.instanceMethod yX7_holding, Cond.selects RX7 yX7_holding yX7_holding, Cond.code yX7_holding cX7_holding 3 (some .int), Cond.fieldLink RX7 166 "RationOffice$State" "purses" "[I", Cond.methodLink RX7 169 yX5_purse, Cond.static yX5_purse, Cond.code yX5_purse cX5_purse 2 (some .int), Cond.methodLink RX7 179 yX4_total, Cond.static yX4_total, Cond.initialized RX4, Cond.code yX4_total cX4_total 4 (some .int), Cond.methodLink RX7 279 yX0_choose, Cond.instanceMethod yX0_choose, Cond.selects RX0 yX0_choose yX0_choose, Cond.initialized RX0, Cond.code yX0_choose cX0_choose 7 none, Cond.fieldLink RX0 23 "RationOffice$Basket" "value" "I", Cond.fieldLink RX0 11 "RationOffice$Basket" "best" "[[I", Cond.fieldLink RX0 27 "RationOffice$Plan" "goods" "I", Cond.fieldLink RX0 38 "RationOffice$Plan" "groups" "I", Cond.fieldLink RX0 41 "RationOffice$State" "purses" "[I"]
def qw_b4 : List Cond := [Cond.methodLink RX0 56 Lib.Math.min.name, Cond.static Lib.Math.min.name, Cond.initialized "java/lang/Math", Cond.code Lib.Math.min.name Lib.Math.min.code 2 (some .int), Cond.fieldLink RX0 20 "RationOffice$Basket" "cost" "[I", Cond.methodLink RX0 32 yJ7_fill_53178, Cond.static yJ7_fill_53178, Cond.initialized RJ7, Cond.methodLink RX0 46 yX5_purse, Cond.methodLink RX0 50 yX4_total, Cond.methodLink RX0 61 yX0_weigh, Cond.instanceMethod yX0_weigh, Cond.selects RX0 yX0_weigh yX0_weigh, Cond.code yX0_weigh cX0_weigh 8 none, Cond.methodLink RX0 72 arraycopyName, Cond.native arraycopyName, Cond.static arraycopyName, Cond.initialized "java/lang/System", Cond.fieldLink RX0 78 "RationOffice$Plan" "groupOf" "[I", Cond.fieldLink RX0 81 "RationOffice$State" "stock" "[I", Cond.fieldLink RX0 87 "RationOffice$Plan" "rate" "[I", Cond.fieldLink RX0 93 "RationOffice$Plan" "value" "[I", Cond.methodLink RX0 84 yX5_shelf, Cond.static yX5_shelf, Cond.code yX5_shelf cX5_shelf 2 (some .int), Cond.static yX7_quotient, Cond.code yX7_quotient cX7_quotient 2 (some .int), Cond.methodLink RX0 95 yX0_addUnits, Cond.instanceMethod yX0_addUnits, Cond.selects RX0 yX0_addUnits yX0_addUnits]
def qw_b5 : List Cond := [Cond.code yX0_addUnits cX0_addUnits 9 none, Cond.methodLink RX0 99 yX0_addLot, Cond.static yX0_addLot, Cond.code yX0_addLot cX0_addLot 5 none, Cond.methodLink RX0 103 Lib.Math.max.name, Cond.static Lib.Math.max.name, Cond.code Lib.Math.max.name Lib.Math.max.code 2 (some .int), Cond.methodLink RX0 65 yX0_cheapest, Cond.instanceMethod yX0_cheapest, Cond.selects RX0 yX0_cheapest yX0_cheapest, Cond.code yX0_cheapest cX0_cheapest 3 (some .int), Cond.methodLink RX0 69 yX0_fill, Cond.instanceMethod yX0_fill, Cond.selects RX0 yX0_fill yX0_fill, Cond.code yX0_fill cX0_fill 8 none, Cond.fieldLink RX0 16 "RationOffice$Basket" "units" "[I", Cond.methodLink RX0 106 yX0_mostWithoutLoss, Cond.instanceMethod yX0_mostWithoutLoss, Cond.selects RX0 yX0_mostWithoutLoss yX0_mostWithoutLoss, Cond.code yX0_mostWithoutLoss cX0_mostWithoutLoss 7 (some .int), Cond.codeWith yL_basketLeft cL_basketLeft 6 (some .int) [(0, 12, 15, 13)], Cond.methodLink RL 115 yX7_basketLeft, Cond.instanceMethod yX7_basketLeft, Cond.selects RX7 yX7_basketLeft yX7_basketLeft, Cond.code yX7_basketLeft cX7_basketLeft 5 (some .int), Cond.codeWith yL_basketUnits cL_basketUnits 6 (some .int) [(0, 12, 15, 13)], Cond.methodLink RL 100 yX7_basketUnits, Cond.instanceMethod yX7_basketUnits, Cond.selects RX7 yX7_basketUnits yX7_basketUnits, Cond.code yX7_basketUnits cX7_basketUnits 5 (some .int)]
def qw_b6 : List Cond := [Cond.fieldLink RX7 276 "RationOffice$Basket" "units" "[I", Cond.methodLink RX7 138 yX7_isGood, Cond.instanceMethod yX7_isGood, Cond.selects RX7 yX7_isGood yX7_isGood, Cond.code yX7_isGood cX7_isGood 2 (some .boolean), Cond.fieldLink RX7 84 "RationOffice$Plan" "goods" "I", Cond.codeWith yL_basketValue cL_basketValue 5 (some .int) [(0, 10, 13, 13)], Cond.methodLink RL 97 yX7_basketValue, Cond.instanceMethod yX7_basketValue, Cond.selects RX7 yX7_basketValue yX7_basketValue, Cond.code yX7_basketValue cX7_basketValue 4 (some .int), Cond.fieldLink RX7 274 "RationOffice$Basket" "value" "I", Cond.codeWith yL_bestHouse cL_bestHouse 5 (some .int) [(0, 10, 13, 13)], Cond.methodLink RL 109 yX7_bestHouse, Cond.instanceMethod yX7_bestHouse, Cond.selects RX7 yX7_bestHouse yX7_bestHouse, Cond.code yX7_bestHouse cX7_bestHouse 7 (some .int), Cond.methodLink RX7 262 yX7_mostToBuy, Cond.instanceMethod yX7_mostToBuy, Cond.selects RX7 yX7_mostToBuy yX7_mostToBuy, Cond.code yX7_mostToBuy cX7_mostToBuy 8 (some .int), Cond.fieldLink RX7 141 "RationOffice$Plan" "groupOf" "[I", Cond.fieldLink RX7 132 "RationOffice$Plan" "substitute" "[I", Cond.fieldLink RX7 135 "RationOffice$Plan" "factor" "[I", Cond.fieldLink RX7 144 "RationOffice$Plan" "rate" "[I", Cond.fieldLink RX7 216 "RationOffice$State" "stock" "[I", Cond.methodLink RX7 201 Lib.Math.min.name, Cond.methodLink RX7 265 yX7_quotient, Cond.methodLink RX7 219 yX5_shelf, Cond.codeWith yL_bestShop cL_bestShop 4 (some .int) [(0, 9, 12, 13)]]
def qw_b7 : List Cond := [Cond.methodLink RL 106 yX7_bestShop, Cond.instanceMethod yX7_bestShop, Cond.selects RX7 yX7_bestShop yX7_bestShop, Cond.code yX7_bestShop cX7_bestShop 6 (some .int), Cond.codeWith yL_coupons cL_coupons 5 (some .int) [(0, 10, 13, 13)], Cond.methodLink RL 22 yX7_coupons, Cond.instanceMethod yX7_coupons, Cond.selects RX7 yX7_coupons yX7_coupons, Cond.code yX7_coupons cX7_coupons 3 (some .int), Cond.codeWith yL_couponsAfter cL_couponsAfter 6 (some .int) [(0, 12, 15, 13)], Cond.methodLink RL 32 yX7_couponsAfter, Cond.instanceMethod yX7_couponsAfter, Cond.selects RX7 yX7_couponsAfter yX7_couponsAfter, Cond.code yX7_couponsAfter cX7_couponsAfter 5 (some .int), Cond.fieldLink RX7 34 "RationOffice" "ahead" "[I", Cond.methodLink RX7 172 yX7_startAhead, Cond.instanceMethod yX7_startAhead, Cond.selects RX7 yX7_startAhead yX7_startAhead, Cond.code yX7_startAhead cX7_startAhead 3 none, Cond.methodLink RX7 345 arraycopyName, Cond.methodLink RX7 176 yX7_stepAhead, Cond.instanceMethod yX7_stepAhead, Cond.selects RX7 yX7_stepAhead yX7_stepAhead, Cond.code yX7_stepAhead cX7_stepAhead 4 (some .int), Cond.fieldLink RX7 129 "RationOffice$Plan" "carry" "[I", Cond.fieldLink RX7 126 "RationOffice$Plan" "life" "[I", Cond.methodLink RX7 326 yX4_growOlder, Cond.static yX4_growOlder, Cond.code yX4_growOlder cX4_growOlder 6 (some .int), Cond.methodLink RX7 329 yX7_shareOf]
def qw_b8 : List Cond := [Cond.instanceMethod yX7_shareOf, Cond.selects RX7 yX7_shareOf yX7_shareOf, Cond.code yX7_shareOf cX7_shareOf 3 (some .int), Cond.fieldLink RX7 153 "RationOffice$State" "size" "[I", Cond.fieldLink RX7 123 "RationOffice$State" "ration" "[I", Cond.codeWith yL_couponsWith cL_couponsWith 6 (some .int) [(0, 12, 15, 13)], Cond.methodLink RL 25 yX7_couponsWith, Cond.instanceMethod yX7_couponsWith, Cond.selects RX7 yX7_couponsWith yX7_couponsWith, Cond.code yX7_couponsWith cX7_couponsWith 4 (some .int), Cond.codeWith yL_deliveredTo cL_deliveredTo 5 (some .int) [(0, 10, 13, 13)], Cond.methodLink RL 66 yX7_deliveredTo, Cond.instanceMethod yX7_deliveredTo, Cond.selects RX7 yX7_deliveredTo yX7_deliveredTo, Cond.code yX7_deliveredTo cX7_deliveredTo 3 (some .int), Cond.fieldLink RX7 237 "RationOffice$State" "delivered" "[I", Cond.codeWith yL_givenBy cL_givenBy 4 (some .int) [(0, 9, 12, 13)], Cond.methodLink RL 38 yX7_givenBy, Cond.instanceMethod yX7_givenBy, Cond.selects RX7 yX7_givenBy yX7_givenBy, Cond.code yX7_givenBy cX7_givenBy 2 (some .int), Cond.fieldLink RX7 188 "RationOffice$State" "given" "[I", Cond.codeWith yL_goodProperty cL_goodProperty 5 (some .int) [(0, 10, 13, 13)], Cond.methodLink RL 15 yX7_goodProperty, Cond.instanceMethod yX7_goodProperty, Cond.selects RX7 yX7_goodProperty yX7_goodProperty, Cond.code yX7_goodProperty cX7_goodProperty 3 (some .int), Cond.fieldLink RX7 147 "RationOffice$Plan" "value" "[I", Cond.codeWith yL_groupProperty cL_groupProperty 5 (some .int) [(0, 10, 13, 13)], Cond.methodLink RL 7 yX7_groupProperty]
def qw_b9 : List Cond := [Cond.instanceMethod yX7_groupProperty, Cond.selects RX7 yX7_groupProperty yX7_groupProperty, Cond.code yX7_groupProperty cX7_groupProperty 3 (some .int), Cond.codeWith yL_held cL_held 4 (some .int) [(0, 9, 12, 13)], Cond.methodLink RL 81 yX7_held, Cond.instanceMethod yX7_held, Cond.selects RX7 yX7_held yX7_held, Cond.code yX7_held cX7_held 2 (some .int), Cond.methodLink RX7 249 yX7_heldByAll, Cond.instanceMethod yX7_heldByAll, Cond.selects RX7 yX7_heldByAll yX7_heldByAll, Cond.code yX7_heldByAll cX7_heldByAll 4 (some .int), Cond.codeWith yL_helpers cL_helpers 6 (some .int) [(0, 12, 15, 13)], Cond.methodLink RL 47 yX7_helpers, Cond.instanceMethod yX7_helpers, Cond.selects RX7 yX7_helpers yX7_helpers, Cond.code yX7_helpers cX7_helpers 5 (some .int), Cond.methodLink RX7 197 yX7_takeRoom, Cond.instanceMethod yX7_takeRoom, Cond.selects RX7 yX7_takeRoom yX7_takeRoom, Cond.code yX7_takeRoom cX7_takeRoom 2 (some .int), Cond.fieldLink RX7 191 "RationOffice$State" "taken" "[I", Cond.methodLink RX7 290 Lib.Math.max.name, Cond.methodLink RX7 206 yX7_fewestGivers, Cond.instanceMethod yX7_fewestGivers, Cond.selects RX7 yX7_fewestGivers yX7_fewestGivers, Cond.code yX7_fewestGivers cX7_fewestGivers 8 (some .int), Cond.methodLink RX7 210 yX7_bestGiver, Cond.instanceMethod yX7_bestGiver, Cond.selects RX7 yX7_bestGiver yX7_bestGiver]
def qw_b10 : List Cond := [Cond.code yX7_bestGiver cX7_bestGiver 6 (some .int), Cond.methodLink RX7 194 yX7_mostToGive, Cond.instanceMethod yX7_mostToGive, Cond.selects RX7 yX7_mostToGive yX7_mostToGive, Cond.code yX7_mostToGive cX7_mostToGive 3 (some .int), Cond.methodLink RX7 307 yX7_giveRoom, Cond.instanceMethod yX7_giveRoom, Cond.selects RX7 yX7_giveRoom yX7_giveRoom, Cond.code yX7_giveRoom cX7_giveRoom 2 (some .int), Cond.codeWith yL_isSuspended cL_isSuspended 4 (some .int) [(0, 16, 19, 13)], Cond.methodLink RL 59 yX7_isSuspended, Cond.instanceMethod yX7_isSuspended, Cond.selects RX7 yX7_isSuspended yX7_isSuspended, Cond.code yX7_isSuspended cX7_isSuspended 2 (some .boolean), Cond.codeWith yL_issued cL_issued 4 (some .int) [(0, 9, 12, 13)], Cond.methodLink RL 72 yX7_issued, Cond.instanceMethod yX7_issued, Cond.selects RX7 yX7_issued yX7_issued, Cond.code yX7_issued cX7_issued 2 (some .int), Cond.fieldLink RX7 240 "RationOffice$State" "issued" "[I", Cond.codeWith yL_lapseAfter cL_lapseAfter 6 (some .int) [(0, 12, 15, 13)], Cond.methodLink RL 130 yX7_lapseAfter, Cond.instanceMethod yX7_lapseAfter, Cond.selects RX7 yX7_lapseAfter yX7_lapseAfter, Cond.code yX7_lapseAfter cX7_lapseAfter 6 (some .int), Cond.codeWith yL_lapsed cL_lapsed 4 (some .int) [(0, 9, 12, 13)], Cond.methodLink RL 78 yX7_lapsed, Cond.instanceMethod yX7_lapsed, Cond.selects RX7 yX7_lapsed yX7_lapsed, Cond.code yX7_lapsed cX7_lapsed 2 (some .int)]
def qw_b11 : List Cond := [Cond.fieldLink RX7 246 "RationOffice$State" "lapsed" "[I", Cond.codeWith yL_lapsing cL_lapsing 5 (some .int) [(0, 10, 13, 13)], Cond.methodLink RL 29 yX7_lapsing, Cond.instanceMethod yX7_lapsing, Cond.selects RX7 yX7_lapsing yX7_lapsing, Cond.code yX7_lapsing cX7_lapsing 3 (some .int), Cond.codeWith yL_levelMoves cL_levelMoves 5 (some .int) [(0, 10, 13, 13)], Cond.methodLink RL 127 yX7_levelMoves, Cond.instanceMethod yX7_levelMoves, Cond.selects RX7 yX7_levelMoves yX7_levelMoves, Cond.code yX7_levelMoves cX7_levelMoves 7 (some .int), Cond.codeWith yL_mostDeliverable cL_mostDeliverable 5 (some .int) [(0, 10, 13, 13)], Cond.methodLink RL 121 yX7_mostDeliverable, Cond.instanceMethod yX7_mostDeliverable, Cond.selects RX7 yX7_mostDeliverable yX7_mostDeliverable, Cond.code yX7_mostDeliverable cX7_mostDeliverable 5 (some .int), Cond.constant RX7 286 (99999), Cond.codeWith yL_mostUnits cL_mostUnits 6 (some .int) [(0, 12, 15, 13)], Cond.methodLink RL 88 yX7_mostUnits, Cond.instanceMethod yX7_mostUnits, Cond.selects RX7 yX7_mostUnits yX7_mostUnits, Cond.code yX7_mostUnits cX7_mostUnits 4 (some .int), Cond.codeWith yL_neediest cL_neediest 4 (some .int) [(0, 9, 12, 13)], Cond.methodLink RL 35 yX7_neediest, Cond.instanceMethod yX7_neediest, Cond.selects RX7 yX7_neediest yX7_neediest, Cond.code yX7_neediest cX7_neediest 4 (some .int), Cond.methodLink RX7 184 yX7_isNeedier, Cond.instanceMethod yX7_isNeedier, Cond.selects RX7 yX7_isNeedier yX7_isNeedier]
def qw_b12 : List Cond := [Cond.code yX7_isNeedier cX7_isNeedier 4 (some .boolean), Cond.codeWith yL_penaltyOf cL_penaltyOf 4 (some .int) [(0, 9, 12, 13)], Cond.methodLink RL 56 yX7_penaltyOf, Cond.instanceMethod yX7_penaltyOf, Cond.selects RX7 yX7_penaltyOf yX7_penaltyOf, Cond.code yX7_penaltyOf cX7_penaltyOf 2 (some .int), Cond.codeWith yL_reasonFor cL_reasonFor 7 (some .int) [(0, 14, 17, 13)], Cond.methodLink RL 84 yX7_reasonFor, Cond.instanceMethod yX7_reasonFor, Cond.selects RX7 yX7_reasonFor yX7_reasonFor, Cond.code yX7_reasonFor cX7_reasonFor 5 (some .int), Cond.methodLink RX7 252 yX7_areUnits, Cond.static yX7_areUnits, Cond.code yX7_areUnits cX7_areUnits 1 (some .boolean), Cond.methodLink RX7 255 yX7_reasonAgainst, Cond.instanceMethod yX7_reasonAgainst, Cond.selects RX7 yX7_reasonAgainst yX7_reasonAgainst, Cond.code yX7_reasonAgainst cX7_reasonAgainst 5 (some .int), Cond.methodLink RX7 259 yX7_canPay, Cond.instanceMethod yX7_canPay, Cond.selects RX7 yX7_canPay yX7_canPay, Cond.code yX7_canPay cX7_canPay 6 (some .boolean), Cond.methodLink RX7 268 yX7_fromSubstitute, Cond.instanceMethod yX7_fromSubstitute, Cond.selects RX7 yX7_fromSubstitute yX7_fromSubstitute, Cond.code yX7_fromSubstitute cX7_fromSubstitute 6 (some .int), Cond.codeWith yL_served cL_served 6 (some .int) [(0, 12, 15, 13)], Cond.methodLink RL 94 yX7_served, Cond.instanceMethod yX7_served, Cond.selects RX7 yX7_served yX7_served]
def qw_b13 : List Cond := [Cond.code yX7_served cX7_served 6 (some .int), Cond.codeWith yL_sizeOf cL_sizeOf 4 (some .int) [(0, 9, 12, 13)], Cond.methodLink RL 18 yX7_sizeOf, Cond.instanceMethod yX7_sizeOf, Cond.selects RX7 yX7_sizeOf yX7_sizeOf, Cond.code yX7_sizeOf cX7_sizeOf 2 (some .int), Cond.codeWith yL_soldBy cL_soldBy 5 (some .int) [(0, 10, 13, 13)], Cond.methodLink RL 63 yX7_soldBy, Cond.instanceMethod yX7_soldBy, Cond.selects RX7 yX7_soldBy yX7_soldBy, Cond.code yX7_soldBy cX7_soldBy 3 (some .int), Cond.fieldLink RX7 234 "RationOffice$State" "sold" "[I", Cond.codeWith yL_spent cL_spent 4 (some .int) [(0, 9, 12, 13)], Cond.methodLink RL 75 yX7_spent, Cond.instanceMethod yX7_spent, Cond.selects RX7 yX7_spent yX7_spent, Cond.code yX7_spent cX7_spent 2 (some .int), Cond.fieldLink RX7 243 "RationOffice$State" "spent" "[I", Cond.codeWith yL_spreadOf cL_spreadOf 4 (some .int) [(0, 9, 12, 13)], Cond.methodLink RL 124 yX7_spreadOf, Cond.instanceMethod yX7_spreadOf, Cond.selects RX7 yX7_spreadOf yX7_spreadOf, Cond.code yX7_spreadOf cX7_spreadOf 6 (some .int), Cond.methodLink RX7 287 yX7_percentEach, Cond.instanceMethod yX7_percentEach, Cond.selects RX7 yX7_percentEach yX7_percentEach, Cond.code yX7_percentEach cX7_percentEach 3 (some .int), Cond.codeWith yL_stockOf cL_stockOf 5 (some .int) [(0, 10, 13, 13)], Cond.methodLink RL 50 yX7_stockOf, Cond.instanceMethod yX7_stockOf]
def qw_b14 : List Cond := [Cond.selects RX7 yX7_stockOf yX7_stockOf, Cond.code yX7_stockOf cX7_stockOf 3 (some .int), Cond.codeWith yL_substituted cL_substituted 6 (some .int) [(0, 12, 15, 13)], Cond.methodLink RL 91 yX7_substituted, Cond.instanceMethod yX7_substituted, Cond.selects RX7 yX7_substituted yX7_substituted, Cond.code yX7_substituted cX7_substituted 4 (some .int), Cond.codeWith yL_supplyPeriods cL_supplyPeriods 6 (some .int) [(0, 12, 15, 13)], Cond.methodLink RL 133 yX7_supplyPeriods, Cond.instanceMethod yX7_supplyPeriods, Cond.selects RX7 yX7_supplyPeriods yX7_supplyPeriods, Cond.code yX7_supplyPeriods cX7_supplyPeriods 7 (some .int), Cond.methodLink RX7 293 yX4_spend, Cond.static yX4_spend, Cond.code yX4_spend cX4_spend 6 none, Cond.methodLink RX4 9 Lib.Math.min.name, Cond.codeWith yL_swapChain cL_swapChain 4 (some .int) [(0, 9, 12, 13)], Cond.methodLink RL 118 yX7_swapChain, Cond.instanceMethod yX7_swapChain, Cond.selects RX7 yX7_swapChain yX7_swapChain, Cond.code yX7_swapChain cX7_swapChain 5 (some .int), Cond.codeWith yL_takenBy cL_takenBy 4 (some .int) [(0, 9, 12, 13)], Cond.methodLink RL 41 yX7_takenBy, Cond.instanceMethod yX7_takenBy, Cond.selects RX7 yX7_takenBy yX7_takenBy, Cond.code yX7_takenBy cX7_takenBy 2 (some .int), Cond.codeWith yL_tradeRoom cL_tradeRoom 6 (some .int) [(0, 12, 15, 13)], Cond.methodLink RL 44 yX7_tradeRoom, Cond.instanceMethod yX7_tradeRoom, Cond.selects RX7 yX7_tradeRoom yX7_tradeRoom]
def qw_b15 : List Cond := [Cond.code yX7_tradeRoom cX7_tradeRoom 4 (some .int), Cond.codeWith yL_turnover cL_turnover 4 (some .int) [(0, 9, 12, 13)], Cond.methodLink RL 69 yX7_turnover, Cond.instanceMethod yX7_turnover, Cond.selects RX7 yX7_turnover yX7_turnover, Cond.code yX7_turnover cX7_turnover 4 (some .int), Cond.codeWith yL_waitFor cL_waitFor 6 (some .int) [(0, 12, 15, 13)], Cond.methodLink RL 103 yX7_waitFor, Cond.instanceMethod yX7_waitFor, Cond.selects RX7 yX7_waitFor yX7_waitFor, Cond.code yX7_waitFor cX7_waitFor 7 (some .int), Cond.code yX0_init cX0_init 1 none, Cond.methodLink RX0 3 objectInit, Cond.instanceMethod objectInit, Cond.code objectInit ⟨#[0xb1]⟩ 1 none, Cond.classLink RX0 9 "[[I", Cond.arrayClass .int, Cond.code yX1_bringBack cX1_bringBack 2 none, Cond.fieldLink RX1 17 "RationOffice$History" "next" "I", Cond.fieldLink RX1 11 "RationOffice$History" "ring" "[LRationOffice$State;", Cond.fieldLink RX1 21 "RationOffice$History" "kept" "I", Cond.methodLink RX1 35 Lib.Math.max.name, Cond.methodLink RX1 25 yX5_become, Cond.instanceMethod yX5_become, Cond.selects RX5 yX5_become yX5_become, Cond.code yX5_become cX5_become 2 none, Cond.fieldLink RX5 9 "RationOffice$State" "period" "I", Cond.fieldLink RX5 15 "RationOffice$State" "ration" "[I", Cond.fieldLink RX5 19 "RationOffice$State" "size" "[I", Cond.fieldLink RX5 22 "RationOffice$State" "setting" "[I"]
def qw_b16 : List Cond := [Cond.fieldLink RX5 25 "RationOffice$State" "purses" "[I", Cond.fieldLink RX5 28 "RationOffice$State" "given" "[I", Cond.fieldLink RX5 31 "RationOffice$State" "taken" "[I", Cond.fieldLink RX5 34 "RationOffice$State" "stock" "[I", Cond.fieldLink RX5 37 "RationOffice$State" "account" "[I", Cond.fieldLink RX5 40 "RationOffice$State" "penalty" "[I", Cond.fieldLink RX5 43 "RationOffice$State" "sold" "[I", Cond.fieldLink RX5 46 "RationOffice$State" "delivered" "[I", Cond.fieldLink RX5 49 "RationOffice$State" "issued" "[I", Cond.fieldLink RX5 52 "RationOffice$State" "spent" "[I", Cond.fieldLink RX5 55 "RationOffice$State" "lapsed" "[I", Cond.methodLink RX5 61 yX5_copy, Cond.static yX5_copy, Cond.code yX5_copy cX5_copy 2 none, Cond.methodLink RX5 65 Lib.Math.min.name, Cond.methodLink RX5 71 arraycopyName, Cond.code yX1_forget cX1_forget 1 none, Cond.code yX1_init cX1_init 2 none, Cond.methodLink RX1 3 objectInit, Cond.classLink RX1 9 RX5, Cond.instantiable RX5 15, Cond.methodLink RX1 24 yX5_init, Cond.instanceMethod yX5_init, Cond.code yX5_init cX5_init 1 none, Cond.methodLink RX5 3 objectInit, Cond.code yX1_keep cX1_keep 2 none, Cond.methodLink RX1 29 Lib.Math.min.name, Cond.code yX2_fail cX2_fail 2 none, Cond.fieldLink RX2 36 "RationOffice$Loader" "error" "I", Cond.fieldLink RX2 12 "RationOffice$Loader" "tokens" "LRationOffice$Tokens;"]
def qw_b17 : List Cond := [Cond.fieldLink RX2 59 "RationOffice$Tokens" "start" "I", Cond.fieldLink RX2 39 "RationOffice$Loader" "errorAt" "I", Cond.code yX2_init cX2_init 1 none, Cond.methodLink RX2 3 objectInit, Cond.classLink RX2 9 RX6, Cond.instantiable RX6 5, Cond.initialized RX6, Cond.fieldLink RX2 18 "RationOffice$Loader" "settingsGiven" "I", Cond.classLink RX2 22 RX3, Cond.instantiable RX3 15, Cond.initialized RX3, Cond.fieldLink RX2 25 "RationOffice$Loader" "plan" "LRationOffice$Plan;", Cond.classLink RX2 29 RX5, Cond.fieldLink RX2 32 "RationOffice$Loader" "state" "LRationOffice$State;", Cond.instanceMethod yX6_init, Cond.code yX6_init cX6_init 1 none, Cond.methodLink RX6 3 objectInit, Cond.fieldLink RX6 9 "RationOffice$Tokens" "text" "[I", Cond.fieldLink RX6 15 "RationOffice$Tokens" "length" "I", Cond.fieldLink RX6 19 "RationOffice$Tokens" "end" "I", Cond.fieldLink RX6 22 "RationOffice$Tokens" "start" "I", Cond.fieldLink RX6 25 "RationOffice$Tokens" "kind" "I", Cond.instanceMethod yX3_init, Cond.code yX3_init cX3_init 1 none, Cond.methodLink RX3 3 objectInit, Cond.fieldLink RX3 9 "RationOffice$Plan" "groups" "I", Cond.fieldLink RX3 15 "RationOffice$Plan" "goods" "I", Cond.fieldLink RX3 18 "RationOffice$Plan" "houses" "I", Cond.fieldLink RX3 21 "RationOffice$Plan" "shops" "I", Cond.fieldLink RX3 24 "RationOffice$Plan" "groupNames" "[I"]
def qw_b18 : List Cond := [Cond.fieldLink RX3 28 "RationOffice$Plan" "goodNames" "[I", Cond.fieldLink RX3 31 "RationOffice$Plan" "houseNames" "[I", Cond.fieldLink RX3 34 "RationOffice$Plan" "shopNames" "[I", Cond.fieldLink RX3 37 "RationOffice$Plan" "life" "[I", Cond.fieldLink RX3 40 "RationOffice$Plan" "carry" "[I", Cond.fieldLink RX3 43 "RationOffice$Plan" "substitute" "[I", Cond.fieldLink RX3 46 "RationOffice$Plan" "factor" "[I", Cond.fieldLink RX3 49 "RationOffice$Plan" "groupOf" "[I", Cond.fieldLink RX3 52 "RationOffice$Plan" "rate" "[I", Cond.fieldLink RX3 55 "RationOffice$Plan" "value" "[I", Cond.methodLink RX2 31 yX5_init, Cond.code yX2_passUnless cX2_passUnless 2 none, Cond.methodLink RX2 96 yX2_fail, Cond.instanceMethod yX2_fail, Cond.selects RX2 yX2_fail yX2_fail, Cond.initialized RX2, Cond.methodLink RX2 100 yX6_advance, Cond.instanceMethod yX6_advance, Cond.selects RX6 yX6_advance yX6_advance, Cond.code yX6_advance cX6_advance 3 none, Cond.methodLink RX6 28 Lib.Math.min.name, Cond.methodLink RX6 37 yX6_kindAt, Cond.instanceMethod yX6_kindAt, Cond.selects RX6 yX6_kindAt yX6_kindAt, Cond.code yX6_kindAt cX6_kindAt 3 (some .int), Cond.code yX2_read cX2_read 4 (some .int), Cond.fieldLink RX2 50 "RationOffice$Tokens" "kind" "I", Cond.methodLink RX2 42 yX3_clear, Cond.instanceMethod yX3_clear, Cond.selects RX3 yX3_clear yX3_clear]
def qw_b19 : List Cond := [Cond.code yX3_clear cX3_clear 1 none, Cond.methodLink RX2 45 yX5_clear, Cond.instanceMethod yX5_clear, Cond.selects RX5 yX5_clear yX5_clear, Cond.code yX5_clear cX5_clear 1 none, Cond.methodLink RX5 77 yJ7_fill_53178, Cond.methodLink RX2 46 yX6_open, Cond.instanceMethod yX6_open, Cond.selects RX6 yX6_open yX6_open, Cond.code yX6_open cX6_open 3 none, Cond.methodLink RX6 34 yX6_advance, Cond.methodLink RX2 53 yX2_readStatement, Cond.instanceMethod yX2_readStatement, Cond.selects RX2 yX2_readStatement yX2_readStatement, Cond.code yX2_readStatement cX2_readStatement 1 none, Cond.methodLink RX2 64 yX6_isWord, Cond.instanceMethod yX6_isWord, Cond.selects RX6 yX6_isWord yX6_isWord, Cond.code yX6_isWord cX6_isWord 3 (some .boolean), Cond.methodLink RX6 41 yJ0_length_8abf5, Cond.instanceMethod yJ0_length_8abf5, Cond.selects RJ0 yJ0_length_8abf5 yJ0_length_8abf5, Cond.methodLink RX6 46 yJ0_charAt_5068e, Cond.instanceMethod yJ0_charAt_5068e, Cond.selects RJ0 yJ0_charAt_5068e yJ0_charAt_5068e, Cond.methodLink RX2 68 yX2_readGroup, Cond.instanceMethod yX2_readGroup, Cond.selects RX2 yX2_readGroup yX2_readGroup, Cond.code yX2_readGroup cX2_readGroup 2 none, Cond.fieldLink RX2 122 "RationOffice$Plan" "groups" "I"]
def qw_b20 : List Cond := [Cond.fieldLink RX2 125 "RationOffice$Plan" "groupNames" "[I", Cond.fieldLink RX2 132 "RationOffice$State" "ration" "[I", Cond.fieldLink RX2 139 "RationOffice$Plan" "life" "[I", Cond.fieldLink RX2 142 "RationOffice$Plan" "carry" "[I", Cond.fieldLink RX2 145 "RationOffice$Plan" "substitute" "[I", Cond.fieldLink RX2 148 "RationOffice$Plan" "factor" "[I", Cond.methodLink RX2 129 yX2_readNewName, Cond.instanceMethod yX2_readNewName, Cond.selects RX2 yX2_readNewName yX2_readNewName, Cond.code yX2_readNewName cX2_readNewName 2 (some .int), Cond.methodLink RX2 107 yX6_isName, Cond.instanceMethod yX6_isName, Cond.selects RX6 yX6_isName yX6_isName, Cond.code yX6_isName cX6_isName 1 (some .boolean), Cond.methodLink RX6 52 yX6_isWord, Cond.methodLink RX2 111 yX6_letters, Cond.instanceMethod yX6_letters, Cond.selects RX6 yX6_letters yX6_letters, Cond.code yX6_letters cX6_letters 3 (some .int), Cond.methodLink RX2 114 yX3_isDeclared, Cond.instanceMethod yX3_isDeclared, Cond.selects RX3 yX3_isDeclared yX3_isDeclared, Cond.code yX3_isDeclared cX3_isDeclared 2 (some .boolean), Cond.methodLink RX3 58 yX3_find, Cond.static yX3_find, Cond.code yX3_find cX3_find 4 (some .int), Cond.methodLink RX2 135 yX2_readInteger, Cond.instanceMethod yX2_readInteger, Cond.selects RX2 yX2_readInteger yX2_readInteger, Cond.code yX2_readInteger cX2_readInteger 4 (some .int)]
def qw_b21 : List Cond := [Cond.methodLink RX2 103 yX6_integer, Cond.instanceMethod yX6_integer, Cond.selects RX6 yX6_integer yX6_integer, Cond.code yX6_integer cX6_integer 3 (some .int), Cond.constant RX6 72 (100000), Cond.methodLink RX2 73 yX2_readSwap, Cond.instanceMethod yX2_readSwap, Cond.selects RX2 yX2_readSwap yX2_readSwap, Cond.code yX2_readSwap cX2_readSwap 3 none, Cond.methodLink RX2 151 yX2_seeName, Cond.instanceMethod yX2_seeName, Cond.selects RX2 yX2_seeName yX2_seeName, Cond.code yX2_seeName cX2_seeName 4 (some .int), Cond.methodLink RX2 118 yX3_find, Cond.methodLink RX2 155 yX2_passUnless, Cond.instanceMethod yX2_passUnless, Cond.selects RX2 yX2_passUnless yX2_passUnless, Cond.methodLink RX2 78 yX2_readGood, Cond.instanceMethod yX2_readGood, Cond.selects RX2 yX2_readGood yX2_readGood, Cond.code yX2_readGood cX2_readGood 2 none, Cond.fieldLink RX2 159 "RationOffice$Plan" "goods" "I", Cond.fieldLink RX2 162 "RationOffice$Plan" "goodNames" "[I", Cond.fieldLink RX2 165 "RationOffice$Plan" "groupOf" "[I", Cond.fieldLink RX2 168 "RationOffice$Plan" "rate" "[I", Cond.fieldLink RX2 171 "RationOffice$Plan" "value" "[I", Cond.methodLink RX2 83 yX2_readHouse, Cond.instanceMethod yX2_readHouse, Cond.selects RX2 yX2_readHouse yX2_readHouse, Cond.code yX2_readHouse cX2_readHouse 2 none]
def qw_b22 : List Cond := [Cond.fieldLink RX2 174 "RationOffice$Plan" "houses" "I", Cond.fieldLink RX2 177 "RationOffice$Plan" "houseNames" "[I", Cond.fieldLink RX2 180 "RationOffice$State" "size" "[I", Cond.methodLink RX2 88 yX2_readShop, Cond.instanceMethod yX2_readShop, Cond.selects RX2 yX2_readShop yX2_readShop, Cond.code yX2_readShop cX2_readShop 5 none, Cond.fieldLink RX2 183 "RationOffice$Plan" "shops" "I", Cond.fieldLink RX2 186 "RationOffice$Plan" "shopNames" "[I", Cond.fieldLink RX2 189 "RationOffice$State" "stock" "[I", Cond.methodLink RX2 192 yX5_shelf, Cond.methodLink RX2 93 yX2_readSetting, Cond.instanceMethod yX2_readSetting, Cond.selects RX2 yX2_readSetting yX2_readSetting, Cond.code yX2_readSetting cX2_readSetting 2 none, Cond.fieldLink RX2 198 "RationOffice$State" "setting" "[I", Cond.methodLink RX2 195 yX6_settingWord, Cond.instanceMethod yX6_settingWord, Cond.selects RX6 yX6_settingWord yX6_settingWord, Cond.code yX6_settingWord cX6_settingWord 1 (some .int), Cond.methodLink RX2 56 yX2_readSemicolon, Cond.instanceMethod yX2_readSemicolon, Cond.selects RX2 yX2_readSemicolon yX2_readSemicolon, Cond.code yX2_readSemicolon cX2_readSemicolon 1 none, Cond.code yX4_move cX4_move 7 none, Cond.code yX7_append cX7_append 3 none, Cond.fieldLink RX7 51 "RationOffice" "fed" "I", Cond.fieldLink RX7 9 "RationOffice" "buffer" "[I", Cond.code yX7_audit cX7_audit 5 (some .int), Cond.fieldLink RX7 23 "RationOffice" "history" "LRationOffice$History;"]
def qw_b23 : List Cond := [Cond.methodLink RX7 314 Lib.Math.abs.name, Cond.static Lib.Math.abs.name, Cond.code Lib.Math.abs.name Lib.Math.abs.code 1 (some .int), Cond.methodLink RX7 297 yX1_keep, Cond.instanceMethod yX1_keep, Cond.selects RX1 yX1_keep yX1_keep, Cond.initialized RX1, Cond.code yX7_buy cX7_buy 7 (some .int), Cond.methodLink RX7 301 yX7_pay, Cond.instanceMethod yX7_pay, Cond.selects RX7 yX7_pay yX7_pay, Cond.code yX7_pay cX7_pay 7 none, Cond.methodLink RX7 305 yX7_spend, Cond.instanceMethod yX7_spend, Cond.selects RX7 yX7_spend yX7_spend, Cond.code yX7_spend cX7_spend 4 none, Cond.code yX7_deliver cX7_deliver 7 (some .int), Cond.code yX7_endPeriodOf cX7_endPeriodOf 4 (some .int), Cond.code yX7_errorPosition cX7_errorPosition 1 (some .int), Cond.fieldLink RX7 55 "RationOffice" "errorAt" "I", Cond.code yX7_exchangeWithLoader cX7_exchangeWithLoader 3 none, Cond.fieldLink RX7 16 "RationOffice" "loader" "LRationOffice$Loader;", Cond.fieldLink RX7 79 "RationOffice$Loader" "plan" "LRationOffice$Plan;", Cond.fieldLink RX7 80 "RationOffice$Loader" "state" "LRationOffice$State;", Cond.code yX7_feed cX7_feed 6 (some .int), Cond.methodLink RX7 58 yX7_append, Cond.instanceMethod yX7_append, Cond.selects RX7 yX7_append yX7_append, Cond.code yX7_getSetting cX7_getSetting 2 (some .int), Cond.methodLink RX7 156 yX7_isSetting]
def qw_b24 : List Cond := [Cond.static yX7_isSetting, Cond.code yX7_isSetting cX7_isSetting 1 (some .boolean), Cond.code yX7_goodCount cX7_goodCount 1 (some .int), Cond.code yX7_goodNamed cX7_goodNamed 2 (some .int), Cond.fieldLink RX7 106 "RationOffice$Plan" "goodNames" "[I", Cond.methodLink RX7 102 yX3_find, Cond.code yX7_groupCount cX7_groupCount 1 (some .int), Cond.code yX7_groupNamed cX7_groupNamed 2 (some .int), Cond.fieldLink RX7 99 "RationOffice$Plan" "groupNames" "[I", Cond.code yX7_houseCount cX7_houseCount 1 (some .int), Cond.code yX7_houseNamed cX7_houseNamed 2 (some .int), Cond.fieldLink RX7 109 "RationOffice$Plan" "houseNames" "[I", Cond.code yX7_init cX7_init 1 none, Cond.methodLink RX7 3 objectInit, Cond.classLink RX7 13 RX2, Cond.instantiable RX2 6, Cond.classLink RX7 20 RX1, Cond.instantiable RX1 3, Cond.classLink RX7 27 RX0, Cond.instantiable RX0 4, Cond.classLink RX7 37 RX3, Cond.classLink RX7 44 RX5, Cond.instanceMethod yX2_init, Cond.methodLink RX7 22 yX1_init, Cond.instanceMethod yX1_init, Cond.instanceMethod yX0_init, Cond.methodLink RX7 46 yX5_init, Cond.code yX7_issueToAll cX7_issueToAll 4 none, Cond.code yX7_load cX7_load 3 (some .int), Cond.fieldLink RX7 66 "RationOffice$Loader" "errorAt" "I"]
def qw_b25 : List Cond := [Cond.fieldLink RX7 67 "RationOffice$Loader" "error" "I", Cond.methodLink RX7 62 yX2_read, Cond.instanceMethod yX2_read, Cond.selects RX2 yX2_read yX2_read, Cond.methodLink RX7 70 yX7_exchangeWithLoader, Cond.instanceMethod yX7_exchangeWithLoader, Cond.selects RX7 yX7_exchangeWithLoader yX7_exchangeWithLoader, Cond.methodLink RX7 73 yX1_forget, Cond.instanceMethod yX1_forget, Cond.selects RX1 yX1_forget yX1_forget, Cond.methodLink RX7 76 yX7_issueToAll, Cond.instanceMethod yX7_issueToAll, Cond.selects RX7 yX7_issueToAll yX7_issueToAll, Cond.code yX7_nextPeriod cX7_nextPeriod 3 (some .int), Cond.fieldLink RX7 96 "RationOffice$State" "period" "I", Cond.methodLink RX7 317 yX7_endPeriodOf, Cond.instanceMethod yX7_endPeriodOf, Cond.selects RX7 yX7_endPeriodOf yX7_endPeriodOf, Cond.methodLink RX7 320 yJ7_fill_53178, Cond.code yX7_pardon cX7_pardon 3 (some .int), Cond.code yX7_period cX7_period 1 (some .int), Cond.code yX7_setRation cX7_setRation 4 (some .int), Cond.code yX7_setSetting cX7_setSetting 4 (some .int), Cond.fieldLink RX7 332 "RationOffice" "GREATEST_SETTINGS" "[I", Cond.code yX7_setSize cX7_setSize 4 (some .int), Cond.code yX7_shopCount cX7_shopCount 1 (some .int), Cond.code yX7_shopNamed cX7_shopNamed 2 (some .int), Cond.fieldLink RX7 112 "RationOffice$Plan" "shopNames" "[I", Cond.code yX7_trade cX7_trade 5 (some .int), Cond.methodLink RX7 310 yX4_move]
def qw_b26 : List Cond := [Cond.static yX4_move, Cond.code yX7_undo cX7_undo 1 (some .int), Cond.fieldLink RX7 93 "RationOffice$History" "kept" "I", Cond.methodLink RX7 335 yX1_bringBack, Cond.instanceMethod yX1_bringBack, Cond.selects RX1 yX1_bringBack yX1_bringBack, Cond.code yX7_undoCount cX7_undoCount 1 (some .int), Cond.code yX8_accountOf cX8_accountOf 3 (some .int), Cond.fieldLink RX8 7 "RationOfficeModel" "data" "[I", Cond.methodLink RX8 254 yX8_isShop, Cond.instanceMethod yX8_isShop, Cond.selects RX8 yX8_isShop yX8_isShop, Cond.initialized RX8, Cond.code yX8_isShop cX8_isShop 2 (some .boolean), Cond.fieldLink RX8 19 "RationOfficeModel" "fixed" "[I", Cond.methodLink RX8 85 yX8_inRange, Cond.static yX8_inRange, Cond.code yX8_inRange cX8_inRange 3 (some .boolean), Cond.methodLink RX8 197 yX8_isGroup, Cond.instanceMethod yX8_isGroup, Cond.selects RX8 yX8_isGroup yX8_isGroup, Cond.code yX8_isGroup cX8_isGroup 2 (some .boolean), Cond.methodLink RX8 201 yX8_fails, Cond.instanceMethod yX8_fails, Cond.selects RX8 yX8_fails yX8_fails, Cond.code yX8_fails cX8_fails 2 (some .boolean), Cond.fieldLink RX8 49 "RationOfficeModel" "thrown" "I", Cond.code yX8_advance cX8_advance 2 none, Cond.fieldLink RX8 62 "RationOfficeModel" "next" "I", Cond.fieldLink RX8 72 "RationOfficeModel" "tokenStart" "I"]
def qw_b27 : List Cond := [Cond.fieldLink RX8 75 "RationOfficeModel" "word" "J", Cond.fieldLink RX8 79 "RationOfficeModel" "integer" "I", Cond.fieldLink RX8 82 "RationOfficeModel" "token" "I", Cond.constant RX8 89 (100000000), Cond.constant RX8 90 (1000000000), Cond.methodLink RX8 68 yX8_peek, Cond.instanceMethod yX8_peek, Cond.selects RX8 yX8_peek yX8_peek, Cond.code yX8_peek cX8_peek 1 (some .int), Cond.fieldLink RX8 65 "RationOfficeModel" "end" "I", Cond.fieldLink RX8 25 "RationOfficeModel" "buffer" "[B", Cond.code yX8_advanceIfGood cX8_advanceIfGood 1 none, Cond.fieldLink RX8 91 "RationOfficeModel" "error" "I", Cond.methodLink RX8 94 yX8_advance, Cond.instanceMethod yX8_advance, Cond.selects RX8 yX8_advance yX8_advance, Cond.code yX8_append cX8_append 3 none, Cond.fieldLink RX8 55 "RationOfficeModel" "bufferSize" "I", Cond.code yX8_at cX8_at 2 (some .int), Cond.code yX8_audit cX8_audit 5 (some .int), Cond.constant RX8 277 (99999), Cond.methodLink RX8 205 yX8_isGood, Cond.instanceMethod yX8_isGood, Cond.selects RX8 yX8_isGood yX8_isGood, Cond.code yX8_isGood cX8_isGood 2 (some .boolean), Cond.methodLink RX8 235 yX8_remember, Cond.instanceMethod yX8_remember, Cond.selects RX8 yX8_remember yX8_remember, Cond.code yX8_remember cX8_remember 2 none, Cond.fieldLink RX8 52 "RationOfficeModel" "historySize" "I"]
def qw_b28 : List Cond := [Cond.fieldLink RX8 16 "RationOfficeModel" "history" "[I", Cond.code yX8_basketCost cX8_basketCost 4 (some .int), Cond.methodLink RX8 208 yX8_isHouse, Cond.instanceMethod yX8_isHouse, Cond.selects RX8 yX8_isHouse yX8_isHouse, Cond.code yX8_isHouse cX8_isHouse 2 (some .boolean), Cond.methodLink RX8 297 yX8_layBasket, Cond.instanceMethod yX8_layBasket, Cond.selects RX8 yX8_layBasket yX8_layBasket, Cond.code yX8_layBasket cX8_layBasket 4 (some .int), Cond.methodLink RX8 257 yX8_isSuspendedNow, Cond.instanceMethod yX8_isSuspendedNow, Cond.selects RX8 yX8_isSuspendedNow yX8_isSuspendedNow, Cond.code yX8_isSuspendedNow cX8_isSuspendedNow 2 (some .boolean), Cond.methodLink RX8 291 yX8_isTooLarge, Cond.instanceMethod yX8_isTooLarge, Cond.selects RX8 yX8_isTooLarge yX8_isTooLarge, Cond.code yX8_isTooLarge cX8_isTooLarge 3 (some .boolean), Cond.methodLink RX8 214 yX8_couponsOf, Cond.instanceMethod yX8_couponsOf, Cond.selects RX8 yX8_couponsOf yX8_couponsOf, Cond.code yX8_couponsOf cX8_couponsOf 5 (some .int), Cond.methodLink RX8 211 yX8_at, Cond.static yX8_at, Cond.methodLink RX8 294 yX8_fillBasket, Cond.instanceMethod yX8_fillBasket, Cond.selects RX8 yX8_fillBasket yX8_fillBasket, Cond.code yX8_fillBasket cX8_fillBasket 7 none, Cond.fieldLink RX8 36 "RationOfficeModel" "worth" "[I", Cond.fieldLink RX8 39 "RationOfficeModel" "basket" "[I"]
def qw_b29 : List Cond := [Cond.methodLink RX8 287 yX8_layWorth, Cond.instanceMethod yX8_layWorth, Cond.selects RX8 yX8_layWorth yX8_layWorth, Cond.code yX8_layWorth cX8_layWorth 9 none, Cond.methodLink RX8 281 yX8_mostIn, Cond.instanceMethod yX8_mostIn, Cond.selects RX8 yX8_mostIn yX8_mostIn, Cond.code yX8_mostIn cX8_mostIn 4 (some .int), Cond.methodLink RX8 241 yX8_lesser, Cond.static yX8_lesser, Cond.code yX8_lesser cX8_lesser 2 (some .int), Cond.methodLink RX8 284 yX8_worthWith, Cond.instanceMethod yX8_worthWith, Cond.selects RX8 yX8_worthWith yX8_worthWith, Cond.code yX8_worthWith cX8_worthWith 4 (some .int), Cond.methodLink RX8 300 yX8_costOfBasket, Cond.instanceMethod yX8_costOfBasket, Cond.selects RX8 yX8_costOfBasket yX8_costOfBasket, Cond.code yX8_costOfBasket cX8_costOfBasket 4 (some .int), Cond.code yX8_basketLeft cX8_basketLeft 5 (some .int), Cond.code yX8_basketUnits cX8_basketUnits 5 (some .int), Cond.code yX8_basketValue cX8_basketValue 6 (some .int), Cond.code yX8_begin cX8_begin 3 (some .int), Cond.fieldLink RX8 22 "RationOfficeModel" "read" "[I", Cond.methodLink RX8 97 yX8_check, Cond.instanceMethod yX8_check, Cond.selects RX8 yX8_check yX8_check, Cond.code yX8_check cX8_check 3 none, Cond.fieldLink RX8 29 "RationOfficeModel" "errorAt" "I", Cond.methodLink RX8 101 yX8_advanceIfGood]
def qw_b30 : List Cond := [Cond.instanceMethod yX8_advanceIfGood, Cond.selects RX8 yX8_advanceIfGood yX8_advanceIfGood, Cond.methodLink RX8 131 yX8_readNewName, Cond.instanceMethod yX8_readNewName, Cond.selects RX8 yX8_readNewName yX8_readNewName, Cond.code yX8_readNewName cX8_readNewName 3 (some .int), Cond.methodLink RX8 124 yX8_lettersHere, Cond.instanceMethod yX8_lettersHere, Cond.selects RX8 yX8_lettersHere yX8_lettersHere, Cond.code yX8_lettersHere cX8_lettersHere 3 (some .int), Cond.methodLink RX8 120 yX8_isKeyword, Cond.instanceMethod yX8_isKeyword, Cond.selects RX8 yX8_isKeyword yX8_isKeyword, Cond.code yX8_isKeyword cX8_isKeyword 1 (some .boolean), Cond.constantLong RX8 104 (7945904), Cond.constantLong RX8 106 (646192), Cond.constantLong RX8 108 (245220), Cond.constantLong RX8 110 (8902245), Cond.constantLong RX8 112 (631280), Cond.constantLong RX8 114 (19636), Cond.constantLong RX8 116 (239301), Cond.constantLong RX8 118 (656741), Cond.methodLink RX8 127 yX8_indexOf, Cond.static yX8_indexOf, Cond.code yX8_indexOf cX8_indexOf 4 (some .int), Cond.code yX8_bestHouse cX8_bestHouse 6 (some .int), Cond.methodLink RX8 274 yX8_mostNow, Cond.instanceMethod yX8_mostNow, Cond.selects RX8 yX8_mostNow yX8_mostNow, Cond.code yX8_mostNow cX8_mostNow 7 (some .int)]
def qw_b31 : List Cond := [Cond.methodLink RX8 270 yX8_reason, Cond.instanceMethod yX8_reason, Cond.selects RX8 yX8_reason yX8_reason, Cond.code yX8_reason cX8_reason 5 (some .int), Cond.methodLink RX8 263 yX8_replaced, Cond.instanceMethod yX8_replaced, Cond.selects RX8 yX8_replaced yX8_replaced, Cond.code yX8_replaced cX8_replaced 7 (some .int), Cond.code yX8_bestShop cX8_bestShop 5 (some .int), Cond.code yX8_buy cX8_buy 10 (some .int), Cond.methodLink RX8 267 yX8_isUnits, Cond.static yX8_isUnits, Cond.code yX8_isUnits cX8_isUnits 1 (some .boolean), Cond.methodLink RX8 250 yX8_takeCoupons, Cond.instanceMethod yX8_takeCoupons, Cond.selects RX8 yX8_takeCoupons yX8_takeCoupons, Cond.code yX8_takeCoupons cX8_takeCoupons 8 none, Cond.code yX8_canGive cX8_canGive 3 (some .int), Cond.methodLink RX8 238 yX8_room, Cond.instanceMethod yX8_room, Cond.selects RX8 yX8_room yX8_room, Cond.code yX8_room cX8_room 3 (some .int), Cond.code yX8_canTake cX8_canTake 2 (some .int), Cond.code yX8_carriedOf cX8_carriedOf 3 (some .int), Cond.code yX8_change cX8_change 4 (some .int), Cond.code yX8_clear cX8_clear 2 none, Cond.code yX8_countOf cX8_countOf 2 (some .int), Cond.code yX8_coupons cX8_coupons 3 (some .int), Cond.code yX8_couponsAfter cX8_couponsAfter 5 (some .int), Cond.methodLink RX8 223 yX8_layLater]
def qw_b32 : List Cond := [Cond.instanceMethod yX8_layLater, Cond.selects RX8 yX8_layLater yX8_layLater, Cond.code yX8_layLater cX8_layLater 4 none, Cond.fieldLink RX8 33 "RationOfficeModel" "later" "[I", Cond.methodLink RX8 226 yX8_passLater, Cond.instanceMethod yX8_passLater, Cond.selects RX8 yX8_passLater yX8_passLater, Cond.code yX8_passLater cX8_passLater 4 none, Cond.methodLink RX8 217 yX8_carriedOf, Cond.instanceMethod yX8_carriedOf, Cond.selects RX8 yX8_carriedOf yX8_carriedOf, Cond.methodLink RX8 220 yX8_issueOf, Cond.instanceMethod yX8_issueOf, Cond.selects RX8 yX8_issueOf yX8_issueOf, Cond.code yX8_issueOf cX8_issueOf 3 (some .int), Cond.methodLink RX8 229 yX8_sumLater, Cond.instanceMethod yX8_sumLater, Cond.selects RX8 yX8_sumLater yX8_sumLater, Cond.code yX8_sumLater cX8_sumLater 3 (some .int), Cond.code yX8_couponsWith cX8_couponsWith 4 (some .int), Cond.code yX8_declare cX8_declare 3 none, Cond.code yX8_deliver cX8_deliver 5 (some .int), Cond.code yX8_deliveredTo cX8_deliveredTo 3 (some .int), Cond.code yX8_errorPosition cX8_errorPosition 1 (some .int), Cond.code yX8_feed cX8_feed 6 (some .int), Cond.methodLink RX8 58 yX8_append, Cond.instanceMethod yX8_append, Cond.selects RX8 yX8_append yX8_append, Cond.code yX8_find cX8_find 3 (some .int), Cond.code yX8_getSetting cX8_getSetting 2 (some .int)]
def qw_b33 : List Cond := [Cond.code yX8_givenBy cX8_givenBy 2 (some .int), Cond.code yX8_goodCount cX8_goodCount 1 (some .int), Cond.methodLink RX8 191 yX8_countOf, Cond.instanceMethod yX8_countOf, Cond.selects RX8 yX8_countOf yX8_countOf, Cond.code yX8_goodNamed cX8_goodNamed 2 (some .int), Cond.methodLink RX8 194 yX8_find, Cond.instanceMethod yX8_find, Cond.selects RX8 yX8_find yX8_find, Cond.code yX8_goodProperty cX8_goodProperty 3 (some .int), Cond.code yX8_groupCount cX8_groupCount 1 (some .int), Cond.code yX8_groupNamed cX8_groupNamed 2 (some .int), Cond.code yX8_groupProperty cX8_groupProperty 3 (some .int), Cond.code yX8_held cX8_held 4 (some .int), Cond.code yX8_helpers cX8_helpers 9 (some .int), Cond.methodLink RX8 247 yX8_canTake, Cond.instanceMethod yX8_canTake, Cond.selects RX8 yX8_canTake yX8_canTake, Cond.methodLink RX8 244 yX8_canGive, Cond.instanceMethod yX8_canGive, Cond.selects RX8 yX8_canGive yX8_canGive, Cond.code yX8_houseCount cX8_houseCount 1 (some .int), Cond.code yX8_houseNamed cX8_houseNamed 2 (some .int), Cond.code yX8_init cX8_init 1 none, Cond.methodLink RX8 1 objectInit, Cond.fieldLink RX8 13 "RationOfficeModel" "loaded" "[I", Cond.arrayClass .byte, Cond.methodLink RX8 42 yX8_reset, Cond.static yX8_reset, Cond.code yX8_reset cX8_reset 2 none]
def qw_b34 : List Cond := [Cond.methodLink RX8 46 yX8_clear, Cond.static yX8_clear, Cond.code yX8_isSuspended cX8_isSuspended 2 (some .boolean), Cond.code yX8_isWord cX8_isWord 3 (some .boolean), Cond.code yX8_issue cX8_issue 3 none, Cond.code yX8_issued cX8_issued 2 (some .int), Cond.methodLink RX8 260 yX8_total, Cond.instanceMethod yX8_total, Cond.selects RX8 yX8_total yX8_total, Cond.code yX8_total cX8_total 3 (some .int), Cond.code yX8_lapseAfter cX8_lapseAfter 6 (some .int), Cond.methodLink RX8 232 yX8_lapseLater, Cond.instanceMethod yX8_lapseLater, Cond.selects RX8 yX8_lapseLater yX8_lapseLater, Cond.code yX8_lapseLater cX8_lapseLater 2 (some .int), Cond.code yX8_lapsed cX8_lapsed 2 (some .int), Cond.code yX8_lapsing cX8_lapsing 4 (some .int), Cond.code yX8_levelMoves cX8_levelMoves 7 (some .int), Cond.code yX8_load cX8_load 3 (some .int), Cond.fieldLink RX8 158 "RationOfficeModel" "givenSettings" "I", Cond.fieldLink RX8 182 "RationOfficeModel" "statements" "I", Cond.methodLink RX8 185 yX8_parseStatement, Cond.instanceMethod yX8_parseStatement, Cond.selects RX8 yX8_parseStatement yX8_parseStatement, Cond.code yX8_parseStatement cX8_parseStatement 1 none, Cond.methodLink RX8 149 yX8_isWord, Cond.instanceMethod yX8_isWord, Cond.selects RX8 yX8_isWord yX8_isWord, Cond.methodLink RX8 164 yX8_parseGroup, Cond.instanceMethod yX8_parseGroup]
def qw_b35 : List Cond := [Cond.selects RX8 yX8_parseGroup yX8_parseGroup, Cond.code yX8_parseGroup cX8_parseGroup 6 none, Cond.methodLink RX8 134 yX8_begin, Cond.instanceMethod yX8_begin, Cond.selects RX8 yX8_begin yX8_begin, Cond.methodLink RX8 138 yX8_readInteger, Cond.instanceMethod yX8_readInteger, Cond.selects RX8 yX8_readInteger yX8_readInteger, Cond.code yX8_readInteger cX8_readInteger 4 (some .int), Cond.methodLink RX8 141 yX8_declare, Cond.instanceMethod yX8_declare, Cond.selects RX8 yX8_declare yX8_declare, Cond.methodLink RX8 167 yX8_parseSwap, Cond.instanceMethod yX8_parseSwap, Cond.selects RX8 yX8_parseSwap yX8_parseSwap, Cond.code yX8_parseSwap cX8_parseSwap 4 none, Cond.methodLink RX8 145 yX8_readOldName, Cond.instanceMethod yX8_readOldName, Cond.selects RX8 yX8_readOldName yX8_readOldName, Cond.code yX8_readOldName cX8_readOldName 3 (some .int), Cond.methodLink RX8 170 yX8_parseGood, Cond.instanceMethod yX8_parseGood, Cond.selects RX8 yX8_parseGood yX8_parseGood, Cond.code yX8_parseGood cX8_parseGood 6 none, Cond.methodLink RX8 173 yX8_parseHouse, Cond.instanceMethod yX8_parseHouse, Cond.selects RX8 yX8_parseHouse yX8_parseHouse, Cond.code yX8_parseHouse cX8_parseHouse 4 none, Cond.methodLink RX8 176 yX8_parseShop, Cond.instanceMethod yX8_parseShop]
def qw_b36 : List Cond := [Cond.selects RX8 yX8_parseShop yX8_parseShop, Cond.code yX8_parseShop cX8_parseShop 6 none, Cond.methodLink RX8 179 yX8_parseSetting, Cond.instanceMethod yX8_parseSetting, Cond.selects RX8 yX8_parseSetting yX8_parseSetting, Cond.code yX8_parseSetting cX8_parseSetting 2 none, Cond.methodLink RX8 155 yX8_settingHere, Cond.instanceMethod yX8_settingHere, Cond.selects RX8 yX8_settingHere yX8_settingHere, Cond.code yX8_settingHere cX8_settingHere 1 (some .int), Cond.constantLong RX8 153 (22518700226661), Cond.methodLink RX8 161 yX8_mostOf, Cond.static yX8_mostOf, Cond.code yX8_mostOf cX8_mostOf 1 (some .int), Cond.methodLink RX8 188 yX8_issue, Cond.instanceMethod yX8_issue, Cond.selects RX8 yX8_issue yX8_issue, Cond.code yX8_mostDeliverable cX8_mostDeliverable 4 (some .int), Cond.code yX8_mostUnits cX8_mostUnits 4 (some .int), Cond.code yX8_neediest cX8_neediest 4 (some .int), Cond.code yX8_nextPeriod cX8_nextPeriod 7 (some .int), Cond.code yX8_pardon cX8_pardon 2 (some .int), Cond.methodLink RX8 278 yX8_change, Cond.instanceMethod yX8_change, Cond.selects RX8 yX8_change yX8_change, Cond.code yX8_penaltyOf cX8_penaltyOf 2 (some .int), Cond.code yX8_period cX8_period 1 (some .int), Cond.code yX8_reasonFor cX8_reasonFor 5 (some .int), Cond.code yX8_served cX8_served 7 (some .int), Cond.code yX8_setRation cX8_setRation 3 (some .int)]
def qw_b37 : List Cond := [Cond.code yX8_setSetting cX8_setSetting 3 (some .int), Cond.code yX8_setSize cX8_setSize 3 (some .int), Cond.code yX8_shopCount cX8_shopCount 1 (some .int), Cond.code yX8_shopNamed cX8_shopNamed 2 (some .int), Cond.code yX8_sizeOf cX8_sizeOf 2 (some .int), Cond.code yX8_soldBy cX8_soldBy 3 (some .int), Cond.code yX8_spent cX8_spent 2 (some .int), Cond.code yX8_spreadOf cX8_spreadOf 6 (some .int), Cond.code yX8_stockOf cX8_stockOf 3 (some .int), Cond.code yX8_substituted cX8_substituted 4 (some .int), Cond.code yX8_supplyPeriods cX8_supplyPeriods 10 (some .int), Cond.code yX8_swapChain cX8_swapChain 5 (some .int), Cond.code yX8_takenBy cX8_takenBy 2 (some .int), Cond.code yX8_thrown cX8_thrown 1 (some .int), Cond.code yX8_trade cX8_trade 5 (some .int), Cond.code yX8_tradeRoom cX8_tradeRoom 4 (some .int), Cond.code yX8_turnover cX8_turnover 4 (some .int), Cond.code yX8_undo cX8_undo 2 (some .int), Cond.code yX8_undoCount cX8_undoCount 1 (some .int), Cond.code yX8_waitFor cX8_waitFor 6 (some .int), Cond.classLink RL 8 RX7, Cond.instantiable RX7 9, Cond.classLink RL 137 RX8, Cond.instantiable RX8 22, Cond.arrayClass .long, Cond.methodLink RL 136 yX7_init, Cond.instanceMethod yX7_init, Cond.methodLink RL 139 yX8_init, Cond.instanceMethod yX8_init, Cond.methodLink RL 140 yX7_feed]
def qw_b38 : List Cond := [Cond.instanceMethod yX7_feed, Cond.selects RX7 yX7_feed yX7_feed, Cond.methodLink RL 144 yX8_feed, Cond.instanceMethod yX8_feed, Cond.selects RX8 yX8_feed yX8_feed, Cond.methodLink RL 145 yX7_load, Cond.instanceMethod yX7_load, Cond.selects RX7 yX7_load yX7_load, Cond.methodLink RL 148 yX8_load, Cond.instanceMethod yX8_load, Cond.selects RX8 yX8_load yX8_load, Cond.methodLink RL 149 yX7_errorPosition, Cond.instanceMethod yX7_errorPosition, Cond.selects RX7 yX7_errorPosition yX7_errorPosition, Cond.methodLink RL 153 yX8_errorPosition, Cond.instanceMethod yX8_errorPosition, Cond.selects RX8 yX8_errorPosition yX8_errorPosition, Cond.methodLink RL 154 yX7_groupCount, Cond.instanceMethod yX7_groupCount, Cond.selects RX7 yX7_groupCount yX7_groupCount, Cond.methodLink RL 157 yX8_groupCount, Cond.instanceMethod yX8_groupCount, Cond.selects RX8 yX8_groupCount yX8_groupCount, Cond.methodLink RL 158 yX7_goodCount, Cond.instanceMethod yX7_goodCount, Cond.selects RX7 yX7_goodCount yX7_goodCount, Cond.methodLink RL 161 yX8_goodCount, Cond.instanceMethod yX8_goodCount, Cond.selects RX8 yX8_goodCount yX8_goodCount, Cond.methodLink RL 162 yX7_houseCount]
def qw_b39 : List Cond := [Cond.instanceMethod yX7_houseCount, Cond.selects RX7 yX7_houseCount yX7_houseCount, Cond.methodLink RL 165 yX8_houseCount, Cond.instanceMethod yX8_houseCount, Cond.selects RX8 yX8_houseCount yX8_houseCount, Cond.methodLink RL 166 yX7_shopCount, Cond.instanceMethod yX7_shopCount, Cond.selects RX7 yX7_shopCount yX7_shopCount, Cond.methodLink RL 169 yX8_shopCount, Cond.instanceMethod yX8_shopCount, Cond.selects RX8 yX8_shopCount yX8_shopCount, Cond.methodLink RL 170 yX7_undoCount, Cond.instanceMethod yX7_undoCount, Cond.selects RX7 yX7_undoCount yX7_undoCount, Cond.methodLink RL 173 yX8_undoCount, Cond.instanceMethod yX8_undoCount, Cond.selects RX8 yX8_undoCount yX8_undoCount, Cond.methodLink RL 174 yX7_period, Cond.instanceMethod yX7_period, Cond.selects RX7 yX7_period yX7_period, Cond.methodLink RL 177 yX8_period, Cond.instanceMethod yX8_period, Cond.selects RX8 yX8_period yX8_period, Cond.methodLink RL 178 yX7_groupNamed, Cond.instanceMethod yX7_groupNamed, Cond.selects RX7 yX7_groupNamed yX7_groupNamed, Cond.methodLink RL 181 yX8_groupNamed, Cond.instanceMethod yX8_groupNamed, Cond.selects RX8 yX8_groupNamed yX8_groupNamed, Cond.methodLink RL 182 yX7_goodNamed]
def qw_b40 : List Cond := [Cond.instanceMethod yX7_goodNamed, Cond.selects RX7 yX7_goodNamed yX7_goodNamed, Cond.methodLink RL 185 yX8_goodNamed, Cond.instanceMethod yX8_goodNamed, Cond.selects RX8 yX8_goodNamed yX8_goodNamed, Cond.methodLink RL 186 yX7_houseNamed, Cond.instanceMethod yX7_houseNamed, Cond.selects RX7 yX7_houseNamed yX7_houseNamed, Cond.methodLink RL 189 yX8_houseNamed, Cond.instanceMethod yX8_houseNamed, Cond.selects RX8 yX8_houseNamed yX8_houseNamed, Cond.methodLink RL 190 yX7_shopNamed, Cond.instanceMethod yX7_shopNamed, Cond.selects RX7 yX7_shopNamed yX7_shopNamed, Cond.methodLink RL 193 yX8_shopNamed, Cond.instanceMethod yX8_shopNamed, Cond.selects RX8 yX8_shopNamed yX8_shopNamed, Cond.methodLink RL 194 yL_groupProperty, Cond.static yL_groupProperty, Cond.initialized RL, Cond.methodLink RL 199 yX8_groupProperty, Cond.instanceMethod yX8_groupProperty, Cond.selects RX8 yX8_groupProperty yX8_groupProperty, Cond.methodLink RL 200 yX8_thrown, Cond.instanceMethod yX8_thrown, Cond.selects RX8 yX8_thrown yX8_thrown, Cond.methodLink RL 203 yL_goodProperty, Cond.static yL_goodProperty, Cond.methodLink RL 205 yX8_goodProperty, Cond.instanceMethod yX8_goodProperty]
def qw_b41 : List Cond := [Cond.selects RX8 yX8_goodProperty yX8_goodProperty, Cond.methodLink RL 206 yL_sizeOf, Cond.static yL_sizeOf, Cond.methodLink RL 209 yX8_sizeOf, Cond.instanceMethod yX8_sizeOf, Cond.selects RX8 yX8_sizeOf yX8_sizeOf, Cond.methodLink RL 210 yX7_getSetting, Cond.instanceMethod yX7_getSetting, Cond.selects RX7 yX7_getSetting yX7_getSetting, Cond.methodLink RL 213 yX8_getSetting, Cond.instanceMethod yX8_getSetting, Cond.selects RX8 yX8_getSetting yX8_getSetting, Cond.methodLink RL 214 yL_coupons, Cond.static yL_coupons, Cond.methodLink RL 216 yX8_coupons, Cond.instanceMethod yX8_coupons, Cond.selects RX8 yX8_coupons yX8_coupons, Cond.methodLink RL 217 yL_couponsWith, Cond.static yL_couponsWith, Cond.methodLink RL 220 yX8_couponsWith, Cond.instanceMethod yX8_couponsWith, Cond.selects RX8 yX8_couponsWith yX8_couponsWith, Cond.methodLink RL 221 yL_lapsing, Cond.static yL_lapsing, Cond.methodLink RL 223 yX8_lapsing, Cond.instanceMethod yX8_lapsing, Cond.selects RX8 yX8_lapsing yX8_lapsing, Cond.methodLink RL 224 yL_couponsAfter, Cond.static yL_couponsAfter, Cond.methodLink RL 226 yX8_couponsAfter]
def qw_b42 : List Cond := [Cond.instanceMethod yX8_couponsAfter, Cond.selects RX8 yX8_couponsAfter yX8_couponsAfter, Cond.methodLink RL 227 yL_neediest, Cond.static yL_neediest, Cond.methodLink RL 229 yX8_neediest, Cond.instanceMethod yX8_neediest, Cond.selects RX8 yX8_neediest yX8_neediest, Cond.methodLink RL 230 yL_givenBy, Cond.static yL_givenBy, Cond.methodLink RL 232 yX8_givenBy, Cond.instanceMethod yX8_givenBy, Cond.selects RX8 yX8_givenBy yX8_givenBy, Cond.methodLink RL 233 yL_takenBy, Cond.static yL_takenBy, Cond.methodLink RL 235 yX8_takenBy, Cond.instanceMethod yX8_takenBy, Cond.selects RX8 yX8_takenBy yX8_takenBy, Cond.methodLink RL 236 yL_tradeRoom, Cond.static yL_tradeRoom, Cond.methodLink RL 238 yX8_tradeRoom, Cond.instanceMethod yX8_tradeRoom, Cond.selects RX8 yX8_tradeRoom yX8_tradeRoom, Cond.methodLink RL 239 yL_helpers, Cond.static yL_helpers, Cond.methodLink RL 241 yX8_helpers, Cond.instanceMethod yX8_helpers, Cond.selects RX8 yX8_helpers yX8_helpers, Cond.methodLink RL 242 yL_stockOf, Cond.static yL_stockOf, Cond.methodLink RL 244 yX8_stockOf]
def qw_b43 : List Cond := [Cond.instanceMethod yX8_stockOf, Cond.selects RX8 yX8_stockOf yX8_stockOf, Cond.methodLink RL 245 yL_accountOf, Cond.static yL_accountOf, Cond.methodLink RL 247 yX8_accountOf, Cond.instanceMethod yX8_accountOf, Cond.selects RX8 yX8_accountOf yX8_accountOf, Cond.methodLink RL 248 yL_penaltyOf, Cond.static yL_penaltyOf, Cond.methodLink RL 250 yX8_penaltyOf, Cond.instanceMethod yX8_penaltyOf, Cond.selects RX8 yX8_penaltyOf yX8_penaltyOf, Cond.methodLink RL 251 yL_isSuspended, Cond.static yL_isSuspended, Cond.methodLink RL 253 yX8_isSuspended, Cond.instanceMethod yX8_isSuspended, Cond.selects RX8 yX8_isSuspended yX8_isSuspended, Cond.methodLink RL 254 yL_soldBy, Cond.static yL_soldBy, Cond.methodLink RL 256 yX8_soldBy, Cond.instanceMethod yX8_soldBy, Cond.selects RX8 yX8_soldBy yX8_soldBy, Cond.methodLink RL 257 yL_deliveredTo, Cond.static yL_deliveredTo, Cond.methodLink RL 259 yX8_deliveredTo, Cond.instanceMethod yX8_deliveredTo, Cond.selects RX8 yX8_deliveredTo yX8_deliveredTo, Cond.methodLink RL 260 yL_turnover, Cond.static yL_turnover, Cond.methodLink RL 262 yX8_turnover]
def qw_b44 : List Cond := [Cond.instanceMethod yX8_turnover, Cond.selects RX8 yX8_turnover yX8_turnover, Cond.methodLink RL 263 yL_issued, Cond.static yL_issued, Cond.methodLink RL 265 yX8_issued, Cond.instanceMethod yX8_issued, Cond.selects RX8 yX8_issued yX8_issued, Cond.methodLink RL 266 yL_spent, Cond.static yL_spent, Cond.methodLink RL 268 yX8_spent, Cond.instanceMethod yX8_spent, Cond.selects RX8 yX8_spent yX8_spent, Cond.methodLink RL 269 yL_lapsed, Cond.static yL_lapsed, Cond.methodLink RL 271 yX8_lapsed, Cond.instanceMethod yX8_lapsed, Cond.selects RX8 yX8_lapsed yX8_lapsed, Cond.methodLink RL 272 yL_held, Cond.static yL_held, Cond.methodLink RL 274 yX8_held, Cond.instanceMethod yX8_held, Cond.selects RX8 yX8_held yX8_held, Cond.methodLink RL 275 yL_reasonFor, Cond.static yL_reasonFor, Cond.methodLink RL 278 yX8_reasonFor, Cond.instanceMethod yX8_reasonFor, Cond.selects RX8 yX8_reasonFor yX8_reasonFor, Cond.methodLink RL 279 yL_mostUnits, Cond.static yL_mostUnits, Cond.methodLink RL 281 yX8_mostUnits]
def qw_b45 : List Cond := [Cond.instanceMethod yX8_mostUnits, Cond.selects RX8 yX8_mostUnits yX8_mostUnits, Cond.methodLink RL 282 yL_substituted, Cond.static yL_substituted, Cond.methodLink RL 284 yX8_substituted, Cond.instanceMethod yX8_substituted, Cond.selects RX8 yX8_substituted yX8_substituted, Cond.methodLink RL 285 yL_served, Cond.static yL_served, Cond.methodLink RL 287 yX8_served, Cond.instanceMethod yX8_served, Cond.selects RX8 yX8_served yX8_served, Cond.methodLink RL 288 yL_basketValue, Cond.static yL_basketValue, Cond.methodLink RL 290 yX8_basketValue, Cond.instanceMethod yX8_basketValue, Cond.selects RX8 yX8_basketValue yX8_basketValue, Cond.methodLink RL 291 yL_basketUnits, Cond.static yL_basketUnits, Cond.methodLink RL 293 yX8_basketUnits, Cond.instanceMethod yX8_basketUnits, Cond.selects RX8 yX8_basketUnits yX8_basketUnits, Cond.methodLink RL 294 yL_waitFor, Cond.static yL_waitFor, Cond.methodLink RL 296 yX8_waitFor, Cond.instanceMethod yX8_waitFor, Cond.selects RX8 yX8_waitFor yX8_waitFor, Cond.methodLink RL 297 yL_bestShop, Cond.static yL_bestShop, Cond.methodLink RL 299 yX8_bestShop]
def qw_b46 : List Cond := [Cond.instanceMethod yX8_bestShop, Cond.selects RX8 yX8_bestShop yX8_bestShop, Cond.methodLink RL 300 yL_bestHouse, Cond.static yL_bestHouse, Cond.methodLink RL 302 yX8_bestHouse, Cond.instanceMethod yX8_bestHouse, Cond.selects RX8 yX8_bestHouse yX8_bestHouse, Cond.methodLink RL 303 yL_basketCost, Cond.static yL_basketCost, Cond.methodLink RL 305 yX8_basketCost, Cond.instanceMethod yX8_basketCost, Cond.selects RX8 yX8_basketCost yX8_basketCost, Cond.methodLink RL 306 yL_basketLeft, Cond.static yL_basketLeft, Cond.methodLink RL 308 yX8_basketLeft, Cond.instanceMethod yX8_basketLeft, Cond.selects RX8 yX8_basketLeft yX8_basketLeft, Cond.methodLink RL 309 yL_swapChain, Cond.static yL_swapChain, Cond.methodLink RL 311 yX8_swapChain, Cond.instanceMethod yX8_swapChain, Cond.selects RX8 yX8_swapChain yX8_swapChain, Cond.methodLink RL 312 yL_mostDeliverable, Cond.static yL_mostDeliverable, Cond.methodLink RL 314 yX8_mostDeliverable, Cond.instanceMethod yX8_mostDeliverable, Cond.selects RX8 yX8_mostDeliverable yX8_mostDeliverable, Cond.methodLink RL 315 yL_spreadOf, Cond.static yL_spreadOf, Cond.methodLink RL 317 yX8_spreadOf]
def qw_b47 : List Cond := [Cond.instanceMethod yX8_spreadOf, Cond.selects RX8 yX8_spreadOf yX8_spreadOf, Cond.methodLink RL 318 yL_levelMoves, Cond.static yL_levelMoves, Cond.methodLink RL 320 yX8_levelMoves, Cond.instanceMethod yX8_levelMoves, Cond.selects RX8 yX8_levelMoves yX8_levelMoves, Cond.methodLink RL 321 yL_lapseAfter, Cond.static yL_lapseAfter, Cond.methodLink RL 323 yX8_lapseAfter, Cond.instanceMethod yX8_lapseAfter, Cond.selects RX8 yX8_lapseAfter yX8_lapseAfter, Cond.methodLink RL 324 yL_supplyPeriods, Cond.static yL_supplyPeriods, Cond.methodLink RL 326 yX8_supplyPeriods, Cond.instanceMethod yX8_supplyPeriods, Cond.selects RX8 yX8_supplyPeriods yX8_supplyPeriods, Cond.methodLink RL 327 yX7_buy, Cond.instanceMethod yX7_buy, Cond.selects RX7 yX7_buy yX7_buy, Cond.methodLink RL 330 yX8_buy, Cond.instanceMethod yX8_buy, Cond.selects RX8 yX8_buy yX8_buy, Cond.methodLink RL 331 yX7_deliver, Cond.instanceMethod yX7_deliver, Cond.selects RX7 yX7_deliver yX7_deliver, Cond.methodLink RL 334 yX8_deliver, Cond.instanceMethod yX8_deliver, Cond.selects RX8 yX8_deliver yX8_deliver, Cond.methodLink RL 335 yX7_trade]
def qw_b48 : List Cond := [Cond.instanceMethod yX7_trade, Cond.selects RX7 yX7_trade yX7_trade, Cond.methodLink RL 338 yX8_trade, Cond.instanceMethod yX8_trade, Cond.selects RX8 yX8_trade yX8_trade, Cond.methodLink RL 339 yX7_audit, Cond.instanceMethod yX7_audit, Cond.selects RX7 yX7_audit yX7_audit, Cond.methodLink RL 342 yX8_audit, Cond.instanceMethod yX8_audit, Cond.selects RX8 yX8_audit yX8_audit, Cond.methodLink RL 343 yX7_pardon, Cond.instanceMethod yX7_pardon, Cond.selects RX7 yX7_pardon yX7_pardon, Cond.methodLink RL 346 yX8_pardon, Cond.instanceMethod yX8_pardon, Cond.selects RX8 yX8_pardon yX8_pardon, Cond.methodLink RL 347 yX7_nextPeriod, Cond.instanceMethod yX7_nextPeriod, Cond.selects RX7 yX7_nextPeriod yX7_nextPeriod, Cond.methodLink RL 350 yX8_nextPeriod, Cond.instanceMethod yX8_nextPeriod, Cond.selects RX8 yX8_nextPeriod yX8_nextPeriod, Cond.methodLink RL 351 yX7_setRation, Cond.instanceMethod yX7_setRation, Cond.selects RX7 yX7_setRation yX7_setRation, Cond.methodLink RL 354 yX8_setRation, Cond.instanceMethod yX8_setRation, Cond.selects RX8 yX8_setRation yX8_setRation, Cond.methodLink RL 355 yX7_setSize]
def qw_b49 : List Cond := [Cond.instanceMethod yX7_setSize, Cond.selects RX7 yX7_setSize yX7_setSize, Cond.methodLink RL 358 yX8_setSize, Cond.instanceMethod yX8_setSize, Cond.selects RX8 yX8_setSize yX8_setSize, Cond.methodLink RL 359 yX7_setSetting, Cond.instanceMethod yX7_setSetting, Cond.selects RX7 yX7_setSetting yX7_setSetting, Cond.methodLink RL 362 yX8_setSetting, Cond.instanceMethod yX8_setSetting, Cond.selects RX8 yX8_setSetting yX8_setSetting, Cond.methodLink RL 363 yX7_undo, Cond.instanceMethod yX7_undo, Cond.selects RX7 yX7_undo yX7_undo, Cond.methodLink RL 366 yX8_undo, Cond.instanceMethod yX8_undo, Cond.selects RX8 yX8_undo yX8_undo]
def qw_thr : List Cond := ((vx_atS RX7 342 "java/lang/IndexOutOfBoundsException" ["java/lang/RuntimeException", "java/lang/Exception"]).filter goodWord)
def qw_big : List Cond := qw_b0 ++ (qw_b1 ++ (qw_b2 ++ (qw_b3 ++ (qw_b4 ++ (qw_b5 ++ (qw_b6 ++ (qw_b7 ++ (qw_b8 ++ (qw_b9 ++ (qw_b10 ++ (qw_b11 ++ (qw_b12 ++ (qw_b13 ++ (qw_b14 ++ (qw_b15 ++ (qw_b16 ++ (qw_b17 ++ (qw_b18 ++ (qw_b19 ++ (qw_b20 ++ (qw_b21 ++ (qw_b22 ++ (qw_b23 ++ (qw_b24 ++ (qw_b25 ++ (qw_b26 ++ (qw_b27 ++ (qw_b28 ++ (qw_b29 ++ (qw_b30 ++ (qw_b31 ++ (qw_b32 ++ (qw_b33 ++ (qw_b34 ++ (qw_b35 ++ (qw_b36 ++ (qw_b37 ++ (qw_b38 ++ (qw_b39 ++ (qw_b40 ++ (qw_b41 ++ (qw_b42 ++ (qw_b43 ++ (qw_b44 ++ (qw_b45 ++ (qw_b46 ++ (qw_b47 ++ (qw_b48 ++ (qw_b49 ++ (wsX00 ++ (wsX10 ++ (wsX20 ++ (wsX30 ++ (wsX50 ++ (wsX60 ++ (wsX70 ++ (wsX80 ++ (qw_thr))))))))))))))))))))))))))))))))))))))))))))))))))))))))))
theorem qm_0 : ∀ w ∈ qw_b0, w ∈ qw_big := fun _ h => (List.mem_append_left _ h)
theorem qm_1 : ∀ w ∈ qw_b1, w ∈ qw_big := fun _ h => (List.mem_append_right _ (List.mem_append_left _ h))
theorem qm_2 : ∀ w ∈ qw_b2, w ∈ qw_big := fun _ h => (List.mem_append_right _ (List.mem_append_right _ (List.mem_append_left _ h)))
theorem qm_3 : ∀ w ∈ qw_b3, w ∈ qw_big := fun _ h => (List.mem_append_right _ (List.mem_append_right _ (List.mem_append_right _ (List.mem_append_left _ h))))
theorem qm_4 : ∀ w ∈ qw_b4, w ∈ qw_big := fun _ h => (List.mem_append_right _ (List.mem_append_right _ (List.mem_append_right _ (List.mem_append_right _ (List.mem_append_left _ h)))))
theorem qm_5 : ∀ w ∈ qw_b5, w ∈ qw_big := fun _ h => (List.mem_append_right _ (List.mem_append_right _ (List.mem_append_right _ (List.mem_append_right _ (List.mem_append_right _ (List.mem_append_left _ h))))))
theorem qm_6 : ∀ w ∈ qw_b6, w ∈ qw_big := fun _ h => (List.mem_append_right _ (List.mem_append_right _ (List.mem_append_right _ (List.mem_append_right _ (List.mem_append_right _ (List.mem_append_right _ (List.mem_append_left _ h)))))))
theorem qm_7 : ∀ w ∈ qw_b7, w ∈ qw_big := fun _ h => (List.mem_append_right _ (List.mem_append_right _ (List.mem_append_right _ (List.mem_append_right _ (List.mem_append_right _ (List.mem_append_right _ (List.mem_append_right _ (List.mem_append_left _ h))))))))
theorem qm_8 : ∀ w ∈ qw_b8, w ∈ qw_big := fun _ h => (List.mem_append_right _ (List.mem_append_right _ (List.mem_append_right _ (List.mem_append_right _ (List.mem_append_right _ (List.mem_append_right _ (List.mem_append_right _ (List.mem_append_right _ (List.mem_append_left _ h)))))))))
theorem qm_9 : ∀ w ∈ qw_b9, w ∈ qw_big := fun _ h => (List.mem_append_right _ (List.mem_append_right _ (List.mem_append_right _ (List.mem_append_right _ (List.mem_append_right _ (List.mem_append_right _ (List.mem_append_right _ (List.mem_append_right _ (List.mem_append_right _ (List.mem_append_left _ h))))))))))
theorem qm_10 : ∀ w ∈ qw_b10, w ∈ qw_big := fun _ h => (List.mem_append_right _ (List.mem_append_right _ (List.mem_append_right _ (List.mem_append_right _ (List.mem_append_right _ (List.mem_append_right _ (List.mem_append_right _ (List.mem_append_right _ (List.mem_append_right _ (List.mem_append_right _ (List.mem_append_left _ h)))))))))))
theorem qm_11 : ∀ w ∈ qw_b11, w ∈ qw_big := fun _ h => (List.mem_append_right _ (List.mem_append_right _ (List.mem_append_right _ (List.mem_append_right _ (List.mem_append_right _ (List.mem_append_right _ (List.mem_append_right _ (List.mem_append_right _ (List.mem_append_right _ (List.mem_append_right _ (List.mem_append_right _ (List.mem_append_left _ h))))))))))))
theorem qm_12 : ∀ w ∈ qw_b12, w ∈ qw_big := fun _ h => (List.mem_append_right _ (List.mem_append_right _ (List.mem_append_right _ (List.mem_append_right _ (List.mem_append_right _ (List.mem_append_right _ (List.mem_append_right _ (List.mem_append_right _ (List.mem_append_right _ (List.mem_append_right _ (List.mem_append_right _ (List.mem_append_right _ (List.mem_append_left _ h)))))))))))))
theorem qm_13 : ∀ w ∈ qw_b13, w ∈ qw_big := fun _ h => (List.mem_append_right _ (List.mem_append_right _ (List.mem_append_right _ (List.mem_append_right _ (List.mem_append_right _ (List.mem_append_right _ (List.mem_append_right _ (List.mem_append_right _ (List.mem_append_right _ (List.mem_append_right _ (List.mem_append_right _ (List.mem_append_right _ (List.mem_append_right _ (List.mem_append_left _ h))))))))))))))
theorem qm_14 : ∀ w ∈ qw_b14, w ∈ qw_big := fun _ h => (List.mem_append_right _ (List.mem_append_right _ (List.mem_append_right _ (List.mem_append_right _ (List.mem_append_right _ (List.mem_append_right _ (List.mem_append_right _ (List.mem_append_right _ (List.mem_append_right _ (List.mem_append_right _ (List.mem_append_right _ (List.mem_append_right _ (List.mem_append_right _ (List.mem_append_right _ (List.mem_append_left _ h)))))))))))))))
theorem qm_15 : ∀ w ∈ qw_b15, w ∈ qw_big := fun _ h => (List.mem_append_right _ (List.mem_append_right _ (List.mem_append_right _ (List.mem_append_right _ (List.mem_append_right _ (List.mem_append_right _ (List.mem_append_right _ (List.mem_append_right _ (List.mem_append_right _ (List.mem_append_right _ (List.mem_append_right _ (List.mem_append_right _ (List.mem_append_right _ (List.mem_append_right _ (List.mem_append_right _ (List.mem_append_left _ h))))))))))))))))
theorem qm_16 : ∀ w ∈ qw_b16, w ∈ qw_big := fun _ h => (List.mem_append_right _ (List.mem_append_right _ (List.mem_append_right _ (List.mem_append_right _ (List.mem_append_right _ (List.mem_append_right _ (List.mem_append_right _ (List.mem_append_right _ (List.mem_append_right _ (List.mem_append_right _ (List.mem_append_right _ (List.mem_append_right _ (List.mem_append_right _ (List.mem_append_right _ (List.mem_append_right _ (List.mem_append_right _ (List.mem_append_left _ h)))))))))))))))))
theorem qm_17 : ∀ w ∈ qw_b17, w ∈ qw_big := fun _ h => (List.mem_append_right _ (List.mem_append_right _ (List.mem_append_right _ (List.mem_append_right _ (List.mem_append_right _ (List.mem_append_right _ (List.mem_append_right _ (List.mem_append_right _ (List.mem_append_right _ (List.mem_append_right _ (List.mem_append_right _ (List.mem_append_right _ (List.mem_append_right _ (List.mem_append_right _ (List.mem_append_right _ (List.mem_append_right _ (List.mem_append_right _ (List.mem_append_left _ h))))))))))))))))))
theorem qm_18 : ∀ w ∈ qw_b18, w ∈ qw_big := fun _ h => (List.mem_append_right _ (List.mem_append_right _ (List.mem_append_right _ (List.mem_append_right _ (List.mem_append_right _ (List.mem_append_right _ (List.mem_append_right _ (List.mem_append_right _ (List.mem_append_right _ (List.mem_append_right _ (List.mem_append_right _ (List.mem_append_right _ (List.mem_append_right _ (List.mem_append_right _ (List.mem_append_right _ (List.mem_append_right _ (List.mem_append_right _ (List.mem_append_right _ (List.mem_append_left _ h)))))))))))))))))))
theorem qm_19 : ∀ w ∈ qw_b19, w ∈ qw_big := fun _ h => (List.mem_append_right _ (List.mem_append_right _ (List.mem_append_right _ (List.mem_append_right _ (List.mem_append_right _ (List.mem_append_right _ (List.mem_append_right _ (List.mem_append_right _ (List.mem_append_right _ (List.mem_append_right _ (List.mem_append_right _ (List.mem_append_right _ (List.mem_append_right _ (List.mem_append_right _ (List.mem_append_right _ (List.mem_append_right _ (List.mem_append_right _ (List.mem_append_right _ (List.mem_append_right _ (List.mem_append_left _ h))))))))))))))))))))
theorem qm_20 : ∀ w ∈ qw_b20, w ∈ qw_big := fun _ h => (List.mem_append_right _ (List.mem_append_right _ (List.mem_append_right _ (List.mem_append_right _ (List.mem_append_right _ (List.mem_append_right _ (List.mem_append_right _ (List.mem_append_right _ (List.mem_append_right _ (List.mem_append_right _ (List.mem_append_right _ (List.mem_append_right _ (List.mem_append_right _ (List.mem_append_right _ (List.mem_append_right _ (List.mem_append_right _ (List.mem_append_right _ (List.mem_append_right _ (List.mem_append_right _ (List.mem_append_right _ (List.mem_append_left _ h)))))))))))))))))))))
theorem qm_21 : ∀ w ∈ qw_b21, w ∈ qw_big := fun _ h => (List.mem_append_right _ (List.mem_append_right _ (List.mem_append_right _ (List.mem_append_right _ (List.mem_append_right _ (List.mem_append_right _ (List.mem_append_right _ (List.mem_append_right _ (List.mem_append_right _ (List.mem_append_right _ (List.mem_append_right _ (List.mem_append_right _ (List.mem_append_right _ (List.mem_append_right _ (List.mem_append_right _ (List.mem_append_right _ (List.mem_append_right _ (List.mem_append_right _ (List.mem_append_right _ (List.mem_append_right _ (List.mem_append_right _ (List.mem_append_left _ h))))))))))))))))))))))
theorem qm_22 : ∀ w ∈ qw_b22, w ∈ qw_big := fun _ h => (List.mem_append_right _ (List.mem_append_right _ (List.mem_append_right _ (List.mem_append_right _ (List.mem_append_right _ (List.mem_append_right _ (List.mem_append_right _ (List.mem_append_right _ (List.mem_append_right _ (List.mem_append_right _ (List.mem_append_right _ (List.mem_append_right _ (List.mem_append_right _ (List.mem_append_right _ (List.mem_append_right _ (List.mem_append_right _ (List.mem_append_right _ (List.mem_append_right _ (List.mem_append_right _ (List.mem_append_right _ (List.mem_append_right _ (List.mem_append_right _ (List.mem_append_left _ h)))))))))))))))))))))))
theorem qm_23 : ∀ w ∈ qw_b23, w ∈ qw_big := fun _ h => (List.mem_append_right _ (List.mem_append_right _ (List.mem_append_right _ (List.mem_append_right _ (List.mem_append_right _ (List.mem_append_right _ (List.mem_append_right _ (List.mem_append_right _ (List.mem_append_right _ (List.mem_append_right _ (List.mem_append_right _ (List.mem_append_right _ (List.mem_append_right _ (List.mem_append_right _ (List.mem_append_right _ (List.mem_append_right _ (List.mem_append_right _ (List.mem_append_right _ (List.mem_append_right _ (List.mem_append_right _ (List.mem_append_right _ (List.mem_append_right _ (List.mem_append_right _ (List.mem_append_left _ h))))))))))))))))))))))))
theorem qm_24 : ∀ w ∈ qw_b24, w ∈ qw_big := fun _ h => (List.mem_append_right _ (List.mem_append_right _ (List.mem_append_right _ (List.mem_append_right _ (List.mem_append_right _ (List.mem_append_right _ (List.mem_append_right _ (List.mem_append_right _ (List.mem_append_right _ (List.mem_append_right _ (List.mem_append_right _ (List.mem_append_right _ (List.mem_append_right _ (List.mem_append_right _ (List.mem_append_right _ (List.mem_append_right _ (List.mem_append_right _ (List.mem_append_right _ (List.mem_append_right _ (List.mem_append_right _ (List.mem_append_right _ (List.mem_append_right _ (List.mem_append_right _ (List.mem_append_right _ (List.mem_append_left _ h)))))))))))))))))))))))))
theorem qm_25 : ∀ w ∈ qw_b25, w ∈ qw_big := fun _ h => (List.mem_append_right _ (List.mem_append_right _ (List.mem_append_right _ (List.mem_append_right _ (List.mem_append_right _ (List.mem_append_right _ (List.mem_append_right _ (List.mem_append_right _ (List.mem_append_right _ (List.mem_append_right _ (List.mem_append_right _ (List.mem_append_right _ (List.mem_append_right _ (List.mem_append_right _ (List.mem_append_right _ (List.mem_append_right _ (List.mem_append_right _ (List.mem_append_right _ (List.mem_append_right _ (List.mem_append_right _ (List.mem_append_right _ (List.mem_append_right _ (List.mem_append_right _ (List.mem_append_right _ (List.mem_append_right _ (List.mem_append_left _ h))))))))))))))))))))))))))
theorem qm_26 : ∀ w ∈ qw_b26, w ∈ qw_big := fun _ h => (List.mem_append_right _ (List.mem_append_right _ (List.mem_append_right _ (List.mem_append_right _ (List.mem_append_right _ (List.mem_append_right _ (List.mem_append_right _ (List.mem_append_right _ (List.mem_append_right _ (List.mem_append_right _ (List.mem_append_right _ (List.mem_append_right _ (List.mem_append_right _ (List.mem_append_right _ (List.mem_append_right _ (List.mem_append_right _ (List.mem_append_right _ (List.mem_append_right _ (List.mem_append_right _ (List.mem_append_right _ (List.mem_append_right _ (List.mem_append_right _ (List.mem_append_right _ (List.mem_append_right _ (List.mem_append_right _ (List.mem_append_right _ (List.mem_append_left _ h)))))))))))))))))))))))))))
theorem qm_27 : ∀ w ∈ qw_b27, w ∈ qw_big := fun _ h => (List.mem_append_right _ (List.mem_append_right _ (List.mem_append_right _ (List.mem_append_right _ (List.mem_append_right _ (List.mem_append_right _ (List.mem_append_right _ (List.mem_append_right _ (List.mem_append_right _ (List.mem_append_right _ (List.mem_append_right _ (List.mem_append_right _ (List.mem_append_right _ (List.mem_append_right _ (List.mem_append_right _ (List.mem_append_right _ (List.mem_append_right _ (List.mem_append_right _ (List.mem_append_right _ (List.mem_append_right _ (List.mem_append_right _ (List.mem_append_right _ (List.mem_append_right _ (List.mem_append_right _ (List.mem_append_right _ (List.mem_append_right _ (List.mem_append_right _ (List.mem_append_left _ h))))))))))))))))))))))))))))
theorem qm_28 : ∀ w ∈ qw_b28, w ∈ qw_big := fun _ h => (List.mem_append_right _ (List.mem_append_right _ (List.mem_append_right _ (List.mem_append_right _ (List.mem_append_right _ (List.mem_append_right _ (List.mem_append_right _ (List.mem_append_right _ (List.mem_append_right _ (List.mem_append_right _ (List.mem_append_right _ (List.mem_append_right _ (List.mem_append_right _ (List.mem_append_right _ (List.mem_append_right _ (List.mem_append_right _ (List.mem_append_right _ (List.mem_append_right _ (List.mem_append_right _ (List.mem_append_right _ (List.mem_append_right _ (List.mem_append_right _ (List.mem_append_right _ (List.mem_append_right _ (List.mem_append_right _ (List.mem_append_right _ (List.mem_append_right _ (List.mem_append_right _ (List.mem_append_left _ h)))))))))))))))))))))))))))))
theorem qm_29 : ∀ w ∈ qw_b29, w ∈ qw_big := fun _ h => (List.mem_append_right _ (List.mem_append_right _ (List.mem_append_right _ (List.mem_append_right _ (List.mem_append_right _ (List.mem_append_right _ (List.mem_append_right _ (List.mem_append_right _ (List.mem_append_right _ (List.mem_append_right _ (List.mem_append_right _ (List.mem_append_right _ (List.mem_append_right _ (List.mem_append_right _ (List.mem_append_right _ (List.mem_append_right _ (List.mem_append_right _ (List.mem_append_right _ (List.mem_append_right _ (List.mem_append_right _ (List.mem_append_right _ (List.mem_append_right _ (List.mem_append_right _ (List.mem_append_right _ (List.mem_append_right _ (List.mem_append_right _ (List.mem_append_right _ (List.mem_append_right _ (List.mem_append_right _ (List.mem_append_left _ h))))))))))))))))))))))))))))))
theorem qm_30 : ∀ w ∈ qw_b30, w ∈ qw_big := fun _ h => (List.mem_append_right _ (List.mem_append_right _ (List.mem_append_right _ (List.mem_append_right _ (List.mem_append_right _ (List.mem_append_right _ (List.mem_append_right _ (List.mem_append_right _ (List.mem_append_right _ (List.mem_append_right _ (List.mem_append_right _ (List.mem_append_right _ (List.mem_append_right _ (List.mem_append_right _ (List.mem_append_right _ (List.mem_append_right _ (List.mem_append_right _ (List.mem_append_right _ (List.mem_append_right _ (List.mem_append_right _ (List.mem_append_right _ (List.mem_append_right _ (List.mem_append_right _ (List.mem_append_right _ (List.mem_append_right _ (List.mem_append_right _ (List.mem_append_right _ (List.mem_append_right _ (List.mem_append_right _ (List.mem_append_right _ (List.mem_append_left _ h)))))))))))))))))))))))))))))))
theorem qm_31 : ∀ w ∈ qw_b31, w ∈ qw_big := fun _ h => (List.mem_append_right _ (List.mem_append_right _ (List.mem_append_right _ (List.mem_append_right _ (List.mem_append_right _ (List.mem_append_right _ (List.mem_append_right _ (List.mem_append_right _ (List.mem_append_right _ (List.mem_append_right _ (List.mem_append_right _ (List.mem_append_right _ (List.mem_append_right _ (List.mem_append_right _ (List.mem_append_right _ (List.mem_append_right _ (List.mem_append_right _ (List.mem_append_right _ (List.mem_append_right _ (List.mem_append_right _ (List.mem_append_right _ (List.mem_append_right _ (List.mem_append_right _ (List.mem_append_right _ (List.mem_append_right _ (List.mem_append_right _ (List.mem_append_right _ (List.mem_append_right _ (List.mem_append_right _ (List.mem_append_right _ (List.mem_append_right _ (List.mem_append_left _ h))))))))))))))))))))))))))))))))
theorem qm_32 : ∀ w ∈ qw_b32, w ∈ qw_big := fun _ h => (List.mem_append_right _ (List.mem_append_right _ (List.mem_append_right _ (List.mem_append_right _ (List.mem_append_right _ (List.mem_append_right _ (List.mem_append_right _ (List.mem_append_right _ (List.mem_append_right _ (List.mem_append_right _ (List.mem_append_right _ (List.mem_append_right _ (List.mem_append_right _ (List.mem_append_right _ (List.mem_append_right _ (List.mem_append_right _ (List.mem_append_right _ (List.mem_append_right _ (List.mem_append_right _ (List.mem_append_right _ (List.mem_append_right _ (List.mem_append_right _ (List.mem_append_right _ (List.mem_append_right _ (List.mem_append_right _ (List.mem_append_right _ (List.mem_append_right _ (List.mem_append_right _ (List.mem_append_right _ (List.mem_append_right _ (List.mem_append_right _ (List.mem_append_right _ (List.mem_append_left _ h)))))))))))))))))))))))))))))))))
theorem qm_33 : ∀ w ∈ qw_b33, w ∈ qw_big := fun _ h => (List.mem_append_right _ (List.mem_append_right _ (List.mem_append_right _ (List.mem_append_right _ (List.mem_append_right _ (List.mem_append_right _ (List.mem_append_right _ (List.mem_append_right _ (List.mem_append_right _ (List.mem_append_right _ (List.mem_append_right _ (List.mem_append_right _ (List.mem_append_right _ (List.mem_append_right _ (List.mem_append_right _ (List.mem_append_right _ (List.mem_append_right _ (List.mem_append_right _ (List.mem_append_right _ (List.mem_append_right _ (List.mem_append_right _ (List.mem_append_right _ (List.mem_append_right _ (List.mem_append_right _ (List.mem_append_right _ (List.mem_append_right _ (List.mem_append_right _ (List.mem_append_right _ (List.mem_append_right _ (List.mem_append_right _ (List.mem_append_right _ (List.mem_append_right _ (List.mem_append_right _ (List.mem_append_left _ h))))))))))))))))))))))))))))))))))
theorem qm_34 : ∀ w ∈ qw_b34, w ∈ qw_big := fun _ h => (List.mem_append_right _ (List.mem_append_right _ (List.mem_append_right _ (List.mem_append_right _ (List.mem_append_right _ (List.mem_append_right _ (List.mem_append_right _ (List.mem_append_right _ (List.mem_append_right _ (List.mem_append_right _ (List.mem_append_right _ (List.mem_append_right _ (List.mem_append_right _ (List.mem_append_right _ (List.mem_append_right _ (List.mem_append_right _ (List.mem_append_right _ (List.mem_append_right _ (List.mem_append_right _ (List.mem_append_right _ (List.mem_append_right _ (List.mem_append_right _ (List.mem_append_right _ (List.mem_append_right _ (List.mem_append_right _ (List.mem_append_right _ (List.mem_append_right _ (List.mem_append_right _ (List.mem_append_right _ (List.mem_append_right _ (List.mem_append_right _ (List.mem_append_right _ (List.mem_append_right _ (List.mem_append_right _ (List.mem_append_left _ h)))))))))))))))))))))))))))))))))))
theorem qm_35 : ∀ w ∈ qw_b35, w ∈ qw_big := fun _ h => (List.mem_append_right _ (List.mem_append_right _ (List.mem_append_right _ (List.mem_append_right _ (List.mem_append_right _ (List.mem_append_right _ (List.mem_append_right _ (List.mem_append_right _ (List.mem_append_right _ (List.mem_append_right _ (List.mem_append_right _ (List.mem_append_right _ (List.mem_append_right _ (List.mem_append_right _ (List.mem_append_right _ (List.mem_append_right _ (List.mem_append_right _ (List.mem_append_right _ (List.mem_append_right _ (List.mem_append_right _ (List.mem_append_right _ (List.mem_append_right _ (List.mem_append_right _ (List.mem_append_right _ (List.mem_append_right _ (List.mem_append_right _ (List.mem_append_right _ (List.mem_append_right _ (List.mem_append_right _ (List.mem_append_right _ (List.mem_append_right _ (List.mem_append_right _ (List.mem_append_right _ (List.mem_append_right _ (List.mem_append_right _ (List.mem_append_left _ h))))))))))))))))))))))))))))))))))))
theorem qm_36 : ∀ w ∈ qw_b36, w ∈ qw_big := fun _ h => (List.mem_append_right _ (List.mem_append_right _ (List.mem_append_right _ (List.mem_append_right _ (List.mem_append_right _ (List.mem_append_right _ (List.mem_append_right _ (List.mem_append_right _ (List.mem_append_right _ (List.mem_append_right _ (List.mem_append_right _ (List.mem_append_right _ (List.mem_append_right _ (List.mem_append_right _ (List.mem_append_right _ (List.mem_append_right _ (List.mem_append_right _ (List.mem_append_right _ (List.mem_append_right _ (List.mem_append_right _ (List.mem_append_right _ (List.mem_append_right _ (List.mem_append_right _ (List.mem_append_right _ (List.mem_append_right _ (List.mem_append_right _ (List.mem_append_right _ (List.mem_append_right _ (List.mem_append_right _ (List.mem_append_right _ (List.mem_append_right _ (List.mem_append_right _ (List.mem_append_right _ (List.mem_append_right _ (List.mem_append_right _ (List.mem_append_right _ (List.mem_append_left _ h)))))))))))))))))))))))))))))))))))))
theorem qm_37 : ∀ w ∈ qw_b37, w ∈ qw_big := fun _ h => (List.mem_append_right _ (List.mem_append_right _ (List.mem_append_right _ (List.mem_append_right _ (List.mem_append_right _ (List.mem_append_right _ (List.mem_append_right _ (List.mem_append_right _ (List.mem_append_right _ (List.mem_append_right _ (List.mem_append_right _ (List.mem_append_right _ (List.mem_append_right _ (List.mem_append_right _ (List.mem_append_right _ (List.mem_append_right _ (List.mem_append_right _ (List.mem_append_right _ (List.mem_append_right _ (List.mem_append_right _ (List.mem_append_right _ (List.mem_append_right _ (List.mem_append_right _ (List.mem_append_right _ (List.mem_append_right _ (List.mem_append_right _ (List.mem_append_right _ (List.mem_append_right _ (List.mem_append_right _ (List.mem_append_right _ (List.mem_append_right _ (List.mem_append_right _ (List.mem_append_right _ (List.mem_append_right _ (List.mem_append_right _ (List.mem_append_right _ (List.mem_append_right _ (List.mem_append_left _ h))))))))))))))))))))))))))))))))))))))
theorem qm_38 : ∀ w ∈ qw_b38, w ∈ qw_big := fun _ h => (List.mem_append_right _ (List.mem_append_right _ (List.mem_append_right _ (List.mem_append_right _ (List.mem_append_right _ (List.mem_append_right _ (List.mem_append_right _ (List.mem_append_right _ (List.mem_append_right _ (List.mem_append_right _ (List.mem_append_right _ (List.mem_append_right _ (List.mem_append_right _ (List.mem_append_right _ (List.mem_append_right _ (List.mem_append_right _ (List.mem_append_right _ (List.mem_append_right _ (List.mem_append_right _ (List.mem_append_right _ (List.mem_append_right _ (List.mem_append_right _ (List.mem_append_right _ (List.mem_append_right _ (List.mem_append_right _ (List.mem_append_right _ (List.mem_append_right _ (List.mem_append_right _ (List.mem_append_right _ (List.mem_append_right _ (List.mem_append_right _ (List.mem_append_right _ (List.mem_append_right _ (List.mem_append_right _ (List.mem_append_right _ (List.mem_append_right _ (List.mem_append_right _ (List.mem_append_right _ (List.mem_append_left _ h)))))))))))))))))))))))))))))))))))))))
theorem qm_39 : ∀ w ∈ qw_b39, w ∈ qw_big := fun _ h => (List.mem_append_right _ (List.mem_append_right _ (List.mem_append_right _ (List.mem_append_right _ (List.mem_append_right _ (List.mem_append_right _ (List.mem_append_right _ (List.mem_append_right _ (List.mem_append_right _ (List.mem_append_right _ (List.mem_append_right _ (List.mem_append_right _ (List.mem_append_right _ (List.mem_append_right _ (List.mem_append_right _ (List.mem_append_right _ (List.mem_append_right _ (List.mem_append_right _ (List.mem_append_right _ (List.mem_append_right _ (List.mem_append_right _ (List.mem_append_right _ (List.mem_append_right _ (List.mem_append_right _ (List.mem_append_right _ (List.mem_append_right _ (List.mem_append_right _ (List.mem_append_right _ (List.mem_append_right _ (List.mem_append_right _ (List.mem_append_right _ (List.mem_append_right _ (List.mem_append_right _ (List.mem_append_right _ (List.mem_append_right _ (List.mem_append_right _ (List.mem_append_right _ (List.mem_append_right _ (List.mem_append_right _ (List.mem_append_left _ h))))))))))))))))))))))))))))))))))))))))
theorem qm_40 : ∀ w ∈ qw_b40, w ∈ qw_big := fun _ h => (List.mem_append_right _ (List.mem_append_right _ (List.mem_append_right _ (List.mem_append_right _ (List.mem_append_right _ (List.mem_append_right _ (List.mem_append_right _ (List.mem_append_right _ (List.mem_append_right _ (List.mem_append_right _ (List.mem_append_right _ (List.mem_append_right _ (List.mem_append_right _ (List.mem_append_right _ (List.mem_append_right _ (List.mem_append_right _ (List.mem_append_right _ (List.mem_append_right _ (List.mem_append_right _ (List.mem_append_right _ (List.mem_append_right _ (List.mem_append_right _ (List.mem_append_right _ (List.mem_append_right _ (List.mem_append_right _ (List.mem_append_right _ (List.mem_append_right _ (List.mem_append_right _ (List.mem_append_right _ (List.mem_append_right _ (List.mem_append_right _ (List.mem_append_right _ (List.mem_append_right _ (List.mem_append_right _ (List.mem_append_right _ (List.mem_append_right _ (List.mem_append_right _ (List.mem_append_right _ (List.mem_append_right _ (List.mem_append_right _ (List.mem_append_left _ h)))))))))))))))))))))))))))))))))))))))))
theorem qm_41 : ∀ w ∈ qw_b41, w ∈ qw_big := fun _ h => (List.mem_append_right _ (List.mem_append_right _ (List.mem_append_right _ (List.mem_append_right _ (List.mem_append_right _ (List.mem_append_right _ (List.mem_append_right _ (List.mem_append_right _ (List.mem_append_right _ (List.mem_append_right _ (List.mem_append_right _ (List.mem_append_right _ (List.mem_append_right _ (List.mem_append_right _ (List.mem_append_right _ (List.mem_append_right _ (List.mem_append_right _ (List.mem_append_right _ (List.mem_append_right _ (List.mem_append_right _ (List.mem_append_right _ (List.mem_append_right _ (List.mem_append_right _ (List.mem_append_right _ (List.mem_append_right _ (List.mem_append_right _ (List.mem_append_right _ (List.mem_append_right _ (List.mem_append_right _ (List.mem_append_right _ (List.mem_append_right _ (List.mem_append_right _ (List.mem_append_right _ (List.mem_append_right _ (List.mem_append_right _ (List.mem_append_right _ (List.mem_append_right _ (List.mem_append_right _ (List.mem_append_right _ (List.mem_append_right _ (List.mem_append_right _ (List.mem_append_left _ h))))))))))))))))))))))))))))))))))))))))))
theorem qm_42 : ∀ w ∈ qw_b42, w ∈ qw_big := fun _ h => (List.mem_append_right _ (List.mem_append_right _ (List.mem_append_right _ (List.mem_append_right _ (List.mem_append_right _ (List.mem_append_right _ (List.mem_append_right _ (List.mem_append_right _ (List.mem_append_right _ (List.mem_append_right _ (List.mem_append_right _ (List.mem_append_right _ (List.mem_append_right _ (List.mem_append_right _ (List.mem_append_right _ (List.mem_append_right _ (List.mem_append_right _ (List.mem_append_right _ (List.mem_append_right _ (List.mem_append_right _ (List.mem_append_right _ (List.mem_append_right _ (List.mem_append_right _ (List.mem_append_right _ (List.mem_append_right _ (List.mem_append_right _ (List.mem_append_right _ (List.mem_append_right _ (List.mem_append_right _ (List.mem_append_right _ (List.mem_append_right _ (List.mem_append_right _ (List.mem_append_right _ (List.mem_append_right _ (List.mem_append_right _ (List.mem_append_right _ (List.mem_append_right _ (List.mem_append_right _ (List.mem_append_right _ (List.mem_append_right _ (List.mem_append_right _ (List.mem_append_right _ (List.mem_append_left _ h)))))))))))))))))))))))))))))))))))))))))))
theorem qm_43 : ∀ w ∈ qw_b43, w ∈ qw_big := fun _ h => (List.mem_append_right _ (List.mem_append_right _ (List.mem_append_right _ (List.mem_append_right _ (List.mem_append_right _ (List.mem_append_right _ (List.mem_append_right _ (List.mem_append_right _ (List.mem_append_right _ (List.mem_append_right _ (List.mem_append_right _ (List.mem_append_right _ (List.mem_append_right _ (List.mem_append_right _ (List.mem_append_right _ (List.mem_append_right _ (List.mem_append_right _ (List.mem_append_right _ (List.mem_append_right _ (List.mem_append_right _ (List.mem_append_right _ (List.mem_append_right _ (List.mem_append_right _ (List.mem_append_right _ (List.mem_append_right _ (List.mem_append_right _ (List.mem_append_right _ (List.mem_append_right _ (List.mem_append_right _ (List.mem_append_right _ (List.mem_append_right _ (List.mem_append_right _ (List.mem_append_right _ (List.mem_append_right _ (List.mem_append_right _ (List.mem_append_right _ (List.mem_append_right _ (List.mem_append_right _ (List.mem_append_right _ (List.mem_append_right _ (List.mem_append_right _ (List.mem_append_right _ (List.mem_append_right _ (List.mem_append_left _ h))))))))))))))))))))))))))))))))))))))))))))
theorem qm_44 : ∀ w ∈ qw_b44, w ∈ qw_big := fun _ h => (List.mem_append_right _ (List.mem_append_right _ (List.mem_append_right _ (List.mem_append_right _ (List.mem_append_right _ (List.mem_append_right _ (List.mem_append_right _ (List.mem_append_right _ (List.mem_append_right _ (List.mem_append_right _ (List.mem_append_right _ (List.mem_append_right _ (List.mem_append_right _ (List.mem_append_right _ (List.mem_append_right _ (List.mem_append_right _ (List.mem_append_right _ (List.mem_append_right _ (List.mem_append_right _ (List.mem_append_right _ (List.mem_append_right _ (List.mem_append_right _ (List.mem_append_right _ (List.mem_append_right _ (List.mem_append_right _ (List.mem_append_right _ (List.mem_append_right _ (List.mem_append_right _ (List.mem_append_right _ (List.mem_append_right _ (List.mem_append_right _ (List.mem_append_right _ (List.mem_append_right _ (List.mem_append_right _ (List.mem_append_right _ (List.mem_append_right _ (List.mem_append_right _ (List.mem_append_right _ (List.mem_append_right _ (List.mem_append_right _ (List.mem_append_right _ (List.mem_append_right _ (List.mem_append_right _ (List.mem_append_right _ (List.mem_append_left _ h)))))))))))))))))))))))))))))))))))))))))))))
theorem qm_45 : ∀ w ∈ qw_b45, w ∈ qw_big := fun _ h => (List.mem_append_right _ (List.mem_append_right _ (List.mem_append_right _ (List.mem_append_right _ (List.mem_append_right _ (List.mem_append_right _ (List.mem_append_right _ (List.mem_append_right _ (List.mem_append_right _ (List.mem_append_right _ (List.mem_append_right _ (List.mem_append_right _ (List.mem_append_right _ (List.mem_append_right _ (List.mem_append_right _ (List.mem_append_right _ (List.mem_append_right _ (List.mem_append_right _ (List.mem_append_right _ (List.mem_append_right _ (List.mem_append_right _ (List.mem_append_right _ (List.mem_append_right _ (List.mem_append_right _ (List.mem_append_right _ (List.mem_append_right _ (List.mem_append_right _ (List.mem_append_right _ (List.mem_append_right _ (List.mem_append_right _ (List.mem_append_right _ (List.mem_append_right _ (List.mem_append_right _ (List.mem_append_right _ (List.mem_append_right _ (List.mem_append_right _ (List.mem_append_right _ (List.mem_append_right _ (List.mem_append_right _ (List.mem_append_right _ (List.mem_append_right _ (List.mem_append_right _ (List.mem_append_right _ (List.mem_append_right _ (List.mem_append_right _ (List.mem_append_left _ h))))))))))))))))))))))))))))))))))))))))))))))
theorem qm_46 : ∀ w ∈ qw_b46, w ∈ qw_big := fun _ h => (List.mem_append_right _ (List.mem_append_right _ (List.mem_append_right _ (List.mem_append_right _ (List.mem_append_right _ (List.mem_append_right _ (List.mem_append_right _ (List.mem_append_right _ (List.mem_append_right _ (List.mem_append_right _ (List.mem_append_right _ (List.mem_append_right _ (List.mem_append_right _ (List.mem_append_right _ (List.mem_append_right _ (List.mem_append_right _ (List.mem_append_right _ (List.mem_append_right _ (List.mem_append_right _ (List.mem_append_right _ (List.mem_append_right _ (List.mem_append_right _ (List.mem_append_right _ (List.mem_append_right _ (List.mem_append_right _ (List.mem_append_right _ (List.mem_append_right _ (List.mem_append_right _ (List.mem_append_right _ (List.mem_append_right _ (List.mem_append_right _ (List.mem_append_right _ (List.mem_append_right _ (List.mem_append_right _ (List.mem_append_right _ (List.mem_append_right _ (List.mem_append_right _ (List.mem_append_right _ (List.mem_append_right _ (List.mem_append_right _ (List.mem_append_right _ (List.mem_append_right _ (List.mem_append_right _ (List.mem_append_right _ (List.mem_append_right _ (List.mem_append_right _ (List.mem_append_left _ h)))))))))))))))))))))))))))))))))))))))))))))))
theorem qm_47 : ∀ w ∈ qw_b47, w ∈ qw_big := fun _ h => (List.mem_append_right _ (List.mem_append_right _ (List.mem_append_right _ (List.mem_append_right _ (List.mem_append_right _ (List.mem_append_right _ (List.mem_append_right _ (List.mem_append_right _ (List.mem_append_right _ (List.mem_append_right _ (List.mem_append_right _ (List.mem_append_right _ (List.mem_append_right _ (List.mem_append_right _ (List.mem_append_right _ (List.mem_append_right _ (List.mem_append_right _ (List.mem_append_right _ (List.mem_append_right _ (List.mem_append_right _ (List.mem_append_right _ (List.mem_append_right _ (List.mem_append_right _ (List.mem_append_right _ (List.mem_append_right _ (List.mem_append_right _ (List.mem_append_right _ (List.mem_append_right _ (List.mem_append_right _ (List.mem_append_right _ (List.mem_append_right _ (List.mem_append_right _ (List.mem_append_right _ (List.mem_append_right _ (List.mem_append_right _ (List.mem_append_right _ (List.mem_append_right _ (List.mem_append_right _ (List.mem_append_right _ (List.mem_append_right _ (List.mem_append_right _ (List.mem_append_right _ (List.mem_append_right _ (List.mem_append_right _ (List.mem_append_right _ (List.mem_append_right _ (List.mem_append_right _ (List.mem_append_left _ h))))))))))))))))))))))))))))))))))))))))))))))))
theorem qm_48 : ∀ w ∈ qw_b48, w ∈ qw_big := fun _ h => (List.mem_append_right _ (List.mem_append_right _ (List.mem_append_right _ (List.mem_append_right _ (List.mem_append_right _ (List.mem_append_right _ (List.mem_append_right _ (List.mem_append_right _ (List.mem_append_right _ (List.mem_append_right _ (List.mem_append_right _ (List.mem_append_right _ (List.mem_append_right _ (List.mem_append_right _ (List.mem_append_right _ (List.mem_append_right _ (List.mem_append_right _ (List.mem_append_right _ (List.mem_append_right _ (List.mem_append_right _ (List.mem_append_right _ (List.mem_append_right _ (List.mem_append_right _ (List.mem_append_right _ (List.mem_append_right _ (List.mem_append_right _ (List.mem_append_right _ (List.mem_append_right _ (List.mem_append_right _ (List.mem_append_right _ (List.mem_append_right _ (List.mem_append_right _ (List.mem_append_right _ (List.mem_append_right _ (List.mem_append_right _ (List.mem_append_right _ (List.mem_append_right _ (List.mem_append_right _ (List.mem_append_right _ (List.mem_append_right _ (List.mem_append_right _ (List.mem_append_right _ (List.mem_append_right _ (List.mem_append_right _ (List.mem_append_right _ (List.mem_append_right _ (List.mem_append_right _ (List.mem_append_right _ (List.mem_append_left _ h)))))))))))))))))))))))))))))))))))))))))))))))))
theorem qm_49 : ∀ w ∈ qw_b49, w ∈ qw_big := fun _ h => (List.mem_append_right _ (List.mem_append_right _ (List.mem_append_right _ (List.mem_append_right _ (List.mem_append_right _ (List.mem_append_right _ (List.mem_append_right _ (List.mem_append_right _ (List.mem_append_right _ (List.mem_append_right _ (List.mem_append_right _ (List.mem_append_right _ (List.mem_append_right _ (List.mem_append_right _ (List.mem_append_right _ (List.mem_append_right _ (List.mem_append_right _ (List.mem_append_right _ (List.mem_append_right _ (List.mem_append_right _ (List.mem_append_right _ (List.mem_append_right _ (List.mem_append_right _ (List.mem_append_right _ (List.mem_append_right _ (List.mem_append_right _ (List.mem_append_right _ (List.mem_append_right _ (List.mem_append_right _ (List.mem_append_right _ (List.mem_append_right _ (List.mem_append_right _ (List.mem_append_right _ (List.mem_append_right _ (List.mem_append_right _ (List.mem_append_right _ (List.mem_append_right _ (List.mem_append_right _ (List.mem_append_right _ (List.mem_append_right _ (List.mem_append_right _ (List.mem_append_right _ (List.mem_append_right _ (List.mem_append_right _ (List.mem_append_right _ (List.mem_append_right _ (List.mem_append_right _ (List.mem_append_right _ (List.mem_append_right _ (List.mem_append_left _ h))))))))))))))))))))))))))))))))))))))))))))))))))
theorem kc_X0 : ∀ w ∈ wsX00, w ∈ qw_big := fun _ h => (List.mem_append_right _ (List.mem_append_right _ (List.mem_append_right _ (List.mem_append_right _ (List.mem_append_right _ (List.mem_append_right _ (List.mem_append_right _ (List.mem_append_right _ (List.mem_append_right _ (List.mem_append_right _ (List.mem_append_right _ (List.mem_append_right _ (List.mem_append_right _ (List.mem_append_right _ (List.mem_append_right _ (List.mem_append_right _ (List.mem_append_right _ (List.mem_append_right _ (List.mem_append_right _ (List.mem_append_right _ (List.mem_append_right _ (List.mem_append_right _ (List.mem_append_right _ (List.mem_append_right _ (List.mem_append_right _ (List.mem_append_right _ (List.mem_append_right _ (List.mem_append_right _ (List.mem_append_right _ (List.mem_append_right _ (List.mem_append_right _ (List.mem_append_right _ (List.mem_append_right _ (List.mem_append_right _ (List.mem_append_right _ (List.mem_append_right _ (List.mem_append_right _ (List.mem_append_right _ (List.mem_append_right _ (List.mem_append_right _ (List.mem_append_right _ (List.mem_append_right _ (List.mem_append_right _ (List.mem_append_right _ (List.mem_append_right _ (List.mem_append_right _ (List.mem_append_right _ (List.mem_append_right _ (List.mem_append_right _ (List.mem_append_right _ (List.mem_append_left _ h)))))))))))))))))))))))))))))))))))))))))))))))))))
theorem kc_X1 : ∀ w ∈ wsX10, w ∈ qw_big := fun _ h => (List.mem_append_right _ (List.mem_append_right _ (List.mem_append_right _ (List.mem_append_right _ (List.mem_append_right _ (List.mem_append_right _ (List.mem_append_right _ (List.mem_append_right _ (List.mem_append_right _ (List.mem_append_right _ (List.mem_append_right _ (List.mem_append_right _ (List.mem_append_right _ (List.mem_append_right _ (List.mem_append_right _ (List.mem_append_right _ (List.mem_append_right _ (List.mem_append_right _ (List.mem_append_right _ (List.mem_append_right _ (List.mem_append_right _ (List.mem_append_right _ (List.mem_append_right _ (List.mem_append_right _ (List.mem_append_right _ (List.mem_append_right _ (List.mem_append_right _ (List.mem_append_right _ (List.mem_append_right _ (List.mem_append_right _ (List.mem_append_right _ (List.mem_append_right _ (List.mem_append_right _ (List.mem_append_right _ (List.mem_append_right _ (List.mem_append_right _ (List.mem_append_right _ (List.mem_append_right _ (List.mem_append_right _ (List.mem_append_right _ (List.mem_append_right _ (List.mem_append_right _ (List.mem_append_right _ (List.mem_append_right _ (List.mem_append_right _ (List.mem_append_right _ (List.mem_append_right _ (List.mem_append_right _ (List.mem_append_right _ (List.mem_append_right _ (List.mem_append_right _ (List.mem_append_left _ h))))))))))))))))))))))))))))))))))))))))))))))))))))
theorem kc_X2 : ∀ w ∈ wsX20, w ∈ qw_big := fun _ h => (List.mem_append_right _ (List.mem_append_right _ (List.mem_append_right _ (List.mem_append_right _ (List.mem_append_right _ (List.mem_append_right _ (List.mem_append_right _ (List.mem_append_right _ (List.mem_append_right _ (List.mem_append_right _ (List.mem_append_right _ (List.mem_append_right _ (List.mem_append_right _ (List.mem_append_right _ (List.mem_append_right _ (List.mem_append_right _ (List.mem_append_right _ (List.mem_append_right _ (List.mem_append_right _ (List.mem_append_right _ (List.mem_append_right _ (List.mem_append_right _ (List.mem_append_right _ (List.mem_append_right _ (List.mem_append_right _ (List.mem_append_right _ (List.mem_append_right _ (List.mem_append_right _ (List.mem_append_right _ (List.mem_append_right _ (List.mem_append_right _ (List.mem_append_right _ (List.mem_append_right _ (List.mem_append_right _ (List.mem_append_right _ (List.mem_append_right _ (List.mem_append_right _ (List.mem_append_right _ (List.mem_append_right _ (List.mem_append_right _ (List.mem_append_right _ (List.mem_append_right _ (List.mem_append_right _ (List.mem_append_right _ (List.mem_append_right _ (List.mem_append_right _ (List.mem_append_right _ (List.mem_append_right _ (List.mem_append_right _ (List.mem_append_right _ (List.mem_append_right _ (List.mem_append_right _ (List.mem_append_left _ h)))))))))))))))))))))))))))))))))))))))))))))))))))))
theorem kc_X3 : ∀ w ∈ wsX30, w ∈ qw_big := fun _ h => (List.mem_append_right _ (List.mem_append_right _ (List.mem_append_right _ (List.mem_append_right _ (List.mem_append_right _ (List.mem_append_right _ (List.mem_append_right _ (List.mem_append_right _ (List.mem_append_right _ (List.mem_append_right _ (List.mem_append_right _ (List.mem_append_right _ (List.mem_append_right _ (List.mem_append_right _ (List.mem_append_right _ (List.mem_append_right _ (List.mem_append_right _ (List.mem_append_right _ (List.mem_append_right _ (List.mem_append_right _ (List.mem_append_right _ (List.mem_append_right _ (List.mem_append_right _ (List.mem_append_right _ (List.mem_append_right _ (List.mem_append_right _ (List.mem_append_right _ (List.mem_append_right _ (List.mem_append_right _ (List.mem_append_right _ (List.mem_append_right _ (List.mem_append_right _ (List.mem_append_right _ (List.mem_append_right _ (List.mem_append_right _ (List.mem_append_right _ (List.mem_append_right _ (List.mem_append_right _ (List.mem_append_right _ (List.mem_append_right _ (List.mem_append_right _ (List.mem_append_right _ (List.mem_append_right _ (List.mem_append_right _ (List.mem_append_right _ (List.mem_append_right _ (List.mem_append_right _ (List.mem_append_right _ (List.mem_append_right _ (List.mem_append_right _ (List.mem_append_right _ (List.mem_append_right _ (List.mem_append_right _ (List.mem_append_left _ h))))))))))))))))))))))))))))))))))))))))))))))))))))))
theorem kc_X5 : ∀ w ∈ wsX50, w ∈ qw_big := fun _ h => (List.mem_append_right _ (List.mem_append_right _ (List.mem_append_right _ (List.mem_append_right _ (List.mem_append_right _ (List.mem_append_right _ (List.mem_append_right _ (List.mem_append_right _ (List.mem_append_right _ (List.mem_append_right _ (List.mem_append_right _ (List.mem_append_right _ (List.mem_append_right _ (List.mem_append_right _ (List.mem_append_right _ (List.mem_append_right _ (List.mem_append_right _ (List.mem_append_right _ (List.mem_append_right _ (List.mem_append_right _ (List.mem_append_right _ (List.mem_append_right _ (List.mem_append_right _ (List.mem_append_right _ (List.mem_append_right _ (List.mem_append_right _ (List.mem_append_right _ (List.mem_append_right _ (List.mem_append_right _ (List.mem_append_right _ (List.mem_append_right _ (List.mem_append_right _ (List.mem_append_right _ (List.mem_append_right _ (List.mem_append_right _ (List.mem_append_right _ (List.mem_append_right _ (List.mem_append_right _ (List.mem_append_right _ (List.mem_append_right _ (List.mem_append_right _ (List.mem_append_right _ (List.mem_append_right _ (List.mem_append_right _ (List.mem_append_right _ (List.mem_append_right _ (List.mem_append_right _ (List.mem_append_right _ (List.mem_append_right _ (List.mem_append_right _ (List.mem_append_right _ (List.mem_append_right _ (List.mem_append_right _ (List.mem_append_right _ (List.mem_append_left _ h)))))))))))))))))))))))))))))))))))))))))))))))))))))))
theorem kc_X6 : ∀ w ∈ wsX60, w ∈ qw_big := fun _ h => (List.mem_append_right _ (List.mem_append_right _ (List.mem_append_right _ (List.mem_append_right _ (List.mem_append_right _ (List.mem_append_right _ (List.mem_append_right _ (List.mem_append_right _ (List.mem_append_right _ (List.mem_append_right _ (List.mem_append_right _ (List.mem_append_right _ (List.mem_append_right _ (List.mem_append_right _ (List.mem_append_right _ (List.mem_append_right _ (List.mem_append_right _ (List.mem_append_right _ (List.mem_append_right _ (List.mem_append_right _ (List.mem_append_right _ (List.mem_append_right _ (List.mem_append_right _ (List.mem_append_right _ (List.mem_append_right _ (List.mem_append_right _ (List.mem_append_right _ (List.mem_append_right _ (List.mem_append_right _ (List.mem_append_right _ (List.mem_append_right _ (List.mem_append_right _ (List.mem_append_right _ (List.mem_append_right _ (List.mem_append_right _ (List.mem_append_right _ (List.mem_append_right _ (List.mem_append_right _ (List.mem_append_right _ (List.mem_append_right _ (List.mem_append_right _ (List.mem_append_right _ (List.mem_append_right _ (List.mem_append_right _ (List.mem_append_right _ (List.mem_append_right _ (List.mem_append_right _ (List.mem_append_right _ (List.mem_append_right _ (List.mem_append_right _ (List.mem_append_right _ (List.mem_append_right _ (List.mem_append_right _ (List.mem_append_right _ (List.mem_append_right _ (List.mem_append_left _ h))))))))))))))))))))))))))))))))))))))))))))))))))))))))
theorem kc_X7 : ∀ w ∈ wsX70, w ∈ qw_big := fun _ h => (List.mem_append_right _ (List.mem_append_right _ (List.mem_append_right _ (List.mem_append_right _ (List.mem_append_right _ (List.mem_append_right _ (List.mem_append_right _ (List.mem_append_right _ (List.mem_append_right _ (List.mem_append_right _ (List.mem_append_right _ (List.mem_append_right _ (List.mem_append_right _ (List.mem_append_right _ (List.mem_append_right _ (List.mem_append_right _ (List.mem_append_right _ (List.mem_append_right _ (List.mem_append_right _ (List.mem_append_right _ (List.mem_append_right _ (List.mem_append_right _ (List.mem_append_right _ (List.mem_append_right _ (List.mem_append_right _ (List.mem_append_right _ (List.mem_append_right _ (List.mem_append_right _ (List.mem_append_right _ (List.mem_append_right _ (List.mem_append_right _ (List.mem_append_right _ (List.mem_append_right _ (List.mem_append_right _ (List.mem_append_right _ (List.mem_append_right _ (List.mem_append_right _ (List.mem_append_right _ (List.mem_append_right _ (List.mem_append_right _ (List.mem_append_right _ (List.mem_append_right _ (List.mem_append_right _ (List.mem_append_right _ (List.mem_append_right _ (List.mem_append_right _ (List.mem_append_right _ (List.mem_append_right _ (List.mem_append_right _ (List.mem_append_right _ (List.mem_append_right _ (List.mem_append_right _ (List.mem_append_right _ (List.mem_append_right _ (List.mem_append_right _ (List.mem_append_right _ (List.mem_append_left _ h)))))))))))))))))))))))))))))))))))))))))))))))))))))))))
theorem kc_X8 : ∀ w ∈ wsX80, w ∈ qw_big := fun _ h => (List.mem_append_right _ (List.mem_append_right _ (List.mem_append_right _ (List.mem_append_right _ (List.mem_append_right _ (List.mem_append_right _ (List.mem_append_right _ (List.mem_append_right _ (List.mem_append_right _ (List.mem_append_right _ (List.mem_append_right _ (List.mem_append_right _ (List.mem_append_right _ (List.mem_append_right _ (List.mem_append_right _ (List.mem_append_right _ (List.mem_append_right _ (List.mem_append_right _ (List.mem_append_right _ (List.mem_append_right _ (List.mem_append_right _ (List.mem_append_right _ (List.mem_append_right _ (List.mem_append_right _ (List.mem_append_right _ (List.mem_append_right _ (List.mem_append_right _ (List.mem_append_right _ (List.mem_append_right _ (List.mem_append_right _ (List.mem_append_right _ (List.mem_append_right _ (List.mem_append_right _ (List.mem_append_right _ (List.mem_append_right _ (List.mem_append_right _ (List.mem_append_right _ (List.mem_append_right _ (List.mem_append_right _ (List.mem_append_right _ (List.mem_append_right _ (List.mem_append_right _ (List.mem_append_right _ (List.mem_append_right _ (List.mem_append_right _ (List.mem_append_right _ (List.mem_append_right _ (List.mem_append_right _ (List.mem_append_right _ (List.mem_append_right _ (List.mem_append_right _ (List.mem_append_right _ (List.mem_append_right _ (List.mem_append_right _ (List.mem_append_right _ (List.mem_append_right _ (List.mem_append_right _ (List.mem_append_left _ h))))))))))))))))))))))))))))))))))))))))))))))))))))))))))
theorem qm_thr : ∀ w ∈ qw_thr, w ∈ qw_big := fun _ h => (List.mem_append_right _ (List.mem_append_right _ (List.mem_append_right _ (List.mem_append_right _ (List.mem_append_right _ (List.mem_append_right _ (List.mem_append_right _ (List.mem_append_right _ (List.mem_append_right _ (List.mem_append_right _ (List.mem_append_right _ (List.mem_append_right _ (List.mem_append_right _ (List.mem_append_right _ (List.mem_append_right _ (List.mem_append_right _ (List.mem_append_right _ (List.mem_append_right _ (List.mem_append_right _ (List.mem_append_right _ (List.mem_append_right _ (List.mem_append_right _ (List.mem_append_right _ (List.mem_append_right _ (List.mem_append_right _ (List.mem_append_right _ (List.mem_append_right _ (List.mem_append_right _ (List.mem_append_right _ (List.mem_append_right _ (List.mem_append_right _ (List.mem_append_right _ (List.mem_append_right _ (List.mem_append_right _ (List.mem_append_right _ (List.mem_append_right _ (List.mem_append_right _ (List.mem_append_right _ (List.mem_append_right _ (List.mem_append_right _ (List.mem_append_right _ (List.mem_append_right _ (List.mem_append_right _ (List.mem_append_right _ (List.mem_append_right _ (List.mem_append_right _ (List.mem_append_right _ (List.mem_append_right _ (List.mem_append_right _ (List.mem_append_right _ (List.mem_append_right _ (List.mem_append_right _ (List.mem_append_right _ (List.mem_append_right _ (List.mem_append_right _ (List.mem_append_right _ (List.mem_append_right _ (List.mem_append_right _ h))))))))))))))))))))))))))))))))))))))))))))))))))))))))))
theorem qw_goodall : ∀ w ∈ qw_big, (w.onTables && w.keeps) = true ∨ ∃ ty, w = .arrayClass ty := by
  have h : qw_b0.all goodWord = true ∧ qw_b1.all goodWord = true ∧ qw_b2.all goodWord = true ∧ qw_b3.all goodWord = true ∧ qw_b4.all goodWord = true ∧ qw_b5.all goodWord = true ∧ qw_b6.all goodWord = true ∧ qw_b7.all goodWord = true ∧ qw_b8.all goodWord = true ∧ qw_b9.all goodWord = true ∧ qw_b10.all goodWord = true ∧ qw_b11.all goodWord = true ∧ qw_b12.all goodWord = true ∧ qw_b13.all goodWord = true ∧ qw_b14.all goodWord = true ∧ qw_b15.all goodWord = true ∧ qw_b16.all goodWord = true ∧ qw_b17.all goodWord = true ∧ qw_b18.all goodWord = true ∧ qw_b19.all goodWord = true ∧ qw_b20.all goodWord = true ∧ qw_b21.all goodWord = true ∧ qw_b22.all goodWord = true ∧ qw_b23.all goodWord = true ∧ qw_b24.all goodWord = true ∧ qw_b25.all goodWord = true ∧ qw_b26.all goodWord = true ∧ qw_b27.all goodWord = true ∧ qw_b28.all goodWord = true ∧ qw_b29.all goodWord = true ∧ qw_b30.all goodWord = true ∧ qw_b31.all goodWord = true ∧ qw_b32.all goodWord = true ∧ qw_b33.all goodWord = true ∧ qw_b34.all goodWord = true ∧ qw_b35.all goodWord = true ∧ qw_b36.all goodWord = true ∧ qw_b37.all goodWord = true ∧ qw_b38.all goodWord = true ∧ qw_b39.all goodWord = true ∧ qw_b40.all goodWord = true ∧ qw_b41.all goodWord = true ∧ qw_b42.all goodWord = true ∧ qw_b43.all goodWord = true ∧ qw_b44.all goodWord = true ∧ qw_b45.all goodWord = true ∧ qw_b46.all goodWord = true ∧ qw_b47.all goodWord = true ∧ qw_b48.all goodWord = true ∧ qw_b49.all goodWord = true ∧ wsX00.all goodWord = true ∧ wsX10.all goodWord = true ∧ wsX20.all goodWord = true ∧ wsX30.all goodWord = true ∧ wsX50.all goodWord = true ∧ wsX60.all goodWord = true ∧ wsX70.all goodWord = true ∧ wsX80.all goodWord = true ∧ qw_thr.all goodWord = true := ⟨by decide +kernel, by decide +kernel, by decide +kernel, by decide +kernel, by decide +kernel, by decide +kernel, by decide +kernel, by decide +kernel, by decide +kernel, by decide +kernel, by decide +kernel, by decide +kernel, by decide +kernel, by decide +kernel, by decide +kernel, by decide +kernel, by decide +kernel, by decide +kernel, by decide +kernel, by decide +kernel, by decide +kernel, by decide +kernel, by decide +kernel, by decide +kernel, by decide +kernel, by decide +kernel, by decide +kernel, by decide +kernel, by decide +kernel, by decide +kernel, by decide +kernel, by decide +kernel, by decide +kernel, by decide +kernel, by decide +kernel, by decide +kernel, by decide +kernel, by decide +kernel, by decide +kernel, by decide +kernel, by decide +kernel, by decide +kernel, by decide +kernel, by decide +kernel, by decide +kernel, by decide +kernel, by decide +kernel, by decide +kernel, by decide +kernel, by decide +kernel, by decide +kernel, by decide +kernel, by decide +kernel, by decide +kernel, by decide +kernel, by decide +kernel, by decide +kernel, by decide +kernel, by decide +kernel⟩
  intro w hw
  unfold qw_big at hw
  refine good_of_word ?_
  obtain ⟨h0, h1, h2, h3, h4, h5, h6, h7, h8, h9, h10, h11, h12, h13, h14, h15, h16, h17, h18, h19, h20, h21, h22, h23, h24, h25, h26, h27, h28, h29, h30, h31, h32, h33, h34, h35, h36, h37, h38, h39, h40, h41, h42, h43, h44, h45, h46, h47, h48, h49, h50, h51, h52, h53, h54, h55, h56, h57, h58⟩ := h
  rcases List.mem_append.mp hw with hw | hw
  · exact List.all_eq_true.mp h0 w hw
  rcases List.mem_append.mp hw with hw | hw
  · exact List.all_eq_true.mp h1 w hw
  rcases List.mem_append.mp hw with hw | hw
  · exact List.all_eq_true.mp h2 w hw
  rcases List.mem_append.mp hw with hw | hw
  · exact List.all_eq_true.mp h3 w hw
  rcases List.mem_append.mp hw with hw | hw
  · exact List.all_eq_true.mp h4 w hw
  rcases List.mem_append.mp hw with hw | hw
  · exact List.all_eq_true.mp h5 w hw
  rcases List.mem_append.mp hw with hw | hw
  · exact List.all_eq_true.mp h6 w hw
  rcases List.mem_append.mp hw with hw | hw
  · exact List.all_eq_true.mp h7 w hw
  rcases List.mem_append.mp hw with hw | hw
  · exact List.all_eq_true.mp h8 w hw
  rcases List.mem_append.mp hw with hw | hw
  · exact List.all_eq_true.mp h9 w hw
  rcases List.mem_append.mp hw with hw | hw
  · exact List.all_eq_true.mp h10 w hw
  rcases List.mem_append.mp hw with hw | hw
  · exact List.all_eq_true.mp h11 w hw
  rcases List.mem_append.mp hw with hw | hw
  · exact List.all_eq_true.mp h12 w hw
  rcases List.mem_append.mp hw with hw | hw
  · exact List.all_eq_true.mp h13 w hw
  rcases List.mem_append.mp hw with hw | hw
  · exact List.all_eq_true.mp h14 w hw
  rcases List.mem_append.mp hw with hw | hw
  · exact List.all_eq_true.mp h15 w hw
  rcases List.mem_append.mp hw with hw | hw
  · exact List.all_eq_true.mp h16 w hw
  rcases List.mem_append.mp hw with hw | hw
  · exact List.all_eq_true.mp h17 w hw
  rcases List.mem_append.mp hw with hw | hw
  · exact List.all_eq_true.mp h18 w hw
  rcases List.mem_append.mp hw with hw | hw
  · exact List.all_eq_true.mp h19 w hw
  rcases List.mem_append.mp hw with hw | hw
  · exact List.all_eq_true.mp h20 w hw
  rcases List.mem_append.mp hw with hw | hw
  · exact List.all_eq_true.mp h21 w hw
  rcases List.mem_append.mp hw with hw | hw
  · exact List.all_eq_true.mp h22 w hw
  rcases List.mem_append.mp hw with hw | hw
  · exact List.all_eq_true.mp h23 w hw
  rcases List.mem_append.mp hw with hw | hw
  · exact List.all_eq_true.mp h24 w hw
  rcases List.mem_append.mp hw with hw | hw
  · exact List.all_eq_true.mp h25 w hw
  rcases List.mem_append.mp hw with hw | hw
  · exact List.all_eq_true.mp h26 w hw
  rcases List.mem_append.mp hw with hw | hw
  · exact List.all_eq_true.mp h27 w hw
  rcases List.mem_append.mp hw with hw | hw
  · exact List.all_eq_true.mp h28 w hw
  rcases List.mem_append.mp hw with hw | hw
  · exact List.all_eq_true.mp h29 w hw
  rcases List.mem_append.mp hw with hw | hw
  · exact List.all_eq_true.mp h30 w hw
  rcases List.mem_append.mp hw with hw | hw
  · exact List.all_eq_true.mp h31 w hw
  rcases List.mem_append.mp hw with hw | hw
  · exact List.all_eq_true.mp h32 w hw
  rcases List.mem_append.mp hw with hw | hw
  · exact List.all_eq_true.mp h33 w hw
  rcases List.mem_append.mp hw with hw | hw
  · exact List.all_eq_true.mp h34 w hw
  rcases List.mem_append.mp hw with hw | hw
  · exact List.all_eq_true.mp h35 w hw
  rcases List.mem_append.mp hw with hw | hw
  · exact List.all_eq_true.mp h36 w hw
  rcases List.mem_append.mp hw with hw | hw
  · exact List.all_eq_true.mp h37 w hw
  rcases List.mem_append.mp hw with hw | hw
  · exact List.all_eq_true.mp h38 w hw
  rcases List.mem_append.mp hw with hw | hw
  · exact List.all_eq_true.mp h39 w hw
  rcases List.mem_append.mp hw with hw | hw
  · exact List.all_eq_true.mp h40 w hw
  rcases List.mem_append.mp hw with hw | hw
  · exact List.all_eq_true.mp h41 w hw
  rcases List.mem_append.mp hw with hw | hw
  · exact List.all_eq_true.mp h42 w hw
  rcases List.mem_append.mp hw with hw | hw
  · exact List.all_eq_true.mp h43 w hw
  rcases List.mem_append.mp hw with hw | hw
  · exact List.all_eq_true.mp h44 w hw
  rcases List.mem_append.mp hw with hw | hw
  · exact List.all_eq_true.mp h45 w hw
  rcases List.mem_append.mp hw with hw | hw
  · exact List.all_eq_true.mp h46 w hw
  rcases List.mem_append.mp hw with hw | hw
  · exact List.all_eq_true.mp h47 w hw
  rcases List.mem_append.mp hw with hw | hw
  · exact List.all_eq_true.mp h48 w hw
  rcases List.mem_append.mp hw with hw | hw
  · exact List.all_eq_true.mp h49 w hw
  rcases List.mem_append.mp hw with hw | hw
  · exact List.all_eq_true.mp h50 w hw
  rcases List.mem_append.mp hw with hw | hw
  · exact List.all_eq_true.mp h51 w hw
  rcases List.mem_append.mp hw with hw | hw
  · exact List.all_eq_true.mp h52 w hw
  rcases List.mem_append.mp hw with hw | hw
  · exact List.all_eq_true.mp h53 w hw
  rcases List.mem_append.mp hw with hw | hw
  · exact List.all_eq_true.mp h54 w hw
  rcases List.mem_append.mp hw with hw | hw
  · exact List.all_eq_true.mp h55 w hw
  rcases List.mem_append.mp hw with hw | hw
  · exact List.all_eq_true.mp h56 w hw
  rcases List.mem_append.mp hw with hw | hw
  · exact List.all_eq_true.mp h57 w hw
  exact List.all_eq_true.mp h58 w hw
theorem qw_gV {own C : String} {idx n : Nat} {y : MethodName} {b : ByteArray} {r : Option FieldType} (h1 : Cond.methodLink own idx y ∈ qw_big) (h2 : Cond.instanceMethod y ∈ qw_big) (h3 : Cond.selects C y y ∈ qw_big) (h4 : Cond.initialized C ∈ qw_big) (h5 : Cond.code y b n r ∈ qw_big) : GoodIn qw_big (wsV own idx C y (Cond.code y b n r :: qw_big)) := by
  intro w hw
  have hm : w ∈ qw_big := by
    unfold wsV at hw
    rcases List.mem_append.mp hw with hw | hw
    · rcases List.mem_cons.mp hw with e | hw
      · rw [e]; exact h1
      rcases List.mem_cons.mp hw with e | hw
      · rw [e]; exact h2
      rcases List.mem_cons.mp hw with e | hw
      · rw [e]; exact h3
      rcases List.mem_cons.mp hw with e | hw
      · rw [e]; exact h4
      cases hw
    · rcases List.mem_cons.mp hw with e | hw
      · rw [e]; exact h5
      · exact hw
  exact ⟨hm, qw_goodall w hm⟩
theorem qw_gS {own : String} {idx : Nat} {y : MethodName} {w0 : Cond} (h1 : Cond.methodLink own idx y ∈ qw_big) (h2 : Cond.static y ∈ qw_big) (h4 : Cond.initialized y.cls ∈ qw_big) (h5 : w0 ∈ qw_big) : GoodIn qw_big (va_wsS own idx y (w0 :: qw_big)) := by
  intro w hw
  have hm : w ∈ qw_big := by
    unfold va_wsS at hw
    rcases List.mem_append.mp hw with hw | hw
    · rcases List.mem_cons.mp hw with e | hw
      · rw [e]; exact h1
      rcases List.mem_cons.mp hw with e | hw
      · rw [e]; exact h2
      rcases List.mem_cons.mp hw with e | hw
      · rw [e]; exact h4
      cases hw
    · rcases List.mem_cons.mp hw with e | hw
      · rw [e]; exact h5
      · exact hw
  exact ⟨hm, qw_goodall w hm⟩
theorem qw_gW {w0 : Cond} (h5 : w0 ∈ qw_big) : GoodIn qw_big (w0 :: qw_big) := by
  intro w hw
  have hm : w ∈ qw_big := by
    rcases List.mem_cons.mp hw with e | hw
    · rw [e]; exact h5
    · exact hw
  exact ⟨hm, qw_goodall w hm⟩
theorem kco_J0_charAt_5068e : Cond.code yJ0_charAt_5068e cJ0_charAt_5068e 2 (some .char) ∈ qw_big := qm_0 _ (List.mem_of_getElem? (i := 0) rfl)
theorem kl_J0_9 : Cond.fieldLink RJ0 9 "java/lang/String" "value" "[B" ∈ qw_big := qm_0 _ (List.mem_of_getElem? (i := 1) rfl)
theorem kml_J0_492 : Cond.methodLink RJ0 492 yJ0_isLatin1_aae02 ∈ qw_big := qm_0 _ (List.mem_of_getElem? (i := 2) rfl)
theorem kin_J0_isLatin1_aae02 : Cond.instanceMethod yJ0_isLatin1_aae02 ∈ qw_big := qm_0 _ (List.mem_of_getElem? (i := 3) rfl)
theorem kse_J0_isLatin1_aae02 : Cond.selects RJ0 yJ0_isLatin1_aae02 yJ0_isLatin1_aae02 ∈ qw_big := qm_0 _ (List.mem_of_getElem? (i := 4) rfl)
theorem kini_J0 : Cond.initialized RJ0 ∈ qw_big := qm_0 _ (List.mem_of_getElem? (i := 5) rfl)
theorem kco_J0_isLatin1_aae02 : Cond.code yJ0_isLatin1_aae02 cJ0_isLatin1_aae02 1 (some .boolean) ∈ qw_big := qm_0 _ (List.mem_of_getElem? (i := 6) rfl)
theorem kl_J0_38 : Cond.fieldLink RJ0 38 "java/lang/String" "COMPACT_STRINGS" "Z" ∈ qw_big := qm_0 _ (List.mem_of_getElem? (i := 7) rfl)
theorem kl_J0_15 : Cond.fieldLink RJ0 15 "java/lang/String" "coder" "B" ∈ qw_big := qm_0 _ (List.mem_of_getElem? (i := 8) rfl)
theorem kml_J0_495 : Cond.methodLink RJ0 495 yJ1_charAt_3b067 ∈ qw_big := qm_0 _ (List.mem_of_getElem? (i := 9) rfl)
theorem kst_J1_charAt_3b067 : Cond.static yJ1_charAt_3b067 ∈ qw_big := qm_0 _ (List.mem_of_getElem? (i := 10) rfl)
theorem kini_J1 : Cond.initialized RJ1 ∈ qw_big := qm_0 _ (List.mem_of_getElem? (i := 11) rfl)
theorem kco_J1_charAt_3b067 : Cond.code yJ1_charAt_3b067 cJ1_charAt_3b067 2 (some .char) ∈ qw_big := qm_0 _ (List.mem_of_getElem? (i := 12) rfl)
theorem kml_J1_9 : Cond.methodLink RJ1 9 yJ0_checkIndex_df160 ∈ qw_big := qm_0 _ (List.mem_of_getElem? (i := 13) rfl)
theorem kst_J0_checkIndex_df160 : Cond.static yJ0_checkIndex_df160 ∈ qw_big := qm_0 _ (List.mem_of_getElem? (i := 14) rfl)
theorem kco_J0_checkIndex_df160 : Cond.code yJ0_checkIndex_df160 cJ0_checkIndex_df160 2 none ∈ qw_big := qm_0 _ (List.mem_of_getElem? (i := 15) rfl)
theorem kl_J0_1053 : Cond.fieldLink RJ0 1053 "jdk/internal/util/Preconditions" "SIOOBE_FORMATTER" "Ljava/util/function/BiFunction;" ∈ qw_big := qm_0 _ (List.mem_of_getElem? (i := 16) rfl)
theorem kml_J0_1059 : Cond.methodLink RJ0 1059 yJ3_checkIndex_8e157 ∈ qw_big := qm_0 _ (List.mem_of_getElem? (i := 17) rfl)
theorem kst_J3_checkIndex_8e157 : Cond.static yJ3_checkIndex_8e157 ∈ qw_big := qm_0 _ (List.mem_of_getElem? (i := 18) rfl)
theorem kini_J3 : Cond.initialized RJ3 ∈ qw_big := qm_0 _ (List.mem_of_getElem? (i := 19) rfl)
theorem kco_J3_checkIndex_8e157 : Cond.code yJ3_checkIndex_8e157 cJ3_checkIndex_8e157 3 (some .int) ∈ qw_big := qm_0 _ (List.mem_of_getElem? (i := 20) rfl)
theorem kml_J0_498 : Cond.methodLink RJ0 498 yJ2_charAt_3b067 ∈ qw_big := qm_0 _ (List.mem_of_getElem? (i := 21) rfl)
theorem kst_J2_charAt_3b067 : Cond.static yJ2_charAt_3b067 ∈ qw_big := qm_0 _ (List.mem_of_getElem? (i := 22) rfl)
theorem kini_J2 : Cond.initialized RJ2 ∈ qw_big := qm_0 _ (List.mem_of_getElem? (i := 23) rfl)
theorem kco_J2_charAt_3b067 : Cond.code yJ2_charAt_3b067 cJ2_charAt_3b067 2 (some .char) ∈ qw_big := qm_0 _ (List.mem_of_getElem? (i := 24) rfl)
theorem kml_J2_67 : Cond.methodLink RJ2 67 yJ2_checkIndex_2214a ∈ qw_big := qm_0 _ (List.mem_of_getElem? (i := 25) rfl)
theorem kst_J2_checkIndex_2214a : Cond.static yJ2_checkIndex_2214a ∈ qw_big := qm_0 _ (List.mem_of_getElem? (i := 26) rfl)
theorem kco_J2_checkIndex_2214a : Cond.code yJ2_checkIndex_2214a cJ2_checkIndex_2214a 2 none ∈ qw_big := qm_0 _ (List.mem_of_getElem? (i := 27) rfl)
theorem kml_J2_48 : Cond.methodLink RJ2 48 yJ2_length_9d52b ∈ qw_big := qm_0 _ (List.mem_of_getElem? (i := 28) rfl)
theorem kst_J2_length_9d52b : Cond.static yJ2_length_9d52b ∈ qw_big := qm_0 _ (List.mem_of_getElem? (i := 29) rfl)
theorem kco_J2_length_9d52b : Cond.code yJ2_length_9d52b cJ2_length_9d52b 1 (some .int) ∈ qw_big := qm_1 _ (List.mem_of_getElem? (i := 0) rfl)
theorem kml_J2_414 : Cond.methodLink RJ2 414 yJ0_checkIndex_df160 ∈ qw_big := qm_1 _ (List.mem_of_getElem? (i := 1) rfl)
theorem kml_J2_71 : Cond.methodLink RJ2 71 yJ2_getChar_3b067 ∈ qw_big := qm_1 _ (List.mem_of_getElem? (i := 2) rfl)
theorem kst_J2_getChar_3b067 : Cond.static yJ2_getChar_3b067 ∈ qw_big := qm_1 _ (List.mem_of_getElem? (i := 3) rfl)
theorem kco_J2_getChar_3b067 : Cond.code yJ2_getChar_3b067 cJ2_getChar_3b067 2 (some .char) ∈ qw_big := qm_1 _ (List.mem_of_getElem? (i := 4) rfl)
theorem kl_J2_44 : Cond.fieldLink RJ2 44 "java/lang/StringUTF16" "$assertionsDisabled" "Z" ∈ qw_big := qm_1 _ (List.mem_of_getElem? (i := 5) rfl)
theorem kl_J2_59 : Cond.fieldLink RJ2 59 "java/lang/StringUTF16" "HI_BYTE_SHIFT" "I" ∈ qw_big := qm_1 _ (List.mem_of_getElem? (i := 6) rfl)
theorem kl_J2_63 : Cond.fieldLink RJ2 63 "java/lang/StringUTF16" "LO_BYTE_SHIFT" "I" ∈ qw_big := qm_1 _ (List.mem_of_getElem? (i := 7) rfl)
theorem kco_J0_coder_7d493 : Cond.code yJ0_coder_7d493 cJ0_coder_7d493 1 (some .byte) ∈ qw_big := qm_1 _ (List.mem_of_getElem? (i := 8) rfl)
theorem kco_J0_length_8abf5 : Cond.code yJ0_length_8abf5 cJ0_length_8abf5 1 (some .int) ∈ qw_big := qm_1 _ (List.mem_of_getElem? (i := 9) rfl)
theorem kml_J0_335 : Cond.methodLink RJ0 335 yJ0_coder_7d493 ∈ qw_big := qm_1 _ (List.mem_of_getElem? (i := 10) rfl)
theorem kin_J0_coder_7d493 : Cond.instanceMethod yJ0_coder_7d493 ∈ qw_big := qm_1 _ (List.mem_of_getElem? (i := 11) rfl)
theorem kse_J0_coder_7d493 : Cond.selects RJ0 yJ0_coder_7d493 yJ0_coder_7d493 ∈ qw_big := qm_1 _ (List.mem_of_getElem? (i := 12) rfl)
theorem kco_J7_fill_53178 : Cond.code yJ7_fill_53178 cJ7_fill_53178 4 none ∈ qw_big := qm_1 _ (List.mem_of_getElem? (i := 13) rfl)
theorem kco_J9_abs_0f7a4 : Cond.code yJ9_abs_0f7a4 cJ9_abs_0f7a4 1 (some .int) ∈ qw_big := qm_1 _ (List.mem_of_getElem? (i := 14) rfl)
theorem kco_J9_max_7cf53 : Cond.code yJ9_max_7cf53 cJ9_max_7cf53 2 (some .int) ∈ qw_big := qm_1 _ (List.mem_of_getElem? (i := 15) rfl)
theorem kco_J9_min_7cf53 : Cond.code yJ9_min_7cf53 cJ9_min_7cf53 2 (some .int) ∈ qw_big := qm_1 _ (List.mem_of_getElem? (i := 16) rfl)
theorem kco_L_accountOf : Cond.codeWith yL_accountOf cL_accountOf 5 (some .int) [(0, 10, 13, 13)] ∈ qw_big := qm_1 _ (List.mem_of_getElem? (i := 17) rfl)
theorem kcl_L_13 : Cond.classLink RL 13 "java/lang/IndexOutOfBoundsException" ∈ qw_big := qm_1 _ (List.mem_of_getElem? (i := 18) rfl)
theorem kml_L_53 : Cond.methodLink RL 53 yX7_accountOf ∈ qw_big := qm_1 _ (List.mem_of_getElem? (i := 19) rfl)
theorem kin_X7_accountOf : Cond.instanceMethod yX7_accountOf ∈ qw_big := qm_1 _ (List.mem_of_getElem? (i := 20) rfl)
theorem kse_X7_accountOf : Cond.selects RX7 yX7_accountOf yX7_accountOf ∈ qw_big := qm_1 _ (List.mem_of_getElem? (i := 21) rfl)
theorem kini_X7 : Cond.initialized RX7 ∈ qw_big := qm_1 _ (List.mem_of_getElem? (i := 22) rfl)
theorem kco_X7_accountOf : Cond.code yX7_accountOf cX7_accountOf 3 (some .int) ∈ qw_big := qm_1 _ (List.mem_of_getElem? (i := 23) rfl)
theorem kl_X7_47 : Cond.fieldLink RX7 47 "RationOffice" "state" "LRationOffice$State;" ∈ qw_big := qm_1 _ (List.mem_of_getElem? (i := 24) rfl)
theorem kl_X7_222 : Cond.fieldLink RX7 222 "RationOffice$State" "account" "[I" ∈ qw_big := qm_1 _ (List.mem_of_getElem? (i := 25) rfl)
theorem kml_X7_213 : Cond.methodLink RX7 213 yX7_isShop ∈ qw_big := qm_1 _ (List.mem_of_getElem? (i := 26) rfl)
theorem kin_X7_isShop : Cond.instanceMethod yX7_isShop ∈ qw_big := qm_1 _ (List.mem_of_getElem? (i := 27) rfl)
theorem kse_X7_isShop : Cond.selects RX7 yX7_isShop yX7_isShop ∈ qw_big := qm_1 _ (List.mem_of_getElem? (i := 28) rfl)
theorem kco_X7_isShop : Cond.code yX7_isShop cX7_isShop 2 (some .boolean) ∈ qw_big := qm_1 _ (List.mem_of_getElem? (i := 29) rfl)
theorem kl_X7_40 : Cond.fieldLink RX7 40 "RationOffice" "plan" "LRationOffice$Plan;" ∈ qw_big := qm_2 _ (List.mem_of_getElem? (i := 0) rfl)
theorem kl_X7_90 : Cond.fieldLink RX7 90 "RationOffice$Plan" "shops" "I" ∈ qw_big := qm_2 _ (List.mem_of_getElem? (i := 1) rfl)
theorem kml_X7_115 : Cond.methodLink RX7 115 yX7_isGroup ∈ qw_big := qm_2 _ (List.mem_of_getElem? (i := 2) rfl)
theorem kin_X7_isGroup : Cond.instanceMethod yX7_isGroup ∈ qw_big := qm_2 _ (List.mem_of_getElem? (i := 3) rfl)
theorem kse_X7_isGroup : Cond.selects RX7 yX7_isGroup yX7_isGroup ∈ qw_big := qm_2 _ (List.mem_of_getElem? (i := 4) rfl)
theorem kco_X7_isGroup : Cond.code yX7_isGroup cX7_isGroup 2 (some .boolean) ∈ qw_big := qm_2 _ (List.mem_of_getElem? (i := 5) rfl)
theorem kl_X7_81 : Cond.fieldLink RX7 81 "RationOffice$Plan" "groups" "I" ∈ qw_big := qm_2 _ (List.mem_of_getElem? (i := 6) rfl)
theorem kml_X7_119 : Cond.methodLink RX7 119 yX7_need ∈ qw_big := qm_2 _ (List.mem_of_getElem? (i := 7) rfl)
theorem kst_X7_need : Cond.static yX7_need ∈ qw_big := qm_2 _ (List.mem_of_getElem? (i := 8) rfl)
theorem kco_X7_need : Cond.code yX7_need cX7_need 1 none ∈ qw_big := qm_2 _ (List.mem_of_getElem? (i := 9) rfl)
theorem kcl_X7_338 : Cond.classLink RX7 338 "java/lang/IndexOutOfBoundsException" ∈ qw_big := qm_2 _ (List.mem_of_getElem? (i := 10) rfl)
theorem km_ioobe : Cond.initialized "java/lang/IndexOutOfBoundsException" ∈ qw_big := qm_2 _ (List.mem_of_getElem? (i := 11) rfl)
theorem kml_X7_225 : Cond.methodLink RX7 225 yX5_entry ∈ qw_big := qm_2 _ (List.mem_of_getElem? (i := 12) rfl)
theorem kst_X5_entry : Cond.static yX5_entry ∈ qw_big := qm_2 _ (List.mem_of_getElem? (i := 13) rfl)
theorem kini_X5 : Cond.initialized RX5 ∈ qw_big := qm_2 _ (List.mem_of_getElem? (i := 14) rfl)
theorem kco_X5_entry : Cond.code yX5_entry cX5_entry 2 (some .int) ∈ qw_big := qm_2 _ (List.mem_of_getElem? (i := 15) rfl)
theorem kco_L_basketCost : Cond.codeWith yL_basketCost cL_basketCost 5 (some .int) [(0, 10, 13, 13)] ∈ qw_big := qm_2 _ (List.mem_of_getElem? (i := 16) rfl)
theorem kml_L_112 : Cond.methodLink RL 112 yX7_basketCost ∈ qw_big := qm_2 _ (List.mem_of_getElem? (i := 17) rfl)
theorem kin_X7_basketCost : Cond.instanceMethod yX7_basketCost ∈ qw_big := qm_2 _ (List.mem_of_getElem? (i := 18) rfl)
theorem kse_X7_basketCost : Cond.selects RX7 yX7_basketCost yX7_basketCost ∈ qw_big := qm_2 _ (List.mem_of_getElem? (i := 19) rfl)
theorem kco_X7_basketCost : Cond.code yX7_basketCost cX7_basketCost 6 (some .int) ∈ qw_big := qm_2 _ (List.mem_of_getElem? (i := 20) rfl)
theorem kl_X7_30 : Cond.fieldLink RX7 30 "RationOffice" "basket" "LRationOffice$Basket;" ∈ qw_big := qm_2 _ (List.mem_of_getElem? (i := 21) rfl)
theorem kl_X7_283 : Cond.fieldLink RX7 283 "RationOffice$Basket" "cost" "[I" ∈ qw_big := qm_2 _ (List.mem_of_getElem? (i := 22) rfl)
theorem kml_X7_150 : Cond.methodLink RX7 150 yX7_isHouse ∈ qw_big := qm_2 _ (List.mem_of_getElem? (i := 23) rfl)
theorem kin_X7_isHouse : Cond.instanceMethod yX7_isHouse ∈ qw_big := qm_2 _ (List.mem_of_getElem? (i := 24) rfl)
theorem kse_X7_isHouse : Cond.selects RX7 yX7_isHouse yX7_isHouse ∈ qw_big := qm_2 _ (List.mem_of_getElem? (i := 25) rfl)
theorem kco_X7_isHouse : Cond.code yX7_isHouse cX7_isHouse 2 (some .boolean) ∈ qw_big := qm_2 _ (List.mem_of_getElem? (i := 26) rfl)
theorem kl_X7_87 : Cond.fieldLink RX7 87 "RationOffice$Plan" "houses" "I" ∈ qw_big := qm_2 _ (List.mem_of_getElem? (i := 27) rfl)
theorem kml_X7_271 : Cond.methodLink RX7 271 yX7_fillBasket ∈ qw_big := qm_2 _ (List.mem_of_getElem? (i := 28) rfl)
theorem kin_X7_fillBasket : Cond.instanceMethod yX7_fillBasket ∈ qw_big := qm_2 _ (List.mem_of_getElem? (i := 29) rfl)
theorem kse_X7_fillBasket : Cond.selects RX7 yX7_fillBasket yX7_fillBasket ∈ qw_big := qm_3 _ (List.mem_of_getElem? (i := 0) rfl)
theorem kco_X7_fillBasket : Cond.code yX7_fillBasket cX7_fillBasket 4 (some .int) ∈ qw_big := qm_3 _ (List.mem_of_getElem? (i := 1) rfl)
theorem kml_X7_231 : Cond.methodLink RX7 231 yX7_isClosed ∈ qw_big := qm_3 _ (List.mem_of_getElem? (i := 2) rfl)
theorem kin_X7_isClosed : Cond.instanceMethod yX7_isClosed ∈ qw_big := qm_3 _ (List.mem_of_getElem? (i := 3) rfl)
theorem kse_X7_isClosed : Cond.selects RX7 yX7_isClosed yX7_isClosed ∈ qw_big := qm_3 _ (List.mem_of_getElem? (i := 4) rfl)
theorem kco_X7_isClosed : Cond.code yX7_isClosed cX7_isClosed 2 (some .boolean) ∈ qw_big := qm_3 _ (List.mem_of_getElem? (i := 5) rfl)
theorem kl_X7_228 : Cond.fieldLink RX7 228 "RationOffice$State" "penalty" "[I" ∈ qw_big := qm_3 _ (List.mem_of_getElem? (i := 6) rfl)
theorem kl_X7_159 : Cond.fieldLink RX7 159 "RationOffice$State" "setting" "[I" ∈ qw_big := qm_3 _ (List.mem_of_getElem? (i := 7) rfl)
theorem kml_X7_162 : Cond.methodLink RX7 162 yX7_holding ∈ qw_big := qm_3 _ (List.mem_of_getElem? (i := 8) rfl)
theorem kin_X7_holding : Cond.instanceMethod yX7_holding ∈ qw_big := qm_3 _ (List.mem_of_getElem? (i := 9) rfl)
theorem kse_X7_holding : Cond.selects RX7 yX7_holding yX7_holding ∈ qw_big := qm_3 _ (List.mem_of_getElem? (i := 10) rfl)
theorem kco_X7_holding : Cond.code yX7_holding cX7_holding 3 (some .int) ∈ qw_big := qm_3 _ (List.mem_of_getElem? (i := 11) rfl)
theorem kl_X7_166 : Cond.fieldLink RX7 166 "RationOffice$State" "purses" "[I" ∈ qw_big := qm_3 _ (List.mem_of_getElem? (i := 12) rfl)
theorem kml_X7_169 : Cond.methodLink RX7 169 yX5_purse ∈ qw_big := qm_3 _ (List.mem_of_getElem? (i := 13) rfl)
theorem kst_X5_purse : Cond.static yX5_purse ∈ qw_big := qm_3 _ (List.mem_of_getElem? (i := 14) rfl)
theorem kco_X5_purse : Cond.code yX5_purse cX5_purse 2 (some .int) ∈ qw_big := qm_3 _ (List.mem_of_getElem? (i := 15) rfl)
theorem kml_X7_179 : Cond.methodLink RX7 179 yX4_total ∈ qw_big := qm_3 _ (List.mem_of_getElem? (i := 16) rfl)
theorem kst_X4_total : Cond.static yX4_total ∈ qw_big := qm_3 _ (List.mem_of_getElem? (i := 17) rfl)
theorem kini_X4 : Cond.initialized RX4 ∈ qw_big := qm_3 _ (List.mem_of_getElem? (i := 18) rfl)
theorem kco_X4_total : Cond.code yX4_total cX4_total 4 (some .int) ∈ qw_big := qm_3 _ (List.mem_of_getElem? (i := 19) rfl)
theorem kml_X7_279 : Cond.methodLink RX7 279 yX0_choose ∈ qw_big := qm_3 _ (List.mem_of_getElem? (i := 20) rfl)
theorem kin_X0_choose : Cond.instanceMethod yX0_choose ∈ qw_big := qm_3 _ (List.mem_of_getElem? (i := 21) rfl)
theorem kse_X0_choose : Cond.selects RX0 yX0_choose yX0_choose ∈ qw_big := qm_3 _ (List.mem_of_getElem? (i := 22) rfl)
theorem kini_X0 : Cond.initialized RX0 ∈ qw_big := qm_3 _ (List.mem_of_getElem? (i := 23) rfl)
theorem kco_X0_choose : Cond.code yX0_choose cX0_choose 7 none ∈ qw_big := qm_3 _ (List.mem_of_getElem? (i := 24) rfl)
theorem kl_X0_23 : Cond.fieldLink RX0 23 "RationOffice$Basket" "value" "I" ∈ qw_big := qm_3 _ (List.mem_of_getElem? (i := 25) rfl)
theorem kl_X0_11 : Cond.fieldLink RX0 11 "RationOffice$Basket" "best" "[[I" ∈ qw_big := qm_3 _ (List.mem_of_getElem? (i := 26) rfl)
theorem kl_X0_27 : Cond.fieldLink RX0 27 "RationOffice$Plan" "goods" "I" ∈ qw_big := qm_3 _ (List.mem_of_getElem? (i := 27) rfl)
theorem kl_X0_38 : Cond.fieldLink RX0 38 "RationOffice$Plan" "groups" "I" ∈ qw_big := qm_3 _ (List.mem_of_getElem? (i := 28) rfl)
theorem kl_X0_41 : Cond.fieldLink RX0 41 "RationOffice$State" "purses" "[I" ∈ qw_big := qm_3 _ (List.mem_of_getElem? (i := 29) rfl)
theorem kml_X0_56 : Cond.methodLink RX0 56 Lib.Math.min.name ∈ qw_big := qm_4 _ (List.mem_of_getElem? (i := 0) rfl)
theorem km_min_s : Cond.static Lib.Math.min.name ∈ qw_big := qm_4 _ (List.mem_of_getElem? (i := 1) rfl)
theorem km_math : Cond.initialized "java/lang/Math" ∈ qw_big := qm_4 _ (List.mem_of_getElem? (i := 2) rfl)
theorem km_min_c : Cond.code Lib.Math.min.name Lib.Math.min.code 2 (some .int) ∈ qw_big := qm_4 _ (List.mem_of_getElem? (i := 3) rfl)
theorem kl_X0_20 : Cond.fieldLink RX0 20 "RationOffice$Basket" "cost" "[I" ∈ qw_big := qm_4 _ (List.mem_of_getElem? (i := 4) rfl)
theorem kml_X0_32 : Cond.methodLink RX0 32 yJ7_fill_53178 ∈ qw_big := qm_4 _ (List.mem_of_getElem? (i := 5) rfl)
theorem kst_J7_fill_53178 : Cond.static yJ7_fill_53178 ∈ qw_big := qm_4 _ (List.mem_of_getElem? (i := 6) rfl)
theorem kini_J7 : Cond.initialized RJ7 ∈ qw_big := qm_4 _ (List.mem_of_getElem? (i := 7) rfl)
theorem kml_X0_46 : Cond.methodLink RX0 46 yX5_purse ∈ qw_big := qm_4 _ (List.mem_of_getElem? (i := 8) rfl)
theorem kml_X0_50 : Cond.methodLink RX0 50 yX4_total ∈ qw_big := qm_4 _ (List.mem_of_getElem? (i := 9) rfl)
theorem kml_X0_61 : Cond.methodLink RX0 61 yX0_weigh ∈ qw_big := qm_4 _ (List.mem_of_getElem? (i := 10) rfl)
theorem kin_X0_weigh : Cond.instanceMethod yX0_weigh ∈ qw_big := qm_4 _ (List.mem_of_getElem? (i := 11) rfl)
theorem kse_X0_weigh : Cond.selects RX0 yX0_weigh yX0_weigh ∈ qw_big := qm_4 _ (List.mem_of_getElem? (i := 12) rfl)
theorem kco_X0_weigh : Cond.code yX0_weigh cX0_weigh 8 none ∈ qw_big := qm_4 _ (List.mem_of_getElem? (i := 13) rfl)
theorem kml_X0_72 : Cond.methodLink RX0 72 arraycopyName ∈ qw_big := qm_4 _ (List.mem_of_getElem? (i := 14) rfl)
theorem km_cp_n : Cond.native arraycopyName ∈ qw_big := qm_4 _ (List.mem_of_getElem? (i := 15) rfl)
theorem km_cp_s : Cond.static arraycopyName ∈ qw_big := qm_4 _ (List.mem_of_getElem? (i := 16) rfl)
theorem km_sys : Cond.initialized "java/lang/System" ∈ qw_big := qm_4 _ (List.mem_of_getElem? (i := 17) rfl)
theorem kl_X0_78 : Cond.fieldLink RX0 78 "RationOffice$Plan" "groupOf" "[I" ∈ qw_big := qm_4 _ (List.mem_of_getElem? (i := 18) rfl)
theorem kl_X0_81 : Cond.fieldLink RX0 81 "RationOffice$State" "stock" "[I" ∈ qw_big := qm_4 _ (List.mem_of_getElem? (i := 19) rfl)
theorem kl_X0_87 : Cond.fieldLink RX0 87 "RationOffice$Plan" "rate" "[I" ∈ qw_big := qm_4 _ (List.mem_of_getElem? (i := 20) rfl)
theorem kl_X0_93 : Cond.fieldLink RX0 93 "RationOffice$Plan" "value" "[I" ∈ qw_big := qm_4 _ (List.mem_of_getElem? (i := 21) rfl)
theorem kml_X0_84 : Cond.methodLink RX0 84 yX5_shelf ∈ qw_big := qm_4 _ (List.mem_of_getElem? (i := 22) rfl)
theorem kst_X5_shelf : Cond.static yX5_shelf ∈ qw_big := qm_4 _ (List.mem_of_getElem? (i := 23) rfl)
theorem kco_X5_shelf : Cond.code yX5_shelf cX5_shelf 2 (some .int) ∈ qw_big := qm_4 _ (List.mem_of_getElem? (i := 24) rfl)
theorem kst_X7_quotient : Cond.static yX7_quotient ∈ qw_big := qm_4 _ (List.mem_of_getElem? (i := 25) rfl)
theorem kco_X7_quotient : Cond.code yX7_quotient cX7_quotient 2 (some .int) ∈ qw_big := qm_4 _ (List.mem_of_getElem? (i := 26) rfl)
theorem kml_X0_95 : Cond.methodLink RX0 95 yX0_addUnits ∈ qw_big := qm_4 _ (List.mem_of_getElem? (i := 27) rfl)
theorem kin_X0_addUnits : Cond.instanceMethod yX0_addUnits ∈ qw_big := qm_4 _ (List.mem_of_getElem? (i := 28) rfl)
theorem kse_X0_addUnits : Cond.selects RX0 yX0_addUnits yX0_addUnits ∈ qw_big := qm_4 _ (List.mem_of_getElem? (i := 29) rfl)
theorem kco_X0_addUnits : Cond.code yX0_addUnits cX0_addUnits 9 none ∈ qw_big := qm_5 _ (List.mem_of_getElem? (i := 0) rfl)
theorem kml_X0_99 : Cond.methodLink RX0 99 yX0_addLot ∈ qw_big := qm_5 _ (List.mem_of_getElem? (i := 1) rfl)
theorem kst_X0_addLot : Cond.static yX0_addLot ∈ qw_big := qm_5 _ (List.mem_of_getElem? (i := 2) rfl)
theorem kco_X0_addLot : Cond.code yX0_addLot cX0_addLot 5 none ∈ qw_big := qm_5 _ (List.mem_of_getElem? (i := 3) rfl)
theorem kml_X0_103 : Cond.methodLink RX0 103 Lib.Math.max.name ∈ qw_big := qm_5 _ (List.mem_of_getElem? (i := 4) rfl)
theorem km_max_s : Cond.static Lib.Math.max.name ∈ qw_big := qm_5 _ (List.mem_of_getElem? (i := 5) rfl)
theorem km_max_c : Cond.code Lib.Math.max.name Lib.Math.max.code 2 (some .int) ∈ qw_big := qm_5 _ (List.mem_of_getElem? (i := 6) rfl)
theorem kml_X0_65 : Cond.methodLink RX0 65 yX0_cheapest ∈ qw_big := qm_5 _ (List.mem_of_getElem? (i := 7) rfl)
theorem kin_X0_cheapest : Cond.instanceMethod yX0_cheapest ∈ qw_big := qm_5 _ (List.mem_of_getElem? (i := 8) rfl)
theorem kse_X0_cheapest : Cond.selects RX0 yX0_cheapest yX0_cheapest ∈ qw_big := qm_5 _ (List.mem_of_getElem? (i := 9) rfl)
theorem kco_X0_cheapest : Cond.code yX0_cheapest cX0_cheapest 3 (some .int) ∈ qw_big := qm_5 _ (List.mem_of_getElem? (i := 10) rfl)
theorem kml_X0_69 : Cond.methodLink RX0 69 yX0_fill ∈ qw_big := qm_5 _ (List.mem_of_getElem? (i := 11) rfl)
theorem kin_X0_fill : Cond.instanceMethod yX0_fill ∈ qw_big := qm_5 _ (List.mem_of_getElem? (i := 12) rfl)
theorem kse_X0_fill : Cond.selects RX0 yX0_fill yX0_fill ∈ qw_big := qm_5 _ (List.mem_of_getElem? (i := 13) rfl)
theorem kco_X0_fill : Cond.code yX0_fill cX0_fill 8 none ∈ qw_big := qm_5 _ (List.mem_of_getElem? (i := 14) rfl)
theorem kl_X0_16 : Cond.fieldLink RX0 16 "RationOffice$Basket" "units" "[I" ∈ qw_big := qm_5 _ (List.mem_of_getElem? (i := 15) rfl)
theorem kml_X0_106 : Cond.methodLink RX0 106 yX0_mostWithoutLoss ∈ qw_big := qm_5 _ (List.mem_of_getElem? (i := 16) rfl)
theorem kin_X0_mostWithoutLoss : Cond.instanceMethod yX0_mostWithoutLoss ∈ qw_big := qm_5 _ (List.mem_of_getElem? (i := 17) rfl)
theorem kse_X0_mostWithoutLoss : Cond.selects RX0 yX0_mostWithoutLoss yX0_mostWithoutLoss ∈ qw_big := qm_5 _ (List.mem_of_getElem? (i := 18) rfl)
theorem kco_X0_mostWithoutLoss : Cond.code yX0_mostWithoutLoss cX0_mostWithoutLoss 7 (some .int) ∈ qw_big := qm_5 _ (List.mem_of_getElem? (i := 19) rfl)
theorem kco_L_basketLeft : Cond.codeWith yL_basketLeft cL_basketLeft 6 (some .int) [(0, 12, 15, 13)] ∈ qw_big := qm_5 _ (List.mem_of_getElem? (i := 20) rfl)
theorem kml_L_115 : Cond.methodLink RL 115 yX7_basketLeft ∈ qw_big := qm_5 _ (List.mem_of_getElem? (i := 21) rfl)
theorem kin_X7_basketLeft : Cond.instanceMethod yX7_basketLeft ∈ qw_big := qm_5 _ (List.mem_of_getElem? (i := 22) rfl)
theorem kse_X7_basketLeft : Cond.selects RX7 yX7_basketLeft yX7_basketLeft ∈ qw_big := qm_5 _ (List.mem_of_getElem? (i := 23) rfl)
theorem kco_X7_basketLeft : Cond.code yX7_basketLeft cX7_basketLeft 5 (some .int) ∈ qw_big := qm_5 _ (List.mem_of_getElem? (i := 24) rfl)
theorem kco_L_basketUnits : Cond.codeWith yL_basketUnits cL_basketUnits 6 (some .int) [(0, 12, 15, 13)] ∈ qw_big := qm_5 _ (List.mem_of_getElem? (i := 25) rfl)
theorem kml_L_100 : Cond.methodLink RL 100 yX7_basketUnits ∈ qw_big := qm_5 _ (List.mem_of_getElem? (i := 26) rfl)
theorem kin_X7_basketUnits : Cond.instanceMethod yX7_basketUnits ∈ qw_big := qm_5 _ (List.mem_of_getElem? (i := 27) rfl)
theorem kse_X7_basketUnits : Cond.selects RX7 yX7_basketUnits yX7_basketUnits ∈ qw_big := qm_5 _ (List.mem_of_getElem? (i := 28) rfl)
theorem kco_X7_basketUnits : Cond.code yX7_basketUnits cX7_basketUnits 5 (some .int) ∈ qw_big := qm_5 _ (List.mem_of_getElem? (i := 29) rfl)
theorem kl_X7_276 : Cond.fieldLink RX7 276 "RationOffice$Basket" "units" "[I" ∈ qw_big := qm_6 _ (List.mem_of_getElem? (i := 0) rfl)
theorem kml_X7_138 : Cond.methodLink RX7 138 yX7_isGood ∈ qw_big := qm_6 _ (List.mem_of_getElem? (i := 1) rfl)
theorem kin_X7_isGood : Cond.instanceMethod yX7_isGood ∈ qw_big := qm_6 _ (List.mem_of_getElem? (i := 2) rfl)
theorem kse_X7_isGood : Cond.selects RX7 yX7_isGood yX7_isGood ∈ qw_big := qm_6 _ (List.mem_of_getElem? (i := 3) rfl)
theorem kco_X7_isGood : Cond.code yX7_isGood cX7_isGood 2 (some .boolean) ∈ qw_big := qm_6 _ (List.mem_of_getElem? (i := 4) rfl)
theorem kl_X7_84 : Cond.fieldLink RX7 84 "RationOffice$Plan" "goods" "I" ∈ qw_big := qm_6 _ (List.mem_of_getElem? (i := 5) rfl)
theorem kco_L_basketValue : Cond.codeWith yL_basketValue cL_basketValue 5 (some .int) [(0, 10, 13, 13)] ∈ qw_big := qm_6 _ (List.mem_of_getElem? (i := 6) rfl)
theorem kml_L_97 : Cond.methodLink RL 97 yX7_basketValue ∈ qw_big := qm_6 _ (List.mem_of_getElem? (i := 7) rfl)
theorem kin_X7_basketValue : Cond.instanceMethod yX7_basketValue ∈ qw_big := qm_6 _ (List.mem_of_getElem? (i := 8) rfl)
theorem kse_X7_basketValue : Cond.selects RX7 yX7_basketValue yX7_basketValue ∈ qw_big := qm_6 _ (List.mem_of_getElem? (i := 9) rfl)
theorem kco_X7_basketValue : Cond.code yX7_basketValue cX7_basketValue 4 (some .int) ∈ qw_big := qm_6 _ (List.mem_of_getElem? (i := 10) rfl)
theorem kl_X7_274 : Cond.fieldLink RX7 274 "RationOffice$Basket" "value" "I" ∈ qw_big := qm_6 _ (List.mem_of_getElem? (i := 11) rfl)
theorem kco_L_bestHouse : Cond.codeWith yL_bestHouse cL_bestHouse 5 (some .int) [(0, 10, 13, 13)] ∈ qw_big := qm_6 _ (List.mem_of_getElem? (i := 12) rfl)
theorem kml_L_109 : Cond.methodLink RL 109 yX7_bestHouse ∈ qw_big := qm_6 _ (List.mem_of_getElem? (i := 13) rfl)
theorem kin_X7_bestHouse : Cond.instanceMethod yX7_bestHouse ∈ qw_big := qm_6 _ (List.mem_of_getElem? (i := 14) rfl)
theorem kse_X7_bestHouse : Cond.selects RX7 yX7_bestHouse yX7_bestHouse ∈ qw_big := qm_6 _ (List.mem_of_getElem? (i := 15) rfl)
theorem kco_X7_bestHouse : Cond.code yX7_bestHouse cX7_bestHouse 7 (some .int) ∈ qw_big := qm_6 _ (List.mem_of_getElem? (i := 16) rfl)
theorem kml_X7_262 : Cond.methodLink RX7 262 yX7_mostToBuy ∈ qw_big := qm_6 _ (List.mem_of_getElem? (i := 17) rfl)
theorem kin_X7_mostToBuy : Cond.instanceMethod yX7_mostToBuy ∈ qw_big := qm_6 _ (List.mem_of_getElem? (i := 18) rfl)
theorem kse_X7_mostToBuy : Cond.selects RX7 yX7_mostToBuy yX7_mostToBuy ∈ qw_big := qm_6 _ (List.mem_of_getElem? (i := 19) rfl)
theorem kco_X7_mostToBuy : Cond.code yX7_mostToBuy cX7_mostToBuy 8 (some .int) ∈ qw_big := qm_6 _ (List.mem_of_getElem? (i := 20) rfl)
theorem kl_X7_141 : Cond.fieldLink RX7 141 "RationOffice$Plan" "groupOf" "[I" ∈ qw_big := qm_6 _ (List.mem_of_getElem? (i := 21) rfl)
theorem kl_X7_132 : Cond.fieldLink RX7 132 "RationOffice$Plan" "substitute" "[I" ∈ qw_big := qm_6 _ (List.mem_of_getElem? (i := 22) rfl)
theorem kl_X7_135 : Cond.fieldLink RX7 135 "RationOffice$Plan" "factor" "[I" ∈ qw_big := qm_6 _ (List.mem_of_getElem? (i := 23) rfl)
theorem kl_X7_144 : Cond.fieldLink RX7 144 "RationOffice$Plan" "rate" "[I" ∈ qw_big := qm_6 _ (List.mem_of_getElem? (i := 24) rfl)
theorem kl_X7_216 : Cond.fieldLink RX7 216 "RationOffice$State" "stock" "[I" ∈ qw_big := qm_6 _ (List.mem_of_getElem? (i := 25) rfl)
theorem kml_X7_201 : Cond.methodLink RX7 201 Lib.Math.min.name ∈ qw_big := qm_6 _ (List.mem_of_getElem? (i := 26) rfl)
theorem kml_X7_265 : Cond.methodLink RX7 265 yX7_quotient ∈ qw_big := qm_6 _ (List.mem_of_getElem? (i := 27) rfl)
theorem kml_X7_219 : Cond.methodLink RX7 219 yX5_shelf ∈ qw_big := qm_6 _ (List.mem_of_getElem? (i := 28) rfl)
theorem kco_L_bestShop : Cond.codeWith yL_bestShop cL_bestShop 4 (some .int) [(0, 9, 12, 13)] ∈ qw_big := qm_6 _ (List.mem_of_getElem? (i := 29) rfl)
theorem kml_L_106 : Cond.methodLink RL 106 yX7_bestShop ∈ qw_big := qm_7 _ (List.mem_of_getElem? (i := 0) rfl)
theorem kin_X7_bestShop : Cond.instanceMethod yX7_bestShop ∈ qw_big := qm_7 _ (List.mem_of_getElem? (i := 1) rfl)
theorem kse_X7_bestShop : Cond.selects RX7 yX7_bestShop yX7_bestShop ∈ qw_big := qm_7 _ (List.mem_of_getElem? (i := 2) rfl)
theorem kco_X7_bestShop : Cond.code yX7_bestShop cX7_bestShop 6 (some .int) ∈ qw_big := qm_7 _ (List.mem_of_getElem? (i := 3) rfl)
theorem kco_L_coupons : Cond.codeWith yL_coupons cL_coupons 5 (some .int) [(0, 10, 13, 13)] ∈ qw_big := qm_7 _ (List.mem_of_getElem? (i := 4) rfl)
theorem kml_L_22 : Cond.methodLink RL 22 yX7_coupons ∈ qw_big := qm_7 _ (List.mem_of_getElem? (i := 5) rfl)
theorem kin_X7_coupons : Cond.instanceMethod yX7_coupons ∈ qw_big := qm_7 _ (List.mem_of_getElem? (i := 6) rfl)
theorem kse_X7_coupons : Cond.selects RX7 yX7_coupons yX7_coupons ∈ qw_big := qm_7 _ (List.mem_of_getElem? (i := 7) rfl)
theorem kco_X7_coupons : Cond.code yX7_coupons cX7_coupons 3 (some .int) ∈ qw_big := qm_7 _ (List.mem_of_getElem? (i := 8) rfl)
theorem kco_L_couponsAfter : Cond.codeWith yL_couponsAfter cL_couponsAfter 6 (some .int) [(0, 12, 15, 13)] ∈ qw_big := qm_7 _ (List.mem_of_getElem? (i := 9) rfl)
theorem kml_L_32 : Cond.methodLink RL 32 yX7_couponsAfter ∈ qw_big := qm_7 _ (List.mem_of_getElem? (i := 10) rfl)
theorem kin_X7_couponsAfter : Cond.instanceMethod yX7_couponsAfter ∈ qw_big := qm_7 _ (List.mem_of_getElem? (i := 11) rfl)
theorem kse_X7_couponsAfter : Cond.selects RX7 yX7_couponsAfter yX7_couponsAfter ∈ qw_big := qm_7 _ (List.mem_of_getElem? (i := 12) rfl)
theorem kco_X7_couponsAfter : Cond.code yX7_couponsAfter cX7_couponsAfter 5 (some .int) ∈ qw_big := qm_7 _ (List.mem_of_getElem? (i := 13) rfl)
theorem kl_X7_34 : Cond.fieldLink RX7 34 "RationOffice" "ahead" "[I" ∈ qw_big := qm_7 _ (List.mem_of_getElem? (i := 14) rfl)
theorem kml_X7_172 : Cond.methodLink RX7 172 yX7_startAhead ∈ qw_big := qm_7 _ (List.mem_of_getElem? (i := 15) rfl)
theorem kin_X7_startAhead : Cond.instanceMethod yX7_startAhead ∈ qw_big := qm_7 _ (List.mem_of_getElem? (i := 16) rfl)
theorem kse_X7_startAhead : Cond.selects RX7 yX7_startAhead yX7_startAhead ∈ qw_big := qm_7 _ (List.mem_of_getElem? (i := 17) rfl)
theorem kco_X7_startAhead : Cond.code yX7_startAhead cX7_startAhead 3 none ∈ qw_big := qm_7 _ (List.mem_of_getElem? (i := 18) rfl)
theorem kml_X7_345 : Cond.methodLink RX7 345 arraycopyName ∈ qw_big := qm_7 _ (List.mem_of_getElem? (i := 19) rfl)
theorem kml_X7_176 : Cond.methodLink RX7 176 yX7_stepAhead ∈ qw_big := qm_7 _ (List.mem_of_getElem? (i := 20) rfl)
theorem kin_X7_stepAhead : Cond.instanceMethod yX7_stepAhead ∈ qw_big := qm_7 _ (List.mem_of_getElem? (i := 21) rfl)
theorem kse_X7_stepAhead : Cond.selects RX7 yX7_stepAhead yX7_stepAhead ∈ qw_big := qm_7 _ (List.mem_of_getElem? (i := 22) rfl)
theorem kco_X7_stepAhead : Cond.code yX7_stepAhead cX7_stepAhead 4 (some .int) ∈ qw_big := qm_7 _ (List.mem_of_getElem? (i := 23) rfl)
theorem kl_X7_129 : Cond.fieldLink RX7 129 "RationOffice$Plan" "carry" "[I" ∈ qw_big := qm_7 _ (List.mem_of_getElem? (i := 24) rfl)
theorem kl_X7_126 : Cond.fieldLink RX7 126 "RationOffice$Plan" "life" "[I" ∈ qw_big := qm_7 _ (List.mem_of_getElem? (i := 25) rfl)
theorem kml_X7_326 : Cond.methodLink RX7 326 yX4_growOlder ∈ qw_big := qm_7 _ (List.mem_of_getElem? (i := 26) rfl)
theorem kst_X4_growOlder : Cond.static yX4_growOlder ∈ qw_big := qm_7 _ (List.mem_of_getElem? (i := 27) rfl)
theorem kco_X4_growOlder : Cond.code yX4_growOlder cX4_growOlder 6 (some .int) ∈ qw_big := qm_7 _ (List.mem_of_getElem? (i := 28) rfl)
theorem kml_X7_329 : Cond.methodLink RX7 329 yX7_shareOf ∈ qw_big := qm_7 _ (List.mem_of_getElem? (i := 29) rfl)
theorem kin_X7_shareOf : Cond.instanceMethod yX7_shareOf ∈ qw_big := qm_8 _ (List.mem_of_getElem? (i := 0) rfl)
theorem kse_X7_shareOf : Cond.selects RX7 yX7_shareOf yX7_shareOf ∈ qw_big := qm_8 _ (List.mem_of_getElem? (i := 1) rfl)
theorem kco_X7_shareOf : Cond.code yX7_shareOf cX7_shareOf 3 (some .int) ∈ qw_big := qm_8 _ (List.mem_of_getElem? (i := 2) rfl)
theorem kl_X7_153 : Cond.fieldLink RX7 153 "RationOffice$State" "size" "[I" ∈ qw_big := qm_8 _ (List.mem_of_getElem? (i := 3) rfl)
theorem kl_X7_123 : Cond.fieldLink RX7 123 "RationOffice$State" "ration" "[I" ∈ qw_big := qm_8 _ (List.mem_of_getElem? (i := 4) rfl)
theorem kco_L_couponsWith : Cond.codeWith yL_couponsWith cL_couponsWith 6 (some .int) [(0, 12, 15, 13)] ∈ qw_big := qm_8 _ (List.mem_of_getElem? (i := 5) rfl)
theorem kml_L_25 : Cond.methodLink RL 25 yX7_couponsWith ∈ qw_big := qm_8 _ (List.mem_of_getElem? (i := 6) rfl)
theorem kin_X7_couponsWith : Cond.instanceMethod yX7_couponsWith ∈ qw_big := qm_8 _ (List.mem_of_getElem? (i := 7) rfl)
theorem kse_X7_couponsWith : Cond.selects RX7 yX7_couponsWith yX7_couponsWith ∈ qw_big := qm_8 _ (List.mem_of_getElem? (i := 8) rfl)
theorem kco_X7_couponsWith : Cond.code yX7_couponsWith cX7_couponsWith 4 (some .int) ∈ qw_big := qm_8 _ (List.mem_of_getElem? (i := 9) rfl)
theorem kco_L_deliveredTo : Cond.codeWith yL_deliveredTo cL_deliveredTo 5 (some .int) [(0, 10, 13, 13)] ∈ qw_big := qm_8 _ (List.mem_of_getElem? (i := 10) rfl)
theorem kml_L_66 : Cond.methodLink RL 66 yX7_deliveredTo ∈ qw_big := qm_8 _ (List.mem_of_getElem? (i := 11) rfl)
theorem kin_X7_deliveredTo : Cond.instanceMethod yX7_deliveredTo ∈ qw_big := qm_8 _ (List.mem_of_getElem? (i := 12) rfl)
theorem kse_X7_deliveredTo : Cond.selects RX7 yX7_deliveredTo yX7_deliveredTo ∈ qw_big := qm_8 _ (List.mem_of_getElem? (i := 13) rfl)
theorem kco_X7_deliveredTo : Cond.code yX7_deliveredTo cX7_deliveredTo 3 (some .int) ∈ qw_big := qm_8 _ (List.mem_of_getElem? (i := 14) rfl)
theorem kl_X7_237 : Cond.fieldLink RX7 237 "RationOffice$State" "delivered" "[I" ∈ qw_big := qm_8 _ (List.mem_of_getElem? (i := 15) rfl)
theorem kco_L_givenBy : Cond.codeWith yL_givenBy cL_givenBy 4 (some .int) [(0, 9, 12, 13)] ∈ qw_big := qm_8 _ (List.mem_of_getElem? (i := 16) rfl)
theorem kml_L_38 : Cond.methodLink RL 38 yX7_givenBy ∈ qw_big := qm_8 _ (List.mem_of_getElem? (i := 17) rfl)
theorem kin_X7_givenBy : Cond.instanceMethod yX7_givenBy ∈ qw_big := qm_8 _ (List.mem_of_getElem? (i := 18) rfl)
theorem kse_X7_givenBy : Cond.selects RX7 yX7_givenBy yX7_givenBy ∈ qw_big := qm_8 _ (List.mem_of_getElem? (i := 19) rfl)
theorem kco_X7_givenBy : Cond.code yX7_givenBy cX7_givenBy 2 (some .int) ∈ qw_big := qm_8 _ (List.mem_of_getElem? (i := 20) rfl)
theorem kl_X7_188 : Cond.fieldLink RX7 188 "RationOffice$State" "given" "[I" ∈ qw_big := qm_8 _ (List.mem_of_getElem? (i := 21) rfl)
theorem kco_L_goodProperty : Cond.codeWith yL_goodProperty cL_goodProperty 5 (some .int) [(0, 10, 13, 13)] ∈ qw_big := qm_8 _ (List.mem_of_getElem? (i := 22) rfl)
theorem kml_L_15 : Cond.methodLink RL 15 yX7_goodProperty ∈ qw_big := qm_8 _ (List.mem_of_getElem? (i := 23) rfl)
theorem kin_X7_goodProperty : Cond.instanceMethod yX7_goodProperty ∈ qw_big := qm_8 _ (List.mem_of_getElem? (i := 24) rfl)
theorem kse_X7_goodProperty : Cond.selects RX7 yX7_goodProperty yX7_goodProperty ∈ qw_big := qm_8 _ (List.mem_of_getElem? (i := 25) rfl)
theorem kco_X7_goodProperty : Cond.code yX7_goodProperty cX7_goodProperty 3 (some .int) ∈ qw_big := qm_8 _ (List.mem_of_getElem? (i := 26) rfl)
theorem kl_X7_147 : Cond.fieldLink RX7 147 "RationOffice$Plan" "value" "[I" ∈ qw_big := qm_8 _ (List.mem_of_getElem? (i := 27) rfl)
theorem kco_L_groupProperty : Cond.codeWith yL_groupProperty cL_groupProperty 5 (some .int) [(0, 10, 13, 13)] ∈ qw_big := qm_8 _ (List.mem_of_getElem? (i := 28) rfl)
theorem kml_L_7 : Cond.methodLink RL 7 yX7_groupProperty ∈ qw_big := qm_8 _ (List.mem_of_getElem? (i := 29) rfl)
theorem kin_X7_groupProperty : Cond.instanceMethod yX7_groupProperty ∈ qw_big := qm_9 _ (List.mem_of_getElem? (i := 0) rfl)
theorem kse_X7_groupProperty : Cond.selects RX7 yX7_groupProperty yX7_groupProperty ∈ qw_big := qm_9 _ (List.mem_of_getElem? (i := 1) rfl)
theorem kco_X7_groupProperty : Cond.code yX7_groupProperty cX7_groupProperty 3 (some .int) ∈ qw_big := qm_9 _ (List.mem_of_getElem? (i := 2) rfl)
theorem kco_L_held : Cond.codeWith yL_held cL_held 4 (some .int) [(0, 9, 12, 13)] ∈ qw_big := qm_9 _ (List.mem_of_getElem? (i := 3) rfl)
theorem kml_L_81 : Cond.methodLink RL 81 yX7_held ∈ qw_big := qm_9 _ (List.mem_of_getElem? (i := 4) rfl)
theorem kin_X7_held : Cond.instanceMethod yX7_held ∈ qw_big := qm_9 _ (List.mem_of_getElem? (i := 5) rfl)
theorem kse_X7_held : Cond.selects RX7 yX7_held yX7_held ∈ qw_big := qm_9 _ (List.mem_of_getElem? (i := 6) rfl)
theorem kco_X7_held : Cond.code yX7_held cX7_held 2 (some .int) ∈ qw_big := qm_9 _ (List.mem_of_getElem? (i := 7) rfl)
theorem kml_X7_249 : Cond.methodLink RX7 249 yX7_heldByAll ∈ qw_big := qm_9 _ (List.mem_of_getElem? (i := 8) rfl)
theorem kin_X7_heldByAll : Cond.instanceMethod yX7_heldByAll ∈ qw_big := qm_9 _ (List.mem_of_getElem? (i := 9) rfl)
theorem kse_X7_heldByAll : Cond.selects RX7 yX7_heldByAll yX7_heldByAll ∈ qw_big := qm_9 _ (List.mem_of_getElem? (i := 10) rfl)
theorem kco_X7_heldByAll : Cond.code yX7_heldByAll cX7_heldByAll 4 (some .int) ∈ qw_big := qm_9 _ (List.mem_of_getElem? (i := 11) rfl)
theorem kco_L_helpers : Cond.codeWith yL_helpers cL_helpers 6 (some .int) [(0, 12, 15, 13)] ∈ qw_big := qm_9 _ (List.mem_of_getElem? (i := 12) rfl)
theorem kml_L_47 : Cond.methodLink RL 47 yX7_helpers ∈ qw_big := qm_9 _ (List.mem_of_getElem? (i := 13) rfl)
theorem kin_X7_helpers : Cond.instanceMethod yX7_helpers ∈ qw_big := qm_9 _ (List.mem_of_getElem? (i := 14) rfl)
theorem kse_X7_helpers : Cond.selects RX7 yX7_helpers yX7_helpers ∈ qw_big := qm_9 _ (List.mem_of_getElem? (i := 15) rfl)
theorem kco_X7_helpers : Cond.code yX7_helpers cX7_helpers 5 (some .int) ∈ qw_big := qm_9 _ (List.mem_of_getElem? (i := 16) rfl)
theorem kml_X7_197 : Cond.methodLink RX7 197 yX7_takeRoom ∈ qw_big := qm_9 _ (List.mem_of_getElem? (i := 17) rfl)
theorem kin_X7_takeRoom : Cond.instanceMethod yX7_takeRoom ∈ qw_big := qm_9 _ (List.mem_of_getElem? (i := 18) rfl)
theorem kse_X7_takeRoom : Cond.selects RX7 yX7_takeRoom yX7_takeRoom ∈ qw_big := qm_9 _ (List.mem_of_getElem? (i := 19) rfl)
theorem kco_X7_takeRoom : Cond.code yX7_takeRoom cX7_takeRoom 2 (some .int) ∈ qw_big := qm_9 _ (List.mem_of_getElem? (i := 20) rfl)
theorem kl_X7_191 : Cond.fieldLink RX7 191 "RationOffice$State" "taken" "[I" ∈ qw_big := qm_9 _ (List.mem_of_getElem? (i := 21) rfl)
theorem kml_X7_290 : Cond.methodLink RX7 290 Lib.Math.max.name ∈ qw_big := qm_9 _ (List.mem_of_getElem? (i := 22) rfl)
theorem kml_X7_206 : Cond.methodLink RX7 206 yX7_fewestGivers ∈ qw_big := qm_9 _ (List.mem_of_getElem? (i := 23) rfl)
theorem kin_X7_fewestGivers : Cond.instanceMethod yX7_fewestGivers ∈ qw_big := qm_9 _ (List.mem_of_getElem? (i := 24) rfl)
theorem kse_X7_fewestGivers : Cond.selects RX7 yX7_fewestGivers yX7_fewestGivers ∈ qw_big := qm_9 _ (List.mem_of_getElem? (i := 25) rfl)
theorem kco_X7_fewestGivers : Cond.code yX7_fewestGivers cX7_fewestGivers 8 (some .int) ∈ qw_big := qm_9 _ (List.mem_of_getElem? (i := 26) rfl)
theorem kml_X7_210 : Cond.methodLink RX7 210 yX7_bestGiver ∈ qw_big := qm_9 _ (List.mem_of_getElem? (i := 27) rfl)
theorem kin_X7_bestGiver : Cond.instanceMethod yX7_bestGiver ∈ qw_big := qm_9 _ (List.mem_of_getElem? (i := 28) rfl)
theorem kse_X7_bestGiver : Cond.selects RX7 yX7_bestGiver yX7_bestGiver ∈ qw_big := qm_9 _ (List.mem_of_getElem? (i := 29) rfl)
theorem kco_X7_bestGiver : Cond.code yX7_bestGiver cX7_bestGiver 6 (some .int) ∈ qw_big := qm_10 _ (List.mem_of_getElem? (i := 0) rfl)
theorem kml_X7_194 : Cond.methodLink RX7 194 yX7_mostToGive ∈ qw_big := qm_10 _ (List.mem_of_getElem? (i := 1) rfl)
theorem kin_X7_mostToGive : Cond.instanceMethod yX7_mostToGive ∈ qw_big := qm_10 _ (List.mem_of_getElem? (i := 2) rfl)
theorem kse_X7_mostToGive : Cond.selects RX7 yX7_mostToGive yX7_mostToGive ∈ qw_big := qm_10 _ (List.mem_of_getElem? (i := 3) rfl)
theorem kco_X7_mostToGive : Cond.code yX7_mostToGive cX7_mostToGive 3 (some .int) ∈ qw_big := qm_10 _ (List.mem_of_getElem? (i := 4) rfl)
theorem kml_X7_307 : Cond.methodLink RX7 307 yX7_giveRoom ∈ qw_big := qm_10 _ (List.mem_of_getElem? (i := 5) rfl)
theorem kin_X7_giveRoom : Cond.instanceMethod yX7_giveRoom ∈ qw_big := qm_10 _ (List.mem_of_getElem? (i := 6) rfl)
theorem kse_X7_giveRoom : Cond.selects RX7 yX7_giveRoom yX7_giveRoom ∈ qw_big := qm_10 _ (List.mem_of_getElem? (i := 7) rfl)
theorem kco_X7_giveRoom : Cond.code yX7_giveRoom cX7_giveRoom 2 (some .int) ∈ qw_big := qm_10 _ (List.mem_of_getElem? (i := 8) rfl)
theorem kco_L_isSuspended : Cond.codeWith yL_isSuspended cL_isSuspended 4 (some .int) [(0, 16, 19, 13)] ∈ qw_big := qm_10 _ (List.mem_of_getElem? (i := 9) rfl)
theorem kml_L_59 : Cond.methodLink RL 59 yX7_isSuspended ∈ qw_big := qm_10 _ (List.mem_of_getElem? (i := 10) rfl)
theorem kin_X7_isSuspended : Cond.instanceMethod yX7_isSuspended ∈ qw_big := qm_10 _ (List.mem_of_getElem? (i := 11) rfl)
theorem kse_X7_isSuspended : Cond.selects RX7 yX7_isSuspended yX7_isSuspended ∈ qw_big := qm_10 _ (List.mem_of_getElem? (i := 12) rfl)
theorem kco_X7_isSuspended : Cond.code yX7_isSuspended cX7_isSuspended 2 (some .boolean) ∈ qw_big := qm_10 _ (List.mem_of_getElem? (i := 13) rfl)
theorem kco_L_issued : Cond.codeWith yL_issued cL_issued 4 (some .int) [(0, 9, 12, 13)] ∈ qw_big := qm_10 _ (List.mem_of_getElem? (i := 14) rfl)
theorem kml_L_72 : Cond.methodLink RL 72 yX7_issued ∈ qw_big := qm_10 _ (List.mem_of_getElem? (i := 15) rfl)
theorem kin_X7_issued : Cond.instanceMethod yX7_issued ∈ qw_big := qm_10 _ (List.mem_of_getElem? (i := 16) rfl)
theorem kse_X7_issued : Cond.selects RX7 yX7_issued yX7_issued ∈ qw_big := qm_10 _ (List.mem_of_getElem? (i := 17) rfl)
theorem kco_X7_issued : Cond.code yX7_issued cX7_issued 2 (some .int) ∈ qw_big := qm_10 _ (List.mem_of_getElem? (i := 18) rfl)
theorem kl_X7_240 : Cond.fieldLink RX7 240 "RationOffice$State" "issued" "[I" ∈ qw_big := qm_10 _ (List.mem_of_getElem? (i := 19) rfl)
theorem kco_L_lapseAfter : Cond.codeWith yL_lapseAfter cL_lapseAfter 6 (some .int) [(0, 12, 15, 13)] ∈ qw_big := qm_10 _ (List.mem_of_getElem? (i := 20) rfl)
theorem kml_L_130 : Cond.methodLink RL 130 yX7_lapseAfter ∈ qw_big := qm_10 _ (List.mem_of_getElem? (i := 21) rfl)
theorem kin_X7_lapseAfter : Cond.instanceMethod yX7_lapseAfter ∈ qw_big := qm_10 _ (List.mem_of_getElem? (i := 22) rfl)
theorem kse_X7_lapseAfter : Cond.selects RX7 yX7_lapseAfter yX7_lapseAfter ∈ qw_big := qm_10 _ (List.mem_of_getElem? (i := 23) rfl)
theorem kco_X7_lapseAfter : Cond.code yX7_lapseAfter cX7_lapseAfter 6 (some .int) ∈ qw_big := qm_10 _ (List.mem_of_getElem? (i := 24) rfl)
theorem kco_L_lapsed : Cond.codeWith yL_lapsed cL_lapsed 4 (some .int) [(0, 9, 12, 13)] ∈ qw_big := qm_10 _ (List.mem_of_getElem? (i := 25) rfl)
theorem kml_L_78 : Cond.methodLink RL 78 yX7_lapsed ∈ qw_big := qm_10 _ (List.mem_of_getElem? (i := 26) rfl)
theorem kin_X7_lapsed : Cond.instanceMethod yX7_lapsed ∈ qw_big := qm_10 _ (List.mem_of_getElem? (i := 27) rfl)
theorem kse_X7_lapsed : Cond.selects RX7 yX7_lapsed yX7_lapsed ∈ qw_big := qm_10 _ (List.mem_of_getElem? (i := 28) rfl)
theorem kco_X7_lapsed : Cond.code yX7_lapsed cX7_lapsed 2 (some .int) ∈ qw_big := qm_10 _ (List.mem_of_getElem? (i := 29) rfl)
theorem kl_X7_246 : Cond.fieldLink RX7 246 "RationOffice$State" "lapsed" "[I" ∈ qw_big := qm_11 _ (List.mem_of_getElem? (i := 0) rfl)
theorem kco_L_lapsing : Cond.codeWith yL_lapsing cL_lapsing 5 (some .int) [(0, 10, 13, 13)] ∈ qw_big := qm_11 _ (List.mem_of_getElem? (i := 1) rfl)
theorem kml_L_29 : Cond.methodLink RL 29 yX7_lapsing ∈ qw_big := qm_11 _ (List.mem_of_getElem? (i := 2) rfl)
theorem kin_X7_lapsing : Cond.instanceMethod yX7_lapsing ∈ qw_big := qm_11 _ (List.mem_of_getElem? (i := 3) rfl)
theorem kse_X7_lapsing : Cond.selects RX7 yX7_lapsing yX7_lapsing ∈ qw_big := qm_11 _ (List.mem_of_getElem? (i := 4) rfl)
theorem kco_X7_lapsing : Cond.code yX7_lapsing cX7_lapsing 3 (some .int) ∈ qw_big := qm_11 _ (List.mem_of_getElem? (i := 5) rfl)
theorem kco_L_levelMoves : Cond.codeWith yL_levelMoves cL_levelMoves 5 (some .int) [(0, 10, 13, 13)] ∈ qw_big := qm_11 _ (List.mem_of_getElem? (i := 6) rfl)
theorem kml_L_127 : Cond.methodLink RL 127 yX7_levelMoves ∈ qw_big := qm_11 _ (List.mem_of_getElem? (i := 7) rfl)
theorem kin_X7_levelMoves : Cond.instanceMethod yX7_levelMoves ∈ qw_big := qm_11 _ (List.mem_of_getElem? (i := 8) rfl)
theorem kse_X7_levelMoves : Cond.selects RX7 yX7_levelMoves yX7_levelMoves ∈ qw_big := qm_11 _ (List.mem_of_getElem? (i := 9) rfl)
theorem kco_X7_levelMoves : Cond.code yX7_levelMoves cX7_levelMoves 7 (some .int) ∈ qw_big := qm_11 _ (List.mem_of_getElem? (i := 10) rfl)
theorem kco_L_mostDeliverable : Cond.codeWith yL_mostDeliverable cL_mostDeliverable 5 (some .int) [(0, 10, 13, 13)] ∈ qw_big := qm_11 _ (List.mem_of_getElem? (i := 11) rfl)
theorem kml_L_121 : Cond.methodLink RL 121 yX7_mostDeliverable ∈ qw_big := qm_11 _ (List.mem_of_getElem? (i := 12) rfl)
theorem kin_X7_mostDeliverable : Cond.instanceMethod yX7_mostDeliverable ∈ qw_big := qm_11 _ (List.mem_of_getElem? (i := 13) rfl)
theorem kse_X7_mostDeliverable : Cond.selects RX7 yX7_mostDeliverable yX7_mostDeliverable ∈ qw_big := qm_11 _ (List.mem_of_getElem? (i := 14) rfl)
theorem kco_X7_mostDeliverable : Cond.code yX7_mostDeliverable cX7_mostDeliverable 5 (some .int) ∈ qw_big := qm_11 _ (List.mem_of_getElem? (i := 15) rfl)
theorem kct_X7_286 : Cond.constant RX7 286 (99999) ∈ qw_big := qm_11 _ (List.mem_of_getElem? (i := 16) rfl)
theorem kco_L_mostUnits : Cond.codeWith yL_mostUnits cL_mostUnits 6 (some .int) [(0, 12, 15, 13)] ∈ qw_big := qm_11 _ (List.mem_of_getElem? (i := 17) rfl)
theorem kml_L_88 : Cond.methodLink RL 88 yX7_mostUnits ∈ qw_big := qm_11 _ (List.mem_of_getElem? (i := 18) rfl)
theorem kin_X7_mostUnits : Cond.instanceMethod yX7_mostUnits ∈ qw_big := qm_11 _ (List.mem_of_getElem? (i := 19) rfl)
theorem kse_X7_mostUnits : Cond.selects RX7 yX7_mostUnits yX7_mostUnits ∈ qw_big := qm_11 _ (List.mem_of_getElem? (i := 20) rfl)
theorem kco_X7_mostUnits : Cond.code yX7_mostUnits cX7_mostUnits 4 (some .int) ∈ qw_big := qm_11 _ (List.mem_of_getElem? (i := 21) rfl)
theorem kco_L_neediest : Cond.codeWith yL_neediest cL_neediest 4 (some .int) [(0, 9, 12, 13)] ∈ qw_big := qm_11 _ (List.mem_of_getElem? (i := 22) rfl)
theorem kml_L_35 : Cond.methodLink RL 35 yX7_neediest ∈ qw_big := qm_11 _ (List.mem_of_getElem? (i := 23) rfl)
theorem kin_X7_neediest : Cond.instanceMethod yX7_neediest ∈ qw_big := qm_11 _ (List.mem_of_getElem? (i := 24) rfl)
theorem kse_X7_neediest : Cond.selects RX7 yX7_neediest yX7_neediest ∈ qw_big := qm_11 _ (List.mem_of_getElem? (i := 25) rfl)
theorem kco_X7_neediest : Cond.code yX7_neediest cX7_neediest 4 (some .int) ∈ qw_big := qm_11 _ (List.mem_of_getElem? (i := 26) rfl)
theorem kml_X7_184 : Cond.methodLink RX7 184 yX7_isNeedier ∈ qw_big := qm_11 _ (List.mem_of_getElem? (i := 27) rfl)
theorem kin_X7_isNeedier : Cond.instanceMethod yX7_isNeedier ∈ qw_big := qm_11 _ (List.mem_of_getElem? (i := 28) rfl)
theorem kse_X7_isNeedier : Cond.selects RX7 yX7_isNeedier yX7_isNeedier ∈ qw_big := qm_11 _ (List.mem_of_getElem? (i := 29) rfl)
theorem kco_X7_isNeedier : Cond.code yX7_isNeedier cX7_isNeedier 4 (some .boolean) ∈ qw_big := qm_12 _ (List.mem_of_getElem? (i := 0) rfl)
theorem kco_L_penaltyOf : Cond.codeWith yL_penaltyOf cL_penaltyOf 4 (some .int) [(0, 9, 12, 13)] ∈ qw_big := qm_12 _ (List.mem_of_getElem? (i := 1) rfl)
theorem kml_L_56 : Cond.methodLink RL 56 yX7_penaltyOf ∈ qw_big := qm_12 _ (List.mem_of_getElem? (i := 2) rfl)
theorem kin_X7_penaltyOf : Cond.instanceMethod yX7_penaltyOf ∈ qw_big := qm_12 _ (List.mem_of_getElem? (i := 3) rfl)
theorem kse_X7_penaltyOf : Cond.selects RX7 yX7_penaltyOf yX7_penaltyOf ∈ qw_big := qm_12 _ (List.mem_of_getElem? (i := 4) rfl)
theorem kco_X7_penaltyOf : Cond.code yX7_penaltyOf cX7_penaltyOf 2 (some .int) ∈ qw_big := qm_12 _ (List.mem_of_getElem? (i := 5) rfl)
theorem kco_L_reasonFor : Cond.codeWith yL_reasonFor cL_reasonFor 7 (some .int) [(0, 14, 17, 13)] ∈ qw_big := qm_12 _ (List.mem_of_getElem? (i := 6) rfl)
theorem kml_L_84 : Cond.methodLink RL 84 yX7_reasonFor ∈ qw_big := qm_12 _ (List.mem_of_getElem? (i := 7) rfl)
theorem kin_X7_reasonFor : Cond.instanceMethod yX7_reasonFor ∈ qw_big := qm_12 _ (List.mem_of_getElem? (i := 8) rfl)
theorem kse_X7_reasonFor : Cond.selects RX7 yX7_reasonFor yX7_reasonFor ∈ qw_big := qm_12 _ (List.mem_of_getElem? (i := 9) rfl)
theorem kco_X7_reasonFor : Cond.code yX7_reasonFor cX7_reasonFor 5 (some .int) ∈ qw_big := qm_12 _ (List.mem_of_getElem? (i := 10) rfl)
theorem kml_X7_252 : Cond.methodLink RX7 252 yX7_areUnits ∈ qw_big := qm_12 _ (List.mem_of_getElem? (i := 11) rfl)
theorem kst_X7_areUnits : Cond.static yX7_areUnits ∈ qw_big := qm_12 _ (List.mem_of_getElem? (i := 12) rfl)
theorem kco_X7_areUnits : Cond.code yX7_areUnits cX7_areUnits 1 (some .boolean) ∈ qw_big := qm_12 _ (List.mem_of_getElem? (i := 13) rfl)
theorem kml_X7_255 : Cond.methodLink RX7 255 yX7_reasonAgainst ∈ qw_big := qm_12 _ (List.mem_of_getElem? (i := 14) rfl)
theorem kin_X7_reasonAgainst : Cond.instanceMethod yX7_reasonAgainst ∈ qw_big := qm_12 _ (List.mem_of_getElem? (i := 15) rfl)
theorem kse_X7_reasonAgainst : Cond.selects RX7 yX7_reasonAgainst yX7_reasonAgainst ∈ qw_big := qm_12 _ (List.mem_of_getElem? (i := 16) rfl)
theorem kco_X7_reasonAgainst : Cond.code yX7_reasonAgainst cX7_reasonAgainst 5 (some .int) ∈ qw_big := qm_12 _ (List.mem_of_getElem? (i := 17) rfl)
theorem kml_X7_259 : Cond.methodLink RX7 259 yX7_canPay ∈ qw_big := qm_12 _ (List.mem_of_getElem? (i := 18) rfl)
theorem kin_X7_canPay : Cond.instanceMethod yX7_canPay ∈ qw_big := qm_12 _ (List.mem_of_getElem? (i := 19) rfl)
theorem kse_X7_canPay : Cond.selects RX7 yX7_canPay yX7_canPay ∈ qw_big := qm_12 _ (List.mem_of_getElem? (i := 20) rfl)
theorem kco_X7_canPay : Cond.code yX7_canPay cX7_canPay 6 (some .boolean) ∈ qw_big := qm_12 _ (List.mem_of_getElem? (i := 21) rfl)
theorem kml_X7_268 : Cond.methodLink RX7 268 yX7_fromSubstitute ∈ qw_big := qm_12 _ (List.mem_of_getElem? (i := 22) rfl)
theorem kin_X7_fromSubstitute : Cond.instanceMethod yX7_fromSubstitute ∈ qw_big := qm_12 _ (List.mem_of_getElem? (i := 23) rfl)
theorem kse_X7_fromSubstitute : Cond.selects RX7 yX7_fromSubstitute yX7_fromSubstitute ∈ qw_big := qm_12 _ (List.mem_of_getElem? (i := 24) rfl)
theorem kco_X7_fromSubstitute : Cond.code yX7_fromSubstitute cX7_fromSubstitute 6 (some .int) ∈ qw_big := qm_12 _ (List.mem_of_getElem? (i := 25) rfl)
theorem kco_L_served : Cond.codeWith yL_served cL_served 6 (some .int) [(0, 12, 15, 13)] ∈ qw_big := qm_12 _ (List.mem_of_getElem? (i := 26) rfl)
theorem kml_L_94 : Cond.methodLink RL 94 yX7_served ∈ qw_big := qm_12 _ (List.mem_of_getElem? (i := 27) rfl)
theorem kin_X7_served : Cond.instanceMethod yX7_served ∈ qw_big := qm_12 _ (List.mem_of_getElem? (i := 28) rfl)
theorem kse_X7_served : Cond.selects RX7 yX7_served yX7_served ∈ qw_big := qm_12 _ (List.mem_of_getElem? (i := 29) rfl)
theorem kco_X7_served : Cond.code yX7_served cX7_served 6 (some .int) ∈ qw_big := qm_13 _ (List.mem_of_getElem? (i := 0) rfl)
theorem kco_L_sizeOf : Cond.codeWith yL_sizeOf cL_sizeOf 4 (some .int) [(0, 9, 12, 13)] ∈ qw_big := qm_13 _ (List.mem_of_getElem? (i := 1) rfl)
theorem kml_L_18 : Cond.methodLink RL 18 yX7_sizeOf ∈ qw_big := qm_13 _ (List.mem_of_getElem? (i := 2) rfl)
theorem kin_X7_sizeOf : Cond.instanceMethod yX7_sizeOf ∈ qw_big := qm_13 _ (List.mem_of_getElem? (i := 3) rfl)
theorem kse_X7_sizeOf : Cond.selects RX7 yX7_sizeOf yX7_sizeOf ∈ qw_big := qm_13 _ (List.mem_of_getElem? (i := 4) rfl)
theorem kco_X7_sizeOf : Cond.code yX7_sizeOf cX7_sizeOf 2 (some .int) ∈ qw_big := qm_13 _ (List.mem_of_getElem? (i := 5) rfl)
theorem kco_L_soldBy : Cond.codeWith yL_soldBy cL_soldBy 5 (some .int) [(0, 10, 13, 13)] ∈ qw_big := qm_13 _ (List.mem_of_getElem? (i := 6) rfl)
theorem kml_L_63 : Cond.methodLink RL 63 yX7_soldBy ∈ qw_big := qm_13 _ (List.mem_of_getElem? (i := 7) rfl)
theorem kin_X7_soldBy : Cond.instanceMethod yX7_soldBy ∈ qw_big := qm_13 _ (List.mem_of_getElem? (i := 8) rfl)
theorem kse_X7_soldBy : Cond.selects RX7 yX7_soldBy yX7_soldBy ∈ qw_big := qm_13 _ (List.mem_of_getElem? (i := 9) rfl)
theorem kco_X7_soldBy : Cond.code yX7_soldBy cX7_soldBy 3 (some .int) ∈ qw_big := qm_13 _ (List.mem_of_getElem? (i := 10) rfl)
theorem kl_X7_234 : Cond.fieldLink RX7 234 "RationOffice$State" "sold" "[I" ∈ qw_big := qm_13 _ (List.mem_of_getElem? (i := 11) rfl)
theorem kco_L_spent : Cond.codeWith yL_spent cL_spent 4 (some .int) [(0, 9, 12, 13)] ∈ qw_big := qm_13 _ (List.mem_of_getElem? (i := 12) rfl)
theorem kml_L_75 : Cond.methodLink RL 75 yX7_spent ∈ qw_big := qm_13 _ (List.mem_of_getElem? (i := 13) rfl)
theorem kin_X7_spent : Cond.instanceMethod yX7_spent ∈ qw_big := qm_13 _ (List.mem_of_getElem? (i := 14) rfl)
theorem kse_X7_spent : Cond.selects RX7 yX7_spent yX7_spent ∈ qw_big := qm_13 _ (List.mem_of_getElem? (i := 15) rfl)
theorem kco_X7_spent : Cond.code yX7_spent cX7_spent 2 (some .int) ∈ qw_big := qm_13 _ (List.mem_of_getElem? (i := 16) rfl)
theorem kl_X7_243 : Cond.fieldLink RX7 243 "RationOffice$State" "spent" "[I" ∈ qw_big := qm_13 _ (List.mem_of_getElem? (i := 17) rfl)
theorem kco_L_spreadOf : Cond.codeWith yL_spreadOf cL_spreadOf 4 (some .int) [(0, 9, 12, 13)] ∈ qw_big := qm_13 _ (List.mem_of_getElem? (i := 18) rfl)
theorem kml_L_124 : Cond.methodLink RL 124 yX7_spreadOf ∈ qw_big := qm_13 _ (List.mem_of_getElem? (i := 19) rfl)
theorem kin_X7_spreadOf : Cond.instanceMethod yX7_spreadOf ∈ qw_big := qm_13 _ (List.mem_of_getElem? (i := 20) rfl)
theorem kse_X7_spreadOf : Cond.selects RX7 yX7_spreadOf yX7_spreadOf ∈ qw_big := qm_13 _ (List.mem_of_getElem? (i := 21) rfl)
theorem kco_X7_spreadOf : Cond.code yX7_spreadOf cX7_spreadOf 6 (some .int) ∈ qw_big := qm_13 _ (List.mem_of_getElem? (i := 22) rfl)
theorem kml_X7_287 : Cond.methodLink RX7 287 yX7_percentEach ∈ qw_big := qm_13 _ (List.mem_of_getElem? (i := 23) rfl)
theorem kin_X7_percentEach : Cond.instanceMethod yX7_percentEach ∈ qw_big := qm_13 _ (List.mem_of_getElem? (i := 24) rfl)
theorem kse_X7_percentEach : Cond.selects RX7 yX7_percentEach yX7_percentEach ∈ qw_big := qm_13 _ (List.mem_of_getElem? (i := 25) rfl)
theorem kco_X7_percentEach : Cond.code yX7_percentEach cX7_percentEach 3 (some .int) ∈ qw_big := qm_13 _ (List.mem_of_getElem? (i := 26) rfl)
theorem kco_L_stockOf : Cond.codeWith yL_stockOf cL_stockOf 5 (some .int) [(0, 10, 13, 13)] ∈ qw_big := qm_13 _ (List.mem_of_getElem? (i := 27) rfl)
theorem kml_L_50 : Cond.methodLink RL 50 yX7_stockOf ∈ qw_big := qm_13 _ (List.mem_of_getElem? (i := 28) rfl)
theorem kin_X7_stockOf : Cond.instanceMethod yX7_stockOf ∈ qw_big := qm_13 _ (List.mem_of_getElem? (i := 29) rfl)
theorem kse_X7_stockOf : Cond.selects RX7 yX7_stockOf yX7_stockOf ∈ qw_big := qm_14 _ (List.mem_of_getElem? (i := 0) rfl)
theorem kco_X7_stockOf : Cond.code yX7_stockOf cX7_stockOf 3 (some .int) ∈ qw_big := qm_14 _ (List.mem_of_getElem? (i := 1) rfl)
theorem kco_L_substituted : Cond.codeWith yL_substituted cL_substituted 6 (some .int) [(0, 12, 15, 13)] ∈ qw_big := qm_14 _ (List.mem_of_getElem? (i := 2) rfl)
theorem kml_L_91 : Cond.methodLink RL 91 yX7_substituted ∈ qw_big := qm_14 _ (List.mem_of_getElem? (i := 3) rfl)
theorem kin_X7_substituted : Cond.instanceMethod yX7_substituted ∈ qw_big := qm_14 _ (List.mem_of_getElem? (i := 4) rfl)
theorem kse_X7_substituted : Cond.selects RX7 yX7_substituted yX7_substituted ∈ qw_big := qm_14 _ (List.mem_of_getElem? (i := 5) rfl)
theorem kco_X7_substituted : Cond.code yX7_substituted cX7_substituted 4 (some .int) ∈ qw_big := qm_14 _ (List.mem_of_getElem? (i := 6) rfl)
theorem kco_L_supplyPeriods : Cond.codeWith yL_supplyPeriods cL_supplyPeriods 6 (some .int) [(0, 12, 15, 13)] ∈ qw_big := qm_14 _ (List.mem_of_getElem? (i := 7) rfl)
theorem kml_L_133 : Cond.methodLink RL 133 yX7_supplyPeriods ∈ qw_big := qm_14 _ (List.mem_of_getElem? (i := 8) rfl)
theorem kin_X7_supplyPeriods : Cond.instanceMethod yX7_supplyPeriods ∈ qw_big := qm_14 _ (List.mem_of_getElem? (i := 9) rfl)
theorem kse_X7_supplyPeriods : Cond.selects RX7 yX7_supplyPeriods yX7_supplyPeriods ∈ qw_big := qm_14 _ (List.mem_of_getElem? (i := 10) rfl)
theorem kco_X7_supplyPeriods : Cond.code yX7_supplyPeriods cX7_supplyPeriods 7 (some .int) ∈ qw_big := qm_14 _ (List.mem_of_getElem? (i := 11) rfl)
theorem kml_X7_293 : Cond.methodLink RX7 293 yX4_spend ∈ qw_big := qm_14 _ (List.mem_of_getElem? (i := 12) rfl)
theorem kst_X4_spend : Cond.static yX4_spend ∈ qw_big := qm_14 _ (List.mem_of_getElem? (i := 13) rfl)
theorem kco_X4_spend : Cond.code yX4_spend cX4_spend 6 none ∈ qw_big := qm_14 _ (List.mem_of_getElem? (i := 14) rfl)
theorem kml_X4_9 : Cond.methodLink RX4 9 Lib.Math.min.name ∈ qw_big := qm_14 _ (List.mem_of_getElem? (i := 15) rfl)
theorem kco_L_swapChain : Cond.codeWith yL_swapChain cL_swapChain 4 (some .int) [(0, 9, 12, 13)] ∈ qw_big := qm_14 _ (List.mem_of_getElem? (i := 16) rfl)
theorem kml_L_118 : Cond.methodLink RL 118 yX7_swapChain ∈ qw_big := qm_14 _ (List.mem_of_getElem? (i := 17) rfl)
theorem kin_X7_swapChain : Cond.instanceMethod yX7_swapChain ∈ qw_big := qm_14 _ (List.mem_of_getElem? (i := 18) rfl)
theorem kse_X7_swapChain : Cond.selects RX7 yX7_swapChain yX7_swapChain ∈ qw_big := qm_14 _ (List.mem_of_getElem? (i := 19) rfl)
theorem kco_X7_swapChain : Cond.code yX7_swapChain cX7_swapChain 5 (some .int) ∈ qw_big := qm_14 _ (List.mem_of_getElem? (i := 20) rfl)
theorem kco_L_takenBy : Cond.codeWith yL_takenBy cL_takenBy 4 (some .int) [(0, 9, 12, 13)] ∈ qw_big := qm_14 _ (List.mem_of_getElem? (i := 21) rfl)
theorem kml_L_41 : Cond.methodLink RL 41 yX7_takenBy ∈ qw_big := qm_14 _ (List.mem_of_getElem? (i := 22) rfl)
theorem kin_X7_takenBy : Cond.instanceMethod yX7_takenBy ∈ qw_big := qm_14 _ (List.mem_of_getElem? (i := 23) rfl)
theorem kse_X7_takenBy : Cond.selects RX7 yX7_takenBy yX7_takenBy ∈ qw_big := qm_14 _ (List.mem_of_getElem? (i := 24) rfl)
theorem kco_X7_takenBy : Cond.code yX7_takenBy cX7_takenBy 2 (some .int) ∈ qw_big := qm_14 _ (List.mem_of_getElem? (i := 25) rfl)
theorem kco_L_tradeRoom : Cond.codeWith yL_tradeRoom cL_tradeRoom 6 (some .int) [(0, 12, 15, 13)] ∈ qw_big := qm_14 _ (List.mem_of_getElem? (i := 26) rfl)
theorem kml_L_44 : Cond.methodLink RL 44 yX7_tradeRoom ∈ qw_big := qm_14 _ (List.mem_of_getElem? (i := 27) rfl)
theorem kin_X7_tradeRoom : Cond.instanceMethod yX7_tradeRoom ∈ qw_big := qm_14 _ (List.mem_of_getElem? (i := 28) rfl)
theorem kse_X7_tradeRoom : Cond.selects RX7 yX7_tradeRoom yX7_tradeRoom ∈ qw_big := qm_14 _ (List.mem_of_getElem? (i := 29) rfl)
theorem kco_X7_tradeRoom : Cond.code yX7_tradeRoom cX7_tradeRoom 4 (some .int) ∈ qw_big := qm_15 _ (List.mem_of_getElem? (i := 0) rfl)
theorem kco_L_turnover : Cond.codeWith yL_turnover cL_turnover 4 (some .int) [(0, 9, 12, 13)] ∈ qw_big := qm_15 _ (List.mem_of_getElem? (i := 1) rfl)
theorem kml_L_69 : Cond.methodLink RL 69 yX7_turnover ∈ qw_big := qm_15 _ (List.mem_of_getElem? (i := 2) rfl)
theorem kin_X7_turnover : Cond.instanceMethod yX7_turnover ∈ qw_big := qm_15 _ (List.mem_of_getElem? (i := 3) rfl)
theorem kse_X7_turnover : Cond.selects RX7 yX7_turnover yX7_turnover ∈ qw_big := qm_15 _ (List.mem_of_getElem? (i := 4) rfl)
theorem kco_X7_turnover : Cond.code yX7_turnover cX7_turnover 4 (some .int) ∈ qw_big := qm_15 _ (List.mem_of_getElem? (i := 5) rfl)
theorem kco_L_waitFor : Cond.codeWith yL_waitFor cL_waitFor 6 (some .int) [(0, 12, 15, 13)] ∈ qw_big := qm_15 _ (List.mem_of_getElem? (i := 6) rfl)
theorem kml_L_103 : Cond.methodLink RL 103 yX7_waitFor ∈ qw_big := qm_15 _ (List.mem_of_getElem? (i := 7) rfl)
theorem kin_X7_waitFor : Cond.instanceMethod yX7_waitFor ∈ qw_big := qm_15 _ (List.mem_of_getElem? (i := 8) rfl)
theorem kse_X7_waitFor : Cond.selects RX7 yX7_waitFor yX7_waitFor ∈ qw_big := qm_15 _ (List.mem_of_getElem? (i := 9) rfl)
theorem kco_X7_waitFor : Cond.code yX7_waitFor cX7_waitFor 7 (some .int) ∈ qw_big := qm_15 _ (List.mem_of_getElem? (i := 10) rfl)
theorem kco_X0_init : Cond.code yX0_init cX0_init 1 none ∈ qw_big := qm_15 _ (List.mem_of_getElem? (i := 11) rfl)
theorem kml_X0_3 : Cond.methodLink RX0 3 objectInit ∈ qw_big := qm_15 _ (List.mem_of_getElem? (i := 12) rfl)
theorem km_oi_i : Cond.instanceMethod objectInit ∈ qw_big := qm_15 _ (List.mem_of_getElem? (i := 13) rfl)
theorem km_oi_c : Cond.code objectInit ⟨#[0xb1]⟩ 1 none ∈ qw_big := qm_15 _ (List.mem_of_getElem? (i := 14) rfl)
theorem kcl_X0_9 : Cond.classLink RX0 9 "[[I" ∈ qw_big := qm_15 _ (List.mem_of_getElem? (i := 15) rfl)
theorem km_ai : Cond.arrayClass .int ∈ qw_big := qm_15 _ (List.mem_of_getElem? (i := 16) rfl)
theorem kco_X1_bringBack : Cond.code yX1_bringBack cX1_bringBack 2 none ∈ qw_big := qm_15 _ (List.mem_of_getElem? (i := 17) rfl)
theorem kl_X1_17 : Cond.fieldLink RX1 17 "RationOffice$History" "next" "I" ∈ qw_big := qm_15 _ (List.mem_of_getElem? (i := 18) rfl)
theorem kl_X1_11 : Cond.fieldLink RX1 11 "RationOffice$History" "ring" "[LRationOffice$State;" ∈ qw_big := qm_15 _ (List.mem_of_getElem? (i := 19) rfl)
theorem kl_X1_21 : Cond.fieldLink RX1 21 "RationOffice$History" "kept" "I" ∈ qw_big := qm_15 _ (List.mem_of_getElem? (i := 20) rfl)
theorem kml_X1_35 : Cond.methodLink RX1 35 Lib.Math.max.name ∈ qw_big := qm_15 _ (List.mem_of_getElem? (i := 21) rfl)
theorem kml_X1_25 : Cond.methodLink RX1 25 yX5_become ∈ qw_big := qm_15 _ (List.mem_of_getElem? (i := 22) rfl)
theorem kin_X5_become : Cond.instanceMethod yX5_become ∈ qw_big := qm_15 _ (List.mem_of_getElem? (i := 23) rfl)
theorem kse_X5_become : Cond.selects RX5 yX5_become yX5_become ∈ qw_big := qm_15 _ (List.mem_of_getElem? (i := 24) rfl)
theorem kco_X5_become : Cond.code yX5_become cX5_become 2 none ∈ qw_big := qm_15 _ (List.mem_of_getElem? (i := 25) rfl)
theorem kl_X5_9 : Cond.fieldLink RX5 9 "RationOffice$State" "period" "I" ∈ qw_big := qm_15 _ (List.mem_of_getElem? (i := 26) rfl)
theorem kl_X5_15 : Cond.fieldLink RX5 15 "RationOffice$State" "ration" "[I" ∈ qw_big := qm_15 _ (List.mem_of_getElem? (i := 27) rfl)
theorem kl_X5_19 : Cond.fieldLink RX5 19 "RationOffice$State" "size" "[I" ∈ qw_big := qm_15 _ (List.mem_of_getElem? (i := 28) rfl)
theorem kl_X5_22 : Cond.fieldLink RX5 22 "RationOffice$State" "setting" "[I" ∈ qw_big := qm_15 _ (List.mem_of_getElem? (i := 29) rfl)
theorem kl_X5_25 : Cond.fieldLink RX5 25 "RationOffice$State" "purses" "[I" ∈ qw_big := qm_16 _ (List.mem_of_getElem? (i := 0) rfl)
theorem kl_X5_28 : Cond.fieldLink RX5 28 "RationOffice$State" "given" "[I" ∈ qw_big := qm_16 _ (List.mem_of_getElem? (i := 1) rfl)
theorem kl_X5_31 : Cond.fieldLink RX5 31 "RationOffice$State" "taken" "[I" ∈ qw_big := qm_16 _ (List.mem_of_getElem? (i := 2) rfl)
theorem kl_X5_34 : Cond.fieldLink RX5 34 "RationOffice$State" "stock" "[I" ∈ qw_big := qm_16 _ (List.mem_of_getElem? (i := 3) rfl)
theorem kl_X5_37 : Cond.fieldLink RX5 37 "RationOffice$State" "account" "[I" ∈ qw_big := qm_16 _ (List.mem_of_getElem? (i := 4) rfl)
theorem kl_X5_40 : Cond.fieldLink RX5 40 "RationOffice$State" "penalty" "[I" ∈ qw_big := qm_16 _ (List.mem_of_getElem? (i := 5) rfl)
theorem kl_X5_43 : Cond.fieldLink RX5 43 "RationOffice$State" "sold" "[I" ∈ qw_big := qm_16 _ (List.mem_of_getElem? (i := 6) rfl)
theorem kl_X5_46 : Cond.fieldLink RX5 46 "RationOffice$State" "delivered" "[I" ∈ qw_big := qm_16 _ (List.mem_of_getElem? (i := 7) rfl)
theorem kl_X5_49 : Cond.fieldLink RX5 49 "RationOffice$State" "issued" "[I" ∈ qw_big := qm_16 _ (List.mem_of_getElem? (i := 8) rfl)
theorem kl_X5_52 : Cond.fieldLink RX5 52 "RationOffice$State" "spent" "[I" ∈ qw_big := qm_16 _ (List.mem_of_getElem? (i := 9) rfl)
theorem kl_X5_55 : Cond.fieldLink RX5 55 "RationOffice$State" "lapsed" "[I" ∈ qw_big := qm_16 _ (List.mem_of_getElem? (i := 10) rfl)
theorem kml_X5_61 : Cond.methodLink RX5 61 yX5_copy ∈ qw_big := qm_16 _ (List.mem_of_getElem? (i := 11) rfl)
theorem kst_X5_copy : Cond.static yX5_copy ∈ qw_big := qm_16 _ (List.mem_of_getElem? (i := 12) rfl)
theorem kco_X5_copy : Cond.code yX5_copy cX5_copy 2 none ∈ qw_big := qm_16 _ (List.mem_of_getElem? (i := 13) rfl)
theorem kml_X5_65 : Cond.methodLink RX5 65 Lib.Math.min.name ∈ qw_big := qm_16 _ (List.mem_of_getElem? (i := 14) rfl)
theorem kml_X5_71 : Cond.methodLink RX5 71 arraycopyName ∈ qw_big := qm_16 _ (List.mem_of_getElem? (i := 15) rfl)
theorem kco_X1_forget : Cond.code yX1_forget cX1_forget 1 none ∈ qw_big := qm_16 _ (List.mem_of_getElem? (i := 16) rfl)
theorem kco_X1_init : Cond.code yX1_init cX1_init 2 none ∈ qw_big := qm_16 _ (List.mem_of_getElem? (i := 17) rfl)
theorem kml_X1_3 : Cond.methodLink RX1 3 objectInit ∈ qw_big := qm_16 _ (List.mem_of_getElem? (i := 18) rfl)
theorem kcl_X1_9 : Cond.classLink RX1 9 RX5 ∈ qw_big := qm_16 _ (List.mem_of_getElem? (i := 19) rfl)
theorem kinst_X5 : Cond.instantiable RX5 15 ∈ qw_big := qm_16 _ (List.mem_of_getElem? (i := 20) rfl)
theorem kml_X1_24 : Cond.methodLink RX1 24 yX5_init ∈ qw_big := qm_16 _ (List.mem_of_getElem? (i := 21) rfl)
theorem kin_X5_init : Cond.instanceMethod yX5_init ∈ qw_big := qm_16 _ (List.mem_of_getElem? (i := 22) rfl)
theorem kco_X5_init : Cond.code yX5_init cX5_init 1 none ∈ qw_big := qm_16 _ (List.mem_of_getElem? (i := 23) rfl)
theorem kml_X5_3 : Cond.methodLink RX5 3 objectInit ∈ qw_big := qm_16 _ (List.mem_of_getElem? (i := 24) rfl)
theorem kco_X1_keep : Cond.code yX1_keep cX1_keep 2 none ∈ qw_big := qm_16 _ (List.mem_of_getElem? (i := 25) rfl)
theorem kml_X1_29 : Cond.methodLink RX1 29 Lib.Math.min.name ∈ qw_big := qm_16 _ (List.mem_of_getElem? (i := 26) rfl)
theorem kco_X2_fail : Cond.code yX2_fail cX2_fail 2 none ∈ qw_big := qm_16 _ (List.mem_of_getElem? (i := 27) rfl)
theorem kl_X2_36 : Cond.fieldLink RX2 36 "RationOffice$Loader" "error" "I" ∈ qw_big := qm_16 _ (List.mem_of_getElem? (i := 28) rfl)
theorem kl_X2_12 : Cond.fieldLink RX2 12 "RationOffice$Loader" "tokens" "LRationOffice$Tokens;" ∈ qw_big := qm_16 _ (List.mem_of_getElem? (i := 29) rfl)
theorem kl_X2_59 : Cond.fieldLink RX2 59 "RationOffice$Tokens" "start" "I" ∈ qw_big := qm_17 _ (List.mem_of_getElem? (i := 0) rfl)
theorem kl_X2_39 : Cond.fieldLink RX2 39 "RationOffice$Loader" "errorAt" "I" ∈ qw_big := qm_17 _ (List.mem_of_getElem? (i := 1) rfl)
theorem kco_X2_init : Cond.code yX2_init cX2_init 1 none ∈ qw_big := qm_17 _ (List.mem_of_getElem? (i := 2) rfl)
theorem kml_X2_3 : Cond.methodLink RX2 3 objectInit ∈ qw_big := qm_17 _ (List.mem_of_getElem? (i := 3) rfl)
theorem kcl_X2_9 : Cond.classLink RX2 9 RX6 ∈ qw_big := qm_17 _ (List.mem_of_getElem? (i := 4) rfl)
theorem kinst_X6 : Cond.instantiable RX6 5 ∈ qw_big := qm_17 _ (List.mem_of_getElem? (i := 5) rfl)
theorem kini_X6 : Cond.initialized RX6 ∈ qw_big := qm_17 _ (List.mem_of_getElem? (i := 6) rfl)
theorem kl_X2_18 : Cond.fieldLink RX2 18 "RationOffice$Loader" "settingsGiven" "I" ∈ qw_big := qm_17 _ (List.mem_of_getElem? (i := 7) rfl)
theorem kcl_X2_22 : Cond.classLink RX2 22 RX3 ∈ qw_big := qm_17 _ (List.mem_of_getElem? (i := 8) rfl)
theorem kinst_X3 : Cond.instantiable RX3 15 ∈ qw_big := qm_17 _ (List.mem_of_getElem? (i := 9) rfl)
theorem kini_X3 : Cond.initialized RX3 ∈ qw_big := qm_17 _ (List.mem_of_getElem? (i := 10) rfl)
theorem kl_X2_25 : Cond.fieldLink RX2 25 "RationOffice$Loader" "plan" "LRationOffice$Plan;" ∈ qw_big := qm_17 _ (List.mem_of_getElem? (i := 11) rfl)
theorem kcl_X2_29 : Cond.classLink RX2 29 RX5 ∈ qw_big := qm_17 _ (List.mem_of_getElem? (i := 12) rfl)
theorem kl_X2_32 : Cond.fieldLink RX2 32 "RationOffice$Loader" "state" "LRationOffice$State;" ∈ qw_big := qm_17 _ (List.mem_of_getElem? (i := 13) rfl)
theorem kin_X6_init : Cond.instanceMethod yX6_init ∈ qw_big := qm_17 _ (List.mem_of_getElem? (i := 14) rfl)
theorem kco_X6_init : Cond.code yX6_init cX6_init 1 none ∈ qw_big := qm_17 _ (List.mem_of_getElem? (i := 15) rfl)
theorem kml_X6_3 : Cond.methodLink RX6 3 objectInit ∈ qw_big := qm_17 _ (List.mem_of_getElem? (i := 16) rfl)
theorem kl_X6_9 : Cond.fieldLink RX6 9 "RationOffice$Tokens" "text" "[I" ∈ qw_big := qm_17 _ (List.mem_of_getElem? (i := 17) rfl)
theorem kl_X6_15 : Cond.fieldLink RX6 15 "RationOffice$Tokens" "length" "I" ∈ qw_big := qm_17 _ (List.mem_of_getElem? (i := 18) rfl)
theorem kl_X6_19 : Cond.fieldLink RX6 19 "RationOffice$Tokens" "end" "I" ∈ qw_big := qm_17 _ (List.mem_of_getElem? (i := 19) rfl)
theorem kl_X6_22 : Cond.fieldLink RX6 22 "RationOffice$Tokens" "start" "I" ∈ qw_big := qm_17 _ (List.mem_of_getElem? (i := 20) rfl)
theorem kl_X6_25 : Cond.fieldLink RX6 25 "RationOffice$Tokens" "kind" "I" ∈ qw_big := qm_17 _ (List.mem_of_getElem? (i := 21) rfl)
theorem kin_X3_init : Cond.instanceMethod yX3_init ∈ qw_big := qm_17 _ (List.mem_of_getElem? (i := 22) rfl)
theorem kco_X3_init : Cond.code yX3_init cX3_init 1 none ∈ qw_big := qm_17 _ (List.mem_of_getElem? (i := 23) rfl)
theorem kml_X3_3 : Cond.methodLink RX3 3 objectInit ∈ qw_big := qm_17 _ (List.mem_of_getElem? (i := 24) rfl)
theorem kl_X3_9 : Cond.fieldLink RX3 9 "RationOffice$Plan" "groups" "I" ∈ qw_big := qm_17 _ (List.mem_of_getElem? (i := 25) rfl)
theorem kl_X3_15 : Cond.fieldLink RX3 15 "RationOffice$Plan" "goods" "I" ∈ qw_big := qm_17 _ (List.mem_of_getElem? (i := 26) rfl)
theorem kl_X3_18 : Cond.fieldLink RX3 18 "RationOffice$Plan" "houses" "I" ∈ qw_big := qm_17 _ (List.mem_of_getElem? (i := 27) rfl)
theorem kl_X3_21 : Cond.fieldLink RX3 21 "RationOffice$Plan" "shops" "I" ∈ qw_big := qm_17 _ (List.mem_of_getElem? (i := 28) rfl)
theorem kl_X3_24 : Cond.fieldLink RX3 24 "RationOffice$Plan" "groupNames" "[I" ∈ qw_big := qm_17 _ (List.mem_of_getElem? (i := 29) rfl)
theorem kl_X3_28 : Cond.fieldLink RX3 28 "RationOffice$Plan" "goodNames" "[I" ∈ qw_big := qm_18 _ (List.mem_of_getElem? (i := 0) rfl)
theorem kl_X3_31 : Cond.fieldLink RX3 31 "RationOffice$Plan" "houseNames" "[I" ∈ qw_big := qm_18 _ (List.mem_of_getElem? (i := 1) rfl)
theorem kl_X3_34 : Cond.fieldLink RX3 34 "RationOffice$Plan" "shopNames" "[I" ∈ qw_big := qm_18 _ (List.mem_of_getElem? (i := 2) rfl)
theorem kl_X3_37 : Cond.fieldLink RX3 37 "RationOffice$Plan" "life" "[I" ∈ qw_big := qm_18 _ (List.mem_of_getElem? (i := 3) rfl)
theorem kl_X3_40 : Cond.fieldLink RX3 40 "RationOffice$Plan" "carry" "[I" ∈ qw_big := qm_18 _ (List.mem_of_getElem? (i := 4) rfl)
theorem kl_X3_43 : Cond.fieldLink RX3 43 "RationOffice$Plan" "substitute" "[I" ∈ qw_big := qm_18 _ (List.mem_of_getElem? (i := 5) rfl)
theorem kl_X3_46 : Cond.fieldLink RX3 46 "RationOffice$Plan" "factor" "[I" ∈ qw_big := qm_18 _ (List.mem_of_getElem? (i := 6) rfl)
theorem kl_X3_49 : Cond.fieldLink RX3 49 "RationOffice$Plan" "groupOf" "[I" ∈ qw_big := qm_18 _ (List.mem_of_getElem? (i := 7) rfl)
theorem kl_X3_52 : Cond.fieldLink RX3 52 "RationOffice$Plan" "rate" "[I" ∈ qw_big := qm_18 _ (List.mem_of_getElem? (i := 8) rfl)
theorem kl_X3_55 : Cond.fieldLink RX3 55 "RationOffice$Plan" "value" "[I" ∈ qw_big := qm_18 _ (List.mem_of_getElem? (i := 9) rfl)
theorem kml_X2_31 : Cond.methodLink RX2 31 yX5_init ∈ qw_big := qm_18 _ (List.mem_of_getElem? (i := 10) rfl)
theorem kco_X2_passUnless : Cond.code yX2_passUnless cX2_passUnless 2 none ∈ qw_big := qm_18 _ (List.mem_of_getElem? (i := 11) rfl)
theorem kml_X2_96 : Cond.methodLink RX2 96 yX2_fail ∈ qw_big := qm_18 _ (List.mem_of_getElem? (i := 12) rfl)
theorem kin_X2_fail : Cond.instanceMethod yX2_fail ∈ qw_big := qm_18 _ (List.mem_of_getElem? (i := 13) rfl)
theorem kse_X2_fail : Cond.selects RX2 yX2_fail yX2_fail ∈ qw_big := qm_18 _ (List.mem_of_getElem? (i := 14) rfl)
theorem kini_X2 : Cond.initialized RX2 ∈ qw_big := qm_18 _ (List.mem_of_getElem? (i := 15) rfl)
theorem kml_X2_100 : Cond.methodLink RX2 100 yX6_advance ∈ qw_big := qm_18 _ (List.mem_of_getElem? (i := 16) rfl)
theorem kin_X6_advance : Cond.instanceMethod yX6_advance ∈ qw_big := qm_18 _ (List.mem_of_getElem? (i := 17) rfl)
theorem kse_X6_advance : Cond.selects RX6 yX6_advance yX6_advance ∈ qw_big := qm_18 _ (List.mem_of_getElem? (i := 18) rfl)
theorem kco_X6_advance : Cond.code yX6_advance cX6_advance 3 none ∈ qw_big := qm_18 _ (List.mem_of_getElem? (i := 19) rfl)
theorem kml_X6_28 : Cond.methodLink RX6 28 Lib.Math.min.name ∈ qw_big := qm_18 _ (List.mem_of_getElem? (i := 20) rfl)
theorem kml_X6_37 : Cond.methodLink RX6 37 yX6_kindAt ∈ qw_big := qm_18 _ (List.mem_of_getElem? (i := 21) rfl)
theorem kin_X6_kindAt : Cond.instanceMethod yX6_kindAt ∈ qw_big := qm_18 _ (List.mem_of_getElem? (i := 22) rfl)
theorem kse_X6_kindAt : Cond.selects RX6 yX6_kindAt yX6_kindAt ∈ qw_big := qm_18 _ (List.mem_of_getElem? (i := 23) rfl)
theorem kco_X6_kindAt : Cond.code yX6_kindAt cX6_kindAt 3 (some .int) ∈ qw_big := qm_18 _ (List.mem_of_getElem? (i := 24) rfl)
theorem kco_X2_read : Cond.code yX2_read cX2_read 4 (some .int) ∈ qw_big := qm_18 _ (List.mem_of_getElem? (i := 25) rfl)
theorem kl_X2_50 : Cond.fieldLink RX2 50 "RationOffice$Tokens" "kind" "I" ∈ qw_big := qm_18 _ (List.mem_of_getElem? (i := 26) rfl)
theorem kml_X2_42 : Cond.methodLink RX2 42 yX3_clear ∈ qw_big := qm_18 _ (List.mem_of_getElem? (i := 27) rfl)
theorem kin_X3_clear : Cond.instanceMethod yX3_clear ∈ qw_big := qm_18 _ (List.mem_of_getElem? (i := 28) rfl)
theorem kse_X3_clear : Cond.selects RX3 yX3_clear yX3_clear ∈ qw_big := qm_18 _ (List.mem_of_getElem? (i := 29) rfl)
theorem kco_X3_clear : Cond.code yX3_clear cX3_clear 1 none ∈ qw_big := qm_19 _ (List.mem_of_getElem? (i := 0) rfl)
theorem kml_X2_45 : Cond.methodLink RX2 45 yX5_clear ∈ qw_big := qm_19 _ (List.mem_of_getElem? (i := 1) rfl)
theorem kin_X5_clear : Cond.instanceMethod yX5_clear ∈ qw_big := qm_19 _ (List.mem_of_getElem? (i := 2) rfl)
theorem kse_X5_clear : Cond.selects RX5 yX5_clear yX5_clear ∈ qw_big := qm_19 _ (List.mem_of_getElem? (i := 3) rfl)
theorem kco_X5_clear : Cond.code yX5_clear cX5_clear 1 none ∈ qw_big := qm_19 _ (List.mem_of_getElem? (i := 4) rfl)
theorem kml_X5_77 : Cond.methodLink RX5 77 yJ7_fill_53178 ∈ qw_big := qm_19 _ (List.mem_of_getElem? (i := 5) rfl)
theorem kml_X2_46 : Cond.methodLink RX2 46 yX6_open ∈ qw_big := qm_19 _ (List.mem_of_getElem? (i := 6) rfl)
theorem kin_X6_open : Cond.instanceMethod yX6_open ∈ qw_big := qm_19 _ (List.mem_of_getElem? (i := 7) rfl)
theorem kse_X6_open : Cond.selects RX6 yX6_open yX6_open ∈ qw_big := qm_19 _ (List.mem_of_getElem? (i := 8) rfl)
theorem kco_X6_open : Cond.code yX6_open cX6_open 3 none ∈ qw_big := qm_19 _ (List.mem_of_getElem? (i := 9) rfl)
theorem kml_X6_34 : Cond.methodLink RX6 34 yX6_advance ∈ qw_big := qm_19 _ (List.mem_of_getElem? (i := 10) rfl)
theorem kml_X2_53 : Cond.methodLink RX2 53 yX2_readStatement ∈ qw_big := qm_19 _ (List.mem_of_getElem? (i := 11) rfl)
theorem kin_X2_readStatement : Cond.instanceMethod yX2_readStatement ∈ qw_big := qm_19 _ (List.mem_of_getElem? (i := 12) rfl)
theorem kse_X2_readStatement : Cond.selects RX2 yX2_readStatement yX2_readStatement ∈ qw_big := qm_19 _ (List.mem_of_getElem? (i := 13) rfl)
theorem kco_X2_readStatement : Cond.code yX2_readStatement cX2_readStatement 1 none ∈ qw_big := qm_19 _ (List.mem_of_getElem? (i := 14) rfl)
theorem kml_X2_64 : Cond.methodLink RX2 64 yX6_isWord ∈ qw_big := qm_19 _ (List.mem_of_getElem? (i := 15) rfl)
theorem kin_X6_isWord : Cond.instanceMethod yX6_isWord ∈ qw_big := qm_19 _ (List.mem_of_getElem? (i := 16) rfl)
theorem kse_X6_isWord : Cond.selects RX6 yX6_isWord yX6_isWord ∈ qw_big := qm_19 _ (List.mem_of_getElem? (i := 17) rfl)
theorem kco_X6_isWord : Cond.code yX6_isWord cX6_isWord 3 (some .boolean) ∈ qw_big := qm_19 _ (List.mem_of_getElem? (i := 18) rfl)
theorem kml_X6_41 : Cond.methodLink RX6 41 yJ0_length_8abf5 ∈ qw_big := qm_19 _ (List.mem_of_getElem? (i := 19) rfl)
theorem kin_J0_length_8abf5 : Cond.instanceMethod yJ0_length_8abf5 ∈ qw_big := qm_19 _ (List.mem_of_getElem? (i := 20) rfl)
theorem kse_J0_length_8abf5 : Cond.selects RJ0 yJ0_length_8abf5 yJ0_length_8abf5 ∈ qw_big := qm_19 _ (List.mem_of_getElem? (i := 21) rfl)
theorem kml_X6_46 : Cond.methodLink RX6 46 yJ0_charAt_5068e ∈ qw_big := qm_19 _ (List.mem_of_getElem? (i := 22) rfl)
theorem kin_J0_charAt_5068e : Cond.instanceMethod yJ0_charAt_5068e ∈ qw_big := qm_19 _ (List.mem_of_getElem? (i := 23) rfl)
theorem kse_J0_charAt_5068e : Cond.selects RJ0 yJ0_charAt_5068e yJ0_charAt_5068e ∈ qw_big := qm_19 _ (List.mem_of_getElem? (i := 24) rfl)
theorem kml_X2_68 : Cond.methodLink RX2 68 yX2_readGroup ∈ qw_big := qm_19 _ (List.mem_of_getElem? (i := 25) rfl)
theorem kin_X2_readGroup : Cond.instanceMethod yX2_readGroup ∈ qw_big := qm_19 _ (List.mem_of_getElem? (i := 26) rfl)
theorem kse_X2_readGroup : Cond.selects RX2 yX2_readGroup yX2_readGroup ∈ qw_big := qm_19 _ (List.mem_of_getElem? (i := 27) rfl)
theorem kco_X2_readGroup : Cond.code yX2_readGroup cX2_readGroup 2 none ∈ qw_big := qm_19 _ (List.mem_of_getElem? (i := 28) rfl)
theorem kl_X2_122 : Cond.fieldLink RX2 122 "RationOffice$Plan" "groups" "I" ∈ qw_big := qm_19 _ (List.mem_of_getElem? (i := 29) rfl)
theorem kl_X2_125 : Cond.fieldLink RX2 125 "RationOffice$Plan" "groupNames" "[I" ∈ qw_big := qm_20 _ (List.mem_of_getElem? (i := 0) rfl)
theorem kl_X2_132 : Cond.fieldLink RX2 132 "RationOffice$State" "ration" "[I" ∈ qw_big := qm_20 _ (List.mem_of_getElem? (i := 1) rfl)
theorem kl_X2_139 : Cond.fieldLink RX2 139 "RationOffice$Plan" "life" "[I" ∈ qw_big := qm_20 _ (List.mem_of_getElem? (i := 2) rfl)
theorem kl_X2_142 : Cond.fieldLink RX2 142 "RationOffice$Plan" "carry" "[I" ∈ qw_big := qm_20 _ (List.mem_of_getElem? (i := 3) rfl)
theorem kl_X2_145 : Cond.fieldLink RX2 145 "RationOffice$Plan" "substitute" "[I" ∈ qw_big := qm_20 _ (List.mem_of_getElem? (i := 4) rfl)
theorem kl_X2_148 : Cond.fieldLink RX2 148 "RationOffice$Plan" "factor" "[I" ∈ qw_big := qm_20 _ (List.mem_of_getElem? (i := 5) rfl)
theorem kml_X2_129 : Cond.methodLink RX2 129 yX2_readNewName ∈ qw_big := qm_20 _ (List.mem_of_getElem? (i := 6) rfl)
theorem kin_X2_readNewName : Cond.instanceMethod yX2_readNewName ∈ qw_big := qm_20 _ (List.mem_of_getElem? (i := 7) rfl)
theorem kse_X2_readNewName : Cond.selects RX2 yX2_readNewName yX2_readNewName ∈ qw_big := qm_20 _ (List.mem_of_getElem? (i := 8) rfl)
theorem kco_X2_readNewName : Cond.code yX2_readNewName cX2_readNewName 2 (some .int) ∈ qw_big := qm_20 _ (List.mem_of_getElem? (i := 9) rfl)
theorem kml_X2_107 : Cond.methodLink RX2 107 yX6_isName ∈ qw_big := qm_20 _ (List.mem_of_getElem? (i := 10) rfl)
theorem kin_X6_isName : Cond.instanceMethod yX6_isName ∈ qw_big := qm_20 _ (List.mem_of_getElem? (i := 11) rfl)
theorem kse_X6_isName : Cond.selects RX6 yX6_isName yX6_isName ∈ qw_big := qm_20 _ (List.mem_of_getElem? (i := 12) rfl)
theorem kco_X6_isName : Cond.code yX6_isName cX6_isName 1 (some .boolean) ∈ qw_big := qm_20 _ (List.mem_of_getElem? (i := 13) rfl)
theorem kml_X6_52 : Cond.methodLink RX6 52 yX6_isWord ∈ qw_big := qm_20 _ (List.mem_of_getElem? (i := 14) rfl)
theorem kml_X2_111 : Cond.methodLink RX2 111 yX6_letters ∈ qw_big := qm_20 _ (List.mem_of_getElem? (i := 15) rfl)
theorem kin_X6_letters : Cond.instanceMethod yX6_letters ∈ qw_big := qm_20 _ (List.mem_of_getElem? (i := 16) rfl)
theorem kse_X6_letters : Cond.selects RX6 yX6_letters yX6_letters ∈ qw_big := qm_20 _ (List.mem_of_getElem? (i := 17) rfl)
theorem kco_X6_letters : Cond.code yX6_letters cX6_letters 3 (some .int) ∈ qw_big := qm_20 _ (List.mem_of_getElem? (i := 18) rfl)
theorem kml_X2_114 : Cond.methodLink RX2 114 yX3_isDeclared ∈ qw_big := qm_20 _ (List.mem_of_getElem? (i := 19) rfl)
theorem kin_X3_isDeclared : Cond.instanceMethod yX3_isDeclared ∈ qw_big := qm_20 _ (List.mem_of_getElem? (i := 20) rfl)
theorem kse_X3_isDeclared : Cond.selects RX3 yX3_isDeclared yX3_isDeclared ∈ qw_big := qm_20 _ (List.mem_of_getElem? (i := 21) rfl)
theorem kco_X3_isDeclared : Cond.code yX3_isDeclared cX3_isDeclared 2 (some .boolean) ∈ qw_big := qm_20 _ (List.mem_of_getElem? (i := 22) rfl)
theorem kml_X3_58 : Cond.methodLink RX3 58 yX3_find ∈ qw_big := qm_20 _ (List.mem_of_getElem? (i := 23) rfl)
theorem kst_X3_find : Cond.static yX3_find ∈ qw_big := qm_20 _ (List.mem_of_getElem? (i := 24) rfl)
theorem kco_X3_find : Cond.code yX3_find cX3_find 4 (some .int) ∈ qw_big := qm_20 _ (List.mem_of_getElem? (i := 25) rfl)
theorem kml_X2_135 : Cond.methodLink RX2 135 yX2_readInteger ∈ qw_big := qm_20 _ (List.mem_of_getElem? (i := 26) rfl)
theorem kin_X2_readInteger : Cond.instanceMethod yX2_readInteger ∈ qw_big := qm_20 _ (List.mem_of_getElem? (i := 27) rfl)
theorem kse_X2_readInteger : Cond.selects RX2 yX2_readInteger yX2_readInteger ∈ qw_big := qm_20 _ (List.mem_of_getElem? (i := 28) rfl)
theorem kco_X2_readInteger : Cond.code yX2_readInteger cX2_readInteger 4 (some .int) ∈ qw_big := qm_20 _ (List.mem_of_getElem? (i := 29) rfl)
theorem kml_X2_103 : Cond.methodLink RX2 103 yX6_integer ∈ qw_big := qm_21 _ (List.mem_of_getElem? (i := 0) rfl)
theorem kin_X6_integer : Cond.instanceMethod yX6_integer ∈ qw_big := qm_21 _ (List.mem_of_getElem? (i := 1) rfl)
theorem kse_X6_integer : Cond.selects RX6 yX6_integer yX6_integer ∈ qw_big := qm_21 _ (List.mem_of_getElem? (i := 2) rfl)
theorem kco_X6_integer : Cond.code yX6_integer cX6_integer 3 (some .int) ∈ qw_big := qm_21 _ (List.mem_of_getElem? (i := 3) rfl)
theorem kct_X6_72 : Cond.constant RX6 72 (100000) ∈ qw_big := qm_21 _ (List.mem_of_getElem? (i := 4) rfl)
theorem kml_X2_73 : Cond.methodLink RX2 73 yX2_readSwap ∈ qw_big := qm_21 _ (List.mem_of_getElem? (i := 5) rfl)
theorem kin_X2_readSwap : Cond.instanceMethod yX2_readSwap ∈ qw_big := qm_21 _ (List.mem_of_getElem? (i := 6) rfl)
theorem kse_X2_readSwap : Cond.selects RX2 yX2_readSwap yX2_readSwap ∈ qw_big := qm_21 _ (List.mem_of_getElem? (i := 7) rfl)
theorem kco_X2_readSwap : Cond.code yX2_readSwap cX2_readSwap 3 none ∈ qw_big := qm_21 _ (List.mem_of_getElem? (i := 8) rfl)
theorem kml_X2_151 : Cond.methodLink RX2 151 yX2_seeName ∈ qw_big := qm_21 _ (List.mem_of_getElem? (i := 9) rfl)
theorem kin_X2_seeName : Cond.instanceMethod yX2_seeName ∈ qw_big := qm_21 _ (List.mem_of_getElem? (i := 10) rfl)
theorem kse_X2_seeName : Cond.selects RX2 yX2_seeName yX2_seeName ∈ qw_big := qm_21 _ (List.mem_of_getElem? (i := 11) rfl)
theorem kco_X2_seeName : Cond.code yX2_seeName cX2_seeName 4 (some .int) ∈ qw_big := qm_21 _ (List.mem_of_getElem? (i := 12) rfl)
theorem kml_X2_118 : Cond.methodLink RX2 118 yX3_find ∈ qw_big := qm_21 _ (List.mem_of_getElem? (i := 13) rfl)
theorem kml_X2_155 : Cond.methodLink RX2 155 yX2_passUnless ∈ qw_big := qm_21 _ (List.mem_of_getElem? (i := 14) rfl)
theorem kin_X2_passUnless : Cond.instanceMethod yX2_passUnless ∈ qw_big := qm_21 _ (List.mem_of_getElem? (i := 15) rfl)
theorem kse_X2_passUnless : Cond.selects RX2 yX2_passUnless yX2_passUnless ∈ qw_big := qm_21 _ (List.mem_of_getElem? (i := 16) rfl)
theorem kml_X2_78 : Cond.methodLink RX2 78 yX2_readGood ∈ qw_big := qm_21 _ (List.mem_of_getElem? (i := 17) rfl)
theorem kin_X2_readGood : Cond.instanceMethod yX2_readGood ∈ qw_big := qm_21 _ (List.mem_of_getElem? (i := 18) rfl)
theorem kse_X2_readGood : Cond.selects RX2 yX2_readGood yX2_readGood ∈ qw_big := qm_21 _ (List.mem_of_getElem? (i := 19) rfl)
theorem kco_X2_readGood : Cond.code yX2_readGood cX2_readGood 2 none ∈ qw_big := qm_21 _ (List.mem_of_getElem? (i := 20) rfl)
theorem kl_X2_159 : Cond.fieldLink RX2 159 "RationOffice$Plan" "goods" "I" ∈ qw_big := qm_21 _ (List.mem_of_getElem? (i := 21) rfl)
theorem kl_X2_162 : Cond.fieldLink RX2 162 "RationOffice$Plan" "goodNames" "[I" ∈ qw_big := qm_21 _ (List.mem_of_getElem? (i := 22) rfl)
theorem kl_X2_165 : Cond.fieldLink RX2 165 "RationOffice$Plan" "groupOf" "[I" ∈ qw_big := qm_21 _ (List.mem_of_getElem? (i := 23) rfl)
theorem kl_X2_168 : Cond.fieldLink RX2 168 "RationOffice$Plan" "rate" "[I" ∈ qw_big := qm_21 _ (List.mem_of_getElem? (i := 24) rfl)
theorem kl_X2_171 : Cond.fieldLink RX2 171 "RationOffice$Plan" "value" "[I" ∈ qw_big := qm_21 _ (List.mem_of_getElem? (i := 25) rfl)
theorem kml_X2_83 : Cond.methodLink RX2 83 yX2_readHouse ∈ qw_big := qm_21 _ (List.mem_of_getElem? (i := 26) rfl)
theorem kin_X2_readHouse : Cond.instanceMethod yX2_readHouse ∈ qw_big := qm_21 _ (List.mem_of_getElem? (i := 27) rfl)
theorem kse_X2_readHouse : Cond.selects RX2 yX2_readHouse yX2_readHouse ∈ qw_big := qm_21 _ (List.mem_of_getElem? (i := 28) rfl)
theorem kco_X2_readHouse : Cond.code yX2_readHouse cX2_readHouse 2 none ∈ qw_big := qm_21 _ (List.mem_of_getElem? (i := 29) rfl)
theorem kl_X2_174 : Cond.fieldLink RX2 174 "RationOffice$Plan" "houses" "I" ∈ qw_big := qm_22 _ (List.mem_of_getElem? (i := 0) rfl)
theorem kl_X2_177 : Cond.fieldLink RX2 177 "RationOffice$Plan" "houseNames" "[I" ∈ qw_big := qm_22 _ (List.mem_of_getElem? (i := 1) rfl)
theorem kl_X2_180 : Cond.fieldLink RX2 180 "RationOffice$State" "size" "[I" ∈ qw_big := qm_22 _ (List.mem_of_getElem? (i := 2) rfl)
theorem kml_X2_88 : Cond.methodLink RX2 88 yX2_readShop ∈ qw_big := qm_22 _ (List.mem_of_getElem? (i := 3) rfl)
theorem kin_X2_readShop : Cond.instanceMethod yX2_readShop ∈ qw_big := qm_22 _ (List.mem_of_getElem? (i := 4) rfl)
theorem kse_X2_readShop : Cond.selects RX2 yX2_readShop yX2_readShop ∈ qw_big := qm_22 _ (List.mem_of_getElem? (i := 5) rfl)
theorem kco_X2_readShop : Cond.code yX2_readShop cX2_readShop 5 none ∈ qw_big := qm_22 _ (List.mem_of_getElem? (i := 6) rfl)
theorem kl_X2_183 : Cond.fieldLink RX2 183 "RationOffice$Plan" "shops" "I" ∈ qw_big := qm_22 _ (List.mem_of_getElem? (i := 7) rfl)
theorem kl_X2_186 : Cond.fieldLink RX2 186 "RationOffice$Plan" "shopNames" "[I" ∈ qw_big := qm_22 _ (List.mem_of_getElem? (i := 8) rfl)
theorem kl_X2_189 : Cond.fieldLink RX2 189 "RationOffice$State" "stock" "[I" ∈ qw_big := qm_22 _ (List.mem_of_getElem? (i := 9) rfl)
theorem kml_X2_192 : Cond.methodLink RX2 192 yX5_shelf ∈ qw_big := qm_22 _ (List.mem_of_getElem? (i := 10) rfl)
theorem kml_X2_93 : Cond.methodLink RX2 93 yX2_readSetting ∈ qw_big := qm_22 _ (List.mem_of_getElem? (i := 11) rfl)
theorem kin_X2_readSetting : Cond.instanceMethod yX2_readSetting ∈ qw_big := qm_22 _ (List.mem_of_getElem? (i := 12) rfl)
theorem kse_X2_readSetting : Cond.selects RX2 yX2_readSetting yX2_readSetting ∈ qw_big := qm_22 _ (List.mem_of_getElem? (i := 13) rfl)
theorem kco_X2_readSetting : Cond.code yX2_readSetting cX2_readSetting 2 none ∈ qw_big := qm_22 _ (List.mem_of_getElem? (i := 14) rfl)
theorem kl_X2_198 : Cond.fieldLink RX2 198 "RationOffice$State" "setting" "[I" ∈ qw_big := qm_22 _ (List.mem_of_getElem? (i := 15) rfl)
theorem kml_X2_195 : Cond.methodLink RX2 195 yX6_settingWord ∈ qw_big := qm_22 _ (List.mem_of_getElem? (i := 16) rfl)
theorem kin_X6_settingWord : Cond.instanceMethod yX6_settingWord ∈ qw_big := qm_22 _ (List.mem_of_getElem? (i := 17) rfl)
theorem kse_X6_settingWord : Cond.selects RX6 yX6_settingWord yX6_settingWord ∈ qw_big := qm_22 _ (List.mem_of_getElem? (i := 18) rfl)
theorem kco_X6_settingWord : Cond.code yX6_settingWord cX6_settingWord 1 (some .int) ∈ qw_big := qm_22 _ (List.mem_of_getElem? (i := 19) rfl)
theorem kml_X2_56 : Cond.methodLink RX2 56 yX2_readSemicolon ∈ qw_big := qm_22 _ (List.mem_of_getElem? (i := 20) rfl)
theorem kin_X2_readSemicolon : Cond.instanceMethod yX2_readSemicolon ∈ qw_big := qm_22 _ (List.mem_of_getElem? (i := 21) rfl)
theorem kse_X2_readSemicolon : Cond.selects RX2 yX2_readSemicolon yX2_readSemicolon ∈ qw_big := qm_22 _ (List.mem_of_getElem? (i := 22) rfl)
theorem kco_X2_readSemicolon : Cond.code yX2_readSemicolon cX2_readSemicolon 1 none ∈ qw_big := qm_22 _ (List.mem_of_getElem? (i := 23) rfl)
theorem kco_X4_move : Cond.code yX4_move cX4_move 7 none ∈ qw_big := qm_22 _ (List.mem_of_getElem? (i := 24) rfl)
theorem kco_X7_append : Cond.code yX7_append cX7_append 3 none ∈ qw_big := qm_22 _ (List.mem_of_getElem? (i := 25) rfl)
theorem kl_X7_51 : Cond.fieldLink RX7 51 "RationOffice" "fed" "I" ∈ qw_big := qm_22 _ (List.mem_of_getElem? (i := 26) rfl)
theorem kl_X7_9 : Cond.fieldLink RX7 9 "RationOffice" "buffer" "[I" ∈ qw_big := qm_22 _ (List.mem_of_getElem? (i := 27) rfl)
theorem kco_X7_audit : Cond.code yX7_audit cX7_audit 5 (some .int) ∈ qw_big := qm_22 _ (List.mem_of_getElem? (i := 28) rfl)
theorem kl_X7_23 : Cond.fieldLink RX7 23 "RationOffice" "history" "LRationOffice$History;" ∈ qw_big := qm_22 _ (List.mem_of_getElem? (i := 29) rfl)
theorem kml_X7_314 : Cond.methodLink RX7 314 Lib.Math.abs.name ∈ qw_big := qm_23 _ (List.mem_of_getElem? (i := 0) rfl)
theorem km_abs_s : Cond.static Lib.Math.abs.name ∈ qw_big := qm_23 _ (List.mem_of_getElem? (i := 1) rfl)
theorem km_abs_c : Cond.code Lib.Math.abs.name Lib.Math.abs.code 1 (some .int) ∈ qw_big := qm_23 _ (List.mem_of_getElem? (i := 2) rfl)
theorem kml_X7_297 : Cond.methodLink RX7 297 yX1_keep ∈ qw_big := qm_23 _ (List.mem_of_getElem? (i := 3) rfl)
theorem kin_X1_keep : Cond.instanceMethod yX1_keep ∈ qw_big := qm_23 _ (List.mem_of_getElem? (i := 4) rfl)
theorem kse_X1_keep : Cond.selects RX1 yX1_keep yX1_keep ∈ qw_big := qm_23 _ (List.mem_of_getElem? (i := 5) rfl)
theorem kini_X1 : Cond.initialized RX1 ∈ qw_big := qm_23 _ (List.mem_of_getElem? (i := 6) rfl)
theorem kco_X7_buy : Cond.code yX7_buy cX7_buy 7 (some .int) ∈ qw_big := qm_23 _ (List.mem_of_getElem? (i := 7) rfl)
theorem kml_X7_301 : Cond.methodLink RX7 301 yX7_pay ∈ qw_big := qm_23 _ (List.mem_of_getElem? (i := 8) rfl)
theorem kin_X7_pay : Cond.instanceMethod yX7_pay ∈ qw_big := qm_23 _ (List.mem_of_getElem? (i := 9) rfl)
theorem kse_X7_pay : Cond.selects RX7 yX7_pay yX7_pay ∈ qw_big := qm_23 _ (List.mem_of_getElem? (i := 10) rfl)
theorem kco_X7_pay : Cond.code yX7_pay cX7_pay 7 none ∈ qw_big := qm_23 _ (List.mem_of_getElem? (i := 11) rfl)
theorem kml_X7_305 : Cond.methodLink RX7 305 yX7_spend ∈ qw_big := qm_23 _ (List.mem_of_getElem? (i := 12) rfl)
theorem kin_X7_spend : Cond.instanceMethod yX7_spend ∈ qw_big := qm_23 _ (List.mem_of_getElem? (i := 13) rfl)
theorem kse_X7_spend : Cond.selects RX7 yX7_spend yX7_spend ∈ qw_big := qm_23 _ (List.mem_of_getElem? (i := 14) rfl)
theorem kco_X7_spend : Cond.code yX7_spend cX7_spend 4 none ∈ qw_big := qm_23 _ (List.mem_of_getElem? (i := 15) rfl)
theorem kco_X7_deliver : Cond.code yX7_deliver cX7_deliver 7 (some .int) ∈ qw_big := qm_23 _ (List.mem_of_getElem? (i := 16) rfl)
theorem kco_X7_endPeriodOf : Cond.code yX7_endPeriodOf cX7_endPeriodOf 4 (some .int) ∈ qw_big := qm_23 _ (List.mem_of_getElem? (i := 17) rfl)
theorem kco_X7_errorPosition : Cond.code yX7_errorPosition cX7_errorPosition 1 (some .int) ∈ qw_big := qm_23 _ (List.mem_of_getElem? (i := 18) rfl)
theorem kl_X7_55 : Cond.fieldLink RX7 55 "RationOffice" "errorAt" "I" ∈ qw_big := qm_23 _ (List.mem_of_getElem? (i := 19) rfl)
theorem kco_X7_exchangeWithLoader : Cond.code yX7_exchangeWithLoader cX7_exchangeWithLoader 3 none ∈ qw_big := qm_23 _ (List.mem_of_getElem? (i := 20) rfl)
theorem kl_X7_16 : Cond.fieldLink RX7 16 "RationOffice" "loader" "LRationOffice$Loader;" ∈ qw_big := qm_23 _ (List.mem_of_getElem? (i := 21) rfl)
theorem kl_X7_79 : Cond.fieldLink RX7 79 "RationOffice$Loader" "plan" "LRationOffice$Plan;" ∈ qw_big := qm_23 _ (List.mem_of_getElem? (i := 22) rfl)
theorem kl_X7_80 : Cond.fieldLink RX7 80 "RationOffice$Loader" "state" "LRationOffice$State;" ∈ qw_big := qm_23 _ (List.mem_of_getElem? (i := 23) rfl)
theorem kco_X7_feed : Cond.code yX7_feed cX7_feed 6 (some .int) ∈ qw_big := qm_23 _ (List.mem_of_getElem? (i := 24) rfl)
theorem kml_X7_58 : Cond.methodLink RX7 58 yX7_append ∈ qw_big := qm_23 _ (List.mem_of_getElem? (i := 25) rfl)
theorem kin_X7_append : Cond.instanceMethod yX7_append ∈ qw_big := qm_23 _ (List.mem_of_getElem? (i := 26) rfl)
theorem kse_X7_append : Cond.selects RX7 yX7_append yX7_append ∈ qw_big := qm_23 _ (List.mem_of_getElem? (i := 27) rfl)
theorem kco_X7_getSetting : Cond.code yX7_getSetting cX7_getSetting 2 (some .int) ∈ qw_big := qm_23 _ (List.mem_of_getElem? (i := 28) rfl)
theorem kml_X7_156 : Cond.methodLink RX7 156 yX7_isSetting ∈ qw_big := qm_23 _ (List.mem_of_getElem? (i := 29) rfl)
theorem kst_X7_isSetting : Cond.static yX7_isSetting ∈ qw_big := qm_24 _ (List.mem_of_getElem? (i := 0) rfl)
theorem kco_X7_isSetting : Cond.code yX7_isSetting cX7_isSetting 1 (some .boolean) ∈ qw_big := qm_24 _ (List.mem_of_getElem? (i := 1) rfl)
theorem kco_X7_goodCount : Cond.code yX7_goodCount cX7_goodCount 1 (some .int) ∈ qw_big := qm_24 _ (List.mem_of_getElem? (i := 2) rfl)
theorem kco_X7_goodNamed : Cond.code yX7_goodNamed cX7_goodNamed 2 (some .int) ∈ qw_big := qm_24 _ (List.mem_of_getElem? (i := 3) rfl)
theorem kl_X7_106 : Cond.fieldLink RX7 106 "RationOffice$Plan" "goodNames" "[I" ∈ qw_big := qm_24 _ (List.mem_of_getElem? (i := 4) rfl)
theorem kml_X7_102 : Cond.methodLink RX7 102 yX3_find ∈ qw_big := qm_24 _ (List.mem_of_getElem? (i := 5) rfl)
theorem kco_X7_groupCount : Cond.code yX7_groupCount cX7_groupCount 1 (some .int) ∈ qw_big := qm_24 _ (List.mem_of_getElem? (i := 6) rfl)
theorem kco_X7_groupNamed : Cond.code yX7_groupNamed cX7_groupNamed 2 (some .int) ∈ qw_big := qm_24 _ (List.mem_of_getElem? (i := 7) rfl)
theorem kl_X7_99 : Cond.fieldLink RX7 99 "RationOffice$Plan" "groupNames" "[I" ∈ qw_big := qm_24 _ (List.mem_of_getElem? (i := 8) rfl)
theorem kco_X7_houseCount : Cond.code yX7_houseCount cX7_houseCount 1 (some .int) ∈ qw_big := qm_24 _ (List.mem_of_getElem? (i := 9) rfl)
theorem kco_X7_houseNamed : Cond.code yX7_houseNamed cX7_houseNamed 2 (some .int) ∈ qw_big := qm_24 _ (List.mem_of_getElem? (i := 10) rfl)
theorem kl_X7_109 : Cond.fieldLink RX7 109 "RationOffice$Plan" "houseNames" "[I" ∈ qw_big := qm_24 _ (List.mem_of_getElem? (i := 11) rfl)
theorem kco_X7_init : Cond.code yX7_init cX7_init 1 none ∈ qw_big := qm_24 _ (List.mem_of_getElem? (i := 12) rfl)
theorem kml_X7_3 : Cond.methodLink RX7 3 objectInit ∈ qw_big := qm_24 _ (List.mem_of_getElem? (i := 13) rfl)
theorem kcl_X7_13 : Cond.classLink RX7 13 RX2 ∈ qw_big := qm_24 _ (List.mem_of_getElem? (i := 14) rfl)
theorem kinst_X2 : Cond.instantiable RX2 6 ∈ qw_big := qm_24 _ (List.mem_of_getElem? (i := 15) rfl)
theorem kcl_X7_20 : Cond.classLink RX7 20 RX1 ∈ qw_big := qm_24 _ (List.mem_of_getElem? (i := 16) rfl)
theorem kinst_X1 : Cond.instantiable RX1 3 ∈ qw_big := qm_24 _ (List.mem_of_getElem? (i := 17) rfl)
theorem kcl_X7_27 : Cond.classLink RX7 27 RX0 ∈ qw_big := qm_24 _ (List.mem_of_getElem? (i := 18) rfl)
theorem kinst_X0 : Cond.instantiable RX0 4 ∈ qw_big := qm_24 _ (List.mem_of_getElem? (i := 19) rfl)
theorem kcl_X7_37 : Cond.classLink RX7 37 RX3 ∈ qw_big := qm_24 _ (List.mem_of_getElem? (i := 20) rfl)
theorem kcl_X7_44 : Cond.classLink RX7 44 RX5 ∈ qw_big := qm_24 _ (List.mem_of_getElem? (i := 21) rfl)
theorem kin_X2_init : Cond.instanceMethod yX2_init ∈ qw_big := qm_24 _ (List.mem_of_getElem? (i := 22) rfl)
theorem kml_X7_22 : Cond.methodLink RX7 22 yX1_init ∈ qw_big := qm_24 _ (List.mem_of_getElem? (i := 23) rfl)
theorem kin_X1_init : Cond.instanceMethod yX1_init ∈ qw_big := qm_24 _ (List.mem_of_getElem? (i := 24) rfl)
theorem kin_X0_init : Cond.instanceMethod yX0_init ∈ qw_big := qm_24 _ (List.mem_of_getElem? (i := 25) rfl)
theorem kml_X7_46 : Cond.methodLink RX7 46 yX5_init ∈ qw_big := qm_24 _ (List.mem_of_getElem? (i := 26) rfl)
theorem kco_X7_issueToAll : Cond.code yX7_issueToAll cX7_issueToAll 4 none ∈ qw_big := qm_24 _ (List.mem_of_getElem? (i := 27) rfl)
theorem kco_X7_load : Cond.code yX7_load cX7_load 3 (some .int) ∈ qw_big := qm_24 _ (List.mem_of_getElem? (i := 28) rfl)
theorem kl_X7_66 : Cond.fieldLink RX7 66 "RationOffice$Loader" "errorAt" "I" ∈ qw_big := qm_24 _ (List.mem_of_getElem? (i := 29) rfl)
theorem kl_X7_67 : Cond.fieldLink RX7 67 "RationOffice$Loader" "error" "I" ∈ qw_big := qm_25 _ (List.mem_of_getElem? (i := 0) rfl)
theorem kml_X7_62 : Cond.methodLink RX7 62 yX2_read ∈ qw_big := qm_25 _ (List.mem_of_getElem? (i := 1) rfl)
theorem kin_X2_read : Cond.instanceMethod yX2_read ∈ qw_big := qm_25 _ (List.mem_of_getElem? (i := 2) rfl)
theorem kse_X2_read : Cond.selects RX2 yX2_read yX2_read ∈ qw_big := qm_25 _ (List.mem_of_getElem? (i := 3) rfl)
theorem kml_X7_70 : Cond.methodLink RX7 70 yX7_exchangeWithLoader ∈ qw_big := qm_25 _ (List.mem_of_getElem? (i := 4) rfl)
theorem kin_X7_exchangeWithLoader : Cond.instanceMethod yX7_exchangeWithLoader ∈ qw_big := qm_25 _ (List.mem_of_getElem? (i := 5) rfl)
theorem kse_X7_exchangeWithLoader : Cond.selects RX7 yX7_exchangeWithLoader yX7_exchangeWithLoader ∈ qw_big := qm_25 _ (List.mem_of_getElem? (i := 6) rfl)
theorem kml_X7_73 : Cond.methodLink RX7 73 yX1_forget ∈ qw_big := qm_25 _ (List.mem_of_getElem? (i := 7) rfl)
theorem kin_X1_forget : Cond.instanceMethod yX1_forget ∈ qw_big := qm_25 _ (List.mem_of_getElem? (i := 8) rfl)
theorem kse_X1_forget : Cond.selects RX1 yX1_forget yX1_forget ∈ qw_big := qm_25 _ (List.mem_of_getElem? (i := 9) rfl)
theorem kml_X7_76 : Cond.methodLink RX7 76 yX7_issueToAll ∈ qw_big := qm_25 _ (List.mem_of_getElem? (i := 10) rfl)
theorem kin_X7_issueToAll : Cond.instanceMethod yX7_issueToAll ∈ qw_big := qm_25 _ (List.mem_of_getElem? (i := 11) rfl)
theorem kse_X7_issueToAll : Cond.selects RX7 yX7_issueToAll yX7_issueToAll ∈ qw_big := qm_25 _ (List.mem_of_getElem? (i := 12) rfl)
theorem kco_X7_nextPeriod : Cond.code yX7_nextPeriod cX7_nextPeriod 3 (some .int) ∈ qw_big := qm_25 _ (List.mem_of_getElem? (i := 13) rfl)
theorem kl_X7_96 : Cond.fieldLink RX7 96 "RationOffice$State" "period" "I" ∈ qw_big := qm_25 _ (List.mem_of_getElem? (i := 14) rfl)
theorem kml_X7_317 : Cond.methodLink RX7 317 yX7_endPeriodOf ∈ qw_big := qm_25 _ (List.mem_of_getElem? (i := 15) rfl)
theorem kin_X7_endPeriodOf : Cond.instanceMethod yX7_endPeriodOf ∈ qw_big := qm_25 _ (List.mem_of_getElem? (i := 16) rfl)
theorem kse_X7_endPeriodOf : Cond.selects RX7 yX7_endPeriodOf yX7_endPeriodOf ∈ qw_big := qm_25 _ (List.mem_of_getElem? (i := 17) rfl)
theorem kml_X7_320 : Cond.methodLink RX7 320 yJ7_fill_53178 ∈ qw_big := qm_25 _ (List.mem_of_getElem? (i := 18) rfl)
theorem kco_X7_pardon : Cond.code yX7_pardon cX7_pardon 3 (some .int) ∈ qw_big := qm_25 _ (List.mem_of_getElem? (i := 19) rfl)
theorem kco_X7_period : Cond.code yX7_period cX7_period 1 (some .int) ∈ qw_big := qm_25 _ (List.mem_of_getElem? (i := 20) rfl)
theorem kco_X7_setRation : Cond.code yX7_setRation cX7_setRation 4 (some .int) ∈ qw_big := qm_25 _ (List.mem_of_getElem? (i := 21) rfl)
theorem kco_X7_setSetting : Cond.code yX7_setSetting cX7_setSetting 4 (some .int) ∈ qw_big := qm_25 _ (List.mem_of_getElem? (i := 22) rfl)
theorem kl_X7_332 : Cond.fieldLink RX7 332 "RationOffice" "GREATEST_SETTINGS" "[I" ∈ qw_big := qm_25 _ (List.mem_of_getElem? (i := 23) rfl)
theorem kco_X7_setSize : Cond.code yX7_setSize cX7_setSize 4 (some .int) ∈ qw_big := qm_25 _ (List.mem_of_getElem? (i := 24) rfl)
theorem kco_X7_shopCount : Cond.code yX7_shopCount cX7_shopCount 1 (some .int) ∈ qw_big := qm_25 _ (List.mem_of_getElem? (i := 25) rfl)
theorem kco_X7_shopNamed : Cond.code yX7_shopNamed cX7_shopNamed 2 (some .int) ∈ qw_big := qm_25 _ (List.mem_of_getElem? (i := 26) rfl)
theorem kl_X7_112 : Cond.fieldLink RX7 112 "RationOffice$Plan" "shopNames" "[I" ∈ qw_big := qm_25 _ (List.mem_of_getElem? (i := 27) rfl)
theorem kco_X7_trade : Cond.code yX7_trade cX7_trade 5 (some .int) ∈ qw_big := qm_25 _ (List.mem_of_getElem? (i := 28) rfl)
theorem kml_X7_310 : Cond.methodLink RX7 310 yX4_move ∈ qw_big := qm_25 _ (List.mem_of_getElem? (i := 29) rfl)
theorem kst_X4_move : Cond.static yX4_move ∈ qw_big := qm_26 _ (List.mem_of_getElem? (i := 0) rfl)
theorem kco_X7_undo : Cond.code yX7_undo cX7_undo 1 (some .int) ∈ qw_big := qm_26 _ (List.mem_of_getElem? (i := 1) rfl)
theorem kl_X7_93 : Cond.fieldLink RX7 93 "RationOffice$History" "kept" "I" ∈ qw_big := qm_26 _ (List.mem_of_getElem? (i := 2) rfl)
theorem kml_X7_335 : Cond.methodLink RX7 335 yX1_bringBack ∈ qw_big := qm_26 _ (List.mem_of_getElem? (i := 3) rfl)
theorem kin_X1_bringBack : Cond.instanceMethod yX1_bringBack ∈ qw_big := qm_26 _ (List.mem_of_getElem? (i := 4) rfl)
theorem kse_X1_bringBack : Cond.selects RX1 yX1_bringBack yX1_bringBack ∈ qw_big := qm_26 _ (List.mem_of_getElem? (i := 5) rfl)
theorem kco_X7_undoCount : Cond.code yX7_undoCount cX7_undoCount 1 (some .int) ∈ qw_big := qm_26 _ (List.mem_of_getElem? (i := 6) rfl)
theorem kco_X8_accountOf : Cond.code yX8_accountOf cX8_accountOf 3 (some .int) ∈ qw_big := qm_26 _ (List.mem_of_getElem? (i := 7) rfl)
theorem kl_X8_7 : Cond.fieldLink RX8 7 "RationOfficeModel" "data" "[I" ∈ qw_big := qm_26 _ (List.mem_of_getElem? (i := 8) rfl)
theorem kml_X8_254 : Cond.methodLink RX8 254 yX8_isShop ∈ qw_big := qm_26 _ (List.mem_of_getElem? (i := 9) rfl)
theorem kin_X8_isShop : Cond.instanceMethod yX8_isShop ∈ qw_big := qm_26 _ (List.mem_of_getElem? (i := 10) rfl)
theorem kse_X8_isShop : Cond.selects RX8 yX8_isShop yX8_isShop ∈ qw_big := qm_26 _ (List.mem_of_getElem? (i := 11) rfl)
theorem kini_X8 : Cond.initialized RX8 ∈ qw_big := qm_26 _ (List.mem_of_getElem? (i := 12) rfl)
theorem kco_X8_isShop : Cond.code yX8_isShop cX8_isShop 2 (some .boolean) ∈ qw_big := qm_26 _ (List.mem_of_getElem? (i := 13) rfl)
theorem kl_X8_19 : Cond.fieldLink RX8 19 "RationOfficeModel" "fixed" "[I" ∈ qw_big := qm_26 _ (List.mem_of_getElem? (i := 14) rfl)
theorem kml_X8_85 : Cond.methodLink RX8 85 yX8_inRange ∈ qw_big := qm_26 _ (List.mem_of_getElem? (i := 15) rfl)
theorem kst_X8_inRange : Cond.static yX8_inRange ∈ qw_big := qm_26 _ (List.mem_of_getElem? (i := 16) rfl)
theorem kco_X8_inRange : Cond.code yX8_inRange cX8_inRange 3 (some .boolean) ∈ qw_big := qm_26 _ (List.mem_of_getElem? (i := 17) rfl)
theorem kml_X8_197 : Cond.methodLink RX8 197 yX8_isGroup ∈ qw_big := qm_26 _ (List.mem_of_getElem? (i := 18) rfl)
theorem kin_X8_isGroup : Cond.instanceMethod yX8_isGroup ∈ qw_big := qm_26 _ (List.mem_of_getElem? (i := 19) rfl)
theorem kse_X8_isGroup : Cond.selects RX8 yX8_isGroup yX8_isGroup ∈ qw_big := qm_26 _ (List.mem_of_getElem? (i := 20) rfl)
theorem kco_X8_isGroup : Cond.code yX8_isGroup cX8_isGroup 2 (some .boolean) ∈ qw_big := qm_26 _ (List.mem_of_getElem? (i := 21) rfl)
theorem kml_X8_201 : Cond.methodLink RX8 201 yX8_fails ∈ qw_big := qm_26 _ (List.mem_of_getElem? (i := 22) rfl)
theorem kin_X8_fails : Cond.instanceMethod yX8_fails ∈ qw_big := qm_26 _ (List.mem_of_getElem? (i := 23) rfl)
theorem kse_X8_fails : Cond.selects RX8 yX8_fails yX8_fails ∈ qw_big := qm_26 _ (List.mem_of_getElem? (i := 24) rfl)
theorem kco_X8_fails : Cond.code yX8_fails cX8_fails 2 (some .boolean) ∈ qw_big := qm_26 _ (List.mem_of_getElem? (i := 25) rfl)
theorem kl_X8_49 : Cond.fieldLink RX8 49 "RationOfficeModel" "thrown" "I" ∈ qw_big := qm_26 _ (List.mem_of_getElem? (i := 26) rfl)
theorem kco_X8_advance : Cond.code yX8_advance cX8_advance 2 none ∈ qw_big := qm_26 _ (List.mem_of_getElem? (i := 27) rfl)
theorem kl_X8_62 : Cond.fieldLink RX8 62 "RationOfficeModel" "next" "I" ∈ qw_big := qm_26 _ (List.mem_of_getElem? (i := 28) rfl)
theorem kl_X8_72 : Cond.fieldLink RX8 72 "RationOfficeModel" "tokenStart" "I" ∈ qw_big := qm_26 _ (List.mem_of_getElem? (i := 29) rfl)
theorem kl_X8_75 : Cond.fieldLink RX8 75 "RationOfficeModel" "word" "J" ∈ qw_big := qm_27 _ (List.mem_of_getElem? (i := 0) rfl)
theorem kl_X8_79 : Cond.fieldLink RX8 79 "RationOfficeModel" "integer" "I" ∈ qw_big := qm_27 _ (List.mem_of_getElem? (i := 1) rfl)
theorem kl_X8_82 : Cond.fieldLink RX8 82 "RationOfficeModel" "token" "I" ∈ qw_big := qm_27 _ (List.mem_of_getElem? (i := 2) rfl)
theorem kct_X8_89 : Cond.constant RX8 89 (100000000) ∈ qw_big := qm_27 _ (List.mem_of_getElem? (i := 3) rfl)
theorem kct_X8_90 : Cond.constant RX8 90 (1000000000) ∈ qw_big := qm_27 _ (List.mem_of_getElem? (i := 4) rfl)
theorem kml_X8_68 : Cond.methodLink RX8 68 yX8_peek ∈ qw_big := qm_27 _ (List.mem_of_getElem? (i := 5) rfl)
theorem kin_X8_peek : Cond.instanceMethod yX8_peek ∈ qw_big := qm_27 _ (List.mem_of_getElem? (i := 6) rfl)
theorem kse_X8_peek : Cond.selects RX8 yX8_peek yX8_peek ∈ qw_big := qm_27 _ (List.mem_of_getElem? (i := 7) rfl)
theorem kco_X8_peek : Cond.code yX8_peek cX8_peek 1 (some .int) ∈ qw_big := qm_27 _ (List.mem_of_getElem? (i := 8) rfl)
theorem kl_X8_65 : Cond.fieldLink RX8 65 "RationOfficeModel" "end" "I" ∈ qw_big := qm_27 _ (List.mem_of_getElem? (i := 9) rfl)
theorem kl_X8_25 : Cond.fieldLink RX8 25 "RationOfficeModel" "buffer" "[B" ∈ qw_big := qm_27 _ (List.mem_of_getElem? (i := 10) rfl)
theorem kco_X8_advanceIfGood : Cond.code yX8_advanceIfGood cX8_advanceIfGood 1 none ∈ qw_big := qm_27 _ (List.mem_of_getElem? (i := 11) rfl)
theorem kl_X8_91 : Cond.fieldLink RX8 91 "RationOfficeModel" "error" "I" ∈ qw_big := qm_27 _ (List.mem_of_getElem? (i := 12) rfl)
theorem kml_X8_94 : Cond.methodLink RX8 94 yX8_advance ∈ qw_big := qm_27 _ (List.mem_of_getElem? (i := 13) rfl)
theorem kin_X8_advance : Cond.instanceMethod yX8_advance ∈ qw_big := qm_27 _ (List.mem_of_getElem? (i := 14) rfl)
theorem kse_X8_advance : Cond.selects RX8 yX8_advance yX8_advance ∈ qw_big := qm_27 _ (List.mem_of_getElem? (i := 15) rfl)
theorem kco_X8_append : Cond.code yX8_append cX8_append 3 none ∈ qw_big := qm_27 _ (List.mem_of_getElem? (i := 16) rfl)
theorem kl_X8_55 : Cond.fieldLink RX8 55 "RationOfficeModel" "bufferSize" "I" ∈ qw_big := qm_27 _ (List.mem_of_getElem? (i := 17) rfl)
theorem kco_X8_at : Cond.code yX8_at cX8_at 2 (some .int) ∈ qw_big := qm_27 _ (List.mem_of_getElem? (i := 18) rfl)
theorem kco_X8_audit : Cond.code yX8_audit cX8_audit 5 (some .int) ∈ qw_big := qm_27 _ (List.mem_of_getElem? (i := 19) rfl)
theorem kct_X8_277 : Cond.constant RX8 277 (99999) ∈ qw_big := qm_27 _ (List.mem_of_getElem? (i := 20) rfl)
theorem kml_X8_205 : Cond.methodLink RX8 205 yX8_isGood ∈ qw_big := qm_27 _ (List.mem_of_getElem? (i := 21) rfl)
theorem kin_X8_isGood : Cond.instanceMethod yX8_isGood ∈ qw_big := qm_27 _ (List.mem_of_getElem? (i := 22) rfl)
theorem kse_X8_isGood : Cond.selects RX8 yX8_isGood yX8_isGood ∈ qw_big := qm_27 _ (List.mem_of_getElem? (i := 23) rfl)
theorem kco_X8_isGood : Cond.code yX8_isGood cX8_isGood 2 (some .boolean) ∈ qw_big := qm_27 _ (List.mem_of_getElem? (i := 24) rfl)
theorem kml_X8_235 : Cond.methodLink RX8 235 yX8_remember ∈ qw_big := qm_27 _ (List.mem_of_getElem? (i := 25) rfl)
theorem kin_X8_remember : Cond.instanceMethod yX8_remember ∈ qw_big := qm_27 _ (List.mem_of_getElem? (i := 26) rfl)
theorem kse_X8_remember : Cond.selects RX8 yX8_remember yX8_remember ∈ qw_big := qm_27 _ (List.mem_of_getElem? (i := 27) rfl)
theorem kco_X8_remember : Cond.code yX8_remember cX8_remember 2 none ∈ qw_big := qm_27 _ (List.mem_of_getElem? (i := 28) rfl)
theorem kl_X8_52 : Cond.fieldLink RX8 52 "RationOfficeModel" "historySize" "I" ∈ qw_big := qm_27 _ (List.mem_of_getElem? (i := 29) rfl)
theorem kl_X8_16 : Cond.fieldLink RX8 16 "RationOfficeModel" "history" "[I" ∈ qw_big := qm_28 _ (List.mem_of_getElem? (i := 0) rfl)
theorem kco_X8_basketCost : Cond.code yX8_basketCost cX8_basketCost 4 (some .int) ∈ qw_big := qm_28 _ (List.mem_of_getElem? (i := 1) rfl)
theorem kml_X8_208 : Cond.methodLink RX8 208 yX8_isHouse ∈ qw_big := qm_28 _ (List.mem_of_getElem? (i := 2) rfl)
theorem kin_X8_isHouse : Cond.instanceMethod yX8_isHouse ∈ qw_big := qm_28 _ (List.mem_of_getElem? (i := 3) rfl)
theorem kse_X8_isHouse : Cond.selects RX8 yX8_isHouse yX8_isHouse ∈ qw_big := qm_28 _ (List.mem_of_getElem? (i := 4) rfl)
theorem kco_X8_isHouse : Cond.code yX8_isHouse cX8_isHouse 2 (some .boolean) ∈ qw_big := qm_28 _ (List.mem_of_getElem? (i := 5) rfl)
theorem kml_X8_297 : Cond.methodLink RX8 297 yX8_layBasket ∈ qw_big := qm_28 _ (List.mem_of_getElem? (i := 6) rfl)
theorem kin_X8_layBasket : Cond.instanceMethod yX8_layBasket ∈ qw_big := qm_28 _ (List.mem_of_getElem? (i := 7) rfl)
theorem kse_X8_layBasket : Cond.selects RX8 yX8_layBasket yX8_layBasket ∈ qw_big := qm_28 _ (List.mem_of_getElem? (i := 8) rfl)
theorem kco_X8_layBasket : Cond.code yX8_layBasket cX8_layBasket 4 (some .int) ∈ qw_big := qm_28 _ (List.mem_of_getElem? (i := 9) rfl)
theorem kml_X8_257 : Cond.methodLink RX8 257 yX8_isSuspendedNow ∈ qw_big := qm_28 _ (List.mem_of_getElem? (i := 10) rfl)
theorem kin_X8_isSuspendedNow : Cond.instanceMethod yX8_isSuspendedNow ∈ qw_big := qm_28 _ (List.mem_of_getElem? (i := 11) rfl)
theorem kse_X8_isSuspendedNow : Cond.selects RX8 yX8_isSuspendedNow yX8_isSuspendedNow ∈ qw_big := qm_28 _ (List.mem_of_getElem? (i := 12) rfl)
theorem kco_X8_isSuspendedNow : Cond.code yX8_isSuspendedNow cX8_isSuspendedNow 2 (some .boolean) ∈ qw_big := qm_28 _ (List.mem_of_getElem? (i := 13) rfl)
theorem kml_X8_291 : Cond.methodLink RX8 291 yX8_isTooLarge ∈ qw_big := qm_28 _ (List.mem_of_getElem? (i := 14) rfl)
theorem kin_X8_isTooLarge : Cond.instanceMethod yX8_isTooLarge ∈ qw_big := qm_28 _ (List.mem_of_getElem? (i := 15) rfl)
theorem kse_X8_isTooLarge : Cond.selects RX8 yX8_isTooLarge yX8_isTooLarge ∈ qw_big := qm_28 _ (List.mem_of_getElem? (i := 16) rfl)
theorem kco_X8_isTooLarge : Cond.code yX8_isTooLarge cX8_isTooLarge 3 (some .boolean) ∈ qw_big := qm_28 _ (List.mem_of_getElem? (i := 17) rfl)
theorem kml_X8_214 : Cond.methodLink RX8 214 yX8_couponsOf ∈ qw_big := qm_28 _ (List.mem_of_getElem? (i := 18) rfl)
theorem kin_X8_couponsOf : Cond.instanceMethod yX8_couponsOf ∈ qw_big := qm_28 _ (List.mem_of_getElem? (i := 19) rfl)
theorem kse_X8_couponsOf : Cond.selects RX8 yX8_couponsOf yX8_couponsOf ∈ qw_big := qm_28 _ (List.mem_of_getElem? (i := 20) rfl)
theorem kco_X8_couponsOf : Cond.code yX8_couponsOf cX8_couponsOf 5 (some .int) ∈ qw_big := qm_28 _ (List.mem_of_getElem? (i := 21) rfl)
theorem kml_X8_211 : Cond.methodLink RX8 211 yX8_at ∈ qw_big := qm_28 _ (List.mem_of_getElem? (i := 22) rfl)
theorem kst_X8_at : Cond.static yX8_at ∈ qw_big := qm_28 _ (List.mem_of_getElem? (i := 23) rfl)
theorem kml_X8_294 : Cond.methodLink RX8 294 yX8_fillBasket ∈ qw_big := qm_28 _ (List.mem_of_getElem? (i := 24) rfl)
theorem kin_X8_fillBasket : Cond.instanceMethod yX8_fillBasket ∈ qw_big := qm_28 _ (List.mem_of_getElem? (i := 25) rfl)
theorem kse_X8_fillBasket : Cond.selects RX8 yX8_fillBasket yX8_fillBasket ∈ qw_big := qm_28 _ (List.mem_of_getElem? (i := 26) rfl)
theorem kco_X8_fillBasket : Cond.code yX8_fillBasket cX8_fillBasket 7 none ∈ qw_big := qm_28 _ (List.mem_of_getElem? (i := 27) rfl)
theorem kl_X8_36 : Cond.fieldLink RX8 36 "RationOfficeModel" "worth" "[I" ∈ qw_big := qm_28 _ (List.mem_of_getElem? (i := 28) rfl)
theorem kl_X8_39 : Cond.fieldLink RX8 39 "RationOfficeModel" "basket" "[I" ∈ qw_big := qm_28 _ (List.mem_of_getElem? (i := 29) rfl)
theorem kml_X8_287 : Cond.methodLink RX8 287 yX8_layWorth ∈ qw_big := qm_29 _ (List.mem_of_getElem? (i := 0) rfl)
theorem kin_X8_layWorth : Cond.instanceMethod yX8_layWorth ∈ qw_big := qm_29 _ (List.mem_of_getElem? (i := 1) rfl)
theorem kse_X8_layWorth : Cond.selects RX8 yX8_layWorth yX8_layWorth ∈ qw_big := qm_29 _ (List.mem_of_getElem? (i := 2) rfl)
theorem kco_X8_layWorth : Cond.code yX8_layWorth cX8_layWorth 9 none ∈ qw_big := qm_29 _ (List.mem_of_getElem? (i := 3) rfl)
theorem kml_X8_281 : Cond.methodLink RX8 281 yX8_mostIn ∈ qw_big := qm_29 _ (List.mem_of_getElem? (i := 4) rfl)
theorem kin_X8_mostIn : Cond.instanceMethod yX8_mostIn ∈ qw_big := qm_29 _ (List.mem_of_getElem? (i := 5) rfl)
theorem kse_X8_mostIn : Cond.selects RX8 yX8_mostIn yX8_mostIn ∈ qw_big := qm_29 _ (List.mem_of_getElem? (i := 6) rfl)
theorem kco_X8_mostIn : Cond.code yX8_mostIn cX8_mostIn 4 (some .int) ∈ qw_big := qm_29 _ (List.mem_of_getElem? (i := 7) rfl)
theorem kml_X8_241 : Cond.methodLink RX8 241 yX8_lesser ∈ qw_big := qm_29 _ (List.mem_of_getElem? (i := 8) rfl)
theorem kst_X8_lesser : Cond.static yX8_lesser ∈ qw_big := qm_29 _ (List.mem_of_getElem? (i := 9) rfl)
theorem kco_X8_lesser : Cond.code yX8_lesser cX8_lesser 2 (some .int) ∈ qw_big := qm_29 _ (List.mem_of_getElem? (i := 10) rfl)
theorem kml_X8_284 : Cond.methodLink RX8 284 yX8_worthWith ∈ qw_big := qm_29 _ (List.mem_of_getElem? (i := 11) rfl)
theorem kin_X8_worthWith : Cond.instanceMethod yX8_worthWith ∈ qw_big := qm_29 _ (List.mem_of_getElem? (i := 12) rfl)
theorem kse_X8_worthWith : Cond.selects RX8 yX8_worthWith yX8_worthWith ∈ qw_big := qm_29 _ (List.mem_of_getElem? (i := 13) rfl)
theorem kco_X8_worthWith : Cond.code yX8_worthWith cX8_worthWith 4 (some .int) ∈ qw_big := qm_29 _ (List.mem_of_getElem? (i := 14) rfl)
theorem kml_X8_300 : Cond.methodLink RX8 300 yX8_costOfBasket ∈ qw_big := qm_29 _ (List.mem_of_getElem? (i := 15) rfl)
theorem kin_X8_costOfBasket : Cond.instanceMethod yX8_costOfBasket ∈ qw_big := qm_29 _ (List.mem_of_getElem? (i := 16) rfl)
theorem kse_X8_costOfBasket : Cond.selects RX8 yX8_costOfBasket yX8_costOfBasket ∈ qw_big := qm_29 _ (List.mem_of_getElem? (i := 17) rfl)
theorem kco_X8_costOfBasket : Cond.code yX8_costOfBasket cX8_costOfBasket 4 (some .int) ∈ qw_big := qm_29 _ (List.mem_of_getElem? (i := 18) rfl)
theorem kco_X8_basketLeft : Cond.code yX8_basketLeft cX8_basketLeft 5 (some .int) ∈ qw_big := qm_29 _ (List.mem_of_getElem? (i := 19) rfl)
theorem kco_X8_basketUnits : Cond.code yX8_basketUnits cX8_basketUnits 5 (some .int) ∈ qw_big := qm_29 _ (List.mem_of_getElem? (i := 20) rfl)
theorem kco_X8_basketValue : Cond.code yX8_basketValue cX8_basketValue 6 (some .int) ∈ qw_big := qm_29 _ (List.mem_of_getElem? (i := 21) rfl)
theorem kco_X8_begin : Cond.code yX8_begin cX8_begin 3 (some .int) ∈ qw_big := qm_29 _ (List.mem_of_getElem? (i := 22) rfl)
theorem kl_X8_22 : Cond.fieldLink RX8 22 "RationOfficeModel" "read" "[I" ∈ qw_big := qm_29 _ (List.mem_of_getElem? (i := 23) rfl)
theorem kml_X8_97 : Cond.methodLink RX8 97 yX8_check ∈ qw_big := qm_29 _ (List.mem_of_getElem? (i := 24) rfl)
theorem kin_X8_check : Cond.instanceMethod yX8_check ∈ qw_big := qm_29 _ (List.mem_of_getElem? (i := 25) rfl)
theorem kse_X8_check : Cond.selects RX8 yX8_check yX8_check ∈ qw_big := qm_29 _ (List.mem_of_getElem? (i := 26) rfl)
theorem kco_X8_check : Cond.code yX8_check cX8_check 3 none ∈ qw_big := qm_29 _ (List.mem_of_getElem? (i := 27) rfl)
theorem kl_X8_29 : Cond.fieldLink RX8 29 "RationOfficeModel" "errorAt" "I" ∈ qw_big := qm_29 _ (List.mem_of_getElem? (i := 28) rfl)
theorem kml_X8_101 : Cond.methodLink RX8 101 yX8_advanceIfGood ∈ qw_big := qm_29 _ (List.mem_of_getElem? (i := 29) rfl)
theorem kin_X8_advanceIfGood : Cond.instanceMethod yX8_advanceIfGood ∈ qw_big := qm_30 _ (List.mem_of_getElem? (i := 0) rfl)
theorem kse_X8_advanceIfGood : Cond.selects RX8 yX8_advanceIfGood yX8_advanceIfGood ∈ qw_big := qm_30 _ (List.mem_of_getElem? (i := 1) rfl)
theorem kml_X8_131 : Cond.methodLink RX8 131 yX8_readNewName ∈ qw_big := qm_30 _ (List.mem_of_getElem? (i := 2) rfl)
theorem kin_X8_readNewName : Cond.instanceMethod yX8_readNewName ∈ qw_big := qm_30 _ (List.mem_of_getElem? (i := 3) rfl)
theorem kse_X8_readNewName : Cond.selects RX8 yX8_readNewName yX8_readNewName ∈ qw_big := qm_30 _ (List.mem_of_getElem? (i := 4) rfl)
theorem kco_X8_readNewName : Cond.code yX8_readNewName cX8_readNewName 3 (some .int) ∈ qw_big := qm_30 _ (List.mem_of_getElem? (i := 5) rfl)
theorem kml_X8_124 : Cond.methodLink RX8 124 yX8_lettersHere ∈ qw_big := qm_30 _ (List.mem_of_getElem? (i := 6) rfl)
theorem kin_X8_lettersHere : Cond.instanceMethod yX8_lettersHere ∈ qw_big := qm_30 _ (List.mem_of_getElem? (i := 7) rfl)
theorem kse_X8_lettersHere : Cond.selects RX8 yX8_lettersHere yX8_lettersHere ∈ qw_big := qm_30 _ (List.mem_of_getElem? (i := 8) rfl)
theorem kco_X8_lettersHere : Cond.code yX8_lettersHere cX8_lettersHere 3 (some .int) ∈ qw_big := qm_30 _ (List.mem_of_getElem? (i := 9) rfl)
theorem kml_X8_120 : Cond.methodLink RX8 120 yX8_isKeyword ∈ qw_big := qm_30 _ (List.mem_of_getElem? (i := 10) rfl)
theorem kin_X8_isKeyword : Cond.instanceMethod yX8_isKeyword ∈ qw_big := qm_30 _ (List.mem_of_getElem? (i := 11) rfl)
theorem kse_X8_isKeyword : Cond.selects RX8 yX8_isKeyword yX8_isKeyword ∈ qw_big := qm_30 _ (List.mem_of_getElem? (i := 12) rfl)
theorem kco_X8_isKeyword : Cond.code yX8_isKeyword cX8_isKeyword 1 (some .boolean) ∈ qw_big := qm_30 _ (List.mem_of_getElem? (i := 13) rfl)
theorem kct_X8_104 : Cond.constantLong RX8 104 (7945904) ∈ qw_big := qm_30 _ (List.mem_of_getElem? (i := 14) rfl)
theorem kct_X8_106 : Cond.constantLong RX8 106 (646192) ∈ qw_big := qm_30 _ (List.mem_of_getElem? (i := 15) rfl)
theorem kct_X8_108 : Cond.constantLong RX8 108 (245220) ∈ qw_big := qm_30 _ (List.mem_of_getElem? (i := 16) rfl)
theorem kct_X8_110 : Cond.constantLong RX8 110 (8902245) ∈ qw_big := qm_30 _ (List.mem_of_getElem? (i := 17) rfl)
theorem kct_X8_112 : Cond.constantLong RX8 112 (631280) ∈ qw_big := qm_30 _ (List.mem_of_getElem? (i := 18) rfl)
theorem kct_X8_114 : Cond.constantLong RX8 114 (19636) ∈ qw_big := qm_30 _ (List.mem_of_getElem? (i := 19) rfl)
theorem kct_X8_116 : Cond.constantLong RX8 116 (239301) ∈ qw_big := qm_30 _ (List.mem_of_getElem? (i := 20) rfl)
theorem kct_X8_118 : Cond.constantLong RX8 118 (656741) ∈ qw_big := qm_30 _ (List.mem_of_getElem? (i := 21) rfl)
theorem kml_X8_127 : Cond.methodLink RX8 127 yX8_indexOf ∈ qw_big := qm_30 _ (List.mem_of_getElem? (i := 22) rfl)
theorem kst_X8_indexOf : Cond.static yX8_indexOf ∈ qw_big := qm_30 _ (List.mem_of_getElem? (i := 23) rfl)
theorem kco_X8_indexOf : Cond.code yX8_indexOf cX8_indexOf 4 (some .int) ∈ qw_big := qm_30 _ (List.mem_of_getElem? (i := 24) rfl)
theorem kco_X8_bestHouse : Cond.code yX8_bestHouse cX8_bestHouse 6 (some .int) ∈ qw_big := qm_30 _ (List.mem_of_getElem? (i := 25) rfl)
theorem kml_X8_274 : Cond.methodLink RX8 274 yX8_mostNow ∈ qw_big := qm_30 _ (List.mem_of_getElem? (i := 26) rfl)
theorem kin_X8_mostNow : Cond.instanceMethod yX8_mostNow ∈ qw_big := qm_30 _ (List.mem_of_getElem? (i := 27) rfl)
theorem kse_X8_mostNow : Cond.selects RX8 yX8_mostNow yX8_mostNow ∈ qw_big := qm_30 _ (List.mem_of_getElem? (i := 28) rfl)
theorem kco_X8_mostNow : Cond.code yX8_mostNow cX8_mostNow 7 (some .int) ∈ qw_big := qm_30 _ (List.mem_of_getElem? (i := 29) rfl)
theorem kml_X8_270 : Cond.methodLink RX8 270 yX8_reason ∈ qw_big := qm_31 _ (List.mem_of_getElem? (i := 0) rfl)
theorem kin_X8_reason : Cond.instanceMethod yX8_reason ∈ qw_big := qm_31 _ (List.mem_of_getElem? (i := 1) rfl)
theorem kse_X8_reason : Cond.selects RX8 yX8_reason yX8_reason ∈ qw_big := qm_31 _ (List.mem_of_getElem? (i := 2) rfl)
theorem kco_X8_reason : Cond.code yX8_reason cX8_reason 5 (some .int) ∈ qw_big := qm_31 _ (List.mem_of_getElem? (i := 3) rfl)
theorem kml_X8_263 : Cond.methodLink RX8 263 yX8_replaced ∈ qw_big := qm_31 _ (List.mem_of_getElem? (i := 4) rfl)
theorem kin_X8_replaced : Cond.instanceMethod yX8_replaced ∈ qw_big := qm_31 _ (List.mem_of_getElem? (i := 5) rfl)
theorem kse_X8_replaced : Cond.selects RX8 yX8_replaced yX8_replaced ∈ qw_big := qm_31 _ (List.mem_of_getElem? (i := 6) rfl)
theorem kco_X8_replaced : Cond.code yX8_replaced cX8_replaced 7 (some .int) ∈ qw_big := qm_31 _ (List.mem_of_getElem? (i := 7) rfl)
theorem kco_X8_bestShop : Cond.code yX8_bestShop cX8_bestShop 5 (some .int) ∈ qw_big := qm_31 _ (List.mem_of_getElem? (i := 8) rfl)
theorem kco_X8_buy : Cond.code yX8_buy cX8_buy 10 (some .int) ∈ qw_big := qm_31 _ (List.mem_of_getElem? (i := 9) rfl)
theorem kml_X8_267 : Cond.methodLink RX8 267 yX8_isUnits ∈ qw_big := qm_31 _ (List.mem_of_getElem? (i := 10) rfl)
theorem kst_X8_isUnits : Cond.static yX8_isUnits ∈ qw_big := qm_31 _ (List.mem_of_getElem? (i := 11) rfl)
theorem kco_X8_isUnits : Cond.code yX8_isUnits cX8_isUnits 1 (some .boolean) ∈ qw_big := qm_31 _ (List.mem_of_getElem? (i := 12) rfl)
theorem kml_X8_250 : Cond.methodLink RX8 250 yX8_takeCoupons ∈ qw_big := qm_31 _ (List.mem_of_getElem? (i := 13) rfl)
theorem kin_X8_takeCoupons : Cond.instanceMethod yX8_takeCoupons ∈ qw_big := qm_31 _ (List.mem_of_getElem? (i := 14) rfl)
theorem kse_X8_takeCoupons : Cond.selects RX8 yX8_takeCoupons yX8_takeCoupons ∈ qw_big := qm_31 _ (List.mem_of_getElem? (i := 15) rfl)
theorem kco_X8_takeCoupons : Cond.code yX8_takeCoupons cX8_takeCoupons 8 none ∈ qw_big := qm_31 _ (List.mem_of_getElem? (i := 16) rfl)
theorem kco_X8_canGive : Cond.code yX8_canGive cX8_canGive 3 (some .int) ∈ qw_big := qm_31 _ (List.mem_of_getElem? (i := 17) rfl)
theorem kml_X8_238 : Cond.methodLink RX8 238 yX8_room ∈ qw_big := qm_31 _ (List.mem_of_getElem? (i := 18) rfl)
theorem kin_X8_room : Cond.instanceMethod yX8_room ∈ qw_big := qm_31 _ (List.mem_of_getElem? (i := 19) rfl)
theorem kse_X8_room : Cond.selects RX8 yX8_room yX8_room ∈ qw_big := qm_31 _ (List.mem_of_getElem? (i := 20) rfl)
theorem kco_X8_room : Cond.code yX8_room cX8_room 3 (some .int) ∈ qw_big := qm_31 _ (List.mem_of_getElem? (i := 21) rfl)
theorem kco_X8_canTake : Cond.code yX8_canTake cX8_canTake 2 (some .int) ∈ qw_big := qm_31 _ (List.mem_of_getElem? (i := 22) rfl)
theorem kco_X8_carriedOf : Cond.code yX8_carriedOf cX8_carriedOf 3 (some .int) ∈ qw_big := qm_31 _ (List.mem_of_getElem? (i := 23) rfl)
theorem kco_X8_change : Cond.code yX8_change cX8_change 4 (some .int) ∈ qw_big := qm_31 _ (List.mem_of_getElem? (i := 24) rfl)
theorem kco_X8_clear : Cond.code yX8_clear cX8_clear 2 none ∈ qw_big := qm_31 _ (List.mem_of_getElem? (i := 25) rfl)
theorem kco_X8_countOf : Cond.code yX8_countOf cX8_countOf 2 (some .int) ∈ qw_big := qm_31 _ (List.mem_of_getElem? (i := 26) rfl)
theorem kco_X8_coupons : Cond.code yX8_coupons cX8_coupons 3 (some .int) ∈ qw_big := qm_31 _ (List.mem_of_getElem? (i := 27) rfl)
theorem kco_X8_couponsAfter : Cond.code yX8_couponsAfter cX8_couponsAfter 5 (some .int) ∈ qw_big := qm_31 _ (List.mem_of_getElem? (i := 28) rfl)
theorem kml_X8_223 : Cond.methodLink RX8 223 yX8_layLater ∈ qw_big := qm_31 _ (List.mem_of_getElem? (i := 29) rfl)
theorem kin_X8_layLater : Cond.instanceMethod yX8_layLater ∈ qw_big := qm_32 _ (List.mem_of_getElem? (i := 0) rfl)
theorem kse_X8_layLater : Cond.selects RX8 yX8_layLater yX8_layLater ∈ qw_big := qm_32 _ (List.mem_of_getElem? (i := 1) rfl)
theorem kco_X8_layLater : Cond.code yX8_layLater cX8_layLater 4 none ∈ qw_big := qm_32 _ (List.mem_of_getElem? (i := 2) rfl)
theorem kl_X8_33 : Cond.fieldLink RX8 33 "RationOfficeModel" "later" "[I" ∈ qw_big := qm_32 _ (List.mem_of_getElem? (i := 3) rfl)
theorem kml_X8_226 : Cond.methodLink RX8 226 yX8_passLater ∈ qw_big := qm_32 _ (List.mem_of_getElem? (i := 4) rfl)
theorem kin_X8_passLater : Cond.instanceMethod yX8_passLater ∈ qw_big := qm_32 _ (List.mem_of_getElem? (i := 5) rfl)
theorem kse_X8_passLater : Cond.selects RX8 yX8_passLater yX8_passLater ∈ qw_big := qm_32 _ (List.mem_of_getElem? (i := 6) rfl)
theorem kco_X8_passLater : Cond.code yX8_passLater cX8_passLater 4 none ∈ qw_big := qm_32 _ (List.mem_of_getElem? (i := 7) rfl)
theorem kml_X8_217 : Cond.methodLink RX8 217 yX8_carriedOf ∈ qw_big := qm_32 _ (List.mem_of_getElem? (i := 8) rfl)
theorem kin_X8_carriedOf : Cond.instanceMethod yX8_carriedOf ∈ qw_big := qm_32 _ (List.mem_of_getElem? (i := 9) rfl)
theorem kse_X8_carriedOf : Cond.selects RX8 yX8_carriedOf yX8_carriedOf ∈ qw_big := qm_32 _ (List.mem_of_getElem? (i := 10) rfl)
theorem kml_X8_220 : Cond.methodLink RX8 220 yX8_issueOf ∈ qw_big := qm_32 _ (List.mem_of_getElem? (i := 11) rfl)
theorem kin_X8_issueOf : Cond.instanceMethod yX8_issueOf ∈ qw_big := qm_32 _ (List.mem_of_getElem? (i := 12) rfl)
theorem kse_X8_issueOf : Cond.selects RX8 yX8_issueOf yX8_issueOf ∈ qw_big := qm_32 _ (List.mem_of_getElem? (i := 13) rfl)
theorem kco_X8_issueOf : Cond.code yX8_issueOf cX8_issueOf 3 (some .int) ∈ qw_big := qm_32 _ (List.mem_of_getElem? (i := 14) rfl)
theorem kml_X8_229 : Cond.methodLink RX8 229 yX8_sumLater ∈ qw_big := qm_32 _ (List.mem_of_getElem? (i := 15) rfl)
theorem kin_X8_sumLater : Cond.instanceMethod yX8_sumLater ∈ qw_big := qm_32 _ (List.mem_of_getElem? (i := 16) rfl)
theorem kse_X8_sumLater : Cond.selects RX8 yX8_sumLater yX8_sumLater ∈ qw_big := qm_32 _ (List.mem_of_getElem? (i := 17) rfl)
theorem kco_X8_sumLater : Cond.code yX8_sumLater cX8_sumLater 3 (some .int) ∈ qw_big := qm_32 _ (List.mem_of_getElem? (i := 18) rfl)
theorem kco_X8_couponsWith : Cond.code yX8_couponsWith cX8_couponsWith 4 (some .int) ∈ qw_big := qm_32 _ (List.mem_of_getElem? (i := 19) rfl)
theorem kco_X8_declare : Cond.code yX8_declare cX8_declare 3 none ∈ qw_big := qm_32 _ (List.mem_of_getElem? (i := 20) rfl)
theorem kco_X8_deliver : Cond.code yX8_deliver cX8_deliver 5 (some .int) ∈ qw_big := qm_32 _ (List.mem_of_getElem? (i := 21) rfl)
theorem kco_X8_deliveredTo : Cond.code yX8_deliveredTo cX8_deliveredTo 3 (some .int) ∈ qw_big := qm_32 _ (List.mem_of_getElem? (i := 22) rfl)
theorem kco_X8_errorPosition : Cond.code yX8_errorPosition cX8_errorPosition 1 (some .int) ∈ qw_big := qm_32 _ (List.mem_of_getElem? (i := 23) rfl)
theorem kco_X8_feed : Cond.code yX8_feed cX8_feed 6 (some .int) ∈ qw_big := qm_32 _ (List.mem_of_getElem? (i := 24) rfl)
theorem kml_X8_58 : Cond.methodLink RX8 58 yX8_append ∈ qw_big := qm_32 _ (List.mem_of_getElem? (i := 25) rfl)
theorem kin_X8_append : Cond.instanceMethod yX8_append ∈ qw_big := qm_32 _ (List.mem_of_getElem? (i := 26) rfl)
theorem kse_X8_append : Cond.selects RX8 yX8_append yX8_append ∈ qw_big := qm_32 _ (List.mem_of_getElem? (i := 27) rfl)
theorem kco_X8_find : Cond.code yX8_find cX8_find 3 (some .int) ∈ qw_big := qm_32 _ (List.mem_of_getElem? (i := 28) rfl)
theorem kco_X8_getSetting : Cond.code yX8_getSetting cX8_getSetting 2 (some .int) ∈ qw_big := qm_32 _ (List.mem_of_getElem? (i := 29) rfl)
theorem kco_X8_givenBy : Cond.code yX8_givenBy cX8_givenBy 2 (some .int) ∈ qw_big := qm_33 _ (List.mem_of_getElem? (i := 0) rfl)
theorem kco_X8_goodCount : Cond.code yX8_goodCount cX8_goodCount 1 (some .int) ∈ qw_big := qm_33 _ (List.mem_of_getElem? (i := 1) rfl)
theorem kml_X8_191 : Cond.methodLink RX8 191 yX8_countOf ∈ qw_big := qm_33 _ (List.mem_of_getElem? (i := 2) rfl)
theorem kin_X8_countOf : Cond.instanceMethod yX8_countOf ∈ qw_big := qm_33 _ (List.mem_of_getElem? (i := 3) rfl)
theorem kse_X8_countOf : Cond.selects RX8 yX8_countOf yX8_countOf ∈ qw_big := qm_33 _ (List.mem_of_getElem? (i := 4) rfl)
theorem kco_X8_goodNamed : Cond.code yX8_goodNamed cX8_goodNamed 2 (some .int) ∈ qw_big := qm_33 _ (List.mem_of_getElem? (i := 5) rfl)
theorem kml_X8_194 : Cond.methodLink RX8 194 yX8_find ∈ qw_big := qm_33 _ (List.mem_of_getElem? (i := 6) rfl)
theorem kin_X8_find : Cond.instanceMethod yX8_find ∈ qw_big := qm_33 _ (List.mem_of_getElem? (i := 7) rfl)
theorem kse_X8_find : Cond.selects RX8 yX8_find yX8_find ∈ qw_big := qm_33 _ (List.mem_of_getElem? (i := 8) rfl)
theorem kco_X8_goodProperty : Cond.code yX8_goodProperty cX8_goodProperty 3 (some .int) ∈ qw_big := qm_33 _ (List.mem_of_getElem? (i := 9) rfl)
theorem kco_X8_groupCount : Cond.code yX8_groupCount cX8_groupCount 1 (some .int) ∈ qw_big := qm_33 _ (List.mem_of_getElem? (i := 10) rfl)
theorem kco_X8_groupNamed : Cond.code yX8_groupNamed cX8_groupNamed 2 (some .int) ∈ qw_big := qm_33 _ (List.mem_of_getElem? (i := 11) rfl)
theorem kco_X8_groupProperty : Cond.code yX8_groupProperty cX8_groupProperty 3 (some .int) ∈ qw_big := qm_33 _ (List.mem_of_getElem? (i := 12) rfl)
theorem kco_X8_held : Cond.code yX8_held cX8_held 4 (some .int) ∈ qw_big := qm_33 _ (List.mem_of_getElem? (i := 13) rfl)
theorem kco_X8_helpers : Cond.code yX8_helpers cX8_helpers 9 (some .int) ∈ qw_big := qm_33 _ (List.mem_of_getElem? (i := 14) rfl)
theorem kml_X8_247 : Cond.methodLink RX8 247 yX8_canTake ∈ qw_big := qm_33 _ (List.mem_of_getElem? (i := 15) rfl)
theorem kin_X8_canTake : Cond.instanceMethod yX8_canTake ∈ qw_big := qm_33 _ (List.mem_of_getElem? (i := 16) rfl)
theorem kse_X8_canTake : Cond.selects RX8 yX8_canTake yX8_canTake ∈ qw_big := qm_33 _ (List.mem_of_getElem? (i := 17) rfl)
theorem kml_X8_244 : Cond.methodLink RX8 244 yX8_canGive ∈ qw_big := qm_33 _ (List.mem_of_getElem? (i := 18) rfl)
theorem kin_X8_canGive : Cond.instanceMethod yX8_canGive ∈ qw_big := qm_33 _ (List.mem_of_getElem? (i := 19) rfl)
theorem kse_X8_canGive : Cond.selects RX8 yX8_canGive yX8_canGive ∈ qw_big := qm_33 _ (List.mem_of_getElem? (i := 20) rfl)
theorem kco_X8_houseCount : Cond.code yX8_houseCount cX8_houseCount 1 (some .int) ∈ qw_big := qm_33 _ (List.mem_of_getElem? (i := 21) rfl)
theorem kco_X8_houseNamed : Cond.code yX8_houseNamed cX8_houseNamed 2 (some .int) ∈ qw_big := qm_33 _ (List.mem_of_getElem? (i := 22) rfl)
theorem kco_X8_init : Cond.code yX8_init cX8_init 1 none ∈ qw_big := qm_33 _ (List.mem_of_getElem? (i := 23) rfl)
theorem kml_X8_1 : Cond.methodLink RX8 1 objectInit ∈ qw_big := qm_33 _ (List.mem_of_getElem? (i := 24) rfl)
theorem kl_X8_13 : Cond.fieldLink RX8 13 "RationOfficeModel" "loaded" "[I" ∈ qw_big := qm_33 _ (List.mem_of_getElem? (i := 25) rfl)
theorem km_ab : Cond.arrayClass .byte ∈ qw_big := qm_33 _ (List.mem_of_getElem? (i := 26) rfl)
theorem kml_X8_42 : Cond.methodLink RX8 42 yX8_reset ∈ qw_big := qm_33 _ (List.mem_of_getElem? (i := 27) rfl)
theorem kst_X8_reset : Cond.static yX8_reset ∈ qw_big := qm_33 _ (List.mem_of_getElem? (i := 28) rfl)
theorem kco_X8_reset : Cond.code yX8_reset cX8_reset 2 none ∈ qw_big := qm_33 _ (List.mem_of_getElem? (i := 29) rfl)
theorem kml_X8_46 : Cond.methodLink RX8 46 yX8_clear ∈ qw_big := qm_34 _ (List.mem_of_getElem? (i := 0) rfl)
theorem kst_X8_clear : Cond.static yX8_clear ∈ qw_big := qm_34 _ (List.mem_of_getElem? (i := 1) rfl)
theorem kco_X8_isSuspended : Cond.code yX8_isSuspended cX8_isSuspended 2 (some .boolean) ∈ qw_big := qm_34 _ (List.mem_of_getElem? (i := 2) rfl)
theorem kco_X8_isWord : Cond.code yX8_isWord cX8_isWord 3 (some .boolean) ∈ qw_big := qm_34 _ (List.mem_of_getElem? (i := 3) rfl)
theorem kco_X8_issue : Cond.code yX8_issue cX8_issue 3 none ∈ qw_big := qm_34 _ (List.mem_of_getElem? (i := 4) rfl)
theorem kco_X8_issued : Cond.code yX8_issued cX8_issued 2 (some .int) ∈ qw_big := qm_34 _ (List.mem_of_getElem? (i := 5) rfl)
theorem kml_X8_260 : Cond.methodLink RX8 260 yX8_total ∈ qw_big := qm_34 _ (List.mem_of_getElem? (i := 6) rfl)
theorem kin_X8_total : Cond.instanceMethod yX8_total ∈ qw_big := qm_34 _ (List.mem_of_getElem? (i := 7) rfl)
theorem kse_X8_total : Cond.selects RX8 yX8_total yX8_total ∈ qw_big := qm_34 _ (List.mem_of_getElem? (i := 8) rfl)
theorem kco_X8_total : Cond.code yX8_total cX8_total 3 (some .int) ∈ qw_big := qm_34 _ (List.mem_of_getElem? (i := 9) rfl)
theorem kco_X8_lapseAfter : Cond.code yX8_lapseAfter cX8_lapseAfter 6 (some .int) ∈ qw_big := qm_34 _ (List.mem_of_getElem? (i := 10) rfl)
theorem kml_X8_232 : Cond.methodLink RX8 232 yX8_lapseLater ∈ qw_big := qm_34 _ (List.mem_of_getElem? (i := 11) rfl)
theorem kin_X8_lapseLater : Cond.instanceMethod yX8_lapseLater ∈ qw_big := qm_34 _ (List.mem_of_getElem? (i := 12) rfl)
theorem kse_X8_lapseLater : Cond.selects RX8 yX8_lapseLater yX8_lapseLater ∈ qw_big := qm_34 _ (List.mem_of_getElem? (i := 13) rfl)
theorem kco_X8_lapseLater : Cond.code yX8_lapseLater cX8_lapseLater 2 (some .int) ∈ qw_big := qm_34 _ (List.mem_of_getElem? (i := 14) rfl)
theorem kco_X8_lapsed : Cond.code yX8_lapsed cX8_lapsed 2 (some .int) ∈ qw_big := qm_34 _ (List.mem_of_getElem? (i := 15) rfl)
theorem kco_X8_lapsing : Cond.code yX8_lapsing cX8_lapsing 4 (some .int) ∈ qw_big := qm_34 _ (List.mem_of_getElem? (i := 16) rfl)
theorem kco_X8_levelMoves : Cond.code yX8_levelMoves cX8_levelMoves 7 (some .int) ∈ qw_big := qm_34 _ (List.mem_of_getElem? (i := 17) rfl)
theorem kco_X8_load : Cond.code yX8_load cX8_load 3 (some .int) ∈ qw_big := qm_34 _ (List.mem_of_getElem? (i := 18) rfl)
theorem kl_X8_158 : Cond.fieldLink RX8 158 "RationOfficeModel" "givenSettings" "I" ∈ qw_big := qm_34 _ (List.mem_of_getElem? (i := 19) rfl)
theorem kl_X8_182 : Cond.fieldLink RX8 182 "RationOfficeModel" "statements" "I" ∈ qw_big := qm_34 _ (List.mem_of_getElem? (i := 20) rfl)
theorem kml_X8_185 : Cond.methodLink RX8 185 yX8_parseStatement ∈ qw_big := qm_34 _ (List.mem_of_getElem? (i := 21) rfl)
theorem kin_X8_parseStatement : Cond.instanceMethod yX8_parseStatement ∈ qw_big := qm_34 _ (List.mem_of_getElem? (i := 22) rfl)
theorem kse_X8_parseStatement : Cond.selects RX8 yX8_parseStatement yX8_parseStatement ∈ qw_big := qm_34 _ (List.mem_of_getElem? (i := 23) rfl)
theorem kco_X8_parseStatement : Cond.code yX8_parseStatement cX8_parseStatement 1 none ∈ qw_big := qm_34 _ (List.mem_of_getElem? (i := 24) rfl)
theorem kml_X8_149 : Cond.methodLink RX8 149 yX8_isWord ∈ qw_big := qm_34 _ (List.mem_of_getElem? (i := 25) rfl)
theorem kin_X8_isWord : Cond.instanceMethod yX8_isWord ∈ qw_big := qm_34 _ (List.mem_of_getElem? (i := 26) rfl)
theorem kse_X8_isWord : Cond.selects RX8 yX8_isWord yX8_isWord ∈ qw_big := qm_34 _ (List.mem_of_getElem? (i := 27) rfl)
theorem kml_X8_164 : Cond.methodLink RX8 164 yX8_parseGroup ∈ qw_big := qm_34 _ (List.mem_of_getElem? (i := 28) rfl)
theorem kin_X8_parseGroup : Cond.instanceMethod yX8_parseGroup ∈ qw_big := qm_34 _ (List.mem_of_getElem? (i := 29) rfl)
theorem kse_X8_parseGroup : Cond.selects RX8 yX8_parseGroup yX8_parseGroup ∈ qw_big := qm_35 _ (List.mem_of_getElem? (i := 0) rfl)
theorem kco_X8_parseGroup : Cond.code yX8_parseGroup cX8_parseGroup 6 none ∈ qw_big := qm_35 _ (List.mem_of_getElem? (i := 1) rfl)
theorem kml_X8_134 : Cond.methodLink RX8 134 yX8_begin ∈ qw_big := qm_35 _ (List.mem_of_getElem? (i := 2) rfl)
theorem kin_X8_begin : Cond.instanceMethod yX8_begin ∈ qw_big := qm_35 _ (List.mem_of_getElem? (i := 3) rfl)
theorem kse_X8_begin : Cond.selects RX8 yX8_begin yX8_begin ∈ qw_big := qm_35 _ (List.mem_of_getElem? (i := 4) rfl)
theorem kml_X8_138 : Cond.methodLink RX8 138 yX8_readInteger ∈ qw_big := qm_35 _ (List.mem_of_getElem? (i := 5) rfl)
theorem kin_X8_readInteger : Cond.instanceMethod yX8_readInteger ∈ qw_big := qm_35 _ (List.mem_of_getElem? (i := 6) rfl)
theorem kse_X8_readInteger : Cond.selects RX8 yX8_readInteger yX8_readInteger ∈ qw_big := qm_35 _ (List.mem_of_getElem? (i := 7) rfl)
theorem kco_X8_readInteger : Cond.code yX8_readInteger cX8_readInteger 4 (some .int) ∈ qw_big := qm_35 _ (List.mem_of_getElem? (i := 8) rfl)
theorem kml_X8_141 : Cond.methodLink RX8 141 yX8_declare ∈ qw_big := qm_35 _ (List.mem_of_getElem? (i := 9) rfl)
theorem kin_X8_declare : Cond.instanceMethod yX8_declare ∈ qw_big := qm_35 _ (List.mem_of_getElem? (i := 10) rfl)
theorem kse_X8_declare : Cond.selects RX8 yX8_declare yX8_declare ∈ qw_big := qm_35 _ (List.mem_of_getElem? (i := 11) rfl)
theorem kml_X8_167 : Cond.methodLink RX8 167 yX8_parseSwap ∈ qw_big := qm_35 _ (List.mem_of_getElem? (i := 12) rfl)
theorem kin_X8_parseSwap : Cond.instanceMethod yX8_parseSwap ∈ qw_big := qm_35 _ (List.mem_of_getElem? (i := 13) rfl)
theorem kse_X8_parseSwap : Cond.selects RX8 yX8_parseSwap yX8_parseSwap ∈ qw_big := qm_35 _ (List.mem_of_getElem? (i := 14) rfl)
theorem kco_X8_parseSwap : Cond.code yX8_parseSwap cX8_parseSwap 4 none ∈ qw_big := qm_35 _ (List.mem_of_getElem? (i := 15) rfl)
theorem kml_X8_145 : Cond.methodLink RX8 145 yX8_readOldName ∈ qw_big := qm_35 _ (List.mem_of_getElem? (i := 16) rfl)
theorem kin_X8_readOldName : Cond.instanceMethod yX8_readOldName ∈ qw_big := qm_35 _ (List.mem_of_getElem? (i := 17) rfl)
theorem kse_X8_readOldName : Cond.selects RX8 yX8_readOldName yX8_readOldName ∈ qw_big := qm_35 _ (List.mem_of_getElem? (i := 18) rfl)
theorem kco_X8_readOldName : Cond.code yX8_readOldName cX8_readOldName 3 (some .int) ∈ qw_big := qm_35 _ (List.mem_of_getElem? (i := 19) rfl)
theorem kml_X8_170 : Cond.methodLink RX8 170 yX8_parseGood ∈ qw_big := qm_35 _ (List.mem_of_getElem? (i := 20) rfl)
theorem kin_X8_parseGood : Cond.instanceMethod yX8_parseGood ∈ qw_big := qm_35 _ (List.mem_of_getElem? (i := 21) rfl)
theorem kse_X8_parseGood : Cond.selects RX8 yX8_parseGood yX8_parseGood ∈ qw_big := qm_35 _ (List.mem_of_getElem? (i := 22) rfl)
theorem kco_X8_parseGood : Cond.code yX8_parseGood cX8_parseGood 6 none ∈ qw_big := qm_35 _ (List.mem_of_getElem? (i := 23) rfl)
theorem kml_X8_173 : Cond.methodLink RX8 173 yX8_parseHouse ∈ qw_big := qm_35 _ (List.mem_of_getElem? (i := 24) rfl)
theorem kin_X8_parseHouse : Cond.instanceMethod yX8_parseHouse ∈ qw_big := qm_35 _ (List.mem_of_getElem? (i := 25) rfl)
theorem kse_X8_parseHouse : Cond.selects RX8 yX8_parseHouse yX8_parseHouse ∈ qw_big := qm_35 _ (List.mem_of_getElem? (i := 26) rfl)
theorem kco_X8_parseHouse : Cond.code yX8_parseHouse cX8_parseHouse 4 none ∈ qw_big := qm_35 _ (List.mem_of_getElem? (i := 27) rfl)
theorem kml_X8_176 : Cond.methodLink RX8 176 yX8_parseShop ∈ qw_big := qm_35 _ (List.mem_of_getElem? (i := 28) rfl)
theorem kin_X8_parseShop : Cond.instanceMethod yX8_parseShop ∈ qw_big := qm_35 _ (List.mem_of_getElem? (i := 29) rfl)
theorem kse_X8_parseShop : Cond.selects RX8 yX8_parseShop yX8_parseShop ∈ qw_big := qm_36 _ (List.mem_of_getElem? (i := 0) rfl)
theorem kco_X8_parseShop : Cond.code yX8_parseShop cX8_parseShop 6 none ∈ qw_big := qm_36 _ (List.mem_of_getElem? (i := 1) rfl)
theorem kml_X8_179 : Cond.methodLink RX8 179 yX8_parseSetting ∈ qw_big := qm_36 _ (List.mem_of_getElem? (i := 2) rfl)
theorem kin_X8_parseSetting : Cond.instanceMethod yX8_parseSetting ∈ qw_big := qm_36 _ (List.mem_of_getElem? (i := 3) rfl)
theorem kse_X8_parseSetting : Cond.selects RX8 yX8_parseSetting yX8_parseSetting ∈ qw_big := qm_36 _ (List.mem_of_getElem? (i := 4) rfl)
theorem kco_X8_parseSetting : Cond.code yX8_parseSetting cX8_parseSetting 2 none ∈ qw_big := qm_36 _ (List.mem_of_getElem? (i := 5) rfl)
theorem kml_X8_155 : Cond.methodLink RX8 155 yX8_settingHere ∈ qw_big := qm_36 _ (List.mem_of_getElem? (i := 6) rfl)
theorem kin_X8_settingHere : Cond.instanceMethod yX8_settingHere ∈ qw_big := qm_36 _ (List.mem_of_getElem? (i := 7) rfl)
theorem kse_X8_settingHere : Cond.selects RX8 yX8_settingHere yX8_settingHere ∈ qw_big := qm_36 _ (List.mem_of_getElem? (i := 8) rfl)
theorem kco_X8_settingHere : Cond.code yX8_settingHere cX8_settingHere 1 (some .int) ∈ qw_big := qm_36 _ (List.mem_of_getElem? (i := 9) rfl)
theorem kct_X8_153 : Cond.constantLong RX8 153 (22518700226661) ∈ qw_big := qm_36 _ (List.mem_of_getElem? (i := 10) rfl)
theorem kml_X8_161 : Cond.methodLink RX8 161 yX8_mostOf ∈ qw_big := qm_36 _ (List.mem_of_getElem? (i := 11) rfl)
theorem kst_X8_mostOf : Cond.static yX8_mostOf ∈ qw_big := qm_36 _ (List.mem_of_getElem? (i := 12) rfl)
theorem kco_X8_mostOf : Cond.code yX8_mostOf cX8_mostOf 1 (some .int) ∈ qw_big := qm_36 _ (List.mem_of_getElem? (i := 13) rfl)
theorem kml_X8_188 : Cond.methodLink RX8 188 yX8_issue ∈ qw_big := qm_36 _ (List.mem_of_getElem? (i := 14) rfl)
theorem kin_X8_issue : Cond.instanceMethod yX8_issue ∈ qw_big := qm_36 _ (List.mem_of_getElem? (i := 15) rfl)
theorem kse_X8_issue : Cond.selects RX8 yX8_issue yX8_issue ∈ qw_big := qm_36 _ (List.mem_of_getElem? (i := 16) rfl)
theorem kco_X8_mostDeliverable : Cond.code yX8_mostDeliverable cX8_mostDeliverable 4 (some .int) ∈ qw_big := qm_36 _ (List.mem_of_getElem? (i := 17) rfl)
theorem kco_X8_mostUnits : Cond.code yX8_mostUnits cX8_mostUnits 4 (some .int) ∈ qw_big := qm_36 _ (List.mem_of_getElem? (i := 18) rfl)
theorem kco_X8_neediest : Cond.code yX8_neediest cX8_neediest 4 (some .int) ∈ qw_big := qm_36 _ (List.mem_of_getElem? (i := 19) rfl)
theorem kco_X8_nextPeriod : Cond.code yX8_nextPeriod cX8_nextPeriod 7 (some .int) ∈ qw_big := qm_36 _ (List.mem_of_getElem? (i := 20) rfl)
theorem kco_X8_pardon : Cond.code yX8_pardon cX8_pardon 2 (some .int) ∈ qw_big := qm_36 _ (List.mem_of_getElem? (i := 21) rfl)
theorem kml_X8_278 : Cond.methodLink RX8 278 yX8_change ∈ qw_big := qm_36 _ (List.mem_of_getElem? (i := 22) rfl)
theorem kin_X8_change : Cond.instanceMethod yX8_change ∈ qw_big := qm_36 _ (List.mem_of_getElem? (i := 23) rfl)
theorem kse_X8_change : Cond.selects RX8 yX8_change yX8_change ∈ qw_big := qm_36 _ (List.mem_of_getElem? (i := 24) rfl)
theorem kco_X8_penaltyOf : Cond.code yX8_penaltyOf cX8_penaltyOf 2 (some .int) ∈ qw_big := qm_36 _ (List.mem_of_getElem? (i := 25) rfl)
theorem kco_X8_period : Cond.code yX8_period cX8_period 1 (some .int) ∈ qw_big := qm_36 _ (List.mem_of_getElem? (i := 26) rfl)
theorem kco_X8_reasonFor : Cond.code yX8_reasonFor cX8_reasonFor 5 (some .int) ∈ qw_big := qm_36 _ (List.mem_of_getElem? (i := 27) rfl)
theorem kco_X8_served : Cond.code yX8_served cX8_served 7 (some .int) ∈ qw_big := qm_36 _ (List.mem_of_getElem? (i := 28) rfl)
theorem kco_X8_setRation : Cond.code yX8_setRation cX8_setRation 3 (some .int) ∈ qw_big := qm_36 _ (List.mem_of_getElem? (i := 29) rfl)
theorem kco_X8_setSetting : Cond.code yX8_setSetting cX8_setSetting 3 (some .int) ∈ qw_big := qm_37 _ (List.mem_of_getElem? (i := 0) rfl)
theorem kco_X8_setSize : Cond.code yX8_setSize cX8_setSize 3 (some .int) ∈ qw_big := qm_37 _ (List.mem_of_getElem? (i := 1) rfl)
theorem kco_X8_shopCount : Cond.code yX8_shopCount cX8_shopCount 1 (some .int) ∈ qw_big := qm_37 _ (List.mem_of_getElem? (i := 2) rfl)
theorem kco_X8_shopNamed : Cond.code yX8_shopNamed cX8_shopNamed 2 (some .int) ∈ qw_big := qm_37 _ (List.mem_of_getElem? (i := 3) rfl)
theorem kco_X8_sizeOf : Cond.code yX8_sizeOf cX8_sizeOf 2 (some .int) ∈ qw_big := qm_37 _ (List.mem_of_getElem? (i := 4) rfl)
theorem kco_X8_soldBy : Cond.code yX8_soldBy cX8_soldBy 3 (some .int) ∈ qw_big := qm_37 _ (List.mem_of_getElem? (i := 5) rfl)
theorem kco_X8_spent : Cond.code yX8_spent cX8_spent 2 (some .int) ∈ qw_big := qm_37 _ (List.mem_of_getElem? (i := 6) rfl)
theorem kco_X8_spreadOf : Cond.code yX8_spreadOf cX8_spreadOf 6 (some .int) ∈ qw_big := qm_37 _ (List.mem_of_getElem? (i := 7) rfl)
theorem kco_X8_stockOf : Cond.code yX8_stockOf cX8_stockOf 3 (some .int) ∈ qw_big := qm_37 _ (List.mem_of_getElem? (i := 8) rfl)
theorem kco_X8_substituted : Cond.code yX8_substituted cX8_substituted 4 (some .int) ∈ qw_big := qm_37 _ (List.mem_of_getElem? (i := 9) rfl)
theorem kco_X8_supplyPeriods : Cond.code yX8_supplyPeriods cX8_supplyPeriods 10 (some .int) ∈ qw_big := qm_37 _ (List.mem_of_getElem? (i := 10) rfl)
theorem kco_X8_swapChain : Cond.code yX8_swapChain cX8_swapChain 5 (some .int) ∈ qw_big := qm_37 _ (List.mem_of_getElem? (i := 11) rfl)
theorem kco_X8_takenBy : Cond.code yX8_takenBy cX8_takenBy 2 (some .int) ∈ qw_big := qm_37 _ (List.mem_of_getElem? (i := 12) rfl)
theorem kco_X8_thrown : Cond.code yX8_thrown cX8_thrown 1 (some .int) ∈ qw_big := qm_37 _ (List.mem_of_getElem? (i := 13) rfl)
theorem kco_X8_trade : Cond.code yX8_trade cX8_trade 5 (some .int) ∈ qw_big := qm_37 _ (List.mem_of_getElem? (i := 14) rfl)
theorem kco_X8_tradeRoom : Cond.code yX8_tradeRoom cX8_tradeRoom 4 (some .int) ∈ qw_big := qm_37 _ (List.mem_of_getElem? (i := 15) rfl)
theorem kco_X8_turnover : Cond.code yX8_turnover cX8_turnover 4 (some .int) ∈ qw_big := qm_37 _ (List.mem_of_getElem? (i := 16) rfl)
theorem kco_X8_undo : Cond.code yX8_undo cX8_undo 2 (some .int) ∈ qw_big := qm_37 _ (List.mem_of_getElem? (i := 17) rfl)
theorem kco_X8_undoCount : Cond.code yX8_undoCount cX8_undoCount 1 (some .int) ∈ qw_big := qm_37 _ (List.mem_of_getElem? (i := 18) rfl)
theorem kco_X8_waitFor : Cond.code yX8_waitFor cX8_waitFor 6 (some .int) ∈ qw_big := qm_37 _ (List.mem_of_getElem? (i := 19) rfl)
theorem kcl_L_8 : Cond.classLink RL 8 RX7 ∈ qw_big := qm_37 _ (List.mem_of_getElem? (i := 20) rfl)
theorem kinst_X7 : Cond.instantiable RX7 9 ∈ qw_big := qm_37 _ (List.mem_of_getElem? (i := 21) rfl)
theorem kcl_L_137 : Cond.classLink RL 137 RX8 ∈ qw_big := qm_37 _ (List.mem_of_getElem? (i := 22) rfl)
theorem kinst_X8 : Cond.instantiable RX8 22 ∈ qw_big := qm_37 _ (List.mem_of_getElem? (i := 23) rfl)
theorem km_al : Cond.arrayClass .long ∈ qw_big := qm_37 _ (List.mem_of_getElem? (i := 24) rfl)
theorem kml_L_136 : Cond.methodLink RL 136 yX7_init ∈ qw_big := qm_37 _ (List.mem_of_getElem? (i := 25) rfl)
theorem kin_X7_init : Cond.instanceMethod yX7_init ∈ qw_big := qm_37 _ (List.mem_of_getElem? (i := 26) rfl)
theorem kml_L_139 : Cond.methodLink RL 139 yX8_init ∈ qw_big := qm_37 _ (List.mem_of_getElem? (i := 27) rfl)
theorem kin_X8_init : Cond.instanceMethod yX8_init ∈ qw_big := qm_37 _ (List.mem_of_getElem? (i := 28) rfl)
theorem kml_L_140 : Cond.methodLink RL 140 yX7_feed ∈ qw_big := qm_37 _ (List.mem_of_getElem? (i := 29) rfl)
theorem kin_X7_feed : Cond.instanceMethod yX7_feed ∈ qw_big := qm_38 _ (List.mem_of_getElem? (i := 0) rfl)
theorem kse_X7_feed : Cond.selects RX7 yX7_feed yX7_feed ∈ qw_big := qm_38 _ (List.mem_of_getElem? (i := 1) rfl)
theorem kml_L_144 : Cond.methodLink RL 144 yX8_feed ∈ qw_big := qm_38 _ (List.mem_of_getElem? (i := 2) rfl)
theorem kin_X8_feed : Cond.instanceMethod yX8_feed ∈ qw_big := qm_38 _ (List.mem_of_getElem? (i := 3) rfl)
theorem kse_X8_feed : Cond.selects RX8 yX8_feed yX8_feed ∈ qw_big := qm_38 _ (List.mem_of_getElem? (i := 4) rfl)
theorem kml_L_145 : Cond.methodLink RL 145 yX7_load ∈ qw_big := qm_38 _ (List.mem_of_getElem? (i := 5) rfl)
theorem kin_X7_load : Cond.instanceMethod yX7_load ∈ qw_big := qm_38 _ (List.mem_of_getElem? (i := 6) rfl)
theorem kse_X7_load : Cond.selects RX7 yX7_load yX7_load ∈ qw_big := qm_38 _ (List.mem_of_getElem? (i := 7) rfl)
theorem kml_L_148 : Cond.methodLink RL 148 yX8_load ∈ qw_big := qm_38 _ (List.mem_of_getElem? (i := 8) rfl)
theorem kin_X8_load : Cond.instanceMethod yX8_load ∈ qw_big := qm_38 _ (List.mem_of_getElem? (i := 9) rfl)
theorem kse_X8_load : Cond.selects RX8 yX8_load yX8_load ∈ qw_big := qm_38 _ (List.mem_of_getElem? (i := 10) rfl)
theorem kml_L_149 : Cond.methodLink RL 149 yX7_errorPosition ∈ qw_big := qm_38 _ (List.mem_of_getElem? (i := 11) rfl)
theorem kin_X7_errorPosition : Cond.instanceMethod yX7_errorPosition ∈ qw_big := qm_38 _ (List.mem_of_getElem? (i := 12) rfl)
theorem kse_X7_errorPosition : Cond.selects RX7 yX7_errorPosition yX7_errorPosition ∈ qw_big := qm_38 _ (List.mem_of_getElem? (i := 13) rfl)
theorem kml_L_153 : Cond.methodLink RL 153 yX8_errorPosition ∈ qw_big := qm_38 _ (List.mem_of_getElem? (i := 14) rfl)
theorem kin_X8_errorPosition : Cond.instanceMethod yX8_errorPosition ∈ qw_big := qm_38 _ (List.mem_of_getElem? (i := 15) rfl)
theorem kse_X8_errorPosition : Cond.selects RX8 yX8_errorPosition yX8_errorPosition ∈ qw_big := qm_38 _ (List.mem_of_getElem? (i := 16) rfl)
theorem kml_L_154 : Cond.methodLink RL 154 yX7_groupCount ∈ qw_big := qm_38 _ (List.mem_of_getElem? (i := 17) rfl)
theorem kin_X7_groupCount : Cond.instanceMethod yX7_groupCount ∈ qw_big := qm_38 _ (List.mem_of_getElem? (i := 18) rfl)
theorem kse_X7_groupCount : Cond.selects RX7 yX7_groupCount yX7_groupCount ∈ qw_big := qm_38 _ (List.mem_of_getElem? (i := 19) rfl)
theorem kml_L_157 : Cond.methodLink RL 157 yX8_groupCount ∈ qw_big := qm_38 _ (List.mem_of_getElem? (i := 20) rfl)
theorem kin_X8_groupCount : Cond.instanceMethod yX8_groupCount ∈ qw_big := qm_38 _ (List.mem_of_getElem? (i := 21) rfl)
theorem kse_X8_groupCount : Cond.selects RX8 yX8_groupCount yX8_groupCount ∈ qw_big := qm_38 _ (List.mem_of_getElem? (i := 22) rfl)
theorem kml_L_158 : Cond.methodLink RL 158 yX7_goodCount ∈ qw_big := qm_38 _ (List.mem_of_getElem? (i := 23) rfl)
theorem kin_X7_goodCount : Cond.instanceMethod yX7_goodCount ∈ qw_big := qm_38 _ (List.mem_of_getElem? (i := 24) rfl)
theorem kse_X7_goodCount : Cond.selects RX7 yX7_goodCount yX7_goodCount ∈ qw_big := qm_38 _ (List.mem_of_getElem? (i := 25) rfl)
theorem kml_L_161 : Cond.methodLink RL 161 yX8_goodCount ∈ qw_big := qm_38 _ (List.mem_of_getElem? (i := 26) rfl)
theorem kin_X8_goodCount : Cond.instanceMethod yX8_goodCount ∈ qw_big := qm_38 _ (List.mem_of_getElem? (i := 27) rfl)
theorem kse_X8_goodCount : Cond.selects RX8 yX8_goodCount yX8_goodCount ∈ qw_big := qm_38 _ (List.mem_of_getElem? (i := 28) rfl)
theorem kml_L_162 : Cond.methodLink RL 162 yX7_houseCount ∈ qw_big := qm_38 _ (List.mem_of_getElem? (i := 29) rfl)
theorem kin_X7_houseCount : Cond.instanceMethod yX7_houseCount ∈ qw_big := qm_39 _ (List.mem_of_getElem? (i := 0) rfl)
theorem kse_X7_houseCount : Cond.selects RX7 yX7_houseCount yX7_houseCount ∈ qw_big := qm_39 _ (List.mem_of_getElem? (i := 1) rfl)
theorem kml_L_165 : Cond.methodLink RL 165 yX8_houseCount ∈ qw_big := qm_39 _ (List.mem_of_getElem? (i := 2) rfl)
theorem kin_X8_houseCount : Cond.instanceMethod yX8_houseCount ∈ qw_big := qm_39 _ (List.mem_of_getElem? (i := 3) rfl)
theorem kse_X8_houseCount : Cond.selects RX8 yX8_houseCount yX8_houseCount ∈ qw_big := qm_39 _ (List.mem_of_getElem? (i := 4) rfl)
theorem kml_L_166 : Cond.methodLink RL 166 yX7_shopCount ∈ qw_big := qm_39 _ (List.mem_of_getElem? (i := 5) rfl)
theorem kin_X7_shopCount : Cond.instanceMethod yX7_shopCount ∈ qw_big := qm_39 _ (List.mem_of_getElem? (i := 6) rfl)
theorem kse_X7_shopCount : Cond.selects RX7 yX7_shopCount yX7_shopCount ∈ qw_big := qm_39 _ (List.mem_of_getElem? (i := 7) rfl)
theorem kml_L_169 : Cond.methodLink RL 169 yX8_shopCount ∈ qw_big := qm_39 _ (List.mem_of_getElem? (i := 8) rfl)
theorem kin_X8_shopCount : Cond.instanceMethod yX8_shopCount ∈ qw_big := qm_39 _ (List.mem_of_getElem? (i := 9) rfl)
theorem kse_X8_shopCount : Cond.selects RX8 yX8_shopCount yX8_shopCount ∈ qw_big := qm_39 _ (List.mem_of_getElem? (i := 10) rfl)
theorem kml_L_170 : Cond.methodLink RL 170 yX7_undoCount ∈ qw_big := qm_39 _ (List.mem_of_getElem? (i := 11) rfl)
theorem kin_X7_undoCount : Cond.instanceMethod yX7_undoCount ∈ qw_big := qm_39 _ (List.mem_of_getElem? (i := 12) rfl)
theorem kse_X7_undoCount : Cond.selects RX7 yX7_undoCount yX7_undoCount ∈ qw_big := qm_39 _ (List.mem_of_getElem? (i := 13) rfl)
theorem kml_L_173 : Cond.methodLink RL 173 yX8_undoCount ∈ qw_big := qm_39 _ (List.mem_of_getElem? (i := 14) rfl)
theorem kin_X8_undoCount : Cond.instanceMethod yX8_undoCount ∈ qw_big := qm_39 _ (List.mem_of_getElem? (i := 15) rfl)
theorem kse_X8_undoCount : Cond.selects RX8 yX8_undoCount yX8_undoCount ∈ qw_big := qm_39 _ (List.mem_of_getElem? (i := 16) rfl)
theorem kml_L_174 : Cond.methodLink RL 174 yX7_period ∈ qw_big := qm_39 _ (List.mem_of_getElem? (i := 17) rfl)
theorem kin_X7_period : Cond.instanceMethod yX7_period ∈ qw_big := qm_39 _ (List.mem_of_getElem? (i := 18) rfl)
theorem kse_X7_period : Cond.selects RX7 yX7_period yX7_period ∈ qw_big := qm_39 _ (List.mem_of_getElem? (i := 19) rfl)
theorem kml_L_177 : Cond.methodLink RL 177 yX8_period ∈ qw_big := qm_39 _ (List.mem_of_getElem? (i := 20) rfl)
theorem kin_X8_period : Cond.instanceMethod yX8_period ∈ qw_big := qm_39 _ (List.mem_of_getElem? (i := 21) rfl)
theorem kse_X8_period : Cond.selects RX8 yX8_period yX8_period ∈ qw_big := qm_39 _ (List.mem_of_getElem? (i := 22) rfl)
theorem kml_L_178 : Cond.methodLink RL 178 yX7_groupNamed ∈ qw_big := qm_39 _ (List.mem_of_getElem? (i := 23) rfl)
theorem kin_X7_groupNamed : Cond.instanceMethod yX7_groupNamed ∈ qw_big := qm_39 _ (List.mem_of_getElem? (i := 24) rfl)
theorem kse_X7_groupNamed : Cond.selects RX7 yX7_groupNamed yX7_groupNamed ∈ qw_big := qm_39 _ (List.mem_of_getElem? (i := 25) rfl)
theorem kml_L_181 : Cond.methodLink RL 181 yX8_groupNamed ∈ qw_big := qm_39 _ (List.mem_of_getElem? (i := 26) rfl)
theorem kin_X8_groupNamed : Cond.instanceMethod yX8_groupNamed ∈ qw_big := qm_39 _ (List.mem_of_getElem? (i := 27) rfl)
theorem kse_X8_groupNamed : Cond.selects RX8 yX8_groupNamed yX8_groupNamed ∈ qw_big := qm_39 _ (List.mem_of_getElem? (i := 28) rfl)
theorem kml_L_182 : Cond.methodLink RL 182 yX7_goodNamed ∈ qw_big := qm_39 _ (List.mem_of_getElem? (i := 29) rfl)
theorem kin_X7_goodNamed : Cond.instanceMethod yX7_goodNamed ∈ qw_big := qm_40 _ (List.mem_of_getElem? (i := 0) rfl)
theorem kse_X7_goodNamed : Cond.selects RX7 yX7_goodNamed yX7_goodNamed ∈ qw_big := qm_40 _ (List.mem_of_getElem? (i := 1) rfl)
theorem kml_L_185 : Cond.methodLink RL 185 yX8_goodNamed ∈ qw_big := qm_40 _ (List.mem_of_getElem? (i := 2) rfl)
theorem kin_X8_goodNamed : Cond.instanceMethod yX8_goodNamed ∈ qw_big := qm_40 _ (List.mem_of_getElem? (i := 3) rfl)
theorem kse_X8_goodNamed : Cond.selects RX8 yX8_goodNamed yX8_goodNamed ∈ qw_big := qm_40 _ (List.mem_of_getElem? (i := 4) rfl)
theorem kml_L_186 : Cond.methodLink RL 186 yX7_houseNamed ∈ qw_big := qm_40 _ (List.mem_of_getElem? (i := 5) rfl)
theorem kin_X7_houseNamed : Cond.instanceMethod yX7_houseNamed ∈ qw_big := qm_40 _ (List.mem_of_getElem? (i := 6) rfl)
theorem kse_X7_houseNamed : Cond.selects RX7 yX7_houseNamed yX7_houseNamed ∈ qw_big := qm_40 _ (List.mem_of_getElem? (i := 7) rfl)
theorem kml_L_189 : Cond.methodLink RL 189 yX8_houseNamed ∈ qw_big := qm_40 _ (List.mem_of_getElem? (i := 8) rfl)
theorem kin_X8_houseNamed : Cond.instanceMethod yX8_houseNamed ∈ qw_big := qm_40 _ (List.mem_of_getElem? (i := 9) rfl)
theorem kse_X8_houseNamed : Cond.selects RX8 yX8_houseNamed yX8_houseNamed ∈ qw_big := qm_40 _ (List.mem_of_getElem? (i := 10) rfl)
theorem kml_L_190 : Cond.methodLink RL 190 yX7_shopNamed ∈ qw_big := qm_40 _ (List.mem_of_getElem? (i := 11) rfl)
theorem kin_X7_shopNamed : Cond.instanceMethod yX7_shopNamed ∈ qw_big := qm_40 _ (List.mem_of_getElem? (i := 12) rfl)
theorem kse_X7_shopNamed : Cond.selects RX7 yX7_shopNamed yX7_shopNamed ∈ qw_big := qm_40 _ (List.mem_of_getElem? (i := 13) rfl)
theorem kml_L_193 : Cond.methodLink RL 193 yX8_shopNamed ∈ qw_big := qm_40 _ (List.mem_of_getElem? (i := 14) rfl)
theorem kin_X8_shopNamed : Cond.instanceMethod yX8_shopNamed ∈ qw_big := qm_40 _ (List.mem_of_getElem? (i := 15) rfl)
theorem kse_X8_shopNamed : Cond.selects RX8 yX8_shopNamed yX8_shopNamed ∈ qw_big := qm_40 _ (List.mem_of_getElem? (i := 16) rfl)
theorem kml_L_194 : Cond.methodLink RL 194 yL_groupProperty ∈ qw_big := qm_40 _ (List.mem_of_getElem? (i := 17) rfl)
theorem kst_L_groupProperty : Cond.static yL_groupProperty ∈ qw_big := qm_40 _ (List.mem_of_getElem? (i := 18) rfl)
theorem kini_L : Cond.initialized RL ∈ qw_big := qm_40 _ (List.mem_of_getElem? (i := 19) rfl)
theorem kml_L_199 : Cond.methodLink RL 199 yX8_groupProperty ∈ qw_big := qm_40 _ (List.mem_of_getElem? (i := 20) rfl)
theorem kin_X8_groupProperty : Cond.instanceMethod yX8_groupProperty ∈ qw_big := qm_40 _ (List.mem_of_getElem? (i := 21) rfl)
theorem kse_X8_groupProperty : Cond.selects RX8 yX8_groupProperty yX8_groupProperty ∈ qw_big := qm_40 _ (List.mem_of_getElem? (i := 22) rfl)
theorem kml_L_200 : Cond.methodLink RL 200 yX8_thrown ∈ qw_big := qm_40 _ (List.mem_of_getElem? (i := 23) rfl)
theorem kin_X8_thrown : Cond.instanceMethod yX8_thrown ∈ qw_big := qm_40 _ (List.mem_of_getElem? (i := 24) rfl)
theorem kse_X8_thrown : Cond.selects RX8 yX8_thrown yX8_thrown ∈ qw_big := qm_40 _ (List.mem_of_getElem? (i := 25) rfl)
theorem kml_L_203 : Cond.methodLink RL 203 yL_goodProperty ∈ qw_big := qm_40 _ (List.mem_of_getElem? (i := 26) rfl)
theorem kst_L_goodProperty : Cond.static yL_goodProperty ∈ qw_big := qm_40 _ (List.mem_of_getElem? (i := 27) rfl)
theorem kml_L_205 : Cond.methodLink RL 205 yX8_goodProperty ∈ qw_big := qm_40 _ (List.mem_of_getElem? (i := 28) rfl)
theorem kin_X8_goodProperty : Cond.instanceMethod yX8_goodProperty ∈ qw_big := qm_40 _ (List.mem_of_getElem? (i := 29) rfl)
theorem kse_X8_goodProperty : Cond.selects RX8 yX8_goodProperty yX8_goodProperty ∈ qw_big := qm_41 _ (List.mem_of_getElem? (i := 0) rfl)
theorem kml_L_206 : Cond.methodLink RL 206 yL_sizeOf ∈ qw_big := qm_41 _ (List.mem_of_getElem? (i := 1) rfl)
theorem kst_L_sizeOf : Cond.static yL_sizeOf ∈ qw_big := qm_41 _ (List.mem_of_getElem? (i := 2) rfl)
theorem kml_L_209 : Cond.methodLink RL 209 yX8_sizeOf ∈ qw_big := qm_41 _ (List.mem_of_getElem? (i := 3) rfl)
theorem kin_X8_sizeOf : Cond.instanceMethod yX8_sizeOf ∈ qw_big := qm_41 _ (List.mem_of_getElem? (i := 4) rfl)
theorem kse_X8_sizeOf : Cond.selects RX8 yX8_sizeOf yX8_sizeOf ∈ qw_big := qm_41 _ (List.mem_of_getElem? (i := 5) rfl)
theorem kml_L_210 : Cond.methodLink RL 210 yX7_getSetting ∈ qw_big := qm_41 _ (List.mem_of_getElem? (i := 6) rfl)
theorem kin_X7_getSetting : Cond.instanceMethod yX7_getSetting ∈ qw_big := qm_41 _ (List.mem_of_getElem? (i := 7) rfl)
theorem kse_X7_getSetting : Cond.selects RX7 yX7_getSetting yX7_getSetting ∈ qw_big := qm_41 _ (List.mem_of_getElem? (i := 8) rfl)
theorem kml_L_213 : Cond.methodLink RL 213 yX8_getSetting ∈ qw_big := qm_41 _ (List.mem_of_getElem? (i := 9) rfl)
theorem kin_X8_getSetting : Cond.instanceMethod yX8_getSetting ∈ qw_big := qm_41 _ (List.mem_of_getElem? (i := 10) rfl)
theorem kse_X8_getSetting : Cond.selects RX8 yX8_getSetting yX8_getSetting ∈ qw_big := qm_41 _ (List.mem_of_getElem? (i := 11) rfl)
theorem kml_L_214 : Cond.methodLink RL 214 yL_coupons ∈ qw_big := qm_41 _ (List.mem_of_getElem? (i := 12) rfl)
theorem kst_L_coupons : Cond.static yL_coupons ∈ qw_big := qm_41 _ (List.mem_of_getElem? (i := 13) rfl)
theorem kml_L_216 : Cond.methodLink RL 216 yX8_coupons ∈ qw_big := qm_41 _ (List.mem_of_getElem? (i := 14) rfl)
theorem kin_X8_coupons : Cond.instanceMethod yX8_coupons ∈ qw_big := qm_41 _ (List.mem_of_getElem? (i := 15) rfl)
theorem kse_X8_coupons : Cond.selects RX8 yX8_coupons yX8_coupons ∈ qw_big := qm_41 _ (List.mem_of_getElem? (i := 16) rfl)
theorem kml_L_217 : Cond.methodLink RL 217 yL_couponsWith ∈ qw_big := qm_41 _ (List.mem_of_getElem? (i := 17) rfl)
theorem kst_L_couponsWith : Cond.static yL_couponsWith ∈ qw_big := qm_41 _ (List.mem_of_getElem? (i := 18) rfl)
theorem kml_L_220 : Cond.methodLink RL 220 yX8_couponsWith ∈ qw_big := qm_41 _ (List.mem_of_getElem? (i := 19) rfl)
theorem kin_X8_couponsWith : Cond.instanceMethod yX8_couponsWith ∈ qw_big := qm_41 _ (List.mem_of_getElem? (i := 20) rfl)
theorem kse_X8_couponsWith : Cond.selects RX8 yX8_couponsWith yX8_couponsWith ∈ qw_big := qm_41 _ (List.mem_of_getElem? (i := 21) rfl)
theorem kml_L_221 : Cond.methodLink RL 221 yL_lapsing ∈ qw_big := qm_41 _ (List.mem_of_getElem? (i := 22) rfl)
theorem kst_L_lapsing : Cond.static yL_lapsing ∈ qw_big := qm_41 _ (List.mem_of_getElem? (i := 23) rfl)
theorem kml_L_223 : Cond.methodLink RL 223 yX8_lapsing ∈ qw_big := qm_41 _ (List.mem_of_getElem? (i := 24) rfl)
theorem kin_X8_lapsing : Cond.instanceMethod yX8_lapsing ∈ qw_big := qm_41 _ (List.mem_of_getElem? (i := 25) rfl)
theorem kse_X8_lapsing : Cond.selects RX8 yX8_lapsing yX8_lapsing ∈ qw_big := qm_41 _ (List.mem_of_getElem? (i := 26) rfl)
theorem kml_L_224 : Cond.methodLink RL 224 yL_couponsAfter ∈ qw_big := qm_41 _ (List.mem_of_getElem? (i := 27) rfl)
theorem kst_L_couponsAfter : Cond.static yL_couponsAfter ∈ qw_big := qm_41 _ (List.mem_of_getElem? (i := 28) rfl)
theorem kml_L_226 : Cond.methodLink RL 226 yX8_couponsAfter ∈ qw_big := qm_41 _ (List.mem_of_getElem? (i := 29) rfl)
theorem kin_X8_couponsAfter : Cond.instanceMethod yX8_couponsAfter ∈ qw_big := qm_42 _ (List.mem_of_getElem? (i := 0) rfl)
theorem kse_X8_couponsAfter : Cond.selects RX8 yX8_couponsAfter yX8_couponsAfter ∈ qw_big := qm_42 _ (List.mem_of_getElem? (i := 1) rfl)
theorem kml_L_227 : Cond.methodLink RL 227 yL_neediest ∈ qw_big := qm_42 _ (List.mem_of_getElem? (i := 2) rfl)
theorem kst_L_neediest : Cond.static yL_neediest ∈ qw_big := qm_42 _ (List.mem_of_getElem? (i := 3) rfl)
theorem kml_L_229 : Cond.methodLink RL 229 yX8_neediest ∈ qw_big := qm_42 _ (List.mem_of_getElem? (i := 4) rfl)
theorem kin_X8_neediest : Cond.instanceMethod yX8_neediest ∈ qw_big := qm_42 _ (List.mem_of_getElem? (i := 5) rfl)
theorem kse_X8_neediest : Cond.selects RX8 yX8_neediest yX8_neediest ∈ qw_big := qm_42 _ (List.mem_of_getElem? (i := 6) rfl)
theorem kml_L_230 : Cond.methodLink RL 230 yL_givenBy ∈ qw_big := qm_42 _ (List.mem_of_getElem? (i := 7) rfl)
theorem kst_L_givenBy : Cond.static yL_givenBy ∈ qw_big := qm_42 _ (List.mem_of_getElem? (i := 8) rfl)
theorem kml_L_232 : Cond.methodLink RL 232 yX8_givenBy ∈ qw_big := qm_42 _ (List.mem_of_getElem? (i := 9) rfl)
theorem kin_X8_givenBy : Cond.instanceMethod yX8_givenBy ∈ qw_big := qm_42 _ (List.mem_of_getElem? (i := 10) rfl)
theorem kse_X8_givenBy : Cond.selects RX8 yX8_givenBy yX8_givenBy ∈ qw_big := qm_42 _ (List.mem_of_getElem? (i := 11) rfl)
theorem kml_L_233 : Cond.methodLink RL 233 yL_takenBy ∈ qw_big := qm_42 _ (List.mem_of_getElem? (i := 12) rfl)
theorem kst_L_takenBy : Cond.static yL_takenBy ∈ qw_big := qm_42 _ (List.mem_of_getElem? (i := 13) rfl)
theorem kml_L_235 : Cond.methodLink RL 235 yX8_takenBy ∈ qw_big := qm_42 _ (List.mem_of_getElem? (i := 14) rfl)
theorem kin_X8_takenBy : Cond.instanceMethod yX8_takenBy ∈ qw_big := qm_42 _ (List.mem_of_getElem? (i := 15) rfl)
theorem kse_X8_takenBy : Cond.selects RX8 yX8_takenBy yX8_takenBy ∈ qw_big := qm_42 _ (List.mem_of_getElem? (i := 16) rfl)
theorem kml_L_236 : Cond.methodLink RL 236 yL_tradeRoom ∈ qw_big := qm_42 _ (List.mem_of_getElem? (i := 17) rfl)
theorem kst_L_tradeRoom : Cond.static yL_tradeRoom ∈ qw_big := qm_42 _ (List.mem_of_getElem? (i := 18) rfl)
theorem kml_L_238 : Cond.methodLink RL 238 yX8_tradeRoom ∈ qw_big := qm_42 _ (List.mem_of_getElem? (i := 19) rfl)
theorem kin_X8_tradeRoom : Cond.instanceMethod yX8_tradeRoom ∈ qw_big := qm_42 _ (List.mem_of_getElem? (i := 20) rfl)
theorem kse_X8_tradeRoom : Cond.selects RX8 yX8_tradeRoom yX8_tradeRoom ∈ qw_big := qm_42 _ (List.mem_of_getElem? (i := 21) rfl)
theorem kml_L_239 : Cond.methodLink RL 239 yL_helpers ∈ qw_big := qm_42 _ (List.mem_of_getElem? (i := 22) rfl)
theorem kst_L_helpers : Cond.static yL_helpers ∈ qw_big := qm_42 _ (List.mem_of_getElem? (i := 23) rfl)
theorem kml_L_241 : Cond.methodLink RL 241 yX8_helpers ∈ qw_big := qm_42 _ (List.mem_of_getElem? (i := 24) rfl)
theorem kin_X8_helpers : Cond.instanceMethod yX8_helpers ∈ qw_big := qm_42 _ (List.mem_of_getElem? (i := 25) rfl)
theorem kse_X8_helpers : Cond.selects RX8 yX8_helpers yX8_helpers ∈ qw_big := qm_42 _ (List.mem_of_getElem? (i := 26) rfl)
theorem kml_L_242 : Cond.methodLink RL 242 yL_stockOf ∈ qw_big := qm_42 _ (List.mem_of_getElem? (i := 27) rfl)
theorem kst_L_stockOf : Cond.static yL_stockOf ∈ qw_big := qm_42 _ (List.mem_of_getElem? (i := 28) rfl)
theorem kml_L_244 : Cond.methodLink RL 244 yX8_stockOf ∈ qw_big := qm_42 _ (List.mem_of_getElem? (i := 29) rfl)
theorem kin_X8_stockOf : Cond.instanceMethod yX8_stockOf ∈ qw_big := qm_43 _ (List.mem_of_getElem? (i := 0) rfl)
theorem kse_X8_stockOf : Cond.selects RX8 yX8_stockOf yX8_stockOf ∈ qw_big := qm_43 _ (List.mem_of_getElem? (i := 1) rfl)
theorem kml_L_245 : Cond.methodLink RL 245 yL_accountOf ∈ qw_big := qm_43 _ (List.mem_of_getElem? (i := 2) rfl)
theorem kst_L_accountOf : Cond.static yL_accountOf ∈ qw_big := qm_43 _ (List.mem_of_getElem? (i := 3) rfl)
theorem kml_L_247 : Cond.methodLink RL 247 yX8_accountOf ∈ qw_big := qm_43 _ (List.mem_of_getElem? (i := 4) rfl)
theorem kin_X8_accountOf : Cond.instanceMethod yX8_accountOf ∈ qw_big := qm_43 _ (List.mem_of_getElem? (i := 5) rfl)
theorem kse_X8_accountOf : Cond.selects RX8 yX8_accountOf yX8_accountOf ∈ qw_big := qm_43 _ (List.mem_of_getElem? (i := 6) rfl)
theorem kml_L_248 : Cond.methodLink RL 248 yL_penaltyOf ∈ qw_big := qm_43 _ (List.mem_of_getElem? (i := 7) rfl)
theorem kst_L_penaltyOf : Cond.static yL_penaltyOf ∈ qw_big := qm_43 _ (List.mem_of_getElem? (i := 8) rfl)
theorem kml_L_250 : Cond.methodLink RL 250 yX8_penaltyOf ∈ qw_big := qm_43 _ (List.mem_of_getElem? (i := 9) rfl)
theorem kin_X8_penaltyOf : Cond.instanceMethod yX8_penaltyOf ∈ qw_big := qm_43 _ (List.mem_of_getElem? (i := 10) rfl)
theorem kse_X8_penaltyOf : Cond.selects RX8 yX8_penaltyOf yX8_penaltyOf ∈ qw_big := qm_43 _ (List.mem_of_getElem? (i := 11) rfl)
theorem kml_L_251 : Cond.methodLink RL 251 yL_isSuspended ∈ qw_big := qm_43 _ (List.mem_of_getElem? (i := 12) rfl)
theorem kst_L_isSuspended : Cond.static yL_isSuspended ∈ qw_big := qm_43 _ (List.mem_of_getElem? (i := 13) rfl)
theorem kml_L_253 : Cond.methodLink RL 253 yX8_isSuspended ∈ qw_big := qm_43 _ (List.mem_of_getElem? (i := 14) rfl)
theorem kin_X8_isSuspended : Cond.instanceMethod yX8_isSuspended ∈ qw_big := qm_43 _ (List.mem_of_getElem? (i := 15) rfl)
theorem kse_X8_isSuspended : Cond.selects RX8 yX8_isSuspended yX8_isSuspended ∈ qw_big := qm_43 _ (List.mem_of_getElem? (i := 16) rfl)
theorem kml_L_254 : Cond.methodLink RL 254 yL_soldBy ∈ qw_big := qm_43 _ (List.mem_of_getElem? (i := 17) rfl)
theorem kst_L_soldBy : Cond.static yL_soldBy ∈ qw_big := qm_43 _ (List.mem_of_getElem? (i := 18) rfl)
theorem kml_L_256 : Cond.methodLink RL 256 yX8_soldBy ∈ qw_big := qm_43 _ (List.mem_of_getElem? (i := 19) rfl)
theorem kin_X8_soldBy : Cond.instanceMethod yX8_soldBy ∈ qw_big := qm_43 _ (List.mem_of_getElem? (i := 20) rfl)
theorem kse_X8_soldBy : Cond.selects RX8 yX8_soldBy yX8_soldBy ∈ qw_big := qm_43 _ (List.mem_of_getElem? (i := 21) rfl)
theorem kml_L_257 : Cond.methodLink RL 257 yL_deliveredTo ∈ qw_big := qm_43 _ (List.mem_of_getElem? (i := 22) rfl)
theorem kst_L_deliveredTo : Cond.static yL_deliveredTo ∈ qw_big := qm_43 _ (List.mem_of_getElem? (i := 23) rfl)
theorem kml_L_259 : Cond.methodLink RL 259 yX8_deliveredTo ∈ qw_big := qm_43 _ (List.mem_of_getElem? (i := 24) rfl)
theorem kin_X8_deliveredTo : Cond.instanceMethod yX8_deliveredTo ∈ qw_big := qm_43 _ (List.mem_of_getElem? (i := 25) rfl)
theorem kse_X8_deliveredTo : Cond.selects RX8 yX8_deliveredTo yX8_deliveredTo ∈ qw_big := qm_43 _ (List.mem_of_getElem? (i := 26) rfl)
theorem kml_L_260 : Cond.methodLink RL 260 yL_turnover ∈ qw_big := qm_43 _ (List.mem_of_getElem? (i := 27) rfl)
theorem kst_L_turnover : Cond.static yL_turnover ∈ qw_big := qm_43 _ (List.mem_of_getElem? (i := 28) rfl)
theorem kml_L_262 : Cond.methodLink RL 262 yX8_turnover ∈ qw_big := qm_43 _ (List.mem_of_getElem? (i := 29) rfl)
theorem kin_X8_turnover : Cond.instanceMethod yX8_turnover ∈ qw_big := qm_44 _ (List.mem_of_getElem? (i := 0) rfl)
theorem kse_X8_turnover : Cond.selects RX8 yX8_turnover yX8_turnover ∈ qw_big := qm_44 _ (List.mem_of_getElem? (i := 1) rfl)
theorem kml_L_263 : Cond.methodLink RL 263 yL_issued ∈ qw_big := qm_44 _ (List.mem_of_getElem? (i := 2) rfl)
theorem kst_L_issued : Cond.static yL_issued ∈ qw_big := qm_44 _ (List.mem_of_getElem? (i := 3) rfl)
theorem kml_L_265 : Cond.methodLink RL 265 yX8_issued ∈ qw_big := qm_44 _ (List.mem_of_getElem? (i := 4) rfl)
theorem kin_X8_issued : Cond.instanceMethod yX8_issued ∈ qw_big := qm_44 _ (List.mem_of_getElem? (i := 5) rfl)
theorem kse_X8_issued : Cond.selects RX8 yX8_issued yX8_issued ∈ qw_big := qm_44 _ (List.mem_of_getElem? (i := 6) rfl)
theorem kml_L_266 : Cond.methodLink RL 266 yL_spent ∈ qw_big := qm_44 _ (List.mem_of_getElem? (i := 7) rfl)
theorem kst_L_spent : Cond.static yL_spent ∈ qw_big := qm_44 _ (List.mem_of_getElem? (i := 8) rfl)
theorem kml_L_268 : Cond.methodLink RL 268 yX8_spent ∈ qw_big := qm_44 _ (List.mem_of_getElem? (i := 9) rfl)
theorem kin_X8_spent : Cond.instanceMethod yX8_spent ∈ qw_big := qm_44 _ (List.mem_of_getElem? (i := 10) rfl)
theorem kse_X8_spent : Cond.selects RX8 yX8_spent yX8_spent ∈ qw_big := qm_44 _ (List.mem_of_getElem? (i := 11) rfl)
theorem kml_L_269 : Cond.methodLink RL 269 yL_lapsed ∈ qw_big := qm_44 _ (List.mem_of_getElem? (i := 12) rfl)
theorem kst_L_lapsed : Cond.static yL_lapsed ∈ qw_big := qm_44 _ (List.mem_of_getElem? (i := 13) rfl)
theorem kml_L_271 : Cond.methodLink RL 271 yX8_lapsed ∈ qw_big := qm_44 _ (List.mem_of_getElem? (i := 14) rfl)
theorem kin_X8_lapsed : Cond.instanceMethod yX8_lapsed ∈ qw_big := qm_44 _ (List.mem_of_getElem? (i := 15) rfl)
theorem kse_X8_lapsed : Cond.selects RX8 yX8_lapsed yX8_lapsed ∈ qw_big := qm_44 _ (List.mem_of_getElem? (i := 16) rfl)
theorem kml_L_272 : Cond.methodLink RL 272 yL_held ∈ qw_big := qm_44 _ (List.mem_of_getElem? (i := 17) rfl)
theorem kst_L_held : Cond.static yL_held ∈ qw_big := qm_44 _ (List.mem_of_getElem? (i := 18) rfl)
theorem kml_L_274 : Cond.methodLink RL 274 yX8_held ∈ qw_big := qm_44 _ (List.mem_of_getElem? (i := 19) rfl)
theorem kin_X8_held : Cond.instanceMethod yX8_held ∈ qw_big := qm_44 _ (List.mem_of_getElem? (i := 20) rfl)
theorem kse_X8_held : Cond.selects RX8 yX8_held yX8_held ∈ qw_big := qm_44 _ (List.mem_of_getElem? (i := 21) rfl)
theorem kml_L_275 : Cond.methodLink RL 275 yL_reasonFor ∈ qw_big := qm_44 _ (List.mem_of_getElem? (i := 22) rfl)
theorem kst_L_reasonFor : Cond.static yL_reasonFor ∈ qw_big := qm_44 _ (List.mem_of_getElem? (i := 23) rfl)
theorem kml_L_278 : Cond.methodLink RL 278 yX8_reasonFor ∈ qw_big := qm_44 _ (List.mem_of_getElem? (i := 24) rfl)
theorem kin_X8_reasonFor : Cond.instanceMethod yX8_reasonFor ∈ qw_big := qm_44 _ (List.mem_of_getElem? (i := 25) rfl)
theorem kse_X8_reasonFor : Cond.selects RX8 yX8_reasonFor yX8_reasonFor ∈ qw_big := qm_44 _ (List.mem_of_getElem? (i := 26) rfl)
theorem kml_L_279 : Cond.methodLink RL 279 yL_mostUnits ∈ qw_big := qm_44 _ (List.mem_of_getElem? (i := 27) rfl)
theorem kst_L_mostUnits : Cond.static yL_mostUnits ∈ qw_big := qm_44 _ (List.mem_of_getElem? (i := 28) rfl)
theorem kml_L_281 : Cond.methodLink RL 281 yX8_mostUnits ∈ qw_big := qm_44 _ (List.mem_of_getElem? (i := 29) rfl)
theorem kin_X8_mostUnits : Cond.instanceMethod yX8_mostUnits ∈ qw_big := qm_45 _ (List.mem_of_getElem? (i := 0) rfl)
theorem kse_X8_mostUnits : Cond.selects RX8 yX8_mostUnits yX8_mostUnits ∈ qw_big := qm_45 _ (List.mem_of_getElem? (i := 1) rfl)
theorem kml_L_282 : Cond.methodLink RL 282 yL_substituted ∈ qw_big := qm_45 _ (List.mem_of_getElem? (i := 2) rfl)
theorem kst_L_substituted : Cond.static yL_substituted ∈ qw_big := qm_45 _ (List.mem_of_getElem? (i := 3) rfl)
theorem kml_L_284 : Cond.methodLink RL 284 yX8_substituted ∈ qw_big := qm_45 _ (List.mem_of_getElem? (i := 4) rfl)
theorem kin_X8_substituted : Cond.instanceMethod yX8_substituted ∈ qw_big := qm_45 _ (List.mem_of_getElem? (i := 5) rfl)
theorem kse_X8_substituted : Cond.selects RX8 yX8_substituted yX8_substituted ∈ qw_big := qm_45 _ (List.mem_of_getElem? (i := 6) rfl)
theorem kml_L_285 : Cond.methodLink RL 285 yL_served ∈ qw_big := qm_45 _ (List.mem_of_getElem? (i := 7) rfl)
theorem kst_L_served : Cond.static yL_served ∈ qw_big := qm_45 _ (List.mem_of_getElem? (i := 8) rfl)
theorem kml_L_287 : Cond.methodLink RL 287 yX8_served ∈ qw_big := qm_45 _ (List.mem_of_getElem? (i := 9) rfl)
theorem kin_X8_served : Cond.instanceMethod yX8_served ∈ qw_big := qm_45 _ (List.mem_of_getElem? (i := 10) rfl)
theorem kse_X8_served : Cond.selects RX8 yX8_served yX8_served ∈ qw_big := qm_45 _ (List.mem_of_getElem? (i := 11) rfl)
theorem kml_L_288 : Cond.methodLink RL 288 yL_basketValue ∈ qw_big := qm_45 _ (List.mem_of_getElem? (i := 12) rfl)
theorem kst_L_basketValue : Cond.static yL_basketValue ∈ qw_big := qm_45 _ (List.mem_of_getElem? (i := 13) rfl)
theorem kml_L_290 : Cond.methodLink RL 290 yX8_basketValue ∈ qw_big := qm_45 _ (List.mem_of_getElem? (i := 14) rfl)
theorem kin_X8_basketValue : Cond.instanceMethod yX8_basketValue ∈ qw_big := qm_45 _ (List.mem_of_getElem? (i := 15) rfl)
theorem kse_X8_basketValue : Cond.selects RX8 yX8_basketValue yX8_basketValue ∈ qw_big := qm_45 _ (List.mem_of_getElem? (i := 16) rfl)
theorem kml_L_291 : Cond.methodLink RL 291 yL_basketUnits ∈ qw_big := qm_45 _ (List.mem_of_getElem? (i := 17) rfl)
theorem kst_L_basketUnits : Cond.static yL_basketUnits ∈ qw_big := qm_45 _ (List.mem_of_getElem? (i := 18) rfl)
theorem kml_L_293 : Cond.methodLink RL 293 yX8_basketUnits ∈ qw_big := qm_45 _ (List.mem_of_getElem? (i := 19) rfl)
theorem kin_X8_basketUnits : Cond.instanceMethod yX8_basketUnits ∈ qw_big := qm_45 _ (List.mem_of_getElem? (i := 20) rfl)
theorem kse_X8_basketUnits : Cond.selects RX8 yX8_basketUnits yX8_basketUnits ∈ qw_big := qm_45 _ (List.mem_of_getElem? (i := 21) rfl)
theorem kml_L_294 : Cond.methodLink RL 294 yL_waitFor ∈ qw_big := qm_45 _ (List.mem_of_getElem? (i := 22) rfl)
theorem kst_L_waitFor : Cond.static yL_waitFor ∈ qw_big := qm_45 _ (List.mem_of_getElem? (i := 23) rfl)
theorem kml_L_296 : Cond.methodLink RL 296 yX8_waitFor ∈ qw_big := qm_45 _ (List.mem_of_getElem? (i := 24) rfl)
theorem kin_X8_waitFor : Cond.instanceMethod yX8_waitFor ∈ qw_big := qm_45 _ (List.mem_of_getElem? (i := 25) rfl)
theorem kse_X8_waitFor : Cond.selects RX8 yX8_waitFor yX8_waitFor ∈ qw_big := qm_45 _ (List.mem_of_getElem? (i := 26) rfl)
theorem kml_L_297 : Cond.methodLink RL 297 yL_bestShop ∈ qw_big := qm_45 _ (List.mem_of_getElem? (i := 27) rfl)
theorem kst_L_bestShop : Cond.static yL_bestShop ∈ qw_big := qm_45 _ (List.mem_of_getElem? (i := 28) rfl)
theorem kml_L_299 : Cond.methodLink RL 299 yX8_bestShop ∈ qw_big := qm_45 _ (List.mem_of_getElem? (i := 29) rfl)
theorem kin_X8_bestShop : Cond.instanceMethod yX8_bestShop ∈ qw_big := qm_46 _ (List.mem_of_getElem? (i := 0) rfl)
theorem kse_X8_bestShop : Cond.selects RX8 yX8_bestShop yX8_bestShop ∈ qw_big := qm_46 _ (List.mem_of_getElem? (i := 1) rfl)
theorem kml_L_300 : Cond.methodLink RL 300 yL_bestHouse ∈ qw_big := qm_46 _ (List.mem_of_getElem? (i := 2) rfl)
theorem kst_L_bestHouse : Cond.static yL_bestHouse ∈ qw_big := qm_46 _ (List.mem_of_getElem? (i := 3) rfl)
theorem kml_L_302 : Cond.methodLink RL 302 yX8_bestHouse ∈ qw_big := qm_46 _ (List.mem_of_getElem? (i := 4) rfl)
theorem kin_X8_bestHouse : Cond.instanceMethod yX8_bestHouse ∈ qw_big := qm_46 _ (List.mem_of_getElem? (i := 5) rfl)
theorem kse_X8_bestHouse : Cond.selects RX8 yX8_bestHouse yX8_bestHouse ∈ qw_big := qm_46 _ (List.mem_of_getElem? (i := 6) rfl)
theorem kml_L_303 : Cond.methodLink RL 303 yL_basketCost ∈ qw_big := qm_46 _ (List.mem_of_getElem? (i := 7) rfl)
theorem kst_L_basketCost : Cond.static yL_basketCost ∈ qw_big := qm_46 _ (List.mem_of_getElem? (i := 8) rfl)
theorem kml_L_305 : Cond.methodLink RL 305 yX8_basketCost ∈ qw_big := qm_46 _ (List.mem_of_getElem? (i := 9) rfl)
theorem kin_X8_basketCost : Cond.instanceMethod yX8_basketCost ∈ qw_big := qm_46 _ (List.mem_of_getElem? (i := 10) rfl)
theorem kse_X8_basketCost : Cond.selects RX8 yX8_basketCost yX8_basketCost ∈ qw_big := qm_46 _ (List.mem_of_getElem? (i := 11) rfl)
theorem kml_L_306 : Cond.methodLink RL 306 yL_basketLeft ∈ qw_big := qm_46 _ (List.mem_of_getElem? (i := 12) rfl)
theorem kst_L_basketLeft : Cond.static yL_basketLeft ∈ qw_big := qm_46 _ (List.mem_of_getElem? (i := 13) rfl)
theorem kml_L_308 : Cond.methodLink RL 308 yX8_basketLeft ∈ qw_big := qm_46 _ (List.mem_of_getElem? (i := 14) rfl)
theorem kin_X8_basketLeft : Cond.instanceMethod yX8_basketLeft ∈ qw_big := qm_46 _ (List.mem_of_getElem? (i := 15) rfl)
theorem kse_X8_basketLeft : Cond.selects RX8 yX8_basketLeft yX8_basketLeft ∈ qw_big := qm_46 _ (List.mem_of_getElem? (i := 16) rfl)
theorem kml_L_309 : Cond.methodLink RL 309 yL_swapChain ∈ qw_big := qm_46 _ (List.mem_of_getElem? (i := 17) rfl)
theorem kst_L_swapChain : Cond.static yL_swapChain ∈ qw_big := qm_46 _ (List.mem_of_getElem? (i := 18) rfl)
theorem kml_L_311 : Cond.methodLink RL 311 yX8_swapChain ∈ qw_big := qm_46 _ (List.mem_of_getElem? (i := 19) rfl)
theorem kin_X8_swapChain : Cond.instanceMethod yX8_swapChain ∈ qw_big := qm_46 _ (List.mem_of_getElem? (i := 20) rfl)
theorem kse_X8_swapChain : Cond.selects RX8 yX8_swapChain yX8_swapChain ∈ qw_big := qm_46 _ (List.mem_of_getElem? (i := 21) rfl)
theorem kml_L_312 : Cond.methodLink RL 312 yL_mostDeliverable ∈ qw_big := qm_46 _ (List.mem_of_getElem? (i := 22) rfl)
theorem kst_L_mostDeliverable : Cond.static yL_mostDeliverable ∈ qw_big := qm_46 _ (List.mem_of_getElem? (i := 23) rfl)
theorem kml_L_314 : Cond.methodLink RL 314 yX8_mostDeliverable ∈ qw_big := qm_46 _ (List.mem_of_getElem? (i := 24) rfl)
theorem kin_X8_mostDeliverable : Cond.instanceMethod yX8_mostDeliverable ∈ qw_big := qm_46 _ (List.mem_of_getElem? (i := 25) rfl)
theorem kse_X8_mostDeliverable : Cond.selects RX8 yX8_mostDeliverable yX8_mostDeliverable ∈ qw_big := qm_46 _ (List.mem_of_getElem? (i := 26) rfl)
theorem kml_L_315 : Cond.methodLink RL 315 yL_spreadOf ∈ qw_big := qm_46 _ (List.mem_of_getElem? (i := 27) rfl)
theorem kst_L_spreadOf : Cond.static yL_spreadOf ∈ qw_big := qm_46 _ (List.mem_of_getElem? (i := 28) rfl)
theorem kml_L_317 : Cond.methodLink RL 317 yX8_spreadOf ∈ qw_big := qm_46 _ (List.mem_of_getElem? (i := 29) rfl)
theorem kin_X8_spreadOf : Cond.instanceMethod yX8_spreadOf ∈ qw_big := qm_47 _ (List.mem_of_getElem? (i := 0) rfl)
theorem kse_X8_spreadOf : Cond.selects RX8 yX8_spreadOf yX8_spreadOf ∈ qw_big := qm_47 _ (List.mem_of_getElem? (i := 1) rfl)
theorem kml_L_318 : Cond.methodLink RL 318 yL_levelMoves ∈ qw_big := qm_47 _ (List.mem_of_getElem? (i := 2) rfl)
theorem kst_L_levelMoves : Cond.static yL_levelMoves ∈ qw_big := qm_47 _ (List.mem_of_getElem? (i := 3) rfl)
theorem kml_L_320 : Cond.methodLink RL 320 yX8_levelMoves ∈ qw_big := qm_47 _ (List.mem_of_getElem? (i := 4) rfl)
theorem kin_X8_levelMoves : Cond.instanceMethod yX8_levelMoves ∈ qw_big := qm_47 _ (List.mem_of_getElem? (i := 5) rfl)
theorem kse_X8_levelMoves : Cond.selects RX8 yX8_levelMoves yX8_levelMoves ∈ qw_big := qm_47 _ (List.mem_of_getElem? (i := 6) rfl)
theorem kml_L_321 : Cond.methodLink RL 321 yL_lapseAfter ∈ qw_big := qm_47 _ (List.mem_of_getElem? (i := 7) rfl)
theorem kst_L_lapseAfter : Cond.static yL_lapseAfter ∈ qw_big := qm_47 _ (List.mem_of_getElem? (i := 8) rfl)
theorem kml_L_323 : Cond.methodLink RL 323 yX8_lapseAfter ∈ qw_big := qm_47 _ (List.mem_of_getElem? (i := 9) rfl)
theorem kin_X8_lapseAfter : Cond.instanceMethod yX8_lapseAfter ∈ qw_big := qm_47 _ (List.mem_of_getElem? (i := 10) rfl)
theorem kse_X8_lapseAfter : Cond.selects RX8 yX8_lapseAfter yX8_lapseAfter ∈ qw_big := qm_47 _ (List.mem_of_getElem? (i := 11) rfl)
theorem kml_L_324 : Cond.methodLink RL 324 yL_supplyPeriods ∈ qw_big := qm_47 _ (List.mem_of_getElem? (i := 12) rfl)
theorem kst_L_supplyPeriods : Cond.static yL_supplyPeriods ∈ qw_big := qm_47 _ (List.mem_of_getElem? (i := 13) rfl)
theorem kml_L_326 : Cond.methodLink RL 326 yX8_supplyPeriods ∈ qw_big := qm_47 _ (List.mem_of_getElem? (i := 14) rfl)
theorem kin_X8_supplyPeriods : Cond.instanceMethod yX8_supplyPeriods ∈ qw_big := qm_47 _ (List.mem_of_getElem? (i := 15) rfl)
theorem kse_X8_supplyPeriods : Cond.selects RX8 yX8_supplyPeriods yX8_supplyPeriods ∈ qw_big := qm_47 _ (List.mem_of_getElem? (i := 16) rfl)
theorem kml_L_327 : Cond.methodLink RL 327 yX7_buy ∈ qw_big := qm_47 _ (List.mem_of_getElem? (i := 17) rfl)
theorem kin_X7_buy : Cond.instanceMethod yX7_buy ∈ qw_big := qm_47 _ (List.mem_of_getElem? (i := 18) rfl)
theorem kse_X7_buy : Cond.selects RX7 yX7_buy yX7_buy ∈ qw_big := qm_47 _ (List.mem_of_getElem? (i := 19) rfl)
theorem kml_L_330 : Cond.methodLink RL 330 yX8_buy ∈ qw_big := qm_47 _ (List.mem_of_getElem? (i := 20) rfl)
theorem kin_X8_buy : Cond.instanceMethod yX8_buy ∈ qw_big := qm_47 _ (List.mem_of_getElem? (i := 21) rfl)
theorem kse_X8_buy : Cond.selects RX8 yX8_buy yX8_buy ∈ qw_big := qm_47 _ (List.mem_of_getElem? (i := 22) rfl)
theorem kml_L_331 : Cond.methodLink RL 331 yX7_deliver ∈ qw_big := qm_47 _ (List.mem_of_getElem? (i := 23) rfl)
theorem kin_X7_deliver : Cond.instanceMethod yX7_deliver ∈ qw_big := qm_47 _ (List.mem_of_getElem? (i := 24) rfl)
theorem kse_X7_deliver : Cond.selects RX7 yX7_deliver yX7_deliver ∈ qw_big := qm_47 _ (List.mem_of_getElem? (i := 25) rfl)
theorem kml_L_334 : Cond.methodLink RL 334 yX8_deliver ∈ qw_big := qm_47 _ (List.mem_of_getElem? (i := 26) rfl)
theorem kin_X8_deliver : Cond.instanceMethod yX8_deliver ∈ qw_big := qm_47 _ (List.mem_of_getElem? (i := 27) rfl)
theorem kse_X8_deliver : Cond.selects RX8 yX8_deliver yX8_deliver ∈ qw_big := qm_47 _ (List.mem_of_getElem? (i := 28) rfl)
theorem kml_L_335 : Cond.methodLink RL 335 yX7_trade ∈ qw_big := qm_47 _ (List.mem_of_getElem? (i := 29) rfl)
theorem kin_X7_trade : Cond.instanceMethod yX7_trade ∈ qw_big := qm_48 _ (List.mem_of_getElem? (i := 0) rfl)
theorem kse_X7_trade : Cond.selects RX7 yX7_trade yX7_trade ∈ qw_big := qm_48 _ (List.mem_of_getElem? (i := 1) rfl)
theorem kml_L_338 : Cond.methodLink RL 338 yX8_trade ∈ qw_big := qm_48 _ (List.mem_of_getElem? (i := 2) rfl)
theorem kin_X8_trade : Cond.instanceMethod yX8_trade ∈ qw_big := qm_48 _ (List.mem_of_getElem? (i := 3) rfl)
theorem kse_X8_trade : Cond.selects RX8 yX8_trade yX8_trade ∈ qw_big := qm_48 _ (List.mem_of_getElem? (i := 4) rfl)
theorem kml_L_339 : Cond.methodLink RL 339 yX7_audit ∈ qw_big := qm_48 _ (List.mem_of_getElem? (i := 5) rfl)
theorem kin_X7_audit : Cond.instanceMethod yX7_audit ∈ qw_big := qm_48 _ (List.mem_of_getElem? (i := 6) rfl)
theorem kse_X7_audit : Cond.selects RX7 yX7_audit yX7_audit ∈ qw_big := qm_48 _ (List.mem_of_getElem? (i := 7) rfl)
theorem kml_L_342 : Cond.methodLink RL 342 yX8_audit ∈ qw_big := qm_48 _ (List.mem_of_getElem? (i := 8) rfl)
theorem kin_X8_audit : Cond.instanceMethod yX8_audit ∈ qw_big := qm_48 _ (List.mem_of_getElem? (i := 9) rfl)
theorem kse_X8_audit : Cond.selects RX8 yX8_audit yX8_audit ∈ qw_big := qm_48 _ (List.mem_of_getElem? (i := 10) rfl)
theorem kml_L_343 : Cond.methodLink RL 343 yX7_pardon ∈ qw_big := qm_48 _ (List.mem_of_getElem? (i := 11) rfl)
theorem kin_X7_pardon : Cond.instanceMethod yX7_pardon ∈ qw_big := qm_48 _ (List.mem_of_getElem? (i := 12) rfl)
theorem kse_X7_pardon : Cond.selects RX7 yX7_pardon yX7_pardon ∈ qw_big := qm_48 _ (List.mem_of_getElem? (i := 13) rfl)
theorem kml_L_346 : Cond.methodLink RL 346 yX8_pardon ∈ qw_big := qm_48 _ (List.mem_of_getElem? (i := 14) rfl)
theorem kin_X8_pardon : Cond.instanceMethod yX8_pardon ∈ qw_big := qm_48 _ (List.mem_of_getElem? (i := 15) rfl)
theorem kse_X8_pardon : Cond.selects RX8 yX8_pardon yX8_pardon ∈ qw_big := qm_48 _ (List.mem_of_getElem? (i := 16) rfl)
theorem kml_L_347 : Cond.methodLink RL 347 yX7_nextPeriod ∈ qw_big := qm_48 _ (List.mem_of_getElem? (i := 17) rfl)
theorem kin_X7_nextPeriod : Cond.instanceMethod yX7_nextPeriod ∈ qw_big := qm_48 _ (List.mem_of_getElem? (i := 18) rfl)
theorem kse_X7_nextPeriod : Cond.selects RX7 yX7_nextPeriod yX7_nextPeriod ∈ qw_big := qm_48 _ (List.mem_of_getElem? (i := 19) rfl)
theorem kml_L_350 : Cond.methodLink RL 350 yX8_nextPeriod ∈ qw_big := qm_48 _ (List.mem_of_getElem? (i := 20) rfl)
theorem kin_X8_nextPeriod : Cond.instanceMethod yX8_nextPeriod ∈ qw_big := qm_48 _ (List.mem_of_getElem? (i := 21) rfl)
theorem kse_X8_nextPeriod : Cond.selects RX8 yX8_nextPeriod yX8_nextPeriod ∈ qw_big := qm_48 _ (List.mem_of_getElem? (i := 22) rfl)
theorem kml_L_351 : Cond.methodLink RL 351 yX7_setRation ∈ qw_big := qm_48 _ (List.mem_of_getElem? (i := 23) rfl)
theorem kin_X7_setRation : Cond.instanceMethod yX7_setRation ∈ qw_big := qm_48 _ (List.mem_of_getElem? (i := 24) rfl)
theorem kse_X7_setRation : Cond.selects RX7 yX7_setRation yX7_setRation ∈ qw_big := qm_48 _ (List.mem_of_getElem? (i := 25) rfl)
theorem kml_L_354 : Cond.methodLink RL 354 yX8_setRation ∈ qw_big := qm_48 _ (List.mem_of_getElem? (i := 26) rfl)
theorem kin_X8_setRation : Cond.instanceMethod yX8_setRation ∈ qw_big := qm_48 _ (List.mem_of_getElem? (i := 27) rfl)
theorem kse_X8_setRation : Cond.selects RX8 yX8_setRation yX8_setRation ∈ qw_big := qm_48 _ (List.mem_of_getElem? (i := 28) rfl)
theorem kml_L_355 : Cond.methodLink RL 355 yX7_setSize ∈ qw_big := qm_48 _ (List.mem_of_getElem? (i := 29) rfl)
theorem kin_X7_setSize : Cond.instanceMethod yX7_setSize ∈ qw_big := qm_49 _ (List.mem_of_getElem? (i := 0) rfl)
theorem kse_X7_setSize : Cond.selects RX7 yX7_setSize yX7_setSize ∈ qw_big := qm_49 _ (List.mem_of_getElem? (i := 1) rfl)
theorem kml_L_358 : Cond.methodLink RL 358 yX8_setSize ∈ qw_big := qm_49 _ (List.mem_of_getElem? (i := 2) rfl)
theorem kin_X8_setSize : Cond.instanceMethod yX8_setSize ∈ qw_big := qm_49 _ (List.mem_of_getElem? (i := 3) rfl)
theorem kse_X8_setSize : Cond.selects RX8 yX8_setSize yX8_setSize ∈ qw_big := qm_49 _ (List.mem_of_getElem? (i := 4) rfl)
theorem kml_L_359 : Cond.methodLink RL 359 yX7_setSetting ∈ qw_big := qm_49 _ (List.mem_of_getElem? (i := 5) rfl)
theorem kin_X7_setSetting : Cond.instanceMethod yX7_setSetting ∈ qw_big := qm_49 _ (List.mem_of_getElem? (i := 6) rfl)
theorem kse_X7_setSetting : Cond.selects RX7 yX7_setSetting yX7_setSetting ∈ qw_big := qm_49 _ (List.mem_of_getElem? (i := 7) rfl)
theorem kml_L_362 : Cond.methodLink RL 362 yX8_setSetting ∈ qw_big := qm_49 _ (List.mem_of_getElem? (i := 8) rfl)
theorem kin_X8_setSetting : Cond.instanceMethod yX8_setSetting ∈ qw_big := qm_49 _ (List.mem_of_getElem? (i := 9) rfl)
theorem kse_X8_setSetting : Cond.selects RX8 yX8_setSetting yX8_setSetting ∈ qw_big := qm_49 _ (List.mem_of_getElem? (i := 10) rfl)
theorem kml_L_363 : Cond.methodLink RL 363 yX7_undo ∈ qw_big := qm_49 _ (List.mem_of_getElem? (i := 11) rfl)
theorem kin_X7_undo : Cond.instanceMethod yX7_undo ∈ qw_big := qm_49 _ (List.mem_of_getElem? (i := 12) rfl)
theorem kse_X7_undo : Cond.selects RX7 yX7_undo yX7_undo ∈ qw_big := qm_49 _ (List.mem_of_getElem? (i := 13) rfl)
theorem kml_L_366 : Cond.methodLink RL 366 yX8_undo ∈ qw_big := qm_49 _ (List.mem_of_getElem? (i := 14) rfl)
theorem kin_X8_undo : Cond.instanceMethod yX8_undo ∈ qw_big := qm_49 _ (List.mem_of_getElem? (i := 15) rfl)
theorem kse_X8_undo : Cond.selects RX8 yX8_undo yX8_undo ∈ qw_big := qm_49 _ (List.mem_of_getElem? (i := 16) rfl)
theorem kg_J0_492 : GoodIn qw_big (wsV RJ0 492 RJ0 yJ0_isLatin1_aae02 (Cond.code yJ0_isLatin1_aae02 cJ0_isLatin1_aae02 1 (some .boolean) :: qw_big)) := qw_gV kml_J0_492 kin_J0_isLatin1_aae02 kse_J0_isLatin1_aae02 kini_J0 kco_J0_isLatin1_aae02
theorem kg_J0_495 : GoodIn qw_big (va_wsS RJ0 495 yJ1_charAt_3b067 (Cond.code yJ1_charAt_3b067 cJ1_charAt_3b067 2 (some .char) :: qw_big)) := qw_gS kml_J0_495 kst_J1_charAt_3b067 kini_J1 kco_J1_charAt_3b067
theorem kg_J1_9 : GoodIn qw_big (va_wsS RJ1 9 yJ0_checkIndex_df160 (Cond.code yJ0_checkIndex_df160 cJ0_checkIndex_df160 2 none :: qw_big)) := qw_gS kml_J1_9 kst_J0_checkIndex_df160 kini_J0 kco_J0_checkIndex_df160
theorem kg_J0_1059 : GoodIn qw_big (va_wsS RJ0 1059 yJ3_checkIndex_8e157 (Cond.code yJ3_checkIndex_8e157 cJ3_checkIndex_8e157 3 (some .int) :: qw_big)) := qw_gS kml_J0_1059 kst_J3_checkIndex_8e157 kini_J3 kco_J3_checkIndex_8e157
theorem kg_J0_498 : GoodIn qw_big (va_wsS RJ0 498 yJ2_charAt_3b067 (Cond.code yJ2_charAt_3b067 cJ2_charAt_3b067 2 (some .char) :: qw_big)) := qw_gS kml_J0_498 kst_J2_charAt_3b067 kini_J2 kco_J2_charAt_3b067
theorem kg_J2_67 : GoodIn qw_big (va_wsS RJ2 67 yJ2_checkIndex_2214a (Cond.code yJ2_checkIndex_2214a cJ2_checkIndex_2214a 2 none :: qw_big)) := qw_gS kml_J2_67 kst_J2_checkIndex_2214a kini_J2 kco_J2_checkIndex_2214a
theorem kg_J2_48 : GoodIn qw_big (va_wsS RJ2 48 yJ2_length_9d52b (Cond.code yJ2_length_9d52b cJ2_length_9d52b 1 (some .int) :: qw_big)) := qw_gS kml_J2_48 kst_J2_length_9d52b kini_J2 kco_J2_length_9d52b
theorem kg_J2_414 : GoodIn qw_big (va_wsS RJ2 414 yJ0_checkIndex_df160 (Cond.code yJ0_checkIndex_df160 cJ0_checkIndex_df160 2 none :: qw_big)) := qw_gS kml_J2_414 kst_J0_checkIndex_df160 kini_J0 kco_J0_checkIndex_df160
theorem kg_J2_71 : GoodIn qw_big (va_wsS RJ2 71 yJ2_getChar_3b067 (Cond.code yJ2_getChar_3b067 cJ2_getChar_3b067 2 (some .char) :: qw_big)) := qw_gS kml_J2_71 kst_J2_getChar_3b067 kini_J2 kco_J2_getChar_3b067
theorem kg_J0_335 : GoodIn qw_big (wsV RJ0 335 RJ0 yJ0_coder_7d493 (Cond.code yJ0_coder_7d493 cJ0_coder_7d493 1 (some .byte) :: qw_big)) := qw_gV kml_J0_335 kin_J0_coder_7d493 kse_J0_coder_7d493 kini_J0 kco_J0_coder_7d493
theorem kg_L_53 : GoodIn qw_big (wsV RL 53 RX7 yX7_accountOf (Cond.code yX7_accountOf cX7_accountOf 3 (some .int) :: qw_big)) := qw_gV kml_L_53 kin_X7_accountOf kse_X7_accountOf kini_X7 kco_X7_accountOf
theorem kg_X7_213 : GoodIn qw_big (wsV RX7 213 RX7 yX7_isShop (Cond.code yX7_isShop cX7_isShop 2 (some .boolean) :: qw_big)) := qw_gV kml_X7_213 kin_X7_isShop kse_X7_isShop kini_X7 kco_X7_isShop
theorem kg_X7_115 : GoodIn qw_big (wsV RX7 115 RX7 yX7_isGroup (Cond.code yX7_isGroup cX7_isGroup 2 (some .boolean) :: qw_big)) := qw_gV kml_X7_115 kin_X7_isGroup kse_X7_isGroup kini_X7 kco_X7_isGroup
theorem kg_X7_119 : GoodIn qw_big (va_wsS RX7 119 yX7_need (Cond.code yX7_need cX7_need 1 none :: qw_big)) := qw_gS kml_X7_119 kst_X7_need kini_X7 kco_X7_need
theorem kg_X7_225 : GoodIn qw_big (va_wsS RX7 225 yX5_entry (Cond.code yX5_entry cX5_entry 2 (some .int) :: qw_big)) := qw_gS kml_X7_225 kst_X5_entry kini_X5 kco_X5_entry
theorem kg_L_112 : GoodIn qw_big (wsV RL 112 RX7 yX7_basketCost (Cond.code yX7_basketCost cX7_basketCost 6 (some .int) :: qw_big)) := qw_gV kml_L_112 kin_X7_basketCost kse_X7_basketCost kini_X7 kco_X7_basketCost
theorem kg_X7_150 : GoodIn qw_big (wsV RX7 150 RX7 yX7_isHouse (Cond.code yX7_isHouse cX7_isHouse 2 (some .boolean) :: qw_big)) := qw_gV kml_X7_150 kin_X7_isHouse kse_X7_isHouse kini_X7 kco_X7_isHouse
theorem kg_X7_271 : GoodIn qw_big (wsV RX7 271 RX7 yX7_fillBasket (Cond.code yX7_fillBasket cX7_fillBasket 4 (some .int) :: qw_big)) := qw_gV kml_X7_271 kin_X7_fillBasket kse_X7_fillBasket kini_X7 kco_X7_fillBasket
theorem kg_X7_231 : GoodIn qw_big (wsV RX7 231 RX7 yX7_isClosed (Cond.code yX7_isClosed cX7_isClosed 2 (some .boolean) :: qw_big)) := qw_gV kml_X7_231 kin_X7_isClosed kse_X7_isClosed kini_X7 kco_X7_isClosed
theorem kg_X7_162 : GoodIn qw_big (wsV RX7 162 RX7 yX7_holding (Cond.code yX7_holding cX7_holding 3 (some .int) :: qw_big)) := qw_gV kml_X7_162 kin_X7_holding kse_X7_holding kini_X7 kco_X7_holding
theorem kg_X7_169 : GoodIn qw_big (va_wsS RX7 169 yX5_purse (Cond.code yX5_purse cX5_purse 2 (some .int) :: qw_big)) := qw_gS kml_X7_169 kst_X5_purse kini_X5 kco_X5_purse
theorem kg_X7_179 : GoodIn qw_big (va_wsS RX7 179 yX4_total (Cond.code yX4_total cX4_total 4 (some .int) :: qw_big)) := qw_gS kml_X7_179 kst_X4_total kini_X4 kco_X4_total
theorem kg_X7_279 : GoodIn qw_big (wsV RX7 279 RX0 yX0_choose (Cond.code yX0_choose cX0_choose 7 none :: qw_big)) := qw_gV kml_X7_279 kin_X0_choose kse_X0_choose kini_X0 kco_X0_choose
theorem kg_X0_32 : GoodIn qw_big (va_wsS RX0 32 yJ7_fill_53178 (Cond.code yJ7_fill_53178 cJ7_fill_53178 4 none :: qw_big)) := qw_gS kml_X0_32 kst_J7_fill_53178 kini_J7 kco_J7_fill_53178
theorem kg_X0_46 : GoodIn qw_big (va_wsS RX0 46 yX5_purse (Cond.code yX5_purse cX5_purse 2 (some .int) :: qw_big)) := qw_gS kml_X0_46 kst_X5_purse kini_X5 kco_X5_purse
theorem kg_X0_50 : GoodIn qw_big (va_wsS RX0 50 yX4_total (Cond.code yX4_total cX4_total 4 (some .int) :: qw_big)) := qw_gS kml_X0_50 kst_X4_total kini_X4 kco_X4_total
theorem kg_X0_61 : GoodIn qw_big (wsV RX0 61 RX0 yX0_weigh (Cond.code yX0_weigh cX0_weigh 8 none :: qw_big)) := qw_gV kml_X0_61 kin_X0_weigh kse_X0_weigh kini_X0 kco_X0_weigh
theorem kg_X0_84 : GoodIn qw_big (va_wsS RX0 84 yX5_shelf (Cond.code yX5_shelf cX5_shelf 2 (some .int) :: qw_big)) := qw_gS kml_X0_84 kst_X5_shelf kini_X5 kco_X5_shelf
theorem kg_X0_95 : GoodIn qw_big (wsV RX0 95 RX0 yX0_addUnits (Cond.code yX0_addUnits cX0_addUnits 9 none :: qw_big)) := qw_gV kml_X0_95 kin_X0_addUnits kse_X0_addUnits kini_X0 kco_X0_addUnits
theorem kg_X0_99 : GoodIn qw_big (va_wsS RX0 99 yX0_addLot (Cond.code yX0_addLot cX0_addLot 5 none :: qw_big)) := qw_gS kml_X0_99 kst_X0_addLot kini_X0 kco_X0_addLot
theorem kg_X0_65 : GoodIn qw_big (wsV RX0 65 RX0 yX0_cheapest (Cond.code yX0_cheapest cX0_cheapest 3 (some .int) :: qw_big)) := qw_gV kml_X0_65 kin_X0_cheapest kse_X0_cheapest kini_X0 kco_X0_cheapest
theorem kg_X0_69 : GoodIn qw_big (wsV RX0 69 RX0 yX0_fill (Cond.code yX0_fill cX0_fill 8 none :: qw_big)) := qw_gV kml_X0_69 kin_X0_fill kse_X0_fill kini_X0 kco_X0_fill
theorem kg_X0_106 : GoodIn qw_big (wsV RX0 106 RX0 yX0_mostWithoutLoss (Cond.code yX0_mostWithoutLoss cX0_mostWithoutLoss 7 (some .int) :: qw_big)) := qw_gV kml_X0_106 kin_X0_mostWithoutLoss kse_X0_mostWithoutLoss kini_X0 kco_X0_mostWithoutLoss
theorem kg_L_115 : GoodIn qw_big (wsV RL 115 RX7 yX7_basketLeft (Cond.code yX7_basketLeft cX7_basketLeft 5 (some .int) :: qw_big)) := qw_gV kml_L_115 kin_X7_basketLeft kse_X7_basketLeft kini_X7 kco_X7_basketLeft
theorem kg_L_100 : GoodIn qw_big (wsV RL 100 RX7 yX7_basketUnits (Cond.code yX7_basketUnits cX7_basketUnits 5 (some .int) :: qw_big)) := qw_gV kml_L_100 kin_X7_basketUnits kse_X7_basketUnits kini_X7 kco_X7_basketUnits
theorem kg_X7_138 : GoodIn qw_big (wsV RX7 138 RX7 yX7_isGood (Cond.code yX7_isGood cX7_isGood 2 (some .boolean) :: qw_big)) := qw_gV kml_X7_138 kin_X7_isGood kse_X7_isGood kini_X7 kco_X7_isGood
theorem kg_L_97 : GoodIn qw_big (wsV RL 97 RX7 yX7_basketValue (Cond.code yX7_basketValue cX7_basketValue 4 (some .int) :: qw_big)) := qw_gV kml_L_97 kin_X7_basketValue kse_X7_basketValue kini_X7 kco_X7_basketValue
theorem kg_L_109 : GoodIn qw_big (wsV RL 109 RX7 yX7_bestHouse (Cond.code yX7_bestHouse cX7_bestHouse 7 (some .int) :: qw_big)) := qw_gV kml_L_109 kin_X7_bestHouse kse_X7_bestHouse kini_X7 kco_X7_bestHouse
theorem kg_X7_262 : GoodIn qw_big (wsV RX7 262 RX7 yX7_mostToBuy (Cond.code yX7_mostToBuy cX7_mostToBuy 8 (some .int) :: qw_big)) := qw_gV kml_X7_262 kin_X7_mostToBuy kse_X7_mostToBuy kini_X7 kco_X7_mostToBuy
theorem kg_X7_265 : GoodIn qw_big (va_wsS RX7 265 yX7_quotient (Cond.code yX7_quotient cX7_quotient 2 (some .int) :: qw_big)) := qw_gS kml_X7_265 kst_X7_quotient kini_X7 kco_X7_quotient
theorem kg_X7_219 : GoodIn qw_big (va_wsS RX7 219 yX5_shelf (Cond.code yX5_shelf cX5_shelf 2 (some .int) :: qw_big)) := qw_gS kml_X7_219 kst_X5_shelf kini_X5 kco_X5_shelf
theorem kg_L_106 : GoodIn qw_big (wsV RL 106 RX7 yX7_bestShop (Cond.code yX7_bestShop cX7_bestShop 6 (some .int) :: qw_big)) := qw_gV kml_L_106 kin_X7_bestShop kse_X7_bestShop kini_X7 kco_X7_bestShop
theorem kg_L_22 : GoodIn qw_big (wsV RL 22 RX7 yX7_coupons (Cond.code yX7_coupons cX7_coupons 3 (some .int) :: qw_big)) := qw_gV kml_L_22 kin_X7_coupons kse_X7_coupons kini_X7 kco_X7_coupons
theorem kg_L_32 : GoodIn qw_big (wsV RL 32 RX7 yX7_couponsAfter (Cond.code yX7_couponsAfter cX7_couponsAfter 5 (some .int) :: qw_big)) := qw_gV kml_L_32 kin_X7_couponsAfter kse_X7_couponsAfter kini_X7 kco_X7_couponsAfter
theorem kg_X7_172 : GoodIn qw_big (wsV RX7 172 RX7 yX7_startAhead (Cond.code yX7_startAhead cX7_startAhead 3 none :: qw_big)) := qw_gV kml_X7_172 kin_X7_startAhead kse_X7_startAhead kini_X7 kco_X7_startAhead
theorem kg_X7_176 : GoodIn qw_big (wsV RX7 176 RX7 yX7_stepAhead (Cond.code yX7_stepAhead cX7_stepAhead 4 (some .int) :: qw_big)) := qw_gV kml_X7_176 kin_X7_stepAhead kse_X7_stepAhead kini_X7 kco_X7_stepAhead
theorem kg_X7_326 : GoodIn qw_big (va_wsS RX7 326 yX4_growOlder (Cond.code yX4_growOlder cX4_growOlder 6 (some .int) :: qw_big)) := qw_gS kml_X7_326 kst_X4_growOlder kini_X4 kco_X4_growOlder
theorem kg_X7_329 : GoodIn qw_big (wsV RX7 329 RX7 yX7_shareOf (Cond.code yX7_shareOf cX7_shareOf 3 (some .int) :: qw_big)) := qw_gV kml_X7_329 kin_X7_shareOf kse_X7_shareOf kini_X7 kco_X7_shareOf
theorem kg_L_25 : GoodIn qw_big (wsV RL 25 RX7 yX7_couponsWith (Cond.code yX7_couponsWith cX7_couponsWith 4 (some .int) :: qw_big)) := qw_gV kml_L_25 kin_X7_couponsWith kse_X7_couponsWith kini_X7 kco_X7_couponsWith
theorem kg_L_66 : GoodIn qw_big (wsV RL 66 RX7 yX7_deliveredTo (Cond.code yX7_deliveredTo cX7_deliveredTo 3 (some .int) :: qw_big)) := qw_gV kml_L_66 kin_X7_deliveredTo kse_X7_deliveredTo kini_X7 kco_X7_deliveredTo
theorem kg_L_38 : GoodIn qw_big (wsV RL 38 RX7 yX7_givenBy (Cond.code yX7_givenBy cX7_givenBy 2 (some .int) :: qw_big)) := qw_gV kml_L_38 kin_X7_givenBy kse_X7_givenBy kini_X7 kco_X7_givenBy
theorem kg_L_15 : GoodIn qw_big (wsV RL 15 RX7 yX7_goodProperty (Cond.code yX7_goodProperty cX7_goodProperty 3 (some .int) :: qw_big)) := qw_gV kml_L_15 kin_X7_goodProperty kse_X7_goodProperty kini_X7 kco_X7_goodProperty
theorem kg_L_7 : GoodIn qw_big (wsV RL 7 RX7 yX7_groupProperty (Cond.code yX7_groupProperty cX7_groupProperty 3 (some .int) :: qw_big)) := qw_gV kml_L_7 kin_X7_groupProperty kse_X7_groupProperty kini_X7 kco_X7_groupProperty
theorem kg_L_81 : GoodIn qw_big (wsV RL 81 RX7 yX7_held (Cond.code yX7_held cX7_held 2 (some .int) :: qw_big)) := qw_gV kml_L_81 kin_X7_held kse_X7_held kini_X7 kco_X7_held
theorem kg_X7_249 : GoodIn qw_big (wsV RX7 249 RX7 yX7_heldByAll (Cond.code yX7_heldByAll cX7_heldByAll 4 (some .int) :: qw_big)) := qw_gV kml_X7_249 kin_X7_heldByAll kse_X7_heldByAll kini_X7 kco_X7_heldByAll
theorem kg_L_47 : GoodIn qw_big (wsV RL 47 RX7 yX7_helpers (Cond.code yX7_helpers cX7_helpers 5 (some .int) :: qw_big)) := qw_gV kml_L_47 kin_X7_helpers kse_X7_helpers kini_X7 kco_X7_helpers
theorem kg_X7_197 : GoodIn qw_big (wsV RX7 197 RX7 yX7_takeRoom (Cond.code yX7_takeRoom cX7_takeRoom 2 (some .int) :: qw_big)) := qw_gV kml_X7_197 kin_X7_takeRoom kse_X7_takeRoom kini_X7 kco_X7_takeRoom
theorem kg_X7_206 : GoodIn qw_big (wsV RX7 206 RX7 yX7_fewestGivers (Cond.code yX7_fewestGivers cX7_fewestGivers 8 (some .int) :: qw_big)) := qw_gV kml_X7_206 kin_X7_fewestGivers kse_X7_fewestGivers kini_X7 kco_X7_fewestGivers
theorem kg_X7_210 : GoodIn qw_big (wsV RX7 210 RX7 yX7_bestGiver (Cond.code yX7_bestGiver cX7_bestGiver 6 (some .int) :: qw_big)) := qw_gV kml_X7_210 kin_X7_bestGiver kse_X7_bestGiver kini_X7 kco_X7_bestGiver
theorem kg_X7_194 : GoodIn qw_big (wsV RX7 194 RX7 yX7_mostToGive (Cond.code yX7_mostToGive cX7_mostToGive 3 (some .int) :: qw_big)) := qw_gV kml_X7_194 kin_X7_mostToGive kse_X7_mostToGive kini_X7 kco_X7_mostToGive
theorem kg_X7_307 : GoodIn qw_big (wsV RX7 307 RX7 yX7_giveRoom (Cond.code yX7_giveRoom cX7_giveRoom 2 (some .int) :: qw_big)) := qw_gV kml_X7_307 kin_X7_giveRoom kse_X7_giveRoom kini_X7 kco_X7_giveRoom
theorem kg_L_59 : GoodIn qw_big (wsV RL 59 RX7 yX7_isSuspended (Cond.code yX7_isSuspended cX7_isSuspended 2 (some .boolean) :: qw_big)) := qw_gV kml_L_59 kin_X7_isSuspended kse_X7_isSuspended kini_X7 kco_X7_isSuspended
theorem kg_L_72 : GoodIn qw_big (wsV RL 72 RX7 yX7_issued (Cond.code yX7_issued cX7_issued 2 (some .int) :: qw_big)) := qw_gV kml_L_72 kin_X7_issued kse_X7_issued kini_X7 kco_X7_issued
theorem kg_L_130 : GoodIn qw_big (wsV RL 130 RX7 yX7_lapseAfter (Cond.code yX7_lapseAfter cX7_lapseAfter 6 (some .int) :: qw_big)) := qw_gV kml_L_130 kin_X7_lapseAfter kse_X7_lapseAfter kini_X7 kco_X7_lapseAfter
theorem kg_L_78 : GoodIn qw_big (wsV RL 78 RX7 yX7_lapsed (Cond.code yX7_lapsed cX7_lapsed 2 (some .int) :: qw_big)) := qw_gV kml_L_78 kin_X7_lapsed kse_X7_lapsed kini_X7 kco_X7_lapsed
theorem kg_L_29 : GoodIn qw_big (wsV RL 29 RX7 yX7_lapsing (Cond.code yX7_lapsing cX7_lapsing 3 (some .int) :: qw_big)) := qw_gV kml_L_29 kin_X7_lapsing kse_X7_lapsing kini_X7 kco_X7_lapsing
theorem kg_L_127 : GoodIn qw_big (wsV RL 127 RX7 yX7_levelMoves (Cond.code yX7_levelMoves cX7_levelMoves 7 (some .int) :: qw_big)) := qw_gV kml_L_127 kin_X7_levelMoves kse_X7_levelMoves kini_X7 kco_X7_levelMoves
theorem kg_L_121 : GoodIn qw_big (wsV RL 121 RX7 yX7_mostDeliverable (Cond.code yX7_mostDeliverable cX7_mostDeliverable 5 (some .int) :: qw_big)) := qw_gV kml_L_121 kin_X7_mostDeliverable kse_X7_mostDeliverable kini_X7 kco_X7_mostDeliverable
theorem kg_L_88 : GoodIn qw_big (wsV RL 88 RX7 yX7_mostUnits (Cond.code yX7_mostUnits cX7_mostUnits 4 (some .int) :: qw_big)) := qw_gV kml_L_88 kin_X7_mostUnits kse_X7_mostUnits kini_X7 kco_X7_mostUnits
theorem kg_L_35 : GoodIn qw_big (wsV RL 35 RX7 yX7_neediest (Cond.code yX7_neediest cX7_neediest 4 (some .int) :: qw_big)) := qw_gV kml_L_35 kin_X7_neediest kse_X7_neediest kini_X7 kco_X7_neediest
theorem kg_X7_184 : GoodIn qw_big (wsV RX7 184 RX7 yX7_isNeedier (Cond.code yX7_isNeedier cX7_isNeedier 4 (some .boolean) :: qw_big)) := qw_gV kml_X7_184 kin_X7_isNeedier kse_X7_isNeedier kini_X7 kco_X7_isNeedier
theorem kg_L_56 : GoodIn qw_big (wsV RL 56 RX7 yX7_penaltyOf (Cond.code yX7_penaltyOf cX7_penaltyOf 2 (some .int) :: qw_big)) := qw_gV kml_L_56 kin_X7_penaltyOf kse_X7_penaltyOf kini_X7 kco_X7_penaltyOf
theorem kg_L_84 : GoodIn qw_big (wsV RL 84 RX7 yX7_reasonFor (Cond.code yX7_reasonFor cX7_reasonFor 5 (some .int) :: qw_big)) := qw_gV kml_L_84 kin_X7_reasonFor kse_X7_reasonFor kini_X7 kco_X7_reasonFor
theorem kg_X7_252 : GoodIn qw_big (va_wsS RX7 252 yX7_areUnits (Cond.code yX7_areUnits cX7_areUnits 1 (some .boolean) :: qw_big)) := qw_gS kml_X7_252 kst_X7_areUnits kini_X7 kco_X7_areUnits
theorem kg_X7_255 : GoodIn qw_big (wsV RX7 255 RX7 yX7_reasonAgainst (Cond.code yX7_reasonAgainst cX7_reasonAgainst 5 (some .int) :: qw_big)) := qw_gV kml_X7_255 kin_X7_reasonAgainst kse_X7_reasonAgainst kini_X7 kco_X7_reasonAgainst
theorem kg_X7_259 : GoodIn qw_big (wsV RX7 259 RX7 yX7_canPay (Cond.code yX7_canPay cX7_canPay 6 (some .boolean) :: qw_big)) := qw_gV kml_X7_259 kin_X7_canPay kse_X7_canPay kini_X7 kco_X7_canPay
theorem kg_X7_268 : GoodIn qw_big (wsV RX7 268 RX7 yX7_fromSubstitute (Cond.code yX7_fromSubstitute cX7_fromSubstitute 6 (some .int) :: qw_big)) := qw_gV kml_X7_268 kin_X7_fromSubstitute kse_X7_fromSubstitute kini_X7 kco_X7_fromSubstitute
theorem kg_L_94 : GoodIn qw_big (wsV RL 94 RX7 yX7_served (Cond.code yX7_served cX7_served 6 (some .int) :: qw_big)) := qw_gV kml_L_94 kin_X7_served kse_X7_served kini_X7 kco_X7_served
theorem kg_L_18 : GoodIn qw_big (wsV RL 18 RX7 yX7_sizeOf (Cond.code yX7_sizeOf cX7_sizeOf 2 (some .int) :: qw_big)) := qw_gV kml_L_18 kin_X7_sizeOf kse_X7_sizeOf kini_X7 kco_X7_sizeOf
theorem kg_L_63 : GoodIn qw_big (wsV RL 63 RX7 yX7_soldBy (Cond.code yX7_soldBy cX7_soldBy 3 (some .int) :: qw_big)) := qw_gV kml_L_63 kin_X7_soldBy kse_X7_soldBy kini_X7 kco_X7_soldBy
theorem kg_L_75 : GoodIn qw_big (wsV RL 75 RX7 yX7_spent (Cond.code yX7_spent cX7_spent 2 (some .int) :: qw_big)) := qw_gV kml_L_75 kin_X7_spent kse_X7_spent kini_X7 kco_X7_spent
theorem kg_L_124 : GoodIn qw_big (wsV RL 124 RX7 yX7_spreadOf (Cond.code yX7_spreadOf cX7_spreadOf 6 (some .int) :: qw_big)) := qw_gV kml_L_124 kin_X7_spreadOf kse_X7_spreadOf kini_X7 kco_X7_spreadOf
theorem kg_X7_287 : GoodIn qw_big (wsV RX7 287 RX7 yX7_percentEach (Cond.code yX7_percentEach cX7_percentEach 3 (some .int) :: qw_big)) := qw_gV kml_X7_287 kin_X7_percentEach kse_X7_percentEach kini_X7 kco_X7_percentEach
theorem kg_L_50 : GoodIn qw_big (wsV RL 50 RX7 yX7_stockOf (Cond.code yX7_stockOf cX7_stockOf 3 (some .int) :: qw_big)) := qw_gV kml_L_50 kin_X7_stockOf kse_X7_stockOf kini_X7 kco_X7_stockOf
theorem kg_L_91 : GoodIn qw_big (wsV RL 91 RX7 yX7_substituted (Cond.code yX7_substituted cX7_substituted 4 (some .int) :: qw_big)) := qw_gV kml_L_91 kin_X7_substituted kse_X7_substituted kini_X7 kco_X7_substituted
theorem kg_L_133 : GoodIn qw_big (wsV RL 133 RX7 yX7_supplyPeriods (Cond.code yX7_supplyPeriods cX7_supplyPeriods 7 (some .int) :: qw_big)) := qw_gV kml_L_133 kin_X7_supplyPeriods kse_X7_supplyPeriods kini_X7 kco_X7_supplyPeriods
theorem kg_X7_293 : GoodIn qw_big (va_wsS RX7 293 yX4_spend (Cond.code yX4_spend cX4_spend 6 none :: qw_big)) := qw_gS kml_X7_293 kst_X4_spend kini_X4 kco_X4_spend
theorem kg_L_118 : GoodIn qw_big (wsV RL 118 RX7 yX7_swapChain (Cond.code yX7_swapChain cX7_swapChain 5 (some .int) :: qw_big)) := qw_gV kml_L_118 kin_X7_swapChain kse_X7_swapChain kini_X7 kco_X7_swapChain
theorem kg_L_41 : GoodIn qw_big (wsV RL 41 RX7 yX7_takenBy (Cond.code yX7_takenBy cX7_takenBy 2 (some .int) :: qw_big)) := qw_gV kml_L_41 kin_X7_takenBy kse_X7_takenBy kini_X7 kco_X7_takenBy
theorem kg_L_44 : GoodIn qw_big (wsV RL 44 RX7 yX7_tradeRoom (Cond.code yX7_tradeRoom cX7_tradeRoom 4 (some .int) :: qw_big)) := qw_gV kml_L_44 kin_X7_tradeRoom kse_X7_tradeRoom kini_X7 kco_X7_tradeRoom
theorem kg_L_69 : GoodIn qw_big (wsV RL 69 RX7 yX7_turnover (Cond.code yX7_turnover cX7_turnover 4 (some .int) :: qw_big)) := qw_gV kml_L_69 kin_X7_turnover kse_X7_turnover kini_X7 kco_X7_turnover
theorem kg_L_103 : GoodIn qw_big (wsV RL 103 RX7 yX7_waitFor (Cond.code yX7_waitFor cX7_waitFor 7 (some .int) :: qw_big)) := qw_gV kml_L_103 kin_X7_waitFor kse_X7_waitFor kini_X7 kco_X7_waitFor
theorem kg_X1_25 : GoodIn qw_big (wsV RX1 25 RX5 yX5_become (Cond.code yX5_become cX5_become 2 none :: qw_big)) := qw_gV kml_X1_25 kin_X5_become kse_X5_become kini_X5 kco_X5_become
theorem kg_X5_61 : GoodIn qw_big (va_wsS RX5 61 yX5_copy (Cond.code yX5_copy cX5_copy 2 none :: qw_big)) := qw_gS kml_X5_61 kst_X5_copy kini_X5 kco_X5_copy
theorem kg_X2_96 : GoodIn qw_big (wsV RX2 96 RX2 yX2_fail (Cond.code yX2_fail cX2_fail 2 none :: qw_big)) := qw_gV kml_X2_96 kin_X2_fail kse_X2_fail kini_X2 kco_X2_fail
theorem kg_X2_100 : GoodIn qw_big (wsV RX2 100 RX6 yX6_advance (Cond.code yX6_advance cX6_advance 3 none :: qw_big)) := qw_gV kml_X2_100 kin_X6_advance kse_X6_advance kini_X6 kco_X6_advance
theorem kg_X6_37 : GoodIn qw_big (wsV RX6 37 RX6 yX6_kindAt (Cond.code yX6_kindAt cX6_kindAt 3 (some .int) :: qw_big)) := qw_gV kml_X6_37 kin_X6_kindAt kse_X6_kindAt kini_X6 kco_X6_kindAt
theorem kg_X2_42 : GoodIn qw_big (wsV RX2 42 RX3 yX3_clear (Cond.code yX3_clear cX3_clear 1 none :: qw_big)) := qw_gV kml_X2_42 kin_X3_clear kse_X3_clear kini_X3 kco_X3_clear
theorem kg_X2_45 : GoodIn qw_big (wsV RX2 45 RX5 yX5_clear (Cond.code yX5_clear cX5_clear 1 none :: qw_big)) := qw_gV kml_X2_45 kin_X5_clear kse_X5_clear kini_X5 kco_X5_clear
theorem kg_X5_77 : GoodIn qw_big (va_wsS RX5 77 yJ7_fill_53178 (Cond.code yJ7_fill_53178 cJ7_fill_53178 4 none :: qw_big)) := qw_gS kml_X5_77 kst_J7_fill_53178 kini_J7 kco_J7_fill_53178
theorem kg_X2_46 : GoodIn qw_big (wsV RX2 46 RX6 yX6_open (Cond.code yX6_open cX6_open 3 none :: qw_big)) := qw_gV kml_X2_46 kin_X6_open kse_X6_open kini_X6 kco_X6_open
theorem kg_X6_34 : GoodIn qw_big (wsV RX6 34 RX6 yX6_advance (Cond.code yX6_advance cX6_advance 3 none :: qw_big)) := qw_gV kml_X6_34 kin_X6_advance kse_X6_advance kini_X6 kco_X6_advance
theorem kg_X2_53 : GoodIn qw_big (wsV RX2 53 RX2 yX2_readStatement (Cond.code yX2_readStatement cX2_readStatement 1 none :: qw_big)) := qw_gV kml_X2_53 kin_X2_readStatement kse_X2_readStatement kini_X2 kco_X2_readStatement
theorem kg_X2_64 : GoodIn qw_big (wsV RX2 64 RX6 yX6_isWord (Cond.code yX6_isWord cX6_isWord 3 (some .boolean) :: qw_big)) := qw_gV kml_X2_64 kin_X6_isWord kse_X6_isWord kini_X6 kco_X6_isWord
theorem kg_X6_41 : GoodIn qw_big (wsV RX6 41 RJ0 yJ0_length_8abf5 (Cond.code yJ0_length_8abf5 cJ0_length_8abf5 1 (some .int) :: qw_big)) := qw_gV kml_X6_41 kin_J0_length_8abf5 kse_J0_length_8abf5 kini_J0 kco_J0_length_8abf5
theorem kg_X6_46 : GoodIn qw_big (wsV RX6 46 RJ0 yJ0_charAt_5068e (Cond.code yJ0_charAt_5068e cJ0_charAt_5068e 2 (some .char) :: qw_big)) := qw_gV kml_X6_46 kin_J0_charAt_5068e kse_J0_charAt_5068e kini_J0 kco_J0_charAt_5068e
theorem kg_X2_68 : GoodIn qw_big (wsV RX2 68 RX2 yX2_readGroup (Cond.code yX2_readGroup cX2_readGroup 2 none :: qw_big)) := qw_gV kml_X2_68 kin_X2_readGroup kse_X2_readGroup kini_X2 kco_X2_readGroup
theorem kg_X2_129 : GoodIn qw_big (wsV RX2 129 RX2 yX2_readNewName (Cond.code yX2_readNewName cX2_readNewName 2 (some .int) :: qw_big)) := qw_gV kml_X2_129 kin_X2_readNewName kse_X2_readNewName kini_X2 kco_X2_readNewName
theorem kg_X2_107 : GoodIn qw_big (wsV RX2 107 RX6 yX6_isName (Cond.code yX6_isName cX6_isName 1 (some .boolean) :: qw_big)) := qw_gV kml_X2_107 kin_X6_isName kse_X6_isName kini_X6 kco_X6_isName
theorem kg_X6_52 : GoodIn qw_big (wsV RX6 52 RX6 yX6_isWord (Cond.code yX6_isWord cX6_isWord 3 (some .boolean) :: qw_big)) := qw_gV kml_X6_52 kin_X6_isWord kse_X6_isWord kini_X6 kco_X6_isWord
theorem kg_X2_111 : GoodIn qw_big (wsV RX2 111 RX6 yX6_letters (Cond.code yX6_letters cX6_letters 3 (some .int) :: qw_big)) := qw_gV kml_X2_111 kin_X6_letters kse_X6_letters kini_X6 kco_X6_letters
theorem kg_X2_114 : GoodIn qw_big (wsV RX2 114 RX3 yX3_isDeclared (Cond.code yX3_isDeclared cX3_isDeclared 2 (some .boolean) :: qw_big)) := qw_gV kml_X2_114 kin_X3_isDeclared kse_X3_isDeclared kini_X3 kco_X3_isDeclared
theorem kg_X3_58 : GoodIn qw_big (va_wsS RX3 58 yX3_find (Cond.code yX3_find cX3_find 4 (some .int) :: qw_big)) := qw_gS kml_X3_58 kst_X3_find kini_X3 kco_X3_find
theorem kg_X2_135 : GoodIn qw_big (wsV RX2 135 RX2 yX2_readInteger (Cond.code yX2_readInteger cX2_readInteger 4 (some .int) :: qw_big)) := qw_gV kml_X2_135 kin_X2_readInteger kse_X2_readInteger kini_X2 kco_X2_readInteger
theorem kg_X2_103 : GoodIn qw_big (wsV RX2 103 RX6 yX6_integer (Cond.code yX6_integer cX6_integer 3 (some .int) :: qw_big)) := qw_gV kml_X2_103 kin_X6_integer kse_X6_integer kini_X6 kco_X6_integer
theorem kg_X2_73 : GoodIn qw_big (wsV RX2 73 RX2 yX2_readSwap (Cond.code yX2_readSwap cX2_readSwap 3 none :: qw_big)) := qw_gV kml_X2_73 kin_X2_readSwap kse_X2_readSwap kini_X2 kco_X2_readSwap
theorem kg_X2_151 : GoodIn qw_big (wsV RX2 151 RX2 yX2_seeName (Cond.code yX2_seeName cX2_seeName 4 (some .int) :: qw_big)) := qw_gV kml_X2_151 kin_X2_seeName kse_X2_seeName kini_X2 kco_X2_seeName
theorem kg_X2_118 : GoodIn qw_big (va_wsS RX2 118 yX3_find (Cond.code yX3_find cX3_find 4 (some .int) :: qw_big)) := qw_gS kml_X2_118 kst_X3_find kini_X3 kco_X3_find
theorem kg_X2_155 : GoodIn qw_big (wsV RX2 155 RX2 yX2_passUnless (Cond.code yX2_passUnless cX2_passUnless 2 none :: qw_big)) := qw_gV kml_X2_155 kin_X2_passUnless kse_X2_passUnless kini_X2 kco_X2_passUnless
theorem kg_X2_78 : GoodIn qw_big (wsV RX2 78 RX2 yX2_readGood (Cond.code yX2_readGood cX2_readGood 2 none :: qw_big)) := qw_gV kml_X2_78 kin_X2_readGood kse_X2_readGood kini_X2 kco_X2_readGood
theorem kg_X2_83 : GoodIn qw_big (wsV RX2 83 RX2 yX2_readHouse (Cond.code yX2_readHouse cX2_readHouse 2 none :: qw_big)) := qw_gV kml_X2_83 kin_X2_readHouse kse_X2_readHouse kini_X2 kco_X2_readHouse
theorem kg_X2_88 : GoodIn qw_big (wsV RX2 88 RX2 yX2_readShop (Cond.code yX2_readShop cX2_readShop 5 none :: qw_big)) := qw_gV kml_X2_88 kin_X2_readShop kse_X2_readShop kini_X2 kco_X2_readShop
theorem kg_X2_192 : GoodIn qw_big (va_wsS RX2 192 yX5_shelf (Cond.code yX5_shelf cX5_shelf 2 (some .int) :: qw_big)) := qw_gS kml_X2_192 kst_X5_shelf kini_X5 kco_X5_shelf
theorem kg_X2_93 : GoodIn qw_big (wsV RX2 93 RX2 yX2_readSetting (Cond.code yX2_readSetting cX2_readSetting 2 none :: qw_big)) := qw_gV kml_X2_93 kin_X2_readSetting kse_X2_readSetting kini_X2 kco_X2_readSetting
theorem kg_X2_195 : GoodIn qw_big (wsV RX2 195 RX6 yX6_settingWord (Cond.code yX6_settingWord cX6_settingWord 1 (some .int) :: qw_big)) := qw_gV kml_X2_195 kin_X6_settingWord kse_X6_settingWord kini_X6 kco_X6_settingWord
theorem kg_X2_56 : GoodIn qw_big (wsV RX2 56 RX2 yX2_readSemicolon (Cond.code yX2_readSemicolon cX2_readSemicolon 1 none :: qw_big)) := qw_gV kml_X2_56 kin_X2_readSemicolon kse_X2_readSemicolon kini_X2 kco_X2_readSemicolon
theorem kg_X7_297 : GoodIn qw_big (wsV RX7 297 RX1 yX1_keep (Cond.code yX1_keep cX1_keep 2 none :: qw_big)) := qw_gV kml_X7_297 kin_X1_keep kse_X1_keep kini_X1 kco_X1_keep
theorem kg_X7_301 : GoodIn qw_big (wsV RX7 301 RX7 yX7_pay (Cond.code yX7_pay cX7_pay 7 none :: qw_big)) := qw_gV kml_X7_301 kin_X7_pay kse_X7_pay kini_X7 kco_X7_pay
theorem kg_X7_305 : GoodIn qw_big (wsV RX7 305 RX7 yX7_spend (Cond.code yX7_spend cX7_spend 4 none :: qw_big)) := qw_gV kml_X7_305 kin_X7_spend kse_X7_spend kini_X7 kco_X7_spend
theorem kg_X7_58 : GoodIn qw_big (wsV RX7 58 RX7 yX7_append (Cond.code yX7_append cX7_append 3 none :: qw_big)) := qw_gV kml_X7_58 kin_X7_append kse_X7_append kini_X7 kco_X7_append
theorem kg_X7_156 : GoodIn qw_big (va_wsS RX7 156 yX7_isSetting (Cond.code yX7_isSetting cX7_isSetting 1 (some .boolean) :: qw_big)) := qw_gS kml_X7_156 kst_X7_isSetting kini_X7 kco_X7_isSetting
theorem kg_X7_102 : GoodIn qw_big (va_wsS RX7 102 yX3_find (Cond.code yX3_find cX3_find 4 (some .int) :: qw_big)) := qw_gS kml_X7_102 kst_X3_find kini_X3 kco_X3_find
theorem kg_X7_62 : GoodIn qw_big (wsV RX7 62 RX2 yX2_read (Cond.code yX2_read cX2_read 4 (some .int) :: qw_big)) := qw_gV kml_X7_62 kin_X2_read kse_X2_read kini_X2 kco_X2_read
theorem kg_X7_70 : GoodIn qw_big (wsV RX7 70 RX7 yX7_exchangeWithLoader (Cond.code yX7_exchangeWithLoader cX7_exchangeWithLoader 3 none :: qw_big)) := qw_gV kml_X7_70 kin_X7_exchangeWithLoader kse_X7_exchangeWithLoader kini_X7 kco_X7_exchangeWithLoader
theorem kg_X7_73 : GoodIn qw_big (wsV RX7 73 RX1 yX1_forget (Cond.code yX1_forget cX1_forget 1 none :: qw_big)) := qw_gV kml_X7_73 kin_X1_forget kse_X1_forget kini_X1 kco_X1_forget
theorem kg_X7_76 : GoodIn qw_big (wsV RX7 76 RX7 yX7_issueToAll (Cond.code yX7_issueToAll cX7_issueToAll 4 none :: qw_big)) := qw_gV kml_X7_76 kin_X7_issueToAll kse_X7_issueToAll kini_X7 kco_X7_issueToAll
theorem kg_X7_317 : GoodIn qw_big (wsV RX7 317 RX7 yX7_endPeriodOf (Cond.code yX7_endPeriodOf cX7_endPeriodOf 4 (some .int) :: qw_big)) := qw_gV kml_X7_317 kin_X7_endPeriodOf kse_X7_endPeriodOf kini_X7 kco_X7_endPeriodOf
theorem kg_X7_320 : GoodIn qw_big (va_wsS RX7 320 yJ7_fill_53178 (Cond.code yJ7_fill_53178 cJ7_fill_53178 4 none :: qw_big)) := qw_gS kml_X7_320 kst_J7_fill_53178 kini_J7 kco_J7_fill_53178
theorem kg_X7_310 : GoodIn qw_big (va_wsS RX7 310 yX4_move (Cond.code yX4_move cX4_move 7 none :: qw_big)) := qw_gS kml_X7_310 kst_X4_move kini_X4 kco_X4_move
theorem kg_X7_335 : GoodIn qw_big (wsV RX7 335 RX1 yX1_bringBack (Cond.code yX1_bringBack cX1_bringBack 2 none :: qw_big)) := qw_gV kml_X7_335 kin_X1_bringBack kse_X1_bringBack kini_X1 kco_X1_bringBack
theorem kg_X8_254 : GoodIn qw_big (wsV RX8 254 RX8 yX8_isShop (Cond.code yX8_isShop cX8_isShop 2 (some .boolean) :: qw_big)) := qw_gV kml_X8_254 kin_X8_isShop kse_X8_isShop kini_X8 kco_X8_isShop
theorem kg_X8_85 : GoodIn qw_big (va_wsS RX8 85 yX8_inRange (Cond.code yX8_inRange cX8_inRange 3 (some .boolean) :: qw_big)) := qw_gS kml_X8_85 kst_X8_inRange kini_X8 kco_X8_inRange
theorem kg_X8_197 : GoodIn qw_big (wsV RX8 197 RX8 yX8_isGroup (Cond.code yX8_isGroup cX8_isGroup 2 (some .boolean) :: qw_big)) := qw_gV kml_X8_197 kin_X8_isGroup kse_X8_isGroup kini_X8 kco_X8_isGroup
theorem kg_X8_201 : GoodIn qw_big (wsV RX8 201 RX8 yX8_fails (Cond.code yX8_fails cX8_fails 2 (some .boolean) :: qw_big)) := qw_gV kml_X8_201 kin_X8_fails kse_X8_fails kini_X8 kco_X8_fails
theorem kg_X8_68 : GoodIn qw_big (wsV RX8 68 RX8 yX8_peek (Cond.code yX8_peek cX8_peek 1 (some .int) :: qw_big)) := qw_gV kml_X8_68 kin_X8_peek kse_X8_peek kini_X8 kco_X8_peek
theorem kg_X8_94 : GoodIn qw_big (wsV RX8 94 RX8 yX8_advance (Cond.code yX8_advance cX8_advance 2 none :: qw_big)) := qw_gV kml_X8_94 kin_X8_advance kse_X8_advance kini_X8 kco_X8_advance
theorem kg_X8_205 : GoodIn qw_big (wsV RX8 205 RX8 yX8_isGood (Cond.code yX8_isGood cX8_isGood 2 (some .boolean) :: qw_big)) := qw_gV kml_X8_205 kin_X8_isGood kse_X8_isGood kini_X8 kco_X8_isGood
theorem kg_X8_235 : GoodIn qw_big (wsV RX8 235 RX8 yX8_remember (Cond.code yX8_remember cX8_remember 2 none :: qw_big)) := qw_gV kml_X8_235 kin_X8_remember kse_X8_remember kini_X8 kco_X8_remember
theorem kg_X8_208 : GoodIn qw_big (wsV RX8 208 RX8 yX8_isHouse (Cond.code yX8_isHouse cX8_isHouse 2 (some .boolean) :: qw_big)) := qw_gV kml_X8_208 kin_X8_isHouse kse_X8_isHouse kini_X8 kco_X8_isHouse
theorem kg_X8_297 : GoodIn qw_big (wsV RX8 297 RX8 yX8_layBasket (Cond.code yX8_layBasket cX8_layBasket 4 (some .int) :: qw_big)) := qw_gV kml_X8_297 kin_X8_layBasket kse_X8_layBasket kini_X8 kco_X8_layBasket
theorem kg_X8_257 : GoodIn qw_big (wsV RX8 257 RX8 yX8_isSuspendedNow (Cond.code yX8_isSuspendedNow cX8_isSuspendedNow 2 (some .boolean) :: qw_big)) := qw_gV kml_X8_257 kin_X8_isSuspendedNow kse_X8_isSuspendedNow kini_X8 kco_X8_isSuspendedNow
theorem kg_X8_291 : GoodIn qw_big (wsV RX8 291 RX8 yX8_isTooLarge (Cond.code yX8_isTooLarge cX8_isTooLarge 3 (some .boolean) :: qw_big)) := qw_gV kml_X8_291 kin_X8_isTooLarge kse_X8_isTooLarge kini_X8 kco_X8_isTooLarge
theorem kg_X8_214 : GoodIn qw_big (wsV RX8 214 RX8 yX8_couponsOf (Cond.code yX8_couponsOf cX8_couponsOf 5 (some .int) :: qw_big)) := qw_gV kml_X8_214 kin_X8_couponsOf kse_X8_couponsOf kini_X8 kco_X8_couponsOf
theorem kg_X8_211 : GoodIn qw_big (va_wsS RX8 211 yX8_at (Cond.code yX8_at cX8_at 2 (some .int) :: qw_big)) := qw_gS kml_X8_211 kst_X8_at kini_X8 kco_X8_at
theorem kg_X8_294 : GoodIn qw_big (wsV RX8 294 RX8 yX8_fillBasket (Cond.code yX8_fillBasket cX8_fillBasket 7 none :: qw_big)) := qw_gV kml_X8_294 kin_X8_fillBasket kse_X8_fillBasket kini_X8 kco_X8_fillBasket
theorem kg_X8_287 : GoodIn qw_big (wsV RX8 287 RX8 yX8_layWorth (Cond.code yX8_layWorth cX8_layWorth 9 none :: qw_big)) := qw_gV kml_X8_287 kin_X8_layWorth kse_X8_layWorth kini_X8 kco_X8_layWorth
theorem kg_X8_281 : GoodIn qw_big (wsV RX8 281 RX8 yX8_mostIn (Cond.code yX8_mostIn cX8_mostIn 4 (some .int) :: qw_big)) := qw_gV kml_X8_281 kin_X8_mostIn kse_X8_mostIn kini_X8 kco_X8_mostIn
theorem kg_X8_241 : GoodIn qw_big (va_wsS RX8 241 yX8_lesser (Cond.code yX8_lesser cX8_lesser 2 (some .int) :: qw_big)) := qw_gS kml_X8_241 kst_X8_lesser kini_X8 kco_X8_lesser
theorem kg_X8_284 : GoodIn qw_big (wsV RX8 284 RX8 yX8_worthWith (Cond.code yX8_worthWith cX8_worthWith 4 (some .int) :: qw_big)) := qw_gV kml_X8_284 kin_X8_worthWith kse_X8_worthWith kini_X8 kco_X8_worthWith
theorem kg_X8_300 : GoodIn qw_big (wsV RX8 300 RX8 yX8_costOfBasket (Cond.code yX8_costOfBasket cX8_costOfBasket 4 (some .int) :: qw_big)) := qw_gV kml_X8_300 kin_X8_costOfBasket kse_X8_costOfBasket kini_X8 kco_X8_costOfBasket
theorem kg_X8_97 : GoodIn qw_big (wsV RX8 97 RX8 yX8_check (Cond.code yX8_check cX8_check 3 none :: qw_big)) := qw_gV kml_X8_97 kin_X8_check kse_X8_check kini_X8 kco_X8_check
theorem kg_X8_101 : GoodIn qw_big (wsV RX8 101 RX8 yX8_advanceIfGood (Cond.code yX8_advanceIfGood cX8_advanceIfGood 1 none :: qw_big)) := qw_gV kml_X8_101 kin_X8_advanceIfGood kse_X8_advanceIfGood kini_X8 kco_X8_advanceIfGood
theorem kg_X8_131 : GoodIn qw_big (wsV RX8 131 RX8 yX8_readNewName (Cond.code yX8_readNewName cX8_readNewName 3 (some .int) :: qw_big)) := qw_gV kml_X8_131 kin_X8_readNewName kse_X8_readNewName kini_X8 kco_X8_readNewName
theorem kg_X8_124 : GoodIn qw_big (wsV RX8 124 RX8 yX8_lettersHere (Cond.code yX8_lettersHere cX8_lettersHere 3 (some .int) :: qw_big)) := qw_gV kml_X8_124 kin_X8_lettersHere kse_X8_lettersHere kini_X8 kco_X8_lettersHere
theorem kg_X8_120 : GoodIn qw_big (wsV RX8 120 RX8 yX8_isKeyword (Cond.code yX8_isKeyword cX8_isKeyword 1 (some .boolean) :: qw_big)) := qw_gV kml_X8_120 kin_X8_isKeyword kse_X8_isKeyword kini_X8 kco_X8_isKeyword
theorem kg_X8_127 : GoodIn qw_big (va_wsS RX8 127 yX8_indexOf (Cond.code yX8_indexOf cX8_indexOf 4 (some .int) :: qw_big)) := qw_gS kml_X8_127 kst_X8_indexOf kini_X8 kco_X8_indexOf
theorem kg_X8_274 : GoodIn qw_big (wsV RX8 274 RX8 yX8_mostNow (Cond.code yX8_mostNow cX8_mostNow 7 (some .int) :: qw_big)) := qw_gV kml_X8_274 kin_X8_mostNow kse_X8_mostNow kini_X8 kco_X8_mostNow
theorem kg_X8_270 : GoodIn qw_big (wsV RX8 270 RX8 yX8_reason (Cond.code yX8_reason cX8_reason 5 (some .int) :: qw_big)) := qw_gV kml_X8_270 kin_X8_reason kse_X8_reason kini_X8 kco_X8_reason
theorem kg_X8_263 : GoodIn qw_big (wsV RX8 263 RX8 yX8_replaced (Cond.code yX8_replaced cX8_replaced 7 (some .int) :: qw_big)) := qw_gV kml_X8_263 kin_X8_replaced kse_X8_replaced kini_X8 kco_X8_replaced
theorem kg_X8_267 : GoodIn qw_big (va_wsS RX8 267 yX8_isUnits (Cond.code yX8_isUnits cX8_isUnits 1 (some .boolean) :: qw_big)) := qw_gS kml_X8_267 kst_X8_isUnits kini_X8 kco_X8_isUnits
theorem kg_X8_250 : GoodIn qw_big (wsV RX8 250 RX8 yX8_takeCoupons (Cond.code yX8_takeCoupons cX8_takeCoupons 8 none :: qw_big)) := qw_gV kml_X8_250 kin_X8_takeCoupons kse_X8_takeCoupons kini_X8 kco_X8_takeCoupons
theorem kg_X8_238 : GoodIn qw_big (wsV RX8 238 RX8 yX8_room (Cond.code yX8_room cX8_room 3 (some .int) :: qw_big)) := qw_gV kml_X8_238 kin_X8_room kse_X8_room kini_X8 kco_X8_room
theorem kg_X8_223 : GoodIn qw_big (wsV RX8 223 RX8 yX8_layLater (Cond.code yX8_layLater cX8_layLater 4 none :: qw_big)) := qw_gV kml_X8_223 kin_X8_layLater kse_X8_layLater kini_X8 kco_X8_layLater
theorem kg_X8_226 : GoodIn qw_big (wsV RX8 226 RX8 yX8_passLater (Cond.code yX8_passLater cX8_passLater 4 none :: qw_big)) := qw_gV kml_X8_226 kin_X8_passLater kse_X8_passLater kini_X8 kco_X8_passLater
theorem kg_X8_217 : GoodIn qw_big (wsV RX8 217 RX8 yX8_carriedOf (Cond.code yX8_carriedOf cX8_carriedOf 3 (some .int) :: qw_big)) := qw_gV kml_X8_217 kin_X8_carriedOf kse_X8_carriedOf kini_X8 kco_X8_carriedOf
theorem kg_X8_220 : GoodIn qw_big (wsV RX8 220 RX8 yX8_issueOf (Cond.code yX8_issueOf cX8_issueOf 3 (some .int) :: qw_big)) := qw_gV kml_X8_220 kin_X8_issueOf kse_X8_issueOf kini_X8 kco_X8_issueOf
theorem kg_X8_229 : GoodIn qw_big (wsV RX8 229 RX8 yX8_sumLater (Cond.code yX8_sumLater cX8_sumLater 3 (some .int) :: qw_big)) := qw_gV kml_X8_229 kin_X8_sumLater kse_X8_sumLater kini_X8 kco_X8_sumLater
theorem kg_X8_58 : GoodIn qw_big (wsV RX8 58 RX8 yX8_append (Cond.code yX8_append cX8_append 3 none :: qw_big)) := qw_gV kml_X8_58 kin_X8_append kse_X8_append kini_X8 kco_X8_append
theorem kg_X8_191 : GoodIn qw_big (wsV RX8 191 RX8 yX8_countOf (Cond.code yX8_countOf cX8_countOf 2 (some .int) :: qw_big)) := qw_gV kml_X8_191 kin_X8_countOf kse_X8_countOf kini_X8 kco_X8_countOf
theorem kg_X8_194 : GoodIn qw_big (wsV RX8 194 RX8 yX8_find (Cond.code yX8_find cX8_find 3 (some .int) :: qw_big)) := qw_gV kml_X8_194 kin_X8_find kse_X8_find kini_X8 kco_X8_find
theorem kg_X8_247 : GoodIn qw_big (wsV RX8 247 RX8 yX8_canTake (Cond.code yX8_canTake cX8_canTake 2 (some .int) :: qw_big)) := qw_gV kml_X8_247 kin_X8_canTake kse_X8_canTake kini_X8 kco_X8_canTake
theorem kg_X8_244 : GoodIn qw_big (wsV RX8 244 RX8 yX8_canGive (Cond.code yX8_canGive cX8_canGive 3 (some .int) :: qw_big)) := qw_gV kml_X8_244 kin_X8_canGive kse_X8_canGive kini_X8 kco_X8_canGive
theorem kg_X8_42 : GoodIn qw_big (va_wsS RX8 42 yX8_reset (Cond.code yX8_reset cX8_reset 2 none :: qw_big)) := qw_gS kml_X8_42 kst_X8_reset kini_X8 kco_X8_reset
theorem kg_X8_46 : GoodIn qw_big (va_wsS RX8 46 yX8_clear (Cond.code yX8_clear cX8_clear 2 none :: qw_big)) := qw_gS kml_X8_46 kst_X8_clear kini_X8 kco_X8_clear
theorem kg_X8_260 : GoodIn qw_big (wsV RX8 260 RX8 yX8_total (Cond.code yX8_total cX8_total 3 (some .int) :: qw_big)) := qw_gV kml_X8_260 kin_X8_total kse_X8_total kini_X8 kco_X8_total
theorem kg_X8_232 : GoodIn qw_big (wsV RX8 232 RX8 yX8_lapseLater (Cond.code yX8_lapseLater cX8_lapseLater 2 (some .int) :: qw_big)) := qw_gV kml_X8_232 kin_X8_lapseLater kse_X8_lapseLater kini_X8 kco_X8_lapseLater
theorem kg_X8_185 : GoodIn qw_big (wsV RX8 185 RX8 yX8_parseStatement (Cond.code yX8_parseStatement cX8_parseStatement 1 none :: qw_big)) := qw_gV kml_X8_185 kin_X8_parseStatement kse_X8_parseStatement kini_X8 kco_X8_parseStatement
theorem kg_X8_149 : GoodIn qw_big (wsV RX8 149 RX8 yX8_isWord (Cond.code yX8_isWord cX8_isWord 3 (some .boolean) :: qw_big)) := qw_gV kml_X8_149 kin_X8_isWord kse_X8_isWord kini_X8 kco_X8_isWord
theorem kg_X8_164 : GoodIn qw_big (wsV RX8 164 RX8 yX8_parseGroup (Cond.code yX8_parseGroup cX8_parseGroup 6 none :: qw_big)) := qw_gV kml_X8_164 kin_X8_parseGroup kse_X8_parseGroup kini_X8 kco_X8_parseGroup
theorem kg_X8_134 : GoodIn qw_big (wsV RX8 134 RX8 yX8_begin (Cond.code yX8_begin cX8_begin 3 (some .int) :: qw_big)) := qw_gV kml_X8_134 kin_X8_begin kse_X8_begin kini_X8 kco_X8_begin
theorem kg_X8_138 : GoodIn qw_big (wsV RX8 138 RX8 yX8_readInteger (Cond.code yX8_readInteger cX8_readInteger 4 (some .int) :: qw_big)) := qw_gV kml_X8_138 kin_X8_readInteger kse_X8_readInteger kini_X8 kco_X8_readInteger
theorem kg_X8_141 : GoodIn qw_big (wsV RX8 141 RX8 yX8_declare (Cond.code yX8_declare cX8_declare 3 none :: qw_big)) := qw_gV kml_X8_141 kin_X8_declare kse_X8_declare kini_X8 kco_X8_declare
theorem kg_X8_167 : GoodIn qw_big (wsV RX8 167 RX8 yX8_parseSwap (Cond.code yX8_parseSwap cX8_parseSwap 4 none :: qw_big)) := qw_gV kml_X8_167 kin_X8_parseSwap kse_X8_parseSwap kini_X8 kco_X8_parseSwap
theorem kg_X8_145 : GoodIn qw_big (wsV RX8 145 RX8 yX8_readOldName (Cond.code yX8_readOldName cX8_readOldName 3 (some .int) :: qw_big)) := qw_gV kml_X8_145 kin_X8_readOldName kse_X8_readOldName kini_X8 kco_X8_readOldName
theorem kg_X8_170 : GoodIn qw_big (wsV RX8 170 RX8 yX8_parseGood (Cond.code yX8_parseGood cX8_parseGood 6 none :: qw_big)) := qw_gV kml_X8_170 kin_X8_parseGood kse_X8_parseGood kini_X8 kco_X8_parseGood
theorem kg_X8_173 : GoodIn qw_big (wsV RX8 173 RX8 yX8_parseHouse (Cond.code yX8_parseHouse cX8_parseHouse 4 none :: qw_big)) := qw_gV kml_X8_173 kin_X8_parseHouse kse_X8_parseHouse kini_X8 kco_X8_parseHouse
theorem kg_X8_176 : GoodIn qw_big (wsV RX8 176 RX8 yX8_parseShop (Cond.code yX8_parseShop cX8_parseShop 6 none :: qw_big)) := qw_gV kml_X8_176 kin_X8_parseShop kse_X8_parseShop kini_X8 kco_X8_parseShop
theorem kg_X8_179 : GoodIn qw_big (wsV RX8 179 RX8 yX8_parseSetting (Cond.code yX8_parseSetting cX8_parseSetting 2 none :: qw_big)) := qw_gV kml_X8_179 kin_X8_parseSetting kse_X8_parseSetting kini_X8 kco_X8_parseSetting
theorem kg_X8_155 : GoodIn qw_big (wsV RX8 155 RX8 yX8_settingHere (Cond.code yX8_settingHere cX8_settingHere 1 (some .int) :: qw_big)) := qw_gV kml_X8_155 kin_X8_settingHere kse_X8_settingHere kini_X8 kco_X8_settingHere
theorem kg_X8_161 : GoodIn qw_big (va_wsS RX8 161 yX8_mostOf (Cond.code yX8_mostOf cX8_mostOf 1 (some .int) :: qw_big)) := qw_gS kml_X8_161 kst_X8_mostOf kini_X8 kco_X8_mostOf
theorem kg_X8_188 : GoodIn qw_big (wsV RX8 188 RX8 yX8_issue (Cond.code yX8_issue cX8_issue 3 none :: qw_big)) := qw_gV kml_X8_188 kin_X8_issue kse_X8_issue kini_X8 kco_X8_issue
theorem kg_X8_278 : GoodIn qw_big (wsV RX8 278 RX8 yX8_change (Cond.code yX8_change cX8_change 4 (some .int) :: qw_big)) := qw_gV kml_X8_278 kin_X8_change kse_X8_change kini_X8 kco_X8_change
theorem kg_L_140 : GoodIn qw_big (wsV RL 140 RX7 yX7_feed (Cond.code yX7_feed cX7_feed 6 (some .int) :: qw_big)) := qw_gV kml_L_140 kin_X7_feed kse_X7_feed kini_X7 kco_X7_feed
theorem kg_L_144 : GoodIn qw_big (wsV RL 144 RX8 yX8_feed (Cond.code yX8_feed cX8_feed 6 (some .int) :: qw_big)) := qw_gV kml_L_144 kin_X8_feed kse_X8_feed kini_X8 kco_X8_feed
theorem kg_L_145 : GoodIn qw_big (wsV RL 145 RX7 yX7_load (Cond.code yX7_load cX7_load 3 (some .int) :: qw_big)) := qw_gV kml_L_145 kin_X7_load kse_X7_load kini_X7 kco_X7_load
theorem kg_L_148 : GoodIn qw_big (wsV RL 148 RX8 yX8_load (Cond.code yX8_load cX8_load 3 (some .int) :: qw_big)) := qw_gV kml_L_148 kin_X8_load kse_X8_load kini_X8 kco_X8_load
theorem kg_L_149 : GoodIn qw_big (wsV RL 149 RX7 yX7_errorPosition (Cond.code yX7_errorPosition cX7_errorPosition 1 (some .int) :: qw_big)) := qw_gV kml_L_149 kin_X7_errorPosition kse_X7_errorPosition kini_X7 kco_X7_errorPosition
theorem kg_L_153 : GoodIn qw_big (wsV RL 153 RX8 yX8_errorPosition (Cond.code yX8_errorPosition cX8_errorPosition 1 (some .int) :: qw_big)) := qw_gV kml_L_153 kin_X8_errorPosition kse_X8_errorPosition kini_X8 kco_X8_errorPosition
theorem kg_L_154 : GoodIn qw_big (wsV RL 154 RX7 yX7_groupCount (Cond.code yX7_groupCount cX7_groupCount 1 (some .int) :: qw_big)) := qw_gV kml_L_154 kin_X7_groupCount kse_X7_groupCount kini_X7 kco_X7_groupCount
theorem kg_L_157 : GoodIn qw_big (wsV RL 157 RX8 yX8_groupCount (Cond.code yX8_groupCount cX8_groupCount 1 (some .int) :: qw_big)) := qw_gV kml_L_157 kin_X8_groupCount kse_X8_groupCount kini_X8 kco_X8_groupCount
theorem kg_L_158 : GoodIn qw_big (wsV RL 158 RX7 yX7_goodCount (Cond.code yX7_goodCount cX7_goodCount 1 (some .int) :: qw_big)) := qw_gV kml_L_158 kin_X7_goodCount kse_X7_goodCount kini_X7 kco_X7_goodCount
theorem kg_L_161 : GoodIn qw_big (wsV RL 161 RX8 yX8_goodCount (Cond.code yX8_goodCount cX8_goodCount 1 (some .int) :: qw_big)) := qw_gV kml_L_161 kin_X8_goodCount kse_X8_goodCount kini_X8 kco_X8_goodCount
theorem kg_L_162 : GoodIn qw_big (wsV RL 162 RX7 yX7_houseCount (Cond.code yX7_houseCount cX7_houseCount 1 (some .int) :: qw_big)) := qw_gV kml_L_162 kin_X7_houseCount kse_X7_houseCount kini_X7 kco_X7_houseCount
theorem kg_L_165 : GoodIn qw_big (wsV RL 165 RX8 yX8_houseCount (Cond.code yX8_houseCount cX8_houseCount 1 (some .int) :: qw_big)) := qw_gV kml_L_165 kin_X8_houseCount kse_X8_houseCount kini_X8 kco_X8_houseCount
theorem kg_L_166 : GoodIn qw_big (wsV RL 166 RX7 yX7_shopCount (Cond.code yX7_shopCount cX7_shopCount 1 (some .int) :: qw_big)) := qw_gV kml_L_166 kin_X7_shopCount kse_X7_shopCount kini_X7 kco_X7_shopCount
theorem kg_L_169 : GoodIn qw_big (wsV RL 169 RX8 yX8_shopCount (Cond.code yX8_shopCount cX8_shopCount 1 (some .int) :: qw_big)) := qw_gV kml_L_169 kin_X8_shopCount kse_X8_shopCount kini_X8 kco_X8_shopCount
theorem kg_L_170 : GoodIn qw_big (wsV RL 170 RX7 yX7_undoCount (Cond.code yX7_undoCount cX7_undoCount 1 (some .int) :: qw_big)) := qw_gV kml_L_170 kin_X7_undoCount kse_X7_undoCount kini_X7 kco_X7_undoCount
theorem kg_L_173 : GoodIn qw_big (wsV RL 173 RX8 yX8_undoCount (Cond.code yX8_undoCount cX8_undoCount 1 (some .int) :: qw_big)) := qw_gV kml_L_173 kin_X8_undoCount kse_X8_undoCount kini_X8 kco_X8_undoCount
theorem kg_L_174 : GoodIn qw_big (wsV RL 174 RX7 yX7_period (Cond.code yX7_period cX7_period 1 (some .int) :: qw_big)) := qw_gV kml_L_174 kin_X7_period kse_X7_period kini_X7 kco_X7_period
theorem kg_L_177 : GoodIn qw_big (wsV RL 177 RX8 yX8_period (Cond.code yX8_period cX8_period 1 (some .int) :: qw_big)) := qw_gV kml_L_177 kin_X8_period kse_X8_period kini_X8 kco_X8_period
theorem kg_L_178 : GoodIn qw_big (wsV RL 178 RX7 yX7_groupNamed (Cond.code yX7_groupNamed cX7_groupNamed 2 (some .int) :: qw_big)) := qw_gV kml_L_178 kin_X7_groupNamed kse_X7_groupNamed kini_X7 kco_X7_groupNamed
theorem kg_L_181 : GoodIn qw_big (wsV RL 181 RX8 yX8_groupNamed (Cond.code yX8_groupNamed cX8_groupNamed 2 (some .int) :: qw_big)) := qw_gV kml_L_181 kin_X8_groupNamed kse_X8_groupNamed kini_X8 kco_X8_groupNamed
theorem kg_L_182 : GoodIn qw_big (wsV RL 182 RX7 yX7_goodNamed (Cond.code yX7_goodNamed cX7_goodNamed 2 (some .int) :: qw_big)) := qw_gV kml_L_182 kin_X7_goodNamed kse_X7_goodNamed kini_X7 kco_X7_goodNamed
theorem kg_L_185 : GoodIn qw_big (wsV RL 185 RX8 yX8_goodNamed (Cond.code yX8_goodNamed cX8_goodNamed 2 (some .int) :: qw_big)) := qw_gV kml_L_185 kin_X8_goodNamed kse_X8_goodNamed kini_X8 kco_X8_goodNamed
theorem kg_L_186 : GoodIn qw_big (wsV RL 186 RX7 yX7_houseNamed (Cond.code yX7_houseNamed cX7_houseNamed 2 (some .int) :: qw_big)) := qw_gV kml_L_186 kin_X7_houseNamed kse_X7_houseNamed kini_X7 kco_X7_houseNamed
theorem kg_L_189 : GoodIn qw_big (wsV RL 189 RX8 yX8_houseNamed (Cond.code yX8_houseNamed cX8_houseNamed 2 (some .int) :: qw_big)) := qw_gV kml_L_189 kin_X8_houseNamed kse_X8_houseNamed kini_X8 kco_X8_houseNamed
theorem kg_L_190 : GoodIn qw_big (wsV RL 190 RX7 yX7_shopNamed (Cond.code yX7_shopNamed cX7_shopNamed 2 (some .int) :: qw_big)) := qw_gV kml_L_190 kin_X7_shopNamed kse_X7_shopNamed kini_X7 kco_X7_shopNamed
theorem kg_L_193 : GoodIn qw_big (wsV RL 193 RX8 yX8_shopNamed (Cond.code yX8_shopNamed cX8_shopNamed 2 (some .int) :: qw_big)) := qw_gV kml_L_193 kin_X8_shopNamed kse_X8_shopNamed kini_X8 kco_X8_shopNamed
theorem kg_L_194 : GoodIn qw_big (va_wsS RL 194 yL_groupProperty (Cond.codeWith yL_groupProperty cL_groupProperty 5 (some .int) [(0, 10, 13, 13)] :: qw_big)) := qw_gS kml_L_194 kst_L_groupProperty kini_L kco_L_groupProperty
theorem kg_L_199 : GoodIn qw_big (wsV RL 199 RX8 yX8_groupProperty (Cond.code yX8_groupProperty cX8_groupProperty 3 (some .int) :: qw_big)) := qw_gV kml_L_199 kin_X8_groupProperty kse_X8_groupProperty kini_X8 kco_X8_groupProperty
theorem kg_L_200 : GoodIn qw_big (wsV RL 200 RX8 yX8_thrown (Cond.code yX8_thrown cX8_thrown 1 (some .int) :: qw_big)) := qw_gV kml_L_200 kin_X8_thrown kse_X8_thrown kini_X8 kco_X8_thrown
theorem kg_L_203 : GoodIn qw_big (va_wsS RL 203 yL_goodProperty (Cond.codeWith yL_goodProperty cL_goodProperty 5 (some .int) [(0, 10, 13, 13)] :: qw_big)) := qw_gS kml_L_203 kst_L_goodProperty kini_L kco_L_goodProperty
theorem kg_L_205 : GoodIn qw_big (wsV RL 205 RX8 yX8_goodProperty (Cond.code yX8_goodProperty cX8_goodProperty 3 (some .int) :: qw_big)) := qw_gV kml_L_205 kin_X8_goodProperty kse_X8_goodProperty kini_X8 kco_X8_goodProperty
theorem kg_L_206 : GoodIn qw_big (va_wsS RL 206 yL_sizeOf (Cond.codeWith yL_sizeOf cL_sizeOf 4 (some .int) [(0, 9, 12, 13)] :: qw_big)) := qw_gS kml_L_206 kst_L_sizeOf kini_L kco_L_sizeOf
theorem kg_L_209 : GoodIn qw_big (wsV RL 209 RX8 yX8_sizeOf (Cond.code yX8_sizeOf cX8_sizeOf 2 (some .int) :: qw_big)) := qw_gV kml_L_209 kin_X8_sizeOf kse_X8_sizeOf kini_X8 kco_X8_sizeOf
theorem kg_L_210 : GoodIn qw_big (wsV RL 210 RX7 yX7_getSetting (Cond.code yX7_getSetting cX7_getSetting 2 (some .int) :: qw_big)) := qw_gV kml_L_210 kin_X7_getSetting kse_X7_getSetting kini_X7 kco_X7_getSetting
theorem kg_L_213 : GoodIn qw_big (wsV RL 213 RX8 yX8_getSetting (Cond.code yX8_getSetting cX8_getSetting 2 (some .int) :: qw_big)) := qw_gV kml_L_213 kin_X8_getSetting kse_X8_getSetting kini_X8 kco_X8_getSetting
theorem kg_L_214 : GoodIn qw_big (va_wsS RL 214 yL_coupons (Cond.codeWith yL_coupons cL_coupons 5 (some .int) [(0, 10, 13, 13)] :: qw_big)) := qw_gS kml_L_214 kst_L_coupons kini_L kco_L_coupons
theorem kg_L_216 : GoodIn qw_big (wsV RL 216 RX8 yX8_coupons (Cond.code yX8_coupons cX8_coupons 3 (some .int) :: qw_big)) := qw_gV kml_L_216 kin_X8_coupons kse_X8_coupons kini_X8 kco_X8_coupons
theorem kg_L_217 : GoodIn qw_big (va_wsS RL 217 yL_couponsWith (Cond.codeWith yL_couponsWith cL_couponsWith 6 (some .int) [(0, 12, 15, 13)] :: qw_big)) := qw_gS kml_L_217 kst_L_couponsWith kini_L kco_L_couponsWith
theorem kg_L_220 : GoodIn qw_big (wsV RL 220 RX8 yX8_couponsWith (Cond.code yX8_couponsWith cX8_couponsWith 4 (some .int) :: qw_big)) := qw_gV kml_L_220 kin_X8_couponsWith kse_X8_couponsWith kini_X8 kco_X8_couponsWith
theorem kg_L_221 : GoodIn qw_big (va_wsS RL 221 yL_lapsing (Cond.codeWith yL_lapsing cL_lapsing 5 (some .int) [(0, 10, 13, 13)] :: qw_big)) := qw_gS kml_L_221 kst_L_lapsing kini_L kco_L_lapsing
theorem kg_L_223 : GoodIn qw_big (wsV RL 223 RX8 yX8_lapsing (Cond.code yX8_lapsing cX8_lapsing 4 (some .int) :: qw_big)) := qw_gV kml_L_223 kin_X8_lapsing kse_X8_lapsing kini_X8 kco_X8_lapsing
theorem kg_L_224 : GoodIn qw_big (va_wsS RL 224 yL_couponsAfter (Cond.codeWith yL_couponsAfter cL_couponsAfter 6 (some .int) [(0, 12, 15, 13)] :: qw_big)) := qw_gS kml_L_224 kst_L_couponsAfter kini_L kco_L_couponsAfter
theorem kg_L_226 : GoodIn qw_big (wsV RL 226 RX8 yX8_couponsAfter (Cond.code yX8_couponsAfter cX8_couponsAfter 5 (some .int) :: qw_big)) := qw_gV kml_L_226 kin_X8_couponsAfter kse_X8_couponsAfter kini_X8 kco_X8_couponsAfter
theorem kg_L_227 : GoodIn qw_big (va_wsS RL 227 yL_neediest (Cond.codeWith yL_neediest cL_neediest 4 (some .int) [(0, 9, 12, 13)] :: qw_big)) := qw_gS kml_L_227 kst_L_neediest kini_L kco_L_neediest
theorem kg_L_229 : GoodIn qw_big (wsV RL 229 RX8 yX8_neediest (Cond.code yX8_neediest cX8_neediest 4 (some .int) :: qw_big)) := qw_gV kml_L_229 kin_X8_neediest kse_X8_neediest kini_X8 kco_X8_neediest
theorem kg_L_230 : GoodIn qw_big (va_wsS RL 230 yL_givenBy (Cond.codeWith yL_givenBy cL_givenBy 4 (some .int) [(0, 9, 12, 13)] :: qw_big)) := qw_gS kml_L_230 kst_L_givenBy kini_L kco_L_givenBy
theorem kg_L_232 : GoodIn qw_big (wsV RL 232 RX8 yX8_givenBy (Cond.code yX8_givenBy cX8_givenBy 2 (some .int) :: qw_big)) := qw_gV kml_L_232 kin_X8_givenBy kse_X8_givenBy kini_X8 kco_X8_givenBy
theorem kg_L_233 : GoodIn qw_big (va_wsS RL 233 yL_takenBy (Cond.codeWith yL_takenBy cL_takenBy 4 (some .int) [(0, 9, 12, 13)] :: qw_big)) := qw_gS kml_L_233 kst_L_takenBy kini_L kco_L_takenBy
theorem kg_L_235 : GoodIn qw_big (wsV RL 235 RX8 yX8_takenBy (Cond.code yX8_takenBy cX8_takenBy 2 (some .int) :: qw_big)) := qw_gV kml_L_235 kin_X8_takenBy kse_X8_takenBy kini_X8 kco_X8_takenBy
theorem kg_L_236 : GoodIn qw_big (va_wsS RL 236 yL_tradeRoom (Cond.codeWith yL_tradeRoom cL_tradeRoom 6 (some .int) [(0, 12, 15, 13)] :: qw_big)) := qw_gS kml_L_236 kst_L_tradeRoom kini_L kco_L_tradeRoom
theorem kg_L_238 : GoodIn qw_big (wsV RL 238 RX8 yX8_tradeRoom (Cond.code yX8_tradeRoom cX8_tradeRoom 4 (some .int) :: qw_big)) := qw_gV kml_L_238 kin_X8_tradeRoom kse_X8_tradeRoom kini_X8 kco_X8_tradeRoom
theorem kg_L_239 : GoodIn qw_big (va_wsS RL 239 yL_helpers (Cond.codeWith yL_helpers cL_helpers 6 (some .int) [(0, 12, 15, 13)] :: qw_big)) := qw_gS kml_L_239 kst_L_helpers kini_L kco_L_helpers
theorem kg_L_241 : GoodIn qw_big (wsV RL 241 RX8 yX8_helpers (Cond.code yX8_helpers cX8_helpers 9 (some .int) :: qw_big)) := qw_gV kml_L_241 kin_X8_helpers kse_X8_helpers kini_X8 kco_X8_helpers
theorem kg_L_242 : GoodIn qw_big (va_wsS RL 242 yL_stockOf (Cond.codeWith yL_stockOf cL_stockOf 5 (some .int) [(0, 10, 13, 13)] :: qw_big)) := qw_gS kml_L_242 kst_L_stockOf kini_L kco_L_stockOf
theorem kg_L_244 : GoodIn qw_big (wsV RL 244 RX8 yX8_stockOf (Cond.code yX8_stockOf cX8_stockOf 3 (some .int) :: qw_big)) := qw_gV kml_L_244 kin_X8_stockOf kse_X8_stockOf kini_X8 kco_X8_stockOf
theorem kg_L_245 : GoodIn qw_big (va_wsS RL 245 yL_accountOf (Cond.codeWith yL_accountOf cL_accountOf 5 (some .int) [(0, 10, 13, 13)] :: qw_big)) := qw_gS kml_L_245 kst_L_accountOf kini_L kco_L_accountOf
theorem kg_L_247 : GoodIn qw_big (wsV RL 247 RX8 yX8_accountOf (Cond.code yX8_accountOf cX8_accountOf 3 (some .int) :: qw_big)) := qw_gV kml_L_247 kin_X8_accountOf kse_X8_accountOf kini_X8 kco_X8_accountOf
theorem kg_L_248 : GoodIn qw_big (va_wsS RL 248 yL_penaltyOf (Cond.codeWith yL_penaltyOf cL_penaltyOf 4 (some .int) [(0, 9, 12, 13)] :: qw_big)) := qw_gS kml_L_248 kst_L_penaltyOf kini_L kco_L_penaltyOf
theorem kg_L_250 : GoodIn qw_big (wsV RL 250 RX8 yX8_penaltyOf (Cond.code yX8_penaltyOf cX8_penaltyOf 2 (some .int) :: qw_big)) := qw_gV kml_L_250 kin_X8_penaltyOf kse_X8_penaltyOf kini_X8 kco_X8_penaltyOf
theorem kg_L_251 : GoodIn qw_big (va_wsS RL 251 yL_isSuspended (Cond.codeWith yL_isSuspended cL_isSuspended 4 (some .int) [(0, 16, 19, 13)] :: qw_big)) := qw_gS kml_L_251 kst_L_isSuspended kini_L kco_L_isSuspended
theorem kg_L_253 : GoodIn qw_big (wsV RL 253 RX8 yX8_isSuspended (Cond.code yX8_isSuspended cX8_isSuspended 2 (some .boolean) :: qw_big)) := qw_gV kml_L_253 kin_X8_isSuspended kse_X8_isSuspended kini_X8 kco_X8_isSuspended
theorem kg_L_254 : GoodIn qw_big (va_wsS RL 254 yL_soldBy (Cond.codeWith yL_soldBy cL_soldBy 5 (some .int) [(0, 10, 13, 13)] :: qw_big)) := qw_gS kml_L_254 kst_L_soldBy kini_L kco_L_soldBy
theorem kg_L_256 : GoodIn qw_big (wsV RL 256 RX8 yX8_soldBy (Cond.code yX8_soldBy cX8_soldBy 3 (some .int) :: qw_big)) := qw_gV kml_L_256 kin_X8_soldBy kse_X8_soldBy kini_X8 kco_X8_soldBy
theorem kg_L_257 : GoodIn qw_big (va_wsS RL 257 yL_deliveredTo (Cond.codeWith yL_deliveredTo cL_deliveredTo 5 (some .int) [(0, 10, 13, 13)] :: qw_big)) := qw_gS kml_L_257 kst_L_deliveredTo kini_L kco_L_deliveredTo
theorem kg_L_259 : GoodIn qw_big (wsV RL 259 RX8 yX8_deliveredTo (Cond.code yX8_deliveredTo cX8_deliveredTo 3 (some .int) :: qw_big)) := qw_gV kml_L_259 kin_X8_deliveredTo kse_X8_deliveredTo kini_X8 kco_X8_deliveredTo
theorem kg_L_260 : GoodIn qw_big (va_wsS RL 260 yL_turnover (Cond.codeWith yL_turnover cL_turnover 4 (some .int) [(0, 9, 12, 13)] :: qw_big)) := qw_gS kml_L_260 kst_L_turnover kini_L kco_L_turnover
theorem kg_L_262 : GoodIn qw_big (wsV RL 262 RX8 yX8_turnover (Cond.code yX8_turnover cX8_turnover 4 (some .int) :: qw_big)) := qw_gV kml_L_262 kin_X8_turnover kse_X8_turnover kini_X8 kco_X8_turnover
theorem kg_L_263 : GoodIn qw_big (va_wsS RL 263 yL_issued (Cond.codeWith yL_issued cL_issued 4 (some .int) [(0, 9, 12, 13)] :: qw_big)) := qw_gS kml_L_263 kst_L_issued kini_L kco_L_issued
theorem kg_L_265 : GoodIn qw_big (wsV RL 265 RX8 yX8_issued (Cond.code yX8_issued cX8_issued 2 (some .int) :: qw_big)) := qw_gV kml_L_265 kin_X8_issued kse_X8_issued kini_X8 kco_X8_issued
theorem kg_L_266 : GoodIn qw_big (va_wsS RL 266 yL_spent (Cond.codeWith yL_spent cL_spent 4 (some .int) [(0, 9, 12, 13)] :: qw_big)) := qw_gS kml_L_266 kst_L_spent kini_L kco_L_spent
theorem kg_L_268 : GoodIn qw_big (wsV RL 268 RX8 yX8_spent (Cond.code yX8_spent cX8_spent 2 (some .int) :: qw_big)) := qw_gV kml_L_268 kin_X8_spent kse_X8_spent kini_X8 kco_X8_spent
theorem kg_L_269 : GoodIn qw_big (va_wsS RL 269 yL_lapsed (Cond.codeWith yL_lapsed cL_lapsed 4 (some .int) [(0, 9, 12, 13)] :: qw_big)) := qw_gS kml_L_269 kst_L_lapsed kini_L kco_L_lapsed
theorem kg_L_271 : GoodIn qw_big (wsV RL 271 RX8 yX8_lapsed (Cond.code yX8_lapsed cX8_lapsed 2 (some .int) :: qw_big)) := qw_gV kml_L_271 kin_X8_lapsed kse_X8_lapsed kini_X8 kco_X8_lapsed
theorem kg_L_272 : GoodIn qw_big (va_wsS RL 272 yL_held (Cond.codeWith yL_held cL_held 4 (some .int) [(0, 9, 12, 13)] :: qw_big)) := qw_gS kml_L_272 kst_L_held kini_L kco_L_held
theorem kg_L_274 : GoodIn qw_big (wsV RL 274 RX8 yX8_held (Cond.code yX8_held cX8_held 4 (some .int) :: qw_big)) := qw_gV kml_L_274 kin_X8_held kse_X8_held kini_X8 kco_X8_held
theorem kg_L_275 : GoodIn qw_big (va_wsS RL 275 yL_reasonFor (Cond.codeWith yL_reasonFor cL_reasonFor 7 (some .int) [(0, 14, 17, 13)] :: qw_big)) := qw_gS kml_L_275 kst_L_reasonFor kini_L kco_L_reasonFor
theorem kg_L_278 : GoodIn qw_big (wsV RL 278 RX8 yX8_reasonFor (Cond.code yX8_reasonFor cX8_reasonFor 5 (some .int) :: qw_big)) := qw_gV kml_L_278 kin_X8_reasonFor kse_X8_reasonFor kini_X8 kco_X8_reasonFor
theorem kg_L_279 : GoodIn qw_big (va_wsS RL 279 yL_mostUnits (Cond.codeWith yL_mostUnits cL_mostUnits 6 (some .int) [(0, 12, 15, 13)] :: qw_big)) := qw_gS kml_L_279 kst_L_mostUnits kini_L kco_L_mostUnits
theorem kg_L_281 : GoodIn qw_big (wsV RL 281 RX8 yX8_mostUnits (Cond.code yX8_mostUnits cX8_mostUnits 4 (some .int) :: qw_big)) := qw_gV kml_L_281 kin_X8_mostUnits kse_X8_mostUnits kini_X8 kco_X8_mostUnits
theorem kg_L_282 : GoodIn qw_big (va_wsS RL 282 yL_substituted (Cond.codeWith yL_substituted cL_substituted 6 (some .int) [(0, 12, 15, 13)] :: qw_big)) := qw_gS kml_L_282 kst_L_substituted kini_L kco_L_substituted
theorem kg_L_284 : GoodIn qw_big (wsV RL 284 RX8 yX8_substituted (Cond.code yX8_substituted cX8_substituted 4 (some .int) :: qw_big)) := qw_gV kml_L_284 kin_X8_substituted kse_X8_substituted kini_X8 kco_X8_substituted
theorem kg_L_285 : GoodIn qw_big (va_wsS RL 285 yL_served (Cond.codeWith yL_served cL_served 6 (some .int) [(0, 12, 15, 13)] :: qw_big)) := qw_gS kml_L_285 kst_L_served kini_L kco_L_served
theorem kg_L_287 : GoodIn qw_big (wsV RL 287 RX8 yX8_served (Cond.code yX8_served cX8_served 7 (some .int) :: qw_big)) := qw_gV kml_L_287 kin_X8_served kse_X8_served kini_X8 kco_X8_served
theorem kg_L_288 : GoodIn qw_big (va_wsS RL 288 yL_basketValue (Cond.codeWith yL_basketValue cL_basketValue 5 (some .int) [(0, 10, 13, 13)] :: qw_big)) := qw_gS kml_L_288 kst_L_basketValue kini_L kco_L_basketValue
theorem kg_L_290 : GoodIn qw_big (wsV RL 290 RX8 yX8_basketValue (Cond.code yX8_basketValue cX8_basketValue 6 (some .int) :: qw_big)) := qw_gV kml_L_290 kin_X8_basketValue kse_X8_basketValue kini_X8 kco_X8_basketValue
theorem kg_L_291 : GoodIn qw_big (va_wsS RL 291 yL_basketUnits (Cond.codeWith yL_basketUnits cL_basketUnits 6 (some .int) [(0, 12, 15, 13)] :: qw_big)) := qw_gS kml_L_291 kst_L_basketUnits kini_L kco_L_basketUnits
theorem kg_L_293 : GoodIn qw_big (wsV RL 293 RX8 yX8_basketUnits (Cond.code yX8_basketUnits cX8_basketUnits 5 (some .int) :: qw_big)) := qw_gV kml_L_293 kin_X8_basketUnits kse_X8_basketUnits kini_X8 kco_X8_basketUnits
theorem kg_L_294 : GoodIn qw_big (va_wsS RL 294 yL_waitFor (Cond.codeWith yL_waitFor cL_waitFor 6 (some .int) [(0, 12, 15, 13)] :: qw_big)) := qw_gS kml_L_294 kst_L_waitFor kini_L kco_L_waitFor
theorem kg_L_296 : GoodIn qw_big (wsV RL 296 RX8 yX8_waitFor (Cond.code yX8_waitFor cX8_waitFor 6 (some .int) :: qw_big)) := qw_gV kml_L_296 kin_X8_waitFor kse_X8_waitFor kini_X8 kco_X8_waitFor
theorem kg_L_297 : GoodIn qw_big (va_wsS RL 297 yL_bestShop (Cond.codeWith yL_bestShop cL_bestShop 4 (some .int) [(0, 9, 12, 13)] :: qw_big)) := qw_gS kml_L_297 kst_L_bestShop kini_L kco_L_bestShop
theorem kg_L_299 : GoodIn qw_big (wsV RL 299 RX8 yX8_bestShop (Cond.code yX8_bestShop cX8_bestShop 5 (some .int) :: qw_big)) := qw_gV kml_L_299 kin_X8_bestShop kse_X8_bestShop kini_X8 kco_X8_bestShop
theorem kg_L_300 : GoodIn qw_big (va_wsS RL 300 yL_bestHouse (Cond.codeWith yL_bestHouse cL_bestHouse 5 (some .int) [(0, 10, 13, 13)] :: qw_big)) := qw_gS kml_L_300 kst_L_bestHouse kini_L kco_L_bestHouse
theorem kg_L_302 : GoodIn qw_big (wsV RL 302 RX8 yX8_bestHouse (Cond.code yX8_bestHouse cX8_bestHouse 6 (some .int) :: qw_big)) := qw_gV kml_L_302 kin_X8_bestHouse kse_X8_bestHouse kini_X8 kco_X8_bestHouse
theorem kg_L_303 : GoodIn qw_big (va_wsS RL 303 yL_basketCost (Cond.codeWith yL_basketCost cL_basketCost 5 (some .int) [(0, 10, 13, 13)] :: qw_big)) := qw_gS kml_L_303 kst_L_basketCost kini_L kco_L_basketCost
theorem kg_L_305 : GoodIn qw_big (wsV RL 305 RX8 yX8_basketCost (Cond.code yX8_basketCost cX8_basketCost 4 (some .int) :: qw_big)) := qw_gV kml_L_305 kin_X8_basketCost kse_X8_basketCost kini_X8 kco_X8_basketCost
theorem kg_L_306 : GoodIn qw_big (va_wsS RL 306 yL_basketLeft (Cond.codeWith yL_basketLeft cL_basketLeft 6 (some .int) [(0, 12, 15, 13)] :: qw_big)) := qw_gS kml_L_306 kst_L_basketLeft kini_L kco_L_basketLeft
theorem kg_L_308 : GoodIn qw_big (wsV RL 308 RX8 yX8_basketLeft (Cond.code yX8_basketLeft cX8_basketLeft 5 (some .int) :: qw_big)) := qw_gV kml_L_308 kin_X8_basketLeft kse_X8_basketLeft kini_X8 kco_X8_basketLeft
theorem kg_L_309 : GoodIn qw_big (va_wsS RL 309 yL_swapChain (Cond.codeWith yL_swapChain cL_swapChain 4 (some .int) [(0, 9, 12, 13)] :: qw_big)) := qw_gS kml_L_309 kst_L_swapChain kini_L kco_L_swapChain
theorem kg_L_311 : GoodIn qw_big (wsV RL 311 RX8 yX8_swapChain (Cond.code yX8_swapChain cX8_swapChain 5 (some .int) :: qw_big)) := qw_gV kml_L_311 kin_X8_swapChain kse_X8_swapChain kini_X8 kco_X8_swapChain
theorem kg_L_312 : GoodIn qw_big (va_wsS RL 312 yL_mostDeliverable (Cond.codeWith yL_mostDeliverable cL_mostDeliverable 5 (some .int) [(0, 10, 13, 13)] :: qw_big)) := qw_gS kml_L_312 kst_L_mostDeliverable kini_L kco_L_mostDeliverable
theorem kg_L_314 : GoodIn qw_big (wsV RL 314 RX8 yX8_mostDeliverable (Cond.code yX8_mostDeliverable cX8_mostDeliverable 4 (some .int) :: qw_big)) := qw_gV kml_L_314 kin_X8_mostDeliverable kse_X8_mostDeliverable kini_X8 kco_X8_mostDeliverable
theorem kg_L_315 : GoodIn qw_big (va_wsS RL 315 yL_spreadOf (Cond.codeWith yL_spreadOf cL_spreadOf 4 (some .int) [(0, 9, 12, 13)] :: qw_big)) := qw_gS kml_L_315 kst_L_spreadOf kini_L kco_L_spreadOf
theorem kg_L_317 : GoodIn qw_big (wsV RL 317 RX8 yX8_spreadOf (Cond.code yX8_spreadOf cX8_spreadOf 6 (some .int) :: qw_big)) := qw_gV kml_L_317 kin_X8_spreadOf kse_X8_spreadOf kini_X8 kco_X8_spreadOf
theorem kg_L_318 : GoodIn qw_big (va_wsS RL 318 yL_levelMoves (Cond.codeWith yL_levelMoves cL_levelMoves 5 (some .int) [(0, 10, 13, 13)] :: qw_big)) := qw_gS kml_L_318 kst_L_levelMoves kini_L kco_L_levelMoves
theorem kg_L_320 : GoodIn qw_big (wsV RL 320 RX8 yX8_levelMoves (Cond.code yX8_levelMoves cX8_levelMoves 7 (some .int) :: qw_big)) := qw_gV kml_L_320 kin_X8_levelMoves kse_X8_levelMoves kini_X8 kco_X8_levelMoves
theorem kg_L_321 : GoodIn qw_big (va_wsS RL 321 yL_lapseAfter (Cond.codeWith yL_lapseAfter cL_lapseAfter 6 (some .int) [(0, 12, 15, 13)] :: qw_big)) := qw_gS kml_L_321 kst_L_lapseAfter kini_L kco_L_lapseAfter
theorem kg_L_323 : GoodIn qw_big (wsV RL 323 RX8 yX8_lapseAfter (Cond.code yX8_lapseAfter cX8_lapseAfter 6 (some .int) :: qw_big)) := qw_gV kml_L_323 kin_X8_lapseAfter kse_X8_lapseAfter kini_X8 kco_X8_lapseAfter
theorem kg_L_324 : GoodIn qw_big (va_wsS RL 324 yL_supplyPeriods (Cond.codeWith yL_supplyPeriods cL_supplyPeriods 6 (some .int) [(0, 12, 15, 13)] :: qw_big)) := qw_gS kml_L_324 kst_L_supplyPeriods kini_L kco_L_supplyPeriods
theorem kg_L_326 : GoodIn qw_big (wsV RL 326 RX8 yX8_supplyPeriods (Cond.code yX8_supplyPeriods cX8_supplyPeriods 10 (some .int) :: qw_big)) := qw_gV kml_L_326 kin_X8_supplyPeriods kse_X8_supplyPeriods kini_X8 kco_X8_supplyPeriods
theorem kg_L_327 : GoodIn qw_big (wsV RL 327 RX7 yX7_buy (Cond.code yX7_buy cX7_buy 7 (some .int) :: qw_big)) := qw_gV kml_L_327 kin_X7_buy kse_X7_buy kini_X7 kco_X7_buy
theorem kg_L_330 : GoodIn qw_big (wsV RL 330 RX8 yX8_buy (Cond.code yX8_buy cX8_buy 10 (some .int) :: qw_big)) := qw_gV kml_L_330 kin_X8_buy kse_X8_buy kini_X8 kco_X8_buy
theorem kg_L_331 : GoodIn qw_big (wsV RL 331 RX7 yX7_deliver (Cond.code yX7_deliver cX7_deliver 7 (some .int) :: qw_big)) := qw_gV kml_L_331 kin_X7_deliver kse_X7_deliver kini_X7 kco_X7_deliver
theorem kg_L_334 : GoodIn qw_big (wsV RL 334 RX8 yX8_deliver (Cond.code yX8_deliver cX8_deliver 5 (some .int) :: qw_big)) := qw_gV kml_L_334 kin_X8_deliver kse_X8_deliver kini_X8 kco_X8_deliver
theorem kg_L_335 : GoodIn qw_big (wsV RL 335 RX7 yX7_trade (Cond.code yX7_trade cX7_trade 5 (some .int) :: qw_big)) := qw_gV kml_L_335 kin_X7_trade kse_X7_trade kini_X7 kco_X7_trade
theorem kg_L_338 : GoodIn qw_big (wsV RL 338 RX8 yX8_trade (Cond.code yX8_trade cX8_trade 5 (some .int) :: qw_big)) := qw_gV kml_L_338 kin_X8_trade kse_X8_trade kini_X8 kco_X8_trade
theorem kg_L_339 : GoodIn qw_big (wsV RL 339 RX7 yX7_audit (Cond.code yX7_audit cX7_audit 5 (some .int) :: qw_big)) := qw_gV kml_L_339 kin_X7_audit kse_X7_audit kini_X7 kco_X7_audit
theorem kg_L_342 : GoodIn qw_big (wsV RL 342 RX8 yX8_audit (Cond.code yX8_audit cX8_audit 5 (some .int) :: qw_big)) := qw_gV kml_L_342 kin_X8_audit kse_X8_audit kini_X8 kco_X8_audit
theorem kg_L_343 : GoodIn qw_big (wsV RL 343 RX7 yX7_pardon (Cond.code yX7_pardon cX7_pardon 3 (some .int) :: qw_big)) := qw_gV kml_L_343 kin_X7_pardon kse_X7_pardon kini_X7 kco_X7_pardon
theorem kg_L_346 : GoodIn qw_big (wsV RL 346 RX8 yX8_pardon (Cond.code yX8_pardon cX8_pardon 2 (some .int) :: qw_big)) := qw_gV kml_L_346 kin_X8_pardon kse_X8_pardon kini_X8 kco_X8_pardon
theorem kg_L_347 : GoodIn qw_big (wsV RL 347 RX7 yX7_nextPeriod (Cond.code yX7_nextPeriod cX7_nextPeriod 3 (some .int) :: qw_big)) := qw_gV kml_L_347 kin_X7_nextPeriod kse_X7_nextPeriod kini_X7 kco_X7_nextPeriod
theorem kg_L_350 : GoodIn qw_big (wsV RL 350 RX8 yX8_nextPeriod (Cond.code yX8_nextPeriod cX8_nextPeriod 7 (some .int) :: qw_big)) := qw_gV kml_L_350 kin_X8_nextPeriod kse_X8_nextPeriod kini_X8 kco_X8_nextPeriod
theorem kg_L_351 : GoodIn qw_big (wsV RL 351 RX7 yX7_setRation (Cond.code yX7_setRation cX7_setRation 4 (some .int) :: qw_big)) := qw_gV kml_L_351 kin_X7_setRation kse_X7_setRation kini_X7 kco_X7_setRation
theorem kg_L_354 : GoodIn qw_big (wsV RL 354 RX8 yX8_setRation (Cond.code yX8_setRation cX8_setRation 3 (some .int) :: qw_big)) := qw_gV kml_L_354 kin_X8_setRation kse_X8_setRation kini_X8 kco_X8_setRation
theorem kg_L_355 : GoodIn qw_big (wsV RL 355 RX7 yX7_setSize (Cond.code yX7_setSize cX7_setSize 4 (some .int) :: qw_big)) := qw_gV kml_L_355 kin_X7_setSize kse_X7_setSize kini_X7 kco_X7_setSize
theorem kg_L_358 : GoodIn qw_big (wsV RL 358 RX8 yX8_setSize (Cond.code yX8_setSize cX8_setSize 3 (some .int) :: qw_big)) := qw_gV kml_L_358 kin_X8_setSize kse_X8_setSize kini_X8 kco_X8_setSize
theorem kg_L_359 : GoodIn qw_big (wsV RL 359 RX7 yX7_setSetting (Cond.code yX7_setSetting cX7_setSetting 4 (some .int) :: qw_big)) := qw_gV kml_L_359 kin_X7_setSetting kse_X7_setSetting kini_X7 kco_X7_setSetting
theorem kg_L_362 : GoodIn qw_big (wsV RL 362 RX8 yX8_setSetting (Cond.code yX8_setSetting cX8_setSetting 3 (some .int) :: qw_big)) := qw_gV kml_L_362 kin_X8_setSetting kse_X8_setSetting kini_X8 kco_X8_setSetting
theorem kg_L_363 : GoodIn qw_big (wsV RL 363 RX7 yX7_undo (Cond.code yX7_undo cX7_undo 1 (some .int) :: qw_big)) := qw_gV kml_L_363 kin_X7_undo kse_X7_undo kini_X7 kco_X7_undo
theorem kg_L_366 : GoodIn qw_big (wsV RL 366 RX8 yX8_undo (Cond.code yX8_undo cX8_undo 2 (some .int) :: qw_big)) := qw_gV kml_L_366 kin_X8_undo kse_X8_undo kini_X8 kco_X8_undo
theorem kw_J0_charAt_5068e : GoodIn qw_big (Cond.code yJ0_charAt_5068e cJ0_charAt_5068e 2 (some .char) :: qw_big) := qw_gW kco_J0_charAt_5068e
theorem kw_J0_isLatin1_aae02 : GoodIn qw_big (Cond.code yJ0_isLatin1_aae02 cJ0_isLatin1_aae02 1 (some .boolean) :: qw_big) := qw_gW kco_J0_isLatin1_aae02
theorem kw_J1_charAt_3b067 : GoodIn qw_big (Cond.code yJ1_charAt_3b067 cJ1_charAt_3b067 2 (some .char) :: qw_big) := qw_gW kco_J1_charAt_3b067
theorem kw_J0_checkIndex_df160 : GoodIn qw_big (Cond.code yJ0_checkIndex_df160 cJ0_checkIndex_df160 2 none :: qw_big) := qw_gW kco_J0_checkIndex_df160
theorem kw_J3_checkIndex_8e157 : GoodIn qw_big (Cond.code yJ3_checkIndex_8e157 cJ3_checkIndex_8e157 3 (some .int) :: qw_big) := qw_gW kco_J3_checkIndex_8e157
theorem kw_J2_charAt_3b067 : GoodIn qw_big (Cond.code yJ2_charAt_3b067 cJ2_charAt_3b067 2 (some .char) :: qw_big) := qw_gW kco_J2_charAt_3b067
theorem kw_J2_checkIndex_2214a : GoodIn qw_big (Cond.code yJ2_checkIndex_2214a cJ2_checkIndex_2214a 2 none :: qw_big) := qw_gW kco_J2_checkIndex_2214a
theorem kw_J2_length_9d52b : GoodIn qw_big (Cond.code yJ2_length_9d52b cJ2_length_9d52b 1 (some .int) :: qw_big) := qw_gW kco_J2_length_9d52b
theorem kw_J2_getChar_3b067 : GoodIn qw_big (Cond.code yJ2_getChar_3b067 cJ2_getChar_3b067 2 (some .char) :: qw_big) := qw_gW kco_J2_getChar_3b067
theorem kw_J0_coder_7d493 : GoodIn qw_big (Cond.code yJ0_coder_7d493 cJ0_coder_7d493 1 (some .byte) :: qw_big) := qw_gW kco_J0_coder_7d493
theorem kw_J0_length_8abf5 : GoodIn qw_big (Cond.code yJ0_length_8abf5 cJ0_length_8abf5 1 (some .int) :: qw_big) := qw_gW kco_J0_length_8abf5
theorem kw_J7_fill_53178 : GoodIn qw_big (Cond.code yJ7_fill_53178 cJ7_fill_53178 4 none :: qw_big) := qw_gW kco_J7_fill_53178
theorem kw_J9_abs_0f7a4 : GoodIn qw_big (Cond.code yJ9_abs_0f7a4 cJ9_abs_0f7a4 1 (some .int) :: qw_big) := qw_gW kco_J9_abs_0f7a4
theorem kw_J9_max_7cf53 : GoodIn qw_big (Cond.code yJ9_max_7cf53 cJ9_max_7cf53 2 (some .int) :: qw_big) := qw_gW kco_J9_max_7cf53
theorem kw_J9_min_7cf53 : GoodIn qw_big (Cond.code yJ9_min_7cf53 cJ9_min_7cf53 2 (some .int) :: qw_big) := qw_gW kco_J9_min_7cf53
theorem kw_L_accountOf : GoodIn qw_big (Cond.codeWith yL_accountOf cL_accountOf 5 (some .int) [(0, 10, 13, 13)] :: qw_big) := qw_gW kco_L_accountOf
theorem kw_X7_accountOf : GoodIn qw_big (Cond.code yX7_accountOf cX7_accountOf 3 (some .int) :: qw_big) := qw_gW kco_X7_accountOf
theorem kw_X7_isShop : GoodIn qw_big (Cond.code yX7_isShop cX7_isShop 2 (some .boolean) :: qw_big) := qw_gW kco_X7_isShop
theorem kw_X7_isGroup : GoodIn qw_big (Cond.code yX7_isGroup cX7_isGroup 2 (some .boolean) :: qw_big) := qw_gW kco_X7_isGroup
theorem kw_X7_need : GoodIn qw_big (Cond.code yX7_need cX7_need 1 none :: qw_big) := qw_gW kco_X7_need
theorem kw_X5_entry : GoodIn qw_big (Cond.code yX5_entry cX5_entry 2 (some .int) :: qw_big) := qw_gW kco_X5_entry
theorem kw_L_basketCost : GoodIn qw_big (Cond.codeWith yL_basketCost cL_basketCost 5 (some .int) [(0, 10, 13, 13)] :: qw_big) := qw_gW kco_L_basketCost
theorem kw_X7_basketCost : GoodIn qw_big (Cond.code yX7_basketCost cX7_basketCost 6 (some .int) :: qw_big) := qw_gW kco_X7_basketCost
theorem kw_X7_isHouse : GoodIn qw_big (Cond.code yX7_isHouse cX7_isHouse 2 (some .boolean) :: qw_big) := qw_gW kco_X7_isHouse
theorem kw_X7_fillBasket : GoodIn qw_big (Cond.code yX7_fillBasket cX7_fillBasket 4 (some .int) :: qw_big) := qw_gW kco_X7_fillBasket
theorem kw_X7_isClosed : GoodIn qw_big (Cond.code yX7_isClosed cX7_isClosed 2 (some .boolean) :: qw_big) := qw_gW kco_X7_isClosed
theorem kw_X7_holding : GoodIn qw_big (Cond.code yX7_holding cX7_holding 3 (some .int) :: qw_big) := qw_gW kco_X7_holding
theorem kw_X5_purse : GoodIn qw_big (Cond.code yX5_purse cX5_purse 2 (some .int) :: qw_big) := qw_gW kco_X5_purse
theorem kw_X4_total : GoodIn qw_big (Cond.code yX4_total cX4_total 4 (some .int) :: qw_big) := qw_gW kco_X4_total
theorem kw_X0_choose : GoodIn qw_big (Cond.code yX0_choose cX0_choose 7 none :: qw_big) := qw_gW kco_X0_choose
theorem kw_X0_weigh : GoodIn qw_big (Cond.code yX0_weigh cX0_weigh 8 none :: qw_big) := qw_gW kco_X0_weigh
theorem kw_X5_shelf : GoodIn qw_big (Cond.code yX5_shelf cX5_shelf 2 (some .int) :: qw_big) := qw_gW kco_X5_shelf
theorem kw_X7_quotient : GoodIn qw_big (Cond.code yX7_quotient cX7_quotient 2 (some .int) :: qw_big) := qw_gW kco_X7_quotient
theorem kw_X0_addUnits : GoodIn qw_big (Cond.code yX0_addUnits cX0_addUnits 9 none :: qw_big) := qw_gW kco_X0_addUnits
theorem kw_X0_addLot : GoodIn qw_big (Cond.code yX0_addLot cX0_addLot 5 none :: qw_big) := qw_gW kco_X0_addLot
theorem kw_X0_cheapest : GoodIn qw_big (Cond.code yX0_cheapest cX0_cheapest 3 (some .int) :: qw_big) := qw_gW kco_X0_cheapest
theorem kw_X0_fill : GoodIn qw_big (Cond.code yX0_fill cX0_fill 8 none :: qw_big) := qw_gW kco_X0_fill
theorem kw_X0_mostWithoutLoss : GoodIn qw_big (Cond.code yX0_mostWithoutLoss cX0_mostWithoutLoss 7 (some .int) :: qw_big) := qw_gW kco_X0_mostWithoutLoss
theorem kw_L_basketLeft : GoodIn qw_big (Cond.codeWith yL_basketLeft cL_basketLeft 6 (some .int) [(0, 12, 15, 13)] :: qw_big) := qw_gW kco_L_basketLeft
theorem kw_X7_basketLeft : GoodIn qw_big (Cond.code yX7_basketLeft cX7_basketLeft 5 (some .int) :: qw_big) := qw_gW kco_X7_basketLeft
theorem kw_L_basketUnits : GoodIn qw_big (Cond.codeWith yL_basketUnits cL_basketUnits 6 (some .int) [(0, 12, 15, 13)] :: qw_big) := qw_gW kco_L_basketUnits
theorem kw_X7_basketUnits : GoodIn qw_big (Cond.code yX7_basketUnits cX7_basketUnits 5 (some .int) :: qw_big) := qw_gW kco_X7_basketUnits
theorem kw_X7_isGood : GoodIn qw_big (Cond.code yX7_isGood cX7_isGood 2 (some .boolean) :: qw_big) := qw_gW kco_X7_isGood
theorem kw_L_basketValue : GoodIn qw_big (Cond.codeWith yL_basketValue cL_basketValue 5 (some .int) [(0, 10, 13, 13)] :: qw_big) := qw_gW kco_L_basketValue
theorem kw_X7_basketValue : GoodIn qw_big (Cond.code yX7_basketValue cX7_basketValue 4 (some .int) :: qw_big) := qw_gW kco_X7_basketValue
theorem kw_L_bestHouse : GoodIn qw_big (Cond.codeWith yL_bestHouse cL_bestHouse 5 (some .int) [(0, 10, 13, 13)] :: qw_big) := qw_gW kco_L_bestHouse
theorem kw_X7_bestHouse : GoodIn qw_big (Cond.code yX7_bestHouse cX7_bestHouse 7 (some .int) :: qw_big) := qw_gW kco_X7_bestHouse
theorem kw_X7_mostToBuy : GoodIn qw_big (Cond.code yX7_mostToBuy cX7_mostToBuy 8 (some .int) :: qw_big) := qw_gW kco_X7_mostToBuy
theorem kw_L_bestShop : GoodIn qw_big (Cond.codeWith yL_bestShop cL_bestShop 4 (some .int) [(0, 9, 12, 13)] :: qw_big) := qw_gW kco_L_bestShop
theorem kw_X7_bestShop : GoodIn qw_big (Cond.code yX7_bestShop cX7_bestShop 6 (some .int) :: qw_big) := qw_gW kco_X7_bestShop
theorem kw_L_coupons : GoodIn qw_big (Cond.codeWith yL_coupons cL_coupons 5 (some .int) [(0, 10, 13, 13)] :: qw_big) := qw_gW kco_L_coupons
theorem kw_X7_coupons : GoodIn qw_big (Cond.code yX7_coupons cX7_coupons 3 (some .int) :: qw_big) := qw_gW kco_X7_coupons
theorem kw_L_couponsAfter : GoodIn qw_big (Cond.codeWith yL_couponsAfter cL_couponsAfter 6 (some .int) [(0, 12, 15, 13)] :: qw_big) := qw_gW kco_L_couponsAfter
theorem kw_X7_couponsAfter : GoodIn qw_big (Cond.code yX7_couponsAfter cX7_couponsAfter 5 (some .int) :: qw_big) := qw_gW kco_X7_couponsAfter
theorem kw_X7_startAhead : GoodIn qw_big (Cond.code yX7_startAhead cX7_startAhead 3 none :: qw_big) := qw_gW kco_X7_startAhead
theorem kw_X7_stepAhead : GoodIn qw_big (Cond.code yX7_stepAhead cX7_stepAhead 4 (some .int) :: qw_big) := qw_gW kco_X7_stepAhead
theorem kw_X4_growOlder : GoodIn qw_big (Cond.code yX4_growOlder cX4_growOlder 6 (some .int) :: qw_big) := qw_gW kco_X4_growOlder
theorem kw_X7_shareOf : GoodIn qw_big (Cond.code yX7_shareOf cX7_shareOf 3 (some .int) :: qw_big) := qw_gW kco_X7_shareOf
theorem kw_L_couponsWith : GoodIn qw_big (Cond.codeWith yL_couponsWith cL_couponsWith 6 (some .int) [(0, 12, 15, 13)] :: qw_big) := qw_gW kco_L_couponsWith
theorem kw_X7_couponsWith : GoodIn qw_big (Cond.code yX7_couponsWith cX7_couponsWith 4 (some .int) :: qw_big) := qw_gW kco_X7_couponsWith
theorem kw_L_deliveredTo : GoodIn qw_big (Cond.codeWith yL_deliveredTo cL_deliveredTo 5 (some .int) [(0, 10, 13, 13)] :: qw_big) := qw_gW kco_L_deliveredTo
theorem kw_X7_deliveredTo : GoodIn qw_big (Cond.code yX7_deliveredTo cX7_deliveredTo 3 (some .int) :: qw_big) := qw_gW kco_X7_deliveredTo
theorem kw_L_givenBy : GoodIn qw_big (Cond.codeWith yL_givenBy cL_givenBy 4 (some .int) [(0, 9, 12, 13)] :: qw_big) := qw_gW kco_L_givenBy
theorem kw_X7_givenBy : GoodIn qw_big (Cond.code yX7_givenBy cX7_givenBy 2 (some .int) :: qw_big) := qw_gW kco_X7_givenBy
theorem kw_L_goodProperty : GoodIn qw_big (Cond.codeWith yL_goodProperty cL_goodProperty 5 (some .int) [(0, 10, 13, 13)] :: qw_big) := qw_gW kco_L_goodProperty
theorem kw_X7_goodProperty : GoodIn qw_big (Cond.code yX7_goodProperty cX7_goodProperty 3 (some .int) :: qw_big) := qw_gW kco_X7_goodProperty
theorem kw_L_groupProperty : GoodIn qw_big (Cond.codeWith yL_groupProperty cL_groupProperty 5 (some .int) [(0, 10, 13, 13)] :: qw_big) := qw_gW kco_L_groupProperty
theorem kw_X7_groupProperty : GoodIn qw_big (Cond.code yX7_groupProperty cX7_groupProperty 3 (some .int) :: qw_big) := qw_gW kco_X7_groupProperty
theorem kw_L_held : GoodIn qw_big (Cond.codeWith yL_held cL_held 4 (some .int) [(0, 9, 12, 13)] :: qw_big) := qw_gW kco_L_held
theorem kw_X7_held : GoodIn qw_big (Cond.code yX7_held cX7_held 2 (some .int) :: qw_big) := qw_gW kco_X7_held
theorem kw_X7_heldByAll : GoodIn qw_big (Cond.code yX7_heldByAll cX7_heldByAll 4 (some .int) :: qw_big) := qw_gW kco_X7_heldByAll
theorem kw_L_helpers : GoodIn qw_big (Cond.codeWith yL_helpers cL_helpers 6 (some .int) [(0, 12, 15, 13)] :: qw_big) := qw_gW kco_L_helpers
theorem kw_X7_helpers : GoodIn qw_big (Cond.code yX7_helpers cX7_helpers 5 (some .int) :: qw_big) := qw_gW kco_X7_helpers
theorem kw_X7_takeRoom : GoodIn qw_big (Cond.code yX7_takeRoom cX7_takeRoom 2 (some .int) :: qw_big) := qw_gW kco_X7_takeRoom
theorem kw_X7_fewestGivers : GoodIn qw_big (Cond.code yX7_fewestGivers cX7_fewestGivers 8 (some .int) :: qw_big) := qw_gW kco_X7_fewestGivers
theorem kw_X7_bestGiver : GoodIn qw_big (Cond.code yX7_bestGiver cX7_bestGiver 6 (some .int) :: qw_big) := qw_gW kco_X7_bestGiver
theorem kw_X7_mostToGive : GoodIn qw_big (Cond.code yX7_mostToGive cX7_mostToGive 3 (some .int) :: qw_big) := qw_gW kco_X7_mostToGive
theorem kw_X7_giveRoom : GoodIn qw_big (Cond.code yX7_giveRoom cX7_giveRoom 2 (some .int) :: qw_big) := qw_gW kco_X7_giveRoom
theorem kw_L_isSuspended : GoodIn qw_big (Cond.codeWith yL_isSuspended cL_isSuspended 4 (some .int) [(0, 16, 19, 13)] :: qw_big) := qw_gW kco_L_isSuspended
theorem kw_X7_isSuspended : GoodIn qw_big (Cond.code yX7_isSuspended cX7_isSuspended 2 (some .boolean) :: qw_big) := qw_gW kco_X7_isSuspended
theorem kw_L_issued : GoodIn qw_big (Cond.codeWith yL_issued cL_issued 4 (some .int) [(0, 9, 12, 13)] :: qw_big) := qw_gW kco_L_issued
theorem kw_X7_issued : GoodIn qw_big (Cond.code yX7_issued cX7_issued 2 (some .int) :: qw_big) := qw_gW kco_X7_issued
theorem kw_L_lapseAfter : GoodIn qw_big (Cond.codeWith yL_lapseAfter cL_lapseAfter 6 (some .int) [(0, 12, 15, 13)] :: qw_big) := qw_gW kco_L_lapseAfter
theorem kw_X7_lapseAfter : GoodIn qw_big (Cond.code yX7_lapseAfter cX7_lapseAfter 6 (some .int) :: qw_big) := qw_gW kco_X7_lapseAfter
theorem kw_L_lapsed : GoodIn qw_big (Cond.codeWith yL_lapsed cL_lapsed 4 (some .int) [(0, 9, 12, 13)] :: qw_big) := qw_gW kco_L_lapsed
theorem kw_X7_lapsed : GoodIn qw_big (Cond.code yX7_lapsed cX7_lapsed 2 (some .int) :: qw_big) := qw_gW kco_X7_lapsed
theorem kw_L_lapsing : GoodIn qw_big (Cond.codeWith yL_lapsing cL_lapsing 5 (some .int) [(0, 10, 13, 13)] :: qw_big) := qw_gW kco_L_lapsing
theorem kw_X7_lapsing : GoodIn qw_big (Cond.code yX7_lapsing cX7_lapsing 3 (some .int) :: qw_big) := qw_gW kco_X7_lapsing
theorem kw_L_levelMoves : GoodIn qw_big (Cond.codeWith yL_levelMoves cL_levelMoves 5 (some .int) [(0, 10, 13, 13)] :: qw_big) := qw_gW kco_L_levelMoves
theorem kw_X7_levelMoves : GoodIn qw_big (Cond.code yX7_levelMoves cX7_levelMoves 7 (some .int) :: qw_big) := qw_gW kco_X7_levelMoves
theorem kw_L_mostDeliverable : GoodIn qw_big (Cond.codeWith yL_mostDeliverable cL_mostDeliverable 5 (some .int) [(0, 10, 13, 13)] :: qw_big) := qw_gW kco_L_mostDeliverable
theorem kw_X7_mostDeliverable : GoodIn qw_big (Cond.code yX7_mostDeliverable cX7_mostDeliverable 5 (some .int) :: qw_big) := qw_gW kco_X7_mostDeliverable
theorem kw_L_mostUnits : GoodIn qw_big (Cond.codeWith yL_mostUnits cL_mostUnits 6 (some .int) [(0, 12, 15, 13)] :: qw_big) := qw_gW kco_L_mostUnits
theorem kw_X7_mostUnits : GoodIn qw_big (Cond.code yX7_mostUnits cX7_mostUnits 4 (some .int) :: qw_big) := qw_gW kco_X7_mostUnits
theorem kw_L_neediest : GoodIn qw_big (Cond.codeWith yL_neediest cL_neediest 4 (some .int) [(0, 9, 12, 13)] :: qw_big) := qw_gW kco_L_neediest
theorem kw_X7_neediest : GoodIn qw_big (Cond.code yX7_neediest cX7_neediest 4 (some .int) :: qw_big) := qw_gW kco_X7_neediest
theorem kw_X7_isNeedier : GoodIn qw_big (Cond.code yX7_isNeedier cX7_isNeedier 4 (some .boolean) :: qw_big) := qw_gW kco_X7_isNeedier
theorem kw_L_penaltyOf : GoodIn qw_big (Cond.codeWith yL_penaltyOf cL_penaltyOf 4 (some .int) [(0, 9, 12, 13)] :: qw_big) := qw_gW kco_L_penaltyOf
theorem kw_X7_penaltyOf : GoodIn qw_big (Cond.code yX7_penaltyOf cX7_penaltyOf 2 (some .int) :: qw_big) := qw_gW kco_X7_penaltyOf
theorem kw_L_reasonFor : GoodIn qw_big (Cond.codeWith yL_reasonFor cL_reasonFor 7 (some .int) [(0, 14, 17, 13)] :: qw_big) := qw_gW kco_L_reasonFor
theorem kw_X7_reasonFor : GoodIn qw_big (Cond.code yX7_reasonFor cX7_reasonFor 5 (some .int) :: qw_big) := qw_gW kco_X7_reasonFor
theorem kw_X7_areUnits : GoodIn qw_big (Cond.code yX7_areUnits cX7_areUnits 1 (some .boolean) :: qw_big) := qw_gW kco_X7_areUnits
theorem kw_X7_reasonAgainst : GoodIn qw_big (Cond.code yX7_reasonAgainst cX7_reasonAgainst 5 (some .int) :: qw_big) := qw_gW kco_X7_reasonAgainst
theorem kw_X7_canPay : GoodIn qw_big (Cond.code yX7_canPay cX7_canPay 6 (some .boolean) :: qw_big) := qw_gW kco_X7_canPay
theorem kw_X7_fromSubstitute : GoodIn qw_big (Cond.code yX7_fromSubstitute cX7_fromSubstitute 6 (some .int) :: qw_big) := qw_gW kco_X7_fromSubstitute
theorem kw_L_served : GoodIn qw_big (Cond.codeWith yL_served cL_served 6 (some .int) [(0, 12, 15, 13)] :: qw_big) := qw_gW kco_L_served
theorem kw_X7_served : GoodIn qw_big (Cond.code yX7_served cX7_served 6 (some .int) :: qw_big) := qw_gW kco_X7_served
theorem kw_L_sizeOf : GoodIn qw_big (Cond.codeWith yL_sizeOf cL_sizeOf 4 (some .int) [(0, 9, 12, 13)] :: qw_big) := qw_gW kco_L_sizeOf
theorem kw_X7_sizeOf : GoodIn qw_big (Cond.code yX7_sizeOf cX7_sizeOf 2 (some .int) :: qw_big) := qw_gW kco_X7_sizeOf
theorem kw_L_soldBy : GoodIn qw_big (Cond.codeWith yL_soldBy cL_soldBy 5 (some .int) [(0, 10, 13, 13)] :: qw_big) := qw_gW kco_L_soldBy
theorem kw_X7_soldBy : GoodIn qw_big (Cond.code yX7_soldBy cX7_soldBy 3 (some .int) :: qw_big) := qw_gW kco_X7_soldBy
theorem kw_L_spent : GoodIn qw_big (Cond.codeWith yL_spent cL_spent 4 (some .int) [(0, 9, 12, 13)] :: qw_big) := qw_gW kco_L_spent
theorem kw_X7_spent : GoodIn qw_big (Cond.code yX7_spent cX7_spent 2 (some .int) :: qw_big) := qw_gW kco_X7_spent
theorem kw_L_spreadOf : GoodIn qw_big (Cond.codeWith yL_spreadOf cL_spreadOf 4 (some .int) [(0, 9, 12, 13)] :: qw_big) := qw_gW kco_L_spreadOf
theorem kw_X7_spreadOf : GoodIn qw_big (Cond.code yX7_spreadOf cX7_spreadOf 6 (some .int) :: qw_big) := qw_gW kco_X7_spreadOf
theorem kw_X7_percentEach : GoodIn qw_big (Cond.code yX7_percentEach cX7_percentEach 3 (some .int) :: qw_big) := qw_gW kco_X7_percentEach
theorem kw_L_stockOf : GoodIn qw_big (Cond.codeWith yL_stockOf cL_stockOf 5 (some .int) [(0, 10, 13, 13)] :: qw_big) := qw_gW kco_L_stockOf
theorem kw_X7_stockOf : GoodIn qw_big (Cond.code yX7_stockOf cX7_stockOf 3 (some .int) :: qw_big) := qw_gW kco_X7_stockOf
theorem kw_L_substituted : GoodIn qw_big (Cond.codeWith yL_substituted cL_substituted 6 (some .int) [(0, 12, 15, 13)] :: qw_big) := qw_gW kco_L_substituted
theorem kw_X7_substituted : GoodIn qw_big (Cond.code yX7_substituted cX7_substituted 4 (some .int) :: qw_big) := qw_gW kco_X7_substituted
theorem kw_L_supplyPeriods : GoodIn qw_big (Cond.codeWith yL_supplyPeriods cL_supplyPeriods 6 (some .int) [(0, 12, 15, 13)] :: qw_big) := qw_gW kco_L_supplyPeriods
theorem kw_X7_supplyPeriods : GoodIn qw_big (Cond.code yX7_supplyPeriods cX7_supplyPeriods 7 (some .int) :: qw_big) := qw_gW kco_X7_supplyPeriods
theorem kw_X4_spend : GoodIn qw_big (Cond.code yX4_spend cX4_spend 6 none :: qw_big) := qw_gW kco_X4_spend
theorem kw_L_swapChain : GoodIn qw_big (Cond.codeWith yL_swapChain cL_swapChain 4 (some .int) [(0, 9, 12, 13)] :: qw_big) := qw_gW kco_L_swapChain
theorem kw_X7_swapChain : GoodIn qw_big (Cond.code yX7_swapChain cX7_swapChain 5 (some .int) :: qw_big) := qw_gW kco_X7_swapChain
theorem kw_L_takenBy : GoodIn qw_big (Cond.codeWith yL_takenBy cL_takenBy 4 (some .int) [(0, 9, 12, 13)] :: qw_big) := qw_gW kco_L_takenBy
theorem kw_X7_takenBy : GoodIn qw_big (Cond.code yX7_takenBy cX7_takenBy 2 (some .int) :: qw_big) := qw_gW kco_X7_takenBy
theorem kw_L_tradeRoom : GoodIn qw_big (Cond.codeWith yL_tradeRoom cL_tradeRoom 6 (some .int) [(0, 12, 15, 13)] :: qw_big) := qw_gW kco_L_tradeRoom
theorem kw_X7_tradeRoom : GoodIn qw_big (Cond.code yX7_tradeRoom cX7_tradeRoom 4 (some .int) :: qw_big) := qw_gW kco_X7_tradeRoom
theorem kw_L_turnover : GoodIn qw_big (Cond.codeWith yL_turnover cL_turnover 4 (some .int) [(0, 9, 12, 13)] :: qw_big) := qw_gW kco_L_turnover
theorem kw_X7_turnover : GoodIn qw_big (Cond.code yX7_turnover cX7_turnover 4 (some .int) :: qw_big) := qw_gW kco_X7_turnover
theorem kw_L_waitFor : GoodIn qw_big (Cond.codeWith yL_waitFor cL_waitFor 6 (some .int) [(0, 12, 15, 13)] :: qw_big) := qw_gW kco_L_waitFor
theorem kw_X7_waitFor : GoodIn qw_big (Cond.code yX7_waitFor cX7_waitFor 7 (some .int) :: qw_big) := qw_gW kco_X7_waitFor
theorem kw_X0_init : GoodIn qw_big (Cond.code yX0_init cX0_init 1 none :: qw_big) := qw_gW kco_X0_init
theorem kw_X1_bringBack : GoodIn qw_big (Cond.code yX1_bringBack cX1_bringBack 2 none :: qw_big) := qw_gW kco_X1_bringBack
theorem kw_X5_become : GoodIn qw_big (Cond.code yX5_become cX5_become 2 none :: qw_big) := qw_gW kco_X5_become
theorem kw_X5_copy : GoodIn qw_big (Cond.code yX5_copy cX5_copy 2 none :: qw_big) := qw_gW kco_X5_copy
theorem kw_X1_forget : GoodIn qw_big (Cond.code yX1_forget cX1_forget 1 none :: qw_big) := qw_gW kco_X1_forget
theorem kw_X1_init : GoodIn qw_big (Cond.code yX1_init cX1_init 2 none :: qw_big) := qw_gW kco_X1_init
theorem kw_X5_init : GoodIn qw_big (Cond.code yX5_init cX5_init 1 none :: qw_big) := qw_gW kco_X5_init
theorem kw_X1_keep : GoodIn qw_big (Cond.code yX1_keep cX1_keep 2 none :: qw_big) := qw_gW kco_X1_keep
theorem kw_X2_fail : GoodIn qw_big (Cond.code yX2_fail cX2_fail 2 none :: qw_big) := qw_gW kco_X2_fail
theorem kw_X2_init : GoodIn qw_big (Cond.code yX2_init cX2_init 1 none :: qw_big) := qw_gW kco_X2_init
theorem kw_X6_init : GoodIn qw_big (Cond.code yX6_init cX6_init 1 none :: qw_big) := qw_gW kco_X6_init
theorem kw_X3_init : GoodIn qw_big (Cond.code yX3_init cX3_init 1 none :: qw_big) := qw_gW kco_X3_init
theorem kw_X2_passUnless : GoodIn qw_big (Cond.code yX2_passUnless cX2_passUnless 2 none :: qw_big) := qw_gW kco_X2_passUnless
theorem kw_X6_advance : GoodIn qw_big (Cond.code yX6_advance cX6_advance 3 none :: qw_big) := qw_gW kco_X6_advance
theorem kw_X6_kindAt : GoodIn qw_big (Cond.code yX6_kindAt cX6_kindAt 3 (some .int) :: qw_big) := qw_gW kco_X6_kindAt
theorem kw_X2_read : GoodIn qw_big (Cond.code yX2_read cX2_read 4 (some .int) :: qw_big) := qw_gW kco_X2_read
theorem kw_X3_clear : GoodIn qw_big (Cond.code yX3_clear cX3_clear 1 none :: qw_big) := qw_gW kco_X3_clear
theorem kw_X5_clear : GoodIn qw_big (Cond.code yX5_clear cX5_clear 1 none :: qw_big) := qw_gW kco_X5_clear
theorem kw_X6_open : GoodIn qw_big (Cond.code yX6_open cX6_open 3 none :: qw_big) := qw_gW kco_X6_open
theorem kw_X2_readStatement : GoodIn qw_big (Cond.code yX2_readStatement cX2_readStatement 1 none :: qw_big) := qw_gW kco_X2_readStatement
theorem kw_X6_isWord : GoodIn qw_big (Cond.code yX6_isWord cX6_isWord 3 (some .boolean) :: qw_big) := qw_gW kco_X6_isWord
theorem kw_X2_readGroup : GoodIn qw_big (Cond.code yX2_readGroup cX2_readGroup 2 none :: qw_big) := qw_gW kco_X2_readGroup
theorem kw_X2_readNewName : GoodIn qw_big (Cond.code yX2_readNewName cX2_readNewName 2 (some .int) :: qw_big) := qw_gW kco_X2_readNewName
theorem kw_X6_isName : GoodIn qw_big (Cond.code yX6_isName cX6_isName 1 (some .boolean) :: qw_big) := qw_gW kco_X6_isName
theorem kw_X6_letters : GoodIn qw_big (Cond.code yX6_letters cX6_letters 3 (some .int) :: qw_big) := qw_gW kco_X6_letters
theorem kw_X3_isDeclared : GoodIn qw_big (Cond.code yX3_isDeclared cX3_isDeclared 2 (some .boolean) :: qw_big) := qw_gW kco_X3_isDeclared
theorem kw_X3_find : GoodIn qw_big (Cond.code yX3_find cX3_find 4 (some .int) :: qw_big) := qw_gW kco_X3_find
theorem kw_X2_readInteger : GoodIn qw_big (Cond.code yX2_readInteger cX2_readInteger 4 (some .int) :: qw_big) := qw_gW kco_X2_readInteger
theorem kw_X6_integer : GoodIn qw_big (Cond.code yX6_integer cX6_integer 3 (some .int) :: qw_big) := qw_gW kco_X6_integer
theorem kw_X2_readSwap : GoodIn qw_big (Cond.code yX2_readSwap cX2_readSwap 3 none :: qw_big) := qw_gW kco_X2_readSwap
theorem kw_X2_seeName : GoodIn qw_big (Cond.code yX2_seeName cX2_seeName 4 (some .int) :: qw_big) := qw_gW kco_X2_seeName
theorem kw_X2_readGood : GoodIn qw_big (Cond.code yX2_readGood cX2_readGood 2 none :: qw_big) := qw_gW kco_X2_readGood
theorem kw_X2_readHouse : GoodIn qw_big (Cond.code yX2_readHouse cX2_readHouse 2 none :: qw_big) := qw_gW kco_X2_readHouse
theorem kw_X2_readShop : GoodIn qw_big (Cond.code yX2_readShop cX2_readShop 5 none :: qw_big) := qw_gW kco_X2_readShop
theorem kw_X2_readSetting : GoodIn qw_big (Cond.code yX2_readSetting cX2_readSetting 2 none :: qw_big) := qw_gW kco_X2_readSetting
theorem kw_X6_settingWord : GoodIn qw_big (Cond.code yX6_settingWord cX6_settingWord 1 (some .int) :: qw_big) := qw_gW kco_X6_settingWord
theorem kw_X2_readSemicolon : GoodIn qw_big (Cond.code yX2_readSemicolon cX2_readSemicolon 1 none :: qw_big) := qw_gW kco_X2_readSemicolon
theorem kw_X4_move : GoodIn qw_big (Cond.code yX4_move cX4_move 7 none :: qw_big) := qw_gW kco_X4_move
theorem kw_X7_append : GoodIn qw_big (Cond.code yX7_append cX7_append 3 none :: qw_big) := qw_gW kco_X7_append
theorem kw_X7_audit : GoodIn qw_big (Cond.code yX7_audit cX7_audit 5 (some .int) :: qw_big) := qw_gW kco_X7_audit
theorem kw_X7_buy : GoodIn qw_big (Cond.code yX7_buy cX7_buy 7 (some .int) :: qw_big) := qw_gW kco_X7_buy
theorem kw_X7_pay : GoodIn qw_big (Cond.code yX7_pay cX7_pay 7 none :: qw_big) := qw_gW kco_X7_pay
theorem kw_X7_spend : GoodIn qw_big (Cond.code yX7_spend cX7_spend 4 none :: qw_big) := qw_gW kco_X7_spend
theorem kw_X7_deliver : GoodIn qw_big (Cond.code yX7_deliver cX7_deliver 7 (some .int) :: qw_big) := qw_gW kco_X7_deliver
theorem kw_X7_endPeriodOf : GoodIn qw_big (Cond.code yX7_endPeriodOf cX7_endPeriodOf 4 (some .int) :: qw_big) := qw_gW kco_X7_endPeriodOf
theorem kw_X7_errorPosition : GoodIn qw_big (Cond.code yX7_errorPosition cX7_errorPosition 1 (some .int) :: qw_big) := qw_gW kco_X7_errorPosition
theorem kw_X7_exchangeWithLoader : GoodIn qw_big (Cond.code yX7_exchangeWithLoader cX7_exchangeWithLoader 3 none :: qw_big) := qw_gW kco_X7_exchangeWithLoader
theorem kw_X7_feed : GoodIn qw_big (Cond.code yX7_feed cX7_feed 6 (some .int) :: qw_big) := qw_gW kco_X7_feed
theorem kw_X7_getSetting : GoodIn qw_big (Cond.code yX7_getSetting cX7_getSetting 2 (some .int) :: qw_big) := qw_gW kco_X7_getSetting
theorem kw_X7_isSetting : GoodIn qw_big (Cond.code yX7_isSetting cX7_isSetting 1 (some .boolean) :: qw_big) := qw_gW kco_X7_isSetting
theorem kw_X7_goodCount : GoodIn qw_big (Cond.code yX7_goodCount cX7_goodCount 1 (some .int) :: qw_big) := qw_gW kco_X7_goodCount
theorem kw_X7_goodNamed : GoodIn qw_big (Cond.code yX7_goodNamed cX7_goodNamed 2 (some .int) :: qw_big) := qw_gW kco_X7_goodNamed
theorem kw_X7_groupCount : GoodIn qw_big (Cond.code yX7_groupCount cX7_groupCount 1 (some .int) :: qw_big) := qw_gW kco_X7_groupCount
theorem kw_X7_groupNamed : GoodIn qw_big (Cond.code yX7_groupNamed cX7_groupNamed 2 (some .int) :: qw_big) := qw_gW kco_X7_groupNamed
theorem kw_X7_houseCount : GoodIn qw_big (Cond.code yX7_houseCount cX7_houseCount 1 (some .int) :: qw_big) := qw_gW kco_X7_houseCount
theorem kw_X7_houseNamed : GoodIn qw_big (Cond.code yX7_houseNamed cX7_houseNamed 2 (some .int) :: qw_big) := qw_gW kco_X7_houseNamed
theorem kw_X7_init : GoodIn qw_big (Cond.code yX7_init cX7_init 1 none :: qw_big) := qw_gW kco_X7_init
theorem kw_X7_issueToAll : GoodIn qw_big (Cond.code yX7_issueToAll cX7_issueToAll 4 none :: qw_big) := qw_gW kco_X7_issueToAll
theorem kw_X7_load : GoodIn qw_big (Cond.code yX7_load cX7_load 3 (some .int) :: qw_big) := qw_gW kco_X7_load
theorem kw_X7_nextPeriod : GoodIn qw_big (Cond.code yX7_nextPeriod cX7_nextPeriod 3 (some .int) :: qw_big) := qw_gW kco_X7_nextPeriod
theorem kw_X7_pardon : GoodIn qw_big (Cond.code yX7_pardon cX7_pardon 3 (some .int) :: qw_big) := qw_gW kco_X7_pardon
theorem kw_X7_period : GoodIn qw_big (Cond.code yX7_period cX7_period 1 (some .int) :: qw_big) := qw_gW kco_X7_period
theorem kw_X7_setRation : GoodIn qw_big (Cond.code yX7_setRation cX7_setRation 4 (some .int) :: qw_big) := qw_gW kco_X7_setRation
theorem kw_X7_setSetting : GoodIn qw_big (Cond.code yX7_setSetting cX7_setSetting 4 (some .int) :: qw_big) := qw_gW kco_X7_setSetting
theorem kw_X7_setSize : GoodIn qw_big (Cond.code yX7_setSize cX7_setSize 4 (some .int) :: qw_big) := qw_gW kco_X7_setSize
theorem kw_X7_shopCount : GoodIn qw_big (Cond.code yX7_shopCount cX7_shopCount 1 (some .int) :: qw_big) := qw_gW kco_X7_shopCount
theorem kw_X7_shopNamed : GoodIn qw_big (Cond.code yX7_shopNamed cX7_shopNamed 2 (some .int) :: qw_big) := qw_gW kco_X7_shopNamed
theorem kw_X7_trade : GoodIn qw_big (Cond.code yX7_trade cX7_trade 5 (some .int) :: qw_big) := qw_gW kco_X7_trade
theorem kw_X7_undo : GoodIn qw_big (Cond.code yX7_undo cX7_undo 1 (some .int) :: qw_big) := qw_gW kco_X7_undo
theorem kw_X7_undoCount : GoodIn qw_big (Cond.code yX7_undoCount cX7_undoCount 1 (some .int) :: qw_big) := qw_gW kco_X7_undoCount
theorem kw_X8_accountOf : GoodIn qw_big (Cond.code yX8_accountOf cX8_accountOf 3 (some .int) :: qw_big) := qw_gW kco_X8_accountOf
theorem kw_X8_isShop : GoodIn qw_big (Cond.code yX8_isShop cX8_isShop 2 (some .boolean) :: qw_big) := qw_gW kco_X8_isShop
theorem kw_X8_inRange : GoodIn qw_big (Cond.code yX8_inRange cX8_inRange 3 (some .boolean) :: qw_big) := qw_gW kco_X8_inRange
theorem kw_X8_isGroup : GoodIn qw_big (Cond.code yX8_isGroup cX8_isGroup 2 (some .boolean) :: qw_big) := qw_gW kco_X8_isGroup
theorem kw_X8_fails : GoodIn qw_big (Cond.code yX8_fails cX8_fails 2 (some .boolean) :: qw_big) := qw_gW kco_X8_fails
theorem kw_X8_advance : GoodIn qw_big (Cond.code yX8_advance cX8_advance 2 none :: qw_big) := qw_gW kco_X8_advance
theorem kw_X8_peek : GoodIn qw_big (Cond.code yX8_peek cX8_peek 1 (some .int) :: qw_big) := qw_gW kco_X8_peek
theorem kw_X8_advanceIfGood : GoodIn qw_big (Cond.code yX8_advanceIfGood cX8_advanceIfGood 1 none :: qw_big) := qw_gW kco_X8_advanceIfGood
theorem kw_X8_append : GoodIn qw_big (Cond.code yX8_append cX8_append 3 none :: qw_big) := qw_gW kco_X8_append
theorem kw_X8_at : GoodIn qw_big (Cond.code yX8_at cX8_at 2 (some .int) :: qw_big) := qw_gW kco_X8_at
theorem kw_X8_audit : GoodIn qw_big (Cond.code yX8_audit cX8_audit 5 (some .int) :: qw_big) := qw_gW kco_X8_audit
theorem kw_X8_isGood : GoodIn qw_big (Cond.code yX8_isGood cX8_isGood 2 (some .boolean) :: qw_big) := qw_gW kco_X8_isGood
theorem kw_X8_remember : GoodIn qw_big (Cond.code yX8_remember cX8_remember 2 none :: qw_big) := qw_gW kco_X8_remember
theorem kw_X8_basketCost : GoodIn qw_big (Cond.code yX8_basketCost cX8_basketCost 4 (some .int) :: qw_big) := qw_gW kco_X8_basketCost
theorem kw_X8_isHouse : GoodIn qw_big (Cond.code yX8_isHouse cX8_isHouse 2 (some .boolean) :: qw_big) := qw_gW kco_X8_isHouse
theorem kw_X8_layBasket : GoodIn qw_big (Cond.code yX8_layBasket cX8_layBasket 4 (some .int) :: qw_big) := qw_gW kco_X8_layBasket
theorem kw_X8_isSuspendedNow : GoodIn qw_big (Cond.code yX8_isSuspendedNow cX8_isSuspendedNow 2 (some .boolean) :: qw_big) := qw_gW kco_X8_isSuspendedNow
theorem kw_X8_isTooLarge : GoodIn qw_big (Cond.code yX8_isTooLarge cX8_isTooLarge 3 (some .boolean) :: qw_big) := qw_gW kco_X8_isTooLarge
theorem kw_X8_couponsOf : GoodIn qw_big (Cond.code yX8_couponsOf cX8_couponsOf 5 (some .int) :: qw_big) := qw_gW kco_X8_couponsOf
theorem kw_X8_fillBasket : GoodIn qw_big (Cond.code yX8_fillBasket cX8_fillBasket 7 none :: qw_big) := qw_gW kco_X8_fillBasket
theorem kw_X8_layWorth : GoodIn qw_big (Cond.code yX8_layWorth cX8_layWorth 9 none :: qw_big) := qw_gW kco_X8_layWorth
theorem kw_X8_mostIn : GoodIn qw_big (Cond.code yX8_mostIn cX8_mostIn 4 (some .int) :: qw_big) := qw_gW kco_X8_mostIn
theorem kw_X8_lesser : GoodIn qw_big (Cond.code yX8_lesser cX8_lesser 2 (some .int) :: qw_big) := qw_gW kco_X8_lesser
theorem kw_X8_worthWith : GoodIn qw_big (Cond.code yX8_worthWith cX8_worthWith 4 (some .int) :: qw_big) := qw_gW kco_X8_worthWith
theorem kw_X8_costOfBasket : GoodIn qw_big (Cond.code yX8_costOfBasket cX8_costOfBasket 4 (some .int) :: qw_big) := qw_gW kco_X8_costOfBasket
theorem kw_X8_basketLeft : GoodIn qw_big (Cond.code yX8_basketLeft cX8_basketLeft 5 (some .int) :: qw_big) := qw_gW kco_X8_basketLeft
theorem kw_X8_basketUnits : GoodIn qw_big (Cond.code yX8_basketUnits cX8_basketUnits 5 (some .int) :: qw_big) := qw_gW kco_X8_basketUnits
theorem kw_X8_basketValue : GoodIn qw_big (Cond.code yX8_basketValue cX8_basketValue 6 (some .int) :: qw_big) := qw_gW kco_X8_basketValue
theorem kw_X8_begin : GoodIn qw_big (Cond.code yX8_begin cX8_begin 3 (some .int) :: qw_big) := qw_gW kco_X8_begin
theorem kw_X8_check : GoodIn qw_big (Cond.code yX8_check cX8_check 3 none :: qw_big) := qw_gW kco_X8_check
theorem kw_X8_readNewName : GoodIn qw_big (Cond.code yX8_readNewName cX8_readNewName 3 (some .int) :: qw_big) := qw_gW kco_X8_readNewName
theorem kw_X8_lettersHere : GoodIn qw_big (Cond.code yX8_lettersHere cX8_lettersHere 3 (some .int) :: qw_big) := qw_gW kco_X8_lettersHere
theorem kw_X8_isKeyword : GoodIn qw_big (Cond.code yX8_isKeyword cX8_isKeyword 1 (some .boolean) :: qw_big) := qw_gW kco_X8_isKeyword
theorem kw_X8_indexOf : GoodIn qw_big (Cond.code yX8_indexOf cX8_indexOf 4 (some .int) :: qw_big) := qw_gW kco_X8_indexOf
theorem kw_X8_bestHouse : GoodIn qw_big (Cond.code yX8_bestHouse cX8_bestHouse 6 (some .int) :: qw_big) := qw_gW kco_X8_bestHouse
theorem kw_X8_mostNow : GoodIn qw_big (Cond.code yX8_mostNow cX8_mostNow 7 (some .int) :: qw_big) := qw_gW kco_X8_mostNow
theorem kw_X8_reason : GoodIn qw_big (Cond.code yX8_reason cX8_reason 5 (some .int) :: qw_big) := qw_gW kco_X8_reason
theorem kw_X8_replaced : GoodIn qw_big (Cond.code yX8_replaced cX8_replaced 7 (some .int) :: qw_big) := qw_gW kco_X8_replaced
theorem kw_X8_bestShop : GoodIn qw_big (Cond.code yX8_bestShop cX8_bestShop 5 (some .int) :: qw_big) := qw_gW kco_X8_bestShop
theorem kw_X8_buy : GoodIn qw_big (Cond.code yX8_buy cX8_buy 10 (some .int) :: qw_big) := qw_gW kco_X8_buy
theorem kw_X8_isUnits : GoodIn qw_big (Cond.code yX8_isUnits cX8_isUnits 1 (some .boolean) :: qw_big) := qw_gW kco_X8_isUnits
theorem kw_X8_takeCoupons : GoodIn qw_big (Cond.code yX8_takeCoupons cX8_takeCoupons 8 none :: qw_big) := qw_gW kco_X8_takeCoupons
theorem kw_X8_canGive : GoodIn qw_big (Cond.code yX8_canGive cX8_canGive 3 (some .int) :: qw_big) := qw_gW kco_X8_canGive
theorem kw_X8_room : GoodIn qw_big (Cond.code yX8_room cX8_room 3 (some .int) :: qw_big) := qw_gW kco_X8_room
theorem kw_X8_canTake : GoodIn qw_big (Cond.code yX8_canTake cX8_canTake 2 (some .int) :: qw_big) := qw_gW kco_X8_canTake
theorem kw_X8_carriedOf : GoodIn qw_big (Cond.code yX8_carriedOf cX8_carriedOf 3 (some .int) :: qw_big) := qw_gW kco_X8_carriedOf
theorem kw_X8_change : GoodIn qw_big (Cond.code yX8_change cX8_change 4 (some .int) :: qw_big) := qw_gW kco_X8_change
theorem kw_X8_clear : GoodIn qw_big (Cond.code yX8_clear cX8_clear 2 none :: qw_big) := qw_gW kco_X8_clear
theorem kw_X8_countOf : GoodIn qw_big (Cond.code yX8_countOf cX8_countOf 2 (some .int) :: qw_big) := qw_gW kco_X8_countOf
theorem kw_X8_coupons : GoodIn qw_big (Cond.code yX8_coupons cX8_coupons 3 (some .int) :: qw_big) := qw_gW kco_X8_coupons
theorem kw_X8_couponsAfter : GoodIn qw_big (Cond.code yX8_couponsAfter cX8_couponsAfter 5 (some .int) :: qw_big) := qw_gW kco_X8_couponsAfter
theorem kw_X8_layLater : GoodIn qw_big (Cond.code yX8_layLater cX8_layLater 4 none :: qw_big) := qw_gW kco_X8_layLater
theorem kw_X8_passLater : GoodIn qw_big (Cond.code yX8_passLater cX8_passLater 4 none :: qw_big) := qw_gW kco_X8_passLater
theorem kw_X8_issueOf : GoodIn qw_big (Cond.code yX8_issueOf cX8_issueOf 3 (some .int) :: qw_big) := qw_gW kco_X8_issueOf
theorem kw_X8_sumLater : GoodIn qw_big (Cond.code yX8_sumLater cX8_sumLater 3 (some .int) :: qw_big) := qw_gW kco_X8_sumLater
theorem kw_X8_couponsWith : GoodIn qw_big (Cond.code yX8_couponsWith cX8_couponsWith 4 (some .int) :: qw_big) := qw_gW kco_X8_couponsWith
theorem kw_X8_declare : GoodIn qw_big (Cond.code yX8_declare cX8_declare 3 none :: qw_big) := qw_gW kco_X8_declare
theorem kw_X8_deliver : GoodIn qw_big (Cond.code yX8_deliver cX8_deliver 5 (some .int) :: qw_big) := qw_gW kco_X8_deliver
theorem kw_X8_deliveredTo : GoodIn qw_big (Cond.code yX8_deliveredTo cX8_deliveredTo 3 (some .int) :: qw_big) := qw_gW kco_X8_deliveredTo
theorem kw_X8_errorPosition : GoodIn qw_big (Cond.code yX8_errorPosition cX8_errorPosition 1 (some .int) :: qw_big) := qw_gW kco_X8_errorPosition
theorem kw_X8_feed : GoodIn qw_big (Cond.code yX8_feed cX8_feed 6 (some .int) :: qw_big) := qw_gW kco_X8_feed
theorem kw_X8_find : GoodIn qw_big (Cond.code yX8_find cX8_find 3 (some .int) :: qw_big) := qw_gW kco_X8_find
theorem kw_X8_getSetting : GoodIn qw_big (Cond.code yX8_getSetting cX8_getSetting 2 (some .int) :: qw_big) := qw_gW kco_X8_getSetting
theorem kw_X8_givenBy : GoodIn qw_big (Cond.code yX8_givenBy cX8_givenBy 2 (some .int) :: qw_big) := qw_gW kco_X8_givenBy
theorem kw_X8_goodCount : GoodIn qw_big (Cond.code yX8_goodCount cX8_goodCount 1 (some .int) :: qw_big) := qw_gW kco_X8_goodCount
theorem kw_X8_goodNamed : GoodIn qw_big (Cond.code yX8_goodNamed cX8_goodNamed 2 (some .int) :: qw_big) := qw_gW kco_X8_goodNamed
theorem kw_X8_goodProperty : GoodIn qw_big (Cond.code yX8_goodProperty cX8_goodProperty 3 (some .int) :: qw_big) := qw_gW kco_X8_goodProperty
theorem kw_X8_groupCount : GoodIn qw_big (Cond.code yX8_groupCount cX8_groupCount 1 (some .int) :: qw_big) := qw_gW kco_X8_groupCount
theorem kw_X8_groupNamed : GoodIn qw_big (Cond.code yX8_groupNamed cX8_groupNamed 2 (some .int) :: qw_big) := qw_gW kco_X8_groupNamed
theorem kw_X8_groupProperty : GoodIn qw_big (Cond.code yX8_groupProperty cX8_groupProperty 3 (some .int) :: qw_big) := qw_gW kco_X8_groupProperty
theorem kw_X8_held : GoodIn qw_big (Cond.code yX8_held cX8_held 4 (some .int) :: qw_big) := qw_gW kco_X8_held
theorem kw_X8_helpers : GoodIn qw_big (Cond.code yX8_helpers cX8_helpers 9 (some .int) :: qw_big) := qw_gW kco_X8_helpers
theorem kw_X8_houseCount : GoodIn qw_big (Cond.code yX8_houseCount cX8_houseCount 1 (some .int) :: qw_big) := qw_gW kco_X8_houseCount
theorem kw_X8_houseNamed : GoodIn qw_big (Cond.code yX8_houseNamed cX8_houseNamed 2 (some .int) :: qw_big) := qw_gW kco_X8_houseNamed
theorem kw_X8_init : GoodIn qw_big (Cond.code yX8_init cX8_init 1 none :: qw_big) := qw_gW kco_X8_init
theorem kw_X8_reset : GoodIn qw_big (Cond.code yX8_reset cX8_reset 2 none :: qw_big) := qw_gW kco_X8_reset
theorem kw_X8_isSuspended : GoodIn qw_big (Cond.code yX8_isSuspended cX8_isSuspended 2 (some .boolean) :: qw_big) := qw_gW kco_X8_isSuspended
theorem kw_X8_isWord : GoodIn qw_big (Cond.code yX8_isWord cX8_isWord 3 (some .boolean) :: qw_big) := qw_gW kco_X8_isWord
theorem kw_X8_issue : GoodIn qw_big (Cond.code yX8_issue cX8_issue 3 none :: qw_big) := qw_gW kco_X8_issue
theorem kw_X8_issued : GoodIn qw_big (Cond.code yX8_issued cX8_issued 2 (some .int) :: qw_big) := qw_gW kco_X8_issued
theorem kw_X8_total : GoodIn qw_big (Cond.code yX8_total cX8_total 3 (some .int) :: qw_big) := qw_gW kco_X8_total
theorem kw_X8_lapseAfter : GoodIn qw_big (Cond.code yX8_lapseAfter cX8_lapseAfter 6 (some .int) :: qw_big) := qw_gW kco_X8_lapseAfter
theorem kw_X8_lapseLater : GoodIn qw_big (Cond.code yX8_lapseLater cX8_lapseLater 2 (some .int) :: qw_big) := qw_gW kco_X8_lapseLater
theorem kw_X8_lapsed : GoodIn qw_big (Cond.code yX8_lapsed cX8_lapsed 2 (some .int) :: qw_big) := qw_gW kco_X8_lapsed
theorem kw_X8_lapsing : GoodIn qw_big (Cond.code yX8_lapsing cX8_lapsing 4 (some .int) :: qw_big) := qw_gW kco_X8_lapsing
theorem kw_X8_levelMoves : GoodIn qw_big (Cond.code yX8_levelMoves cX8_levelMoves 7 (some .int) :: qw_big) := qw_gW kco_X8_levelMoves
theorem kw_X8_load : GoodIn qw_big (Cond.code yX8_load cX8_load 3 (some .int) :: qw_big) := qw_gW kco_X8_load
theorem kw_X8_parseStatement : GoodIn qw_big (Cond.code yX8_parseStatement cX8_parseStatement 1 none :: qw_big) := qw_gW kco_X8_parseStatement
theorem kw_X8_parseGroup : GoodIn qw_big (Cond.code yX8_parseGroup cX8_parseGroup 6 none :: qw_big) := qw_gW kco_X8_parseGroup
theorem kw_X8_readInteger : GoodIn qw_big (Cond.code yX8_readInteger cX8_readInteger 4 (some .int) :: qw_big) := qw_gW kco_X8_readInteger
theorem kw_X8_parseSwap : GoodIn qw_big (Cond.code yX8_parseSwap cX8_parseSwap 4 none :: qw_big) := qw_gW kco_X8_parseSwap
theorem kw_X8_readOldName : GoodIn qw_big (Cond.code yX8_readOldName cX8_readOldName 3 (some .int) :: qw_big) := qw_gW kco_X8_readOldName
theorem kw_X8_parseGood : GoodIn qw_big (Cond.code yX8_parseGood cX8_parseGood 6 none :: qw_big) := qw_gW kco_X8_parseGood
theorem kw_X8_parseHouse : GoodIn qw_big (Cond.code yX8_parseHouse cX8_parseHouse 4 none :: qw_big) := qw_gW kco_X8_parseHouse
theorem kw_X8_parseShop : GoodIn qw_big (Cond.code yX8_parseShop cX8_parseShop 6 none :: qw_big) := qw_gW kco_X8_parseShop
theorem kw_X8_parseSetting : GoodIn qw_big (Cond.code yX8_parseSetting cX8_parseSetting 2 none :: qw_big) := qw_gW kco_X8_parseSetting
theorem kw_X8_settingHere : GoodIn qw_big (Cond.code yX8_settingHere cX8_settingHere 1 (some .int) :: qw_big) := qw_gW kco_X8_settingHere
theorem kw_X8_mostOf : GoodIn qw_big (Cond.code yX8_mostOf cX8_mostOf 1 (some .int) :: qw_big) := qw_gW kco_X8_mostOf
theorem kw_X8_mostDeliverable : GoodIn qw_big (Cond.code yX8_mostDeliverable cX8_mostDeliverable 4 (some .int) :: qw_big) := qw_gW kco_X8_mostDeliverable
theorem kw_X8_mostUnits : GoodIn qw_big (Cond.code yX8_mostUnits cX8_mostUnits 4 (some .int) :: qw_big) := qw_gW kco_X8_mostUnits
theorem kw_X8_neediest : GoodIn qw_big (Cond.code yX8_neediest cX8_neediest 4 (some .int) :: qw_big) := qw_gW kco_X8_neediest
theorem kw_X8_nextPeriod : GoodIn qw_big (Cond.code yX8_nextPeriod cX8_nextPeriod 7 (some .int) :: qw_big) := qw_gW kco_X8_nextPeriod
theorem kw_X8_pardon : GoodIn qw_big (Cond.code yX8_pardon cX8_pardon 2 (some .int) :: qw_big) := qw_gW kco_X8_pardon
theorem kw_X8_penaltyOf : GoodIn qw_big (Cond.code yX8_penaltyOf cX8_penaltyOf 2 (some .int) :: qw_big) := qw_gW kco_X8_penaltyOf
theorem kw_X8_period : GoodIn qw_big (Cond.code yX8_period cX8_period 1 (some .int) :: qw_big) := qw_gW kco_X8_period
theorem kw_X8_reasonFor : GoodIn qw_big (Cond.code yX8_reasonFor cX8_reasonFor 5 (some .int) :: qw_big) := qw_gW kco_X8_reasonFor
theorem kw_X8_served : GoodIn qw_big (Cond.code yX8_served cX8_served 7 (some .int) :: qw_big) := qw_gW kco_X8_served
theorem kw_X8_setRation : GoodIn qw_big (Cond.code yX8_setRation cX8_setRation 3 (some .int) :: qw_big) := qw_gW kco_X8_setRation
theorem kw_X8_setSetting : GoodIn qw_big (Cond.code yX8_setSetting cX8_setSetting 3 (some .int) :: qw_big) := qw_gW kco_X8_setSetting
theorem kw_X8_setSize : GoodIn qw_big (Cond.code yX8_setSize cX8_setSize 3 (some .int) :: qw_big) := qw_gW kco_X8_setSize
theorem kw_X8_shopCount : GoodIn qw_big (Cond.code yX8_shopCount cX8_shopCount 1 (some .int) :: qw_big) := qw_gW kco_X8_shopCount
theorem kw_X8_shopNamed : GoodIn qw_big (Cond.code yX8_shopNamed cX8_shopNamed 2 (some .int) :: qw_big) := qw_gW kco_X8_shopNamed
theorem kw_X8_sizeOf : GoodIn qw_big (Cond.code yX8_sizeOf cX8_sizeOf 2 (some .int) :: qw_big) := qw_gW kco_X8_sizeOf
theorem kw_X8_soldBy : GoodIn qw_big (Cond.code yX8_soldBy cX8_soldBy 3 (some .int) :: qw_big) := qw_gW kco_X8_soldBy
theorem kw_X8_spent : GoodIn qw_big (Cond.code yX8_spent cX8_spent 2 (some .int) :: qw_big) := qw_gW kco_X8_spent
theorem kw_X8_spreadOf : GoodIn qw_big (Cond.code yX8_spreadOf cX8_spreadOf 6 (some .int) :: qw_big) := qw_gW kco_X8_spreadOf
theorem kw_X8_stockOf : GoodIn qw_big (Cond.code yX8_stockOf cX8_stockOf 3 (some .int) :: qw_big) := qw_gW kco_X8_stockOf
theorem kw_X8_substituted : GoodIn qw_big (Cond.code yX8_substituted cX8_substituted 4 (some .int) :: qw_big) := qw_gW kco_X8_substituted
theorem kw_X8_supplyPeriods : GoodIn qw_big (Cond.code yX8_supplyPeriods cX8_supplyPeriods 10 (some .int) :: qw_big) := qw_gW kco_X8_supplyPeriods
theorem kw_X8_swapChain : GoodIn qw_big (Cond.code yX8_swapChain cX8_swapChain 5 (some .int) :: qw_big) := qw_gW kco_X8_swapChain
theorem kw_X8_takenBy : GoodIn qw_big (Cond.code yX8_takenBy cX8_takenBy 2 (some .int) :: qw_big) := qw_gW kco_X8_takenBy
theorem kw_X8_thrown : GoodIn qw_big (Cond.code yX8_thrown cX8_thrown 1 (some .int) :: qw_big) := qw_gW kco_X8_thrown
theorem kw_X8_trade : GoodIn qw_big (Cond.code yX8_trade cX8_trade 5 (some .int) :: qw_big) := qw_gW kco_X8_trade
theorem kw_X8_tradeRoom : GoodIn qw_big (Cond.code yX8_tradeRoom cX8_tradeRoom 4 (some .int) :: qw_big) := qw_gW kco_X8_tradeRoom
theorem kw_X8_turnover : GoodIn qw_big (Cond.code yX8_turnover cX8_turnover 4 (some .int) :: qw_big) := qw_gW kco_X8_turnover
theorem kw_X8_undo : GoodIn qw_big (Cond.code yX8_undo cX8_undo 2 (some .int) :: qw_big) := qw_gW kco_X8_undo
theorem kw_X8_undoCount : GoodIn qw_big (Cond.code yX8_undoCount cX8_undoCount 1 (some .int) :: qw_big) := qw_gW kco_X8_undoCount
theorem kw_X8_waitFor : GoodIn qw_big (Cond.code yX8_waitFor cX8_waitFor 6 (some .int) :: qw_big) := qw_gW kco_X8_waitFor
