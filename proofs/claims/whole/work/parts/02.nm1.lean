set_option maxRecDepth 20000 in
theorem ggX0_gather_X1_withholds : GoodIn wsX0_gather wsX1_withholds := goodIn_r _ [14, 15, 16, 24, 25, 26, 27, 28, 29, 30, 31, 32, 33, 34, 35] (by decide +kernel) (by decide +kernel)
set_option maxRecDepth 20000 in
theorem gX0_gather_X1_withholds : GoodIn wsX0_gather (wsV RX0 38 RX1 yX1_withholds wsX1_withholds) := goodIn_app (goodIn_of _ (by decide +kernel)) ggX0_gather_X1_withholds
set_option maxRecDepth 20000 in
theorem ggX0_nextLeader_X0_mostOverdue : GoodIn wsX0_nextLeader wsX0_mostOverdue := goodIn_r _ [6, 7, 8, 9, 10, 35, 36, 37, 38, 39, 40, 41] (by decide +kernel) (by decide +kernel)
set_option maxRecDepth 20000 in
theorem gX0_nextLeader_X0_mostOverdue : GoodIn wsX0_nextLeader (wsV RX0 51 RX0 yX0_mostOverdue wsX0_mostOverdue) := goodIn_app (goodIn_of _ (by decide +kernel)) ggX0_nextLeader_X0_mostOverdue
set_option maxRecDepth 20000 in
theorem ggX0_nextLeader_X0_drawBelowSum : GoodIn wsX0_nextLeader wsX0_drawBelowSum := goodIn_r _ [14, 8, 1, 15, 16, 17, 18, 19, 5, 20, 21, 22, 23, 24, 25, 26, 35, 36, 37, 38, 39, 40, 41] (by decide +kernel) (by decide +kernel)
set_option maxRecDepth 20000 in
theorem gX0_nextLeader_X0_drawBelowSum : GoodIn wsX0_nextLeader (wsV RX0 55 RX0 yX0_drawBelowSum wsX0_drawBelowSum) := goodIn_app (goodIn_of _ (by decide +kernel)) ggX0_nextLeader_X0_drawBelowSum
set_option maxRecDepth 20000 in
theorem ggX0_nextLeader_X0_holderOf : GoodIn wsX0_nextLeader wsX0_holderOf := goodIn_r _ [30, 10, 35, 36, 37, 38, 39, 40, 41] (by decide +kernel) (by decide +kernel)
set_option maxRecDepth 20000 in
theorem gX0_nextLeader_X0_holderOf : GoodIn wsX0_nextLeader (wsV RX0 59 RX0 yX0_holderOf wsX0_holderOf) := goodIn_app (goodIn_of _ (by decide +kernel)) ggX0_nextLeader_X0_holderOf
set_option maxRecDepth 20000 in
theorem ggX0_nextLeader_X0_passTurn : GoodIn wsX0_nextLeader wsX0_passTurn := goodIn_r _ [34, 10, 9, 35, 36, 37, 38, 39, 40, 41] (by decide +kernel) (by decide +kernel)
set_option maxRecDepth 20000 in
theorem gX0_nextLeader_X0_passTurn : GoodIn wsX0_nextLeader (wsV RX0 63 RX0 yX0_passTurn wsX0_passTurn) := goodIn_app (goodIn_of _ (by decide +kernel)) ggX0_nextLeader_X0_passTurn
set_option maxRecDepth 20000 in
theorem ggX0_drawBelowSum_X0_remainderUnsigned : GoodIn wsX0_drawBelowSum wsX0_remainderUnsigned := goodIn_r _ [9, 10] (by decide +kernel) (by decide +kernel)
set_option maxRecDepth 20000 in
theorem gX0_drawBelowSum_X0_remainderUnsigned : GoodIn wsX0_drawBelowSum (va_wsS RX0 67 yX0_remainderUnsigned wsX0_remainderUnsigned) := goodIn_app (goodIn_of _ (by decide +kernel)) ggX0_drawBelowSum_X0_remainderUnsigned
set_option maxRecDepth 20000 in
theorem ggX0_drawBelowSum_X3_mix : GoodIn wsX0_drawBelowSum wsX3_mix := goodIn_r _ [13, 14, 15] (by decide +kernel) (by decide +kernel)
set_option maxRecDepth 20000 in
theorem gX0_drawBelowSum_X3_mix_n74 : GoodIn wsX0_drawBelowSum (wsX3_mix) := ggX0_drawBelowSum_X3_mix
set_option maxRecDepth 20000 in
theorem ggX1_miss_X1_putAside : GoodIn wsX1_miss wsX1_putAside := goodIn_r _ [7, 8, 9, 10, 11, 12, 13, 14, 15, 16, 17, 18, 19, 20, 21, 22, 23, 24] (by decide +kernel) (by decide +kernel)
set_option maxRecDepth 20000 in
theorem gX1_miss_X1_putAside : GoodIn wsX1_miss (wsV RX1 49 RX1 yX1_putAside wsX1_putAside) := goodIn_app (goodIn_of _ (by decide +kernel)) ggX1_miss_X1_putAside
set_option maxRecDepth 20000 in
theorem ggX2_leaderOf_X2_has : GoodIn wsX2_leaderOf wsX2_has := goodIn_r _ [6, 7, 8, 9, 10, 11] (by decide +kernel) (by decide +kernel)
set_option maxRecDepth 20000 in
theorem gX2_leaderOf_X2_has : GoodIn wsX2_leaderOf (wsV RX2 25 RX2 yX2_has wsX2_has) := goodIn_app (goodIn_of _ (by decide +kernel)) ggX2_leaderOf_X2_has
set_option maxRecDepth 20000 in
theorem ggX2_numbersOf_X2_has : GoodIn wsX2_numbersOf wsX2_has := goodIn_r _ [6, 7, 8, 9, 10, 11] (by decide +kernel) (by decide +kernel)
set_option maxRecDepth 20000 in
theorem gX2_numbersOf_X2_has : GoodIn wsX2_numbersOf (wsV RX2 25 RX2 yX2_has wsX2_has) := goodIn_app (goodIn_of _ (by decide +kernel)) ggX2_numbersOf_X2_has
set_option maxRecDepth 20000 in
theorem ggX3_init_X1_init : GoodIn wsX3_init wsX1_init := goodIn_r _ [20, 21, 2, 3] (by decide +kernel) (by decide +kernel)
set_option maxRecDepth 20000 in
theorem gX3_init_X1_init_n15 : GoodIn wsX3_init (wsX1_init) := ggX3_init_X1_init
set_option maxRecDepth 20000 in
theorem ggX3_init_X0_init : GoodIn wsX3_init wsX0_init := goodIn_r _ [23, 24, 2, 3, 8, 25, 26, 55, 56, 57, 58, 59, 60, 61] (by decide +kernel) (by decide +kernel)
set_option maxRecDepth 20000 in
theorem gX3_init_X0_init_n22 : GoodIn wsX3_init (wsX0_init) := ggX3_init_X0_init
set_option maxRecDepth 20000 in
theorem ggX3_init_X2_init : GoodIn wsX3_init wsX2_init := goodIn_r _ [28, 29, 2, 3, 8, 30, 31, 62, 63, 64, 65] (by decide +kernel) (by decide +kernel)
set_option maxRecDepth 20000 in
theorem gX3_init_X2_init_n29 : GoodIn wsX3_init (wsX2_init) := ggX3_init_X2_init
set_option maxRecDepth 20000 in
theorem ggX3_weight_X3_isNode : GoodIn wsX3_weight wsX3_isNode := goodIn_r _ [7] (by decide +kernel) (by decide +kernel)
set_option maxRecDepth 20000 in
theorem gX3_weight_X3_isNode : GoodIn wsX3_weight (va_wsS RX3 37 yX3_isNode wsX3_isNode) := goodIn_app (goodIn_of _ (by decide +kernel)) ggX3_weight_X3_isNode
set_option maxRecDepth 20000 in
theorem ggX3_deposit_X3_isNode : GoodIn wsX3_deposit wsX3_isNode := goodIn_r _ [10] (by decide +kernel) (by decide +kernel)
set_option maxRecDepth 20000 in
theorem gX3_deposit_X3_isNode : GoodIn wsX3_deposit (va_wsS RX3 37 yX3_isNode wsX3_isNode) := goodIn_app (goodIn_of _ (by decide +kernel)) ggX3_deposit_X3_isNode
set_option maxRecDepth 20000 in
theorem ggX3_begin_X1_enterEpoch : GoodIn wsX3_begin wsX1_enterEpoch := goodIn_r _ [9, 10, 11, 12, 13, 25, 26, 27, 28, 29, 30, 31, 32, 33, 34, 35, 36] (by decide +kernel) (by decide +kernel)
set_option maxRecDepth 20000 in
theorem gX3_begin_X1_enterEpoch : GoodIn wsX3_begin (wsV RX3 67 RX1 yX1_enterEpoch wsX1_enterEpoch) := goodIn_app (goodIn_of _ (by decide +kernel)) ggX3_begin_X1_enterEpoch
set_option maxRecDepth 20000 in
theorem ggX3_commit_X3_isNode : GoodIn wsX3_commit wsX3_isNode := goodIn_r _ [9] (by decide +kernel) (by decide +kernel)
set_option maxRecDepth 20000 in
theorem gX3_commit_X3_isNode : GoodIn wsX3_commit (va_wsS RX3 37 yX3_isNode wsX3_isNode) := goodIn_app (goodIn_of _ (by decide +kernel)) ggX3_commit_X3_isNode
set_option maxRecDepth 20000 in
theorem ggX3_commit_X3_countCommitted : GoodIn wsX3_commit wsX3_countCommitted := goodIn_r _ [13, 1, 4, 14, 15, 16, 17, 18, 19, 20, 21, 22, 23, 24, 25, 26, 27, 28, 29, 30, 31, 32, 33, 34, 35, 36] (by decide +kernel) (by decide +kernel)
set_option maxRecDepth 20000 in
theorem gX3_commit_X3_countCommitted : GoodIn wsX3_commit (wsV RX3 81 RX3 yX3_countCommitted wsX3_countCommitted) := goodIn_app (goodIn_of _ (by decide +kernel)) ggX3_commit_X3_countCommitted
set_option maxRecDepth 20000 in
theorem ggX3_opening_X3_countCommitted : GoodIn wsX3_opening wsX3_countCommitted := goodIn_r _ [6, 7, 8, 9, 10, 11, 12, 13, 14, 15, 16, 17, 18, 19, 20, 21, 22, 23, 24, 25, 26, 27, 28, 29, 30, 31] (by decide +kernel) (by decide +kernel)
set_option maxRecDepth 20000 in
theorem gX3_opening_X3_countCommitted : GoodIn wsX3_opening (wsV RX3 81 RX3 yX3_countCommitted wsX3_countCommitted) := goodIn_app (goodIn_of _ (by decide +kernel)) ggX3_opening_X3_countCommitted
set_option maxRecDepth 20000 in
theorem ggX3_open_X3_isNode : GoodIn wsX3_open wsX3_isNode := goodIn_r _ [9] (by decide +kernel) (by decide +kernel)
set_option maxRecDepth 20000 in
theorem gX3_open_X3_isNode : GoodIn wsX3_open (va_wsS RX3 37 yX3_isNode wsX3_isNode) := goodIn_app (goodIn_of _ (by decide +kernel)) ggX3_open_X3_isNode
set_option maxRecDepth 20000 in
theorem ggX3_open_X1_withholds : GoodIn wsX3_open wsX1_withholds := goodIn_r _ [14, 15, 16, 41, 42, 43, 44, 45, 46, 47, 48, 49, 50, 51, 52] (by decide +kernel) (by decide +kernel)
set_option maxRecDepth 20000 in
theorem gX3_open_X1_withholds : GoodIn wsX3_open (wsV RX3 85 RX1 yX1_withholds wsX1_withholds) := goodIn_app (goodIn_of _ (by decide +kernel)) ggX3_open_X1_withholds
set_option maxRecDepth 20000 in
theorem ggX3_open_X3_digestOf : GoodIn wsX3_open wsX3_digestOf := goodIn_r _ [19, 20, 21, 22, 8, 23, 24, 25] (by decide +kernel) (by decide +kernel)
set_option maxRecDepth 20000 in
theorem gX3_open_X3_digestOf : GoodIn wsX3_open (va_wsS RX3 89 yX3_digestOf wsX3_digestOf) := goodIn_app (goodIn_of _ (by decide +kernel)) ggX3_open_X3_digestOf
set_option maxRecDepth 20000 in
theorem ggX3_open_X3_countOpened : GoodIn wsX3_open wsX3_countOpened := goodIn_r _ [29, 1, 4, 30, 31, 32, 33, 34, 35, 36, 37, 38, 39, 40, 41, 42, 43, 44, 45, 46, 47, 48, 49, 50, 51, 52] (by decide +kernel) (by decide +kernel)
set_option maxRecDepth 20000 in
theorem gX3_open_X3_countOpened : GoodIn wsX3_open (wsV RX3 99 RX3 yX3_countOpened wsX3_countOpened) := goodIn_app (goodIn_of _ (by decide +kernel)) ggX3_open_X3_countOpened
set_option maxRecDepth 20000 in
theorem ggX3_draw_X3_isLengthOfRow : GoodIn wsX3_draw wsX3_isLengthOfRow := goodIn_r _ [13] (by decide +kernel) (by decide +kernel)
set_option maxRecDepth 20000 in
theorem gX3_draw_X3_isLengthOfRow : GoodIn wsX3_draw (va_wsS RX3 102 yX3_isLengthOfRow wsX3_isLengthOfRow) := goodIn_app (goodIn_of _ (by decide +kernel)) ggX3_draw_X3_isLengthOfRow
set_option maxRecDepth 20000 in
theorem ggX3_draw_X3_seedOfDraw : GoodIn wsX3_draw wsX3_seedOfDraw := goodIn_r _ [17, 2, 18, 19, 4, 20, 21, 22, 23, 24, 12, 25, 26, 27, 126, 127, 128, 129, 130, 131, 132, 133, 134, 135, 136, 144, 145, 146, 147, 148, 149, 150, 151, 152, 153, 154, 155] (by decide +kernel) (by decide +kernel)
set_option maxRecDepth 20000 in
theorem gX3_draw_X3_seedOfDraw : GoodIn wsX3_draw (wsV RX3 105 RX3 yX3_seedOfDraw wsX3_seedOfDraw) := goodIn_app (goodIn_of _ (by decide +kernel)) ggX3_draw_X3_seedOfDraw
set_option maxRecDepth 20000 in
theorem ggX3_draw_X0_gather : GoodIn wsX3_draw wsX0_gather := goodIn_r _ [32, 33, 34, 35, 36, 37, 38, 39, 40, 41, 42, 43, 44, 45, 46, 47, 48, 137, 138, 139, 140, 141, 142, 143, 144, 145, 146, 147, 148, 149, 150, 151, 152, 153, 154, 155] (by decide +kernel) (by decide +kernel)
set_option maxRecDepth 20000 in
theorem gX3_draw_X0_gather : GoodIn wsX3_draw (wsV RX3 111 RX0 yX0_gather wsX0_gather) := goodIn_app (goodIn_of _ (by decide +kernel)) ggX3_draw_X0_gather
set_option maxRecDepth 20000 in
theorem ggX3_draw_X3_fineWithholders : GoodIn wsX3_draw wsX3_fineWithholders := goodIn_r _ [52, 4, 53, 5, 18, 54, 43, 44, 45, 46, 47, 48, 55, 56, 57, 58, 59, 60, 61, 62, 63, 64, 65, 66, 67, 68, 69, 126, 127, 128, 129, 130, 131, 132, 133, 134, 135, 136, 144, 145, 146, 147, 148, 149, 150, 151, 152, 153, 154, 155] (by decide +kernel) (by decide +kernel)
set_option maxRecDepth 20000 in
theorem gX3_draw_X3_fineWithholders : GoodIn wsX3_draw (wsV RX3 115 RX3 yX3_fineWithholders wsX3_fineWithholders) := goodIn_app (goodIn_of _ (by decide +kernel)) ggX3_draw_X3_fineWithholders
set_option maxRecDepth 20000 in
theorem ggX3_draw_X2_clear : GoodIn wsX3_draw wsX2_clear := goodIn_r _ [74, 75, 76, 156, 157, 158, 159] (by decide +kernel) (by decide +kernel)
set_option maxRecDepth 20000 in
theorem gX3_draw_X2_clear : GoodIn wsX3_draw (wsV RX3 121 RX2 yX2_clear wsX2_clear) := goodIn_app (goodIn_of _ (by decide +kernel)) ggX3_draw_X2_clear
set_option maxRecDepth 20000 in
theorem ggX3_draw_X3_endEpoch : GoodIn wsX3_draw wsX3_endEpoch := goodIn_r _ [80, 1, 81, 4, 82, 83, 84, 45, 85, 86, 47, 48, 126, 127, 128, 129, 130, 131, 132, 133, 134, 135, 136, 144, 145, 146, 147, 148, 149, 150, 151, 152, 153, 154, 155] (by decide +kernel) (by decide +kernel)
set_option maxRecDepth 20000 in
theorem gX3_draw_X3_endEpoch : GoodIn wsX3_draw (wsV RX3 127 RX3 yX3_endEpoch wsX3_endEpoch) := goodIn_app (goodIn_of _ (by decide +kernel)) ggX3_draw_X3_endEpoch
set_option maxRecDepth 20000 in
theorem ggX3_draw_X0_nextLeader : GoodIn wsX3_draw wsX0_nextLeader := goodIn_r _ [90, 91, 92, 93, 94, 31, 95, 35, 34, 40, 38, 96, 97, 98, 99, 100, 36, 101, 102, 103, 104, 105, 24, 12, 25, 26, 27, 106, 107, 108, 109, 110, 111, 112, 113, 137, 138, 139, 140, 141, 142, 143] (by decide +kernel) (by decide +kernel)
set_option maxRecDepth 20000 in
theorem gX3_draw_X0_nextLeader : GoodIn wsX3_draw (wsV RX3 130 RX0 yX0_nextLeader wsX0_nextLeader) := goodIn_app (goodIn_of _ (by decide +kernel)) ggX3_draw_X0_nextLeader
set_option maxRecDepth 20000 in
theorem ggX3_draw_X2_append : GoodIn wsX3_draw wsX2_append := goodIn_r _ [117, 75, 118, 119, 156, 157, 158, 159] (by decide +kernel) (by decide +kernel)
set_option maxRecDepth 20000 in
theorem gX3_draw_X2_append : GoodIn wsX3_draw (wsV RX3 136 RX2 yX2_append wsX2_append) := goodIn_app (goodIn_of _ (by decide +kernel)) ggX3_draw_X2_append
set_option maxRecDepth 20000 in
theorem ggX3_draw_X3_keepWaits : GoodIn wsX3_draw wsX3_keepWaits := goodIn_r _ [123, 4, 3, 124, 125, 126, 127, 128, 129, 130, 131, 132, 133, 134, 135, 136, 137, 138, 139, 140, 141, 142, 143, 144, 145, 146, 147, 148, 149, 150, 151, 152, 153, 154, 155] (by decide +kernel) (by decide +kernel)
set_option maxRecDepth 20000 in
theorem gX3_draw_X3_keepWaits : GoodIn wsX3_draw (wsV RX3 140 RX3 yX3_keepWaits wsX3_keepWaits) := goodIn_app (goodIn_of _ (by decide +kernel)) ggX3_draw_X3_keepWaits
set_option maxRecDepth 20000 in
theorem ggX3_turn_X2_leaderOf : GoodIn wsX3_turn wsX2_leaderOf := goodIn_r _ [12, 13, 14, 15, 16, 11, 17, 18, 66, 67, 68, 69] (by decide +kernel) (by decide +kernel)
set_option maxRecDepth 20000 in
theorem gX3_turn_X2_leaderOf : GoodIn wsX3_turn (wsV RX3 146 RX2 yX2_leaderOf wsX2_leaderOf) := goodIn_app (goodIn_of _ (by decide +kernel)) ggX3_turn_X2_leaderOf
set_option maxRecDepth 20000 in
theorem ggX3_turn_X3_isNode : GoodIn wsX3_turn wsX3_isNode := goodIn_r _ [22] (by decide +kernel) (by decide +kernel)
set_option maxRecDepth 20000 in
theorem gX3_turn_X3_isNode : GoodIn wsX3_turn (va_wsS RX3 37 yX3_isNode wsX3_isNode) := goodIn_app (goodIn_of _ (by decide +kernel)) ggX3_turn_X3_isNode
set_option maxRecDepth 20000 in
theorem ggX3_turn_X1_lead : GoodIn wsX3_turn wsX1_lead := goodIn_r _ [27, 28, 29, 70, 71, 72, 73, 74, 75, 76, 77, 78, 79, 80, 81] (by decide +kernel) (by decide +kernel)
set_option maxRecDepth 20000 in
theorem gX3_turn_X1_lead : GoodIn wsX3_turn (wsV RX3 150 RX1 yX1_lead wsX1_lead) := goodIn_app (goodIn_of _ (by decide +kernel)) ggX3_turn_X1_lead
set_option maxRecDepth 20000 in
theorem ggX3_turn_X1_miss : GoodIn wsX3_turn wsX1_miss := goodIn_r _ [33, 34, 29, 35, 36, 37, 26, 38, 39, 40, 41, 42, 43, 70, 71, 72, 73, 74, 75, 76, 77, 78, 79, 80, 81] (by decide +kernel) (by decide +kernel)
set_option maxRecDepth 20000 in
theorem gX3_turn_X1_miss : GoodIn wsX3_turn (wsV RX3 153 RX1 yX1_miss wsX1_miss) := goodIn_app (goodIn_of _ (by decide +kernel)) ggX3_turn_X1_miss
set_option maxRecDepth 20000 in
theorem ggX3_turn_X3_endEpoch : GoodIn wsX3_turn wsX3_endEpoch := goodIn_r _ [47, 1, 3, 4, 48, 49, 50, 26, 51, 52, 53, 54, 55, 56, 57, 58, 59, 60, 61, 62, 63, 64, 65, 70, 71, 72, 73, 74, 75, 76, 77, 78, 79, 80, 81] (by decide +kernel) (by decide +kernel)
set_option maxRecDepth 20000 in
theorem gX3_turn_X3_endEpoch : GoodIn wsX3_turn (wsV RX3 127 RX3 yX3_endEpoch wsX3_endEpoch) := goodIn_app (goodIn_of _ (by decide +kernel)) ggX3_turn_X3_endEpoch
set_option maxRecDepth 20000 in
theorem ggX3_leader_X2_leaderOf : GoodIn wsX3_leader wsX2_leaderOf := goodIn_r _ [6, 7, 8, 9, 10, 5, 11, 12, 24, 25, 26, 27] (by decide +kernel) (by decide +kernel)
set_option maxRecDepth 20000 in
theorem gX3_leader_X2_leaderOf : GoodIn wsX3_leader (wsV RX3 146 RX2 yX2_leaderOf wsX2_leaderOf) := goodIn_app (goodIn_of _ (by decide +kernel)) ggX3_leader_X2_leaderOf
set_option maxRecDepth 20000 in
theorem ggX3_drawn_X2_numbersOf : GoodIn wsX3_drawn wsX2_numbersOf := goodIn_r _ [6, 7, 8, 9, 10, 5, 11, 12, 24, 25, 26, 27] (by decide +kernel) (by decide +kernel)
set_option maxRecDepth 20000 in
theorem gX3_drawn_X2_numbersOf : GoodIn wsX3_drawn (wsV RX3 159 RX2 yX2_numbersOf wsX2_numbersOf) := goodIn_app (goodIn_of _ (by decide +kernel)) ggX3_drawn_X2_numbersOf
set_option maxRecDepth 20000 in
theorem ggX3_claim_X3_isNode : GoodIn wsX3_claim wsX3_isNode := goodIn_r _ [6] (by decide +kernel) (by decide +kernel)
set_option maxRecDepth 20000 in
theorem gX3_claim_X3_isNode : GoodIn wsX3_claim (va_wsS RX3 37 yX3_isNode wsX3_isNode) := goodIn_app (goodIn_of _ (by decide +kernel)) ggX3_claim_X3_isNode
set_option maxRecDepth 20000 in
theorem ggX3_check_X3_firstUnlike : GoodIn wsX3_check wsX3_firstUnlike := goodIn_r _ [6, 1, 7, 8, 9, 10, 11, 12, 13, 14, 15, 16, 17, 18, 19, 20, 21, 22, 23, 24, 25, 26, 27, 28, 29] (by decide +kernel) (by decide +kernel)
set_option maxRecDepth 20000 in
theorem gX3_check_X3_firstUnlike : GoodIn wsX3_check (wsV RX3 165 RX3 yX3_firstUnlike wsX3_firstUnlike) := goodIn_app (goodIn_of _ (by decide +kernel)) ggX3_check_X3_firstUnlike
set_option maxRecDepth 20000 in
theorem ggX3_would_X3_isNode : GoodIn wsX3_would wsX3_isNode := goodIn_r _ [9] (by decide +kernel) (by decide +kernel)
set_option maxRecDepth 20000 in
theorem gX3_would_X3_isNode : GoodIn wsX3_would (va_wsS RX3 37 yX3_isNode wsX3_isNode) := goodIn_app (goodIn_of _ (by decide +kernel)) ggX3_would_X3_isNode
set_option maxRecDepth 20000 in
theorem ggX3_would_X3_isLengthOfRow : GoodIn wsX3_would wsX3_isLengthOfRow := goodIn_r _ [12] (by decide +kernel) (by decide +kernel)
set_option maxRecDepth 20000 in
theorem gX3_would_X3_isLengthOfRow : GoodIn wsX3_would (va_wsS RX3 102 yX3_isLengthOfRow wsX3_isLengthOfRow) := goodIn_app (goodIn_of _ (by decide +kernel)) ggX3_would_X3_isLengthOfRow
set_option maxRecDepth 20000 in
theorem ggX3_would_X1_withholds : GoodIn wsX3_would wsX1_withholds := goodIn_r _ [17, 18, 19, 90, 91, 92, 93, 94, 95, 96, 97, 98, 99, 100, 101] (by decide +kernel) (by decide +kernel)
set_option maxRecDepth 20000 in
theorem gX3_would_X1_withholds : GoodIn wsX3_would (wsV RX3 85 RX1 yX1_withholds wsX1_withholds) := goodIn_app (goodIn_of _ (by decide +kernel)) ggX3_would_X1_withholds
set_option maxRecDepth 20000 in
theorem ggX3_would_X3_digestOf : GoodIn wsX3_would wsX3_digestOf := goodIn_r _ [22, 23, 24, 25, 8, 26, 27, 28] (by decide +kernel) (by decide +kernel)
set_option maxRecDepth 20000 in
theorem gX3_would_X3_digestOf : GoodIn wsX3_would (va_wsS RX3 89 yX3_digestOf wsX3_digestOf) := goodIn_app (goodIn_of _ (by decide +kernel)) ggX3_would_X3_digestOf
set_option maxRecDepth 20000 in
theorem ggX3_would_X3_seedOfDraw : GoodIn wsX3_would wsX3_seedOfDraw := goodIn_r _ [32, 33, 34, 23, 1, 35, 3, 36, 24, 25, 8, 26, 27, 28, 79, 80, 81, 82, 83, 84, 85, 86, 87, 88, 89, 90, 91, 92, 93, 94, 95, 96, 97, 98, 99, 100, 101] (by decide +kernel) (by decide +kernel)
set_option maxRecDepth 20000 in
theorem gX3_would_X3_seedOfDraw : GoodIn wsX3_would (wsV RX3 105 RX3 yX3_seedOfDraw wsX3_seedOfDraw) := goodIn_app (goodIn_of _ (by decide +kernel)) ggX3_would_X3_seedOfDraw
set_option maxRecDepth 20000 in
theorem ggX3_would_X0_gather : GoodIn wsX3_would wsX0_gather := goodIn_r _ [41, 42, 43, 44, 45, 46, 47, 48, 49, 50, 51, 14, 15, 16, 17, 18, 19, 102, 103, 104, 105, 106, 107, 108, 90, 91, 92, 93, 94, 95, 96, 97, 98, 99, 100, 101] (by decide +kernel) (by decide +kernel)
set_option maxRecDepth 20000 in
theorem gX3_would_X0_gather : GoodIn wsX3_would (wsV RX3 111 RX0 yX0_gather wsX0_gather) := goodIn_app (goodIn_of _ (by decide +kernel)) ggX3_would_X0_gather
set_option maxRecDepth 20000 in
theorem ggX3_would_X0_nextLeader : GoodIn wsX3_would wsX0_nextLeader := goodIn_r _ [55, 56, 57, 58, 59, 40, 60, 44, 43, 49, 47, 61, 62, 63, 64, 65, 45, 66, 67, 68, 69, 70, 25, 8, 26, 27, 28, 71, 72, 73, 74, 75, 76, 77, 78, 102, 103, 104, 105, 106, 107, 108] (by decide +kernel) (by decide +kernel)
set_option maxRecDepth 20000 in
theorem gX3_would_X0_nextLeader : GoodIn wsX3_would (wsV RX3 130 RX0 yX0_nextLeader wsX0_nextLeader) := goodIn_app (goodIn_of _ (by decide +kernel)) ggX3_would_X0_nextLeader
set_option maxRecDepth 20000 in
theorem ggX3_choices_X3_countCommitted : GoodIn wsX3_choices wsX3_countCommitted := goodIn_r _ [6, 7, 8, 14, 15, 16, 17, 18, 19, 20, 21, 22, 23, 24, 25, 26, 27, 28, 29, 30, 31, 32, 33, 34, 35, 36] (by decide +kernel) (by decide +kernel)
set_option maxRecDepth 20000 in
theorem gX3_choices_X3_countCommitted : GoodIn wsX3_choices (wsV RX3 81 RX3 yX3_countCommitted wsX3_countCommitted) := goodIn_app (goodIn_of _ (by decide +kernel)) ggX3_choices_X3_countCommitted
set_option maxRecDepth 20000 in
theorem ggX3_choices_X3_countOpened : GoodIn wsX3_choices wsX3_countOpened := goodIn_r _ [12, 7, 13, 14, 15, 16, 17, 18, 19, 20, 21, 22, 23, 24, 25, 26, 27, 28, 29, 30, 31, 32, 33, 34, 35, 36] (by decide +kernel) (by decide +kernel)
set_option maxRecDepth 20000 in
theorem gX3_choices_X3_countOpened : GoodIn wsX3_choices (wsV RX3 99 RX3 yX3_countOpened wsX3_countOpened) := goodIn_app (goodIn_of _ (by decide +kernel)) ggX3_choices_X3_countOpened
set_option maxRecDepth 20000 in
theorem ggX3_digest_X3_isNode : GoodIn wsX3_digest wsX3_isNode := goodIn_r _ [4] (by decide +kernel) (by decide +kernel)
set_option maxRecDepth 20000 in
theorem gX3_digest_X3_isNode : GoodIn wsX3_digest (va_wsS RX3 37 yX3_isNode wsX3_isNode) := goodIn_app (goodIn_of _ (by decide +kernel)) ggX3_digest_X3_isNode
set_option maxRecDepth 20000 in
theorem ggX3_digest_X3_digestOf : GoodIn wsX3_digest wsX3_digestOf := goodIn_r _ [7, 8, 9, 10, 3, 11, 12, 13] (by decide +kernel) (by decide +kernel)
set_option maxRecDepth 20000 in
theorem gX3_digest_X3_digestOf : GoodIn wsX3_digest (va_wsS RX3 89 yX3_digestOf wsX3_digestOf) := goodIn_app (goodIn_of _ (by decide +kernel)) ggX3_digest_X3_digestOf
set_option maxRecDepth 20000 in
theorem ggX3_node_X3_isNode : GoodIn wsX3_node wsX3_isNode := goodIn_r _ [5] (by decide +kernel) (by decide +kernel)
set_option maxRecDepth 20000 in
theorem gX3_node_X3_isNode : GoodIn wsX3_node (va_wsS RX3 37 yX3_isNode wsX3_isNode) := goodIn_app (goodIn_of _ (by decide +kernel)) ggX3_node_X3_isNode
set_option maxRecDepth 20000 in
theorem ggX3_node_X1_tell : GoodIn wsX3_node wsX1_tell := goodIn_r _ [10, 11, 12, 13, 14, 15, 16, 17, 18, 19, 31, 32, 33, 34, 35, 36, 37, 38, 39, 40, 41, 42] (by decide +kernel) (by decide +kernel)
set_option maxRecDepth 20000 in
theorem gX3_node_X1_tell : GoodIn wsX3_node (wsV RX3 168 RX1 yX1_tell wsX1_tell) := goodIn_app (goodIn_of _ (by decide +kernel)) ggX3_node_X1_tell
set_option maxRecDepth 20000 in
theorem ggX3_digestOf_X3_mix : GoodIn wsX3_digestOf wsX3_mix := goodIn_r _ [5, 6, 7] (by decide +kernel) (by decide +kernel)
set_option maxRecDepth 20000 in
theorem gX3_digestOf_X3_mix : GoodIn wsX3_digestOf (va_wsS RX3 179 yX3_mix wsX3_mix) := goodIn_app (goodIn_of _ (by decide +kernel)) ggX3_digestOf_X3_mix
set_option maxRecDepth 20000 in
theorem ggX3_seedOfDraw_X3_mix : GoodIn wsX3_seedOfDraw wsX3_mix := goodIn_r _ [11, 12, 13] (by decide +kernel) (by decide +kernel)
set_option maxRecDepth 20000 in
theorem gX3_seedOfDraw_X3_mix : GoodIn wsX3_seedOfDraw (va_wsS RX3 179 yX3_mix wsX3_mix) := goodIn_app (goodIn_of _ (by decide +kernel)) ggX3_seedOfDraw_X3_mix
set_option maxRecDepth 20000 in
theorem ggX3_fineWithholders_X1_withholds : GoodIn wsX3_fineWithholders wsX1_withholds := goodIn_r _ [9, 10, 11, 38, 39, 40, 41, 42, 43, 44, 45, 46, 47, 48, 49] (by decide +kernel) (by decide +kernel)
set_option maxRecDepth 20000 in
theorem gX3_fineWithholders_X1_withholds : GoodIn wsX3_fineWithholders (wsV RX3 85 RX1 yX1_withholds wsX1_withholds) := goodIn_app (goodIn_of _ (by decide +kernel)) ggX3_fineWithholders_X1_withholds
set_option maxRecDepth 20000 in
theorem ggX3_fineWithholders_X1_fine : GoodIn wsX3_fineWithholders wsX1_fine := goodIn_r _ [15, 16, 17, 38, 39, 40, 41, 42, 43, 44, 45, 46, 47, 48, 49] (by decide +kernel) (by decide +kernel)
set_option maxRecDepth 20000 in
theorem gX3_fineWithholders_X1_fine : GoodIn wsX3_fineWithholders (wsV RX3 185 RX1 yX1_fine wsX1_fine) := goodIn_app (goodIn_of _ (by decide +kernel)) ggX3_fineWithholders_X1_fine
set_option maxRecDepth 20000 in
theorem ggX3_fineWithholders_X1_putAside : GoodIn wsX3_fineWithholders wsX1_putAside := goodIn_r _ [21, 22, 23, 24, 25, 26, 38, 39, 40, 41, 42, 43, 44, 45, 46, 47, 48, 49] (by decide +kernel) (by decide +kernel)
set_option maxRecDepth 20000 in
theorem gX3_fineWithholders_X1_putAside : GoodIn wsX3_fineWithholders (wsV RX3 189 RX1 yX1_putAside wsX1_putAside) := goodIn_app (goodIn_of _ (by decide +kernel)) ggX3_fineWithholders_X1_putAside
set_option maxRecDepth 20000 in
theorem ggX3_endEpoch_X1_leaveEpoch : GoodIn wsX3_endEpoch wsX1_leaveEpoch := goodIn_r _ [8, 9, 10, 11, 23, 24, 25, 26, 27, 28, 29, 30, 31, 32, 33, 34] (by decide +kernel) (by decide +kernel)
set_option maxRecDepth 20000 in
theorem gX3_endEpoch_X1_leaveEpoch : GoodIn wsX3_endEpoch (wsV RX3 198 RX1 yX1_leaveEpoch wsX1_leaveEpoch) := goodIn_app (goodIn_of _ (by decide +kernel)) ggX3_endEpoch_X1_leaveEpoch
set_option maxRecDepth 20000 in
theorem ggX4_isNode_X4_in : GoodIn wsX4_isNode wsX4_in := goodIn_r _ [5] (by decide +kernel) (by decide +kernel)
set_option maxRecDepth 20000 in
theorem gX4_isNode_X4_in : GoodIn wsX4_isNode (va_wsS RX4 74 yX4_in wsX4_in) := goodIn_app (goodIn_of _ (by decide +kernel)) ggX4_isNode_X4_in
set_option maxRecDepth 20000 in
theorem ggX4_digestOf_X4_mix : GoodIn wsX4_digestOf wsX4_mix := goodIn_r _ [5, 6, 7] (by decide +kernel) (by decide +kernel)
set_option maxRecDepth 20000 in
theorem gX4_digestOf_X4_mix : GoodIn wsX4_digestOf (va_wsS RX4 82 yX4_mix wsX4_mix) := goodIn_app (goodIn_of _ (by decide +kernel)) ggX4_digestOf_X4_mix
set_option maxRecDepth 20000 in
theorem ggX4_weight_X4_isNode : GoodIn wsX4_weight wsX4_isNode := goodIn_r _ [7, 8, 9, 10, 6, 11] (by decide +kernel) (by decide +kernel)
set_option maxRecDepth 20000 in
theorem gX4_weight_X4_isNode : GoodIn wsX4_weight (va_wsS RX4 88 yX4_isNode wsX4_isNode) := goodIn_app (goodIn_of _ (by decide +kernel)) ggX4_weight_X4_isNode
set_option maxRecDepth 20000 in
theorem ggX4_weight_X4_in : GoodIn wsX4_weight wsX4_in := goodIn_r _ [11] (by decide +kernel) (by decide +kernel)
set_option maxRecDepth 20000 in
theorem gX4_weight_X4_in : GoodIn wsX4_weight (va_wsS RX4 74 yX4_in wsX4_in) := goodIn_app (goodIn_of _ (by decide +kernel)) ggX4_weight_X4_in
set_option maxRecDepth 20000 in
theorem ggX4_deposit_X4_isNode : GoodIn wsX4_deposit wsX4_isNode := goodIn_r _ [10, 11, 12, 13, 9, 14] (by decide +kernel) (by decide +kernel)
set_option maxRecDepth 20000 in
theorem gX4_deposit_X4_isNode : GoodIn wsX4_deposit (va_wsS RX4 88 yX4_isNode wsX4_isNode) := goodIn_app (goodIn_of _ (by decide +kernel)) ggX4_deposit_X4_isNode
set_option maxRecDepth 20000 in
theorem ggX4_deposit_X4_in : GoodIn wsX4_deposit wsX4_in := goodIn_r _ [14] (by decide +kernel) (by decide +kernel)
set_option maxRecDepth 20000 in
theorem gX4_deposit_X4_in : GoodIn wsX4_deposit (va_wsS RX4 74 yX4_in wsX4_in) := goodIn_app (goodIn_of _ (by decide +kernel)) ggX4_deposit_X4_in
set_option maxRecDepth 20000 in
theorem ggX4_term_X4_in : GoodIn wsX4_term wsX4_in := goodIn_r _ [9] (by decide +kernel) (by decide +kernel)
set_option maxRecDepth 20000 in
theorem gX4_term_X4_in : GoodIn wsX4_term (va_wsS RX4 74 yX4_in wsX4_in) := goodIn_app (goodIn_of _ (by decide +kernel)) ggX4_term_X4_in
set_option maxRecDepth 20000 in
theorem ggX4_commit_X4_isNode : GoodIn wsX4_commit wsX4_isNode := goodIn_r _ [8, 9, 10, 11, 7, 12] (by decide +kernel) (by decide +kernel)
set_option maxRecDepth 20000 in
theorem gX4_commit_X4_isNode : GoodIn wsX4_commit (va_wsS RX4 88 yX4_isNode wsX4_isNode) := goodIn_app (goodIn_of _ (by decide +kernel)) ggX4_commit_X4_isNode
set_option maxRecDepth 20000 in
theorem ggX4_commit_X4_count : GoodIn wsX4_commit wsX4_count := goodIn_r _ [16, 17, 3, 18, 19, 20, 21, 22, 23, 24, 25, 26, 27, 28, 29, 30, 31, 32, 33, 34, 35, 36, 37, 38, 39, 40, 41, 42, 43, 44, 45, 46, 47, 48] (by decide +kernel) (by decide +kernel)
set_option maxRecDepth 20000 in
theorem gX4_commit_X4_count : GoodIn wsX4_commit (wsV RX4 115 RX4 yX4_count wsX4_count) := goodIn_app (goodIn_of _ (by decide +kernel)) ggX4_commit_X4_count
set_option maxRecDepth 20000 in
theorem ggX4_opening_X4_count : GoodIn wsX4_opening wsX4_count := goodIn_r _ [6, 7, 8, 9, 10, 11, 12, 13, 14, 15, 16, 17, 18, 19, 20, 21, 22, 23, 24, 25, 26, 27, 28, 29, 30, 31, 32, 33, 34, 35, 36, 37, 38, 39] (by decide +kernel) (by decide +kernel)
set_option maxRecDepth 20000 in
theorem gX4_opening_X4_count : GoodIn wsX4_opening (wsV RX4 115 RX4 yX4_count wsX4_count) := goodIn_app (goodIn_of _ (by decide +kernel)) ggX4_opening_X4_count
set_option maxRecDepth 20000 in
theorem ggX4_open_X4_isNode : GoodIn wsX4_open wsX4_isNode := goodIn_r _ [9, 10, 11, 12, 8, 13] (by decide +kernel) (by decide +kernel)
set_option maxRecDepth 20000 in
theorem gX4_open_X4_isNode : GoodIn wsX4_open (va_wsS RX4 88 yX4_isNode wsX4_isNode) := goodIn_app (goodIn_of _ (by decide +kernel)) ggX4_open_X4_isNode
set_option maxRecDepth 20000 in
theorem ggX4_open_X4_digestOf : GoodIn wsX4_open wsX4_digestOf := goodIn_r _ [16, 17, 18, 19, 8, 20, 21, 22] (by decide +kernel) (by decide +kernel)
set_option maxRecDepth 20000 in
theorem gX4_open_X4_digestOf : GoodIn wsX4_open (va_wsS RX4 119 yX4_digestOf wsX4_digestOf) := goodIn_app (goodIn_of _ (by decide +kernel)) ggX4_open_X4_digestOf
set_option maxRecDepth 20000 in
theorem ggX4_open_X4_count : GoodIn wsX4_open wsX4_count := goodIn_r _ [26, 3, 2, 27, 28, 29, 30, 31, 32, 33, 34, 35, 36, 37, 38, 39, 40, 41, 42, 43, 44, 45, 46, 47, 48, 49, 50, 51, 52, 53, 54, 55, 56, 57] (by decide +kernel) (by decide +kernel)
set_option maxRecDepth 20000 in
theorem gX4_open_X4_count : GoodIn wsX4_open (wsV RX4 115 RX4 yX4_count wsX4_count) := goodIn_app (goodIn_of _ (by decide +kernel)) ggX4_open_X4_count
set_option maxRecDepth 20000 in
theorem ggX4_prepare_X4_mix : GoodIn wsX4_prepare wsX4_mix := goodIn_r _ [17, 18, 19] (by decide +kernel) (by decide +kernel)
set_option maxRecDepth 20000 in
theorem gX4_prepare_X4_mix : GoodIn wsX4_prepare (va_wsS RX4 82 yX4_mix wsX4_mix) := goodIn_app (goodIn_of _ (by decide +kernel)) ggX4_prepare_X4_mix
set_option maxRecDepth 20000 in
theorem ggX4_prepare_X4_digestOf : GoodIn wsX4_prepare wsX4_digestOf := goodIn_r _ [22, 4, 14, 15, 16, 17, 18, 19] (by decide +kernel) (by decide +kernel)
set_option maxRecDepth 20000 in
theorem gX4_prepare_X4_digestOf : GoodIn wsX4_prepare (va_wsS RX4 119 yX4_digestOf wsX4_digestOf) := goodIn_app (goodIn_of _ (by decide +kernel)) ggX4_prepare_X4_digestOf
set_option maxRecDepth 20000 in
theorem ggX4_below_X4_mix : GoodIn wsX4_below wsX4_mix := goodIn_r _ [11, 12, 13] (by decide +kernel) (by decide +kernel)
set_option maxRecDepth 20000 in
theorem gX4_below_X4_mix : GoodIn wsX4_below (va_wsS RX4 82 yX4_mix wsX4_mix) := goodIn_app (goodIn_of _ (by decide +kernel)) ggX4_below_X4_mix
set_option maxRecDepth 20000 in
theorem ggX4_make_X4_overdue : GoodIn wsX4_make wsX4_overdue := goodIn_r _ [11, 5, 12, 6, 13, 14, 32, 33, 34, 35, 36, 37, 38, 39, 40, 41, 42, 43, 44, 45, 46, 47, 48, 49, 50, 51, 52, 53, 54, 55, 56, 57, 58, 59, 60, 61, 62] (by decide +kernel) (by decide +kernel)
set_option maxRecDepth 20000 in
theorem gX4_make_X4_overdue : GoodIn wsX4_make (wsV RX4 142 RX4 yX4_overdue wsX4_overdue) := goodIn_app (goodIn_of _ (by decide +kernel)) ggX4_make_X4_overdue
set_option maxRecDepth 20000 in
theorem ggX4_make_X4_below : GoodIn wsX4_make wsX4_below := goodIn_r _ [18, 14, 19, 20, 2, 21, 3, 22, 23, 24, 10, 25, 26, 27, 32, 33, 34, 35, 36, 37, 38, 39, 40, 41, 42, 43, 44, 45, 46, 47, 48, 49, 50, 51, 52, 53, 54, 55, 56, 57, 58, 59, 60, 61, 62] (by decide +kernel) (by decide +kernel)
set_option maxRecDepth 20000 in
theorem gX4_make_X4_below : GoodIn wsX4_make (wsV RX4 146 RX4 yX4_below wsX4_below) := goodIn_app (goodIn_of _ (by decide +kernel)) ggX4_make_X4_below
set_option maxRecDepth 20000 in
theorem ggX4_make_X4_electorAt : GoodIn wsX4_make wsX4_electorAt := goodIn_r _ [31, 6, 12, 32, 33, 34, 35, 36, 37, 38, 39, 40, 41, 42, 43, 44, 45, 46, 47, 48, 49, 50, 51, 52, 53, 54, 55, 56, 57, 58, 59, 60, 61, 62] (by decide +kernel) (by decide +kernel)
set_option maxRecDepth 20000 in
theorem gX4_make_X4_electorAt : GoodIn wsX4_make (wsV RX4 150 RX4 yX4_electorAt wsX4_electorAt) := goodIn_app (goodIn_of _ (by decide +kernel)) ggX4_make_X4_electorAt
set_option maxRecDepth 20000 in
theorem ggX4_draw_X4_in : GoodIn wsX4_draw wsX4_in := goodIn_r _ [26] (by decide +kernel) (by decide +kernel)
set_option maxRecDepth 20000 in
theorem gX4_draw_X4_in : GoodIn wsX4_draw (va_wsS RX4 74 yX4_in wsX4_in) := goodIn_app (goodIn_of _ (by decide +kernel)) ggX4_draw_X4_in
set_option maxRecDepth 20000 in
theorem ggX4_draw_X4_prepare : GoodIn wsX4_draw wsX4_prepare := goodIn_r _ [30, 5, 4, 14, 31, 3, 8, 32, 33, 7, 22, 21, 34, 35, 36, 37, 25, 38, 39, 40, 41, 42, 43, 64, 65, 66, 67, 68, 69, 70, 71, 72, 73, 74, 75, 76, 77, 78, 79, 80, 81, 82, 83, 84, 85, 86, 87, 88, 89, 90, 91, 92, 93, 94] (by decide +kernel) (by decide +kernel)
set_option maxRecDepth 20000 in
theorem gX4_draw_X4_prepare : GoodIn wsX4_draw (wsV RX4 156 RX4 yX4_prepare wsX4_prepare) := goodIn_app (goodIn_of _ (by decide +kernel)) ggX4_draw_X4_prepare
set_option maxRecDepth 20000 in
theorem ggX4_draw_X4_make : GoodIn wsX4_draw wsX4_make := goodIn_r _ [47, 3, 48, 20, 18, 22, 32, 49, 50, 51, 25, 52, 35, 10, 5, 53, 54, 55, 56, 57, 58, 31, 59, 36, 37, 38, 39, 40, 60, 61, 62, 63, 64, 65, 66, 67, 68, 69, 70, 71, 72, 73, 74, 75, 76, 77, 78, 79, 80, 81, 82, 83, 84, 85, 86, 87, 88, 89, 90, 91, 92, 93, 94] (by decide +kernel) (by decide +kernel)
set_option maxRecDepth 20000 in
theorem gX4_draw_X4_make : GoodIn wsX4_draw (wsV RX4 172 RX4 yX4_make wsX4_make) := goodIn_app (goodIn_of _ (by decide +kernel)) ggX4_draw_X4_make
set_option maxRecDepth 20000 in
theorem ggX4_claim_X4_isNode : GoodIn wsX4_claim wsX4_isNode := goodIn_r _ [6, 7, 8, 9, 5, 10] (by decide +kernel) (by decide +kernel)
set_option maxRecDepth 20000 in
theorem gX4_claim_X4_isNode : GoodIn wsX4_claim (va_wsS RX4 88 yX4_isNode wsX4_isNode) := goodIn_app (goodIn_of _ (by decide +kernel)) ggX4_claim_X4_isNode
set_option maxRecDepth 20000 in
theorem ggX4_would_X4_isNode : GoodIn wsX4_would wsX4_isNode := goodIn_r _ [10, 11, 12, 13, 9, 14] (by decide +kernel) (by decide +kernel)
set_option maxRecDepth 20000 in
theorem gX4_would_X4_isNode : GoodIn wsX4_would (va_wsS RX4 88 yX4_isNode wsX4_isNode) := goodIn_app (goodIn_of _ (by decide +kernel)) ggX4_would_X4_isNode
set_option maxRecDepth 20000 in
theorem ggX4_would_X4_in : GoodIn wsX4_would wsX4_in := goodIn_r _ [14] (by decide +kernel) (by decide +kernel)
set_option maxRecDepth 20000 in
theorem gX4_would_X4_in : GoodIn wsX4_would (va_wsS RX4 74 yX4_in wsX4_in) := goodIn_app (goodIn_of _ (by decide +kernel)) ggX4_would_X4_in
set_option maxRecDepth 20000 in
theorem ggX4_would_X4_digestOf : GoodIn wsX4_would wsX4_digestOf := goodIn_r _ [17, 18, 19, 20, 9, 21, 22, 23] (by decide +kernel) (by decide +kernel)
set_option maxRecDepth 20000 in
theorem gX4_would_X4_digestOf : GoodIn wsX4_would (va_wsS RX4 119 yX4_digestOf wsX4_digestOf) := goodIn_app (goodIn_of _ (by decide +kernel)) ggX4_would_X4_digestOf
set_option maxRecDepth 20000 in
theorem ggX4_would_X4_prepare : GoodIn wsX4_would wsX4_prepare := goodIn_r _ [27, 28, 29, 30, 18, 31, 4, 32, 33, 3, 34, 35, 36, 37, 19, 20, 9, 21, 22, 23, 15, 16, 17, 60, 61, 62, 63, 64, 65, 66, 67, 68, 69, 70, 71, 72, 73, 74, 75, 76, 77, 78, 79, 80, 81, 82, 83, 84, 85, 86, 87, 88, 89, 90] (by decide +kernel) (by decide +kernel)
set_option maxRecDepth 20000 in
theorem gX4_would_X4_prepare : GoodIn wsX4_would (wsV RX4 156 RX4 yX4_prepare wsX4_prepare) := goodIn_app (goodIn_of _ (by decide +kernel)) ggX4_would_X4_prepare
set_option maxRecDepth 20000 in
theorem ggX4_would_X4_make : GoodIn wsX4_would wsX4_make := goodIn_r _ [41, 31, 42, 43, 6, 34, 32, 44, 45, 46, 9, 47, 37, 48, 28, 49, 50, 51, 52, 53, 54, 18, 55, 19, 20, 21, 22, 23, 56, 57, 58, 59, 60, 61, 62, 63, 64, 65, 66, 67, 68, 69, 70, 71, 72, 73, 74, 75, 76, 77, 78, 79, 80, 81, 82, 83, 84, 85, 86, 87, 88, 89, 90] (by decide +kernel) (by decide +kernel)
set_option maxRecDepth 20000 in
theorem gX4_would_X4_make : GoodIn wsX4_would (wsV RX4 172 RX4 yX4_make wsX4_make) := goodIn_app (goodIn_of _ (by decide +kernel)) ggX4_would_X4_make
set_option maxRecDepth 20000 in
theorem ggX4_choices_X4_count : GoodIn wsX4_choices wsX4_count := goodIn_r _ [6, 7, 8, 9, 10, 11, 12, 13, 14, 15, 16, 17, 18, 19, 20, 21, 22, 23, 24, 25, 26, 27, 28, 29, 30, 31, 32, 33, 34, 35, 36, 37, 38, 39] (by decide +kernel) (by decide +kernel)
set_option maxRecDepth 20000 in
theorem gX4_choices_X4_count : GoodIn wsX4_choices (wsV RX4 115 RX4 yX4_count wsX4_count) := goodIn_app (goodIn_of _ (by decide +kernel)) ggX4_choices_X4_count
set_option maxRecDepth 20000 in
theorem ggX4_digest_X4_isNode : GoodIn wsX4_digest wsX4_isNode := goodIn_r _ [4, 5, 6, 7, 3, 8] (by decide +kernel) (by decide +kernel)
set_option maxRecDepth 20000 in
theorem gX4_digest_X4_isNode : GoodIn wsX4_digest (va_wsS RX4 88 yX4_isNode wsX4_isNode) := goodIn_app (goodIn_of _ (by decide +kernel)) ggX4_digest_X4_isNode
set_option maxRecDepth 20000 in
theorem ggX4_digest_X4_digestOf : GoodIn wsX4_digest wsX4_digestOf := goodIn_r _ [11, 12, 13, 14, 3, 15, 16, 17] (by decide +kernel) (by decide +kernel)
set_option maxRecDepth 20000 in
theorem gX4_digest_X4_digestOf : GoodIn wsX4_digest (va_wsS RX4 119 yX4_digestOf wsX4_digestOf) := goodIn_app (goodIn_of _ (by decide +kernel)) ggX4_digest_X4_digestOf
set_option maxRecDepth 20000 in
theorem ggX4_node_X4_isNode : GoodIn wsX4_node wsX4_isNode := goodIn_r _ [15, 16, 17, 18, 14, 19] (by decide +kernel) (by decide +kernel)
set_option maxRecDepth 20000 in
theorem gX4_node_X4_isNode : GoodIn wsX4_node (va_wsS RX4 88 yX4_isNode wsX4_isNode) := goodIn_app (goodIn_of _ (by decide +kernel)) ggX4_node_X4_isNode
set_option maxRecDepth 20000 in
theorem ggX4_node_X4_in : GoodIn wsX4_node wsX4_in := goodIn_r _ [19] (by decide +kernel) (by decide +kernel)
set_option maxRecDepth 20000 in
theorem gX4_node_X4_in : GoodIn wsX4_node (va_wsS RX4 74 yX4_in wsX4_in) := goodIn_app (goodIn_of _ (by decide +kernel)) ggX4_node_X4_in
set_option maxRecDepth 20000 in
theorem ggX4_amount_X4_in : GoodIn wsX4_amount wsX4_in := goodIn_r _ [9] (by decide +kernel) (by decide +kernel)
set_option maxRecDepth 20000 in
theorem gX4_amount_X4_in : GoodIn wsX4_amount (va_wsS RX4 74 yX4_in wsX4_in) := goodIn_app (goodIn_of _ (by decide +kernel)) ggX4_amount_X4_in
set_option maxRecDepth 20000 in
theorem ggX4_told_X4_in : GoodIn wsX4_told wsX4_in := goodIn_r _ [12] (by decide +kernel) (by decide +kernel)
set_option maxRecDepth 20000 in
theorem gX4_told_X4_in : GoodIn wsX4_told (va_wsS RX4 74 yX4_in wsX4_in) := goodIn_app (goodIn_of _ (by decide +kernel)) ggX4_told_X4_in
