theorem aX11_init : mX11_init.1.cls = RX11 := rfl
theorem bX11_init : mX11_init.2.2.1 = 1 := rfl
theorem rX11_init : mX11_init.2.2.2 = none := rfl
theorem aX5_init : mX5_init.1.cls = RX5 := rfl
theorem bX5_init : mX5_init.2.2.1 = 1 := rfl
theorem rX5_init : mX5_init.2.2.2 = none := rfl
theorem aX8_init : mX8_init.1.cls = RX8 := rfl
theorem bX8_init : mX8_init.2.2.1 = 1 := rfl
theorem rX8_init : mX8_init.2.2.2 = none := rfl
theorem aX7_init : mX7_init.1.cls = RX7 := rfl
theorem bX7_init : mX7_init.2.2.1 = 1 := rfl
theorem rX7_init : mX7_init.2.2.2 = none := rfl
theorem aX6_init : mX6_init.1.cls = RX6 := rfl
theorem bX6_init : mX6_init.2.2.1 = 1 := rfl
theorem rX6_init : mX6_init.2.2.2 = none := rfl
theorem aX2_init : mX2_init.1.cls = RX2 := rfl
theorem bX2_init : mX2_init.2.2.1 = 2 := rfl
theorem rX2_init : mX2_init.2.2.2 = none := rfl
theorem aX3_init : mX3_init.1.cls = RX3 := rfl
theorem bX3_init : mX3_init.2.2.1 = 1 := rfl
theorem rX3_init : mX3_init.2.2.2 = none := rfl
theorem aX4_init : mX4_init.1.cls = RX4 := rfl
theorem bX4_init : mX4_init.2.2.1 = 1 := rfl
theorem rX4_init : mX4_init.2.2.2 = none := rfl
theorem aX9_init : mX9_init.1.cls = RX9 := rfl
theorem bX9_init : mX9_init.2.2.1 = 1 := rfl
theorem rX9_init : mX9_init.2.2.2 = none := rfl
theorem aX0_init : mX0_init.1.cls = RX0 := rfl
theorem bX0_init : mX0_init.2.2.1 = 1 := rfl
theorem rX0_init : mX0_init.2.2.2 = none := rfl
theorem aJ7_fill_53178 : mJ7_fill_53178.1.cls = RJ7 := rfl
theorem bJ7_fill_53178 : mJ7_fill_53178.2.2.1 = 4 := rfl
theorem rJ7_fill_53178 : mJ7_fill_53178.2.2.2 = none := rfl
theorem aX1_init : mX1_init.1.cls = RX1 := rfl
theorem bX1_init : mX1_init.2.2.1 = 1 := rfl
theorem rX1_init : mX1_init.2.2.2 = none := rfl
theorem aX11_feed : mX11_feed.1.cls = RX11 := rfl
theorem bX11_feed : mX11_feed.2.2.1 = 6 := rfl
theorem rX11_feed : mX11_feed.2.2.2 = (some .int) := rfl
theorem aX11_feedOne : mX11_feedOne.1.cls = RX11 := rfl
theorem bX11_feedOne : mX11_feedOne.2.2.1 = 3 := rfl
theorem rX11_feedOne : mX11_feedOne.2.2.2 = none := rfl
theorem aX11_end : mX11_end.1.cls = RX11 := rfl
theorem bX11_end : mX11_end.2.2.1 = 2 := rfl
theorem rX11_end : mX11_end.2.2.2 = (some .boolean) := rfl
theorem aX11_tower : mX11_tower.1.cls = RX11 := rfl
theorem bX11_tower : mX11_tower.2.2.1 = 2 := rfl
theorem rX11_tower : mX11_tower.2.2.2 = (some .int) := rfl
theorem aX11_openTape : mX11_openTape.1.cls = RX11 := rfl
theorem bX11_openTape : mX11_openTape.2.2.1 = 2 := rfl
theorem rX11_openTape : mX11_openTape.2.2.2 = none := rfl
theorem aX5_open : mX5_open.1.cls = RX5 := rfl
theorem bX5_open : mX5_open.2.2.1 = 7 := rfl
theorem rX5_open : mX5_open.2.2.2 = none := rfl
theorem aJ9_min_7cf53 : mJ9_min_7cf53.1.cls = RJ9 := rfl
theorem bJ9_min_7cf53 : mJ9_min_7cf53.2.2.1 = 2 := rfl
theorem rJ9_min_7cf53 : mJ9_min_7cf53.2.2.2 = (some .int) := rfl
theorem aX5_isBlank : mX5_isBlank.1.cls = RX5 := rfl
theorem bX5_isBlank : mX5_isBlank.2.2.1 = 1 := rfl
theorem rX5_isBlank : mX5_isBlank.2.2.2 = (some .boolean) := rfl
theorem aX5_isLetter : mX5_isLetter.1.cls = RX5 := rfl
theorem bX5_isLetter : mX5_isLetter.2.2.1 = 1 := rfl
theorem rX5_isLetter : mX5_isLetter.2.2.2 = (some .boolean) := rfl
theorem aX5_isDigit : mX5_isDigit.1.cls = RX5 := rfl
theorem bX5_isDigit : mX5_isDigit.2.2.1 = 1 := rfl
theorem rX5_isDigit : mX5_isDigit.2.2.2 = (some .boolean) := rfl
theorem aX5_scanRun : mX5_scanRun.1.cls = RX5 := rfl
theorem bX5_scanRun : mX5_scanRun.2.2.1 = 11 := rfl
theorem rX5_scanRun : mX5_scanRun.2.2.2 = (some .int) := rfl
theorem aX10_find : mX10_find.1.cls = RX10 := rfl
theorem bX10_find : mX10_find.2.2.1 = 6 := rfl
theorem rX10_find : mX10_find.2.2.2 = (some (.object "DumbwaiterYoung$Word")) := rfl
theorem aX5_add : mX5_add.1.cls = RX5 := rfl
theorem bX5_add : mX5_add.2.2.1 = 6 := rfl
theorem rX5_add : mX5_add.2.2.2 = none := rfl
theorem aX5_isSign : mX5_isSign.1.cls = RX5 := rfl
theorem bX5_isSign : mX5_isSign.2.2.1 = 1 := rfl
theorem rX5_isSign : mX5_isSign.2.2.2 = (some .boolean) := rfl
theorem aX8_readFrom : mX8_readFrom.1.cls = RX8 := rfl
theorem bX8_readFrom : mX8_readFrom.2.2.1 = 3 := rfl
theorem rX8_readFrom : mX8_readFrom.2.2.2 = (some .int) := rfl
theorem aX5_failed : mX5_failed.1.cls = RX5 := rfl
theorem bX5_failed : mX5_failed.2.2.1 = 1 := rfl
theorem rX5_failed : mX5_failed.2.2.2 = (some .boolean) := rfl
theorem aX5_atEnd : mX5_atEnd.1.cls = RX5 := rfl
theorem bX5_atEnd : mX5_atEnd.2.2.1 = 1 := rfl
theorem rX5_atEnd : mX5_atEnd.2.2.2 = (some .boolean) := rfl
theorem aX8_readLine : mX8_readLine.1.cls = RX8 := rfl
theorem bX8_readLine : mX8_readLine.2.2.1 = 2 := rfl
theorem rX8_readLine : mX8_readLine.2.2.2 = none := rfl
theorem aX5_isWord : mX5_isWord.1.cls = RX5 := rfl
theorem bX5_isWord : mX5_isWord.2.2.1 = 2 := rfl
theorem rX5_isWord : mX5_isWord.2.2.2 = (some .boolean) := rfl
theorem aX8_readFloor : mX8_readFloor.1.cls = RX8 := rfl
theorem bX8_readFloor : mX8_readFloor.2.2.1 = 7 := rfl
theorem rX8_readFloor : mX8_readFloor.2.2.2 = none := rfl
theorem aX5_fail : mX5_fail.1.cls = RX5 := rfl
theorem bX5_fail : mX5_fail.2.2.1 = 2 := rfl
theorem rX5_fail : mX5_fail.2.2.2 = none := rfl
theorem aX5_skipWord : mX5_skipWord.1.cls = RX5 := rfl
theorem bX5_skipWord : mX5_skipWord.2.2.1 = 2 := rfl
theorem rX5_skipWord : mX5_skipWord.2.2.2 = (some .boolean) := rfl
theorem aX5_next : mX5_next.1.cls = RX5 := rfl
theorem bX5_next : mX5_next.2.2.1 = 1 := rfl
theorem rX5_next : mX5_next.2.2.2 = none := rfl
theorem aX8_takeNewName : mX8_takeNewName.1.cls = RX8 := rfl
theorem bX8_takeNewName : mX8_takeNewName.2.2.1 = 4 := rfl
theorem rX8_takeNewName : mX8_takeNewName.2.2.2 = (some .long) := rfl
theorem aX5_nameNow : mX5_nameNow.1.cls = RX5 := rfl
theorem bX5_nameNow : mX5_nameNow.2.2.1 = 1 := rfl
theorem rX5_nameNow : mX5_nameNow.2.2.2 = (some .long) := rfl
theorem aX8_floorNamed : mX8_floorNamed.1.cls = RX8 := rfl
theorem bX8_floorNamed : mX8_floorNamed.2.2.1 = 4 := rfl
theorem rX8_floorNamed : mX8_floorNamed.2.2.2 = (some .int) := rfl
theorem aX8_childNamed : mX8_childNamed.1.cls = RX8 := rfl
theorem bX8_childNamed : mX8_childNamed.2.2.1 = 4 := rfl
theorem rX8_childNamed : mX8_childNamed.2.2.2 = (some .int) := rfl
theorem aX8_uncleNamed : mX8_uncleNamed.1.cls = RX8 := rfl
theorem bX8_uncleNamed : mX8_uncleNamed.2.2.1 = 4 := rfl
theorem rX8_uncleNamed : mX8_uncleNamed.2.2.2 = (some .int) := rfl
theorem aX5_takeName : mX5_takeName.1.cls = RX5 := rfl
theorem bX5_takeName : mX5_takeName.2.2.1 = 2 := rfl
theorem rX5_takeName : mX5_takeName.2.2.2 = none := rfl
theorem aX5_takeGift : mX5_takeGift.1.cls = RX5 := rfl
theorem bX5_takeGift : mX5_takeGift.2.2.1 = 2 := rfl
theorem rX5_takeGift : mX5_takeGift.2.2.2 = (some .int) := rfl
theorem aX5_giftNow : mX5_giftNow.1.cls = RX5 := rfl
theorem bX5_giftNow : mX5_giftNow.2.2.1 = 2 := rfl
theorem rX5_giftNow : mX5_giftNow.2.2.2 = (some .int) := rfl
theorem aX5_subjectNow : mX5_subjectNow.1.cls = RX5 := rfl
theorem bX5_subjectNow : mX5_subjectNow.2.2.1 = 2 := rfl
theorem rX5_subjectNow : mX5_subjectNow.2.2.2 = (some .int) := rfl
theorem aX5_takeNumber : mX5_takeNumber.1.cls = RX5 := rfl
theorem bX5_takeNumber : mX5_takeNumber.2.2.1 = 4 := rfl
theorem rX5_takeNumber : mX5_takeNumber.2.2.2 = (some .int) := rfl
theorem aX8_readChild : mX8_readChild.1.cls = RX8 := rfl
theorem bX8_readChild : mX8_readChild.2.2.1 = 5 := rfl
theorem rX8_readChild : mX8_readChild.2.2.2 = none := rfl
theorem aX8_readUncle : mX8_readUncle.1.cls = RX8 := rfl
theorem bX8_readUncle : mX8_readUncle.2.2.1 = 5 := rfl
theorem rX8_readUncle : mX8_readUncle.2.2.2 = none := rfl
theorem aX8_readLaw : mX8_readLaw.1.cls = RX8 := rfl
theorem bX8_readLaw : mX8_readLaw.2.2.1 = 5 := rfl
theorem rX8_readLaw : mX8_readLaw.2.2.2 = none := rfl
theorem aX8_readLikes : mX8_readLikes.1.cls = RX8 := rfl
theorem bX8_readLikes : mX8_readLikes.2.2.1 = 5 := rfl
theorem rX8_readLikes : mX8_readLikes.2.2.2 = none := rfl
theorem aX8_takeFloor : mX8_takeFloor.1.cls = RX8 := rfl
theorem bX8_takeFloor : mX8_takeFloor.2.2.1 = 3 := rfl
theorem rX8_takeFloor : mX8_takeFloor.2.2.2 = (some .int) := rfl
theorem aX8_liking : mX8_liking.1.cls = RX8 := rfl
theorem bX8_liking : mX8_liking.2.2.1 = 3 := rfl
theorem rX8_liking : mX8_liking.2.2.2 = (some .int) := rfl
theorem aX8_readOnce : mX8_readOnce.1.cls = RX8 := rfl
theorem bX8_readOnce : mX8_readOnce.2.2.1 = 5 := rfl
theorem rX8_readOnce : mX8_readOnce.2.2.2 = (some .int) := rfl
theorem aX5_takeSign : mX5_takeSign.1.cls = RX5 := rfl
theorem bX5_takeSign : mX5_takeSign.2.2.1 = 2 := rfl
theorem rX5_takeSign : mX5_takeSign.2.2.2 = none := rfl
theorem aX5_isSignNow : mX5_isSignNow.1.cls = RX5 := rfl
theorem bX5_isSignNow : mX5_isSignNow.2.2.1 = 2 := rfl
theorem rX5_isSignNow : mX5_isSignNow.2.2.2 = (some .boolean) := rfl
theorem aX5_finish : mX5_finish.1.cls = RX5 := rfl
theorem bX5_finish : mX5_finish.2.2.1 = 1 := rfl
theorem rX5_finish : mX5_finish.2.2.2 = none := rfl
theorem aX8_copyFrom : mX8_copyFrom.1.cls = RX8 := rfl
theorem bX8_copyFrom : mX8_copyFrom.2.2.1 = 2 := rfl
theorem rX8_copyFrom : mX8_copyFrom.2.2.2 = none := rfl
theorem aX7_begin : mX7_begin.1.cls = RX7 := rfl
theorem bX7_begin : mX7_begin.2.2.1 = 2 := rfl
theorem rX7_begin : mX7_begin.2.2.2 = none := rfl
theorem aX6_clear : mX6_clear.1.cls = RX6 := rfl
theorem bX6_clear : mX6_clear.2.2.1 = 1 := rfl
theorem rX6_clear : mX6_clear.2.2.2 = none := rfl
theorem aX2_clear : mX2_clear.1.cls = RX2 := rfl
theorem bX2_clear : mX2_clear.2.2.1 = 1 := rfl
theorem rX2_clear : mX2_clear.2.2.2 = none := rfl
theorem aX11_fault : mX11_fault.1.cls = RX11 := rfl
theorem bX11_fault : mX11_fault.2.2.1 = 1 := rfl
theorem rX11_fault : mX11_fault.2.2.2 = (some .int) := rfl
theorem aX11_has : mX11_has.1.cls = RX11 := rfl
theorem bX11_has : mX11_has.2.2.1 = 3 := rfl
theorem rX11_has : mX11_has.2.2.2 = (some .int) := rfl
theorem aX11_isChild : mX11_isChild.1.cls = RX11 := rfl
theorem bX11_isChild : mX11_isChild.2.2.1 = 2 := rfl
theorem rX11_isChild : mX11_isChild.2.2.2 = (some .boolean) := rfl
theorem aX7_amount : mX7_amount.1.cls = RX7 := rfl
theorem bX7_amount : mX7_amount.2.2.1 = 3 := rfl
theorem rX7_amount : mX7_amount.2.2.2 = (some .int) := rfl
theorem aX11_floor : mX11_floor.1.cls = RX11 := rfl
theorem bX11_floor : mX11_floor.2.2.1 = 3 := rfl
theorem rX11_floor : mX11_floor.2.2.2 = (some .int) := rfl
theorem aX11_isFloor : mX11_isFloor.1.cls = RX11 := rfl
theorem bX11_isFloor : mX11_isFloor.2.2.1 = 2 := rfl
theorem rX11_isFloor : mX11_isFloor.2.2.2 = (some .boolean) := rfl
theorem aX7_childOn : mX7_childOn.1.cls = RX7 := rfl
theorem bX7_childOn : mX7_childOn.2.2.1 = 4 := rfl
theorem rX7_childOn : mX7_childOn.2.2.2 = (some .int) := rfl
theorem aX11_uncle : mX11_uncle.1.cls = RX11 := rfl
theorem bX11_uncle : mX11_uncle.2.2.1 = 3 := rfl
theorem rX11_uncle : mX11_uncle.2.2.2 = (some .int) := rfl
theorem aX11_isUncle : mX11_isUncle.1.cls = RX11 := rfl
theorem bX11_isUncle : mX11_isUncle.2.2.1 = 2 := rfl
theorem rX11_isUncle : mX11_isUncle.2.2.2 = (some .boolean) := rfl
theorem aX7_hangs : mX7_hangs.1.cls = RX7 := rfl
theorem bX7_hangs : mX7_hangs.2.2.1 = 2 := rfl
theorem rX7_hangs : mX7_hangs.2.2.2 = (some .boolean) := rfl
theorem aX11_law : mX11_law.1.cls = RX11 := rfl
theorem bX11_law : mX11_law.2.2.1 = 2 := rfl
theorem rX11_law : mX11_law.2.2.2 = (some .int) := rfl
theorem aX11_now : mX11_now.1.cls = RX11 := rfl
theorem bX11_now : mX11_now.2.2.1 = 2 := rfl
theorem rX11_now : mX11_now.2.2.2 = (some .int) := rfl
theorem aX7_balance : mX7_balance.1.cls = RX7 := rfl
theorem bX7_balance : mX7_balance.2.2.1 = 2 := rfl
theorem rX7_balance : mX7_balance.2.2.2 = (some .int) := rfl
theorem aX8_weightOf : mX8_weightOf.1.cls = RX8 := rfl
theorem bX8_weightOf : mX8_weightOf.2.2.1 = 4 := rfl
theorem rX8_weightOf : mX8_weightOf.2.2.2 = (some .int) := rfl
theorem aX7_servedBits : mX7_servedBits.1.cls = RX7 := rfl
theorem bX7_servedBits : mX7_servedBits.2.2.1 = 4 := rfl
theorem rX7_servedBits : mX7_servedBits.2.2.2 = (some .int) := rfl
theorem aX7_readyBits : mX7_readyBits.1.cls = RX7 := rfl
theorem bX7_readyBits : mX7_readyBits.2.2.1 = 4 := rfl
theorem rX7_readyBits : mX7_readyBits.2.2.2 = (some .int) := rfl
theorem aX7_lacking : mX7_lacking.1.cls = RX7 := rfl
theorem bX7_lacking : mX7_lacking.2.2.1 = 5 := rfl
theorem rX7_lacking : mX7_lacking.2.2.2 = (some .int) := rfl
theorem aX7_upstairsBits : mX7_upstairsBits.1.cls = RX7 := rfl
theorem bX7_upstairsBits : mX7_upstairsBits.2.2.1 = 4 := rfl
theorem rX7_upstairsBits : mX7_upstairsBits.2.2.2 = (some .int) := rfl
theorem aX11_send : mX11_send.1.cls = RX11 := rfl
theorem bX11_send : mX11_send.2.2.1 = 3 := rfl
theorem rX11_send : mX11_send.2.2.2 = (some .int) := rfl
theorem aX11_perform : mX11_perform.1.cls = RX11 := rfl
theorem bX11_perform : mX11_perform.2.2.1 = 5 := rfl
theorem rX11_perform : mX11_perform.2.2.2 = (some .int) := rfl
theorem aX7_whyNot : mX7_whyNot.1.cls = RX7 := rfl
theorem bX7_whyNot : mX7_whyNot.2.2.1 = 5 := rfl
theorem rX7_whyNot : mX7_whyNot.2.2.2 = (some .int) := rfl
theorem aX7_whyNotSent : mX7_whyNotSent.1.cls = RX7 := rfl
theorem bX7_whyNotSent : mX7_whyNotSent.2.2.1 = 4 := rfl
theorem rX7_whyNotSent : mX7_whyNotSent.2.2.2 = (some .int) := rfl
theorem aX7_whyNotServed : mX7_whyNotServed.1.cls = RX7 := rfl
theorem bX7_whyNotServed : mX7_whyNotServed.2.2.1 = 3 := rfl
theorem rX7_whyNotServed : mX7_whyNotServed.2.2.2 = (some .int) := rfl
theorem aX2_push : mX2_push.1.cls = RX2 := rfl
theorem bX2_push : mX2_push.2.2.1 = 2 := rfl
theorem rX2_push : mX2_push.2.2.2 = none := rfl
theorem aX7_copyFrom : mX7_copyFrom.1.cls = RX7 := rfl
theorem bX7_copyFrom : mX7_copyFrom.2.2.1 = 2 := rfl
theorem rX7_copyFrom : mX7_copyFrom.2.2.2 = none := rfl
theorem aX7_act : mX7_act.1.cls = RX7 := rfl
theorem bX7_act : mX7_act.2.2.1 = 6 := rfl
theorem rX7_act : mX7_act.2.2.2 = none := rfl
theorem aX7_moveTo : mX7_moveTo.1.cls = RX7 := rfl
theorem bX7_moveTo : mX7_moveTo.2.2.1 = 5 := rfl
theorem rX7_moveTo : mX7_moveTo.2.2.2 = none := rfl
theorem aJ9_abs_0f7a4 : mJ9_abs_0f7a4.1.cls = RJ9 := rfl
theorem bJ9_abs_0f7a4 : mJ9_abs_0f7a4.2.2.1 = 1 := rfl
theorem rJ9_abs_0f7a4 : mJ9_abs_0f7a4.2.2.2 = (some .int) := rfl
theorem aX7_offBalance : mX7_offBalance.1.cls = RX7 := rfl
theorem bX7_offBalance : mX7_offBalance.2.2.1 = 3 := rfl
theorem rX7_offBalance : mX7_offBalance.2.2.2 = (some .int) := rfl
theorem aX7_bringBack : mX7_bringBack.1.cls = RX7 := rfl
theorem bX7_bringBack : mX7_bringBack.2.2.1 = 3 := rfl
theorem rX7_bringBack : mX7_bringBack.2.2.2 = none := rfl
theorem aX7_passHour : mX7_passHour.1.cls = RX7 := rfl
theorem bX7_passHour : mX7_passHour.2.2.1 = 4 := rfl
theorem rX7_passHour : mX7_passHour.2.2.2 = none := rfl
theorem aX7_receive : mX7_receive.1.cls = RX7 := rfl
theorem bX7_receive : mX7_receive.2.2.1 = 5 := rfl
theorem rX7_receive : mX7_receive.2.2.2 = none := rfl
theorem aX7_areNeighbours : mX7_areNeighbours.1.cls = RX7 := rfl
theorem bX7_areNeighbours : mX7_areNeighbours.2.2.1 = 3 := rfl
theorem rX7_areNeighbours : mX7_areNeighbours.2.2.2 = (some .boolean) := rfl
theorem aX7_talk : mX7_talk.1.cls = RX7 := rfl
theorem bX7_talk : mX7_talk.2.2.1 = 5 := rfl
theorem rX7_talk : mX7_talk.2.2.2 = none := rfl
theorem aX7_growOlder : mX7_growOlder.1.cls = RX7 := rfl
theorem bX7_growOlder : mX7_growOlder.2.2.1 = 3 := rfl
theorem rX7_growOlder : mX7_growOlder.2.2.2 = none := rfl
theorem aX11_hang : mX11_hang.1.cls = RX11 := rfl
theorem bX11_hang : mX11_hang.2.2.1 = 2 := rfl
theorem rX11_hang : mX11_hang.2.2.2 = (some .int) := rfl
theorem aX11_take : mX11_take.1.cls = RX11 := rfl
theorem bX11_take : mX11_take.2.2.1 = 2 := rfl
theorem rX11_take : mX11_take.2.2.2 = (some .int) := rfl
theorem aX11_serve : mX11_serve.1.cls = RX11 := rfl
theorem bX11_serve : mX11_serve.2.2.1 = 2 := rfl
theorem rX11_serve : mX11_serve.2.2.2 = (some .int) := rfl
theorem aX11_back : mX11_back.1.cls = RX11 := rfl
theorem bX11_back : mX11_back.2.2.1 = 2 := rfl
theorem rX11_back : mX11_back.2.2.2 = (some .int) := rfl
theorem aX11_hours : mX11_hours.1.cls = RX11 := rfl
theorem bX11_hours : mX11_hours.2.2.1 = 3 := rfl
theorem rX11_hours : mX11_hours.2.2.2 = (some .int) := rfl
theorem aX11_undo : mX11_undo.1.cls = RX11 := rfl
theorem bX11_undo : mX11_undo.2.2.1 = 1 := rfl
theorem rX11_undo : mX11_undo.2.2.2 = (some .int) := rfl
theorem aX2_pop : mX2_pop.1.cls = RX2 := rfl
theorem bX2_pop : mX2_pop.2.2.1 = 2 := rfl
theorem rX2_pop : mX2_pop.2.2.2 = (some .boolean) := rfl
theorem aX11_when : mX11_when.1.cls = RX11 := rfl
theorem bX11_when : mX11_when.2.2.1 = 3 := rfl
theorem rX11_when : mX11_when.2.2.2 = (some .int) := rfl
theorem aX11_plan : mX11_plan.1.cls = RX11 := rfl
theorem bX11_plan : mX11_plan.2.2.1 = 2 := rfl
theorem rX11_plan : mX11_plan.2.2.2 = (some .int) := rfl
theorem aX4_make : mX4_make.1.cls = RX4 := rfl
theorem bX4_make : mX4_make.2.2.1 = 9 := rfl
theorem rX4_make : mX4_make.2.2.2 = (some .int) := rfl
theorem aX4_richestFloor : mX4_richestFloor.1.cls = RX4 := rfl
theorem bX4_richestFloor : mX4_richestFloor.2.2.1 = 4 := rfl
theorem rX4_richestFloor : mX4_richestFloor.2.2.2 = (some .int) := rfl
theorem aX4_insert : mX4_insert.1.cls = RX4 := rfl
theorem bX4_insert : mX4_insert.2.2.1 = 4 := rfl
theorem rX4_insert : mX4_insert.2.2.2 = none := rfl
theorem aX4_findOrder : mX4_findOrder.1.cls = RX4 := rfl
theorem bX4_findOrder : mX4_findOrder.2.2.1 = 5 := rfl
theorem rX4_findOrder : mX4_findOrder.2.2.2 = none := rfl
theorem aX4_pick : mX4_pick.1.cls = RX4 := rfl
theorem bX4_pick : mX4_pick.2.2.1 = 6 := rfl
theorem rX4_pick : mX4_pick.2.2.2 = (some .boolean) := rfl
theorem aJ6_bitCount_0f7a4 : mJ6_bitCount_0f7a4.1.cls = RJ6 := rfl
theorem bJ6_bitCount_0f7a4 : mJ6_bitCount_0f7a4.2.2.1 = 1 := rfl
theorem rJ6_bitCount_0f7a4 : mJ6_bitCount_0f7a4.2.2.2 = (some .int) := rfl
theorem aX4_pickedLength : mX4_pickedLength.1.cls = RX4 := rfl
theorem bX4_pickedLength : mX4_pickedLength.2.2.1 = 5 := rfl
theorem rX4_pickedLength : mX4_pickedLength.2.2.2 = (some .int) := rfl
theorem aX11_planAt : mX11_planAt.1.cls = RX11 := rfl
theorem bX11_planAt : mX11_planAt.2.2.1 = 2 := rfl
theorem rX11_planAt : mX11_planAt.2.2.2 = (some .int) := rfl
theorem aX11_passes : mX11_passes.1.cls = RX11 := rfl
theorem bX11_passes : mX11_passes.2.2.1 = 1 := rfl
theorem rX11_passes : mX11_passes.2.2.2 = (some .int) := rfl
theorem aX11_been : mX11_been.1.cls = RX11 := rfl
theorem bX11_been : mX11_been.2.2.1 = 3 := rfl
theorem rX11_been : mX11_been.2.2.2 = (some .int) := rfl
theorem aX9_search : mX9_search.1.cls = RX9 := rfl
theorem bX9_search : mX9_search.2.2.1 = 5 := rfl
theorem rX9_search : mX9_search.2.2.2 = (some .int) := rfl
theorem aX9_walk : mX9_walk.1.cls = RX9 := rfl
theorem bX9_walk : mX9_walk.2.2.1 = 6 := rfl
theorem rX9_walk : mX9_walk.2.2.2 = none := rfl
theorem aX9_noteRow : mX9_noteRow.1.cls = RX9 := rfl
theorem bX9_noteRow : mX9_noteRow.2.2.1 = 3 := rfl
theorem rX9_noteRow : mX9_noteRow.2.2.2 = none := rfl
theorem aX9_bestQuestion : mX9_bestQuestion.1.cls = RX9 := rfl
theorem bX9_bestQuestion : mX9_bestQuestion.2.2.1 = 7 := rfl
theorem rX9_bestQuestion : mX9_bestQuestion.2.2.2 = (some .int) := rfl
theorem aJ9_max_7cf53 : mJ9_max_7cf53.1.cls = RJ9 := rfl
theorem bJ9_max_7cf53 : mJ9_max_7cf53.2.2.1 = 2 := rfl
theorem rJ9_max_7cf53 : mJ9_max_7cf53.2.2.2 = (some .int) := rfl
theorem aX11_beenAt : mX11_beenAt.1.cls = RX11 := rfl
theorem bX11_beenAt : mX11_beenAt.2.2.1 = 2 := rfl
theorem rX11_beenAt : mX11_beenAt.2.2.2 = (some .int) := rfl
theorem aX11_ask : mX11_ask.1.cls = RX11 := rfl
theorem bX11_ask : mX11_ask.2.2.1 = 1 := rfl
theorem rX11_ask : mX11_ask.2.2.2 = (some .int) := rfl
theorem aX11_hung : mX11_hung.1.cls = RX11 := rfl
theorem bX11_hung : mX11_hung.2.2.1 = 6 := rfl
theorem rX11_hung : mX11_hung.2.2.2 = (some .int) := rfl
theorem aX11_hanging : mX11_hanging.1.cls = RX11 := rfl
theorem bX11_hanging : mX11_hanging.2.2.1 = 1 := rfl
theorem rX11_hanging : mX11_hanging.2.2.2 = (some .int) := rfl
theorem aX11_holds : mX11_holds.1.cls = RX11 := rfl
theorem bX11_holds : mX11_holds.2.2.1 = 4 := rfl
theorem rX11_holds : mX11_holds.2.2.2 = (some .int) := rfl
theorem aX11_web : mX11_web.1.cls = RX11 := rfl
theorem bX11_web : mX11_web.2.2.1 = 5 := rfl
theorem rX11_web : mX11_web.2.2.2 = (some .int) := rfl
theorem aX7_neighbours : mX7_neighbours.1.cls = RX7 := rfl
theorem bX7_neighbours : mX7_neighbours.2.2.1 = 5 := rfl
theorem rX7_neighbours : mX7_neighbours.2.2.2 = (some .int) := rfl
theorem aX11_bargain : mX11_bargain.1.cls = RX11 := rfl
theorem bX11_bargain : mX11_bargain.2.2.1 = 1 := rfl
theorem rX11_bargain : mX11_bargain.2.2.2 = (some .int) := rfl
theorem aX0_settle : mX0_settle.1.cls = RX0 := rfl
theorem bX0_settle : mX0_settle.2.2.1 = 5 := rfl
theorem rX0_settle : mX0_settle.2.2.2 = (some .int) := rfl
theorem aX0_makeOffer : mX0_makeOffer.1.cls = RX0 := rfl
theorem bX0_makeOffer : mX0_makeOffer.2.2.1 = 5 := rfl
theorem rX0_makeOffer : mX0_makeOffer.2.2.2 = (some .boolean) := rfl
theorem aX0_dearestFloor : mX0_dearestFloor.1.cls = RX0 := rfl
theorem bX0_dearestFloor : mX0_dearestFloor.2.2.1 = 7 := rfl
theorem rX0_dearestFloor : mX0_dearestFloor.2.2.2 = (some .int) := rfl
theorem aX0_choose : mX0_choose.1.cls = RX0 := rfl
theorem bX0_choose : mX0_choose.2.2.1 = 6 := rfl
theorem rX0_choose : mX0_choose.2.2.2 = none := rfl
theorem aX11_bargained : mX11_bargained.1.cls = RX11 := rfl
theorem bX11_bargained : mX11_bargained.2.2.1 = 2 := rfl
theorem rX11_bargained : mX11_bargained.2.2.2 = (some .int) := rfl
theorem aX11_cover : mX11_cover.1.cls = RX11 := rfl
theorem bX11_cover : mX11_cover.2.2.1 = 3 := rfl
theorem rX11_cover : mX11_cover.2.2.2 = (some .int) := rfl
theorem aX11_chalkName : mX11_chalkName.1.cls = RX11 := rfl
theorem bX11_chalkName : mX11_chalkName.2.2.1 = 5 := rfl
theorem rX11_chalkName : mX11_chalkName.2.2.2 = none := rfl
theorem aX11_chalkByte : mX11_chalkByte.1.cls = RX11 := rfl
theorem bX11_chalkByte : mX11_chalkByte.2.2.1 = 2 := rfl
theorem rX11_chalkByte : mX11_chalkByte.2.2.2 = none := rfl
theorem aX11_chalkText : mX11_chalkText.1.cls = RX11 := rfl
theorem bX11_chalkText : mX11_chalkText.2.2.1 = 3 := rfl
theorem rX11_chalkText : mX11_chalkText.2.2.2 = none := rfl
theorem aJ0_length_8abf5 : mJ0_length_8abf5.1.cls = RJ0 := rfl
theorem bJ0_length_8abf5 : mJ0_length_8abf5.2.2.1 = 1 := rfl
theorem rJ0_length_8abf5 : mJ0_length_8abf5.2.2.2 = (some .int) := rfl
theorem aJ0_coder_7d493 : mJ0_coder_7d493.1.cls = RJ0 := rfl
theorem bJ0_coder_7d493 : mJ0_coder_7d493.2.2.1 = 1 := rfl
theorem rJ0_coder_7d493 : mJ0_coder_7d493.2.2.2 = (some .byte) := rfl
theorem aJ0_charAt_5068e : mJ0_charAt_5068e.1.cls = RJ0 := rfl
theorem bJ0_charAt_5068e : mJ0_charAt_5068e.2.2.1 = 2 := rfl
theorem rJ0_charAt_5068e : mJ0_charAt_5068e.2.2.2 = (some .char) := rfl
theorem aJ0_isLatin1_aae02 : mJ0_isLatin1_aae02.1.cls = RJ0 := rfl
theorem bJ0_isLatin1_aae02 : mJ0_isLatin1_aae02.2.2.1 = 1 := rfl
theorem rJ0_isLatin1_aae02 : mJ0_isLatin1_aae02.2.2.2 = (some .boolean) := rfl
theorem aJ1_charAt_3b067 : mJ1_charAt_3b067.1.cls = RJ1 := rfl
theorem bJ1_charAt_3b067 : mJ1_charAt_3b067.2.2.1 = 2 := rfl
theorem rJ1_charAt_3b067 : mJ1_charAt_3b067.2.2.2 = (some .char) := rfl
theorem aJ0_checkIndex_df160 : mJ0_checkIndex_df160.1.cls = RJ0 := rfl
theorem bJ0_checkIndex_df160 : mJ0_checkIndex_df160.2.2.1 = 2 := rfl
theorem rJ0_checkIndex_df160 : mJ0_checkIndex_df160.2.2.2 = none := rfl
theorem aJ3_checkIndex_8e157 : mJ3_checkIndex_8e157.1.cls = RJ3 := rfl
theorem bJ3_checkIndex_8e157 : mJ3_checkIndex_8e157.2.2.1 = 3 := rfl
theorem rJ3_checkIndex_8e157 : mJ3_checkIndex_8e157.2.2.2 = (some .int) := rfl
theorem aJ2_charAt_3b067 : mJ2_charAt_3b067.1.cls = RJ2 := rfl
theorem bJ2_charAt_3b067 : mJ2_charAt_3b067.2.2.1 = 2 := rfl
theorem rJ2_charAt_3b067 : mJ2_charAt_3b067.2.2.2 = (some .char) := rfl
theorem aJ2_checkIndex_2214a : mJ2_checkIndex_2214a.1.cls = RJ2 := rfl
theorem bJ2_checkIndex_2214a : mJ2_checkIndex_2214a.2.2.1 = 2 := rfl
theorem rJ2_checkIndex_2214a : mJ2_checkIndex_2214a.2.2.2 = none := rfl
theorem aJ2_length_9d52b : mJ2_length_9d52b.1.cls = RJ2 := rfl
theorem bJ2_length_9d52b : mJ2_length_9d52b.2.2.1 = 1 := rfl
theorem rJ2_length_9d52b : mJ2_length_9d52b.2.2.2 = (some .int) := rfl
theorem aJ2_getChar_3b067 : mJ2_getChar_3b067.1.cls = RJ2 := rfl
theorem bJ2_getChar_3b067 : mJ2_getChar_3b067.2.2.1 = 2 := rfl
theorem rJ2_getChar_3b067 : mJ2_getChar_3b067.2.2.2 = (some .char) := rfl
theorem aX11_chalkLacking : mX11_chalkLacking.1.cls = RX11 := rfl
theorem bX11_chalkLacking : mX11_chalkLacking.2.2.1 = 3 := rfl
theorem rX11_chalkLacking : mX11_chalkLacking.2.2.2 = none := rfl
theorem aX10_packedGift : mX10_packedGift.1.cls = RX10 := rfl
theorem bX10_packedGift : mX10_packedGift.2.2.1 = 5 := rfl
theorem rX10_packedGift : mX10_packedGift.2.2.2 = (some .long) := rfl
theorem aX11_byteAt : mX11_byteAt.1.cls = RX11 := rfl
theorem bX11_byteAt : mX11_byteAt.2.2.1 = 2 := rfl
theorem rX11_byteAt : mX11_byteAt.2.2.2 = (some .int) := rfl
theorem aX11_drawn : mX11_drawn.1.cls = RX11 := rfl
theorem bX11_drawn : mX11_drawn.2.2.1 = 3 := rfl
theorem rX11_drawn : mX11_drawn.2.2.2 = (some .int) := rfl
theorem aX7_drawHours : mX7_drawHours.1.cls = RX7 := rfl
theorem bX7_drawHours : mX7_drawHours.2.2.1 = 6 := rfl
theorem rX7_drawHours : mX7_drawHours.2.2.2 = (some .int) := rfl
theorem aX7_drawDeeds : mX7_drawDeeds.1.cls = RX7 := rfl
theorem bX7_drawDeeds : mX7_drawDeeds.2.2.1 = 7 := rfl
theorem rX7_drawDeeds : mX7_drawDeeds.2.2.2 = (some .int) := rfl
theorem aX7_nextDraw : mX7_nextDraw.1.cls = RX7 := rfl
theorem bX7_nextDraw : mX7_nextDraw.2.2.1 = 1 := rfl
theorem rX7_nextDraw : mX7_nextDraw.2.2.2 = (some .int) := rfl
theorem aX7_drawOf : mX7_drawOf.1.cls = RX7 := rfl
theorem bX7_drawOf : mX7_drawOf.2.2.1 = 2 := rfl
theorem rX7_drawOf : mX7_drawOf.2.2.2 = (some .int) := rfl
theorem aX11_odds : mX11_odds.1.cls = RX11 := rfl
theorem bX11_odds : mX11_odds.2.2.1 = 6 := rfl
theorem rX11_odds : mX11_odds.2.2.2 = (some .int) := rfl
theorem aX11_book : mX11_book.1.cls = RX11 := rfl
theorem bX11_book : mX11_book.2.2.1 = 3 := rfl
theorem rX11_book : mX11_book.2.2.2 = (some .int) := rfl
theorem aX1_readFrom : mX1_readFrom.1.cls = RX1 := rfl
theorem bX1_readFrom : mX1_readFrom.2.2.1 = 4 := rfl
theorem rX1_readFrom : mX1_readFrom.2.2.2 = none := rfl
theorem aX1_readLine : mX1_readLine.1.cls = RX1 := rfl
theorem bX1_readLine : mX1_readLine.2.2.1 = 4 := rfl
theorem rX1_readLine : mX1_readLine.2.2.2 = none := rfl
theorem aX1_deedNow : mX1_deedNow.1.cls = RX1 := rfl
theorem bX1_deedNow : mX1_deedNow.2.2.1 = 1 := rfl
theorem rX1_deedNow : mX1_deedNow.2.2.2 = (some .int) := rfl
theorem aX1_takeWho : mX1_takeWho.1.cls = RX1 := rfl
theorem bX1_takeWho : mX1_takeWho.2.2.1 = 3 := rfl
theorem rX1_takeWho : mX1_takeWho.2.2.2 = (some .int) := rfl
theorem aX8_takeUncle : mX8_takeUncle.1.cls = RX8 := rfl
theorem bX8_takeUncle : mX8_takeUncle.2.2.1 = 3 := rfl
theorem rX8_takeUncle : mX8_takeUncle.2.2.2 = (some .int) := rfl
theorem aX8_takeChild : mX8_takeChild.1.cls = RX8 := rfl
theorem bX8_takeChild : mX8_takeChild.2.2.1 = 3 := rfl
theorem rX8_takeChild : mX8_takeChild.2.2.2 = (some .int) := rfl
theorem aX8_takeFloorOrCellar : mX8_takeFloorOrCellar.1.cls = RX8 := rfl
theorem bX8_takeFloorOrCellar : mX8_takeFloorOrCellar.2.2.1 = 3 := rfl
theorem rX8_takeFloorOrCellar : mX8_takeFloorOrCellar.2.2.2 = (some .int) := rfl
theorem aX1_live : mX1_live.1.cls = RX1 := rfl
theorem bX1_live : mX1_live.2.2.1 = 5 := rfl
theorem rX1_live : mX1_live.2.2.2 = (some .int) := rfl
theorem aX11_told : mX11_told.1.cls = RX11 := rfl
theorem bX11_told : mX11_told.2.2.1 = 2 := rfl
theorem rX11_told : mX11_told.2.2.2 = (some .int) := rfl
theorem aX11_sentence : mX11_sentence.1.cls = RX11 := rfl
theorem bX11_sentence : mX11_sentence.2.2.1 = 1 := rfl
theorem rX11_sentence : mX11_sentence.2.2.2 = (some .int) := rfl
theorem aX6_readFrom : mX6_readFrom.1.cls = RX6 := rfl
theorem bX6_readFrom : mX6_readFrom.2.2.1 = 3 := rfl
theorem rX6_readFrom : mX6_readFrom.2.2.2 = none := rfl
theorem aX6_readCondition : mX6_readCondition.1.cls = RX6 := rfl
theorem bX6_readCondition : mX6_readCondition.2.2.1 = 7 := rfl
theorem rX6_readCondition : mX6_readCondition.2.2.2 = none := rfl
theorem aX6_readOne : mX6_readOne.1.cls = RX6 := rfl
theorem bX6_readOne : mX6_readOne.2.2.1 = 4 := rfl
theorem rX6_readOne : mX6_readOne.2.2.2 = none := rfl
theorem aX6_beginsOne : mX6_beginsOne.1.cls = RX6 := rfl
theorem bX6_beginsOne : mX6_beginsOne.2.2.1 = 1 := rfl
theorem rX6_beginsOne : mX6_beginsOne.2.2.2 = (some .boolean) := rfl
theorem aX6_add : mX6_add.1.cls = RX6 := rfl
theorem bX6_add : mX6_add.2.2.1 = 5 := rfl
theorem rX6_add : mX6_add.2.2.2 = none := rfl
theorem aX6_readSimple : mX6_readSimple.1.cls = RX6 := rfl
theorem bX6_readSimple : mX6_readSimple.2.2.1 = 5 := rfl
theorem rX6_readSimple : mX6_readSimple.2.2.2 = none := rfl
theorem aX5_takeComparison : mX5_takeComparison.1.cls = RX5 := rfl
theorem bX5_takeComparison : mX5_takeComparison.2.2.1 = 2 := rfl
theorem rX5_takeComparison : mX5_takeComparison.2.2.2 = (some .int) := rfl
theorem aX6_copyFrom : mX6_copyFrom.1.cls = RX6 := rfl
theorem bX6_copyFrom : mX6_copyFrom.2.2.1 = 2 := rfl
theorem rX6_copyFrom : mX6_copyFrom.2.2.2 = none := rfl
theorem aX11_said : mX11_said.1.cls = RX11 := rfl
theorem bX11_said : mX11_said.2.2.1 = 4 := rfl
theorem rX11_said : mX11_said.2.2.2 = (some .int) := rfl
theorem aX6_holdsOf : mX6_holdsOf.1.cls = RX6 := rfl
theorem bX6_holdsOf : mX6_holdsOf.2.2.1 = 7 := rfl
theorem rX6_holdsOf : mX6_holdsOf.2.2.2 = (some .boolean) := rfl
theorem aX6_isTrue : mX6_isTrue.1.cls = RX6 := rfl
theorem bX6_isTrue : mX6_isTrue.2.2.1 = 5 := rfl
theorem rX6_isTrue : mX6_isTrue.2.2.2 = (some .boolean) := rfl
theorem aX6_amountOf : mX6_amountOf.1.cls = RX6 := rfl
theorem bX6_amountOf : mX6_amountOf.2.2.1 = 3 := rfl
theorem rX6_amountOf : mX6_amountOf.2.2.2 = (some .int) := rfl
theorem aX6_compares : mX6_compares.1.cls = RX6 := rfl
theorem bX6_compares : mX6_compares.2.2.1 = 3 := rfl
theorem rX6_compares : mX6_compares.2.2.2 = (some .boolean) := rfl
theorem aX11_image : mX11_image.1.cls = RX11 := rfl
theorem bX11_image : mX11_image.2.2.1 = 2 := rfl
theorem rX11_image : mX11_image.2.2.2 = (some .boolean) := rfl
theorem aX3_keep : mX3_keep.1.cls = RX3 := rfl
theorem bX3_keep : mX3_keep.2.2.1 = 4 := rfl
theorem rX3_keep : mX3_keep.2.2.2 = none := rfl
theorem aX11_restore : mX11_restore.1.cls = RX11 := rfl
theorem bX11_restore : mX11_restore.2.2.1 = 2 := rfl
theorem rX11_restore : mX11_restore.2.2.2 = (some .boolean) := rfl
theorem aX3_giveBack : mX3_giveBack.1.cls = RX3 := rfl
theorem bX3_giveBack : mX3_giveBack.2.2.1 = 4 := rfl
theorem rX3_giveBack : mX3_giveBack.2.2.2 = none := rfl
theorem aX11_count : mX11_count.1.cls = RX11 := rfl
theorem bX11_count : mX11_count.2.2.1 = 2 := rfl
theorem rX11_count : mX11_count.2.2.2 = (some .int) := rfl
theorem aX11_child : mX11_child.1.cls = RX11 := rfl
theorem bX11_child : mX11_child.2.2.1 = 3 := rfl
theorem rX11_child : mX11_child.2.2.2 = (some .int) := rfl
theorem aX12_thrown : mX12_thrown.1.cls = RX12 := rfl
theorem bX12_thrown : mX12_thrown.2.2.1 = 1 := rfl
theorem rX12_thrown : mX12_thrown.2.2.2 = (some .int) := rfl
theorem aX12_feed : mX12_feed.1.cls = RX12 := rfl
theorem bX12_feed : mX12_feed.2.2.1 = 6 := rfl
theorem rX12_feed : mX12_feed.2.2.2 = (some .int) := rfl
theorem aX12_four : mX12_four.1.cls = RX12 := rfl
theorem bX12_four : mX12_four.2.2.1 = 3 := rfl
theorem rX12_four : mX12_four.2.2.2 = none := rfl
theorem aX12_end : mX12_end.1.cls = RX12 := rfl
theorem bX12_end : mX12_end.2.2.1 = 2 := rfl
theorem rX12_end : mX12_end.2.2.2 = (some .boolean) := rfl
theorem aX12_init : mX12_init.1.cls = RX12 := rfl
theorem bX12_init : mX12_init.2.2.1 = 2 := rfl
theorem rX12_init : mX12_init.2.2.2 = none := rfl
theorem aX12_clears : mX12_clears.1.cls = RX12 := rfl
theorem bX12_clears : mX12_clears.2.2.1 = 2 := rfl
theorem rX12_clears : mX12_clears.2.2.2 = none := rfl
theorem aX12_tower : mX12_tower.1.cls = RX12 := rfl
theorem bX12_tower : mX12_tower.2.2.1 = 2 := rfl
theorem rX12_tower : mX12_tower.2.2.2 = (some .int) := rfl
theorem aX12_taken : mX12_taken.1.cls = RX12 := rfl
theorem bX12_taken : mX12_taken.2.2.1 = 2 := rfl
theorem rX12_taken : mX12_taken.2.2.2 = none := rfl
theorem aX12_next : mX12_next.1.cls = RX12 := rfl
theorem bX12_next : mX12_next.2.2.1 = 4 := rfl
theorem rX12_next : mX12_next.2.2.2 = none := rfl
theorem aX12_peek : mX12_peek.1.cls = RX12 := rfl
theorem bX12_peek : mX12_peek.2.2.1 = 1 := rfl
theorem rX12_peek : mX12_peek.2.2.2 = (some .int) := rfl
theorem aX12_isSmall : mX12_isSmall.1.cls = RX12 := rfl
theorem bX12_isSmall : mX12_isSmall.2.2.1 = 1 := rfl
theorem rX12_isSmall : mX12_isSmall.2.2.2 = (some .boolean) := rfl
theorem aX12_isDigit : mX12_isDigit.1.cls = RX12 := rfl
theorem bX12_isDigit : mX12_isDigit.2.2.1 = 1 := rfl
theorem rX12_isDigit : mX12_isDigit.2.2.2 = (some .boolean) := rfl
theorem aX12_line : mX12_line.1.cls = RX12 := rfl
theorem bX12_line : mX12_line.2.2.1 = 2 := rfl
theorem rX12_line : mX12_line.2.2.2 = (some .boolean) := rfl
theorem aX12_isWord : mX12_isWord.1.cls = RX12 := rfl
theorem bX12_isWord : mX12_isWord.2.2.1 = 3 := rfl
theorem rX12_isWord : mX12_isWord.2.2.2 = (some .boolean) := rfl
theorem aX12_readFloor : mX12_readFloor.1.cls = RX12 := rfl
theorem bX12_readFloor : mX12_readFloor.2.2.1 = 2 := rfl
theorem rX12_readFloor : mX12_readFloor.2.2.2 = (some .boolean) := rfl
theorem aX12_bad : mX12_bad.1.cls = RX12 := rfl
theorem bX12_bad : mX12_bad.2.2.1 = 2 := rfl
theorem rX12_bad : mX12_bad.2.2.2 = (some .boolean) := rfl
theorem aX12_fresh : mX12_fresh.1.cls = RX12 := rfl
theorem bX12_fresh : mX12_fresh.2.2.1 = 2 := rfl
theorem rX12_fresh : mX12_fresh.2.2.2 = (some .boolean) := rfl
theorem aX12_isName : mX12_isName.1.cls = RX12 := rfl
theorem bX12_isName : mX12_isName.2.2.1 = 3 := rfl
theorem rX12_isName : mX12_isName.2.2.2 = (some .boolean) := rfl
theorem aX12_find : mX12_find.1.cls = RX12 := rfl
theorem bX12_find : mX12_find.2.2.1 = 4 := rfl
theorem rX12_find : mX12_find.2.2.2 = (some .int) := rfl
theorem aX12_takesGift : mX12_takesGift.1.cls = RX12 := rfl
theorem bX12_takesGift : mX12_takesGift.2.2.1 = 1 := rfl
theorem rX12_takesGift : mX12_takesGift.2.2.2 = (some .boolean) := rfl
theorem aX12_giftWord : mX12_giftWord.1.cls = RX12 := rfl
theorem bX12_giftWord : mX12_giftWord.2.2.1 = 2 := rfl
theorem rX12_giftWord : mX12_giftWord.2.2.2 = (some .int) := rfl
theorem aX12_puts : mX12_puts.1.cls = RX12 := rfl
theorem bX12_puts : mX12_puts.2.2.1 = 4 := rfl
theorem rX12_puts : mX12_puts.2.2.2 = (some .boolean) := rfl
theorem aX12_takes : mX12_takes.1.cls = RX12 := rfl
theorem bX12_takes : mX12_takes.2.2.1 = 3 := rfl
theorem rX12_takes : mX12_takes.2.2.2 = (some .boolean) := rfl
theorem aX12_isIn : mX12_isIn.1.cls = RX12 := rfl
theorem bX12_isIn : mX12_isIn.2.2.1 = 3 := rfl
theorem rX12_isIn : mX12_isIn.2.2.2 = (some .boolean) := rfl
theorem aX12_readLaw : mX12_readLaw.1.cls = RX12 := rfl
theorem bX12_readLaw : mX12_readLaw.2.2.1 = 2 := rfl
theorem rX12_readLaw : mX12_readLaw.2.2.2 = (some .boolean) := rfl
theorem aX12_readLike : mX12_readLike.1.cls = RX12 := rfl
theorem bX12_readLike : mX12_readLike.2.2.1 = 2 := rfl
theorem rX12_readLike : mX12_readLike.2.2.2 = (some .boolean) := rfl
theorem aX12_takesName : mX12_takesName.1.cls = RX12 := rfl
theorem bX12_takesName : mX12_takesName.2.2.1 = 3 := rfl
theorem rX12_takesName : mX12_takesName.2.2.2 = (some .boolean) := rfl
theorem aX12_looksAt : mX12_looksAt.1.cls = RX12 := rfl
theorem bX12_looksAt : mX12_looksAt.2.2.1 = 3 := rfl
theorem rX12_looksAt : mX12_looksAt.2.2.2 = (some .boolean) := rfl
theorem aX12_once : mX12_once.1.cls = RX12 := rfl
theorem bX12_once : mX12_once.2.2.1 = 5 := rfl
theorem rX12_once : mX12_once.2.2.2 = (some .boolean) := rfl
theorem aX12_bitOf : mX12_bitOf.1.cls = RX12 := rfl
theorem bX12_bitOf : mX12_bitOf.2.2.1 = 2 := rfl
theorem rX12_bitOf : mX12_bitOf.2.2.2 = (some .boolean) := rfl
theorem aX12_sign : mX12_sign.1.cls = RX12 := rfl
theorem bX12_sign : mX12_sign.2.2.1 = 2 := rfl
theorem rX12_sign : mX12_sign.2.2.2 = (some .boolean) := rfl
theorem aX12_isSign : mX12_isSign.1.cls = RX12 := rfl
theorem bX12_isSign : mX12_isSign.2.2.1 = 2 := rfl
theorem rX12_isSign : mX12_isSign.2.2.2 = (some .boolean) := rfl
theorem aX12_fault : mX12_fault.1.cls = RX12 := rfl
theorem bX12_fault : mX12_fault.2.2.1 = 1 := rfl
theorem rX12_fault : mX12_fault.2.2.2 = (some .int) := rfl
theorem aX12_child : mX12_child.1.cls = RX12 := rfl
theorem bX12_child : mX12_child.2.2.1 = 3 := rfl
theorem rX12_child : mX12_child.2.2.2 = (some .int) := rfl
theorem aX12_isChild : mX12_isChild.1.cls = RX12 := rfl
theorem bX12_isChild : mX12_isChild.2.2.1 = 2 := rfl
theorem rX12_isChild : mX12_isChild.2.2.2 = (some .boolean) := rfl
theorem aX12_throwsIf : mX12_throwsIf.1.cls = RX12 := rfl
theorem bX12_throwsIf : mX12_throwsIf.2.2.1 = 2 := rfl
theorem rX12_throwsIf : mX12_throwsIf.2.2.2 = (some .boolean) := rfl
theorem aX12_lacksOf : mX12_lacksOf.1.cls = RX12 := rfl
theorem bX12_lacksOf : mX12_lacksOf.2.2.1 = 4 := rfl
theorem rX12_lacksOf : mX12_lacksOf.2.2.2 = (some .int) := rfl
theorem aX12_haves : mX12_haves.1.cls = RX12 := rfl
theorem bX12_haves : mX12_haves.2.2.1 = 3 := rfl
theorem rX12_haves : mX12_haves.2.2.2 = (some .int) := rfl
theorem aX12_nearTo : mX12_nearTo.1.cls = RX12 := rfl
theorem bX12_nearTo : mX12_nearTo.2.2.1 = 4 := rfl
theorem rX12_nearTo : mX12_nearTo.2.2.2 = (some .int) := rfl
theorem aX12_areNear : mX12_areNear.1.cls = RX12 := rfl
theorem bX12_areNear : mX12_areNear.2.2.1 = 3 := rfl
theorem rX12_areNear : mX12_areNear.2.2.2 = (some .boolean) := rfl
theorem aX12_absolute : mX12_absolute.1.cls = RX12 := rfl
theorem bX12_absolute : mX12_absolute.2.2.1 = 1 := rfl
theorem rX12_absolute : mX12_absolute.2.2.2 = (some .int) := rfl
theorem aX12_has : mX12_has.1.cls = RX12 := rfl
theorem bX12_has : mX12_has.2.2.1 = 3 := rfl
theorem rX12_has : mX12_has.2.2.2 = (some .int) := rfl
theorem aX12_floor : mX12_floor.1.cls = RX12 := rfl
theorem bX12_floor : mX12_floor.2.2.1 = 3 := rfl
theorem rX12_floor : mX12_floor.2.2.2 = (some .int) := rfl
theorem aX12_isFloor : mX12_isFloor.1.cls = RX12 := rfl
theorem bX12_isFloor : mX12_isFloor.2.2.1 = 2 := rfl
theorem rX12_isFloor : mX12_isFloor.2.2.2 = (some .boolean) := rfl
theorem aX12_onFloor : mX12_onFloor.1.cls = RX12 := rfl
theorem bX12_onFloor : mX12_onFloor.2.2.1 = 3 := rfl
theorem rX12_onFloor : mX12_onFloor.2.2.2 = (some .int) := rfl
theorem aX12_uncle : mX12_uncle.1.cls = RX12 := rfl
theorem bX12_uncle : mX12_uncle.2.2.1 = 3 := rfl
theorem rX12_uncle : mX12_uncle.2.2.2 = (some .int) := rfl
theorem aX12_isUncle : mX12_isUncle.1.cls = RX12 := rfl
theorem bX12_isUncle : mX12_isUncle.2.2.1 = 2 := rfl
theorem rX12_isUncle : mX12_isUncle.2.2.2 = (some .boolean) := rfl
theorem aX12_law : mX12_law.1.cls = RX12 := rfl
theorem bX12_law : mX12_law.2.2.1 = 2 := rfl
theorem rX12_law : mX12_law.2.2.2 = (some .int) := rfl
theorem aX12_now : mX12_now.1.cls = RX12 := rfl
theorem bX12_now : mX12_now.2.2.1 = 5 := rfl
theorem rX12_now : mX12_now.2.2.2 = (some .int) := rfl
theorem aX12_isServed : mX12_isServed.1.cls = RX12 := rfl
theorem bX12_isServed : mX12_isServed.2.2.1 = 2 := rfl
theorem rX12_isServed : mX12_isServed.2.2.2 = (some .boolean) := rfl
theorem aX12_balanceOf : mX12_balanceOf.1.cls = RX12 := rfl
theorem bX12_balanceOf : mX12_balanceOf.2.2.1 = 4 := rfl
theorem rX12_balanceOf : mX12_balanceOf.2.2.2 = (some .int) := rfl
theorem aX12_servedSet : mX12_servedSet.1.cls = RX12 := rfl
theorem bX12_servedSet : mX12_servedSet.2.2.1 = 3 := rfl
theorem rX12_servedSet : mX12_servedSet.2.2.2 = (some .int) := rfl
theorem aX12_send : mX12_send.1.cls = RX12 := rfl
theorem bX12_send : mX12_send.2.2.1 = 4 := rfl
theorem rX12_send : mX12_send.2.2.2 = (some .int) := rfl
theorem aX12_whySend : mX12_whySend.1.cls = RX12 := rfl
theorem bX12_whySend : mX12_whySend.2.2.1 = 3 := rfl
theorem rX12_whySend : mX12_whySend.2.2.2 = (some .int) := rfl
theorem aX12_keep : mX12_keep.1.cls = RX12 := rfl
theorem bX12_keep : mX12_keep.2.2.1 = 2 := rfl
theorem rX12_keep : mX12_keep.2.2.2 = none := rfl
theorem aX12_sends : mX12_sends.1.cls = RX12 := rfl
theorem bX12_sends : mX12_sends.2.2.1 = 4 := rfl
theorem rX12_sends : mX12_sends.2.2.2 = none := rfl
theorem aX12_lesser : mX12_lesser.1.cls = RX12 := rfl
theorem bX12_lesser : mX12_lesser.2.2.1 = 2 := rfl
theorem rX12_lesser : mX12_lesser.2.2.2 = (some .int) := rfl
theorem aX12_hang : mX12_hang.1.cls = RX12 := rfl
theorem bX12_hang : mX12_hang.2.2.1 = 2 := rfl
theorem rX12_hang : mX12_hang.2.2.2 = (some .int) := rfl
theorem aX12_turns : mX12_turns.1.cls = RX12 := rfl
theorem bX12_turns : mX12_turns.2.2.1 = 3 := rfl
theorem rX12_turns : mX12_turns.2.2.2 = (some .int) := rfl
theorem aX12_take : mX12_take.1.cls = RX12 := rfl
theorem bX12_take : mX12_take.2.2.1 = 2 := rfl
theorem rX12_take : mX12_take.2.2.2 = (some .int) := rfl
theorem aX12_serve : mX12_serve.1.cls = RX12 := rfl
theorem bX12_serve : mX12_serve.2.2.1 = 3 := rfl
theorem rX12_serve : mX12_serve.2.2.2 = (some .int) := rfl
theorem aX12_whyServe : mX12_whyServe.1.cls = RX12 := rfl
theorem bX12_whyServe : mX12_whyServe.2.2.1 = 2 := rfl
theorem rX12_whyServe : mX12_whyServe.2.2.2 = (some .int) := rfl
theorem aX12_back : mX12_back.1.cls = RX12 := rfl
theorem bX12_back : mX12_back.2.2.1 = 2 := rfl
theorem rX12_back : mX12_back.2.2.2 = (some .int) := rfl
theorem aX12_returns : mX12_returns.1.cls = RX12 := rfl
theorem bX12_returns : mX12_returns.2.2.1 = 3 := rfl
theorem rX12_returns : mX12_returns.2.2.2 = none := rfl
theorem aX12_hours : mX12_hours.1.cls = RX12 := rfl
theorem bX12_hours : mX12_hours.2.2.1 = 2 := rfl
theorem rX12_hours : mX12_hours.2.2.2 = (some .int) := rfl
theorem aX12_goesOn : mX12_goesOn.1.cls = RX12 := rfl
theorem bX12_goesOn : mX12_goesOn.2.2.1 = 3 := rfl
theorem rX12_goesOn : mX12_goesOn.2.2.2 = (some .int) := rfl
theorem aX12_hour : mX12_hour.1.cls = RX12 := rfl
theorem bX12_hour : mX12_hour.2.2.1 = 3 := rfl
theorem rX12_hour : mX12_hour.2.2.2 = none := rfl
theorem aX12_more : mX12_more.1.cls = RX12 := rfl
theorem bX12_more : mX12_more.2.2.1 = 4 := rfl
theorem rX12_more : mX12_more.2.2.2 = none := rfl
theorem aX12_talk : mX12_talk.1.cls = RX12 := rfl
theorem bX12_talk : mX12_talk.2.2.1 = 5 := rfl
theorem rX12_talk : mX12_talk.2.2.2 = none := rfl
theorem aX12_undo : mX12_undo.1.cls = RX12 := rfl
theorem bX12_undo : mX12_undo.2.2.1 = 2 := rfl
theorem rX12_undo : mX12_undo.2.2.2 = (some .int) := rfl
theorem aX12_when : mX12_when.1.cls = RX12 := rfl
theorem bX12_when : mX12_when.2.2.1 = 4 := rfl
theorem rX12_when : mX12_when.2.2.2 = (some .int) := rfl
theorem aX12_tries : mX12_tries.1.cls = RX12 := rfl
theorem bX12_tries : mX12_tries.2.2.1 = 2 := rfl
theorem rX12_tries : mX12_tries.2.2.2 = none := rfl
theorem aX12_recalls : mX12_recalls.1.cls = RX12 := rfl
theorem bX12_recalls : mX12_recalls.2.2.1 = 2 := rfl
theorem rX12_recalls : mX12_recalls.2.2.2 = none := rfl
theorem aX12_plan : mX12_plan.1.cls = RX12 := rfl
theorem bX12_plan : mX12_plan.2.2.1 = 8 := rfl
theorem rX12_plan : mX12_plan.2.2.2 = (some .int) := rfl
theorem aX12_floorFor : mX12_floorFor.1.cls = RX12 := rfl
theorem bX12_floorFor : mX12_floorFor.2.2.1 = 4 := rfl
theorem rX12_floorFor : mX12_floorFor.2.2.2 = (some .int) := rfl
theorem aX12_power : mX12_power.1.cls = RX12 := rfl
theorem bX12_power : mX12_power.2.2.1 = 4 := rfl
theorem rX12_power : mX12_power.2.2.2 = (some .int) := rfl
theorem aX12_passedBy : mX12_passedBy.1.cls = RX12 := rfl
theorem bX12_passedBy : mX12_passedBy.2.2.1 = 9 := rfl
theorem rX12_passedBy : mX12_passedBy.2.2.2 = (some .int) := rfl
theorem aX12_digit : mX12_digit.1.cls = RX12 := rfl
theorem bX12_digit : mX12_digit.2.2.1 = 6 := rfl
theorem rX12_digit : mX12_digit.2.2.2 = (some .int) := rfl
theorem aX12_bits : mX12_bits.1.cls = RX12 := rfl
theorem bX12_bits : mX12_bits.2.2.1 = 3 := rfl
theorem rX12_bits : mX12_bits.2.2.2 = (some .int) := rfl
theorem aX12_planAt : mX12_planAt.1.cls = RX12 := rfl
theorem bX12_planAt : mX12_planAt.2.2.1 = 2 := rfl
theorem rX12_planAt : mX12_planAt.2.2.2 = (some .int) := rfl
theorem aX12_passes : mX12_passes.1.cls = RX12 := rfl
theorem bX12_passes : mX12_passes.2.2.1 = 1 := rfl
theorem rX12_passes : mX12_passes.2.2.2 = (some .int) := rfl
theorem aX12_been : mX12_been.1.cls = RX12 := rfl
theorem bX12_been : mX12_been.2.2.1 = 7 := rfl
theorem rX12_been : mX12_been.2.2.2 = (some .int) := rfl
theorem aX12_isBeen : mX12_isBeen.1.cls = RX12 := rfl
theorem bX12_isBeen : mX12_isBeen.2.2.1 = 5 := rfl
theorem rX12_isBeen : mX12_isBeen.2.2.2 = (some .boolean) := rfl
theorem aX12_octet : mX12_octet.1.cls = RX12 := rfl
theorem bX12_octet : mX12_octet.2.2.1 = 2 := rfl
theorem rX12_octet : mX12_octet.2.2.2 = (some .int) := rfl
theorem aX12_leftBy : mX12_leftBy.1.cls = RX12 := rfl
theorem bX12_leftBy : mX12_leftBy.2.2.1 = 6 := rfl
theorem rX12_leftBy : mX12_leftBy.2.2.2 = (some .int) := rfl
theorem aX12_greater : mX12_greater.1.cls = RX12 := rfl
theorem bX12_greater : mX12_greater.2.2.1 = 2 := rfl
theorem rX12_greater : mX12_greater.2.2.2 = (some .int) := rfl
theorem aX12_beenAt : mX12_beenAt.1.cls = RX12 := rfl
theorem bX12_beenAt : mX12_beenAt.2.2.1 = 2 := rfl
theorem rX12_beenAt : mX12_beenAt.2.2.2 = (some .int) := rfl
theorem aX12_ask : mX12_ask.1.cls = RX12 := rfl
theorem bX12_ask : mX12_ask.2.2.1 = 1 := rfl
theorem rX12_ask : mX12_ask.2.2.2 = (some .int) := rfl
theorem aX12_hung : mX12_hung.1.cls = RX12 := rfl
theorem bX12_hung : mX12_hung.2.2.1 = 6 := rfl
theorem rX12_hung : mX12_hung.2.2.2 = (some .int) := rfl
theorem aX12_hanging : mX12_hanging.1.cls = RX12 := rfl
theorem bX12_hanging : mX12_hanging.2.2.1 = 1 := rfl
theorem rX12_hanging : mX12_hanging.2.2.2 = (some .int) := rfl
theorem aX12_holds : mX12_holds.1.cls = RX12 := rfl
theorem bX12_holds : mX12_holds.2.2.1 = 4 := rfl
theorem rX12_holds : mX12_holds.2.2.2 = (some .int) := rfl
theorem aX12_web : mX12_web.1.cls = RX12 := rfl
theorem bX12_web : mX12_web.2.2.1 = 5 := rfl
theorem rX12_web : mX12_web.2.2.2 = (some .int) := rfl
theorem aX12_bargain : mX12_bargain.1.cls = RX12 := rfl
theorem bX12_bargain : mX12_bargain.2.2.1 = 4 := rfl
theorem rX12_bargain : mX12_bargain.2.2.2 = (some .int) := rfl
theorem aX12_asks : mX12_asks.1.cls = RX12 := rfl
theorem bX12_asks : mX12_asks.2.2.1 = 4 := rfl
theorem rX12_asks : mX12_asks.2.2.2 = (some .boolean) := rfl
theorem aX12_likesFloor : mX12_likesFloor.1.cls = RX12 := rfl
theorem bX12_likesFloor : mX12_likesFloor.2.2.1 = 3 := rfl
theorem rX12_likesFloor : mX12_likesFloor.2.2.2 = (some .int) := rfl
theorem aX12_holderOf : mX12_holderOf.1.cls = RX12 := rfl
theorem bX12_holderOf : mX12_holderOf.2.2.1 = 3 := rfl
theorem rX12_holderOf : mX12_holderOf.2.2.2 = (some .int) := rfl
theorem aX12_likesChild : mX12_likesChild.1.cls = RX12 := rfl
theorem bX12_likesChild : mX12_likesChild.2.2.1 = 3 := rfl
theorem rX12_likesChild : mX12_likesChild.2.2.2 = (some .int) := rfl
theorem aX12_bargained : mX12_bargained.1.cls = RX12 := rfl
theorem bX12_bargained : mX12_bargained.2.2.1 = 2 := rfl
theorem rX12_bargained : mX12_bargained.2.2.2 = (some .int) := rfl
theorem aX12_cover : mX12_cover.1.cls = RX12 := rfl
theorem bX12_cover : mX12_cover.2.2.1 = 3 := rfl
theorem rX12_cover : mX12_cover.2.2.2 = (some .int) := rfl
theorem aX12_spells : mX12_spells.1.cls = RX12 := rfl
theorem bX12_spells : mX12_spells.2.2.1 = 4 := rfl
theorem rX12_spells : mX12_spells.2.2.2 = none := rfl
theorem aX12_lays : mX12_lays.1.cls = RX12 := rfl
theorem bX12_lays : mX12_lays.2.2.1 = 2 := rfl
theorem rX12_lays : mX12_lays.2.2.2 = none := rfl
theorem aX12_says : mX12_says.1.cls = RX12 := rfl
theorem bX12_says : mX12_says.2.2.1 = 3 := rfl
theorem rX12_says : mX12_says.2.2.2 = none := rfl
theorem aX12_byteAt : mX12_byteAt.1.cls = RX12 := rfl
theorem bX12_byteAt : mX12_byteAt.2.2.1 = 2 := rfl
theorem rX12_byteAt : mX12_byteAt.2.2.2 = (some .int) := rfl
theorem aX12_drawn : mX12_drawn.1.cls = RX12 := rfl
theorem bX12_drawn : mX12_drawn.2.2.1 = 3 := rfl
theorem rX12_drawn : mX12_drawn.2.2.2 = (some .int) := rfl
theorem aX12_draws : mX12_draws.1.cls = RX12 := rfl
theorem bX12_draws : mX12_draws.2.2.1 = 7 := rfl
theorem rX12_draws : mX12_draws.2.2.2 = (some .int) := rfl
theorem aX12_draw : mX12_draw.1.cls = RX12 := rfl
theorem bX12_draw : mX12_draw.2.2.1 = 2 := rfl
theorem rX12_draw : mX12_draw.2.2.2 = (some .int) := rfl
theorem aX12_odds : mX12_odds.1.cls = RX12 := rfl
theorem bX12_odds : mX12_odds.2.2.1 = 6 := rfl
theorem rX12_odds : mX12_odds.2.2.2 = (some .int) := rfl
theorem aX12_book : mX12_book.1.cls = RX12 := rfl
theorem bX12_book : mX12_book.2.2.1 = 4 := rfl
theorem rX12_book : mX12_book.2.2.2 = (some .int) := rfl
theorem aX12_bookLine : mX12_bookLine.1.cls = RX12 := rfl
theorem bX12_bookLine : mX12_bookLine.2.2.1 = 4 := rfl
theorem rX12_bookLine : mX12_bookLine.2.2.2 = (some .boolean) := rfl
theorem aX12_takesTo : mX12_takesTo.1.cls = RX12 := rfl
theorem bX12_takesTo : mX12_takesTo.2.2.1 = 1 := rfl
theorem rX12_takesTo : mX12_takesTo.2.2.2 = (some .boolean) := rfl
theorem aX12_does : mX12_does.1.cls = RX12 := rfl
theorem bX12_does : mX12_does.2.2.1 = 5 := rfl
theorem rX12_does : mX12_does.2.2.2 = (some .int) := rfl
theorem aX12_told : mX12_told.1.cls = RX12 := rfl
theorem bX12_told : mX12_told.2.2.1 = 2 := rfl
theorem rX12_told : mX12_told.2.2.2 = (some .int) := rfl
theorem aX12_sentence : mX12_sentence.1.cls = RX12 := rfl
theorem bX12_sentence : mX12_sentence.2.2.1 = 3 := rfl
theorem rX12_sentence : mX12_sentence.2.2.2 = (some .int) := rfl
theorem aX12_nots : mX12_nots.1.cls = RX12 := rfl
theorem bX12_nots : mX12_nots.2.2.1 = 1 := rfl
theorem rX12_nots : mX12_nots.2.2.2 = none := rfl
theorem aX12_code : mX12_code.1.cls = RX12 := rfl
theorem bX12_code : mX12_code.2.2.1 = 4 := rfl
theorem rX12_code : mX12_code.2.2.2 = none := rfl
theorem aX12_joins : mX12_joins.1.cls = RX12 := rfl
theorem bX12_joins : mX12_joins.2.2.1 = 2 := rfl
theorem rX12_joins : mX12_joins.2.2.2 = none := rfl
theorem aX12_behind : mX12_behind.1.cls = RX12 := rfl
theorem bX12_behind : mX12_behind.2.2.1 = 1 := rfl
theorem rX12_behind : mX12_behind.2.2.2 = (some .boolean) := rfl
theorem aX12_operand : mX12_operand.1.cls = RX12 := rfl
theorem bX12_operand : mX12_operand.2.2.1 = 5 := rfl
theorem rX12_operand : mX12_operand.2.2.2 = (some .boolean) := rfl
theorem aX12_leafOf : mX12_leafOf.1.cls = RX12 := rfl
theorem bX12_leafOf : mX12_leafOf.2.2.1 = 1 := rfl
theorem rX12_leafOf : mX12_leafOf.2.2.2 = (some .int) := rfl
theorem aX12_said : mX12_said.1.cls = RX12 := rfl
theorem bX12_said : mX12_said.2.2.1 = 4 := rfl
theorem rX12_said : mX12_said.2.2.2 = (some .int) := rfl
theorem aX12_isSaid : mX12_isSaid.1.cls = RX12 := rfl
theorem bX12_isSaid : mX12_isSaid.2.2.1 = 5 := rfl
theorem rX12_isSaid : mX12_isSaid.2.2.2 = (some .boolean) := rfl
theorem aX12_isLeaf : mX12_isLeaf.1.cls = RX12 := rfl
theorem bX12_isLeaf : mX12_isLeaf.2.2.1 = 6 := rfl
theorem rX12_isLeaf : mX12_isLeaf.2.2.2 = (some .boolean) := rfl
theorem aX12_image : mX12_image.1.cls = RX12 := rfl
theorem bX12_image : mX12_image.2.2.1 = 3 := rfl
theorem rX12_image : mX12_image.2.2.2 = (some .boolean) := rfl
theorem aX12_restore : mX12_restore.1.cls = RX12 := rfl
theorem bX12_restore : mX12_restore.2.2.1 = 3 := rfl
theorem rX12_restore : mX12_restore.2.2.2 = (some .boolean) := rfl
theorem aX12_count : mX12_count.1.cls = RX12 := rfl
theorem bX12_count : mX12_count.2.2.1 = 2 := rfl
theorem rX12_count : mX12_count.2.2.2 = (some .int) := rfl
theorem nar_i {v : Int32} : (narrow .int (.int v) = .int v) = True := by simp [narrow]
theorem nar_z0 : (narrow .boolean (.int 0) = .int 0) = True := by simp; rfl
theorem nar_z1 : (narrow .boolean (.int 1) = .int 1) = True := by simp; rfl
theorem iR_t {v : Option Value} {g : iH} : iR v g v g = True := by simp [iR]
theorem Y2_lt {a b : Nat} (h : a < b) : (a < b) = True := by simp [h]
theorem p_RX0 : plainName RX0 = true := by decide +kernel
theorem p_RX1 : plainName RX1 = true := by decide +kernel
theorem p_RX2 : plainName RX2 = true := by decide +kernel
theorem p_RX3 : plainName RX3 = true := by decide +kernel
theorem p_RX4 : plainName RX4 = true := by decide +kernel
theorem p_RX5 : plainName RX5 = true := by decide +kernel
theorem p_RX6 : plainName RX6 = true := by decide +kernel
theorem p_RX7 : plainName RX7 = true := by decide +kernel
theorem p_RX8 : plainName RX8 = true := by decide +kernel
theorem p_RX9 : plainName RX9 = true := by decide +kernel
theorem p_RX10 : plainName RX10 = true := by decide +kernel
theorem p_RX11 : plainName RX11 = true := by decide +kernel
theorem p_RX12 : plainName RX12 = true := by decide +kernel
theorem p_RJ6 : plainName RJ6 = true := by decide +kernel
theorem p_RJ7 : plainName RJ7 = true := by decide +kernel
