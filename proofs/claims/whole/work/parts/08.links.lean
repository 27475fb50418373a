abbrev mX0_isFull : mM := (yX0_isFull, cX0_isFull, 1, (some .boolean), { frames := 0, cells := 0, slots := 0, locals := 0 })
abbrev mX0_has : mM := (yX0_has, cX0_has, 2, (some .boolean), { frames := 0, cells := 0, slots := 0, locals := 0 })
abbrev mX0_valueAt : mM := (yX0_valueAt, cX0_valueAt, 2, (some .int), { frames := 0, cells := 0, slots := 0, locals := 0 })
abbrev mX0_ticketAt : mM := (yX0_ticketAt, cX0_ticketAt, 2, (some .int), { frames := 1, cells := 0, slots := 0, locals := 21 })
abbrev mX0_put : mM := (yX0_put, cX0_put, 4, none, { frames := 1, cells := 0, slots := 0, locals := 20 })
abbrev mX0_take : mM := (yX0_take, cX0_take, 4, none, { frames := 1, cells := 0, slots := 0, locals := 21 })
abbrev mX0_copyFrom : mM := (yX0_copyFrom, cX0_copyFrom, 2, none, { frames := 1, cells := 0, slots := 0, locals := 18 })
abbrev mX5_mix : mM := (yX5_mix, cX5_mix, 4, (some .long), { frames := 0, cells := 0, slots := 0, locals := 0 })
abbrev mX0_mixMessages : mM := (yX0_mixMessages, cX0_mixMessages, 6, (some .long), { frames := 1, cells := 0, slots := 0, locals := 23 })
abbrev mX1_mirrored : mM := (yX1_mirrored, cX1_mirrored, 1, (some .int), { frames := 0, cells := 0, slots := 0, locals := 0 })
abbrev mX1_setGuard : mM := (yX1_setGuard, cX1_setGuard, 5, none, { frames := 1, cells := 0, slots := 0, locals := 20 })
abbrev mX1_clear : mM := (yX1_clear, cX1_clear, 1, none, { frames := 2, cells := 0, slots := 0, locals := 44 })
abbrev mX1_uses : mM := (yX1_uses, cX1_uses, 2, (some .boolean), { frames := 0, cells := 0, slots := 0, locals := 0 })
abbrev mX1_repliesTo : mM := (yX1_repliesTo, cX1_repliesTo, 2, (some .boolean), { frames := 0, cells := 0, slots := 0, locals := 0 })
abbrev mX1_isReady : mM := (yX1_isReady, cX1_isReady, 2, (some .boolean), { frames := 0, cells := 0, slots := 0, locals := 0 })
abbrev mX1_addChannel : mM := (yX1_addChannel, cX1_addChannel, 2, none, { frames := 0, cells := 0, slots := 0, locals := 0 })
abbrev mX1_guardHolds : mM := (yX1_guardHolds, cX1_guardHolds, 3, (some .boolean), { frames := 0, cells := 0, slots := 0, locals := 0 })
abbrev mX1_addOutput : mM := (yX1_addOutput, cX1_addOutput, 3, none, { frames := 0, cells := 0, slots := 0, locals := 0 })
abbrev mX1_lastOperandCount : mM := (yX1_lastOperandCount, cX1_lastOperandCount, 1, (some .int), { frames := 0, cells := 0, slots := 0, locals := 0 })
abbrev mX1_addOperand : mM := (yX1_addOperand, cX1_addOperand, 5, none, { frames := 1, cells := 0, slots := 0, locals := 20 })
abbrev mX1_sentTo : mM := (yX1_sentTo, cX1_sentTo, 4, (some .int), { frames := 0, cells := 0, slots := 0, locals := 0 })
abbrev mX5_isChannel : mM := (yX5_isChannel, cX5_isChannel, 1, (some .boolean), { frames := 0, cells := 0, slots := 0, locals := 0 })
abbrev mJ9_min_f86c9 : mM := (yJ9_min_f86c9, cJ9_min_f86c9, 4, (some .long), { frames := 0, cells := 0, slots := 0, locals := 0 })
abbrev mJ9_max_f86c9 : mM := (yJ9_max_f86c9, cJ9_max_f86c9, 4, (some .long), { frames := 0, cells := 0, slots := 0, locals := 0 })
abbrev mX1_outputValue : mM := (yX1_outputValue, cX1_outputValue, 9, (some .int), { frames := 1, cells := 0, slots := 0, locals := 23 })
abbrev mX2_begin : mM := (yX2_begin, cX2_begin, 1, none, { frames := 3, cells := 0, slots := 0, locals := 64 })
abbrev mX2_isComplete : mM := (yX2_isComplete, cX2_isComplete, 1, (some .boolean), { frames := 0, cells := 0, slots := 0, locals := 0 })
abbrev mX2_exchange : mM := (yX2_exchange, cX2_exchange, 3, (some (.object "JoinRuntime$Rule")), { frames := 0, cells := 0, slots := 0, locals := 0 })
abbrev mX2_isLetter : mM := (yX2_isLetter, cX2_isLetter, 1, (some .boolean), { frames := 1, cells := 0, slots := 0, locals := 20 })
abbrev mJ6_bitCount_0f7a4 : mM := (yJ6_bitCount_0f7a4, cJ6_bitCount_0f7a4, 1, (some .int), { frames := 0, cells := 0, slots := 0, locals := 0 })
abbrev mX2_goTo : mM := (yX2_goTo, cX2_goTo, 2, (some .boolean), { frames := 0, cells := 0, slots := 0, locals := 0 })
abbrev mX2_acceptInPattern : mM := (yX2_acceptInPattern, cX2_acceptInPattern, 3, (some .boolean), { frames := 2, cells := 0, slots := 0, locals := 40 })
abbrev mX2_operandOf : mM := (yX2_operandOf, cX2_operandOf, 2, (some .int), { frames := 2, cells := 0, slots := 0, locals := 40 })
abbrev mX2_acceptOperand : mM := (yX2_acceptOperand, cX2_acceptOperand, 2, (some .boolean), { frames := 2, cells := 0, slots := 0, locals := 44 })
abbrev mX2_acceptGuardSign : mM := (yX2_acceptGuardSign, cX2_acceptGuardSign, 2, (some .boolean), { frames := 1, cells := 0, slots := 0, locals := 21 })
abbrev mX2_acceptTarget : mM := (yX2_acceptTarget, cX2_acceptTarget, 2, (some .boolean), { frames := 2, cells := 0, slots := 0, locals := 40 })
abbrev mX2_acceptReplyChannel : mM := (yX2_acceptReplyChannel, cX2_acceptReplyChannel, 3, (some .boolean), { frames := 2, cells := 0, slots := 0, locals := 40 })
abbrev mX2_goToOperand : mM := (yX2_goToOperand, cX2_goToOperand, 2, (some .boolean), { frames := 1, cells := 0, slots := 0, locals := 21 })
abbrev mX2_acceptBehindOperand : mM := (yX2_acceptBehindOperand, cX2_acceptBehindOperand, 3, (some .boolean), { frames := 2, cells := 0, slots := 0, locals := 42 })
abbrev mX2_accept : mM := (yX2_accept, cX2_accept, 2, (some .boolean), { frames := 3, cells := 0, slots := 0, locals := 65 })
abbrev mX4_copyFrom : mM := (yX4_copyFrom, cX4_copyFrom, 2, none, { frames := 1, cells := 0, slots := 0, locals := 18 })
abbrev mX3_copyFrom : mM := (yX3_copyFrom, cX3_copyFrom, 3, none, { frames := 2, cells := 0, slots := 0, locals := 39 })
abbrev mX3_messageCount : mM := (yX3_messageCount, cX3_messageCount, 3, (some .int), { frames := 0, cells := 0, slots := 0, locals := 0 })
abbrev mJ9_floorMod_7cf53 : mM := (yJ9_floorMod_7cf53, cJ9_floorMod_7cf53, 3, (some .int), { frames := 0, cells := 0, slots := 0, locals := 0 })
abbrev mX4_placeOf : mM := (yX4_placeOf, cX4_placeOf, 1, (some .int), { frames := 1, cells := 0, slots := 0, locals := 22 })
abbrev mX4_give : mM := (yX4_give, cX4_give, 2, (some .int), { frames := 2, cells := 0, slots := 0, locals := 42 })
abbrev mX4_firstKnown : mM := (yX4_firstKnown, cX4_firstKnown, 1, (some .int), { frames := 0, cells := 0, slots := 0, locals := 0 })
abbrev mX4_knows : mM := (yX4_knows, cX4_knows, 2, (some .boolean), { frames := 1, cells := 0, slots := 0, locals := 20 })
abbrev mX4_stateOf : mM := (yX4_stateOf, cX4_stateOf, 2, (some .int), { frames := 2, cells := 0, slots := 0, locals := 42 })
abbrev mX4_answerTo : mM := (yX4_answerTo, cX4_answerTo, 2, (some .int), { frames := 2, cells := 0, slots := 0, locals := 42 })
abbrev mX4_settle : mM := (yX4_settle, cX4_settle, 4, none, { frames := 2, cells := 0, slots := 0, locals := 42 })
abbrev mX4_mixTickets : mM := (yX4_mixTickets, cX4_mixTickets, 6, (some .long), { frames := 3, cells := 0, slots := 0, locals := 63 })
abbrev mX5_append : mM := (yX5_append, cX5_append, 2, (some .int), { frames := 6, cells := 1, slots := 6, locals := 82 })
abbrev mX5_clearBuffer : mM := (yX5_clearBuffer, cX5_clearBuffer, 2, (some .int), { frames := 0, cells := 0, slots := 0, locals := 0 })
abbrev mX5_readBuffer : mM := (yX5_readBuffer, cX5_readBuffer, 2, (some .int), { frames := 4, cells := 0, slots := 0, locals := 86 })
abbrev mX5_firstError : mM := (yX5_firstError, cX5_firstError, 1, (some .int), { frames := 5, cells := 0, slots := 0, locals := 107 })
abbrev mX5_addRule : mM := (yX5_addRule, cX5_addRule, 2, (some .int), { frames := 6, cells := 1, slots := 6, locals := 107 })
abbrev mX5_requireRule : mM := (yX5_requireRule, cX5_requireRule, 2, none, { frames := 6, cells := 1, slots := 6, locals := 82 })
abbrev mX5_removeRule : mM := (yX5_removeRule, cX5_removeRule, 4, (some .int), { frames := 7, cells := 1, slots := 6, locals := 103 })
abbrev mX5_ruleCount : mM := (yX5_ruleCount, cX5_ruleCount, 1, (some .int), { frames := 0, cells := 0, slots := 0, locals := 0 })
abbrev mX5_patternOf : mM := (yX5_patternOf, cX5_patternOf, 2, (some .int), { frames := 7, cells := 1, slots := 6, locals := 103 })
abbrev mX5_setPolicy : mM := (yX5_setPolicy, cX5_setPolicy, 3, (some .int), { frames := 6, cells := 1, slots := 6, locals := 82 })
abbrev mX5_requireChannel : mM := (yX5_requireChannel, cX5_requireChannel, 1, none, { frames := 6, cells := 1, slots := 6, locals := 82 })
abbrev mX5_send : mM := (yX5_send, cX5_send, 5, (some .int), { frames := 7, cells := 2, slots := 12, locals := 102 })
abbrev mX5_queueLength : mM := (yX5_queueLength, cX5_queueLength, 2, (some .int), { frames := 7, cells := 1, slots := 6, locals := 102 })
abbrev mX5_messageAt : mM := (yX5_messageAt, cX5_messageAt, 3, (some .int), { frames := 7, cells := 2, slots := 12, locals := 102 })
abbrev mX5_waitingChannels : mM := (yX5_waitingChannels, cX5_waitingChannels, 3, (some .int), { frames := 0, cells := 0, slots := 0, locals := 0 })
abbrev mX5_readyRules : mM := (yX5_readyRules, cX5_readyRules, 4, (some .int), { frames := 1, cells := 0, slots := 0, locals := 22 })
abbrev mJ7_fill_53178 : mM := (yJ7_fill_53178, cJ7_fill_53178, 4, none, { frames := 0, cells := 0, slots := 0, locals := 0 })
abbrev mX5_choicesOf : mM := (yX5_choicesOf, cX5_choicesOf, 2, (some .int), { frames := 1, cells := 0, slots := 0, locals := 20 })
abbrev mX5_valueOf : mM := (yX5_valueOf, cX5_valueOf, 3, (some .int), { frames := 1, cells := 0, slots := 0, locals := 21 })
abbrev mX5_choose : mM := (yX5_choose, cX5_choose, 3, none, { frames := 1, cells := 0, slots := 0, locals := 20 })
abbrev mX5_findMatch : mM := (yX5_findMatch, cX5_findMatch, 9, (some .boolean), { frames := 2, cells := 0, slots := 0, locals := 43 })
abbrev mX5_hasRoom : mM := (yX5_hasRoom, cX5_hasRoom, 4, (some .boolean), { frames := 1, cells := 0, slots := 0, locals := 23 })
abbrev mX5_isEnabled : mM := (yX5_isEnabled, cX5_isEnabled, 2, (some .boolean), { frames := 3, cells := 0, slots := 0, locals := 71 })
abbrev mX5_enabledRules : mM := (yX5_enabledRules, cX5_enabledRules, 3, (some .int), { frames := 4, cells := 0, slots := 0, locals := 92 })
abbrev mX5_matchOf : mM := (yX5_matchOf, cX5_matchOf, 3, (some .int), { frames := 7, cells := 2, slots := 12, locals := 103 })
abbrev mX5_nextRule : mM := (yX5_nextRule, cX5_nextRule, 5, (some .int), { frames := 4, cells := 0, slots := 0, locals := 92 })
abbrev mX5_takeMessages : mM := (yX5_takeMessages, cX5_takeMessages, 4, none, { frames := 3, cells := 0, slots := 0, locals := 65 })
abbrev mX5_carryOut : mM := (yX5_carryOut, cX5_carryOut, 5, none, { frames := 3, cells := 0, slots := 0, locals := 65 })
abbrev mX5_fireEnabled : mM := (yX5_fireEnabled, cX5_fireEnabled, 4, none, { frames := 4, cells := 0, slots := 0, locals := 89 })
abbrev mX5_fire : mM := (yX5_fire, cX5_fire, 2, (some .int), { frames := 5, cells := 0, slots := 0, locals := 116 })
abbrev mX5_fireRule : mM := (yX5_fireRule, cX5_fireRule, 2, (some .int), { frames := 7, cells := 2, slots := 12, locals := 112 })
abbrev mX5_run : mM := (yX5_run, cX5_run, 3, (some .int), { frames := 6, cells := 1, slots := 6, locals := 137 })
abbrev mX5_isStuck : mM := (yX5_isStuck, cX5_isStuck, 1, (some .boolean), { frames := 5, cells := 0, slots := 0, locals := 114 })
abbrev mX5_requireTicket : mM := (yX5_requireTicket, cX5_requireTicket, 2, none, { frames := 6, cells := 1, slots := 6, locals := 82 })
abbrev mX5_ticketState : mM := (yX5_ticketState, cX5_ticketState, 2, (some .int), { frames := 7, cells := 1, slots := 6, locals := 103 })
abbrev mX5_replyOf : mM := (yX5_replyOf, cX5_replyOf, 2, (some .int), { frames := 7, cells := 2, slots := 12, locals := 103 })
abbrev mX5_firings : mM := (yX5_firings, cX5_firings, 2, (some .int), { frames := 7, cells := 1, slots := 6, locals := 103 })
abbrev mX5_consumed : mM := (yX5_consumed, cX5_consumed, 2, (some .int), { frames := 7, cells := 1, slots := 6, locals := 102 })
abbrev mX5_meanWait : mM := (yX5_meanWait, cX5_meanWait, 3, (some .double), { frames := 7, cells := 1, slots := 6, locals := 102 })
abbrev mX5_shareOf : mM := (yX5_shareOf, cX5_shareOf, 4, (some .float), { frames := 7, cells := 1, slots := 6, locals := 103 })
abbrev mX5_clock : mM := (yX5_clock, cX5_clock, 1, (some .int), { frames := 0, cells := 0, slots := 0, locals := 0 })
abbrev mX5_save : mM := (yX5_save, cX5_save, 1, (some .int), { frames := 3, cells := 0, slots := 0, locals := 61 })
abbrev mX5_restore : mM := (yX5_restore, cX5_restore, 1, (some .int), { frames := 6, cells := 1, slots := 6, locals := 82 })
abbrev mX5_mixRules : mM := (yX5_mixRules, cX5_mixRules, 6, (some .long), { frames := 1, cells := 0, slots := 0, locals := 23 })
abbrev mX5_mixBuffer : mM := (yX5_mixBuffer, cX5_mixBuffer, 6, (some .long), { frames := 1, cells := 0, slots := 0, locals := 23 })
abbrev mX5_digest : mM := (yX5_digest, cX5_digest, 4, (some .long), { frames := 5, cells := 0, slots := 0, locals := 116 })
abbrev mX6_thrown : mM := (yX6_thrown, cX6_thrown, 1, (some .int), { frames := 0, cells := 0, slots := 0, locals := 0 })
abbrev mX6_within : mM := (yX6_within, cX6_within, 3, (some .boolean), { frames := 0, cells := 0, slots := 0, locals := 0 })
abbrev mX6_append : mM := (yX6_append, cX6_append, 2, (some .int), { frames := 1, cells := 0, slots := 0, locals := 22 })
abbrev mX6_clearBuffer : mM := (yX6_clearBuffer, cX6_clearBuffer, 2, (some .int), { frames := 0, cells := 0, slots := 0, locals := 0 })
abbrev mX6_isOfPattern : mM := (yX6_isOfPattern, cX6_isOfPattern, 2, (some .boolean), { frames := 1, cells := 0, slots := 0, locals := 22 })
abbrev mX6_isOperand : mM := (yX6_isOperand, cX6_isOperand, 2, (some .boolean), { frames := 2, cells := 0, slots := 0, locals := 43 })
abbrev mX6_operandOf : mM := (yX6_operandOf, cX6_operandOf, 1, (some .int), { frames := 0, cells := 0, slots := 0, locals := 0 })
abbrev mX6_takesPattern : mM := (yX6_takesPattern, cX6_takesPattern, 2, (some .boolean), { frames := 1, cells := 0, slots := 0, locals := 22 })
abbrev mX6_takesOutput : mM := (yX6_takesOutput, cX6_takesOutput, 2, (some .boolean), { frames := 1, cells := 0, slots := 0, locals := 22 })
abbrev mX6_takesReply : mM := (yX6_takesReply, cX6_takesReply, 3, (some .boolean), { frames := 2, cells := 0, slots := 0, locals := 43 })
abbrev mX6_takesOperand : mM := (yX6_takesOperand, cX6_takesOperand, 2, (some .boolean), { frames := 3, cells := 0, slots := 0, locals := 64 })
abbrev mX6_takesBehind : mM := (yX6_takesBehind, cX6_takesBehind, 2, (some .boolean), { frames := 0, cells := 0, slots := 0, locals := 0 })
abbrev mX6_takesGuard : mM := (yX6_takesGuard, cX6_takesGuard, 3, (some .boolean), { frames := 3, cells := 0, slots := 0, locals := 64 })
abbrev mX6_takes : mM := (yX6_takes, cX6_takes, 2, (some .boolean), { frames := 4, cells := 0, slots := 0, locals := 86 })
abbrev mX6_rightLength : mM := (yX6_rightLength, cX6_rightLength, 2, (some .int), { frames := 5, cells := 0, slots := 0, locals := 107 })
abbrev mX6_firstError : mM := (yX6_firstError, cX6_firstError, 1, (some .int), { frames := 6, cells := 0, slots := 0, locals := 128 })
abbrev mX6_wholeOutputs : mM := (yX6_wholeOutputs, cX6_wholeOutputs, 1, (some .int), { frames := 6, cells := 0, slots := 0, locals := 128 })
abbrev mX6_addRule : mM := (yX6_addRule, cX6_addRule, 4, (some .int), { frames := 7, cells := 0, slots := 0, locals := 148 })
abbrev mX6_isRule : mM := (yX6_isRule, cX6_isRule, 2, (some .boolean), { frames := 1, cells := 0, slots := 0, locals := 22 })
abbrev mX6_copyRule : mM := (yX6_copyRule, cX6_copyRule, 4, none, { frames := 0, cells := 0, slots := 0, locals := 0 })
abbrev mX6_removeRule : mM := (yX6_removeRule, cX6_removeRule, 3, (some .int), { frames := 2, cells := 0, slots := 0, locals := 43 })
abbrev mX6_ruleCount : mM := (yX6_ruleCount, cX6_ruleCount, 1, (some .int), { frames := 0, cells := 0, slots := 0, locals := 0 })
abbrev mX6_patternOf : mM := (yX6_patternOf, cX6_patternOf, 2, (some .int), { frames := 2, cells := 0, slots := 0, locals := 43 })
abbrev mX6_setPolicy : mM := (yX6_setPolicy, cX6_setPolicy, 3, (some .int), { frames := 1, cells := 0, slots := 0, locals := 22 })
abbrev mX6_isChannel : mM := (yX6_isChannel, cX6_isChannel, 1, (some .boolean), { frames := 1, cells := 0, slots := 0, locals := 22 })
abbrev mX6_put : mM := (yX6_put, cX6_put, 5, none, { frames := 0, cells := 0, slots := 0, locals := 0 })
abbrev mX6_send : mM := (yX6_send, cX6_send, 4, (some .int), { frames := 2, cells := 0, slots := 0, locals := 42 })
abbrev mX6_queueLength : mM := (yX6_queueLength, cX6_queueLength, 2, (some .int), { frames := 2, cells := 0, slots := 0, locals := 42 })
abbrev mX6_messageAt : mM := (yX6_messageAt, cX6_messageAt, 3, (some .int), { frames := 2, cells := 0, slots := 0, locals := 42 })
abbrev mX6_waitingNow : mM := (yX6_waitingNow, cX6_waitingNow, 3, (some .int), { frames := 0, cells := 0, slots := 0, locals := 0 })
abbrev mX6_waitingChannels : mM := (yX6_waitingChannels, cX6_waitingChannels, 1, (some .int), { frames := 1, cells := 0, slots := 0, locals := 22 })
abbrev mX6_readyNow : mM := (yX6_readyNow, cX6_readyNow, 4, (some .int), { frames := 1, cells := 0, slots := 0, locals := 22 })
abbrev mX6_readyRules : mM := (yX6_readyRules, cX6_readyRules, 1, (some .int), { frames := 2, cells := 0, slots := 0, locals := 45 })
abbrev mX6_operand : mM := (yX6_operand, cX6_operand, 2, (some .long), { frames := 0, cells := 0, slots := 0, locals := 0 })
abbrev mX6_isGuarded : mM := (yX6_isGuarded, cX6_isGuarded, 7, (some .boolean), { frames := 1, cells := 0, slots := 0, locals := 21 })
abbrev mX6_goOn : mM := (yX6_goOn, cX6_goOn, 3, (some .boolean), { frames := 0, cells := 0, slots := 0, locals := 0 })
abbrev mX6_matches : mM := (yX6_matches, cX6_matches, 4, (some .boolean), { frames := 2, cells := 0, slots := 0, locals := 47 })
abbrev mX6_hasRoom : mM := (yX6_hasRoom, cX6_hasRoom, 6, (some .boolean), { frames := 0, cells := 0, slots := 0, locals := 0 })
abbrev mX6_isEnabled : mM := (yX6_isEnabled, cX6_isEnabled, 2, (some .boolean), { frames := 3, cells := 0, slots := 0, locals := 70 })
abbrev mX6_enabledNow : mM := (yX6_enabledNow, cX6_enabledNow, 3, (some .int), { frames := 4, cells := 0, slots := 0, locals := 91 })
abbrev mX6_enabledRules : mM := (yX6_enabledRules, cX6_enabledRules, 1, (some .int), { frames := 5, cells := 0, slots := 0, locals := 113 })
abbrev mX6_matchOf : mM := (yX6_matchOf, cX6_matchOf, 3, (some .int), { frames := 3, cells := 0, slots := 0, locals := 70 })
abbrev mX6_nextNow : mM := (yX6_nextNow, cX6_nextNow, 6, (some .int), { frames := 5, cells := 0, slots := 0, locals := 113 })
abbrev mX6_nextRule : mM := (yX6_nextRule, cX6_nextRule, 1, (some .int), { frames := 6, cells := 0, slots := 0, locals := 138 })
abbrev mX6_consume : mM := (yX6_consume, cX6_consume, 5, none, { frames := 0, cells := 0, slots := 0, locals := 0 })
abbrev mX6_computed : mM := (yX6_computed, cX6_computed, 11, (some .int), { frames := 0, cells := 0, slots := 0, locals := 0 })
abbrev mX6_isKnown : mM := (yX6_isKnown, cX6_isKnown, 2, (some .boolean), { frames := 0, cells := 0, slots := 0, locals := 0 })
abbrev mX6_settle : mM := (yX6_settle, cX6_settle, 4, none, { frames := 1, cells := 0, slots := 0, locals := 21 })
abbrev mX6_fireNow : mM := (yX6_fireNow, cX6_fireNow, 6, none, { frames := 3, cells := 0, slots := 0, locals := 70 })
abbrev mX6_fire : mM := (yX6_fire, cX6_fire, 2, (some .int), { frames := 6, cells := 0, slots := 0, locals := 138 })
abbrev mX6_fireRule : mM := (yX6_fireRule, cX6_fireRule, 2, (some .int), { frames := 4, cells := 0, slots := 0, locals := 95 })
abbrev mX6_run : mM := (yX6_run, cX6_run, 4, (some .int), { frames := 6, cells := 0, slots := 0, locals := 138 })
abbrev mX6_isStuck : mM := (yX6_isStuck, cX6_isStuck, 1, (some .boolean), { frames := 5, cells := 0, slots := 0, locals := 113 })
abbrev mX6_ticketState : mM := (yX6_ticketState, cX6_ticketState, 2, (some .int), { frames := 1, cells := 0, slots := 0, locals := 21 })
abbrev mX6_replyOf : mM := (yX6_replyOf, cX6_replyOf, 2, (some .int), { frames := 1, cells := 0, slots := 0, locals := 21 })
abbrev mX6_firings : mM := (yX6_firings, cX6_firings, 2, (some .int), { frames := 2, cells := 0, slots := 0, locals := 43 })
abbrev mX6_consumed : mM := (yX6_consumed, cX6_consumed, 2, (some .int), { frames := 2, cells := 0, slots := 0, locals := 42 })
abbrev mX6_meanWait : mM := (yX6_meanWait, cX6_meanWait, 2, (some .double), { frames := 2, cells := 0, slots := 0, locals := 42 })
abbrev mX6_shareOf : mM := (yX6_shareOf, cX6_shareOf, 4, (some .float), { frames := 2, cells := 0, slots := 0, locals := 43 })
abbrev mX6_clock : mM := (yX6_clock, cX6_clock, 1, (some .int), { frames := 0, cells := 0, slots := 0, locals := 0 })
abbrev mX6_copy : mM := (yX6_copy, cX6_copy, 3, none, { frames := 0, cells := 0, slots := 0, locals := 0 })
abbrev mX6_copyLongs : mM := (yX6_copyLongs, cX6_copyLongs, 3, none, { frames := 0, cells := 0, slots := 0, locals := 0 })
abbrev mX6_messages : mM := (yX6_messages, cX6_messages, 3, (some .int), { frames := 0, cells := 0, slots := 0, locals := 0 })
abbrev mX6_save : mM := (yX6_save, cX6_save, 1, (some .int), { frames := 1, cells := 0, slots := 0, locals := 22 })
abbrev mX6_restore : mM := (yX6_restore, cX6_restore, 1, (some .int), { frames := 1, cells := 0, slots := 0, locals := 22 })
abbrev mX6_mix : mM := (yX6_mix, cX6_mix, 3, none, { frames := 0, cells := 0, slots := 0, locals := 0 })
abbrev mX6_mixMessages : mM := (yX6_mixMessages, cX6_mixMessages, 3, none, { frames := 1, cells := 0, slots := 0, locals := 22 })
abbrev mX6_mixTickets : mM := (yX6_mixTickets, cX6_mixTickets, 2, none, { frames := 1, cells := 0, slots := 0, locals := 22 })
abbrev mX6_digest : mM := (yX6_digest, cX6_digest, 2, (some .long), { frames := 6, cells := 0, slots := 0, locals := 138 })
theorem iX0_t : ∀ w ∈ u_ws RX0 TX0 6, w ∈ tables_1 := by decide +kernel
theorem iX0_g : ∀ w ∈ u_ws RX0 TX0 6, goodWord w = true := by decide +kernel
theorem iX0 : ∀ w ∈ u_ws RX0 TX0 6, w ∈ mTB := fun w h => mTB_of (List.mem_append_right _ (iX0_t w h)) (iX0_g w h)
theorem iX1_t : ∀ w ∈ u_ws RX1 TX1 11, w ∈ tables_1 := by decide +kernel
theorem iX1_g : ∀ w ∈ u_ws RX1 TX1 11, goodWord w = true := by decide +kernel
theorem iX1 : ∀ w ∈ u_ws RX1 TX1 11, w ∈ mTB := fun w h => mTB_of (List.mem_append_right _ (iX1_t w h)) (iX1_g w h)
theorem iX2_t : ∀ w ∈ u_ws RX2 TX2 4, w ∈ tables_1 := by decide +kernel
theorem iX2_g : ∀ w ∈ u_ws RX2 TX2 4, goodWord w = true := by decide +kernel
theorem iX2 : ∀ w ∈ u_ws RX2 TX2 4, w ∈ mTB := fun w h => mTB_of (List.mem_append_right _ (iX2_t w h)) (iX2_g w h)
theorem iX3_t : ∀ w ∈ u_ws RX3 TX3 5, w ∈ tables_1 := by decide +kernel
theorem iX3_g : ∀ w ∈ u_ws RX3 TX3 5, goodWord w = true := by decide +kernel
theorem iX3 : ∀ w ∈ u_ws RX3 TX3 5, w ∈ mTB := fun w h => mTB_of (List.mem_append_right _ (iX3_t w h)) (iX3_g w h)
theorem iX4_t : ∀ w ∈ u_ws RX4 TX4 3, w ∈ tables_1 := by decide +kernel
theorem iX4_g : ∀ w ∈ u_ws RX4 TX4 3, goodWord w = true := by decide +kernel
theorem iX4 : ∀ w ∈ u_ws RX4 TX4 3, w ∈ mTB := fun w h => mTB_of (List.mem_append_right _ (iX4_t w h)) (iX4_g w h)
theorem iX5_t : ∀ w ∈ u_ws RX5 TX5 12, w ∈ tables_1 := by decide +kernel
theorem iX5_g : ∀ w ∈ u_ws RX5 TX5 12, goodWord w = true := by decide +kernel
theorem iX5 : ∀ w ∈ u_ws RX5 TX5 12, w ∈ mTB := fun w h => mTB_of (List.mem_append_right _ (iX5_t w h)) (iX5_g w h)
theorem iX6_t : ∀ w ∈ u_ws RX6 TX6 53, w ∈ tables_1 := by decide +kernel
theorem iX6_g : ∀ w ∈ u_ws RX6 TX6 53, goodWord w = true := by decide +kernel
theorem iX6 : ∀ w ∈ u_ws RX6 TX6 53, w ∈ mTB := fun w h => mTB_of (List.mem_append_right _ (iX6_t w h)) (iX6_g w h)
theorem fX5_9 : mFL RX5 9 5 0 := ⟨RX5, TX5, 12, rfl, by decide, iX5, Or.inl (mTB_t 171 (by decide +kernel) (by decide +kernel))⟩
theorem fX5_16 : mFL RX5 16 5 2 := ⟨RX5, TX5, 12, rfl, by decide, iX5, Or.inl (mTB_t 173 (by decide +kernel) (by decide +kernel))⟩
theorem fX5_22 : mFL RX5 22 5 3 := ⟨RX5, TX5, 12, rfl, by decide, iX5, Or.inl (mTB_t 174 (by decide +kernel) (by decide +kernel))⟩
theorem fX5_29 : mFL RX5 29 5 6 := ⟨RX5, TX5, 12, rfl, by decide, iX5, Or.inl (mTB_t 177 (by decide +kernel) (by decide +kernel))⟩
theorem fX5_33 : mFL RX5 33 5 7 := ⟨RX5, TX5, 12, rfl, by decide, iX5, Or.inl (mTB_t 178 (by decide +kernel) (by decide +kernel))⟩
theorem fX5_36 : mFL RX5 36 5 9 := ⟨RX5, TX5, 12, rfl, by decide, iX5, Or.inl (mTB_t 180 (by decide +kernel) (by decide +kernel))⟩
theorem fX5_39 : mFL RX5 39 5 10 := ⟨RX5, TX5, 12, rfl, by decide, iX5, Or.inl (mTB_t 181 (by decide +kernel) (by decide +kernel))⟩
theorem fX5_42 : mFL RX5 42 5 11 := ⟨RX5, TX5, 12, rfl, by decide, iX5, Or.inl (mTB_t 182 (by decide +kernel) (by decide +kernel))⟩
theorem fX5_53 : mFL RX5 53 5 1 := ⟨RX5, TX5, 12, rfl, by decide, iX5, Or.inl (mTB_t 172 (by decide +kernel) (by decide +kernel))⟩
theorem fX5_72 : mFL RX5 72 5 4 := ⟨RX5, TX5, 12, rfl, by decide, iX5, Or.inl (mTB_t 175 (by decide +kernel) (by decide +kernel))⟩
theorem fX5_81 : mFL RX5 81 3 2 := ⟨RX3, TX3, 5, rfl, by decide, iX3, Or.inr ⟨"JoinRuntime", by decide +kernel⟩⟩
theorem fX5_84 : mFL RX5 84 5 8 := ⟨RX5, TX5, 12, rfl, by decide, iX5, Or.inl (mTB_t 179 (by decide +kernel) (by decide +kernel))⟩
theorem fX5_92 : mFL RX5 92 3 4 := ⟨RX3, TX3, 5, rfl, by decide, iX3, Or.inr ⟨"JoinRuntime", by decide +kernel⟩⟩
theorem fX5_95 : mFL RX5 95 1 0 := ⟨RX1, TX1, 11, rfl, by decide, iX1, Or.inr ⟨"JoinRuntime", by decide +kernel⟩⟩
theorem fX5_100 : mFL RX5 100 5 5 := ⟨RX5, TX5, 12, rfl, by decide, iX5, Or.inl (mTB_t 176 (by decide +kernel) (by decide +kernel))⟩
theorem fX5_108 : mFL RX5 108 3 0 := ⟨RX3, TX3, 5, rfl, by decide, iX3, Or.inr ⟨"JoinRuntime", by decide +kernel⟩⟩
theorem fX5_119 : mFL RX5 119 3 3 := ⟨RX3, TX3, 5, rfl, by decide, iX3, Or.inr ⟨"JoinRuntime", by decide +kernel⟩⟩
theorem fX5_122 : mFL RX5 122 3 1 := ⟨RX3, TX3, 5, rfl, by decide, iX3, Or.inr ⟨"JoinRuntime", by decide +kernel⟩⟩
theorem fX5_135 : mFL RX5 135 0 3 := ⟨RX0, TX0, 6, rfl, by decide, iX0, Or.inr ⟨"JoinRuntime", by decide +kernel⟩⟩
theorem fX5_199 : mFL RX5 199 0 4 := ⟨RX0, TX0, 6, rfl, by decide, iX0, Or.inr ⟨"JoinRuntime", by decide +kernel⟩⟩
theorem fX5_202 : mFL RX5 202 0 5 := ⟨RX0, TX0, 6, rfl, by decide, iX0, Or.inr ⟨"JoinRuntime", by decide +kernel⟩⟩
theorem fX5_264 : mFL RX5 264 1 1 := ⟨RX1, TX1, 11, rfl, by decide, iX1, Or.inr ⟨"JoinRuntime", by decide +kernel⟩⟩
theorem fX5_267 : mFL RX5 267 1 3 := ⟨RX1, TX1, 11, rfl, by decide, iX1, Or.inr ⟨"JoinRuntime", by decide +kernel⟩⟩
theorem fX5_289 : mFL RX5 289 1 5 := ⟨RX1, TX1, 11, rfl, by decide, iX1, Or.inr ⟨"JoinRuntime", by decide +kernel⟩⟩
theorem fX5_308 : mFL RX5 308 1 6 := ⟨RX1, TX1, 11, rfl, by decide, iX1, Or.inr ⟨"JoinRuntime", by decide +kernel⟩⟩
theorem fX5_315 : mFL RX5 315 1 7 := ⟨RX1, TX1, 11, rfl, by decide, iX1, Or.inr ⟨"JoinRuntime", by decide +kernel⟩⟩
theorem fX0_9 : mFL RX0 9 0 0 := ⟨RX0, TX0, 6, rfl, by decide, iX0, Or.inl (mTB_t 126 (by decide +kernel) (by decide +kernel))⟩
theorem fX0_15 : mFL RX0 15 0 1 := ⟨RX0, TX0, 6, rfl, by decide, iX0, Or.inl (mTB_t 127 (by decide +kernel) (by decide +kernel))⟩
theorem fX0_18 : mFL RX0 18 0 2 := ⟨RX0, TX0, 6, rfl, by decide, iX0, Or.inl (mTB_t 128 (by decide +kernel) (by decide +kernel))⟩
theorem fX0_21 : mFL RX0 21 0 3 := ⟨RX0, TX0, 6, rfl, by decide, iX0, Or.inl (mTB_t 129 (by decide +kernel) (by decide +kernel))⟩
theorem fX0_33 : mFL RX0 33 0 4 := ⟨RX0, TX0, 6, rfl, by decide, iX0, Or.inl (mTB_t 132 (by decide +kernel) (by decide +kernel))⟩
theorem fX0_36 : mFL RX0 36 0 5 := ⟨RX0, TX0, 6, rfl, by decide, iX0, Or.inl (mTB_t 134 (by decide +kernel) (by decide +kernel))⟩
theorem fX1_9 : mFL RX1 9 1 6 := ⟨RX1, TX1, 11, rfl, by decide, iX1, Or.inl (mTB_t 50 (by decide +kernel) (by decide +kernel))⟩
theorem fX1_15 : mFL RX1 15 1 7 := ⟨RX1, TX1, 11, rfl, by decide, iX1, Or.inl (mTB_t 52 (by decide +kernel) (by decide +kernel))⟩
theorem fX1_19 : mFL RX1 19 1 8 := ⟨RX1, TX1, 11, rfl, by decide, iX1, Or.inl (mTB_t 54 (by decide +kernel) (by decide +kernel))⟩
theorem fX1_22 : mFL RX1 22 1 9 := ⟨RX1, TX1, 11, rfl, by decide, iX1, Or.inl (mTB_t 55 (by decide +kernel) (by decide +kernel))⟩
theorem fX1_25 : mFL RX1 25 1 10 := ⟨RX1, TX1, 11, rfl, by decide, iX1, Or.inl (mTB_t 56 (by decide +kernel) (by decide +kernel))⟩
theorem fX1_28 : mFL RX1 28 1 0 := ⟨RX1, TX1, 11, rfl, by decide, iX1, Or.inl (mTB_t 38 (by decide +kernel) (by decide +kernel))⟩
theorem fX1_32 : mFL RX1 32 1 4 := ⟨RX1, TX1, 11, rfl, by decide, iX1, Or.inl (mTB_t 46 (by decide +kernel) (by decide +kernel))⟩
theorem fX1_35 : mFL RX1 35 1 5 := ⟨RX1, TX1, 11, rfl, by decide, iX1, Or.inl (mTB_t 47 (by decide +kernel) (by decide +kernel))⟩
theorem fX1_42 : mFL RX1 42 1 1 := ⟨RX1, TX1, 11, rfl, by decide, iX1, Or.inl (mTB_t 41 (by decide +kernel) (by decide +kernel))⟩
theorem fX1_45 : mFL RX1 45 1 3 := ⟨RX1, TX1, 11, rfl, by decide, iX1, Or.inl (mTB_t 44 (by decide +kernel) (by decide +kernel))⟩
theorem fX1_52 : mFL RX1 52 1 2 := ⟨RX1, TX1, 11, rfl, by decide, iX1, Or.inl (mTB_t 43 (by decide +kernel) (by decide +kernel))⟩
theorem fX2_12 : mFL RX2 12 2 0 := ⟨RX2, TX2, 4, rfl, by decide, iX2, Or.inl (mTB_t 82 (by decide +kernel) (by decide +kernel))⟩
theorem fX2_21 : mFL RX2 21 2 1 := ⟨RX2, TX2, 4, rfl, by decide, iX2, Or.inl (mTB_t 83 (by decide +kernel) (by decide +kernel))⟩
theorem fX2_54 : mFL RX2 54 2 3 := ⟨RX2, TX2, 4, rfl, by decide, iX2, Or.inl (mTB_t 85 (by decide +kernel) (by decide +kernel))⟩
theorem fX2_60 : mFL RX2 60 1 0 := ⟨RX1, TX1, 11, rfl, by decide, iX1, Or.inr ⟨"JoinRuntime", by decide +kernel⟩⟩
theorem fX2_72 : mFL RX2 72 2 2 := ⟨RX2, TX2, 4, rfl, by decide, iX2, Or.inl (mTB_t 84 (by decide +kernel) (by decide +kernel))⟩
theorem fX2_93 : mFL RX2 93 1 5 := ⟨RX1, TX1, 11, rfl, by decide, iX1, Or.inr ⟨"JoinRuntime", by decide +kernel⟩⟩
theorem fX3_11 : mFL RX3 11 3 0 := ⟨RX3, TX3, 5, rfl, by decide, iX3, Or.inl (mTB_t 149 (by decide +kernel) (by decide +kernel))⟩
theorem fX3_20 : mFL RX3 20 3 1 := ⟨RX3, TX3, 5, rfl, by decide, iX3, Or.inl (mTB_t 151 (by decide +kernel) (by decide +kernel))⟩
theorem fX3_24 : mFL RX3 24 3 2 := ⟨RX3, TX3, 5, rfl, by decide, iX3, Or.inl (mTB_t 153 (by decide +kernel) (by decide +kernel))⟩
theorem fX3_28 : mFL RX3 28 3 4 := ⟨RX3, TX3, 5, rfl, by decide, iX3, Or.inl (mTB_t 157 (by decide +kernel) (by decide +kernel))⟩
theorem fX3_46 : mFL RX3 46 3 3 := ⟨RX3, TX3, 5, rfl, by decide, iX3, Or.inl (mTB_t 155 (by decide +kernel) (by decide +kernel))⟩
theorem fX3_49 : mFL RX3 49 0 3 := ⟨RX0, TX0, 6, rfl, by decide, iX0, Or.inr ⟨"JoinRuntime", by decide +kernel⟩⟩
theorem fX4_9 : mFL RX4 9 4 0 := ⟨RX4, TX4, 3, rfl, by decide, iX4, Or.inl (mTB_t 111 (by decide +kernel) (by decide +kernel))⟩
theorem fX4_15 : mFL RX4 15 4 1 := ⟨RX4, TX4, 3, rfl, by decide, iX4, Or.inl (mTB_t 112 (by decide +kernel) (by decide +kernel))⟩
theorem fX4_18 : mFL RX4 18 4 2 := ⟨RX4, TX4, 3, rfl, by decide, iX4, Or.inl (mTB_t 113 (by decide +kernel) (by decide +kernel))⟩
theorem fX6_7 : mFL RX6 7 6 2 := ⟨RX6, TX6, 53, rfl, by decide, iX6, Or.inl (mTB_t 797 (by decide +kernel) (by decide +kernel))⟩
theorem fX6_13 : mFL RX6 13 6 4 := ⟨RX6, TX6, 53, rfl, by decide, iX6, Or.inl (mTB_t 799 (by decide +kernel) (by decide +kernel))⟩
theorem fX6_16 : mFL RX6 16 6 5 := ⟨RX6, TX6, 53, rfl, by decide, iX6, Or.inl (mTB_t 800 (by decide +kernel) (by decide +kernel))⟩
theorem fX6_19 : mFL RX6 19 6 6 := ⟨RX6, TX6, 53, rfl, by decide, iX6, Or.inl (mTB_t 801 (by decide +kernel) (by decide +kernel))⟩
theorem fX6_22 : mFL RX6 22 6 7 := ⟨RX6, TX6, 53, rfl, by decide, iX6, Or.inl (mTB_t 802 (by decide +kernel) (by decide +kernel))⟩
theorem fX6_25 : mFL RX6 25 6 8 := ⟨RX6, TX6, 53, rfl, by decide, iX6, Or.inl (mTB_t 803 (by decide +kernel) (by decide +kernel))⟩
theorem fX6_28 : mFL RX6 28 6 9 := ⟨RX6, TX6, 53, rfl, by decide, iX6, Or.inl (mTB_t 804 (by decide +kernel) (by decide +kernel))⟩
theorem fX6_31 : mFL RX6 31 6 10 := ⟨RX6, TX6, 53, rfl, by decide, iX6, Or.inl (mTB_t 805 (by decide +kernel) (by decide +kernel))⟩
theorem fX6_34 : mFL RX6 34 6 11 := ⟨RX6, TX6, 53, rfl, by decide, iX6, Or.inl (mTB_t 806 (by decide +kernel) (by decide +kernel))⟩
theorem fX6_37 : mFL RX6 37 6 12 := ⟨RX6, TX6, 53, rfl, by decide, iX6, Or.inl (mTB_t 807 (by decide +kernel) (by decide +kernel))⟩
theorem fX6_41 : mFL RX6 41 6 14 := ⟨RX6, TX6, 53, rfl, by decide, iX6, Or.inl (mTB_t 809 (by decide +kernel) (by decide +kernel))⟩
theorem fX6_44 : mFL RX6 44 6 15 := ⟨RX6, TX6, 53, rfl, by decide, iX6, Or.inl (mTB_t 810 (by decide +kernel) (by decide +kernel))⟩
theorem fX6_47 : mFL RX6 47 6 16 := ⟨RX6, TX6, 53, rfl, by decide, iX6, Or.inl (mTB_t 811 (by decide +kernel) (by decide +kernel))⟩
theorem fX6_50 : mFL RX6 50 6 17 := ⟨RX6, TX6, 53, rfl, by decide, iX6, Or.inl (mTB_t 812 (by decide +kernel) (by decide +kernel))⟩
theorem fX6_53 : mFL RX6 53 6 20 := ⟨RX6, TX6, 53, rfl, by decide, iX6, Or.inl (mTB_t 815 (by decide +kernel) (by decide +kernel))⟩
theorem fX6_56 : mFL RX6 56 6 21 := ⟨RX6, TX6, 53, rfl, by decide, iX6, Or.inl (mTB_t 816 (by decide +kernel) (by decide +kernel))⟩
theorem fX6_59 : mFL RX6 59 6 22 := ⟨RX6, TX6, 53, rfl, by decide, iX6, Or.inl (mTB_t 817 (by decide +kernel) (by decide +kernel))⟩
theorem fX6_62 : mFL RX6 62 6 23 := ⟨RX6, TX6, 53, rfl, by decide, iX6, Or.inl (mTB_t 818 (by decide +kernel) (by decide +kernel))⟩
theorem fX6_66 : mFL RX6 66 6 28 := ⟨RX6, TX6, 53, rfl, by decide, iX6, Or.inl (mTB_t 823 (by decide +kernel) (by decide +kernel))⟩
theorem fX6_69 : mFL RX6 69 6 32 := ⟨RX6, TX6, 53, rfl, by decide, iX6, Or.inl (mTB_t 827 (by decide +kernel) (by decide +kernel))⟩
theorem fX6_72 : mFL RX6 72 6 33 := ⟨RX6, TX6, 53, rfl, by decide, iX6, Or.inl (mTB_t 828 (by decide +kernel) (by decide +kernel))⟩
theorem fX6_75 : mFL RX6 75 6 34 := ⟨RX6, TX6, 53, rfl, by decide, iX6, Or.inl (mTB_t 829 (by decide +kernel) (by decide +kernel))⟩
theorem fX6_78 : mFL RX6 78 6 35 := ⟨RX6, TX6, 53, rfl, by decide, iX6, Or.inl (mTB_t 830 (by decide +kernel) (by decide +kernel))⟩
theorem fX6_81 : mFL RX6 81 6 36 := ⟨RX6, TX6, 53, rfl, by decide, iX6, Or.inl (mTB_t 831 (by decide +kernel) (by decide +kernel))⟩
theorem fX6_84 : mFL RX6 84 6 37 := ⟨RX6, TX6, 53, rfl, by decide, iX6, Or.inl (mTB_t 832 (by decide +kernel) (by decide +kernel))⟩
theorem fX6_87 : mFL RX6 87 6 38 := ⟨RX6, TX6, 53, rfl, by decide, iX6, Or.inl (mTB_t 833 (by decide +kernel) (by decide +kernel))⟩
theorem fX6_90 : mFL RX6 90 6 43 := ⟨RX6, TX6, 53, rfl, by decide, iX6, Or.inl (mTB_t 838 (by decide +kernel) (by decide +kernel))⟩
theorem fX6_93 : mFL RX6 93 6 44 := ⟨RX6, TX6, 53, rfl, by decide, iX6, Or.inl (mTB_t 839 (by decide +kernel) (by decide +kernel))⟩
theorem fX6_96 : mFL RX6 96 6 45 := ⟨RX6, TX6, 53, rfl, by decide, iX6, Or.inl (mTB_t 840 (by decide +kernel) (by decide +kernel))⟩
theorem fX6_99 : mFL RX6 99 6 46 := ⟨RX6, TX6, 53, rfl, by decide, iX6, Or.inl (mTB_t 841 (by decide +kernel) (by decide +kernel))⟩
theorem fX6_102 : mFL RX6 102 6 47 := ⟨RX6, TX6, 53, rfl, by decide, iX6, Or.inl (mTB_t 842 (by decide +kernel) (by decide +kernel))⟩
theorem fX6_105 : mFL RX6 105 6 48 := ⟨RX6, TX6, 53, rfl, by decide, iX6, Or.inl (mTB_t 843 (by decide +kernel) (by decide +kernel))⟩
theorem fX6_108 : mFL RX6 108 6 49 := ⟨RX6, TX6, 53, rfl, by decide, iX6, Or.inl (mTB_t 844 (by decide +kernel) (by decide +kernel))⟩
theorem fX6_111 : mFL RX6 111 6 50 := ⟨RX6, TX6, 53, rfl, by decide, iX6, Or.inl (mTB_t 845 (by decide +kernel) (by decide +kernel))⟩
theorem fX6_114 : mFL RX6 114 6 51 := ⟨RX6, TX6, 53, rfl, by decide, iX6, Or.inl (mTB_t 846 (by decide +kernel) (by decide +kernel))⟩
theorem fX6_117 : mFL RX6 117 6 0 := ⟨RX6, TX6, 53, rfl, by decide, iX6, Or.inl (mTB_t 795 (by decide +kernel) (by decide +kernel))⟩
theorem fX6_124 : mFL RX6 124 6 1 := ⟨RX6, TX6, 53, rfl, by decide, iX6, Or.inl (mTB_t 796 (by decide +kernel) (by decide +kernel))⟩
theorem fX6_127 : mFL RX6 127 6 25 := ⟨RX6, TX6, 53, rfl, by decide, iX6, Or.inl (mTB_t 820 (by decide +kernel) (by decide +kernel))⟩
theorem fX6_134 : mFL RX6 134 6 27 := ⟨RX6, TX6, 53, rfl, by decide, iX6, Or.inl (mTB_t 822 (by decide +kernel) (by decide +kernel))⟩
theorem fX6_137 : mFL RX6 137 6 26 := ⟨RX6, TX6, 53, rfl, by decide, iX6, Or.inl (mTB_t 821 (by decide +kernel) (by decide +kernel))⟩
theorem fX6_140 : mFL RX6 140 6 24 := ⟨RX6, TX6, 53, rfl, by decide, iX6, Or.inl (mTB_t 819 (by decide +kernel) (by decide +kernel))⟩
theorem fX6_143 : mFL RX6 143 6 29 := ⟨RX6, TX6, 53, rfl, by decide, iX6, Or.inl (mTB_t 824 (by decide +kernel) (by decide +kernel))⟩
theorem fX6_146 : mFL RX6 146 6 30 := ⟨RX6, TX6, 53, rfl, by decide, iX6, Or.inl (mTB_t 825 (by decide +kernel) (by decide +kernel))⟩
theorem fX6_156 : mFL RX6 156 6 31 := ⟨RX6, TX6, 53, rfl, by decide, iX6, Or.inl (mTB_t 826 (by decide +kernel) (by decide +kernel))⟩
theorem fX6_188 : mFL RX6 188 6 3 := ⟨RX6, TX6, 53, rfl, by decide, iX6, Or.inl (mTB_t 798 (by decide +kernel) (by decide +kernel))⟩
theorem fX6_191 : mFL RX6 191 6 39 := ⟨RX6, TX6, 53, rfl, by decide, iX6, Or.inl (mTB_t 834 (by decide +kernel) (by decide +kernel))⟩
theorem fX6_201 : mFL RX6 201 6 13 := ⟨RX6, TX6, 53, rfl, by decide, iX6, Or.inl (mTB_t 808 (by decide +kernel) (by decide +kernel))⟩
theorem fX6_204 : mFL RX6 204 6 18 := ⟨RX6, TX6, 53, rfl, by decide, iX6, Or.inl (mTB_t 813 (by decide +kernel) (by decide +kernel))⟩
theorem fX6_210 : mFL RX6 210 6 19 := ⟨RX6, TX6, 53, rfl, by decide, iX6, Or.inl (mTB_t 814 (by decide +kernel) (by decide +kernel))⟩
theorem fX6_269 : mFL RX6 269 6 40 := ⟨RX6, TX6, 53, rfl, by decide, iX6, Or.inl (mTB_t 835 (by decide +kernel) (by decide +kernel))⟩
theorem fX6_272 : mFL RX6 272 6 41 := ⟨RX6, TX6, 53, rfl, by decide, iX6, Or.inl (mTB_t 836 (by decide +kernel) (by decide +kernel))⟩
theorem fX6_275 : mFL RX6 275 6 42 := ⟨RX6, TX6, 53, rfl, by decide, iX6, Or.inl (mTB_t 837 (by decide +kernel) (by decide +kernel))⟩
theorem fX6_291 : mFL RX6 291 6 52 := ⟨RX6, TX6, 53, rfl, by decide, iX6, Or.inl (mTB_t 847 (by decide +kernel) (by decide +kernel))⟩
theorem sX5_1 : mFS 5 1 .int := by
  intro C T N h
  cases h
  exact ⟨⟨tyX5, tyX5_ok⟩, nmX5, rfl, by decide +kernel⟩
theorem sX5_8 : mFS 5 8 .boolean := by
  intro C T N h
  cases h
  exact ⟨⟨tyX5, tyX5_ok⟩, nmX5, rfl, by decide +kernel⟩
theorem sX5_5 : mFS 5 5 .int := by
  intro C T N h
  cases h
  exact ⟨⟨tyX5, tyX5_ok⟩, nmX5, rfl, by decide +kernel⟩
theorem sX5_4 : mFS 5 4 .int := by
  intro C T N h
  cases h
  exact ⟨⟨tyX5, tyX5_ok⟩, nmX5, rfl, by decide +kernel⟩
theorem sX0_3 : mFS 0 3 .int := by
  intro C T N h
  cases h
  exact ⟨⟨tyX0, tyX0_ok⟩, nmX0, rfl, by decide +kernel⟩
theorem sX0_4 : mFS 0 4 .int := by
  intro C T N h
  cases h
  exact ⟨⟨tyX0, tyX0_ok⟩, nmX0, rfl, by decide +kernel⟩
theorem sX0_5 : mFS 0 5 .long := by
  intro C T N h
  cases h
  exact ⟨⟨tyX0, tyX0_ok⟩, nmX0, rfl, by decide +kernel⟩
theorem sX1_1 : mFS 1 1 .int := by
  intro C T N h
  cases h
  exact ⟨⟨tyX1, tyX1_ok⟩, nmX1, rfl, by decide +kernel⟩
theorem sX1_3 : mFS 1 3 .int := by
  intro C T N h
  cases h
  exact ⟨⟨tyX1, tyX1_ok⟩, nmX1, rfl, by decide +kernel⟩
theorem sX1_2 : mFS 1 2 .int := by
  intro C T N h
  cases h
  exact ⟨⟨tyX1, tyX1_ok⟩, nmX1, rfl, by decide +kernel⟩
theorem sX1_5 : mFS 1 5 .int := by
  intro C T N h
  cases h
  exact ⟨⟨tyX1, tyX1_ok⟩, nmX1, rfl, by decide +kernel⟩
theorem sX1_0 : mFS 1 0 .int := by
  intro C T N h
  cases h
  exact ⟨⟨tyX1, tyX1_ok⟩, nmX1, rfl, by decide +kernel⟩
theorem sX1_4 : mFS 1 4 .int := by
  intro C T N h
  cases h
  exact ⟨⟨tyX1, tyX1_ok⟩, nmX1, rfl, by decide +kernel⟩
theorem sX2_2 : mFS 2 2 .int := by
  intro C T N h
  cases h
  exact ⟨⟨tyX2, tyX2_ok⟩, nmX2, rfl, by decide +kernel⟩
theorem sX2_1 : mFS 2 1 .int := by
  intro C T N h
  cases h
  exact ⟨⟨tyX2, tyX2_ok⟩, nmX2, rfl, by decide +kernel⟩
theorem sX2_0 : mFS 2 0 (.object "JoinRuntime$Rule") := by
  intro C T N h
  cases h
  exact ⟨⟨tyX2, tyX2_ok⟩, nmX2, rfl, by decide +kernel⟩
theorem sX2_3 : mFS 2 3 .int := by
  intro C T N h
  cases h
  exact ⟨⟨tyX2, tyX2_ok⟩, nmX2, rfl, by decide +kernel⟩
theorem sX3_4 : mFS 3 4 .int := by
  intro C T N h
  cases h
  exact ⟨⟨tyX3, tyX3_ok⟩, nmX3, rfl, by decide +kernel⟩
theorem sX3_3 : mFS 3 3 .int := by
  intro C T N h
  cases h
  exact ⟨⟨tyX3, tyX3_ok⟩, nmX3, rfl, by decide +kernel⟩
theorem sX4_2 : mFS 4 2 .int := by
  intro C T N h
  cases h
  exact ⟨⟨tyX4, tyX4_ok⟩, nmX4, rfl, by decide +kernel⟩
theorem sX6_18 : mFS 6 18 .int := by
  intro C T N h
  cases h
  exact ⟨⟨tyX6, tyX6_ok⟩, nmX6, rfl, by decide +kernel⟩
theorem sX6_19 : mFS 6 19 .int := by
  intro C T N h
  cases h
  exact ⟨⟨tyX6, tyX6_ok⟩, nmX6, rfl, by decide +kernel⟩
theorem sX6_52 : mFS 6 52 .long := by
  intro C T N h
  cases h
  exact ⟨⟨tyX6, tyX6_ok⟩, nmX6, rfl, by decide +kernel⟩
theorem sX6_31 : mFS 6 31 .boolean := by
  intro C T N h
  cases h
  exact ⟨⟨tyX6, tyX6_ok⟩, nmX6, rfl, by decide +kernel⟩
theorem sX6_39 : mFS 6 39 .boolean := by
  intro C T N h
  cases h
  exact ⟨⟨tyX6, tyX6_ok⟩, nmX6, rfl, by decide +kernel⟩
theorem sX6_12 : mFS 6 12 .int := by
  intro C T N h
  cases h
  exact ⟨⟨tyX6, tyX6_ok⟩, nmX6, rfl, by decide +kernel⟩
theorem sX6_1 : mFS 6 1 .int := by
  intro C T N h
  cases h
  exact ⟨⟨tyX6, tyX6_ok⟩, nmX6, rfl, by decide +kernel⟩
theorem sX6_13 : mFS 6 13 .int := by
  intro C T N h
  cases h
  exact ⟨⟨tyX6, tyX6_ok⟩, nmX6, rfl, by decide +kernel⟩
theorem sX6_27 : mFS 6 27 .int := by
  intro C T N h
  cases h
  exact ⟨⟨tyX6, tyX6_ok⟩, nmX6, rfl, by decide +kernel⟩
theorem sX6_26 : mFS 6 26 .int := by
  intro C T N h
  cases h
  exact ⟨⟨tyX6, tyX6_ok⟩, nmX6, rfl, by decide +kernel⟩
theorem sX6_29 : mFS 6 29 .int := by
  intro C T N h
  cases h
  exact ⟨⟨tyX6, tyX6_ok⟩, nmX6, rfl, by decide +kernel⟩
theorem sX6_25 : mFS 6 25 .int := by
  intro C T N h
  cases h
  exact ⟨⟨tyX6, tyX6_ok⟩, nmX6, rfl, by decide +kernel⟩
theorem sX6_30 : mFS 6 30 .int := by
  intro C T N h
  cases h
  exact ⟨⟨tyX6, tyX6_ok⟩, nmX6, rfl, by decide +kernel⟩
theorem sX6_3 : mFS 6 3 .int := by
  intro C T N h
  cases h
  exact ⟨⟨tyX6, tyX6_ok⟩, nmX6, rfl, by decide +kernel⟩
theorem sX6_40 : mFS 6 40 .int := by
  intro C T N h
  cases h
  exact ⟨⟨tyX6, tyX6_ok⟩, nmX6, rfl, by decide +kernel⟩
theorem sX6_41 : mFS 6 41 .int := by
  intro C T N h
  cases h
  exact ⟨⟨tyX6, tyX6_ok⟩, nmX6, rfl, by decide +kernel⟩
theorem sX6_42 : mFS 6 42 .int := by
  intro C T N h
  cases h
  exact ⟨⟨tyX6, tyX6_ok⟩, nmX6, rfl, by decide +kernel⟩
theorem sX6_24 : mFS 6 24 .int := by
  intro C T N h
  cases h
  exact ⟨⟨tyX6, tyX6_ok⟩, nmX6, rfl, by decide +kernel⟩
theorem sX6_0 : mFS 6 0 .int := by
  intro C T N h
  cases h
  exact ⟨⟨tyX6, tyX6_ok⟩, nmX6, rfl, by decide +kernel⟩
theorem lX0_25 : mLV RX0 25 mX0_has 1 := ⟨⟨mTB_t 396 (by decide +kernel) (by decide +kernel), mTB_t 6 (by decide +kernel) (by decide +kernel), mTB_t 399 (by decide +kernel) (by decide +kernel), ⟨by decide +kernel, by decide +kernel, by decide +kernel⟩⟩, mTB_t 397 (by decide +kernel) (by decide +kernel), mTB_t 398 (by decide +kernel) (by decide +kernel)⟩
theorem lX0_29 : mLV RX0 29 mX0_isFull 0 := ⟨⟨mTB_t 444 (by decide +kernel) (by decide +kernel), mTB_t 6 (by decide +kernel) (by decide +kernel), mTB_t 447 (by decide +kernel) (by decide +kernel), ⟨by decide +kernel, by decide +kernel, by decide +kernel⟩⟩, mTB_t 445 (by decide +kernel) (by decide +kernel), mTB_t 446 (by decide +kernel) (by decide +kernel)⟩
theorem lX0_40 : Cond.methodLink RX0 40 arraycopyName ∈ mTB := mTB_t 469 (by decide +kernel) (by decide +kernel)
theorem lX0_46 : mLN RX0 46 mX5_mix 2 := ⟨⟨"JoinRuntime", by decide +kernel⟩, mTB_t 1 (by decide +kernel) (by decide +kernel), mTB_t 493 (by decide +kernel) (by decide +kernel), ⟨by decide +kernel, by decide +kernel, by decide +kernel⟩, mTB_t 492 (by decide +kernel) (by decide +kernel)⟩
theorem lX1_38 : mLV RX1 38 mX1_setGuard 3 := ⟨⟨mTB_t 228 (by decide +kernel) (by decide +kernel), mTB_t 3 (by decide +kernel) (by decide +kernel), mTB_t 231 (by decide +kernel) (by decide +kernel), ⟨by decide +kernel, by decide +kernel, by decide +kernel⟩⟩, mTB_t 229 (by decide +kernel) (by decide +kernel), mTB_t 230 (by decide +kernel) (by decide +kernel)⟩
theorem lX1_48 : mLS RX1 48 mX1_mirrored 1 := ⟨⟨mTB_t 232 (by decide +kernel) (by decide +kernel), mTB_t 3 (by decide +kernel) (by decide +kernel), mTB_t 234 (by decide +kernel) (by decide +kernel), ⟨by decide +kernel, by decide +kernel, by decide +kernel⟩⟩, mTB_t 233 (by decide +kernel) (by decide +kernel)⟩
theorem lX1_55 : mLV RX1 55 mX1_lastOperandCount 0 := ⟨⟨mTB_t 280 (by decide +kernel) (by decide +kernel), mTB_t 3 (by decide +kernel) (by decide +kernel), mTB_t 283 (by decide +kernel) (by decide +kernel), ⟨by decide +kernel, by decide +kernel, by decide +kernel⟩⟩, mTB_t 281 (by decide +kernel) (by decide +kernel), mTB_t 282 (by decide +kernel) (by decide +kernel)⟩
theorem lX1_59 : mLN RX1 59 mX5_isChannel 1 := ⟨⟨"JoinRuntime", by decide +kernel⟩, mTB_t 1 (by decide +kernel) (by decide +kernel), mTB_t 248 (by decide +kernel) (by decide +kernel), ⟨by decide +kernel, by decide +kernel, by decide +kernel⟩, mTB_t 247 (by decide +kernel) (by decide +kernel)⟩
theorem lX1_67 : mLS RX1 67 mJ9_min_f86c9 2 := ⟨⟨mTB_t 434 (by decide +kernel) (by decide +kernel), mTB_t 15 (by decide +kernel) (by decide +kernel), mTB_t 436 (by decide +kernel) (by decide +kernel), ⟨by decide +kernel, by decide +kernel, by decide +kernel⟩⟩, mTB_t 435 (by decide +kernel) (by decide +kernel)⟩
theorem lX1_73 : mLS RX1 73 mJ9_max_f86c9 2 := ⟨⟨mTB_t 437 (by decide +kernel) (by decide +kernel), mTB_t 15 (by decide +kernel) (by decide +kernel), mTB_t 439 (by decide +kernel) (by decide +kernel), ⟨by decide +kernel, by decide +kernel, by decide +kernel⟩⟩, mTB_t 438 (by decide +kernel) (by decide +kernel)⟩
theorem lX2_100 : mLN RX2 100 mX5_isChannel 1 := ⟨⟨"JoinRuntime", by decide +kernel⟩, mTB_t 1 (by decide +kernel) (by decide +kernel), mTB_t 248 (by decide +kernel) (by decide +kernel), ⟨by decide +kernel, by decide +kernel, by decide +kernel⟩, mTB_t 247 (by decide +kernel) (by decide +kernel)⟩
theorem lX2_18 : mLV RX2 18 mX1_clear 0 := ⟨⟨mTB_t 224 (by decide +kernel) (by decide +kernel), mTB_t 3 (by decide +kernel) (by decide +kernel), mTB_t 227 (by decide +kernel) (by decide +kernel), ⟨by decide +kernel, by decide +kernel, by decide +kernel⟩⟩, mTB_t 225 (by decide +kernel) (by decide +kernel), mTB_t 226 (by decide +kernel) (by decide +kernel)⟩
theorem lX2_25 : mLV RX2 25 mX2_acceptInPattern 1 := ⟨⟨mTB_t 239 (by decide +kernel) (by decide +kernel), mTB_t 2 (by decide +kernel) (by decide +kernel), mTB_t 242 (by decide +kernel) (by decide +kernel), ⟨by decide +kernel, by decide +kernel, by decide +kernel⟩⟩, mTB_t 241 (by decide +kernel) (by decide +kernel), mTB_s 1 (by decide +kernel) (by decide +kernel)⟩
theorem lX2_29 : mLV RX2 29 mX2_operandOf 1 := ⟨⟨mTB_t 263 (by decide +kernel) (by decide +kernel), mTB_t 2 (by decide +kernel) (by decide +kernel), mTB_t 266 (by decide +kernel) (by decide +kernel), ⟨by decide +kernel, by decide +kernel, by decide +kernel⟩⟩, mTB_t 265 (by decide +kernel) (by decide +kernel), mTB_s 3 (by decide +kernel) (by decide +kernel)⟩
theorem lX2_33 : mLV RX2 33 mX2_acceptOperand 1 := ⟨⟨mTB_t 271 (by decide +kernel) (by decide +kernel), mTB_t 2 (by decide +kernel) (by decide +kernel), mTB_t 274 (by decide +kernel) (by decide +kernel), ⟨by decide +kernel, by decide +kernel, by decide +kernel⟩⟩, mTB_t 273 (by decide +kernel) (by decide +kernel), mTB_s 4 (by decide +kernel) (by decide +kernel)⟩
theorem lX2_36 : mLV RX2 36 mX2_acceptGuardSign 1 := ⟨⟨mTB_t 284 (by decide +kernel) (by decide +kernel), mTB_t 2 (by decide +kernel) (by decide +kernel), mTB_t 287 (by decide +kernel) (by decide +kernel), ⟨by decide +kernel, by decide +kernel, by decide +kernel⟩⟩, mTB_t 286 (by decide +kernel) (by decide +kernel), mTB_s 5 (by decide +kernel) (by decide +kernel)⟩
theorem lX2_39 : mLV RX2 39 mX2_goTo 1 := ⟨⟨mTB_t 259 (by decide +kernel) (by decide +kernel), mTB_t 2 (by decide +kernel) (by decide +kernel), mTB_t 262 (by decide +kernel) (by decide +kernel), ⟨by decide +kernel, by decide +kernel, by decide +kernel⟩⟩, mTB_t 261 (by decide +kernel) (by decide +kernel), mTB_s 2 (by decide +kernel) (by decide +kernel)⟩
theorem lX2_42 : mLV RX2 42 mX2_acceptTarget 1 := ⟨⟨mTB_t 288 (by decide +kernel) (by decide +kernel), mTB_t 2 (by decide +kernel) (by decide +kernel), mTB_t 291 (by decide +kernel) (by decide +kernel), ⟨by decide +kernel, by decide +kernel, by decide +kernel⟩⟩, mTB_t 290 (by decide +kernel) (by decide +kernel), mTB_s 6 (by decide +kernel) (by decide +kernel)⟩
theorem lX2_45 : mLV RX2 45 mX2_acceptReplyChannel 1 := ⟨⟨mTB_t 296 (by decide +kernel) (by decide +kernel), mTB_t 2 (by decide +kernel) (by decide +kernel), mTB_t 299 (by decide +kernel) (by decide +kernel), ⟨by decide +kernel, by decide +kernel, by decide +kernel⟩⟩, mTB_t 298 (by decide +kernel) (by decide +kernel), mTB_s 7 (by decide +kernel) (by decide +kernel)⟩
theorem lX2_48 : mLV RX2 48 mX2_goToOperand 1 := ⟨⟨mTB_t 304 (by decide +kernel) (by decide +kernel), mTB_t 2 (by decide +kernel) (by decide +kernel), mTB_t 307 (by decide +kernel) (by decide +kernel), ⟨by decide +kernel, by decide +kernel, by decide +kernel⟩⟩, mTB_t 306 (by decide +kernel) (by decide +kernel), mTB_s 8 (by decide +kernel) (by decide +kernel)⟩
theorem lX2_51 : mLV RX2 51 mX2_acceptBehindOperand 1 := ⟨⟨mTB_t 308 (by decide +kernel) (by decide +kernel), mTB_t 2 (by decide +kernel) (by decide +kernel), mTB_t 311 (by decide +kernel) (by decide +kernel), ⟨by decide +kernel, by decide +kernel, by decide +kernel⟩⟩, mTB_t 310 (by decide +kernel) (by decide +kernel), mTB_s 9 (by decide +kernel) (by decide +kernel)⟩
theorem lX2_57 : mLS RX2 57 mX2_isLetter 1 := ⟨⟨mTB_t 243 (by decide +kernel) (by decide +kernel), mTB_t 2 (by decide +kernel) (by decide +kernel), mTB_t 245 (by decide +kernel) (by decide +kernel), ⟨by decide +kernel, by decide +kernel, by decide +kernel⟩⟩, mTB_t 244 (by decide +kernel) (by decide +kernel)⟩
theorem lX2_63 : mLS RX2 63 mJ6_bitCount_0f7a4 1 := ⟨⟨mTB_t 249 (by decide +kernel) (by decide +kernel), mTB_t 13 (by decide +kernel) (by decide +kernel), mTB_t 251 (by decide +kernel) (by decide +kernel), ⟨by decide +kernel, by decide +kernel, by decide +kernel⟩⟩, mTB_t 250 (by decide +kernel) (by decide +kernel)⟩
theorem lX2_68 : mLV RX2 68 mX1_addChannel 1 := ⟨⟨mTB_t 255 (by decide +kernel) (by decide +kernel), mTB_t 3 (by decide +kernel) (by decide +kernel), mTB_t 258 (by decide +kernel) (by decide +kernel), ⟨by decide +kernel, by decide +kernel, by decide +kernel⟩⟩, mTB_t 256 (by decide +kernel) (by decide +kernel), mTB_t 257 (by decide +kernel) (by decide +kernel)⟩
theorem lX2_75 : mLV RX2 75 mX1_setGuard 3 := ⟨⟨mTB_t 275 (by decide +kernel) (by decide +kernel), mTB_t 3 (by decide +kernel) (by decide +kernel), mTB_t 231 (by decide +kernel) (by decide +kernel), ⟨by decide +kernel, by decide +kernel, by decide +kernel⟩⟩, mTB_t 229 (by decide +kernel) (by decide +kernel), mTB_t 230 (by decide +kernel) (by decide +kernel)⟩
theorem lX2_79 : mLV RX2 79 mX1_addOperand 2 := ⟨⟨mTB_t 276 (by decide +kernel) (by decide +kernel), mTB_t 3 (by decide +kernel) (by decide +kernel), mTB_t 279 (by decide +kernel) (by decide +kernel), ⟨by decide +kernel, by decide +kernel, by decide +kernel⟩⟩, mTB_t 277 (by decide +kernel) (by decide +kernel), mTB_t 278 (by decide +kernel) (by decide +kernel)⟩
theorem lX2_83 : mLV RX2 83 mX1_addOutput 2 := ⟨⟨mTB_t 292 (by decide +kernel) (by decide +kernel), mTB_t 3 (by decide +kernel) (by decide +kernel), mTB_t 295 (by decide +kernel) (by decide +kernel), ⟨by decide +kernel, by decide +kernel, by decide +kernel⟩⟩, mTB_t 293 (by decide +kernel) (by decide +kernel), mTB_t 294 (by decide +kernel) (by decide +kernel)⟩
theorem lX2_87 : mLV RX2 87 mX1_uses 1 := ⟨⟨mTB_t 267 (by decide +kernel) (by decide +kernel), mTB_t 3 (by decide +kernel) (by decide +kernel), mTB_t 270 (by decide +kernel) (by decide +kernel), ⟨by decide +kernel, by decide +kernel, by decide +kernel⟩⟩, mTB_t 268 (by decide +kernel) (by decide +kernel), mTB_t 269 (by decide +kernel) (by decide +kernel)⟩
theorem lX2_90 : mLV RX2 90 mX1_repliesTo 1 := ⟨⟨mTB_t 300 (by decide +kernel) (by decide +kernel), mTB_t 3 (by decide +kernel) (by decide +kernel), mTB_t 303 (by decide +kernel) (by decide +kernel), ⟨by decide +kernel, by decide +kernel, by decide +kernel⟩⟩, mTB_t 301 (by decide +kernel) (by decide +kernel), mTB_t 302 (by decide +kernel) (by decide +kernel)⟩
theorem lX2_96 : mLV RX2 96 mX1_lastOperandCount 0 := ⟨⟨mTB_t 312 (by decide +kernel) (by decide +kernel), mTB_t 3 (by decide +kernel) (by decide +kernel), mTB_t 283 (by decide +kernel) (by decide +kernel), ⟨by decide +kernel, by decide +kernel, by decide +kernel⟩⟩, mTB_t 281 (by decide +kernel) (by decide +kernel), mTB_t 282 (by decide +kernel) (by decide +kernel)⟩
theorem lX3_33 : mLV RX3 33 mX0_copyFrom 1 := ⟨⟨mTB_t 465 (by decide +kernel) (by decide +kernel), mTB_t 6 (by decide +kernel) (by decide +kernel), mTB_t 468 (by decide +kernel) (by decide +kernel), ⟨by decide +kernel, by decide +kernel, by decide +kernel⟩⟩, mTB_t 466 (by decide +kernel) (by decide +kernel), mTB_t 467 (by decide +kernel) (by decide +kernel)⟩
theorem lX3_37 : mLV RX3 37 mX4_copyFrom 1 := ⟨⟨mTB_t 472 (by decide +kernel) (by decide +kernel), mTB_t 5 (by decide +kernel) (by decide +kernel), mTB_t 475 (by decide +kernel) (by decide +kernel), ⟨by decide +kernel, by decide +kernel, by decide +kernel⟩⟩, mTB_t 473 (by decide +kernel) (by decide +kernel), mTB_t 474 (by decide +kernel) (by decide +kernel)⟩
theorem lX3_40 : Cond.methodLink RX3 40 arraycopyName ∈ mTB := mTB_t 477 (by decide +kernel) (by decide +kernel)
theorem lX4_22 : mLS RX4 22 mX4_placeOf 1 := ⟨⟨mTB_t 417 (by decide +kernel) (by decide +kernel), mTB_t 5 (by decide +kernel) (by decide +kernel), mTB_t 419 (by decide +kernel) (by decide +kernel), ⟨by decide +kernel, by decide +kernel, by decide +kernel⟩⟩, mTB_t 418 (by decide +kernel) (by decide +kernel)⟩
theorem lX4_26 : mLS RX4 26 mJ9_floorMod_7cf53 2 := ⟨⟨mTB_t 420 (by decide +kernel) (by decide +kernel), mTB_t 15 (by decide +kernel) (by decide +kernel), mTB_t 422 (by decide +kernel) (by decide +kernel), ⟨by decide +kernel, by decide +kernel, by decide +kernel⟩⟩, mTB_t 421 (by decide +kernel) (by decide +kernel)⟩
theorem lX4_32 : mLV RX4 32 mX4_firstKnown 0 := ⟨⟨mTB_t 413 (by decide +kernel) (by decide +kernel), mTB_t 5 (by decide +kernel) (by decide +kernel), mTB_t 416 (by decide +kernel) (by decide +kernel), ⟨by decide +kernel, by decide +kernel, by decide +kernel⟩⟩, mTB_t 415 (by decide +kernel) (by decide +kernel), mTB_s 18 (by decide +kernel) (by decide +kernel)⟩
theorem lX4_36 : mLV RX4 36 mX4_knows 1 := ⟨⟨mTB_t 409 (by decide +kernel) (by decide +kernel), mTB_t 5 (by decide +kernel) (by decide +kernel), mTB_t 412 (by decide +kernel) (by decide +kernel), ⟨by decide +kernel, by decide +kernel, by decide +kernel⟩⟩, mTB_t 410 (by decide +kernel) (by decide +kernel), mTB_t 411 (by decide +kernel) (by decide +kernel)⟩
theorem lX4_40 : Cond.methodLink RX4 40 arraycopyName ∈ mTB := mTB_t 476 (by decide +kernel) (by decide +kernel)
theorem lX4_46 : mLN RX4 46 mX5_mix 2 := ⟨⟨"JoinRuntime", by decide +kernel⟩, mTB_t 1 (by decide +kernel) (by decide +kernel), mTB_t 493 (by decide +kernel) (by decide +kernel), ⟨by decide +kernel, by decide +kernel, by decide +kernel⟩, mTB_t 492 (by decide +kernel) (by decide +kernel)⟩
theorem lX4_50 : mLV RX4 50 mX4_stateOf 1 := ⟨⟨mTB_t 505 (by decide +kernel) (by decide +kernel), mTB_t 5 (by decide +kernel) (by decide +kernel), mTB_t 508 (by decide +kernel) (by decide +kernel), ⟨by decide +kernel, by decide +kernel, by decide +kernel⟩⟩, mTB_t 506 (by decide +kernel) (by decide +kernel), mTB_t 507 (by decide +kernel) (by decide +kernel)⟩
theorem lX4_53 : mLV RX4 53 mX4_answerTo 1 := ⟨⟨mTB_t 509 (by decide +kernel) (by decide +kernel), mTB_t 5 (by decide +kernel) (by decide +kernel), mTB_t 512 (by decide +kernel) (by decide +kernel), ⟨by decide +kernel, by decide +kernel, by decide +kernel⟩⟩, mTB_t 510 (by decide +kernel) (by decide +kernel), mTB_t 511 (by decide +kernel) (by decide +kernel)⟩
theorem lX5_103 : mLS RX5 103 mX5_requireChannel 1 := ⟨⟨mTB_t 678 (by decide +kernel) (by decide +kernel), mTB_t 1 (by decide +kernel) (by decide +kernel), mTB_t 680 (by decide +kernel) (by decide +kernel), ⟨by decide +kernel, by decide +kernel, by decide +kernel⟩⟩, mTB_t 679 (by decide +kernel) (by decide +kernel)⟩
theorem lX5_112 : mLV RX5 112 mX0_isFull 0 := ⟨⟨mTB_t 683 (by decide +kernel) (by decide +kernel), mTB_t 6 (by decide +kernel) (by decide +kernel), mTB_t 447 (by decide +kernel) (by decide +kernel), ⟨by decide +kernel, by decide +kernel, by decide +kernel⟩⟩, mTB_t 445 (by decide +kernel) (by decide +kernel), mTB_t 446 (by decide +kernel) (by decide +kernel)⟩
theorem lX5_126 : mLV RX5 126 mX4_give 0 := ⟨⟨mTB_t 685 (by decide +kernel) (by decide +kernel), mTB_t 5 (by decide +kernel) (by decide +kernel), mTB_t 688 (by decide +kernel) (by decide +kernel), ⟨by decide +kernel, by decide +kernel, by decide +kernel⟩⟩, mTB_t 686 (by decide +kernel) (by decide +kernel), mTB_t 687 (by decide +kernel) (by decide +kernel)⟩
theorem lX5_131 : mLV RX5 131 mX0_put 3 := ⟨⟨mTB_t 440 (by decide +kernel) (by decide +kernel), mTB_t 6 (by decide +kernel) (by decide +kernel), mTB_t 443 (by decide +kernel) (by decide +kernel), ⟨by decide +kernel, by decide +kernel, by decide +kernel⟩⟩, mTB_t 441 (by decide +kernel) (by decide +kernel), mTB_t 442 (by decide +kernel) (by decide +kernel)⟩
theorem lX5_138 : mLV RX5 138 mX0_has 1 := ⟨⟨mTB_t 703 (by decide +kernel) (by decide +kernel), mTB_t 6 (by decide +kernel) (by decide +kernel), mTB_t 399 (by decide +kernel) (by decide +kernel), ⟨by decide +kernel, by decide +kernel, by decide +kernel⟩⟩, mTB_t 397 (by decide +kernel) (by decide +kernel), mTB_t 398 (by decide +kernel) (by decide +kernel)⟩
theorem lX5_147 : mLV RX5 147 mX0_valueAt 1 := ⟨⟨mTB_t 354 (by decide +kernel) (by decide +kernel), mTB_t 6 (by decide +kernel) (by decide +kernel), mTB_t 357 (by decide +kernel) (by decide +kernel), ⟨by decide +kernel, by decide +kernel, by decide +kernel⟩⟩, mTB_t 355 (by decide +kernel) (by decide +kernel), mTB_t 356 (by decide +kernel) (by decide +kernel)⟩
theorem lX5_151 : mLV RX5 151 mX5_waitingChannels 0 := ⟨⟨mTB_t 325 (by decide +kernel) (by decide +kernel), mTB_t 1 (by decide +kernel) (by decide +kernel), mTB_t 320 (by decide +kernel) (by decide +kernel), ⟨by decide +kernel, by decide +kernel, by decide +kernel⟩⟩, mTB_t 318 (by decide +kernel) (by decide +kernel), mTB_t 319 (by decide +kernel) (by decide +kernel)⟩
theorem lX5_154 : mLV RX5 154 mX1_isReady 1 := ⟨⟨mTB_t 326 (by decide +kernel) (by decide +kernel), mTB_t 3 (by decide +kernel) (by decide +kernel), mTB_t 329 (by decide +kernel) (by decide +kernel), ⟨by decide +kernel, by decide +kernel, by decide +kernel⟩⟩, mTB_t 327 (by decide +kernel) (by decide +kernel), mTB_t 328 (by decide +kernel) (by decide +kernel)⟩
theorem lX5_157 : mLV RX5 157 mX5_isEnabled 1 := ⟨⟨mTB_t 334 (by decide +kernel) (by decide +kernel), mTB_t 1 (by decide +kernel) (by decide +kernel), mTB_t 337 (by decide +kernel) (by decide +kernel), ⟨by decide +kernel, by decide +kernel, by decide +kernel⟩⟩, mTB_t 336 (by decide +kernel) (by decide +kernel), mTB_s 10 (by decide +kernel) (by decide +kernel)⟩
theorem lX5_161 : mLS RX5 161 mX5_isChannel 1 := ⟨⟨mTB_t 349 (by decide +kernel) (by decide +kernel), mTB_t 1 (by decide +kernel) (by decide +kernel), mTB_t 248 (by decide +kernel) (by decide +kernel), ⟨by decide +kernel, by decide +kernel, by decide +kernel⟩⟩, mTB_t 247 (by decide +kernel) (by decide +kernel)⟩
theorem lX5_164 : mLV RX5 164 mX1_uses 1 := ⟨⟨mTB_t 370 (by decide +kernel) (by decide +kernel), mTB_t 3 (by decide +kernel) (by decide +kernel), mTB_t 270 (by decide +kernel) (by decide +kernel), ⟨by decide +kernel, by decide +kernel, by decide +kernel⟩⟩, mTB_t 268 (by decide +kernel) (by decide +kernel), mTB_t 269 (by decide +kernel) (by decide +kernel)⟩
theorem lX5_169 : mLV RX5 169 mX5_findMatch 1 := ⟨⟨mTB_t 338 (by decide +kernel) (by decide +kernel), mTB_t 1 (by decide +kernel) (by decide +kernel), mTB_t 341 (by decide +kernel) (by decide +kernel), ⟨by decide +kernel, by decide +kernel, by decide +kernel⟩⟩, mTB_t 340 (by decide +kernel) (by decide +kernel), mTB_s 11 (by decide +kernel) (by decide +kernel)⟩
theorem lX5_172 : mLV RX5 172 mX5_nextRule 0 := ⟨⟨mTB_t 383 (by decide +kernel) (by decide +kernel), mTB_t 1 (by decide +kernel) (by decide +kernel), mTB_t 378 (by decide +kernel) (by decide +kernel), ⟨by decide +kernel, by decide +kernel, by decide +kernel⟩⟩, mTB_t 376 (by decide +kernel) (by decide +kernel), mTB_t 377 (by decide +kernel) (by decide +kernel)⟩
theorem lX5_175 : mLV RX5 175 mX5_fireEnabled 1 := ⟨⟨mTB_t 384 (by decide +kernel) (by decide +kernel), mTB_t 1 (by decide +kernel) (by decide +kernel), mTB_t 387 (by decide +kernel) (by decide +kernel), ⟨by decide +kernel, by decide +kernel, by decide +kernel⟩⟩, mTB_t 386 (by decide +kernel) (by decide +kernel), mTB_s 16 (by decide +kernel) (by decide +kernel)⟩
theorem lX5_182 : mLV RX5 182 mX5_fire 0 := ⟨⟨mTB_t 729 (by decide +kernel) (by decide +kernel), mTB_t 1 (by decide +kernel) (by decide +kernel), mTB_t 382 (by decide +kernel) (by decide +kernel), ⟨by decide +kernel, by decide +kernel, by decide +kernel⟩⟩, mTB_t 380 (by decide +kernel) (by decide +kernel), mTB_t 381 (by decide +kernel) (by decide +kernel)⟩
theorem lX5_185 : mLV RX5 185 mX5_enabledRules 0 := ⟨⟨mTB_t 452 (by decide +kernel) (by decide +kernel), mTB_t 1 (by decide +kernel) (by decide +kernel), mTB_t 333 (by decide +kernel) (by decide +kernel), ⟨by decide +kernel, by decide +kernel, by decide +kernel⟩⟩, mTB_t 331 (by decide +kernel) (by decide +kernel), mTB_t 332 (by decide +kernel) (by decide +kernel)⟩
theorem lX5_188 : mLV RX5 188 mX5_requireTicket 1 := ⟨⟨mTB_t 737 (by decide +kernel) (by decide +kernel), mTB_t 1 (by decide +kernel) (by decide +kernel), mTB_t 740 (by decide +kernel) (by decide +kernel), ⟨by decide +kernel, by decide +kernel, by decide +kernel⟩⟩, mTB_t 739 (by decide +kernel) (by decide +kernel), mTB_s 24 (by decide +kernel) (by decide +kernel)⟩
theorem lX5_191 : mLV RX5 191 mX4_stateOf 1 := ⟨⟨mTB_t 743 (by decide +kernel) (by decide +kernel), mTB_t 5 (by decide +kernel) (by decide +kernel), mTB_t 508 (by decide +kernel) (by decide +kernel), ⟨by decide +kernel, by decide +kernel, by decide +kernel⟩⟩, mTB_t 506 (by decide +kernel) (by decide +kernel), mTB_t 507 (by decide +kernel) (by decide +kernel)⟩
theorem lX5_196 : mLV RX5 196 mX4_answerTo 1 := ⟨⟨mTB_t 752 (by decide +kernel) (by decide +kernel), mTB_t 5 (by decide +kernel) (by decide +kernel), mTB_t 512 (by decide +kernel) (by decide +kernel), ⟨by decide +kernel, by decide +kernel, by decide +kernel⟩⟩, mTB_t 510 (by decide +kernel) (by decide +kernel), mTB_t 511 (by decide +kernel) (by decide +kernel)⟩
theorem lX5_206 : mLV RX5 206 mX3_copyFrom 1 := ⟨⟨mTB_t 461 (by decide +kernel) (by decide +kernel), mTB_t 4 (by decide +kernel) (by decide +kernel), mTB_t 464 (by decide +kernel) (by decide +kernel), ⟨by decide +kernel, by decide +kernel, by decide +kernel⟩⟩, mTB_t 462 (by decide +kernel) (by decide +kernel), mTB_t 463 (by decide +kernel) (by decide +kernel)⟩
theorem lX5_210 : mLV RX5 210 mX3_messageCount 0 := ⟨⟨mTB_t 478 (by decide +kernel) (by decide +kernel), mTB_t 4 (by decide +kernel) (by decide +kernel), mTB_t 481 (by decide +kernel) (by decide +kernel), ⟨by decide +kernel, by decide +kernel, by decide +kernel⟩⟩, mTB_t 479 (by decide +kernel) (by decide +kernel), mTB_t 480 (by decide +kernel) (by decide +kernel)⟩
theorem lX5_217 : mLV RX5 217 mX5_mixRules 1 := ⟨⟨mTB_t 487 (by decide +kernel) (by decide +kernel), mTB_t 1 (by decide +kernel) (by decide +kernel), mTB_t 490 (by decide +kernel) (by decide +kernel), ⟨by decide +kernel, by decide +kernel, by decide +kernel⟩⟩, mTB_t 489 (by decide +kernel) (by decide +kernel), mTB_s 20 (by decide +kernel) (by decide +kernel)⟩
theorem lX5_221 : mLV RX5 221 mX0_mixMessages 1 := ⟨⟨mTB_t 495 (by decide +kernel) (by decide +kernel), mTB_t 6 (by decide +kernel) (by decide +kernel), mTB_t 498 (by decide +kernel) (by decide +kernel), ⟨by decide +kernel, by decide +kernel, by decide +kernel⟩⟩, mTB_t 496 (by decide +kernel) (by decide +kernel), mTB_t 497 (by decide +kernel) (by decide +kernel)⟩
theorem lX5_224 : mLS RX5 224 mX5_mix 2 := ⟨⟨mTB_t 491 (by decide +kernel) (by decide +kernel), mTB_t 1 (by decide +kernel) (by decide +kernel), mTB_t 493 (by decide +kernel) (by decide +kernel), ⟨by decide +kernel, by decide +kernel, by decide +kernel⟩⟩, mTB_t 492 (by decide +kernel) (by decide +kernel)⟩
theorem lX5_228 : mLV RX5 228 mX4_mixTickets 1 := ⟨⟨mTB_t 500 (by decide +kernel) (by decide +kernel), mTB_t 5 (by decide +kernel) (by decide +kernel), mTB_t 503 (by decide +kernel) (by decide +kernel), ⟨by decide +kernel, by decide +kernel, by decide +kernel⟩⟩, mTB_t 501 (by decide +kernel) (by decide +kernel), mTB_t 502 (by decide +kernel) (by decide +kernel)⟩
theorem lX5_231 : mLV RX5 231 mX5_readyRules 0 := ⟨⟨mTB_t 513 (by decide +kernel) (by decide +kernel), mTB_t 1 (by decide +kernel) (by decide +kernel), mTB_t 324 (by decide +kernel) (by decide +kernel), ⟨by decide +kernel, by decide +kernel, by decide +kernel⟩⟩, mTB_t 322 (by decide +kernel) (by decide +kernel), mTB_t 323 (by decide +kernel) (by decide +kernel)⟩
theorem lX5_234 : mLV RX5 234 mX5_mixBuffer 1 := ⟨⟨mTB_t 514 (by decide +kernel) (by decide +kernel), mTB_t 1 (by decide +kernel) (by decide +kernel), mTB_t 517 (by decide +kernel) (by decide +kernel), ⟨by decide +kernel, by decide +kernel, by decide +kernel⟩⟩, mTB_t 516 (by decide +kernel) (by decide +kernel), mTB_s 21 (by decide +kernel) (by decide +kernel)⟩
theorem lX5_239 : mLV RX5 239 mX4_knows 1 := ⟨⟨mTB_t 741 (by decide +kernel) (by decide +kernel), mTB_t 5 (by decide +kernel) (by decide +kernel), mTB_t 412 (by decide +kernel) (by decide +kernel), ⟨by decide +kernel, by decide +kernel, by decide +kernel⟩⟩, mTB_t 410 (by decide +kernel) (by decide +kernel), mTB_t 411 (by decide +kernel) (by decide +kernel)⟩
theorem lX5_246 : mLV RX5 246 mX2_begin 0 := ⟨⟨mTB_t 220 (by decide +kernel) (by decide +kernel), mTB_t 2 (by decide +kernel) (by decide +kernel), mTB_t 223 (by decide +kernel) (by decide +kernel), ⟨by decide +kernel, by decide +kernel, by decide +kernel⟩⟩, mTB_t 221 (by decide +kernel) (by decide +kernel), mTB_t 222 (by decide +kernel) (by decide +kernel)⟩
theorem lX5_249 : mLV RX5 249 mX2_accept 1 := ⟨⟨mTB_t 235 (by decide +kernel) (by decide +kernel), mTB_t 2 (by decide +kernel) (by decide +kernel), mTB_t 238 (by decide +kernel) (by decide +kernel), ⟨by decide +kernel, by decide +kernel, by decide +kernel⟩⟩, mTB_t 236 (by decide +kernel) (by decide +kernel), mTB_t 237 (by decide +kernel) (by decide +kernel)⟩
theorem lX5_252 : mLV RX5 252 mX5_hasRoom 1 := ⟨⟨mTB_t 366 (by decide +kernel) (by decide +kernel), mTB_t 1 (by decide +kernel) (by decide +kernel), mTB_t 369 (by decide +kernel) (by decide +kernel), ⟨by decide +kernel, by decide +kernel, by decide +kernel⟩⟩, mTB_t 368 (by decide +kernel) (by decide +kernel), mTB_s 15 (by decide +kernel) (by decide +kernel)⟩
theorem lX5_255 : mLV RX5 255 mX1_sentTo 1 := ⟨⟨mTB_t 371 (by decide +kernel) (by decide +kernel), mTB_t 3 (by decide +kernel) (by decide +kernel), mTB_t 374 (by decide +kernel) (by decide +kernel), ⟨by decide +kernel, by decide +kernel, by decide +kernel⟩⟩, mTB_t 372 (by decide +kernel) (by decide +kernel), mTB_t 373 (by decide +kernel) (by decide +kernel)⟩
theorem lX5_258 : mLS RX5 258 mJ7_fill_53178 2 := ⟨⟨mTB_t 342 (by decide +kernel) (by decide +kernel), mTB_t 16 (by decide +kernel) (by decide +kernel), mTB_t 344 (by decide +kernel) (by decide +kernel), ⟨by decide +kernel, by decide +kernel, by decide +kernel⟩⟩, mTB_t 343 (by decide +kernel) (by decide +kernel)⟩
theorem lX5_270 : mLV RX5 270 mX5_choicesOf 1 := ⟨⟨mTB_t 345 (by decide +kernel) (by decide +kernel), mTB_t 1 (by decide +kernel) (by decide +kernel), mTB_t 348 (by decide +kernel) (by decide +kernel), ⟨by decide +kernel, by decide +kernel, by decide +kernel⟩⟩, mTB_t 347 (by decide +kernel) (by decide +kernel), mTB_s 12 (by decide +kernel) (by decide +kernel)⟩
theorem lX5_273 : mLV RX5 273 mX5_valueOf 2 := ⟨⟨mTB_t 350 (by decide +kernel) (by decide +kernel), mTB_t 1 (by decide +kernel) (by decide +kernel), mTB_t 353 (by decide +kernel) (by decide +kernel), ⟨by decide +kernel, by decide +kernel, by decide +kernel⟩⟩, mTB_t 352 (by decide +kernel) (by decide +kernel), mTB_s 13 (by decide +kernel) (by decide +kernel)⟩
theorem lX5_277 : mLV RX5 277 mX1_guardHolds 2 := ⟨⟨mTB_t 358 (by decide +kernel) (by decide +kernel), mTB_t 3 (by decide +kernel) (by decide +kernel), mTB_t 361 (by decide +kernel) (by decide +kernel), ⟨by decide +kernel, by decide +kernel, by decide +kernel⟩⟩, mTB_t 359 (by decide +kernel) (by decide +kernel), mTB_t 360 (by decide +kernel) (by decide +kernel)⟩
theorem lX5_281 : mLV RX5 281 mX5_choose 2 := ⟨⟨mTB_t 362 (by decide +kernel) (by decide +kernel), mTB_t 1 (by decide +kernel) (by decide +kernel), mTB_t 365 (by decide +kernel) (by decide +kernel), ⟨by decide +kernel, by decide +kernel, by decide +kernel⟩⟩, mTB_t 364 (by decide +kernel) (by decide +kernel), mTB_s 14 (by decide +kernel) (by decide +kernel)⟩
theorem lX5_285 : mLV RX5 285 mX5_takeMessages 1 := ⟨⟨mTB_t 388 (by decide +kernel) (by decide +kernel), mTB_t 1 (by decide +kernel) (by decide +kernel), mTB_t 391 (by decide +kernel) (by decide +kernel), ⟨by decide +kernel, by decide +kernel, by decide +kernel⟩⟩, mTB_t 390 (by decide +kernel) (by decide +kernel), mTB_s 17 (by decide +kernel) (by decide +kernel)⟩
theorem lX5_292 : mLV RX5 292 mX5_carryOut 2 := ⟨⟨mTB_t 423 (by decide +kernel) (by decide +kernel), mTB_t 1 (by decide +kernel) (by decide +kernel), mTB_t 426 (by decide +kernel) (by decide +kernel), ⟨by decide +kernel, by decide +kernel, by decide +kernel⟩⟩, mTB_t 425 (by decide +kernel) (by decide +kernel), mTB_s 19 (by decide +kernel) (by decide +kernel)⟩
theorem lX5_296 : mLV RX5 296 mX0_ticketAt 1 := ⟨⟨mTB_t 392 (by decide +kernel) (by decide +kernel), mTB_t 6 (by decide +kernel) (by decide +kernel), mTB_t 395 (by decide +kernel) (by decide +kernel), ⟨by decide +kernel, by decide +kernel, by decide +kernel⟩⟩, mTB_t 393 (by decide +kernel) (by decide +kernel), mTB_t 394 (by decide +kernel) (by decide +kernel)⟩
theorem lX5_299 : mLV RX5 299 mX0_take 2 := ⟨⟨mTB_t 400 (by decide +kernel) (by decide +kernel), mTB_t 6 (by decide +kernel) (by decide +kernel), mTB_t 403 (by decide +kernel) (by decide +kernel), ⟨by decide +kernel, by decide +kernel, by decide +kernel⟩⟩, mTB_t 401 (by decide +kernel) (by decide +kernel), mTB_t 402 (by decide +kernel) (by decide +kernel)⟩
theorem lX5_302 : mLV RX5 302 mX1_repliesTo 1 := ⟨⟨mTB_t 404 (by decide +kernel) (by decide +kernel), mTB_t 3 (by decide +kernel) (by decide +kernel), mTB_t 303 (by decide +kernel) (by decide +kernel), ⟨by decide +kernel, by decide +kernel, by decide +kernel⟩⟩, mTB_t 301 (by decide +kernel) (by decide +kernel), mTB_t 302 (by decide +kernel) (by decide +kernel)⟩
theorem lX5_305 : mLV RX5 305 mX4_settle 3 := ⟨⟨mTB_t 405 (by decide +kernel) (by decide +kernel), mTB_t 5 (by decide +kernel) (by decide +kernel), mTB_t 408 (by decide +kernel) (by decide +kernel), ⟨by decide +kernel, by decide +kernel, by decide +kernel⟩⟩, mTB_t 406 (by decide +kernel) (by decide +kernel), mTB_t 407 (by decide +kernel) (by decide +kernel)⟩
theorem lX5_311 : mLV RX5 311 mX1_outputValue 2 := ⟨⟨mTB_t 427 (by decide +kernel) (by decide +kernel), mTB_t 3 (by decide +kernel) (by decide +kernel), mTB_t 430 (by decide +kernel) (by decide +kernel), ⟨by decide +kernel, by decide +kernel, by decide +kernel⟩⟩, mTB_t 428 (by decide +kernel) (by decide +kernel), mTB_t 429 (by decide +kernel) (by decide +kernel)⟩
theorem lX5_62 : mLV RX5 62 mX5_readBuffer 0 := ⟨⟨mTB_t 216 (by decide +kernel) (by decide +kernel), mTB_t 1 (by decide +kernel) (by decide +kernel), mTB_t 219 (by decide +kernel) (by decide +kernel), ⟨by decide +kernel, by decide +kernel, by decide +kernel⟩⟩, mTB_t 218 (by decide +kernel) (by decide +kernel), mTB_s 0 (by decide +kernel) (by decide +kernel)⟩
theorem lX5_66 : mLV RX5 66 mX2_isComplete 0 := ⟨⟨mTB_t 618 (by decide +kernel) (by decide +kernel), mTB_t 2 (by decide +kernel) (by decide +kernel), mTB_t 621 (by decide +kernel) (by decide +kernel), ⟨by decide +kernel, by decide +kernel, by decide +kernel⟩⟩, mTB_t 619 (by decide +kernel) (by decide +kernel), mTB_t 620 (by decide +kernel) (by decide +kernel)⟩
theorem lX5_77 : mLV RX5 77 mX2_exchange 1 := ⟨⟨mTB_t 624 (by decide +kernel) (by decide +kernel), mTB_t 2 (by decide +kernel) (by decide +kernel), mTB_t 627 (by decide +kernel) (by decide +kernel), ⟨by decide +kernel, by decide +kernel, by decide +kernel⟩⟩, mTB_t 625 (by decide +kernel) (by decide +kernel), mTB_t 626 (by decide +kernel) (by decide +kernel)⟩
theorem lX5_88 : mLV RX5 88 mX5_requireRule 1 := ⟨⟨mTB_t 636 (by decide +kernel) (by decide +kernel), mTB_t 1 (by decide +kernel) (by decide +kernel), mTB_t 639 (by decide +kernel) (by decide +kernel), ⟨by decide +kernel, by decide +kernel, by decide +kernel⟩⟩, mTB_t 638 (by decide +kernel) (by decide +kernel), mTB_s 23 (by decide +kernel) (by decide +kernel)⟩
theorem lX6_120 : mLS RX6 120 mX6_within 3 := ⟨⟨mTB_t 964 (by decide +kernel) (by decide +kernel), mTB_t 7 (by decide +kernel) (by decide +kernel), mTB_t 966 (by decide +kernel) (by decide +kernel), ⟨by decide +kernel, by decide +kernel, by decide +kernel⟩⟩, mTB_t 965 (by decide +kernel) (by decide +kernel)⟩
theorem lX6_130 : mLV RX6 130 mX6_isOfPattern 1 := ⟨⟨mTB_t 998 (by decide +kernel) (by decide +kernel), mTB_t 7 (by decide +kernel) (by decide +kernel), mTB_t 1001 (by decide +kernel) (by decide +kernel), ⟨by decide +kernel, by decide +kernel, by decide +kernel⟩⟩, mTB_t 1000 (by decide +kernel) (by decide +kernel), mTB_s 30 (by decide +kernel) (by decide +kernel)⟩
theorem lX6_149 : mLV RX6 149 mX6_isOperand 1 := ⟨⟨mTB_t 994 (by decide +kernel) (by decide +kernel), mTB_t 7 (by decide +kernel) (by decide +kernel), mTB_t 997 (by decide +kernel) (by decide +kernel), ⟨by decide +kernel, by decide +kernel, by decide +kernel⟩⟩, mTB_t 996 (by decide +kernel) (by decide +kernel), mTB_s 29 (by decide +kernel) (by decide +kernel)⟩
theorem lX6_152 : mLS RX6 152 mX6_operandOf 1 := ⟨⟨mTB_t 991 (by decide +kernel) (by decide +kernel), mTB_t 7 (by decide +kernel) (by decide +kernel), mTB_t 993 (by decide +kernel) (by decide +kernel), ⟨by decide +kernel, by decide +kernel, by decide +kernel⟩⟩, mTB_t 992 (by decide +kernel) (by decide +kernel)⟩
theorem lX6_160 : mLV RX6 160 mX6_takesPattern 1 := ⟨⟨mTB_t 983 (by decide +kernel) (by decide +kernel), mTB_t 7 (by decide +kernel) (by decide +kernel), mTB_t 986 (by decide +kernel) (by decide +kernel), ⟨by decide +kernel, by decide +kernel, by decide +kernel⟩⟩, mTB_t 985 (by decide +kernel) (by decide +kernel), mTB_s 27 (by decide +kernel) (by decide +kernel)⟩
theorem lX6_163 : mLV RX6 163 mX6_takesGuard 1 := ⟨⟨mTB_t 987 (by decide +kernel) (by decide +kernel), mTB_t 7 (by decide +kernel) (by decide +kernel), mTB_t 990 (by decide +kernel) (by decide +kernel), ⟨by decide +kernel, by decide +kernel, by decide +kernel⟩⟩, mTB_t 989 (by decide +kernel) (by decide +kernel), mTB_s 28 (by decide +kernel) (by decide +kernel)⟩
theorem lX6_166 : mLV RX6 166 mX6_takesOutput 1 := ⟨⟨mTB_t 1002 (by decide +kernel) (by decide +kernel), mTB_t 7 (by decide +kernel) (by decide +kernel), mTB_t 1005 (by decide +kernel) (by decide +kernel), ⟨by decide +kernel, by decide +kernel, by decide +kernel⟩⟩, mTB_t 1004 (by decide +kernel) (by decide +kernel), mTB_s 31 (by decide +kernel) (by decide +kernel)⟩
theorem lX6_169 : mLV RX6 169 mX6_takesReply 1 := ⟨⟨mTB_t 1006 (by decide +kernel) (by decide +kernel), mTB_t 7 (by decide +kernel) (by decide +kernel), mTB_t 1009 (by decide +kernel) (by decide +kernel), ⟨by decide +kernel, by decide +kernel, by decide +kernel⟩⟩, mTB_t 1008 (by decide +kernel) (by decide +kernel), mTB_s 32 (by decide +kernel) (by decide +kernel)⟩
theorem lX6_172 : mLV RX6 172 mX6_takesOperand 1 := ⟨⟨mTB_t 1010 (by decide +kernel) (by decide +kernel), mTB_t 7 (by decide +kernel) (by decide +kernel), mTB_t 1013 (by decide +kernel) (by decide +kernel), ⟨by decide +kernel, by decide +kernel, by decide +kernel⟩⟩, mTB_t 1012 (by decide +kernel) (by decide +kernel), mTB_s 33 (by decide +kernel) (by decide +kernel)⟩
theorem lX6_175 : mLV RX6 175 mX6_takesBehind 1 := ⟨⟨mTB_t 1014 (by decide +kernel) (by decide +kernel), mTB_t 7 (by decide +kernel) (by decide +kernel), mTB_t 1017 (by decide +kernel) (by decide +kernel), ⟨by decide +kernel, by decide +kernel, by decide +kernel⟩⟩, mTB_t 1016 (by decide +kernel) (by decide +kernel), mTB_s 34 (by decide +kernel) (by decide +kernel)⟩
theorem lX6_178 : mLV RX6 178 mX6_takes 1 := ⟨⟨mTB_t 979 (by decide +kernel) (by decide +kernel), mTB_t 7 (by decide +kernel) (by decide +kernel), mTB_t 982 (by decide +kernel) (by decide +kernel), ⟨by decide +kernel, by decide +kernel, by decide +kernel⟩⟩, mTB_t 981 (by decide +kernel) (by decide +kernel), mTB_s 26 (by decide +kernel) (by decide +kernel)⟩
theorem lX6_181 : mLV RX6 181 mX6_rightLength 0 := ⟨⟨mTB_t 975 (by decide +kernel) (by decide +kernel), mTB_t 7 (by decide +kernel) (by decide +kernel), mTB_t 978 (by decide +kernel) (by decide +kernel), ⟨by decide +kernel, by decide +kernel, by decide +kernel⟩⟩, mTB_t 977 (by decide +kernel) (by decide +kernel), mTB_s 25 (by decide +kernel) (by decide +kernel)⟩
theorem lX6_185 : mLV RX6 185 mX6_wholeOutputs 0 := ⟨⟨mTB_t 1022 (by decide +kernel) (by decide +kernel), mTB_t 7 (by decide +kernel) (by decide +kernel), mTB_t 1025 (by decide +kernel) (by decide +kernel), ⟨by decide +kernel, by decide +kernel, by decide +kernel⟩⟩, mTB_t 1024 (by decide +kernel) (by decide +kernel), mTB_s 35 (by decide +kernel) (by decide +kernel)⟩
theorem lX6_194 : mLV RX6 194 mX6_isRule 1 := ⟨⟨mTB_t 1030 (by decide +kernel) (by decide +kernel), mTB_t 7 (by decide +kernel) (by decide +kernel), mTB_t 1033 (by decide +kernel) (by decide +kernel), ⟨by decide +kernel, by decide +kernel, by decide +kernel⟩⟩, mTB_t 1032 (by decide +kernel) (by decide +kernel), mTB_s 36 (by decide +kernel) (by decide +kernel)⟩
theorem lX6_197 : mLV RX6 197 mX6_copyRule 2 := ⟨⟨mTB_t 1034 (by decide +kernel) (by decide +kernel), mTB_t 7 (by decide +kernel) (by decide +kernel), mTB_t 1037 (by decide +kernel) (by decide +kernel), ⟨by decide +kernel, by decide +kernel, by decide +kernel⟩⟩, mTB_t 1036 (by decide +kernel) (by decide +kernel), mTB_s 37 (by decide +kernel) (by decide +kernel)⟩
theorem lX6_207 : mLS RX6 207 mX6_isChannel 1 := ⟨⟨mTB_t 1054 (by decide +kernel) (by decide +kernel), mTB_t 7 (by decide +kernel) (by decide +kernel), mTB_t 1056 (by decide +kernel) (by decide +kernel), ⟨by decide +kernel, by decide +kernel, by decide +kernel⟩⟩, mTB_t 1055 (by decide +kernel) (by decide +kernel)⟩
theorem lX6_213 : mLV RX6 213 mX6_put 3 := ⟨⟨mTB_t 1057 (by decide +kernel) (by decide +kernel), mTB_t 7 (by decide +kernel) (by decide +kernel), mTB_t 1060 (by decide +kernel) (by decide +kernel), ⟨by decide +kernel, by decide +kernel, by decide +kernel⟩⟩, mTB_t 1059 (by decide +kernel) (by decide +kernel), mTB_s 38 (by decide +kernel) (by decide +kernel)⟩
theorem lX6_217 : mLV RX6 217 mX6_waitingNow 0 := ⟨⟨mTB_t 1073 (by decide +kernel) (by decide +kernel), mTB_t 7 (by decide +kernel) (by decide +kernel), mTB_t 1076 (by decide +kernel) (by decide +kernel), ⟨by decide +kernel, by decide +kernel, by decide +kernel⟩⟩, mTB_t 1075 (by decide +kernel) (by decide +kernel), mTB_s 39 (by decide +kernel) (by decide +kernel)⟩
theorem lX6_220 : mLV RX6 220 mX6_readyNow 0 := ⟨⟨mTB_t 1081 (by decide +kernel) (by decide +kernel), mTB_t 7 (by decide +kernel) (by decide +kernel), mTB_t 1084 (by decide +kernel) (by decide +kernel), ⟨by decide +kernel, by decide +kernel, by decide +kernel⟩⟩, mTB_t 1083 (by decide +kernel) (by decide +kernel), mTB_s 40 (by decide +kernel) (by decide +kernel)⟩
theorem lX6_223 : mLV RX6 223 mX6_operand 1 := ⟨⟨mTB_t 1105 (by decide +kernel) (by decide +kernel), mTB_t 7 (by decide +kernel) (by decide +kernel), mTB_t 1108 (by decide +kernel) (by decide +kernel), ⟨by decide +kernel, by decide +kernel, by decide +kernel⟩⟩, mTB_t 1107 (by decide +kernel) (by decide +kernel), mTB_s 45 (by decide +kernel) (by decide +kernel)⟩
theorem lX6_227 : mLV RX6 227 mX6_isGuarded 1 := ⟨⟨mTB_t 1101 (by decide +kernel) (by decide +kernel), mTB_t 7 (by decide +kernel) (by decide +kernel), mTB_t 1104 (by decide +kernel) (by decide +kernel), ⟨by decide +kernel, by decide +kernel, by decide +kernel⟩⟩, mTB_t 1103 (by decide +kernel) (by decide +kernel), mTB_s 44 (by decide +kernel) (by decide +kernel)⟩
theorem lX6_230 : mLV RX6 230 mX6_goOn 1 := ⟨⟨mTB_t 1109 (by decide +kernel) (by decide +kernel), mTB_t 7 (by decide +kernel) (by decide +kernel), mTB_t 1112 (by decide +kernel) (by decide +kernel), ⟨by decide +kernel, by decide +kernel, by decide +kernel⟩⟩, mTB_t 1111 (by decide +kernel) (by decide +kernel), mTB_s 46 (by decide +kernel) (by decide +kernel)⟩
theorem lX6_233 : mLV RX6 233 mX6_matches 1 := ⟨⟨mTB_t 1097 (by decide +kernel) (by decide +kernel), mTB_t 7 (by decide +kernel) (by decide +kernel), mTB_t 1100 (by decide +kernel) (by decide +kernel), ⟨by decide +kernel, by decide +kernel, by decide +kernel⟩⟩, mTB_t 1099 (by decide +kernel) (by decide +kernel), mTB_s 43 (by decide +kernel) (by decide +kernel)⟩
theorem lX6_236 : mLV RX6 236 mX6_hasRoom 1 := ⟨⟨mTB_t 1113 (by decide +kernel) (by decide +kernel), mTB_t 7 (by decide +kernel) (by decide +kernel), mTB_t 1116 (by decide +kernel) (by decide +kernel), ⟨by decide +kernel, by decide +kernel, by decide +kernel⟩⟩, mTB_t 1115 (by decide +kernel) (by decide +kernel), mTB_s 47 (by decide +kernel) (by decide +kernel)⟩
theorem lX6_239 : mLV RX6 239 mX6_isEnabled 1 := ⟨⟨mTB_t 1093 (by decide +kernel) (by decide +kernel), mTB_t 7 (by decide +kernel) (by decide +kernel), mTB_t 1096 (by decide +kernel) (by decide +kernel), ⟨by decide +kernel, by decide +kernel, by decide +kernel⟩⟩, mTB_t 1095 (by decide +kernel) (by decide +kernel), mTB_s 42 (by decide +kernel) (by decide +kernel)⟩
theorem lX6_242 : mLV RX6 242 mX6_enabledNow 0 := ⟨⟨mTB_t 1089 (by decide +kernel) (by decide +kernel), mTB_t 7 (by decide +kernel) (by decide +kernel), mTB_t 1092 (by decide +kernel) (by decide +kernel), ⟨by decide +kernel, by decide +kernel, by decide +kernel⟩⟩, mTB_t 1091 (by decide +kernel) (by decide +kernel), mTB_s 41 (by decide +kernel) (by decide +kernel)⟩
theorem lX6_245 : mLV RX6 245 mX6_nextNow 0 := ⟨⟨mTB_t 1125 (by decide +kernel) (by decide +kernel), mTB_t 7 (by decide +kernel) (by decide +kernel), mTB_t 1128 (by decide +kernel) (by decide +kernel), ⟨by decide +kernel, by decide +kernel, by decide +kernel⟩⟩, mTB_t 1127 (by decide +kernel) (by decide +kernel), mTB_s 48 (by decide +kernel) (by decide +kernel)⟩
theorem lX6_252 : mLV RX6 252 mX6_isKnown 1 := ⟨⟨mTB_t 1145 (by decide +kernel) (by decide +kernel), mTB_t 7 (by decide +kernel) (by decide +kernel), mTB_t 1148 (by decide +kernel) (by decide +kernel), ⟨by decide +kernel, by decide +kernel, by decide +kernel⟩⟩, mTB_t 1147 (by decide +kernel) (by decide +kernel), mTB_s 52 (by decide +kernel) (by decide +kernel)⟩
theorem lX6_255 : mLV RX6 255 mX6_consume 1 := ⟨⟨mTB_t 1137 (by decide +kernel) (by decide +kernel), mTB_t 7 (by decide +kernel) (by decide +kernel), mTB_t 1140 (by decide +kernel) (by decide +kernel), ⟨by decide +kernel, by decide +kernel, by decide +kernel⟩⟩, mTB_t 1139 (by decide +kernel) (by decide +kernel), mTB_s 50 (by decide +kernel) (by decide +kernel)⟩
theorem lX6_259 : mLV RX6 259 mX6_settle 3 := ⟨⟨mTB_t 1141 (by decide +kernel) (by decide +kernel), mTB_t 7 (by decide +kernel) (by decide +kernel), mTB_t 1144 (by decide +kernel) (by decide +kernel), ⟨by decide +kernel, by decide +kernel, by decide +kernel⟩⟩, mTB_t 1143 (by decide +kernel) (by decide +kernel), mTB_s 51 (by decide +kernel) (by decide +kernel)⟩
theorem lX6_262 : mLV RX6 262 mX6_computed 2 := ⟨⟨mTB_t 1149 (by decide +kernel) (by decide +kernel), mTB_t 7 (by decide +kernel) (by decide +kernel), mTB_t 1152 (by decide +kernel) (by decide +kernel), ⟨by decide +kernel, by decide +kernel, by decide +kernel⟩⟩, mTB_t 1151 (by decide +kernel) (by decide +kernel), mTB_s 53 (by decide +kernel) (by decide +kernel)⟩
theorem lX6_266 : mLV RX6 266 mX6_fireNow 1 := ⟨⟨mTB_t 1133 (by decide +kernel) (by decide +kernel), mTB_t 7 (by decide +kernel) (by decide +kernel), mTB_t 1136 (by decide +kernel) (by decide +kernel), ⟨by decide +kernel, by decide +kernel, by decide +kernel⟩⟩, mTB_t 1135 (by decide +kernel) (by decide +kernel), mTB_s 49 (by decide +kernel) (by decide +kernel)⟩
theorem lX6_278 : mLS RX6 278 mX6_copy 2 := ⟨⟨mTB_t 1199 (by decide +kernel) (by decide +kernel), mTB_t 7 (by decide +kernel) (by decide +kernel), mTB_t 1201 (by decide +kernel) (by decide +kernel), ⟨by decide +kernel, by decide +kernel, by decide +kernel⟩⟩, mTB_t 1200 (by decide +kernel) (by decide +kernel)⟩
theorem lX6_282 : mLS RX6 282 mX6_copyLongs 2 := ⟨⟨mTB_t 1202 (by decide +kernel) (by decide +kernel), mTB_t 7 (by decide +kernel) (by decide +kernel), mTB_t 1204 (by decide +kernel) (by decide +kernel), ⟨by decide +kernel, by decide +kernel, by decide +kernel⟩⟩, mTB_t 1203 (by decide +kernel) (by decide +kernel)⟩
theorem lX6_286 : mLV RX6 286 mX6_messages 0 := ⟨⟨mTB_t 1205 (by decide +kernel) (by decide +kernel), mTB_t 7 (by decide +kernel) (by decide +kernel), mTB_t 1208 (by decide +kernel) (by decide +kernel), ⟨by decide +kernel, by decide +kernel, by decide +kernel⟩⟩, mTB_t 1207 (by decide +kernel) (by decide +kernel), mTB_s 54 (by decide +kernel) (by decide +kernel)⟩
theorem lX6_295 : mLV RX6 295 mX6_mix 1 := ⟨⟨mTB_t 1218 (by decide +kernel) (by decide +kernel), mTB_t 7 (by decide +kernel) (by decide +kernel), mTB_t 1221 (by decide +kernel) (by decide +kernel), ⟨by decide +kernel, by decide +kernel, by decide +kernel⟩⟩, mTB_t 1220 (by decide +kernel) (by decide +kernel), mTB_s 55 (by decide +kernel) (by decide +kernel)⟩
theorem lX6_301 : mLV RX6 301 mX6_mixMessages 0 := ⟨⟨mTB_t 1223 (by decide +kernel) (by decide +kernel), mTB_t 7 (by decide +kernel) (by decide +kernel), mTB_t 1226 (by decide +kernel) (by decide +kernel), ⟨by decide +kernel, by decide +kernel, by decide +kernel⟩⟩, mTB_t 1225 (by decide +kernel) (by decide +kernel), mTB_s 56 (by decide +kernel) (by decide +kernel)⟩
theorem lX6_304 : mLV RX6 304 mX6_mixTickets 0 := ⟨⟨mTB_t 1227 (by decide +kernel) (by decide +kernel), mTB_t 7 (by decide +kernel) (by decide +kernel), mTB_t 1230 (by decide +kernel) (by decide +kernel), ⟨by decide +kernel, by decide +kernel, by decide +kernel⟩⟩, mTB_t 1229 (by decide +kernel) (by decide +kernel), mTB_s 57 (by decide +kernel) (by decide +kernel)⟩
theorem lcp_1 : Cond.native arraycopyName ∈ mTB := mTB_t 471 (by decide +kernel) (by decide +kernel)
theorem lcp_2 : Cond.static arraycopyName ∈ mTB := mTB_t 470 (by decide +kernel) (by decide +kernel)
theorem lcp_3 : Cond.initialized "java/lang/System" ∈ mTB := mTB_t 17 (by decide +kernel) (by decide +kernel)
theorem cJ6_265 : Cond.constant RJ6 265 (1431655765) ∈ mTB := mTB_t 252 (by decide +kernel) (by decide +kernel)
theorem cJ6_266 : Cond.constant RJ6 266 (858993459) ∈ mTB := mTB_t 253 (by decide +kernel) (by decide +kernel)
theorem cJ6_267 : Cond.constant RJ6 267 (252645135) ∈ mTB := mTB_t 254 (by decide +kernel) (by decide +kernel)
theorem cX1_63 : Cond.constantLong RX1 63 (-9999) ∈ mTB := mTB_t 432 (by decide +kernel) (by decide +kernel)
theorem cX1_65 : Cond.constantLong RX1 65 (9999) ∈ mTB := mTB_t 433 (by decide +kernel) (by decide +kernel)
theorem cX5_215 : Cond.constantLong RX5 215 (1847) ∈ mTB := mTB_t 486 (by decide +kernel) (by decide +kernel)
theorem cX5_319 : Cond.constantLong RX5 319 (31) ∈ mTB := mTB_t 494 (by decide +kernel) (by decide +kernel)
theorem cX6_248 : Cond.constantLong RX6 248 (9999) ∈ mTB := mTB_t 1153 (by decide +kernel) (by decide +kernel)
theorem cX6_250 : Cond.constantLong RX6 250 (-9999) ∈ mTB := mTB_t 1154 (by decide +kernel) (by decide +kernel)
theorem cX6_299 : Cond.constantLong RX6 299 (1847) ∈ mTB := mTB_t 1217 (by decide +kernel) (by decide +kernel)
theorem cX6_289 : Cond.constantLong RX6 289 (31) ∈ mTB := mTB_t 1222 (by decide +kernel) (by decide +kernel)
theorem tw_46_t : ∀ w ∈ (vx_atS RX5 50 "java/lang/IllegalArgumentException" mXn).filter goodWord, w ∈ lw_tbl := by decide +kernel
theorem tw_46 : mTW RX5 46 50 "java/lang/IllegalArgumentException" := ⟨mTB_t 527 (by decide +kernel) (by decide +kernel), mTB_t 11 (by decide +kernel) (by decide +kernel), fun w h => mTB_of (tw_46_t w h) (List.mem_filter.mp h).2, by decide +kernel, by decide +kernel, by decide +kernel, by decide +kernel⟩
theorem tw_57_t : ∀ w ∈ (vx_atS RX5 61 "java/lang/IllegalStateException" mXn).filter goodWord, w ∈ lw_tbl := by decide +kernel
theorem tw_57 : mTW RX5 57 61 "java/lang/IllegalStateException" := ⟨mTB_t 595 (by decide +kernel) (by decide +kernel), mTB_t 12 (by decide +kernel) (by decide +kernel), fun w h => mTB_of (tw_57_t w h) (List.mem_filter.mp h).2, by decide +kernel, by decide +kernel, by decide +kernel, by decide +kernel⟩
theorem tw_142_t : ∀ w ∈ (vx_atS RX5 146 "java/lang/IndexOutOfBoundsException" mXn).filter goodWord, w ∈ lw_tbl := by decide +kernel
theorem tw_142 : mTW RX5 142 146 "java/lang/IndexOutOfBoundsException" := ⟨mTB_t 640 (by decide +kernel) (by decide +kernel), mTB_t 14 (by decide +kernel) (by decide +kernel), fun w h => mTB_of (tw_142_t w h) (List.mem_filter.mp h).2, by decide +kernel, by decide +kernel, by decide +kernel, by decide +kernel⟩
