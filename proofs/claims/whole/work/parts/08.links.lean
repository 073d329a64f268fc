theorem kf_X9_12 : Cond.fieldLink RX9 12 "ForgottenFeast" "tape" "LForgottenFeast$Tape;" ∈ am_tb := am_in (tw_m2 136 rfl) rfl
theorem kf_X9_19 : Cond.fieldLink RX9 19 "ForgottenFeast" "town" "LForgottenFeast$Town;" ∈ am_tb := am_in (tw_m2 138 rfl) rfl
theorem kf_X9_23 : Cond.fieldLink RX9 23 "ForgottenFeast" "spareTown" "LForgottenFeast$Town;" ∈ am_tb := am_in (tw_m2 139 rfl) rfl
theorem kf_X9_31 : Cond.fieldLink RX9 31 "ForgottenFeast" "reader" "LForgottenFeast$Reader;" ∈ am_tb := am_in (tw_m2 137 rfl) rfl
theorem kf_X9_38 : Cond.fieldLink RX9 38 "ForgottenFeast" "life" "LForgottenFeast$Life;" ∈ am_tb := am_in (tw_m2 140 rfl) rfl
theorem kf_X9_42 : Cond.fieldLink RX9 42 "ForgottenFeast" "ahead" "LForgottenFeast$Life;" ∈ am_tb := am_in (tw_m2 141 rfl) rfl
theorem kf_X9_48 : Cond.fieldLink RX9 48 "ForgottenFeast" "past" "LForgottenFeast$Past;" ∈ am_tb := am_in (tw_m2 142 rfl) rfl
theorem kf_X9_57 : Cond.fieldLink RX9 57 "ForgottenFeast" "dawn" "LForgottenFeast$Dawn;" ∈ am_tb := am_in (tw_m2 143 rfl) rfl
theorem kf_X9_64 : Cond.fieldLink RX9 64 "ForgottenFeast" "picture" "LForgottenFeast$Picture;" ∈ am_tb := am_in (tw_m2 144 rfl) rfl
theorem kf_X9_68 : Cond.fieldLink RX9 68 "ForgottenFeast" "seenPerson" "[I" ∈ am_tb := am_in (tw_m2 145 rfl) rfl
theorem kf_X9_72 : Cond.fieldLink RX9 72 "ForgottenFeast" "seenThinking" "[I" ∈ am_tb := am_in (tw_m2 146 rfl) rfl
theorem kf_X9_75 : Cond.fieldLink RX9 75 "ForgottenFeast" "quietFor" "[I" ∈ am_tb := am_in (tw_m2 148 rfl) rfl
theorem kf_X9_78 : Cond.fieldLink RX9 78 "ForgottenFeast" "refused" "[I" ∈ am_tb := am_in (tw_m2 149 rfl) rfl
theorem kf_X9_81 : Cond.fieldLink RX9 81 "ForgottenFeast" "faultPlace" "I" ∈ am_tb := am_in (tw_m2 151 rfl) rfl
theorem kf_X9_85 : Cond.fieldLink RX9 85 "ForgottenFeast" "draw" "J" ∈ am_tb := am_in (tw_m2 152 rfl) rfl
theorem kf_X9_89 : Cond.fieldLinkNest RX9 89 "ForgottenFeast$Tape" "length" "I" RX9 ∈ am_tb := am_in (tw_m1 39 rfl) rfl
theorem kf_X9_114 : Cond.fieldLink RX9 114 "ForgottenFeast" "seenCount" "I" ∈ am_tb := am_in (tw_m2 147 rfl) rfl
theorem kf_X9_117 : Cond.fieldLinkNest RX9 117 "ForgottenFeast$Town" "statements" "I" RX9 ∈ am_tb := am_in (tw_m1 82 rfl) rfl
theorem kf_X9_120 : Cond.fieldLink RX9 120 "ForgottenFeast" "faultKind" "I" ∈ am_tb := am_in (tw_m2 150 rfl) rfl
theorem kf_X9_123 : Cond.fieldLinkNest RX9 123 "ForgottenFeast$Town" "days" "I" RX9 ∈ am_tb := am_in (tw_m1 77 rfl) rfl
theorem kf_X9_126 : Cond.fieldLinkNest RX9 126 "ForgottenFeast$Town" "people" "I" RX9 ∈ am_tb := am_in (tw_m1 86 rfl) rfl
theorem kf_X9_138 : Cond.fieldLinkNest RX9 138 "ForgottenFeast$Life" "year" "I" RX9 ∈ am_tb := am_in (tw_m1 232 rfl) rfl
theorem kf_X9_141 : Cond.fieldLinkNest RX9 141 "ForgottenFeast$Life" "day" "I" RX9 ∈ am_tb := am_in (tw_m1 236 rfl) rfl
theorem kf_X9_144 : Cond.fieldLinkNest RX9 144 "ForgottenFeast$Life" "feast" "I" RX9 ∈ am_tb := am_in (tw_m2 0 rfl) rfl
theorem kf_X9_147 : Cond.fieldLinkNest RX9 147 "ForgottenFeast$Life" "told" "[I" RX9 ∈ am_tb := am_in (tw_m2 15 rfl) rfl
theorem kf_X9_154 : Cond.fieldLinkNest RX9 154 "ForgottenFeast$Life" "bribed" "[I" RX9 ∈ am_tb := am_in (tw_m2 19 rfl) rfl
theorem kf_X9_157 : Cond.fieldLinkNest RX9 157 "ForgottenFeast$Life" "coins" "I" RX9 ∈ am_tb := am_in (tw_m2 3 rfl) rfl
theorem kf_X9_160 : Cond.fieldLinkNest RX9 160 "ForgottenFeast$Life" "rowCount" "I" RX9 ∈ am_tb := am_in (tw_m2 23 rfl) rfl
theorem kf_X9_163 : Cond.fieldLinkNest RX9 163 "ForgottenFeast$Past" "count" "I" RX9 ∈ am_tb := am_in (tw_m2 58 rfl) rfl
theorem kf_X9_170 : Cond.fieldLinkNest RX9 170 "ForgottenFeast$Town" "names" "[I" RX9 ∈ am_tb := am_in (tw_m1 97 rfl) rfl
theorem kf_X9_173 : Cond.fieldLinkNest RX9 173 "ForgottenFeast$Town" "minds" "[I" RX9 ∈ am_tb := am_in (tw_m1 100 rfl) rfl
theorem kf_X9_176 : Cond.fieldLinkNest RX9 176 "ForgottenFeast$Town" "asks" "[I" RX9 ∈ am_tb := am_in (tw_m1 102 rfl) rfl
theorem kf_X9_179 : Cond.fieldLinkNest RX9 179 "ForgottenFeast$Life" "ago" "[I" RX9 ∈ am_tb := am_in (tw_m2 11 rfl) rfl
theorem kf_X9_182 : Cond.fieldLinkNest RX9 182 "ForgottenFeast$Life" "dead" "I" RX9 ∈ am_tb := am_in (tw_m2 7 rfl) rfl
theorem kf_X9_189 : Cond.fieldLinkNest RX9 189 "ForgottenFeast$Town" "reminds" "[I" RX9 ∈ am_tb := am_in (tw_m1 104 rfl) rfl
theorem kf_X9_192 : Cond.fieldLinkNest RX9 192 "ForgottenFeast$Town" "remindedBy" "[I" RX9 ∈ am_tb := am_in (tw_m1 107 rfl) rfl
theorem kf_X9_201 : Cond.fieldLinkNest RX9 201 "ForgottenFeast$Town" "frost" "[I" RX9 ∈ am_tb := am_in (tw_m1 112 rfl) rfl
theorem kf_X9_222 : Cond.fieldLinkNest RX9 222 "ForgottenFeast$Dawn" "ofThemselves" "I" RX9 ∈ am_tb := am_in (tw_m2 80 rfl) rfl
theorem kf_X9_225 : Cond.fieldLinkNest RX9 225 "ForgottenFeast$Dawn" "thinkers" "I" RX9 ∈ am_tb := am_in (tw_m2 82 rfl) rfl
theorem kf_X9_228 : Cond.fieldLinkNest RX9 228 "ForgottenFeast$Dawn" "year" "I" RX9 ∈ am_tb := am_in (tw_m2 73 rfl) rfl
theorem kf_X9_229 : Cond.fieldLinkNest RX9 229 "ForgottenFeast$Dawn" "day" "I" RX9 ∈ am_tb := am_in (tw_m2 75 rfl) rfl
theorem kf_X9_230 : Cond.fieldLinkNest RX9 230 "ForgottenFeast$Dawn" "isFeast" "Z" RX9 ∈ am_tb := am_in (tw_m2 84 rfl) rfl
theorem kf_X9_279 : Cond.fieldLinkNest RX9 279 "ForgottenFeast$Tape" "bytes" "[I" RX9 ∈ am_tb := am_in (tw_m1 38 rfl) rfl
theorem kf_X9_282 : Cond.fieldLinkNest RX9 282 "ForgottenFeast$Dawn" "awake" "I" RX9 ∈ am_tb := am_in (tw_m2 78 rfl) rfl
theorem kf_X9_315 : Cond.fieldLinkNest RX9 315 "ForgottenFeast$Reader" "asked" "I" RX9 ∈ am_tb := am_in (tw_m1 193 rfl) rfl
theorem kf_X9_325 : Cond.fieldLinkNest RX9 325 "ForgottenFeast$Picture" "size" "I" RX9 ∈ am_tb := am_in (tw_m2 130 rfl) rfl
theorem kf_X9_328 : Cond.fieldLinkNest RX9 328 "ForgottenFeast$Picture" "bytes" "[I" RX9 ∈ am_tb := am_in (tw_m2 128 rfl) rfl
theorem kf_X9_333 : Cond.fieldLinkNest RX9 333 "ForgottenFeast$Reader" "fault" "I" RX9 ∈ am_tb := am_in (tw_m1 189 rfl) rfl
theorem kf_X9_336 : Cond.fieldLinkNest RX9 336 "ForgottenFeast$Reader" "place" "I" RX9 ∈ am_tb := am_in (tw_m1 191 rfl) rfl
theorem kf_X9_343 : Cond.fieldLinkNest RX9 343 "ForgottenFeast$Town" "slips" "I" RX9 ∈ am_tb := am_in (tw_m1 92 rfl) rfl
theorem kf_X9_374 : Cond.fieldLinkNest RX9 374 "ForgottenFeast$Town" "mortal" "I" RX9 ∈ am_tb := am_in (tw_m1 95 rfl) rfl
theorem kf_X9_379 : Cond.fieldLinkNest RX9 379 "ForgottenFeast$Reader" "rule" "LForgottenFeast$Rule;" RX9 ∈ am_tb := am_in (tw_m1 181 rfl) rfl
theorem kf_X0_9 : Cond.fieldLink RX0 9 "ForgottenFeast$Dawn" "parts" "[I" ∈ am_tb := am_in (tw_m2 88 rfl) rfl
theorem kf_X0_15 : Cond.fieldLink RX0 15 "ForgottenFeast$Dawn" "stack" "[I" ∈ am_tb := am_in (tw_m2 89 rfl) rfl
theorem kf_X0_18 : Cond.fieldLink RX0 18 "ForgottenFeast$Dawn" "tried" "[I" ∈ am_tb := am_in (tw_m2 90 rfl) rfl
theorem kf_X0_21 : Cond.fieldLink RX0 21 "ForgottenFeast$Dawn" "heard" "[I" ∈ am_tb := am_in (tw_m2 91 rfl) rfl
theorem kf_X0_24 : Cond.fieldLink RX0 24 "ForgottenFeast$Dawn" "town" "LForgottenFeast$Town;" ∈ am_tb := am_in (tw_m2 86 rfl) rfl
theorem kf_X0_28 : Cond.fieldLink RX0 28 "ForgottenFeast$Dawn" "life" "LForgottenFeast$Life;" ∈ am_tb := am_in (tw_m2 87 rfl) rfl
theorem kf_X0_38 : Cond.fieldLink RX0 38 "ForgottenFeast$Dawn" "coming" "Z" ∈ am_tb := am_in (tw_m2 85 rfl) rfl
theorem kf_X0_42 : Cond.fieldLinkNest RX0 42 "ForgottenFeast$Life" "day" "I" RX9 ∈ am_tb := am_in (tw_m1 235 rfl) rfl
theorem kf_X0_46 : Cond.fieldLinkNest RX0 46 "ForgottenFeast$Town" "days" "I" RX9 ∈ am_tb := am_in (tw_m1 75 rfl) rfl
theorem kf_X0_51 : Cond.fieldLinkNest RX0 51 "ForgottenFeast$Life" "year" "I" RX9 ∈ am_tb := am_in (tw_m1 231 rfl) rfl
theorem kf_X0_54 : Cond.fieldLink RX0 54 "ForgottenFeast$Dawn" "year" "I" ∈ am_tb := am_in (tw_m2 72 rfl) rfl
theorem kf_X0_55 : Cond.fieldLink RX0 55 "ForgottenFeast$Dawn" "day" "I" ∈ am_tb := am_in (tw_m2 74 rfl) rfl
theorem kf_X0_56 : Cond.fieldLinkNest RX0 56 "ForgottenFeast$Life" "feast" "I" RX9 ∈ am_tb := am_in (tw_m1 239 rfl) rfl
theorem kf_X0_59 : Cond.fieldLink RX0 59 "ForgottenFeast$Dawn" "feastSoFar" "I" ∈ am_tb := am_in (tw_m2 76 rfl) rfl
theorem kf_X0_62 : Cond.fieldLinkNest RX0 62 "ForgottenFeast$Town" "frost" "[I" RX9 ∈ am_tb := am_in (tw_m1 111 rfl) rfl
theorem kf_X0_75 : Cond.fieldLinkNest RX0 75 "ForgottenFeast$Life" "dead" "I" RX9 ∈ am_tb := am_in (tw_m2 6 rfl) rfl
theorem kf_X0_78 : Cond.fieldLinkNest RX0 78 "ForgottenFeast$Life" "bribed" "[I" RX9 ∈ am_tb := am_in (tw_m2 18 rfl) rfl
theorem kf_X0_81 : Cond.fieldLink RX0 81 "ForgottenFeast$Dawn" "awake" "I" ∈ am_tb := am_in (tw_m2 77 rfl) rfl
theorem kf_X0_84 : Cond.fieldLinkNest RX0 84 "ForgottenFeast$Life" "told" "[I" RX9 ∈ am_tb := am_in (tw_m2 14 rfl) rfl
theorem kf_X0_91 : Cond.fieldLink RX0 91 "ForgottenFeast$Dawn" "ofThemselves" "I" ∈ am_tb := am_in (tw_m2 79 rfl) rfl
theorem kf_X0_96 : Cond.fieldLink RX0 96 "ForgottenFeast$Dawn" "thinkers" "I" ∈ am_tb := am_in (tw_m2 81 rfl) rfl
theorem kf_X0_99 : Cond.fieldLink RX0 99 "ForgottenFeast$Dawn" "isFeast" "Z" ∈ am_tb := am_in (tw_m2 83 rfl) rfl
theorem kf_X0_102 : Cond.fieldLinkNest RX0 102 "ForgottenFeast$Town" "people" "I" RX9 ∈ am_tb := am_in (tw_m1 85 rfl) rfl
theorem kf_X0_108 : Cond.fieldLinkNest RX0 108 "ForgottenFeast$Life" "ago" "[I" RX9 ∈ am_tb := am_in (tw_m2 10 rfl) rfl
theorem kf_X0_116 : Cond.fieldLinkNest RX0 116 "ForgottenFeast$Town" "thinks" "LForgottenFeast$Rule;" RX9 ∈ am_tb := am_in (tw_m1 114 rfl) rfl
theorem kf_X0_120 : Cond.fieldLinkNest RX0 120 "ForgottenFeast$Rule" "size" "I" RX9 ∈ am_tb := am_in (tw_m1 68 rfl) rfl
theorem kf_X0_133 : Cond.fieldLinkNest RX0 133 "ForgottenFeast$Town" "remindedBy" "[I" RX9 ∈ am_tb := am_in (tw_m1 106 rfl) rfl
theorem kf_X0_146 : Cond.fieldLinkNest RX0 146 "ForgottenFeast$Town" "hears" "LForgottenFeast$Rule;" RX9 ∈ am_tb := am_in (tw_m1 116 rfl) rfl
theorem kf_X0_149 : Cond.fieldLinkNest RX0 149 "ForgottenFeast$Town" "minds" "[I" RX9 ∈ am_tb := am_in (tw_m1 99 rfl) rfl
theorem kf_X1_9 : Cond.fieldLink RX1 9 "ForgottenFeast$Life" "year" "I" ∈ am_tb := am_in (tw_m1 229 rfl) rfl
theorem kf_X1_15 : Cond.fieldLink RX1 15 "ForgottenFeast$Life" "ago" "[I" ∈ am_tb := am_in (tw_m2 8 rfl) rfl
theorem kf_X1_19 : Cond.fieldLink RX1 19 "ForgottenFeast$Life" "told" "[I" ∈ am_tb := am_in (tw_m2 12 rfl) rfl
theorem kf_X1_22 : Cond.fieldLink RX1 22 "ForgottenFeast$Life" "bribed" "[I" ∈ am_tb := am_in (tw_m2 16 rfl) rfl
theorem kf_X1_25 : Cond.fieldLink RX1 25 "ForgottenFeast$Life" "rows" "[I" ∈ am_tb := am_in (tw_m2 20 rfl) rfl
theorem kf_X1_28 : Cond.fieldLink RX1 28 "ForgottenFeast$Life" "day" "I" ∈ am_tb := am_in (tw_m1 233 rfl) rfl
theorem kf_X1_31 : Cond.fieldLink RX1 31 "ForgottenFeast$Life" "feast" "I" ∈ am_tb := am_in (tw_m1 237 rfl) rfl
theorem kf_X1_34 : Cond.fieldLink RX1 34 "ForgottenFeast$Life" "coins" "I" ∈ am_tb := am_in (tw_m2 1 rfl) rfl
theorem kf_X1_37 : Cond.fieldLink RX1 37 "ForgottenFeast$Life" "dead" "I" ∈ am_tb := am_in (tw_m2 4 rfl) rfl
theorem kf_X1_46 : Cond.fieldLinkNest RX1 46 "ForgottenFeast$Town" "told" "[I" RX9 ∈ am_tb := am_in (tw_m1 109 rfl) rfl
theorem kf_X1_55 : Cond.fieldLink RX1 55 "ForgottenFeast$Life" "rowFrom" "I" ∈ am_tb := am_in (tw_m2 21 rfl) rfl
theorem kf_X1_58 : Cond.fieldLink RX1 58 "ForgottenFeast$Life" "rowCount" "I" ∈ am_tb := am_in (tw_m2 22 rfl) rfl
theorem kf_X1_61 : Cond.fieldLinkNest RX1 61 "ForgottenFeast$Town" "days" "I" RX9 ∈ am_tb := am_in (tw_m1 76 rfl) rfl
theorem kf_X2_11 : Cond.fieldLink RX2 11 "ForgottenFeast$Past" "lives" "[LForgottenFeast$Life;" ∈ am_tb := am_in (tw_m2 55 rfl) rfl
theorem kf_X2_17 : Cond.fieldLink RX2 17 "ForgottenFeast$Past" "count" "I" ∈ am_tb := am_in (tw_m2 57 rfl) rfl
theorem kf_X2_21 : Cond.fieldLink RX2 21 "ForgottenFeast$Past" "from" "I" ∈ am_tb := am_in (tw_m2 56 rfl) rfl
theorem kf_X3_11 : Cond.fieldLink RX3 11 "ForgottenFeast$Picture" "bytes" "[I" ∈ am_tb := am_in (tw_m2 127 rfl) rfl
theorem kf_X3_15 : Cond.fieldLink RX3 15 "ForgottenFeast$Picture" "size" "I" ∈ am_tb := am_in (tw_m2 129 rfl) rfl
theorem kf_X3_19 : Cond.fieldLinkNest RX3 19 "ForgottenFeast$Life" "year" "I" RX9 ∈ am_tb := am_in (tw_m1 230 rfl) rfl
theorem kf_X3_28 : Cond.fieldLinkNest RX3 28 "ForgottenFeast$Life" "day" "I" RX9 ∈ am_tb := am_in (tw_m1 234 rfl) rfl
theorem kf_X3_31 : Cond.fieldLinkNest RX3 31 "ForgottenFeast$Life" "feast" "I" RX9 ∈ am_tb := am_in (tw_m1 238 rfl) rfl
theorem kf_X3_34 : Cond.fieldLinkNest RX3 34 "ForgottenFeast$Life" "coins" "I" RX9 ∈ am_tb := am_in (tw_m2 2 rfl) rfl
theorem kf_X3_38 : Cond.fieldLinkNest RX3 38 "ForgottenFeast$Town" "people" "I" RX9 ∈ am_tb := am_in (tw_m1 84 rfl) rfl
theorem kf_X3_43 : Cond.fieldLinkNest RX3 43 "ForgottenFeast$Life" "ago" "[I" RX9 ∈ am_tb := am_in (tw_m2 9 rfl) rfl
theorem kf_X3_46 : Cond.fieldLinkNest RX3 46 "ForgottenFeast$Life" "dead" "I" RX9 ∈ am_tb := am_in (tw_m2 5 rfl) rfl
theorem kf_X3_53 : Cond.fieldLinkNest RX3 53 "ForgottenFeast$Life" "told" "[I" RX9 ∈ am_tb := am_in (tw_m2 13 rfl) rfl
theorem kf_X3_60 : Cond.fieldLinkNest RX3 60 "ForgottenFeast$Life" "bribed" "[I" RX9 ∈ am_tb := am_in (tw_m2 17 rfl) rfl
theorem kf_X3_71 : Cond.fieldLinkNest RX3 71 "ForgottenFeast$Tape" "length" "I" RX9 ∈ am_tb := am_in (tw_m1 42 rfl) rfl
theorem kf_X3_76 : Cond.fieldLinkNest RX3 76 "ForgottenFeast$Tape" "bytes" "[I" RX9 ∈ am_tb := am_in (tw_m1 37 rfl) rfl
theorem kf_X3_98 : Cond.fieldLinkNest RX3 98 "ForgottenFeast$Town" "days" "I" RX9 ∈ am_tb := am_in (tw_m1 78 rfl) rfl
theorem kf_X4_14 : Cond.fieldLink RX4 14 "ForgottenFeast$Reader" "rule" "LForgottenFeast$Rule;" ∈ am_tb := am_in (tw_m1 180 rfl) rfl
theorem kf_X4_25 : Cond.fieldLink RX4 25 "ForgottenFeast$Reader" "tokens" "LForgottenFeast$Tokens;" ∈ am_tb := am_in (tw_m1 179 rfl) rfl
theorem kf_X4_29 : Cond.fieldLink RX4 29 "ForgottenFeast$Reader" "town" "LForgottenFeast$Town;" ∈ am_tb := am_in (tw_m1 182 rfl) rfl
theorem kf_X4_36 : Cond.fieldLink RX4 36 "ForgottenFeast$Reader" "asking" "Z" ∈ am_tb := am_in (tw_m1 194 rfl) rfl
theorem kf_X4_45 : Cond.fieldLink RX4 45 "ForgottenFeast$Reader" "kind" "I" ∈ am_tb := am_in (tw_m1 184 rfl) rfl
theorem kf_X4_52 : Cond.fieldLinkNest RX4 52 "ForgottenFeast$Town" "statements" "I" RX9 ∈ am_tb := am_in (tw_m1 81 rfl) rfl
theorem kf_X4_55 : Cond.fieldLink RX4 55 "ForgottenFeast$Reader" "spot" "I" ∈ am_tb := am_in (tw_m1 185 rfl) rfl
theorem kf_X4_62 : Cond.fieldLink RX4 62 "ForgottenFeast$Reader" "fault" "I" ∈ am_tb := am_in (tw_m1 188 rfl) rfl
theorem kf_X4_65 : Cond.fieldLinkNest RX4 65 "ForgottenFeast$Rule" "size" "I" RX9 ∈ am_tb := am_in (tw_m1 67 rfl) rfl
theorem kf_X4_68 : Cond.fieldLink RX4 68 "ForgottenFeast$Reader" "asked" "I" ∈ am_tb := am_in (tw_m1 192 rfl) rfl
theorem kf_X4_84 : Cond.fieldLink RX4 84 "ForgottenFeast$Reader" "opened" "I" ∈ am_tb := am_in (tw_m1 187 rfl) rfl
theorem kf_X4_87 : Cond.fieldLink RX4 87 "ForgottenFeast$Reader" "place" "I" ∈ am_tb := am_in (tw_m1 190 rfl) rfl
theorem kf_X4_90 : Cond.fieldLink RX4 90 "ForgottenFeast$Reader" "at" "I" ∈ am_tb := am_in (tw_m1 183 rfl) rfl
theorem kf_X4_93 : Cond.fieldLinkNest RX4 93 "ForgottenFeast$Tokens" "count" "I" RX9 ∈ am_tb := am_in (tw_m1 170 rfl) rfl
theorem kf_X4_96 : Cond.fieldLinkNest RX4 96 "ForgottenFeast$Tokens" "marks" "[J" RX9 ∈ am_tb := am_in (tw_m1 168 rfl) rfl
theorem kf_X4_104 : Cond.fieldLink RX4 104 "ForgottenFeast$Reader" "value" "I" ∈ am_tb := am_in (tw_m1 186 rfl) rfl
theorem kf_X4_115 : Cond.fieldLinkNest RX4 115 "ForgottenFeast$Town" "days" "I" RX9 ∈ am_tb := am_in (tw_m1 79 rfl) rfl
theorem kf_X4_130 : Cond.fieldLink RX4 130 "ForgottenFeast$Reader" "hearing" "Z" ∈ am_tb := am_in (tw_m1 195 rfl) rfl
theorem kf_X4_141 : Cond.fieldLinkNest RX4 141 "ForgottenFeast$Town" "slips" "I" RX9 ∈ am_tb := am_in (tw_m1 91 rfl) rfl
theorem kf_X4_144 : Cond.fieldLinkNest RX4 144 "ForgottenFeast$Town" "mortal" "I" RX9 ∈ am_tb := am_in (tw_m1 94 rfl) rfl
theorem kf_X5_15 : Cond.fieldLink RX5 15 "ForgottenFeast$Rule" "codes" "[I" ∈ am_tb := am_in (tw_m1 64 rfl) rfl
theorem kf_X5_21 : Cond.fieldLink RX5 21 "ForgottenFeast$Rule" "size" "I" ∈ am_tb := am_in (tw_m1 65 rfl) rfl
theorem kf_X6_9 : Cond.fieldLink RX6 9 "ForgottenFeast$Tape" "bytes" "[I" ∈ am_tb := am_in (tw_m1 35 rfl) rfl
theorem kf_X6_15 : Cond.fieldLink RX6 15 "ForgottenFeast$Tape" "length" "I" ∈ am_tb := am_in (tw_m1 40 rfl) rfl
theorem kf_X7_9 : Cond.fieldLink RX7 9 "ForgottenFeast$Tokens" "marks" "[J" ∈ am_tb := am_in (tw_m1 167 rfl) rfl
theorem kf_X7_15 : Cond.fieldLink RX7 15 "ForgottenFeast$Tokens" "tape" "LForgottenFeast$Tape;" ∈ am_tb := am_in (tw_m1 166 rfl) rfl
theorem kf_X7_19 : Cond.fieldLink RX7 19 "ForgottenFeast$Tokens" "count" "I" ∈ am_tb := am_in (tw_m1 169 rfl) rfl
theorem kf_X7_23 : Cond.fieldLinkNest RX7 23 "ForgottenFeast$Tape" "length" "I" RX9 ∈ am_tb := am_in (tw_m1 41 rfl) rfl
theorem kf_X7_28 : Cond.fieldLinkNest RX7 28 "ForgottenFeast$Tape" "bytes" "[I" RX9 ∈ am_tb := am_in (tw_m1 36 rfl) rfl
theorem kf_X8_9 : Cond.fieldLink RX8 9 "ForgottenFeast$Town" "names" "[I" ∈ am_tb := am_in (tw_m1 96 rfl) rfl
theorem kf_X8_15 : Cond.fieldLink RX8 15 "ForgottenFeast$Town" "minds" "[I" ∈ am_tb := am_in (tw_m1 98 rfl) rfl
theorem kf_X8_18 : Cond.fieldLink RX8 18 "ForgottenFeast$Town" "asks" "[I" ∈ am_tb := am_in (tw_m1 101 rfl) rfl
theorem kf_X8_21 : Cond.fieldLink RX8 21 "ForgottenFeast$Town" "reminds" "[I" ∈ am_tb := am_in (tw_m1 103 rfl) rfl
theorem kf_X8_24 : Cond.fieldLink RX8 24 "ForgottenFeast$Town" "remindedBy" "[I" ∈ am_tb := am_in (tw_m1 105 rfl) rfl
theorem kf_X8_27 : Cond.fieldLink RX8 27 "ForgottenFeast$Town" "told" "[I" ∈ am_tb := am_in (tw_m1 108 rfl) rfl
theorem kf_X8_30 : Cond.fieldLink RX8 30 "ForgottenFeast$Town" "frost" "[I" ∈ am_tb := am_in (tw_m1 110 rfl) rfl
theorem kf_X8_38 : Cond.fieldLink RX8 38 "ForgottenFeast$Town" "thinks" "LForgottenFeast$Rule;" ∈ am_tb := am_in (tw_m1 113 rfl) rfl
theorem kf_X8_42 : Cond.fieldLink RX8 42 "ForgottenFeast$Town" "hears" "LForgottenFeast$Rule;" ∈ am_tb := am_in (tw_m1 115 rfl) rfl
theorem kf_X8_45 : Cond.fieldLink RX8 45 "ForgottenFeast$Town" "days" "I" ∈ am_tb := am_in (tw_m1 74 rfl) rfl
theorem kf_X8_49 : Cond.fieldLink RX8 49 "ForgottenFeast$Town" "statements" "I" ∈ am_tb := am_in (tw_m1 80 rfl) rfl
theorem kf_X8_52 : Cond.fieldLink RX8 52 "ForgottenFeast$Town" "people" "I" ∈ am_tb := am_in (tw_m1 83 rfl) rfl
theorem kf_X8_55 : Cond.fieldLink RX8 55 "ForgottenFeast$Town" "toldCount" "I" ∈ am_tb := am_in (tw_m1 87 rfl) rfl
theorem kf_X8_58 : Cond.fieldLink RX8 58 "ForgottenFeast$Town" "remindsCount" "I" ∈ am_tb := am_in (tw_m1 88 rfl) rfl
theorem kf_X8_61 : Cond.fieldLink RX8 61 "ForgottenFeast$Town" "frostCount" "I" ∈ am_tb := am_in (tw_m1 89 rfl) rfl
theorem kf_X8_64 : Cond.fieldLink RX8 64 "ForgottenFeast$Town" "slips" "I" ∈ am_tb := am_in (tw_m1 90 rfl) rfl
theorem kf_X8_67 : Cond.fieldLink RX8 67 "ForgottenFeast$Town" "mortal" "I" ∈ am_tb := am_in (tw_m1 93 rfl) rfl
theorem kf_X8_76 : Cond.fieldLinkNest RX8 76 "ForgottenFeast$Rule" "size" "I" RX9 ∈ am_tb := am_in (tw_m1 66 rfl) rfl
theorem kf_X10_7 : Cond.fieldLink RX10 7 "ForgottenFeastModel" "tape" "[I" ∈ am_tb := am_in (tw_m5 142 rfl) rfl
theorem kf_X10_13 : Cond.fieldLink RX10 13 "ForgottenFeastModel" "faultPlace" "I" ∈ am_tb := am_in (tw_m5 150 rfl) rfl
theorem kf_X10_17 : Cond.fieldLink RX10 17 "ForgottenFeastModel" "refused" "[I" ∈ am_tb := am_in (tw_m5 151 rfl) rfl
theorem kf_X10_20 : Cond.fieldLink RX10 20 "ForgottenFeastModel" "daysWord" "[C" ∈ am_tb := am_in (tw_m5 153 rfl) rfl
theorem kf_X10_24 : Cond.fieldLink RX10 24 "ForgottenFeastModel" "personWord" "[C" ∈ am_tb := am_in (tw_m5 154 rfl) rfl
theorem kf_X10_27 : Cond.fieldLink RX10 27 "ForgottenFeastModel" "mindWord" "[C" ∈ am_tb := am_in (tw_m5 155 rfl) rfl
theorem kf_X10_30 : Cond.fieldLink RX10 30 "ForgottenFeastModel" "asksWord" "[C" ∈ am_tb := am_in (tw_m5 156 rfl) rfl
theorem kf_X10_33 : Cond.fieldLink RX10 33 "ForgottenFeastModel" "toldWord" "[C" ∈ am_tb := am_in (tw_m5 157 rfl) rfl
theorem kf_X10_36 : Cond.fieldLink RX10 36 "ForgottenFeastModel" "onWord" "[C" ∈ am_tb := am_in (tw_m5 158 rfl) rfl
theorem kf_X10_39 : Cond.fieldLink RX10 39 "ForgottenFeastModel" "remindsWord" "[C" ∈ am_tb := am_in (tw_m5 159 rfl) rfl
theorem kf_X10_42 : Cond.fieldLink RX10 42 "ForgottenFeastModel" "frostWord" "[C" ∈ am_tb := am_in (tw_m5 160 rfl) rfl
theorem kf_X10_45 : Cond.fieldLink RX10 45 "ForgottenFeastModel" "forWord" "[C" ∈ am_tb := am_in (tw_m5 161 rfl) rfl
theorem kf_X10_48 : Cond.fieldLink RX10 48 "ForgottenFeastModel" "thinksWord" "[C" ∈ am_tb := am_in (tw_m5 162 rfl) rfl
theorem kf_X10_51 : Cond.fieldLink RX10 51 "ForgottenFeastModel" "hearsWord" "[C" ∈ am_tb := am_in (tw_m5 163 rfl) rfl
theorem kf_X10_54 : Cond.fieldLink RX10 54 "ForgottenFeastModel" "slipsWord" "[C" ∈ am_tb := am_in (tw_m5 164 rfl) rfl
theorem kf_X10_57 : Cond.fieldLink RX10 57 "ForgottenFeastModel" "mortalWord" "[C" ∈ am_tb := am_in (tw_m5 165 rfl) rfl
theorem kf_X10_60 : Cond.fieldLink RX10 60 "ForgottenFeastModel" "dayWord" "[C" ∈ am_tb := am_in (tw_m5 166 rfl) rfl
theorem kf_X10_63 : Cond.fieldLink RX10 63 "ForgottenFeastModel" "yearWord" "[C" ∈ am_tb := am_in (tw_m5 167 rfl) rfl
theorem kf_X10_66 : Cond.fieldLink RX10 66 "ForgottenFeastModel" "agoWord" "[C" ∈ am_tb := am_in (tw_m5 168 rfl) rfl
theorem kf_X10_69 : Cond.fieldLink RX10 69 "ForgottenFeastModel" "feastWord" "[C" ∈ am_tb := am_in (tw_m5 169 rfl) rfl
theorem kf_X10_72 : Cond.fieldLink RX10 72 "ForgottenFeastModel" "otherWord" "[C" ∈ am_tb := am_in (tw_m5 170 rfl) rfl
theorem kf_X10_75 : Cond.fieldLink RX10 75 "ForgottenFeastModel" "numberWord" "[C" ∈ am_tb := am_in (tw_m5 171 rfl) rfl
theorem kf_X10_78 : Cond.fieldLink RX10 78 "ForgottenFeastModel" "deadWord" "[C" ∈ am_tb := am_in (tw_m5 172 rfl) rfl
theorem kf_X10_81 : Cond.fieldLink RX10 81 "ForgottenFeastModel" "knowsWord" "[C" ∈ am_tb := am_in (tw_m5 173 rfl) rfl
theorem kf_X10_84 : Cond.fieldLink RX10 84 "ForgottenFeastModel" "orWord" "[C" ∈ am_tb := am_in (tw_m5 174 rfl) rfl
theorem kf_X10_87 : Cond.fieldLink RX10 87 "ForgottenFeastModel" "andWord" "[C" ∈ am_tb := am_in (tw_m5 175 rfl) rfl
theorem kf_X10_90 : Cond.fieldLink RX10 90 "ForgottenFeastModel" "notWord" "[C" ∈ am_tb := am_in (tw_m5 176 rfl) rfl
theorem kf_X10_93 : Cond.fieldLink RX10 93 "ForgottenFeastModel" "allWord" "[C" ∈ am_tb := am_in (tw_m5 177 rfl) rfl
theorem kf_X10_96 : Cond.fieldLink RX10 96 "ForgottenFeastModel" "minWord" "[C" ∈ am_tb := am_in (tw_m5 178 rfl) rfl
theorem kf_X10_99 : Cond.fieldLink RX10 99 "ForgottenFeastModel" "maxWord" "[C" ∈ am_tb := am_in (tw_m5 179 rfl) rfl
theorem kf_X10_102 : Cond.fieldLink RX10 102 "ForgottenFeastModel" "many" "[I" ∈ am_tb := am_in (tw_m5 181 rfl) rfl
theorem kf_X10_105 : Cond.fieldLink RX10 105 "ForgottenFeastModel" "names" "[J" ∈ am_tb := am_in (tw_m5 182 rfl) rfl
theorem kf_X10_109 : Cond.fieldLink RX10 109 "ForgottenFeastModel" "minds" "[I" ∈ am_tb := am_in (tw_m5 183 rfl) rfl
theorem kf_X10_112 : Cond.fieldLink RX10 112 "ForgottenFeastModel" "asked" "[I" ∈ am_tb := am_in (tw_m5 184 rfl) rfl
theorem kf_X10_115 : Cond.fieldLink RX10 115 "ForgottenFeastModel" "remind" "[I" ∈ am_tb := am_in (tw_m5 185 rfl) rfl
theorem kf_X10_118 : Cond.fieldLink RX10 118 "ForgottenFeastModel" "toldFor" "[I" ∈ am_tb := am_in (tw_m5 186 rfl) rfl
theorem kf_X10_121 : Cond.fieldLink RX10 121 "ForgottenFeastModel" "frosts" "[I" ∈ am_tb := am_in (tw_m5 187 rfl) rfl
theorem kf_X10_124 : Cond.fieldLink RX10 124 "ForgottenFeastModel" "settings" "[I" ∈ am_tb := am_in (tw_m5 188 rfl) rfl
theorem kf_X10_127 : Cond.fieldLink RX10 127 "ForgottenFeastModel" "codeFrom" "[I" ∈ am_tb := am_in (tw_m5 189 rfl) rfl
theorem kf_X10_130 : Cond.fieldLink RX10 130 "ForgottenFeastModel" "codeEnd" "[I" ∈ am_tb := am_in (tw_m5 190 rfl) rfl
theorem kf_X10_133 : Cond.fieldLink RX10 133 "ForgottenFeastModel" "codes" "[I" ∈ am_tb := am_in (tw_m5 191 rfl) rfl
theorem kf_X10_136 : Cond.fieldLink RX10 136 "ForgottenFeastModel" "now" "[I" ∈ am_tb := am_in (tw_m5 196 rfl) rfl
theorem kf_X10_139 : Cond.fieldLink RX10 139 "ForgottenFeastModel" "aside" "[I" ∈ am_tb := am_in (tw_m5 197 rfl) rfl
theorem kf_X10_142 : Cond.fieldLink RX10 142 "ForgottenFeastModel" "before" "[I" ∈ am_tb := am_in (tw_m5 205 rfl) rfl
theorem kf_X10_145 : Cond.fieldLink RX10 145 "ForgottenFeastModel" "after" "[I" ∈ am_tb := am_in (tw_m5 206 rfl) rfl
theorem kf_X10_148 : Cond.fieldLink RX10 148 "ForgottenFeastModel" "rows" "[I" ∈ am_tb := am_in (tw_m5 208 rfl) rfl
theorem kf_X10_151 : Cond.fieldLink RX10 151 "ForgottenFeastModel" "ago" "[I" ∈ am_tb := am_in (tw_m5 209 rfl) rfl
theorem kf_X10_154 : Cond.fieldLink RX10 154 "ForgottenFeastModel" "kept0" "[I" ∈ am_tb := am_in (tw_m5 210 rfl) rfl
theorem kf_X10_157 : Cond.fieldLink RX10 157 "ForgottenFeastModel" "seeded" "J" ∈ am_tb := am_in (tw_m5 213 rfl) rfl
theorem kf_X10_161 : Cond.fieldLink RX10 161 "ForgottenFeastModel" "firstAsked" "[C" ∈ am_tb := am_in (tw_m5 214 rfl) rfl
theorem kf_X10_164 : Cond.fieldLink RX10 164 "ForgottenFeastModel" "lastAsked" "[C" ∈ am_tb := am_in (tw_m5 215 rfl) rfl
theorem kf_X10_167 : Cond.fieldLink RX10 167 "ForgottenFeastModel" "oftenAsked" "[C" ∈ am_tb := am_in (tw_m5 216 rfl) rfl
theorem kf_X10_170 : Cond.fieldLink RX10 170 "ForgottenFeastModel" "totalAsked" "[C" ∈ am_tb := am_in (tw_m5 217 rfl) rfl
theorem kf_X10_173 : Cond.fieldLink RX10 173 "ForgottenFeastModel" "mostAsked" "[C" ∈ am_tb := am_in (tw_m5 218 rfl) rfl
theorem kf_X10_176 : Cond.fieldLink RX10 176 "ForgottenFeastModel" "leastAsked" "[C" ∈ am_tb := am_in (tw_m5 219 rfl) rfl
theorem kf_X10_179 : Cond.fieldLink RX10 179 "ForgottenFeastModel" "notAsked" "[C" ∈ am_tb := am_in (tw_m5 220 rfl) rfl
theorem kf_X10_182 : Cond.fieldLink RX10 182 "ForgottenFeastModel" "andAsked" "[C" ∈ am_tb := am_in (tw_m5 221 rfl) rfl
theorem kf_X10_185 : Cond.fieldLink RX10 185 "ForgottenFeastModel" "orAsked" "[C" ∈ am_tb := am_in (tw_m5 222 rfl) rfl
theorem kf_X10_188 : Cond.fieldLink RX10 188 "ForgottenFeastModel" "allAsked" "[C" ∈ am_tb := am_in (tw_m5 223 rfl) rfl
theorem kf_X10_191 : Cond.fieldLink RX10 191 "ForgottenFeastModel" "minAsked" "[C" ∈ am_tb := am_in (tw_m5 224 rfl) rfl
theorem kf_X10_194 : Cond.fieldLink RX10 194 "ForgottenFeastModel" "maxAsked" "[C" ∈ am_tb := am_in (tw_m5 225 rfl) rfl
theorem kf_X10_197 : Cond.fieldLink RX10 197 "ForgottenFeastModel" "dayAsked" "[C" ∈ am_tb := am_in (tw_m5 226 rfl) rfl
theorem kf_X10_200 : Cond.fieldLink RX10 200 "ForgottenFeastModel" "toldAsked" "[C" ∈ am_tb := am_in (tw_m5 227 rfl) rfl
theorem kf_X10_203 : Cond.fieldLink RX10 203 "ForgottenFeastModel" "agoAsked" "[C" ∈ am_tb := am_in (tw_m5 228 rfl) rfl
theorem kf_X10_206 : Cond.fieldLink RX10 206 "ForgottenFeastModel" "mindAsked" "[C" ∈ am_tb := am_in (tw_m5 229 rfl) rfl
theorem kf_X10_209 : Cond.fieldLink RX10 209 "ForgottenFeastModel" "feastAsked" "[C" ∈ am_tb := am_in (tw_m5 230 rfl) rfl
theorem kf_X10_212 : Cond.fieldLink RX10 212 "ForgottenFeastModel" "yearAsked" "[C" ∈ am_tb := am_in (tw_m5 231 rfl) rfl
theorem kf_X10_215 : Cond.fieldLink RX10 215 "ForgottenFeastModel" "frostAsked" "[C" ∈ am_tb := am_in (tw_m5 232 rfl) rfl
theorem kf_X10_218 : Cond.fieldLink RX10 218 "ForgottenFeastModel" "otherAsked" "[C" ∈ am_tb := am_in (tw_m5 233 rfl) rfl
theorem kf_X10_221 : Cond.fieldLink RX10 221 "ForgottenFeastModel" "numberAsked" "[C" ∈ am_tb := am_in (tw_m5 234 rfl) rfl
theorem kf_X10_224 : Cond.fieldLink RX10 224 "ForgottenFeastModel" "deadAsked" "[C" ∈ am_tb := am_in (tw_m5 235 rfl) rfl
theorem kf_X10_227 : Cond.fieldLink RX10 227 "ForgottenFeastModel" "thinksAsked" "[C" ∈ am_tb := am_in (tw_m5 236 rfl) rfl
theorem kf_X10_230 : Cond.fieldLink RX10 230 "ForgottenFeastModel" "knowsAsked" "[C" ∈ am_tb := am_in (tw_m5 237 rfl) rfl
theorem kf_X10_233 : Cond.fieldLink RX10 233 "ForgottenFeastModel" "qCodes" "[I" ∈ am_tb := am_in (tw_m5 238 rfl) rfl
theorem kf_X10_236 : Cond.fieldLink RX10 236 "ForgottenFeastModel" "qWait" "[I" ∈ am_tb := am_in (tw_m6 0 rfl) rfl
theorem kf_X10_239 : Cond.fieldLink RX10 239 "ForgottenFeastModel" "qPile" "[J" ∈ am_tb := am_in (tw_m6 4 rfl) rfl
theorem kf_X10_242 : Cond.fieldLink RX10 242 "ForgottenFeastModel" "octet" "[I" ∈ am_tb := am_in (tw_m6 8 rfl) rfl
theorem kf_X10_245 : Cond.fieldLink RX10 245 "ForgottenFeastModel" "taped" "I" ∈ am_tb := am_in (tw_m5 143 rfl) rfl
theorem kf_X10_248 : Cond.fieldLink RX10 248 "ForgottenFeastModel" "bad" "I" ∈ am_tb := am_in (tw_m5 147 rfl) rfl
theorem kf_X10_251 : Cond.fieldLink RX10 251 "ForgottenFeastModel" "badPlace" "I" ∈ am_tb := am_in (tw_m5 148 rfl) rfl
theorem kf_X10_254 : Cond.fieldLink RX10 254 "ForgottenFeastModel" "at" "I" ∈ am_tb := am_in (tw_m5 144 rfl) rfl
theorem kf_X10_257 : Cond.fieldLink RX10 257 "ForgottenFeastModel" "end" "I" ∈ am_tb := am_in (tw_m5 145 rfl) rfl
theorem kf_X10_268 : Cond.fieldLink RX10 268 "ForgottenFeastModel" "ended" "I" ∈ am_tb := am_in (tw_m5 146 rfl) rfl
theorem kf_X10_288 : Cond.fieldLink RX10 288 "ForgottenFeastModel" "numberPlace" "I" ∈ am_tb := am_in (tw_m5 152 rfl) rfl
theorem kf_X10_299 : Cond.fieldLink RX10 299 "ForgottenFeastModel" "namePlace" "I" ∈ am_tb := am_in (tw_m5 180 rfl) rfl
theorem kf_X10_306 : Cond.fieldLink RX10 306 "ForgottenFeastModel" "textKind" "I" ∈ am_tb := am_in (tw_m5 195 rfl) rfl
theorem kf_X10_336 : Cond.fieldLink RX10 336 "ForgottenFeastModel" "qCoded" "I" ∈ am_tb := am_in (tw_m5 239 rfl) rfl
theorem kf_X10_339 : Cond.fieldLink RX10 339 "ForgottenFeastModel" "qWaits" "I" ∈ am_tb := am_in (tw_m6 1 rfl) rfl
theorem kf_X10_342 : Cond.fieldLink RX10 342 "ForgottenFeastModel" "qOpened" "I" ∈ am_tb := am_in (tw_m6 2 rfl) rfl
theorem kf_X10_345 : Cond.fieldLink RX10 345 "ForgottenFeastModel" "qBase" "I" ∈ am_tb := am_in (tw_m6 3 rfl) rfl
theorem kf_X10_351 : Cond.fieldLink RX10 351 "ForgottenFeastModel" "coded" "I" ∈ am_tb := am_in (tw_m5 192 rfl) rfl
theorem kf_X10_354 : Cond.fieldLink RX10 354 "ForgottenFeastModel" "statements" "I" ∈ am_tb := am_in (tw_m5 193 rfl) rfl
theorem kf_X10_378 : Cond.fieldLink RX10 378 "ForgottenFeastModel" "fault" "I" ∈ am_tb := am_in (tw_m5 149 rfl) rfl
theorem kf_X10_384 : Cond.fieldLink RX10 384 "ForgottenFeastModel" "isTown" "Z" ∈ am_tb := am_in (tw_m5 194 rfl) rfl
theorem kf_X10_388 : Cond.fieldLink RX10 388 "ForgottenFeastModel" "undoable" "I" ∈ am_tb := am_in (tw_m5 211 rfl) rfl
theorem kf_X10_391 : Cond.fieldLink RX10 391 "ForgottenFeastModel" "rowMany" "I" ∈ am_tb := am_in (tw_m5 207 rfl) rfl
theorem kf_X10_403 : Cond.fieldLink RX10 403 "ForgottenFeastModel" "qPiled" "I" ∈ am_tb := am_in (tw_m6 5 rfl) rfl
theorem kf_X10_417 : Cond.fieldLink RX10 417 "ForgottenFeastModel" "askToldSet" "I" ∈ am_tb := am_in (tw_m5 198 rfl) rfl
theorem kf_X10_420 : Cond.fieldLink RX10 420 "ForgottenFeastModel" "askFeast" "J" ∈ am_tb := am_in (tw_m5 199 rfl) rfl
theorem kf_X10_426 : Cond.fieldLink RX10 426 "ForgottenFeastModel" "askFrost" "J" ∈ am_tb := am_in (tw_m5 200 rfl) rfl
theorem kf_X10_443 : Cond.fieldLink RX10 443 "ForgottenFeastModel" "askOther" "J" ∈ am_tb := am_in (tw_m5 201 rfl) rfl
theorem kf_X10_455 : Cond.fieldLink RX10 455 "ForgottenFeastModel" "selfSet" "I" ∈ am_tb := am_in (tw_m5 202 rfl) rfl
theorem kf_X10_461 : Cond.fieldLink RX10 461 "ForgottenFeastModel" "thinkSet" "I" ∈ am_tb := am_in (tw_m5 203 rfl) rfl
theorem kf_X10_464 : Cond.fieldLink RX10 464 "ForgottenFeastModel" "feastToday" "Z" ∈ am_tb := am_in (tw_m5 204 rfl) rfl
theorem kf_X10_562 : Cond.fieldLink RX10 562 "ForgottenFeastModel" "newest" "I" ∈ am_tb := am_in (tw_m5 212 rfl) rfl
theorem kf_X10_658 : Cond.fieldLink RX10 658 "ForgottenFeastModel" "qAnswer" "J" ∈ am_tb := am_in (tw_m6 6 rfl) rfl
theorem kf_X10_663 : Cond.fieldLink RX10 663 "ForgottenFeastModel" "qIsNew" "Z" ∈ am_tb := am_in (tw_m6 7 rfl) rfl
theorem kf_X10_679 : Cond.fieldLink RX10 679 "ForgottenFeastModel" "octets" "I" ∈ am_tb := am_in (tw_m6 9 rfl) rfl
theorem km_X9_3 : Cond.methodLink RX9 3 objectInit ∈ am_tb := am_in (tw_m1 26 rfl) rfl
theorem km_X9_11 : Cond.methodLinkNest RX9 11 yX6_init RX9 ∈ am_tb := am_in (tw_m1 31 rfl) rfl
theorem km_X9_18 : Cond.methodLinkNest RX9 18 yX8_init RX9 ∈ am_tb := am_in (tw_m1 51 rfl) rfl
theorem km_X9_28 : Cond.methodLinkNest RX9 28 yX4_init RX9 ∈ am_tb := am_in (tw_m1 154 rfl) rfl
theorem km_X9_37 : Cond.methodLinkNest RX9 37 yX1_init RX9 ∈ am_tb := am_in (tw_m1 225 rfl) rfl
theorem km_X9_47 : Cond.methodLinkNest RX9 47 yX2_init RX9 ∈ am_tb := am_in (tw_m2 49 rfl) rfl
theorem km_X9_54 : Cond.methodLinkNest RX9 54 yX0_init RX9 ∈ am_tb := am_in (tw_m2 68 rfl) rfl
theorem km_X9_63 : Cond.methodLinkNest RX9 63 yX3_init RX9 ∈ am_tb := am_in (tw_m2 123 rfl) rfl
theorem km_X9_92 : Cond.methodLink RX9 92 yX9_refuse ∈ am_tb := am_in (tw_m2 192 rfl) rfl
theorem km_X9_96 : Cond.methodLinkNest RX9 96 yX6_addNumber RX9 ∈ am_tb := am_in (tw_m2 196 rfl) rfl
theorem km_X9_100 : Cond.methodLinkNest RX9 100 yX4_readTown RX9 ∈ am_tb := am_in (tw_m2 208 rfl) rfl
theorem km_X9_104 : Cond.methodLink RX9 104 yX9_noteFault ∈ am_tb := am_in (tw_m3 235 rfl) rfl
theorem km_X9_107 : Cond.methodLinkNest RX9 107 yX1_begin RX9 ∈ am_tb := am_in (tw_m3 239 rfl) rfl
theorem km_X9_111 : Cond.methodLinkNest RX9 111 yX2_forget RX9 ∈ am_tb := am_in (tw_m4 5 rfl) rfl
theorem km_X9_129 : Cond.methodLink RX9 129 yX9_living ∈ am_tb := am_in (tw_m4 18 rfl) rfl
theorem km_X9_133 : Cond.methodLink RX9 133 yJ6_bitCount_0f7a4 ∈ am_tb := am_in (tw_m4 26 rfl) rfl
theorem km_X9_150 : Cond.methodLink RX9 150 yX9_countBits ∈ am_tb := am_in (tw_m4 32 rfl) rfl
theorem km_X9_166 : Cond.methodLink RX9 166 yX9_isPerson ∈ am_tb := am_in (tw_m4 39 rfl) rfl
theorem km_X9_185 : Cond.methodLink RX9 185 yX9_bit ∈ am_tb := am_in (tw_m4 47 rfl) rfl
theorem km_X9_195 : Cond.methodLink RX9 195 yX9_daysToldOff ∈ am_tb := am_in (tw_m4 48 rfl) rfl
theorem km_X9_198 : Cond.methodLink RX9 198 yX9_isDay ∈ am_tb := am_in (tw_m4 56 rfl) rfl
theorem km_X9_204 : Cond.methodLinkNest RX9 204 yX1_rowAt RX9 ∈ am_tb := am_in (tw_m4 64 rfl) rfl
theorem km_X9_207 : Cond.methodLinkNest RX9 207 yX1_rowYear RX9 ∈ am_tb := am_in (tw_m4 68 rfl) rfl
theorem km_X9_210 : Cond.methodLinkNest RX9 210 yX1_rowDay RX9 ∈ am_tb := am_in (tw_m4 71 rfl) rfl
theorem km_X9_213 : Cond.methodLinkNest RX9 213 yX1_rowThinkers RX9 ∈ am_tb := am_in (tw_m4 74 rfl) rfl
theorem km_X9_216 : Cond.methodLinkNest RX9 216 yX1_rowFeast RX9 ∈ am_tb := am_in (tw_m4 77 rfl) rfl
theorem km_X9_219 : Cond.methodLink RX9 219 yX9_foresee ∈ am_tb := am_in (tw_m4 84 rfl) rfl
theorem km_X9_234 : Cond.methodLinkNest RX9 234 yX1_daysLeft RX9 ∈ am_tb := am_in (tw_m4 92 rfl) rfl
theorem km_X9_238 : Cond.methodLink RX9 238 yJ9_min_7cf53 ∈ am_tb := am_in (tw_m4 162 rfl) rfl
theorem km_X9_243 : Cond.methodLinkNest RX9 243 yX1_copyFrom RX9 ∈ am_tb := am_in (tw_m4 96 rfl) rfl
theorem km_X9_247 : Cond.methodLinkNest RX9 247 yX0_lookAt RX9 ∈ am_tb := am_in (tw_m4 100 rfl) rfl
theorem km_X9_251 : Cond.methodLinkNest RX9 251 yX0_settle RX9 ∈ am_tb := am_in (tw_m4 153 rfl) rfl
theorem km_X9_254 : Cond.methodLink RX9 254 yX9_hangsOn ∈ am_tb := am_in (tw_m4 167 rfl) rfl
theorem km_X9_257 : Cond.methodLink RX9 257 yX9_isAhead ∈ am_tb := am_in (tw_m4 88 rfl) rfl
theorem km_X9_260 : Cond.methodLink RX9 260 yX9_chanceOfNobody ∈ am_tb := am_in (tw_m4 179 rfl) rfl
theorem km_X9_263 : Cond.methodLink RX9 263 yX9_priceOf ∈ am_tb := am_in (tw_m4 189 rfl) rfl
theorem km_X9_266 : Cond.methodLinkNest RX9 266 yX0_spread RX9 ∈ am_tb := am_in (tw_m4 201 rfl) rfl
theorem km_X9_269 : Cond.methodLinkNest RX9 269 yX0_ofThemselves RX9 ∈ am_tb := am_in (tw_m4 206 rfl) rfl
theorem km_X9_271 : Cond.methodLink RX9 271 yX9_somebodyByTurns ∈ am_tb := am_in (tw_m4 207 rfl) rfl
theorem km_X9_275 : Cond.methodLink RX9 275 yX9_isSight ∈ am_tb := am_in (tw_m4 217 rfl) rfl
theorem km_X9_285 : Cond.methodLink RX9 285 yX9_isAsSeen ∈ am_tb := am_in (tw_m4 225 rfl) rfl
theorem km_X9_288 : Cond.methodLink RX9 288 yX9_hoursFrom ∈ am_tb := am_in (tw_m4 233 rfl) rfl
theorem km_X9_291 : Cond.methodLink RX9 291 yJ9_max_7cf53 ∈ am_tb := am_in (tw_m4 237 rfl) rfl
theorem km_X9_294 : Cond.methodLink RX9 294 yX9_isLaw ∈ am_tb := am_in (tw_m5 2 rfl) rfl
theorem km_X9_297 : Cond.methodLinkNest RX9 297 yX2_remember RX9 ∈ am_tb := am_in (tw_m5 15 rfl) rfl
theorem km_X9_300 : Cond.methodLink RX9 300 yX9_liveOneDay ∈ am_tb := am_in (tw_m5 21 rfl) rfl
theorem km_X9_304 : Cond.methodLink RX9 304 yX9_drawDeaths ∈ am_tb := am_in (tw_m5 46 rfl) rfl
theorem km_X9_307 : Cond.methodLinkNest RX9 307 yX2_bringBack RX9 ∈ am_tb := am_in (tw_m5 59 rfl) rfl
theorem km_X9_312 : Cond.methodLinkNest RX9 312 yX4_readQuestion RX9 ∈ am_tb := am_in (tw_m5 72 rfl) rfl
theorem km_X9_318 : Cond.methodLink RX9 318 yX9_answerOf ∈ am_tb := am_in (tw_m5 76 rfl) rfl
theorem km_X9_322 : Cond.methodLinkNest RX9 322 yX3_paint RX9 ∈ am_tb := am_in (tw_m5 91 rfl) rfl
theorem km_X9_329 : Cond.methodLinkNest RX9 329 yX3_readInto RX9 ∈ am_tb := am_in (tw_m5 117 rfl) rfl
theorem km_X9_339 : Cond.methodLinkNest RX9 339 yX8_everybody RX9 ∈ am_tb := am_in (tw_m4 22 rfl) rfl
theorem km_X9_348 : Cond.methodLink RX9 348 yX9_canBeSilenced ∈ am_tb := am_in (tw_m4 210 rfl) rfl
theorem km_X9_351 : Cond.methodLink RX9 351 yJ7_fill_53178 ∈ am_tb := am_in (tw_m5 6 rfl) rfl
theorem km_X9_357 : Cond.methodLinkNest RX9 357 yX1_toldOn RX9 ∈ am_tb := am_in (tw_m5 7 rfl) rfl
theorem km_X9_360 : Cond.methodLinkNest RX9 360 yX1_addRow RX9 ∈ am_tb := am_in (tw_m5 25 rfl) rfl
theorem km_X9_383 : Cond.methodLinkNest RX9 383 yX0_valueFor RX9 ∈ am_tb := am_in (tw_m5 81 rfl) rfl
theorem km_X9_387 : Cond.methodLink RX9 387 yJ9_max_f86c9 ∈ am_tb := am_in (tw_m5 85 rfl) rfl
theorem km_X9_390 : Cond.methodLink RX9 390 yJ9_min_f86c9 ∈ am_tb := am_in (tw_m5 86 rfl) rfl
theorem km_X0_3 : Cond.methodLink RX0 3 objectInit ∈ am_tb := am_in (tw_m2 71 rfl) rfl
theorem km_X0_32 : Cond.methodLinkNest RX0 32 yX1_daysLeft RX9 ∈ am_tb := am_in (tw_m4 104 rfl) rfl
theorem km_X0_65 : Cond.methodLink RX0 65 yJ7_fill_53178 ∈ am_tb := am_in (tw_m4 105 rfl) rfl
theorem km_X0_71 : Cond.methodLinkNest RX0 71 yX8_everybody RX9 ∈ am_tb := am_in (tw_m4 106 rfl) rfl
theorem km_X0_87 : Cond.methodLink RX0 87 yX0_ofThemselves ∈ am_tb := am_in (tw_m4 107 rfl) rfl
theorem km_X0_93 : Cond.methodLink RX0 93 yX0_spread ∈ am_tb := am_in (tw_m4 141 rfl) rfl
theorem km_X0_105 : Cond.methodLinkNest RX0 105 yX9_bit RX9 ∈ am_tb := am_in (tw_m4 111 rfl) rfl
theorem km_X0_111 : Cond.methodLink RX0 111 yJ9_min_7cf53 ∈ am_tb := am_in (tw_m4 157 rfl) rfl
theorem km_X0_125 : Cond.methodLink RX0 125 yX0_setPerson ∈ am_tb := am_in (tw_m4 112 rfl) rfl
theorem km_X0_129 : Cond.methodLinkNest RX0 129 yX5_valueOf RX9 ∈ am_tb := am_in (tw_m4 116 rfl) rfl
theorem km_X0_136 : Cond.methodLink RX0 136 yJ6_numberOfTrailingZeros_0f7a4 ∈ am_tb := am_in (tw_m4 145 rfl) rfl
theorem km_X0_142 : Cond.methodLink RX0 142 yX0_wouldHear ∈ am_tb := am_in (tw_m4 149 rfl) rfl
theorem km_X1_3 : Cond.methodLink RX1 3 objectInit ∈ am_tb := am_in (tw_m1 228 rfl) rfl
theorem km_X1_40 : Cond.methodLink RX1 40 yJ7_fill_53178 ∈ am_tb := am_in (tw_m4 3 rfl) rfl
theorem km_X1_49 : Cond.methodLink RX1 49 arraycopyName ∈ am_tb := am_in (tw_m4 4 rfl) rfl
theorem km_X2_3 : Cond.methodLink RX2 3 objectInit ∈ am_tb := am_in (tw_m2 52 rfl) rfl
theorem km_X2_24 : Cond.methodLinkNest RX2 24 yX1_init RX9 ∈ am_tb := am_in (tw_m5 19 rfl) rfl
theorem km_X2_25 : Cond.methodLinkNest RX2 25 yX1_copyFrom RX9 ∈ am_tb := am_in (tw_m5 20 rfl) rfl
theorem km_X3_3 : Cond.methodLink RX3 3 objectInit ∈ am_tb := am_in (tw_m2 126 rfl) rfl
theorem km_X3_24 : Cond.methodLink RX3 24 yX3_add ∈ am_tb := am_in (tw_m5 95 rfl) rfl
theorem km_X3_49 : Cond.methodLinkNest RX3 49 yX9_bit RX9 ∈ am_tb := am_in (tw_m5 100 rfl) rfl
theorem km_X3_56 : Cond.methodLink RX3 56 yX3_addList ∈ am_tb := am_in (tw_m5 101 rfl) rfl
theorem km_X3_63 : Cond.methodLink RX3 63 yX3_checkOf ∈ am_tb := am_in (tw_m5 106 rfl) rfl
theorem km_X3_67 : Cond.methodLinkNest RX3 67 yX9_countBits RX9 ∈ am_tb := am_in (tw_m5 105 rfl) rfl
theorem km_X3_77 : Cond.methodLinkNest RX3 77 yX1_begin RX9 ∈ am_tb := am_in (tw_m5 120 rfl) rfl
theorem km_X3_81 : Cond.methodLink RX3 81 yJ7_fill_53178 ∈ am_tb := am_in (tw_m5 121 rfl) rfl
theorem km_X3_87 : Cond.methodLink RX3 87 yX3_readHead ∈ am_tb := am_in (tw_m5 122 rfl) rfl
theorem km_X3_91 : Cond.methodLink RX3 91 yX3_readPeople ∈ am_tb := am_in (tw_m5 126 rfl) rfl
theorem km_X3_94 : Cond.methodLink RX3 94 yX3_readList ∈ am_tb := am_in (tw_m5 129 rfl) rfl
theorem km_X4_3 : Cond.methodLink RX4 3 objectInit ∈ am_tb := am_in (tw_m1 157 rfl) rfl
theorem km_X4_11 : Cond.methodLinkNest RX4 11 yX5_init RX9 ∈ am_tb := am_in (tw_m1 159 rfl) rfl
theorem km_X4_22 : Cond.methodLinkNest RX4 22 yX7_init RX9 ∈ am_tb := am_in (tw_m1 162 rfl) rfl
theorem km_X4_33 : Cond.methodLink RX4 33 yX4_begin ∈ am_tb := am_in (tw_m2 212 rfl) rfl
theorem km_X4_40 : Cond.methodLinkNest RX4 40 yX8_clear RX9 ∈ am_tb := am_in (tw_m3 123 rfl) rfl
theorem km_X4_49 : Cond.methodLink RX4 49 yX4_readStatement ∈ am_tb := am_in (tw_m3 130 rfl) rfl
theorem km_X4_58 : Cond.methodLink RX4 58 yX4_fail ∈ am_tb := am_in (tw_m3 138 rfl) rfl
theorem km_X4_71 : Cond.methodLink RX4 71 yX4_pass ∈ am_tb := am_in (tw_m3 117 rfl) rfl
theorem km_X4_75 : Cond.methodLink RX4 75 yX4_readTest ∈ am_tb := am_in (tw_m3 189 rfl) rfl
theorem km_X4_78 : Cond.methodLink RX4 78 yX4_readSum ∈ am_tb := am_in (tw_m3 205 rfl) rfl
theorem km_X4_81 : Cond.methodLinkNest RX4 81 yX7_cut RX9 ∈ am_tb := am_in (tw_m2 216 rfl) rfl
theorem km_X4_107 : Cond.methodLinkNest RX4 107 yX8_isFull RX9 ∈ am_tb := am_in (tw_m3 134 rfl) rfl
theorem km_X4_111 : Cond.methodLink RX4 111 yX4_readNumber ∈ am_tb := am_in (tw_m3 142 rfl) rfl
theorem km_X4_118 : Cond.methodLink RX4 118 yX4_readPerson ∈ am_tb := am_in (tw_m3 146 rfl) rfl
theorem km_X4_121 : Cond.methodLink RX4 121 yX4_readTold ∈ am_tb := am_in (tw_m3 162 rfl) rfl
theorem km_X4_124 : Cond.methodLink RX4 124 yX4_readReminds ∈ am_tb := am_in (tw_m3 173 rfl) rfl
theorem km_X4_127 : Cond.methodLink RX4 127 yX4_readFrost ∈ am_tb := am_in (tw_m3 181 rfl) rfl
theorem km_X4_133 : Cond.methodLinkNest RX4 133 yX8_ruleOf RX9 ∈ am_tb := am_in (tw_m3 224 rfl) rfl
theorem km_X4_137 : Cond.methodLinkNest RX4 137 yX5_copyFrom RX9 ∈ am_tb := am_in (tw_m3 228 rfl) rfl
theorem km_X4_147 : Cond.methodLinkNest RX4 147 yX8_find RX9 ∈ am_tb := am_in (tw_m3 150 rfl) rfl
theorem km_X4_151 : Cond.methodLink RX4 151 yX4_readName ∈ am_tb := am_in (tw_m3 154 rfl) rfl
theorem km_X4_155 : Cond.methodLinkNest RX4 155 yX8_addPerson RX9 ∈ am_tb := am_in (tw_m3 158 rfl) rfl
theorem km_X4_159 : Cond.methodLinkNest RX4 159 yX8_addTold RX9 ∈ am_tb := am_in (tw_m3 166 rfl) rfl
theorem km_X4_163 : Cond.methodLinkNest RX4 163 yX8_addReminds RX9 ∈ am_tb := am_in (tw_m3 177 rfl) rfl
theorem km_X4_166 : Cond.methodLinkNest RX4 166 yX8_addFrost RX9 ∈ am_tb := am_in (tw_m3 185 rfl) rfl
theorem km_X4_169 : Cond.methodLink RX4 169 yX4_readFact ∈ am_tb := am_in (tw_m3 193 rfl) rfl
theorem km_X4_172 : Cond.methodLinkNest RX4 172 yX5_add RX9 ∈ am_tb := am_in (tw_m3 201 rfl) rfl
theorem km_X4_175 : Cond.methodLink RX4 175 yX4_open ∈ am_tb := am_in (tw_m3 197 rfl) rfl
theorem km_X4_179 : Cond.methodLink RX4 179 yX4_readPart ∈ am_tb := am_in (tw_m3 209 rfl) rfl
theorem km_X4_182 : Cond.methodLink RX4 182 yX4_isSumSign ∈ am_tb := am_in (tw_m3 221 rfl) rfl
theorem km_X4_185 : Cond.methodLink RX4 185 yX4_readSumsInside ∈ am_tb := am_in (tw_m3 213 rfl) rfl
theorem km_X4_188 : Cond.methodLink RX4 188 yX4_isPartWord ∈ am_tb := am_in (tw_m3 217 rfl) rfl
theorem km_X5_3 : Cond.methodLink RX5 3 objectInit ∈ am_tb := am_in (tw_m1 60 rfl) rfl
theorem km_X5_9 : Cond.methodLink RX5 9 yJ9_max_7cf53 ∈ am_tb := am_in (tw_m1 61 rfl) rfl
theorem km_X5_25 : Cond.methodLink RX5 25 arraycopyName ∈ am_tb := am_in (tw_m3 232 rfl) rfl
theorem km_X5_31 : Cond.methodLink RX5 31 yX5_partAt ∈ am_tb := am_in (tw_m4 120 rfl) rfl
theorem km_X5_35 : Cond.methodLink RX5 35 yX5_isRemindedBy ∈ am_tb := am_in (tw_m4 123 rfl) rfl
theorem km_X5_39 : Cond.methodLink RX5 39 yX5_pairUp ∈ am_tb := am_in (tw_m4 126 rfl) rfl
theorem km_X5_43 : Cond.methodLink RX5 43 yJ9_floorDiv_7cf53 ∈ am_tb := am_in (tw_m4 129 rfl) rfl
theorem km_X5_46 : Cond.methodLink RX5 46 yJ9_min_7cf53 ∈ am_tb := am_in (tw_m4 132 rfl) rfl
theorem km_X5_53 : Cond.methodLink RX5 53 yJ9_min_f86c9 ∈ am_tb := am_in (tw_m4 135 rfl) rfl
theorem km_X5_56 : Cond.methodLink RX5 56 yJ9_max_f86c9 ∈ am_tb := am_in (tw_m4 138 rfl) rfl
theorem km_X6_3 : Cond.methodLink RX6 3 objectInit ∈ am_tb := am_in (tw_m1 34 rfl) rfl
theorem km_X7_3 : Cond.methodLink RX7 3 objectInit ∈ am_tb := am_in (tw_m1 165 rfl) rfl
theorem km_X7_32 : Cond.methodLink RX7 32 yX7_runFrom ∈ am_tb := am_in (tw_m2 220 rfl) rfl
theorem km_X7_36 : Cond.methodLink RX7 36 yX7_isLetter ∈ am_tb := am_in (tw_m2 224 rfl) rfl
theorem km_X7_40 : Cond.methodLink RX7 40 yX7_wordKind ∈ am_tb := am_in (tw_m2 230 rfl) rfl
theorem km_X7_44 : Cond.methodLink RX7 44 yX7_lettersOf ∈ am_tb := am_in (tw_m3 39 rfl) rfl
theorem km_X7_47 : Cond.methodLink RX7 47 yX7_numberOf ∈ am_tb := am_in (tw_m3 43 rfl) rfl
theorem km_X7_50 : Cond.methodLink RX7 50 yX7_add ∈ am_tb := am_in (tw_m3 47 rfl) rfl
theorem km_X7_56 : Cond.methodLink RX7 56 yJ0_indexOf_0f7a4 ∈ am_tb := am_in (tw_m3 52 rfl) rfl
theorem km_X7_61 : Cond.methodLink RX7 61 yJ9_max_7cf53 ∈ am_tb := am_in (tw_m3 116 rfl) rfl
theorem km_X7_66 : Cond.methodLink RX7 66 yX7_isDigit ∈ am_tb := am_in (tw_m2 227 rfl) rfl
theorem km_X7_69 : Cond.methodLink RX7 69 yX7_isWord ∈ am_tb := am_in (tw_m2 234 rfl) rfl
theorem km_X7_75 : Cond.methodLink RX7 75 yJ0_charAt_5068e ∈ am_tb := am_in (tw_m2 239 rfl) rfl
theorem km_X8_3 : Cond.methodLink RX8 3 objectInit ∈ am_tb := am_in (tw_m1 54 rfl) rfl
theorem km_X8_35 : Cond.methodLinkNest RX8 35 yX5_init RX9 ∈ am_tb := am_in (tw_m1 57 rfl) rfl
theorem km_X8_70 : Cond.methodLink RX8 70 yJ7_fill_53178 ∈ am_tb := am_in (tw_m3 127 rfl) rfl
theorem km_X8_79 : Cond.methodLinkNest RX8 79 yX9_bit RX9 ∈ am_tb := am_in (tw_m3 170 rfl) rfl
theorem km_L_9 : Cond.methodLink "ForgottenFeastLaw" 9 yX9_init ∈ am_tb := am_in (tw_m1 23 rfl) rfl
theorem km_L_12 : Cond.methodLink "ForgottenFeastLaw" 12 yX10_init ∈ am_tb := am_in (tw_m5 138 rfl) rfl
theorem km_L_13 : Cond.methodLink "ForgottenFeastLaw" 13 yX9_feed ∈ am_tb := am_in (tw_m2 188 rfl) rfl
theorem km_L_17 : Cond.methodLink "ForgottenFeastLaw" 17 yX10_feed ∈ am_tb := am_in (tw_m6 228 rfl) rfl
theorem km_L_18 : Cond.methodLink "ForgottenFeastLaw" 18 yX9_end ∈ am_tb := am_in (tw_m2 200 rfl) rfl
theorem km_L_22 : Cond.methodLink "ForgottenFeastLaw" 22 yX10_end ∈ am_tb := am_in (tw_m6 232 rfl) rfl
theorem km_L_23 : Cond.methodLink "ForgottenFeastLaw" 23 yX9_town ∈ am_tb := am_in (tw_m2 204 rfl) rfl
theorem km_L_27 : Cond.methodLink "ForgottenFeastLaw" 27 yX10_town ∈ am_tb := am_in (tw_m6 236 rfl) rfl
theorem km_L_28 : Cond.methodLink "ForgottenFeastLaw" 28 yX9_fault ∈ am_tb := am_in (tw_m4 10 rfl) rfl
theorem km_L_32 : Cond.methodLink "ForgottenFeastLaw" 32 yX10_fault ∈ am_tb := am_in (tw_m7 174 rfl) rfl
theorem km_L_33 : Cond.methodLink "ForgottenFeastLaw" 33 yX9_has ∈ am_tb := am_in (tw_m4 14 rfl) rfl
theorem km_L_36 : Cond.methodLink "ForgottenFeastLaw" 36 yX10_has ∈ am_tb := am_in (tw_m7 178 rfl) rfl
theorem km_L_37 : Cond.methodLink "ForgottenFeastLaw" 37 yX9_letter ∈ am_tb := am_in (tw_m4 35 rfl) rfl
theorem km_L_41 : Cond.methodLink "ForgottenFeastLaw" 41 yX10_letter ∈ am_tb := am_in (tw_m7 205 rfl) rfl
theorem km_L_42 : Cond.methodLink "ForgottenFeastLaw" 42 yX9_person ∈ am_tb := am_in (tw_m4 43 rfl) rfl
theorem km_L_45 : Cond.methodLink "ForgottenFeastLaw" 45 yX10_person ∈ am_tb := am_in (tw_m7 214 rfl) rfl
theorem km_L_46 : Cond.methodLink "ForgottenFeastLaw" 46 yX9_day ∈ am_tb := am_in (tw_m4 52 rfl) rfl
theorem km_L_49 : Cond.methodLink "ForgottenFeastLaw" 49 yX10_day ∈ am_tb := am_in (tw_m7 238 rfl) rfl
theorem km_L_50 : Cond.methodLink "ForgottenFeastLaw" 50 yX9_kept ∈ am_tb := am_in (tw_m4 60 rfl) rfl
theorem km_L_53 : Cond.methodLink "ForgottenFeastLaw" 53 yX10_kept ∈ am_tb := am_in (tw_m8 10 rfl) rfl
theorem km_L_54 : Cond.methodLink "ForgottenFeastLaw" 54 yX9_later ∈ am_tb := am_in (tw_m4 80 rfl) rfl
theorem km_L_57 : Cond.methodLink "ForgottenFeastLaw" 57 yX10_later ∈ am_tb := am_in (tw_m8 15 rfl) rfl
theorem km_L_58 : Cond.methodLink "ForgottenFeastLaw" 58 yX9_first ∈ am_tb := am_in (tw_m4 158 rfl) rfl
theorem km_L_61 : Cond.methodLink "ForgottenFeastLaw" 61 yX10_first ∈ am_tb := am_in (tw_m8 97 rfl) rfl
theorem km_L_62 : Cond.methodLink "ForgottenFeastLaw" 62 yX9_hangs ∈ am_tb := am_in (tw_m4 163 rfl) rfl
theorem km_L_65 : Cond.methodLink "ForgottenFeastLaw" 65 yX10_hangs ∈ am_tb := am_in (tw_m8 101 rfl) rfl
theorem km_L_66 : Cond.methodLink "ForgottenFeastLaw" 66 yX9_sure ∈ am_tb := am_in (tw_m4 171 rfl) rfl
theorem km_L_69 : Cond.methodLink "ForgottenFeastLaw" 69 yX10_sure ∈ am_tb := am_in (tw_m8 109 rfl) rfl
theorem km_L_70 : Cond.methodLink "ForgottenFeastLaw" 70 yX9_slips ∈ am_tb := am_in (tw_m4 175 rfl) rfl
theorem km_L_73 : Cond.methodLink "ForgottenFeastLaw" 73 yX10_slips ∈ am_tb := am_in (tw_m8 113 rfl) rfl
theorem km_L_74 : Cond.methodLink "ForgottenFeastLaw" 74 yX9_costs ∈ am_tb := am_in (tw_m4 185 rfl) rfl
theorem km_L_77 : Cond.methodLink "ForgottenFeastLaw" 77 yX10_costs ∈ am_tb := am_in (tw_m8 118 rfl) rfl
theorem km_L_78 : Cond.methodLink "ForgottenFeastLaw" 78 yX9_cheapest ∈ am_tb := am_in (tw_m4 193 rfl) rfl
theorem km_L_81 : Cond.methodLink "ForgottenFeastLaw" 81 yX10_cheapest ∈ am_tb := am_in (tw_m8 126 rfl) rfl
theorem km_L_82 : Cond.methodLink "ForgottenFeastLaw" 82 yX9_enough ∈ am_tb := am_in (tw_m4 197 rfl) rfl
theorem km_L_85 : Cond.methodLink "ForgottenFeastLaw" 85 yX10_enough ∈ am_tb := am_in (tw_m8 130 rfl) rfl
theorem km_L_86 : Cond.methodLink "ForgottenFeastLaw" 86 yX9_turnsOf ∈ am_tb := am_in (tw_m4 202 rfl) rfl
theorem km_L_89 : Cond.methodLink "ForgottenFeastLaw" 89 yX10_turnsOf ∈ am_tb := am_in (tw_m8 138 rfl) rfl
theorem km_L_90 : Cond.methodLink "ForgottenFeastLaw" 90 yX9_see ∈ am_tb := am_in (tw_m4 213 rfl) rfl
theorem km_L_93 : Cond.methodLink "ForgottenFeastLaw" 93 yX10_see ∈ am_tb := am_in (tw_m8 163 rfl) rfl
theorem km_L_94 : Cond.methodLink "ForgottenFeastLaw" 94 yX9_thought ∈ am_tb := am_in (tw_m4 221 rfl) rfl
theorem km_L_97 : Cond.methodLink "ForgottenFeastLaw" 97 yX10_thought ∈ am_tb := am_in (tw_m8 167 rfl) rfl
theorem km_L_98 : Cond.methodLink "ForgottenFeastLaw" 98 yX9_hours ∈ am_tb := am_in (tw_m4 229 rfl) rfl
theorem km_L_101 : Cond.methodLink "ForgottenFeastLaw" 101 yX10_hours ∈ am_tb := am_in (tw_m8 175 rfl) rfl
theorem km_L_102 : Cond.methodLink "ForgottenFeastLaw" 102 yX9_law ∈ am_tb := am_in (tw_m4 238 rfl) rfl
theorem km_L_105 : Cond.methodLink "ForgottenFeastLaw" 105 yX10_law ∈ am_tb := am_in (tw_m8 184 rfl) rfl
theorem km_L_106 : Cond.methodLink "ForgottenFeastLaw" 106 yX9_go ∈ am_tb := am_in (tw_m5 11 rfl) rfl
theorem km_L_109 : Cond.methodLink "ForgottenFeastLaw" 109 yX10_go ∈ am_tb := am_in (tw_m8 196 rfl) rfl
theorem km_L_110 : Cond.methodLink "ForgottenFeastLaw" 110 yX9_tell ∈ am_tb := am_in (tw_m5 29 rfl) rfl
theorem km_L_113 : Cond.methodLink "ForgottenFeastLaw" 113 yX10_tell ∈ am_tb := am_in (tw_m8 209 rfl) rfl
theorem km_L_114 : Cond.methodLink "ForgottenFeastLaw" 114 yX9_bribe ∈ am_tb := am_in (tw_m5 33 rfl) rfl
theorem km_L_117 : Cond.methodLink "ForgottenFeastLaw" 117 yX10_bribe ∈ am_tb := am_in (tw_m8 213 rfl) rfl
theorem km_L_118 : Cond.methodLink "ForgottenFeastLaw" 118 yX9_dies ∈ am_tb := am_in (tw_m5 38 rfl) rfl
theorem km_L_121 : Cond.methodLink "ForgottenFeastLaw" 121 yX10_dies ∈ am_tb := am_in (tw_m8 218 rfl) rfl
theorem km_L_122 : Cond.methodLink "ForgottenFeastLaw" 122 yX9_chance ∈ am_tb := am_in (tw_m5 42 rfl) rfl
theorem km_L_125 : Cond.methodLink "ForgottenFeastLaw" 125 yX10_chance ∈ am_tb := am_in (tw_m8 226 rfl) rfl
theorem km_L_126 : Cond.methodLink "ForgottenFeastLaw" 126 yX9_undo ∈ am_tb := am_in (tw_m5 55 rfl) rfl
theorem km_L_130 : Cond.methodLink "ForgottenFeastLaw" 130 yX10_undo ∈ am_tb := am_in (tw_m8 192 rfl) rfl
theorem km_L_131 : Cond.methodLink "ForgottenFeastLaw" 131 yX9_seed ∈ am_tb := am_in (tw_m5 63 rfl) rfl
theorem km_L_134 : Cond.methodLink "ForgottenFeastLaw" 134 yX10_seed ∈ am_tb := am_in (tw_m8 222 rfl) rfl
theorem km_L_135 : Cond.methodLink "ForgottenFeastLaw" 135 yX9_ask ∈ am_tb := am_in (tw_m5 67 rfl) rfl
theorem km_L_139 : Cond.methodLink "ForgottenFeastLaw" 139 yX10_ask ∈ am_tb := am_in (tw_m8 238 rfl) rfl
theorem km_L_140 : Cond.methodLink "ForgottenFeastLaw" 140 yX9_image ∈ am_tb := am_in (tw_m5 87 rfl) rfl
theorem km_L_143 : Cond.methodLink "ForgottenFeastLaw" 143 yX10_image ∈ am_tb := am_in (tw_m9 20 rfl) rfl
theorem km_L_144 : Cond.methodLink "ForgottenFeastLaw" 144 yX9_octet ∈ am_tb := am_in (tw_m5 109 rfl) rfl
theorem km_L_147 : Cond.methodLink "ForgottenFeastLaw" 147 yX10_octet ∈ am_tb := am_in (tw_m9 36 rfl) rfl
theorem km_L_148 : Cond.methodLink "ForgottenFeastLaw" 148 yX9_on ∈ am_tb := am_in (tw_m5 113 rfl) rfl
theorem km_L_151 : Cond.methodLink "ForgottenFeastLaw" 151 yX10_on ∈ am_tb := am_in (tw_m9 40 rfl) rfl
theorem km_L_152 : Cond.methodLink "ForgottenFeastLaw" 152 yX9_status ∈ am_tb := am_in (tw_m5 132 rfl) rfl
theorem km_L_155 : Cond.methodLink "ForgottenFeastLaw" 155 yX10_status ∈ am_tb := am_in (tw_m9 69 rfl) rfl
theorem km_X10_1 : Cond.methodLink RX10 1 objectInit ∈ am_tb := am_in (tw_m5 141 rfl) rfl
theorem km_X10_260 : Cond.methodLink RX10 260 yX10_look ∈ am_tb := am_in (tw_m7 16 rfl) rfl
theorem km_X10_264 : Cond.methodLink RX10 264 yX10_isLetter ∈ am_tb := am_in (tw_m7 20 rfl) rfl
theorem km_X10_271 : Cond.methodLink RX10 271 yX10_isHere ∈ am_tb := am_in (tw_m7 12 rfl) rfl
theorem km_X10_275 : Cond.methodLink RX10 275 yX10_takes ∈ am_tb := am_in (tw_m7 8 rfl) rfl
theorem km_X10_278 : Cond.methodLink RX10 278 yX10_fail ∈ am_tb := am_in (tw_m7 23 rfl) rfl
theorem km_X10_282 : Cond.methodLink RX10 282 yX10_takesSign ∈ am_tb := am_in (tw_m7 41 rfl) rfl
theorem km_X10_285 : Cond.methodLink RX10 285 yX10_isDigit ∈ am_tb := am_in (tw_m7 31 rfl) rfl
theorem km_X10_291 : Cond.methodLink RX10 291 yX10_isIn ∈ am_tb := am_in (tw_m7 34 rfl) rfl
theorem km_X10_295 : Cond.methodLink RX10 295 yX10_isOwnHere ∈ am_tb := am_in (tw_m7 61 rfl) rfl
theorem km_X10_309 : Cond.methodLink RX10 309 yX10_name ∈ am_tb := am_in (tw_m7 57 rfl) rfl
theorem km_X10_313 : Cond.methodLink RX10 313 yX10_personOf ∈ am_tb := am_in (tw_m7 67 rfl) rfl
theorem km_X10_317 : Cond.methodLink RX10 317 yX10_asks ∈ am_tb := am_in (tw_m7 4 rfl) rfl
theorem km_X10_321 : Cond.methodLink RX10 321 yX10_number ∈ am_tb := am_in (tw_m7 27 rfl) rfl
theorem km_X10_325 : Cond.methodLink RX10 325 yX10_asksSign ∈ am_tb := am_in (tw_m7 37 rfl) rfl
theorem km_X10_329 : Cond.methodLink RX10 329 yX10_isFull ∈ am_tb := am_in (tw_m7 53 rfl) rfl
theorem km_X10_333 : Cond.methodLink RX10 333 yX10_personHere ∈ am_tb := am_in (tw_m7 75 rfl) rfl
theorem km_X10_348 : Cond.methodLink RX10 348 yX10_qTest ∈ am_tb := am_in (tw_m7 91 rfl) rfl
theorem km_X10_357 : Cond.methodLink RX10 357 yX10_personTold ∈ am_tb := am_in (tw_m7 49 rfl) rfl
theorem km_X10_360 : Cond.methodLink RX10 360 yX10_isToldOff ∈ am_tb := am_in (tw_m7 71 rfl) rfl
theorem km_X10_363 : Cond.methodLink RX10 363 yX10_remindsTold ∈ am_tb := am_in (tw_m7 79 rfl) rfl
theorem km_X10_366 : Cond.methodLink RX10 366 yX10_frostTold ∈ am_tb := am_in (tw_m7 83 rfl) rfl
theorem km_X10_369 : Cond.methodLink RX10 369 yX10_codesTold ∈ am_tb := am_in (tw_m7 87 rfl) rfl
theorem km_X10_372 : Cond.methodLink RX10 372 yX10_daysTold ∈ am_tb := am_in (tw_m7 0 rfl) rfl
theorem km_X10_375 : Cond.methodLink RX10 375 yX10_statementTold ∈ am_tb := am_in (tw_m7 45 rfl) rfl
theorem km_X10_381 : Cond.methodLink RX10 381 yX10_stands ∈ am_tb := am_in (tw_m7 170 rfl) rfl
theorem km_X10_394 : Cond.methodLink RX10 394 yX10_peopleMany ∈ am_tb := am_in (tw_m7 186 rfl) rfl
theorem km_X10_397 : Cond.methodLink RX10 397 yX10_yearDays ∈ am_tb := am_in (tw_m7 182 rfl) rfl
theorem km_X10_400 : Cond.methodLink RX10 400 yX10_isDead ∈ am_tb := am_in (tw_m7 194 rfl) rfl
theorem km_X10_406 : Cond.methodLink RX10 406 yX10_qPuts ∈ am_tb := am_in (tw_m8 57 rfl) rfl
theorem km_X10_410 : Cond.methodLink RX10 410 yX10_qPartOf ∈ am_tb := am_in (tw_m8 61 rfl) rfl
theorem km_X10_414 : Cond.methodLink RX10 414 yX10_qJoins ∈ am_tb := am_in (tw_m8 65 rfl) rfl
theorem km_X10_423 : Cond.methodLink RX10 423 yX10_isFrost ∈ am_tb := am_in (tw_m8 6 rfl) rfl
theorem km_X10_429 : Cond.methodLink RX10 429 yX10_asksDay ∈ am_tb := am_in (tw_m8 49 rfl) rfl
theorem km_X10_432 : Cond.methodLink RX10 432 yX10_isTold ∈ am_tb := am_in (tw_m8 53 rfl) rfl
theorem km_X10_436 : Cond.methodLink RX10 436 yX10_reminderOf ∈ am_tb := am_in (tw_m8 85 rfl) rfl
theorem km_X10_439 : Cond.methodLink RX10 439 yX10_mindOf ∈ am_tb := am_in (tw_m7 218 rfl) rfl
theorem km_X10_446 : Cond.methodLink RX10 446 yX10_isReminded ∈ am_tb := am_in (tw_m8 81 rfl) rfl
theorem km_X10_449 : Cond.methodLink RX10 449 yX10_begins ∈ am_tb := am_in (tw_m8 41 rfl) rfl
theorem km_X10_452 : Cond.methodLink RX10 452 yX10_selves ∈ am_tb := am_in (tw_m8 45 rfl) rfl
theorem km_X10_458 : Cond.methodLink RX10 458 yX10_reminded ∈ am_tb := am_in (tw_m8 77 rfl) rfl
theorem km_X10_467 : Cond.methodLink RX10 467 yX10_agoOf ∈ am_tb := am_in (tw_m7 226 rfl) rfl
theorem km_X10_470 : Cond.methodLink RX10 470 yX10_isKept ∈ am_tb := am_in (tw_m8 89 rfl) rfl
theorem km_X10_473 : Cond.methodLink RX10 473 yX10_bits ∈ am_tb := am_in (tw_m7 198 rfl) rfl
theorem km_X10_476 : Cond.methodLink RX10 476 yX10_dayGoes ∈ am_tb := am_in (tw_m8 37 rfl) rfl
theorem km_X10_481 : Cond.methodLink RX10 481 yX10_daysLeft ∈ am_tb := am_in (tw_m8 24 rfl) rfl
theorem km_X10_484 : Cond.methodLink RX10 484 yX10_living ∈ am_tb := am_in (tw_m7 190 rfl) rfl
theorem km_X10_487 : Cond.methodLink RX10 487 yX10_setsOf ∈ am_tb := am_in (tw_m7 201 rfl) rfl
theorem km_X10_490 : Cond.methodLink RX10 490 yX10_isPerson ∈ am_tb := am_in (tw_m7 209 rfl) rfl
theorem km_X10_495 : Cond.methodLink RX10 495 yX10_askedBy ∈ am_tb := am_in (tw_m7 222 rfl) rfl
theorem km_X10_498 : Cond.methodLink RX10 498 yX10_remindersOf ∈ am_tb := am_in (tw_m7 230 rfl) rfl
theorem km_X10_501 : Cond.methodLink RX10 501 yX10_toldDays ∈ am_tb := am_in (tw_m7 234 rfl) rfl
theorem km_X10_504 : Cond.methodLink RX10 504 yX10_isDay ∈ am_tb := am_in (tw_m8 2 rfl) rfl
theorem km_X10_509 : Cond.methodLink RX10 509 yX10_isAhead ∈ am_tb := am_in (tw_m8 19 rfl) rfl
theorem km_X10_514 : Cond.methodLink RX10 514 yX10_putsAside ∈ am_tb := am_in (tw_m8 29 rfl) rfl
theorem km_X10_517 : Cond.methodLink RX10 517 yX10_daysGo ∈ am_tb := am_in (tw_m8 33 rfl) rfl
theorem km_X10_520 : Cond.methodLink RX10 520 yX10_takesBack ∈ am_tb := am_in (tw_m8 93 rfl) rfl
theorem km_X10_523 : Cond.methodLink RX10 523 yX10_hangsNext ∈ am_tb := am_in (tw_m8 105 rfl) rfl
theorem km_X10_528 : Cond.methodLink RX10 528 yX10_costOf ∈ am_tb := am_in (tw_m8 122 rfl) rfl
theorem km_X10_531 : Cond.methodLink RX10 531 yX10_canCome ∈ am_tb := am_in (tw_m8 134 rfl) rfl
theorem km_X10_534 : Cond.methodLink RX10 534 yX10_anyThinks ∈ am_tb := am_in (tw_m8 143 rfl) rfl
theorem km_X10_537 : Cond.methodLink RX10 537 yX10_bribesLast ∈ am_tb := am_in (tw_m8 151 rfl) rfl
theorem km_X10_540 : Cond.methodLink RX10 540 yX10_tellsLast ∈ am_tb := am_in (tw_m8 147 rfl) rfl
theorem km_X10_543 : Cond.methodLink RX10 543 yX10_bribesFirst ∈ am_tb := am_in (tw_m8 159 rfl) rfl
theorem km_X10_548 : Cond.methodLink RX10 548 yX10_tellsFirst ∈ am_tb := am_in (tw_m8 155 rfl) rfl
theorem km_X10_551 : Cond.methodLink RX10 551 yX10_isAsSeen ∈ am_tb := am_in (tw_m8 171 rfl) rfl
theorem km_X10_556 : Cond.methodLink RX10 556 yX10_hoursFrom ∈ am_tb := am_in (tw_m8 180 rfl) rfl
theorem km_X10_559 : Cond.methodLink RX10 559 yX10_isLaw ∈ am_tb := am_in (tw_m8 188 rfl) rfl
theorem km_X10_567 : Cond.methodLink RX10 567 yX10_refuses ∈ am_tb := am_in (tw_m8 201 rfl) rfl
theorem km_X10_570 : Cond.methodLink RX10 570 yX10_keeps ∈ am_tb := am_in (tw_m8 205 rfl) rfl
theorem km_X10_582 : Cond.methodLink RX10 582 yX10_drawOf ∈ am_tb := am_in (tw_m8 230 rfl) rfl
theorem km_X10_585 : Cond.methodLink RX10 585 yX10_qCode ∈ am_tb := am_in (tw_m7 103 rfl) rfl
theorem km_X10_588 : Cond.methodLink RX10 588 yX10_qIsBracket ∈ am_tb := am_in (tw_m7 147 rfl) rfl
theorem km_X10_591 : Cond.methodLink RX10 591 yX10_qDrops ∈ am_tb := am_in (tw_m7 135 rfl) rfl
theorem km_X10_594 : Cond.methodLink RX10 594 yX10_qWordHere ∈ am_tb := am_in (tw_m7 119 rfl) rfl
theorem km_X10_597 : Cond.methodLink RX10 597 yX10_isAllowed ∈ am_tb := am_in (tw_m7 123 rfl) rfl
theorem km_X10_600 : Cond.methodLink RX10 600 yX10_qWordOf ∈ am_tb := am_in (tw_m7 115 rfl) rfl
theorem km_X10_603 : Cond.methodLink RX10 603 yX10_qOpens ∈ am_tb := am_in (tw_m7 95 rfl) rfl
theorem km_X10_606 : Cond.methodLink RX10 606 yX10_qAsksWord ∈ am_tb := am_in (tw_m7 127 rfl) rfl
theorem km_X10_609 : Cond.methodLink RX10 609 yX10_qEndsPart ∈ am_tb := am_in (tw_m7 131 rfl) rfl
theorem km_X10_612 : Cond.methodLink RX10 612 yX10_qBracket ∈ am_tb := am_in (tw_m7 143 rfl) rfl
theorem km_X10_615 : Cond.methodLink RX10 615 yX10_qDropsToBracket ∈ am_tb := am_in (tw_m7 150 rfl) rfl
theorem km_X10_618 : Cond.methodLink RX10 618 yX10_qIsOn ∈ am_tb := am_in (tw_m7 154 rfl) rfl
theorem km_X10_621 : Cond.methodLink RX10 621 yX10_qPartTold ∈ am_tb := am_in (tw_m7 111 rfl) rfl
theorem km_X10_624 : Cond.methodLink RX10 624 yX10_qGoesOn ∈ am_tb := am_in (tw_m7 139 rfl) rfl
theorem km_X10_627 : Cond.methodLink RX10 627 yX10_qSums ∈ am_tb := am_in (tw_m7 107 rfl) rfl
theorem km_X10_630 : Cond.methodLink RX10 630 yX10_qFact ∈ am_tb := am_in (tw_m7 99 rfl) rfl
theorem km_X10_633 : Cond.methodLink RX10 633 yX10_qDropsNots ∈ am_tb := am_in (tw_m7 158 rfl) rfl
theorem km_X10_636 : Cond.methodLink RX10 636 yX10_qGoesOnTest ∈ am_tb := am_in (tw_m7 162 rfl) rfl
theorem km_X10_639 : Cond.methodLink RX10 639 yX10_qHasSquare ∈ am_tb := am_in (tw_m7 166 rfl) rfl
theorem km_X10_646 : Cond.methodLink RX10 646 yX10_qClip ∈ am_tb := am_in (tw_m8 69 rfl) rfl
theorem km_X10_650 : Cond.methodLink RX10 650 yX10_qFloor ∈ am_tb := am_in (tw_m8 74 rfl) rfl
theorem km_X10_654 : Cond.methodLink RX10 654 yX10_qOf ∈ am_tb := am_in (tw_m9 12 rfl) rfl
theorem km_X10_668 : Cond.methodLink RX10 668 yX10_qKind ∈ am_tb := am_in (tw_m9 3 rfl) rfl
theorem km_X10_671 : Cond.methodLink RX10 671 yX10_qTold ∈ am_tb := am_in (tw_m9 8 rfl) rfl
theorem km_X10_675 : Cond.methodLink RX10 675 yX10_qTakes ∈ am_tb := am_in (tw_m9 16 rfl) rfl
theorem km_X10_682 : Cond.methodLink RX10 682 yX10_writes ∈ am_tb := am_in (tw_m9 24 rfl) rfl
theorem km_X10_686 : Cond.methodLink RX10 686 yX10_writesSets ∈ am_tb := am_in (tw_m9 29 rfl) rfl
theorem km_X10_689 : Cond.methodLink RX10 689 yX10_checked ∈ am_tb := am_in (tw_m9 33 rfl) rfl
theorem km_X10_695 : Cond.methodLink RX10 695 yX10_coinsTold ∈ am_tb := am_in (tw_m9 57 rfl) rfl
theorem km_X10_698 : Cond.methodLink RX10 698 yX10_setsFrom ∈ am_tb := am_in (tw_m9 48 rfl) rfl
theorem km_X10_701 : Cond.methodLink RX10 701 yX10_isHeadTold ∈ am_tb := am_in (tw_m9 52 rfl) rfl
theorem km_X10_704 : Cond.methodLink RX10 704 yX10_areSetsTold ∈ am_tb := am_in (tw_m9 61 rfl) rfl
theorem km_X10_707 : Cond.methodLink RX10 707 yX10_isImage ∈ am_tb := am_in (tw_m9 44 rfl) rfl
theorem km_X10_710 : Cond.methodLink RX10 710 yX10_takesSets ∈ am_tb := am_in (tw_m9 65 rfl) rfl
theorem kk_X9_303 : Cond.constant RX9 303 (Int32.ofInt (999999)) ∈ am_tb := am_in (tw_m5 37 rfl) rfl
theorem kk_X9_310 : Cond.constantLong RX9 310 (Int64.ofInt (-1000000000000000)) ∈ am_tb := am_in (tw_m5 71 rfl) rfl
theorem kk_X9_342 : Cond.constant RX9 342 (Int32.ofInt (1000000)) ∈ am_tb := am_in (tw_m4 183 rfl) rfl
theorem kk_X9_346 : Cond.constantLong RX9 346 (Int64.ofInt (100)) ∈ am_tb := am_in (tw_m4 184 rfl) rfl
theorem kk_X9_364 : Cond.constantLong RX9 364 (Int64.ofInt (1103515245)) ∈ am_tb := am_in (tw_m5 50 rfl) rfl
theorem kk_X9_366 : Cond.constantLong RX9 366 (Int64.ofInt (12345)) ∈ am_tb := am_in (tw_m5 51 rfl) rfl
theorem kk_X9_368 : Cond.constantLong RX9 368 (Int64.ofInt (2147483647)) ∈ am_tb := am_in (tw_m5 52 rfl) rfl
theorem kk_X9_370 : Cond.constantLong RX9 370 (Int64.ofInt (64)) ∈ am_tb := am_in (tw_m5 53 rfl) rfl
theorem kk_X9_372 : Cond.constantLong RX9 372 (Int64.ofInt (1000)) ∈ am_tb := am_in (tw_m5 54 rfl) rfl
theorem kk_X9_377 : Cond.constantLong RX9 377 (Int64.ofInt (-1)) ∈ am_tb := am_in (tw_m5 80 rfl) rfl
theorem kk_X3_37 : Cond.constant RX3 37 (Int32.ofInt (65536)) ∈ am_tb := am_in (tw_m5 99 rfl) rfl
theorem kk_X3_101 : Cond.constant RX3 101 (Int32.ofInt (999999)) ∈ am_tb := am_in (tw_m5 125 rfl) rfl
theorem kk_X4_100 : Cond.constantLong RX4 100 (Int64.ofInt (255)) ∈ am_tb := am_in (tw_m3 121 rfl) rfl
theorem kk_X4_102 : Cond.constantLong RX4 102 (Int64.ofInt (16777215)) ∈ am_tb := am_in (tw_m3 122 rfl) rfl
theorem kk_X5_49 : Cond.constantLong RX5 49 (Int64.ofInt (-1000000)) ∈ am_tb := am_in (tw_m4 133 rfl) rfl
theorem kk_X5_51 : Cond.constantLong RX5 51 (Int64.ofInt (1000000)) ∈ am_tb := am_in (tw_m4 134 rfl) rfl
theorem kk_X10_302 : Cond.constantLong RX10 302 (Int64.ofInt (27)) ∈ am_tb := am_in (tw_m7 65 rfl) rfl
theorem kk_X10_304 : Cond.constantLong RX10 304 (Int64.ofInt (97)) ∈ am_tb := am_in (tw_m7 66 rfl) rfl
theorem kk_X10_479 : Cond.constantLong RX10 479 (Int64.ofInt (120)) ∈ am_tb := am_in (tw_m8 23 rfl) rfl
theorem kk_X10_493 : Cond.constantLong RX10 493 (Int64.ofInt (5)) ∈ am_tb := am_in (tw_m7 213 rfl) rfl
theorem kk_X10_507 : Cond.constantLong RX10 507 (Int64.ofInt (3)) ∈ am_tb := am_in (tw_m8 14 rfl) rfl
theorem kk_X10_512 : Cond.constantLong RX10 512 (Int64.ofInt (4)) ∈ am_tb := am_in (tw_m8 28 rfl) rfl
theorem kk_X10_526 : Cond.constantLong RX10 526 (Int64.ofInt (100)) ∈ am_tb := am_in (tw_m8 117 rfl) rfl
theorem kk_X10_546 : Cond.constantLong RX10 546 (Int64.ofInt (2)) ∈ am_tb := am_in (tw_m8 142 rfl) rfl
theorem kk_X10_554 : Cond.constantLong RX10 554 (Int64.ofInt (20)) ∈ am_tb := am_in (tw_m8 179 rfl) rfl
theorem kk_X10_565 : Cond.constantLong RX10 565 (Int64.ofInt (200)) ∈ am_tb := am_in (tw_m8 200 rfl) rfl
theorem kk_X10_573 : Cond.constant RX10 573 (Int32.ofInt (999999)) ∈ am_tb := am_in (tw_m8 217 rfl) rfl
theorem kk_X10_574 : Cond.constantLong RX10 574 (Int64.ofInt (1103515245)) ∈ am_tb := am_in (tw_m8 234 rfl) rfl
theorem kk_X10_576 : Cond.constantLong RX10 576 (Int64.ofInt (12345)) ∈ am_tb := am_in (tw_m8 235 rfl) rfl
theorem kk_X10_578 : Cond.constantLong RX10 578 (Int64.ofInt (2147483648)) ∈ am_tb := am_in (tw_m8 236 rfl) rfl
theorem kk_X10_580 : Cond.constantLong RX10 580 (Int64.ofInt (64)) ∈ am_tb := am_in (tw_m8 237 rfl) rfl
theorem kk_X10_642 : Cond.constantLong RX10 642 (Int64.ofInt (1000000)) ∈ am_tb := am_in (tw_m8 72 rfl) rfl
theorem kk_X10_644 : Cond.constantLong RX10 644 (Int64.ofInt (-1000000)) ∈ am_tb := am_in (tw_m8 73 rfl) rfl
theorem kk_X10_661 : Cond.constantLong RX10 661 (Int64.ofInt (-1)) ∈ am_tb := am_in (tw_m9 7 rfl) rfl
theorem kk_X10_666 : Cond.constantLong RX10 666 (Int64.ofInt (-1000000000000000)) ∈ am_tb := am_in (tw_m9 2 rfl) rfl
theorem kk_X10_685 : Cond.constant RX10 685 (Int32.ofInt (65536)) ∈ am_tb := am_in (tw_m9 28 rfl) rfl
theorem kk_X10_693 : Cond.constantLong RX10 693 (Int64.ofInt (999)) ∈ am_tb := am_in (tw_m9 56 rfl) rfl
theorem kk_J6_264 : Cond.constant RJ6 264 (Int32.ofInt (65536)) ∈ am_tb := am_in (tw_m4 148 rfl) rfl
theorem kk_J6_265 : Cond.constant RJ6 265 (Int32.ofInt (1431655765)) ∈ am_tb := am_in (tw_m4 29 rfl) rfl
theorem kk_J6_266 : Cond.constant RJ6 266 (Int32.ofInt (858993459)) ∈ am_tb := am_in (tw_m4 30 rfl) rfl
theorem kk_J6_267 : Cond.constant RJ6 267 (Int32.ofInt (252645135)) ∈ am_tb := am_in (tw_m4 31 rfl) rfl
theorem kl_X9_9 : Cond.classLink RX9 9 RX6 ∈ am_tb := am_in (tw_m1 29 rfl) rfl
theorem kl_X9_16 : Cond.classLink RX9 16 RX8 ∈ am_tb := am_in (tw_m1 49 rfl) rfl
theorem kl_X9_26 : Cond.classLink RX9 26 RX4 ∈ am_tb := am_in (tw_m1 152 rfl) rfl
theorem kl_X9_35 : Cond.classLink RX9 35 RX1 ∈ am_tb := am_in (tw_m1 223 rfl) rfl
theorem kl_X9_45 : Cond.classLink RX9 45 RX2 ∈ am_tb := am_in (tw_m2 47 rfl) rfl
theorem kl_X9_52 : Cond.classLink RX9 52 RX0 ∈ am_tb := am_in (tw_m2 66 rfl) rfl
theorem kl_X9_61 : Cond.classLink RX9 61 RX3 ∈ am_tb := am_in (tw_m2 121 rfl) rfl
theorem kl_X2_9 : Cond.classLink RX2 9 RX1 ∈ am_tb := am_in (tw_m2 53 rfl) rfl
theorem kl_X4_9 : Cond.classLink RX4 9 RX5 ∈ am_tb := am_in (tw_m1 158 rfl) rfl
theorem kl_X4_20 : Cond.classLink RX4 20 RX7 ∈ am_tb := am_in (tw_m1 160 rfl) rfl
theorem kl_X8_33 : Cond.classLink RX8 33 RX5 ∈ am_tb := am_in (tw_m1 55 rfl) rfl
theorem kl_L_7 : Cond.classLink "ForgottenFeastLaw" 7 RX9 ∈ am_tb := am_in (tw_m1 21 rfl) rfl
theorem kl_L_10 : Cond.classLink "ForgottenFeastLaw" 10 RX10 ∈ am_tb := am_in (tw_m5 136 rfl) rfl
theorem kn_L : Cond.initialized "ForgottenFeastLaw" ∈ am_tb := am_in (tw_m1 0 rfl) rfl
theorem kn_X9 : Cond.initialized RX9 ∈ am_tb := am_in (tw_m1 1 rfl) rfl
theorem kn_X6 : Cond.initialized RX6 ∈ am_tb := am_in (tw_m1 2 rfl) rfl
theorem kn_X8 : Cond.initialized RX8 ∈ am_tb := am_in (tw_m1 3 rfl) rfl
theorem kn_X5 : Cond.initialized RX5 ∈ am_tb := am_in (tw_m1 4 rfl) rfl
theorem kn_J9 : Cond.initialized RJ9 ∈ am_tb := am_in (tw_m1 5 rfl) rfl
theorem kn_X4 : Cond.initialized RX4 ∈ am_tb := am_in (tw_m1 6 rfl) rfl
theorem kn_X7 : Cond.initialized RX7 ∈ am_tb := am_in (tw_m1 7 rfl) rfl
theorem kn_X1 : Cond.initialized RX1 ∈ am_tb := am_in (tw_m1 8 rfl) rfl
theorem kn_X2 : Cond.initialized RX2 ∈ am_tb := am_in (tw_m1 9 rfl) rfl
theorem kn_X0 : Cond.initialized RX0 ∈ am_tb := am_in (tw_m1 10 rfl) rfl
theorem kn_X3 : Cond.initialized RX3 ∈ am_tb := am_in (tw_m1 11 rfl) rfl
theorem kn_X10 : Cond.initialized RX10 ∈ am_tb := am_in (tw_m1 12 rfl) rfl
theorem kn_J0 : Cond.initialized RJ0 ∈ am_tb := am_in (tw_m1 13 rfl) rfl
theorem kn_J1 : Cond.initialized RJ1 ∈ am_tb := am_in (tw_m1 14 rfl) rfl
theorem kn_J3 : Cond.initialized RJ3 ∈ am_tb := am_in (tw_m1 15 rfl) rfl
theorem kn_J2 : Cond.initialized RJ2 ∈ am_tb := am_in (tw_m1 16 rfl) rfl
theorem kn_J11 : Cond.initialized RJ11 ∈ am_tb := am_in (tw_m1 17 rfl) rfl
theorem kn_J7 : Cond.initialized RJ7 ∈ am_tb := am_in (tw_m1 18 rfl) rfl
theorem kn_J10 : Cond.initialized RJ10 ∈ am_tb := am_in (tw_m1 19 rfl) rfl
theorem kn_J6 : Cond.initialized RJ6 ∈ am_tb := am_in (tw_m1 20 rfl) rfl
theorem kt_X9 : Cond.instantiable RX9 17 ∈ am_tb := am_in (tw_m1 22 rfl) rfl
theorem kt_X6 : Cond.instantiable RX6 2 ∈ am_tb := am_in (tw_m1 30 rfl) rfl
theorem kt_X8 : Cond.instantiable RX8 17 ∈ am_tb := am_in (tw_m1 50 rfl) rfl
theorem kt_X5 : Cond.instantiable RX5 2 ∈ am_tb := am_in (tw_m1 56 rfl) rfl
theorem kt_X4 : Cond.instantiable RX4 13 ∈ am_tb := am_in (tw_m1 153 rfl) rfl
theorem kt_X7 : Cond.instantiable RX7 3 ∈ am_tb := am_in (tw_m1 161 rfl) rfl
theorem kt_X1 : Cond.instantiable RX1 11 ∈ am_tb := am_in (tw_m1 224 rfl) rfl
theorem kt_X2 : Cond.instantiable RX2 3 ∈ am_tb := am_in (tw_m2 48 rfl) rfl
theorem kt_X0 : Cond.instantiable RX0 14 ∈ am_tb := am_in (tw_m2 67 rfl) rfl
theorem kt_X3 : Cond.instantiable RX3 2 ∈ am_tb := am_in (tw_m2 122 rfl) rfl
theorem kt_X10 : Cond.instantiable RX10 108 ∈ am_tb := am_in (tw_m5 137 rfl) rfl
theorem ka_int : Cond.arrayClass .int ∈ am_tb := am_in (tw_m1 48 rfl) rfl
theorem ka_long : Cond.arrayClass .long ∈ am_tb := am_in (tw_m1 178 rfl) rfl
theorem ka_char : Cond.arrayClass .char ∈ am_tb := am_in (tw_m6 227 rfl) rfl
theorem ki_obj : Cond.instanceMethod objectInit ∈ am_tb := am_in (tw_m1 27 rfl) rfl
theorem kc_obj : Cond.code objectInit ⟨#[0xb1]⟩ 1 none ∈ am_tb := am_in (tw_m1 28 rfl) rfl
theorem kna_copy : Cond.native arraycopyName ∈ am_tb := am_in (tw_m3 234 rfl) rfl
theorem kst_copy : Cond.static arraycopyName ∈ am_tb := am_in (tw_m3 233 rfl) rfl
theorem kc_X9_init : Cond.code yX9_init cX9_init 1 none ∈ am_tb := am_in (tw_m1 25 rfl) rfl
theorem kd_X9_init : yX9_init.cls ≠ "java/lang/invoke/MethodHandle" ∧ yX9_init.cls ≠ "java/lang/invoke/VarHandle" ∧ (parseMethodDescriptor yX9_init.desc).map (fun d => d.parameters.length) = some 0 := by decide +kernel
theorem ki_X9_init : Cond.instanceMethod yX9_init ∈ am_tb := am_in (tw_m1 24 rfl) rfl
theorem kc_X9_answerOf : Cond.code yX9_answerOf cX9_answerOf 6 (some .long) ∈ am_tb := am_in (tw_m5 79 rfl) rfl
theorem kd_X9_answerOf : yX9_answerOf.cls ≠ "java/lang/invoke/MethodHandle" ∧ yX9_answerOf.cls ≠ "java/lang/invoke/VarHandle" ∧ (parseMethodDescriptor yX9_answerOf.desc).map (fun d => d.parameters.length) = some 1 := by decide +kernel
theorem ki_X9_answerOf : Cond.instanceMethod yX9_answerOf ∈ am_tb := am_in (tw_m5 78 rfl) rfl
theorem ks_X9_answerOf : Cond.selects RX9 yX9_answerOf yX9_answerOf ∈ am_tb := am_inS 71 rfl rfl
theorem kc_X9_ask : Cond.code yX9_ask cX9_ask 3 (some .long) ∈ am_tb := am_in (tw_m5 70 rfl) rfl
theorem kd_X9_ask : yX9_ask.cls ≠ "java/lang/invoke/MethodHandle" ∧ yX9_ask.cls ≠ "java/lang/invoke/VarHandle" ∧ (parseMethodDescriptor yX9_ask.desc).map (fun d => d.parameters.length) = some 1 := by decide +kernel
theorem ki_X9_ask : Cond.instanceMethod yX9_ask ∈ am_tb := am_in (tw_m5 68 rfl) rfl
theorem ks_X9_ask : Cond.selects RX9 yX9_ask yX9_ask ∈ am_tb := am_in (tw_m5 69 rfl) rfl
theorem kc_X9_bit : Cond.code yX9_bit cX9_bit 2 (some .int) ∈ am_tb := am_in (tw_m3 172 rfl) rfl
theorem kd_X9_bit : yX9_bit.cls ≠ "java/lang/invoke/MethodHandle" ∧ yX9_bit.cls ≠ "java/lang/invoke/VarHandle" ∧ (parseMethodDescriptor yX9_bit.desc).map (fun d => d.parameters.length) = some 2 := by decide +kernel
theorem ki_X9_bit : Cond.static yX9_bit ∈ am_tb := am_in (tw_m3 171 rfl) rfl
theorem kc_X9_bribe : Cond.code yX9_bribe cX9_bribe 3 (some .int) ∈ am_tb := am_in (tw_m5 36 rfl) rfl
theorem kd_X9_bribe : yX9_bribe.cls ≠ "java/lang/invoke/MethodHandle" ∧ yX9_bribe.cls ≠ "java/lang/invoke/VarHandle" ∧ (parseMethodDescriptor yX9_bribe.desc).map (fun d => d.parameters.length) = some 2 := by decide +kernel
theorem ki_X9_bribe : Cond.instanceMethod yX9_bribe ∈ am_tb := am_in (tw_m5 34 rfl) rfl
theorem ks_X9_bribe : Cond.selects RX9 yX9_bribe yX9_bribe ∈ am_tb := am_in (tw_m5 35 rfl) rfl
theorem kc_X9_canBeSilenced : Cond.code yX9_canBeSilenced cX9_canBeSilenced 7 (some .boolean) ∈ am_tb := am_in (tw_m4 212 rfl) rfl
theorem kd_X9_canBeSilenced : yX9_canBeSilenced.cls ≠ "java/lang/invoke/MethodHandle" ∧ yX9_canBeSilenced.cls ≠ "java/lang/invoke/VarHandle" ∧ (parseMethodDescriptor yX9_canBeSilenced.desc).map (fun d => d.parameters.length) = some 5 := by decide +kernel
theorem ki_X9_canBeSilenced : Cond.static yX9_canBeSilenced ∈ am_tb := am_in (tw_m4 211 rfl) rfl
theorem kc_X9_chance : Cond.code yX9_chance cX9_chance 4 (some .int) ∈ am_tb := am_in (tw_m5 45 rfl) rfl
theorem kd_X9_chance : yX9_chance.cls ≠ "java/lang/invoke/MethodHandle" ∧ yX9_chance.cls ≠ "java/lang/invoke/VarHandle" ∧ (parseMethodDescriptor yX9_chance.desc).map (fun d => d.parameters.length) = some 1 := by decide +kernel
theorem ki_X9_chance : Cond.instanceMethod yX9_chance ∈ am_tb := am_in (tw_m5 43 rfl) rfl
theorem ks_X9_chance : Cond.selects RX9 yX9_chance yX9_chance ∈ am_tb := am_in (tw_m5 44 rfl) rfl
theorem kc_X9_chanceOfNobody : Cond.code yX9_chanceOfNobody cX9_chanceOfNobody 8 (some .int) ∈ am_tb := am_in (tw_m4 182 rfl) rfl
theorem kd_X9_chanceOfNobody : yX9_chanceOfNobody.cls ≠ "java/lang/invoke/MethodHandle" ∧ yX9_chanceOfNobody.cls ≠ "java/lang/invoke/VarHandle" ∧ (parseMethodDescriptor yX9_chanceOfNobody.desc).map (fun d => d.parameters.length) = some 1 := by decide +kernel
theorem ki_X9_chanceOfNobody : Cond.instanceMethod yX9_chanceOfNobody ∈ am_tb := am_in (tw_m4 181 rfl) rfl
theorem ks_X9_chanceOfNobody : Cond.selects RX9 yX9_chanceOfNobody yX9_chanceOfNobody ∈ am_tb := am_inS 58 rfl rfl
theorem kc_X9_cheapest : Cond.code yX9_cheapest cX9_cheapest 7 (some .int) ∈ am_tb := am_in (tw_m4 196 rfl) rfl
theorem kd_X9_cheapest : yX9_cheapest.cls ≠ "java/lang/invoke/MethodHandle" ∧ yX9_cheapest.cls ≠ "java/lang/invoke/VarHandle" ∧ (parseMethodDescriptor yX9_cheapest.desc).map (fun d => d.parameters.length) = some 1 := by decide +kernel
theorem ki_X9_cheapest : Cond.instanceMethod yX9_cheapest ∈ am_tb := am_in (tw_m4 194 rfl) rfl
theorem ks_X9_cheapest : Cond.selects RX9 yX9_cheapest yX9_cheapest ∈ am_tb := am_in (tw_m4 195 rfl) rfl
theorem kc_X9_costs : Cond.code yX9_costs cX9_costs 2 (some .int) ∈ am_tb := am_in (tw_m4 188 rfl) rfl
theorem kd_X9_costs : yX9_costs.cls ≠ "java/lang/invoke/MethodHandle" ∧ yX9_costs.cls ≠ "java/lang/invoke/VarHandle" ∧ (parseMethodDescriptor yX9_costs.desc).map (fun d => d.parameters.length) = some 1 := by decide +kernel
theorem ki_X9_costs : Cond.instanceMethod yX9_costs ∈ am_tb := am_in (tw_m4 186 rfl) rfl
theorem ks_X9_costs : Cond.selects RX9 yX9_costs yX9_costs ∈ am_tb := am_in (tw_m4 187 rfl) rfl
theorem kc_X9_countBits : Cond.code yX9_countBits cX9_countBits 6 (some .int) ∈ am_tb := am_in (tw_m4 34 rfl) rfl
theorem kd_X9_countBits : yX9_countBits.cls ≠ "java/lang/invoke/MethodHandle" ∧ yX9_countBits.cls ≠ "java/lang/invoke/VarHandle" ∧ (parseMethodDescriptor yX9_countBits.desc).map (fun d => d.parameters.length) = some 1 := by decide +kernel
theorem ki_X9_countBits : Cond.static yX9_countBits ∈ am_tb := am_in (tw_m4 33 rfl) rfl
theorem kc_X9_day : Cond.code yX9_day cX9_day 3 (some .int) ∈ am_tb := am_in (tw_m4 55 rfl) rfl
theorem kd_X9_day : yX9_day.cls ≠ "java/lang/invoke/MethodHandle" ∧ yX9_day.cls ≠ "java/lang/invoke/VarHandle" ∧ (parseMethodDescriptor yX9_day.desc).map (fun d => d.parameters.length) = some 2 := by decide +kernel
theorem ki_X9_day : Cond.instanceMethod yX9_day ∈ am_tb := am_in (tw_m4 53 rfl) rfl
theorem ks_X9_day : Cond.selects RX9 yX9_day yX9_day ∈ am_tb := am_in (tw_m4 54 rfl) rfl
theorem kc_X9_daysToldOff : Cond.code yX9_daysToldOff cX9_daysToldOff 4 (some .int) ∈ am_tb := am_in (tw_m4 51 rfl) rfl
theorem kd_X9_daysToldOff : yX9_daysToldOff.cls ≠ "java/lang/invoke/MethodHandle" ∧ yX9_daysToldOff.cls ≠ "java/lang/invoke/VarHandle" ∧ (parseMethodDescriptor yX9_daysToldOff.desc).map (fun d => d.parameters.length) = some 1 := by decide +kernel
theorem ki_X9_daysToldOff : Cond.instanceMethod yX9_daysToldOff ∈ am_tb := am_in (tw_m4 50 rfl) rfl
theorem ks_X9_daysToldOff : Cond.selects RX9 yX9_daysToldOff yX9_daysToldOff ∈ am_tb := am_inS 43 rfl rfl
theorem kc_X9_dies : Cond.code yX9_dies cX9_dies 2 (some .boolean) ∈ am_tb := am_in (tw_m5 41 rfl) rfl
theorem kd_X9_dies : yX9_dies.cls ≠ "java/lang/invoke/MethodHandle" ∧ yX9_dies.cls ≠ "java/lang/invoke/VarHandle" ∧ (parseMethodDescriptor yX9_dies.desc).map (fun d => d.parameters.length) = some 1 := by decide +kernel
theorem ki_X9_dies : Cond.instanceMethod yX9_dies ∈ am_tb := am_in (tw_m5 39 rfl) rfl
theorem ks_X9_dies : Cond.selects RX9 yX9_dies yX9_dies ∈ am_tb := am_in (tw_m5 40 rfl) rfl
theorem kc_X9_drawDeaths : Cond.code yX9_drawDeaths cX9_drawDeaths 2 none ∈ am_tb := am_in (tw_m5 49 rfl) rfl
theorem kd_X9_drawDeaths : yX9_drawDeaths.cls ≠ "java/lang/invoke/MethodHandle" ∧ yX9_drawDeaths.cls ≠ "java/lang/invoke/VarHandle" ∧ (parseMethodDescriptor yX9_drawDeaths.desc).map (fun d => d.parameters.length) = some 0 := by decide +kernel
theorem ki_X9_drawDeaths : Cond.instanceMethod yX9_drawDeaths ∈ am_tb := am_in (tw_m5 48 rfl) rfl
theorem ks_X9_drawDeaths : Cond.selects RX9 yX9_drawDeaths yX9_drawDeaths ∈ am_tb := am_inS 68 rfl rfl
theorem kc_X9_end : Cond.code yX9_end cX9_end 2 (some .boolean) ∈ am_tb := am_in (tw_m2 203 rfl) rfl
theorem kd_X9_end : yX9_end.cls ≠ "java/lang/invoke/MethodHandle" ∧ yX9_end.cls ≠ "java/lang/invoke/VarHandle" ∧ (parseMethodDescriptor yX9_end.desc).map (fun d => d.parameters.length) = some 1 := by decide +kernel
theorem ki_X9_end : Cond.instanceMethod yX9_end ∈ am_tb := am_in (tw_m2 201 rfl) rfl
theorem ks_X9_end : Cond.selects RX9 yX9_end yX9_end ∈ am_tb := am_in (tw_m2 202 rfl) rfl
theorem kc_X9_enough : Cond.code yX9_enough cX9_enough 6 (some .int) ∈ am_tb := am_in (tw_m4 200 rfl) rfl
theorem kd_X9_enough : yX9_enough.cls ≠ "java/lang/invoke/MethodHandle" ∧ yX9_enough.cls ≠ "java/lang/invoke/VarHandle" ∧ (parseMethodDescriptor yX9_enough.desc).map (fun d => d.parameters.length) = some 1 := by decide +kernel
theorem ki_X9_enough : Cond.instanceMethod yX9_enough ∈ am_tb := am_in (tw_m4 198 rfl) rfl
theorem ks_X9_enough : Cond.selects RX9 yX9_enough yX9_enough ∈ am_tb := am_in (tw_m4 199 rfl) rfl
theorem kc_X9_fault : Cond.code yX9_fault cX9_fault 2 (some .int) ∈ am_tb := am_in (tw_m4 13 rfl) rfl
theorem kd_X9_fault : yX9_fault.cls ≠ "java/lang/invoke/MethodHandle" ∧ yX9_fault.cls ≠ "java/lang/invoke/VarHandle" ∧ (parseMethodDescriptor yX9_fault.desc).map (fun d => d.parameters.length) = some 1 := by decide +kernel
theorem ki_X9_fault : Cond.instanceMethod yX9_fault ∈ am_tb := am_in (tw_m4 11 rfl) rfl
theorem ks_X9_fault : Cond.selects RX9 yX9_fault yX9_fault ∈ am_tb := am_in (tw_m4 12 rfl) rfl
theorem kc_X9_feed : Cond.code yX9_feed cX9_feed 6 (some .int) ∈ am_tb := am_in (tw_m2 191 rfl) rfl
theorem kd_X9_feed : yX9_feed.cls ≠ "java/lang/invoke/MethodHandle" ∧ yX9_feed.cls ≠ "java/lang/invoke/VarHandle" ∧ (parseMethodDescriptor yX9_feed.desc).map (fun d => d.parameters.length) = some 5 := by decide +kernel
theorem ki_X9_feed : Cond.instanceMethod yX9_feed ∈ am_tb := am_in (tw_m2 189 rfl) rfl
theorem ks_X9_feed : Cond.selects RX9 yX9_feed yX9_feed ∈ am_tb := am_in (tw_m2 190 rfl) rfl
theorem kc_X9_first : Cond.code yX9_first cX9_first 4 (some .int) ∈ am_tb := am_in (tw_m4 161 rfl) rfl
theorem kd_X9_first : yX9_first.cls ≠ "java/lang/invoke/MethodHandle" ∧ yX9_first.cls ≠ "java/lang/invoke/VarHandle" ∧ (parseMethodDescriptor yX9_first.desc).map (fun d => d.parameters.length) = some 1 := by decide +kernel
theorem ki_X9_first : Cond.instanceMethod yX9_first ∈ am_tb := am_in (tw_m4 159 rfl) rfl
theorem ks_X9_first : Cond.selects RX9 yX9_first yX9_first ∈ am_tb := am_in (tw_m4 160 rfl) rfl
theorem kc_X9_foresee : Cond.code yX9_foresee cX9_foresee 3 (some .boolean) ∈ am_tb := am_in (tw_m4 87 rfl) rfl
theorem kd_X9_foresee : yX9_foresee.cls ≠ "java/lang/invoke/MethodHandle" ∧ yX9_foresee.cls ≠ "java/lang/invoke/VarHandle" ∧ (parseMethodDescriptor yX9_foresee.desc).map (fun d => d.parameters.length) = some 1 := by decide +kernel
theorem ki_X9_foresee : Cond.instanceMethod yX9_foresee ∈ am_tb := am_in (tw_m4 86 rfl) rfl
theorem ks_X9_foresee : Cond.selects RX9 yX9_foresee yX9_foresee ∈ am_tb := am_inS 46 rfl rfl
theorem kc_X9_go : Cond.code yX9_go cX9_go 4 (some .int) ∈ am_tb := am_in (tw_m5 14 rfl) rfl
theorem kd_X9_go : yX9_go.cls ≠ "java/lang/invoke/MethodHandle" ∧ yX9_go.cls ≠ "java/lang/invoke/VarHandle" ∧ (parseMethodDescriptor yX9_go.desc).map (fun d => d.parameters.length) = some 1 := by decide +kernel
theorem ki_X9_go : Cond.instanceMethod yX9_go ∈ am_tb := am_in (tw_m5 12 rfl) rfl
theorem ks_X9_go : Cond.selects RX9 yX9_go yX9_go ∈ am_tb := am_in (tw_m5 13 rfl) rfl
theorem kc_X9_hangs : Cond.code yX9_hangs cX9_hangs 2 (some .int) ∈ am_tb := am_in (tw_m4 166 rfl) rfl
theorem kd_X9_hangs : yX9_hangs.cls ≠ "java/lang/invoke/MethodHandle" ∧ yX9_hangs.cls ≠ "java/lang/invoke/VarHandle" ∧ (parseMethodDescriptor yX9_hangs.desc).map (fun d => d.parameters.length) = some 1 := by decide +kernel
theorem ki_X9_hangs : Cond.instanceMethod yX9_hangs ∈ am_tb := am_in (tw_m4 164 rfl) rfl
theorem ks_X9_hangs : Cond.selects RX9 yX9_hangs yX9_hangs ∈ am_tb := am_in (tw_m4 165 rfl) rfl
theorem kc_X9_hangsOn : Cond.code yX9_hangsOn cX9_hangsOn 1 (some .int) ∈ am_tb := am_in (tw_m4 170 rfl) rfl
theorem kd_X9_hangsOn : yX9_hangsOn.cls ≠ "java/lang/invoke/MethodHandle" ∧ yX9_hangsOn.cls ≠ "java/lang/invoke/VarHandle" ∧ (parseMethodDescriptor yX9_hangsOn.desc).map (fun d => d.parameters.length) = some 0 := by decide +kernel
theorem ki_X9_hangsOn : Cond.instanceMethod yX9_hangsOn ∈ am_tb := am_in (tw_m4 169 rfl) rfl
theorem ks_X9_hangsOn : Cond.selects RX9 yX9_hangsOn yX9_hangsOn ∈ am_tb := am_inS 57 rfl rfl
theorem kc_X9_has : Cond.code yX9_has cX9_has 2 (some .int) ∈ am_tb := am_in (tw_m4 17 rfl) rfl
theorem kd_X9_has : yX9_has.cls ≠ "java/lang/invoke/MethodHandle" ∧ yX9_has.cls ≠ "java/lang/invoke/VarHandle" ∧ (parseMethodDescriptor yX9_has.desc).map (fun d => d.parameters.length) = some 1 := by decide +kernel
theorem ki_X9_has : Cond.instanceMethod yX9_has ∈ am_tb := am_in (tw_m4 15 rfl) rfl
theorem ks_X9_has : Cond.selects RX9 yX9_has yX9_has ∈ am_tb := am_in (tw_m4 16 rfl) rfl
theorem kc_X9_hours : Cond.code yX9_hours cX9_hours 6 (some .int) ∈ am_tb := am_in (tw_m4 232 rfl) rfl
theorem kd_X9_hours : yX9_hours.cls ≠ "java/lang/invoke/MethodHandle" ∧ yX9_hours.cls ≠ "java/lang/invoke/VarHandle" ∧ (parseMethodDescriptor yX9_hours.desc).map (fun d => d.parameters.length) = some 1 := by decide +kernel
theorem ki_X9_hours : Cond.instanceMethod yX9_hours ∈ am_tb := am_in (tw_m4 230 rfl) rfl
theorem ks_X9_hours : Cond.selects RX9 yX9_hours yX9_hours ∈ am_tb := am_in (tw_m4 231 rfl) rfl
theorem kc_X9_hoursFrom : Cond.code yX9_hoursFrom cX9_hoursFrom 7 (some .int) ∈ am_tb := am_in (tw_m4 236 rfl) rfl
theorem kd_X9_hoursFrom : yX9_hoursFrom.cls ≠ "java/lang/invoke/MethodHandle" ∧ yX9_hoursFrom.cls ≠ "java/lang/invoke/VarHandle" ∧ (parseMethodDescriptor yX9_hoursFrom.desc).map (fun d => d.parameters.length) = some 2 := by decide +kernel
theorem ki_X9_hoursFrom : Cond.instanceMethod yX9_hoursFrom ∈ am_tb := am_in (tw_m4 235 rfl) rfl
theorem ks_X9_hoursFrom : Cond.selects RX9 yX9_hoursFrom yX9_hoursFrom ∈ am_tb := am_inS 62 rfl rfl
theorem kc_X9_image : Cond.code yX9_image cX9_image 1 (some .int) ∈ am_tb := am_in (tw_m5 90 rfl) rfl
theorem kd_X9_image : yX9_image.cls ≠ "java/lang/invoke/MethodHandle" ∧ yX9_image.cls ≠ "java/lang/invoke/VarHandle" ∧ (parseMethodDescriptor yX9_image.desc).map (fun d => d.parameters.length) = some 0 := by decide +kernel
theorem ki_X9_image : Cond.instanceMethod yX9_image ∈ am_tb := am_in (tw_m5 88 rfl) rfl
theorem ks_X9_image : Cond.selects RX9 yX9_image yX9_image ∈ am_tb := am_in (tw_m5 89 rfl) rfl
theorem kc_X9_isAhead : Cond.code yX9_isAhead cX9_isAhead 2 (some .boolean) ∈ am_tb := am_in (tw_m4 91 rfl) rfl
theorem kd_X9_isAhead : yX9_isAhead.cls ≠ "java/lang/invoke/MethodHandle" ∧ yX9_isAhead.cls ≠ "java/lang/invoke/VarHandle" ∧ (parseMethodDescriptor yX9_isAhead.desc).map (fun d => d.parameters.length) = some 1 := by decide +kernel
theorem ki_X9_isAhead : Cond.instanceMethod yX9_isAhead ∈ am_tb := am_in (tw_m4 90 rfl) rfl
theorem ks_X9_isAhead : Cond.selects RX9 yX9_isAhead yX9_isAhead ∈ am_tb := am_inS 47 rfl rfl
theorem kc_X9_isAsSeen : Cond.code yX9_isAsSeen cX9_isAsSeen 3 (some .boolean) ∈ am_tb := am_in (tw_m4 228 rfl) rfl
theorem kd_X9_isAsSeen : yX9_isAsSeen.cls ≠ "java/lang/invoke/MethodHandle" ∧ yX9_isAsSeen.cls ≠ "java/lang/invoke/VarHandle" ∧ (parseMethodDescriptor yX9_isAsSeen.desc).map (fun d => d.parameters.length) = some 1 := by decide +kernel
theorem ki_X9_isAsSeen : Cond.instanceMethod yX9_isAsSeen ∈ am_tb := am_in (tw_m4 227 rfl) rfl
theorem ks_X9_isAsSeen : Cond.selects RX9 yX9_isAsSeen yX9_isAsSeen ∈ am_tb := am_inS 61 rfl rfl
theorem kc_X9_isDay : Cond.code yX9_isDay cX9_isDay 2 (some .boolean) ∈ am_tb := am_in (tw_m4 59 rfl) rfl
theorem kd_X9_isDay : yX9_isDay.cls ≠ "java/lang/invoke/MethodHandle" ∧ yX9_isDay.cls ≠ "java/lang/invoke/VarHandle" ∧ (parseMethodDescriptor yX9_isDay.desc).map (fun d => d.parameters.length) = some 1 := by decide +kernel
theorem ki_X9_isDay : Cond.instanceMethod yX9_isDay ∈ am_tb := am_in (tw_m4 58 rfl) rfl
theorem ks_X9_isDay : Cond.selects RX9 yX9_isDay yX9_isDay ∈ am_tb := am_inS 44 rfl rfl
theorem kc_X9_isLaw : Cond.code yX9_isLaw cX9_isLaw 7 (some .boolean) ∈ am_tb := am_in (tw_m5 5 rfl) rfl
theorem kd_X9_isLaw : yX9_isLaw.cls ≠ "java/lang/invoke/MethodHandle" ∧ yX9_isLaw.cls ≠ "java/lang/invoke/VarHandle" ∧ (parseMethodDescriptor yX9_isLaw.desc).map (fun d => d.parameters.length) = some 1 := by decide +kernel
theorem ki_X9_isLaw : Cond.instanceMethod yX9_isLaw ∈ am_tb := am_in (tw_m5 4 rfl) rfl
theorem ks_X9_isLaw : Cond.selects RX9 yX9_isLaw yX9_isLaw ∈ am_tb := am_inS 63 rfl rfl
theorem kc_X9_isPerson : Cond.code yX9_isPerson cX9_isPerson 2 (some .boolean) ∈ am_tb := am_in (tw_m4 42 rfl) rfl
theorem kd_X9_isPerson : yX9_isPerson.cls ≠ "java/lang/invoke/MethodHandle" ∧ yX9_isPerson.cls ≠ "java/lang/invoke/VarHandle" ∧ (parseMethodDescriptor yX9_isPerson.desc).map (fun d => d.parameters.length) = some 1 := by decide +kernel
theorem ki_X9_isPerson : Cond.instanceMethod yX9_isPerson ∈ am_tb := am_in (tw_m4 41 rfl) rfl
theorem ks_X9_isPerson : Cond.selects RX9 yX9_isPerson yX9_isPerson ∈ am_tb := am_inS 42 rfl rfl
theorem kc_X9_isSight : Cond.code yX9_isSight cX9_isSight 4 (some .boolean) ∈ am_tb := am_in (tw_m4 220 rfl) rfl
theorem kd_X9_isSight : yX9_isSight.cls ≠ "java/lang/invoke/MethodHandle" ∧ yX9_isSight.cls ≠ "java/lang/invoke/VarHandle" ∧ (parseMethodDescriptor yX9_isSight.desc).map (fun d => d.parameters.length) = some 0 := by decide +kernel
theorem ki_X9_isSight : Cond.instanceMethod yX9_isSight ∈ am_tb := am_in (tw_m4 219 rfl) rfl
theorem ks_X9_isSight : Cond.selects RX9 yX9_isSight yX9_isSight ∈ am_tb := am_inS 60 rfl rfl
theorem kc_X9_kept : Cond.code yX9_kept cX9_kept 4 (some .int) ∈ am_tb := am_in (tw_m4 63 rfl) rfl
theorem kd_X9_kept : yX9_kept.cls ≠ "java/lang/invoke/MethodHandle" ∧ yX9_kept.cls ≠ "java/lang/invoke/VarHandle" ∧ (parseMethodDescriptor yX9_kept.desc).map (fun d => d.parameters.length) = some 2 := by decide +kernel
theorem ki_X9_kept : Cond.instanceMethod yX9_kept ∈ am_tb := am_in (tw_m4 61 rfl) rfl
theorem ks_X9_kept : Cond.selects RX9 yX9_kept yX9_kept ∈ am_tb := am_in (tw_m4 62 rfl) rfl
theorem kc_X9_later : Cond.code yX9_later cX9_later 3 (some .int) ∈ am_tb := am_in (tw_m4 83 rfl) rfl
theorem kd_X9_later : yX9_later.cls ≠ "java/lang/invoke/MethodHandle" ∧ yX9_later.cls ≠ "java/lang/invoke/VarHandle" ∧ (parseMethodDescriptor yX9_later.desc).map (fun d => d.parameters.length) = some 2 := by decide +kernel
theorem ki_X9_later : Cond.instanceMethod yX9_later ∈ am_tb := am_in (tw_m4 81 rfl) rfl
theorem ks_X9_later : Cond.selects RX9 yX9_later yX9_later ∈ am_tb := am_in (tw_m4 82 rfl) rfl
theorem kc_X9_law : Cond.code yX9_law cX9_law 6 (some .int) ∈ am_tb := am_in (tw_m5 1 rfl) rfl
theorem kd_X9_law : yX9_law.cls ≠ "java/lang/invoke/MethodHandle" ∧ yX9_law.cls ≠ "java/lang/invoke/VarHandle" ∧ (parseMethodDescriptor yX9_law.desc).map (fun d => d.parameters.length) = some 1 := by decide +kernel
theorem ki_X9_law : Cond.instanceMethod yX9_law ∈ am_tb := am_in (tw_m4 239 rfl) rfl
theorem ks_X9_law : Cond.selects RX9 yX9_law yX9_law ∈ am_tb := am_in (tw_m5 0 rfl) rfl
theorem kc_X9_letter : Cond.code yX9_letter cX9_letter 3 (some .int) ∈ am_tb := am_in (tw_m4 38 rfl) rfl
theorem kd_X9_letter : yX9_letter.cls ≠ "java/lang/invoke/MethodHandle" ∧ yX9_letter.cls ≠ "java/lang/invoke/VarHandle" ∧ (parseMethodDescriptor yX9_letter.desc).map (fun d => d.parameters.length) = some 2 := by decide +kernel
theorem ki_X9_letter : Cond.instanceMethod yX9_letter ∈ am_tb := am_in (tw_m4 36 rfl) rfl
theorem ks_X9_letter : Cond.selects RX9 yX9_letter yX9_letter ∈ am_tb := am_in (tw_m4 37 rfl) rfl
theorem kc_X9_liveOneDay : Cond.code yX9_liveOneDay cX9_liveOneDay 1 (some .int) ∈ am_tb := am_in (tw_m5 24 rfl) rfl
theorem kd_X9_liveOneDay : yX9_liveOneDay.cls ≠ "java/lang/invoke/MethodHandle" ∧ yX9_liveOneDay.cls ≠ "java/lang/invoke/VarHandle" ∧ (parseMethodDescriptor yX9_liveOneDay.desc).map (fun d => d.parameters.length) = some 0 := by decide +kernel
theorem ki_X9_liveOneDay : Cond.instanceMethod yX9_liveOneDay ∈ am_tb := am_in (tw_m5 23 rfl) rfl
theorem ks_X9_liveOneDay : Cond.selects RX9 yX9_liveOneDay yX9_liveOneDay ∈ am_tb := am_inS 66 rfl rfl
theorem kc_X9_living : Cond.code yX9_living cX9_living 1 (some .int) ∈ am_tb := am_in (tw_m4 21 rfl) rfl
theorem kd_X9_living : yX9_living.cls ≠ "java/lang/invoke/MethodHandle" ∧ yX9_living.cls ≠ "java/lang/invoke/VarHandle" ∧ (parseMethodDescriptor yX9_living.desc).map (fun d => d.parameters.length) = some 0 := by decide +kernel
theorem ki_X9_living : Cond.instanceMethod yX9_living ∈ am_tb := am_in (tw_m4 20 rfl) rfl
theorem ks_X9_living : Cond.selects RX9 yX9_living yX9_living ∈ am_tb := am_inS 40 rfl rfl
theorem kc_X9_noteFault : Cond.code yX9_noteFault cX9_noteFault 1 none ∈ am_tb := am_in (tw_m3 238 rfl) rfl
theorem kd_X9_noteFault : yX9_noteFault.cls ≠ "java/lang/invoke/MethodHandle" ∧ yX9_noteFault.cls ≠ "java/lang/invoke/VarHandle" ∧ (parseMethodDescriptor yX9_noteFault.desc).map (fun d => d.parameters.length) = some 0 := by decide +kernel
theorem ki_X9_noteFault : Cond.instanceMethod yX9_noteFault ∈ am_tb := am_in (tw_m3 237 rfl) rfl
theorem ks_X9_noteFault : Cond.selects RX9 yX9_noteFault yX9_noteFault ∈ am_tb := am_inS 37 rfl rfl
theorem kc_X9_octet : Cond.code yX9_octet cX9_octet 2 (some .int) ∈ am_tb := am_in (tw_m5 112 rfl) rfl
theorem kd_X9_octet : yX9_octet.cls ≠ "java/lang/invoke/MethodHandle" ∧ yX9_octet.cls ≠ "java/lang/invoke/VarHandle" ∧ (parseMethodDescriptor yX9_octet.desc).map (fun d => d.parameters.length) = some 1 := by decide +kernel
theorem ki_X9_octet : Cond.instanceMethod yX9_octet ∈ am_tb := am_in (tw_m5 110 rfl) rfl
theorem ks_X9_octet : Cond.selects RX9 yX9_octet yX9_octet ∈ am_tb := am_in (tw_m5 111 rfl) rfl
theorem kc_X9_on : Cond.code yX9_on cX9_on 2 (some .boolean) ∈ am_tb := am_in (tw_m5 116 rfl) rfl
theorem kd_X9_on : yX9_on.cls ≠ "java/lang/invoke/MethodHandle" ∧ yX9_on.cls ≠ "java/lang/invoke/VarHandle" ∧ (parseMethodDescriptor yX9_on.desc).map (fun d => d.parameters.length) = some 0 := by decide +kernel
theorem ki_X9_on : Cond.instanceMethod yX9_on ∈ am_tb := am_in (tw_m5 114 rfl) rfl
theorem ks_X9_on : Cond.selects RX9 yX9_on yX9_on ∈ am_tb := am_in (tw_m5 115 rfl) rfl
theorem kc_X9_person : Cond.code yX9_person cX9_person 3 (some .int) ∈ am_tb := am_in (tw_m4 46 rfl) rfl
theorem kd_X9_person : yX9_person.cls ≠ "java/lang/invoke/MethodHandle" ∧ yX9_person.cls ≠ "java/lang/invoke/VarHandle" ∧ (parseMethodDescriptor yX9_person.desc).map (fun d => d.parameters.length) = some 2 := by decide +kernel
theorem ki_X9_person : Cond.instanceMethod yX9_person ∈ am_tb := am_in (tw_m4 44 rfl) rfl
theorem ks_X9_person : Cond.selects RX9 yX9_person yX9_person ∈ am_tb := am_in (tw_m4 45 rfl) rfl
theorem kc_X9_priceOf : Cond.code yX9_priceOf cX9_priceOf 4 (some .int) ∈ am_tb := am_in (tw_m4 192 rfl) rfl
theorem kd_X9_priceOf : yX9_priceOf.cls ≠ "java/lang/invoke/MethodHandle" ∧ yX9_priceOf.cls ≠ "java/lang/invoke/VarHandle" ∧ (parseMethodDescriptor yX9_priceOf.desc).map (fun d => d.parameters.length) = some 1 := by decide +kernel
theorem ki_X9_priceOf : Cond.instanceMethod yX9_priceOf ∈ am_tb := am_in (tw_m4 191 rfl) rfl
theorem ks_X9_priceOf : Cond.selects RX9 yX9_priceOf yX9_priceOf ∈ am_tb := am_inS 59 rfl rfl
theorem kc_X9_refuse : Cond.code yX9_refuse cX9_refuse 2 (some .int) ∈ am_tb := am_in (tw_m2 195 rfl) rfl
theorem kd_X9_refuse : yX9_refuse.cls ≠ "java/lang/invoke/MethodHandle" ∧ yX9_refuse.cls ≠ "java/lang/invoke/VarHandle" ∧ (parseMethodDescriptor yX9_refuse.desc).map (fun d => d.parameters.length) = some 1 := by decide +kernel
theorem ki_X9_refuse : Cond.instanceMethod yX9_refuse ∈ am_tb := am_in (tw_m2 194 rfl) rfl
theorem ks_X9_refuse : Cond.selects RX9 yX9_refuse yX9_refuse ∈ am_tb := am_inS 0 rfl rfl
theorem kc_X9_see : Cond.code yX9_see cX9_see 4 (some .int) ∈ am_tb := am_in (tw_m4 216 rfl) rfl
theorem kd_X9_see : yX9_see.cls ≠ "java/lang/invoke/MethodHandle" ∧ yX9_see.cls ≠ "java/lang/invoke/VarHandle" ∧ (parseMethodDescriptor yX9_see.desc).map (fun d => d.parameters.length) = some 0 := by decide +kernel
theorem ki_X9_see : Cond.instanceMethod yX9_see ∈ am_tb := am_in (tw_m4 214 rfl) rfl
theorem ks_X9_see : Cond.selects RX9 yX9_see yX9_see ∈ am_tb := am_in (tw_m4 215 rfl) rfl
theorem kc_X9_seed : Cond.code yX9_seed cX9_seed 2 (some .boolean) ∈ am_tb := am_in (tw_m5 66 rfl) rfl
theorem kd_X9_seed : yX9_seed.cls ≠ "java/lang/invoke/MethodHandle" ∧ yX9_seed.cls ≠ "java/lang/invoke/VarHandle" ∧ (parseMethodDescriptor yX9_seed.desc).map (fun d => d.parameters.length) = some 1 := by decide +kernel
theorem ki_X9_seed : Cond.instanceMethod yX9_seed ∈ am_tb := am_in (tw_m5 64 rfl) rfl
theorem ks_X9_seed : Cond.selects RX9 yX9_seed yX9_seed ∈ am_tb := am_in (tw_m5 65 rfl) rfl
theorem kc_X9_slips : Cond.code yX9_slips cX9_slips 2 (some .int) ∈ am_tb := am_in (tw_m4 178 rfl) rfl
theorem kd_X9_slips : yX9_slips.cls ≠ "java/lang/invoke/MethodHandle" ∧ yX9_slips.cls ≠ "java/lang/invoke/VarHandle" ∧ (parseMethodDescriptor yX9_slips.desc).map (fun d => d.parameters.length) = some 1 := by decide +kernel
theorem ki_X9_slips : Cond.instanceMethod yX9_slips ∈ am_tb := am_in (tw_m4 176 rfl) rfl
theorem ks_X9_slips : Cond.selects RX9 yX9_slips yX9_slips ∈ am_tb := am_in (tw_m4 177 rfl) rfl
theorem kc_X9_somebodyByTurns : Cond.code yX9_somebodyByTurns cX9_somebodyByTurns 7 (some .boolean) ∈ am_tb := am_in (tw_m4 209 rfl) rfl
theorem kd_X9_somebodyByTurns : yX9_somebodyByTurns.cls ≠ "java/lang/invoke/MethodHandle" ∧ yX9_somebodyByTurns.cls ≠ "java/lang/invoke/VarHandle" ∧ (parseMethodDescriptor yX9_somebodyByTurns.desc).map (fun d => d.parameters.length) = some 5 := by decide +kernel
theorem ki_X9_somebodyByTurns : Cond.static yX9_somebodyByTurns ∈ am_tb := am_in (tw_m4 208 rfl) rfl
theorem kc_X9_status : Cond.code yX9_status cX9_status 2 (some .int) ∈ am_tb := am_in (tw_m5 135 rfl) rfl
theorem kd_X9_status : yX9_status.cls ≠ "java/lang/invoke/MethodHandle" ∧ yX9_status.cls ≠ "java/lang/invoke/VarHandle" ∧ (parseMethodDescriptor yX9_status.desc).map (fun d => d.parameters.length) = some 1 := by decide +kernel
theorem ki_X9_status : Cond.instanceMethod yX9_status ∈ am_tb := am_in (tw_m5 133 rfl) rfl
theorem ks_X9_status : Cond.selects RX9 yX9_status yX9_status ∈ am_tb := am_in (tw_m5 134 rfl) rfl
theorem kc_X9_sure : Cond.code yX9_sure cX9_sure 4 (some .int) ∈ am_tb := am_in (tw_m4 174 rfl) rfl
theorem kd_X9_sure : yX9_sure.cls ≠ "java/lang/invoke/MethodHandle" ∧ yX9_sure.cls ≠ "java/lang/invoke/VarHandle" ∧ (parseMethodDescriptor yX9_sure.desc).map (fun d => d.parameters.length) = some 1 := by decide +kernel
theorem ki_X9_sure : Cond.instanceMethod yX9_sure ∈ am_tb := am_in (tw_m4 172 rfl) rfl
theorem ks_X9_sure : Cond.selects RX9 yX9_sure yX9_sure ∈ am_tb := am_in (tw_m4 173 rfl) rfl
theorem kc_X9_tell : Cond.code yX9_tell cX9_tell 4 (some .int) ∈ am_tb := am_in (tw_m5 32 rfl) rfl
theorem kd_X9_tell : yX9_tell.cls ≠ "java/lang/invoke/MethodHandle" ∧ yX9_tell.cls ≠ "java/lang/invoke/VarHandle" ∧ (parseMethodDescriptor yX9_tell.desc).map (fun d => d.parameters.length) = some 2 := by decide +kernel
theorem ki_X9_tell : Cond.instanceMethod yX9_tell ∈ am_tb := am_in (tw_m5 30 rfl) rfl
theorem ks_X9_tell : Cond.selects RX9 yX9_tell yX9_tell ∈ am_tb := am_in (tw_m5 31 rfl) rfl
theorem kc_X9_thought : Cond.code yX9_thought cX9_thought 6 (some .int) ∈ am_tb := am_in (tw_m4 224 rfl) rfl
theorem kd_X9_thought : yX9_thought.cls ≠ "java/lang/invoke/MethodHandle" ∧ yX9_thought.cls ≠ "java/lang/invoke/VarHandle" ∧ (parseMethodDescriptor yX9_thought.desc).map (fun d => d.parameters.length) = some 1 := by decide +kernel
theorem ki_X9_thought : Cond.instanceMethod yX9_thought ∈ am_tb := am_in (tw_m4 222 rfl) rfl
theorem ks_X9_thought : Cond.selects RX9 yX9_thought yX9_thought ∈ am_tb := am_in (tw_m4 223 rfl) rfl
theorem kc_X9_town : Cond.code yX9_town cX9_town 3 (some .int) ∈ am_tb := am_in (tw_m2 207 rfl) rfl
theorem kd_X9_town : yX9_town.cls ≠ "java/lang/invoke/MethodHandle" ∧ yX9_town.cls ≠ "java/lang/invoke/VarHandle" ∧ (parseMethodDescriptor yX9_town.desc).map (fun d => d.parameters.length) = some 0 := by decide +kernel
theorem ki_X9_town : Cond.instanceMethod yX9_town ∈ am_tb := am_in (tw_m2 205 rfl) rfl
theorem ks_X9_town : Cond.selects RX9 yX9_town yX9_town ∈ am_tb := am_in (tw_m2 206 rfl) rfl
theorem kc_X9_turnsOf : Cond.code yX9_turnsOf cX9_turnsOf 5 (some .int) ∈ am_tb := am_in (tw_m4 205 rfl) rfl
theorem kd_X9_turnsOf : yX9_turnsOf.cls ≠ "java/lang/invoke/MethodHandle" ∧ yX9_turnsOf.cls ≠ "java/lang/invoke/VarHandle" ∧ (parseMethodDescriptor yX9_turnsOf.desc).map (fun d => d.parameters.length) = some 1 := by decide +kernel
theorem ki_X9_turnsOf : Cond.instanceMethod yX9_turnsOf ∈ am_tb := am_in (tw_m4 203 rfl) rfl
theorem ks_X9_turnsOf : Cond.selects RX9 yX9_turnsOf yX9_turnsOf ∈ am_tb := am_in (tw_m4 204 rfl) rfl
theorem kc_X9_undo : Cond.code yX9_undo cX9_undo 1 (some .boolean) ∈ am_tb := am_in (tw_m5 58 rfl) rfl
theorem kd_X9_undo : yX9_undo.cls ≠ "java/lang/invoke/MethodHandle" ∧ yX9_undo.cls ≠ "java/lang/invoke/VarHandle" ∧ (parseMethodDescriptor yX9_undo.desc).map (fun d => d.parameters.length) = some 0 := by decide +kernel
theorem ki_X9_undo : Cond.instanceMethod yX9_undo ∈ am_tb := am_in (tw_m5 56 rfl) rfl
theorem ks_X9_undo : Cond.selects RX9 yX9_undo yX9_undo ∈ am_tb := am_in (tw_m5 57 rfl) rfl
theorem kc_X0_init : Cond.code yX0_init cX0_init 3 none ∈ am_tb := am_in (tw_m2 70 rfl) rfl
theorem kd_X0_init : yX0_init.cls ≠ "java/lang/invoke/MethodHandle" ∧ yX0_init.cls ≠ "java/lang/invoke/VarHandle" ∧ (parseMethodDescriptor yX0_init.desc).map (fun d => d.parameters.length) = some 2 := by decide +kernel
theorem ki_X0_init : Cond.instanceMethod yX0_init ∈ am_tb := am_in (tw_m2 69 rfl) rfl
theorem kc_X0_lookAt : Cond.code yX0_lookAt cX0_lookAt 4 (some .boolean) ∈ am_tb := am_in (tw_m4 103 rfl) rfl
theorem kd_X0_lookAt : yX0_lookAt.cls ≠ "java/lang/invoke/MethodHandle" ∧ yX0_lookAt.cls ≠ "java/lang/invoke/VarHandle" ∧ (parseMethodDescriptor yX0_lookAt.desc).map (fun d => d.parameters.length) = some 2 := by decide +kernel
theorem ki_X0_lookAt : Cond.instanceMethod yX0_lookAt ∈ am_tb := am_in (tw_m4 102 rfl) rfl
theorem ks_X0_lookAt : Cond.selects RX0 yX0_lookAt yX0_lookAt ∈ am_tb := am_inS 50 rfl rfl
theorem kc_X0_ofThemselves : Cond.code yX0_ofThemselves cX0_ofThemselves 5 (some .int) ∈ am_tb := am_in (tw_m4 110 rfl) rfl
theorem kd_X0_ofThemselves : yX0_ofThemselves.cls ≠ "java/lang/invoke/MethodHandle" ∧ yX0_ofThemselves.cls ≠ "java/lang/invoke/VarHandle" ∧ (parseMethodDescriptor yX0_ofThemselves.desc).map (fun d => d.parameters.length) = some 2 := by decide +kernel
theorem ki_X0_ofThemselves : Cond.instanceMethod yX0_ofThemselves ∈ am_tb := am_in (tw_m4 109 rfl) rfl
theorem ks_X0_ofThemselves : Cond.selects RX0 yX0_ofThemselves yX0_ofThemselves ∈ am_tb := am_inS 51 rfl rfl
theorem kc_X0_setPerson : Cond.code yX0_setPerson cX0_setPerson 3 none ∈ am_tb := am_in (tw_m4 115 rfl) rfl
theorem kd_X0_setPerson : yX0_setPerson.cls ≠ "java/lang/invoke/MethodHandle" ∧ yX0_setPerson.cls ≠ "java/lang/invoke/VarHandle" ∧ (parseMethodDescriptor yX0_setPerson.desc).map (fun d => d.parameters.length) = some 2 := by decide +kernel
theorem ki_X0_setPerson : Cond.instanceMethod yX0_setPerson ∈ am_tb := am_in (tw_m4 114 rfl) rfl
theorem ks_X0_setPerson : Cond.selects RX0 yX0_setPerson yX0_setPerson ∈ am_tb := am_inS 52 rfl rfl
theorem kc_X0_settle : Cond.code yX0_settle cX0_settle 3 none ∈ am_tb := am_in (tw_m4 156 rfl) rfl
theorem kd_X0_settle : yX0_settle.cls ≠ "java/lang/invoke/MethodHandle" ∧ yX0_settle.cls ≠ "java/lang/invoke/VarHandle" ∧ (parseMethodDescriptor yX0_settle.desc).map (fun d => d.parameters.length) = some 0 := by decide +kernel
theorem ki_X0_settle : Cond.instanceMethod yX0_settle ∈ am_tb := am_in (tw_m4 155 rfl) rfl
theorem ks_X0_settle : Cond.selects RX0 yX0_settle yX0_settle ∈ am_tb := am_inS 56 rfl rfl
theorem kc_X0_spread : Cond.code yX0_spread cX0_spread 8 (some .int) ∈ am_tb := am_in (tw_m4 144 rfl) rfl
theorem kd_X0_spread : yX0_spread.cls ≠ "java/lang/invoke/MethodHandle" ∧ yX0_spread.cls ≠ "java/lang/invoke/VarHandle" ∧ (parseMethodDescriptor yX0_spread.desc).map (fun d => d.parameters.length) = some 2 := by decide +kernel
theorem ki_X0_spread : Cond.instanceMethod yX0_spread ∈ am_tb := am_in (tw_m4 143 rfl) rfl
theorem ks_X0_spread : Cond.selects RX0 yX0_spread yX0_spread ∈ am_tb := am_inS 54 rfl rfl
theorem kc_X0_valueFor : Cond.code yX0_valueFor cX0_valueFor 4 (some .int) ∈ am_tb := am_in (tw_m5 84 rfl) rfl
theorem kd_X0_valueFor : yX0_valueFor.cls ≠ "java/lang/invoke/MethodHandle" ∧ yX0_valueFor.cls ≠ "java/lang/invoke/VarHandle" ∧ (parseMethodDescriptor yX0_valueFor.desc).map (fun d => d.parameters.length) = some 3 := by decide +kernel
theorem ki_X0_valueFor : Cond.instanceMethod yX0_valueFor ∈ am_tb := am_in (tw_m5 83 rfl) rfl
theorem ks_X0_valueFor : Cond.selects RX0 yX0_valueFor yX0_valueFor ∈ am_tb := am_inS 72 rfl rfl
theorem kc_X0_wouldHear : Cond.code yX0_wouldHear cX0_wouldHear 3 (some .boolean) ∈ am_tb := am_in (tw_m4 152 rfl) rfl
theorem kd_X0_wouldHear : yX0_wouldHear.cls ≠ "java/lang/invoke/MethodHandle" ∧ yX0_wouldHear.cls ≠ "java/lang/invoke/VarHandle" ∧ (parseMethodDescriptor yX0_wouldHear.desc).map (fun d => d.parameters.length) = some 2 := by decide +kernel
theorem ki_X0_wouldHear : Cond.instanceMethod yX0_wouldHear ∈ am_tb := am_in (tw_m4 151 rfl) rfl
theorem ks_X0_wouldHear : Cond.selects RX0 yX0_wouldHear yX0_wouldHear ∈ am_tb := am_inS 55 rfl rfl
theorem kc_X1_init : Cond.code yX1_init cX1_init 1 none ∈ am_tb := am_in (tw_m1 227 rfl) rfl
theorem kd_X1_init : yX1_init.cls ≠ "java/lang/invoke/MethodHandle" ∧ yX1_init.cls ≠ "java/lang/invoke/VarHandle" ∧ (parseMethodDescriptor yX1_init.desc).map (fun d => d.parameters.length) = some 0 := by decide +kernel
theorem ki_X1_init : Cond.instanceMethod yX1_init ∈ am_tb := am_in (tw_m1 226 rfl) rfl
theorem kc_X1_addRow : Cond.code yX1_addRow cX1_addRow 4 none ∈ am_tb := am_in (tw_m5 28 rfl) rfl
theorem kd_X1_addRow : yX1_addRow.cls ≠ "java/lang/invoke/MethodHandle" ∧ yX1_addRow.cls ≠ "java/lang/invoke/VarHandle" ∧ (parseMethodDescriptor yX1_addRow.desc).map (fun d => d.parameters.length) = some 2 := by decide +kernel
theorem ki_X1_addRow : Cond.instanceMethod yX1_addRow ∈ am_tb := am_in (tw_m5 27 rfl) rfl
theorem ks_X1_addRow : Cond.selects RX1 yX1_addRow yX1_addRow ∈ am_tb := am_inS 67 rfl rfl
theorem kc_X1_begin : Cond.code yX1_begin cX1_begin 2 none ∈ am_tb := am_in (tw_m4 2 rfl) rfl
theorem kd_X1_begin : yX1_begin.cls ≠ "java/lang/invoke/MethodHandle" ∧ yX1_begin.cls ≠ "java/lang/invoke/VarHandle" ∧ (parseMethodDescriptor yX1_begin.desc).map (fun d => d.parameters.length) = some 1 := by decide +kernel
theorem ki_X1_begin : Cond.instanceMethod yX1_begin ∈ am_tb := am_in (tw_m4 1 rfl) rfl
theorem ks_X1_begin : Cond.selects RX1 yX1_begin yX1_begin ∈ am_tb := am_inS 38 rfl rfl
theorem kc_X1_copyFrom : Cond.code yX1_copyFrom cX1_copyFrom 2 none ∈ am_tb := am_in (tw_m4 99 rfl) rfl
theorem kd_X1_copyFrom : yX1_copyFrom.cls ≠ "java/lang/invoke/MethodHandle" ∧ yX1_copyFrom.cls ≠ "java/lang/invoke/VarHandle" ∧ (parseMethodDescriptor yX1_copyFrom.desc).map (fun d => d.parameters.length) = some 1 := by decide +kernel
theorem ki_X1_copyFrom : Cond.instanceMethod yX1_copyFrom ∈ am_tb := am_in (tw_m4 98 rfl) rfl
theorem ks_X1_copyFrom : Cond.selects RX1 yX1_copyFrom yX1_copyFrom ∈ am_tb := am_inS 49 rfl rfl
theorem kc_X1_daysLeft : Cond.code yX1_daysLeft cX1_daysLeft 2 (some .int) ∈ am_tb := am_in (tw_m4 95 rfl) rfl
theorem kd_X1_daysLeft : yX1_daysLeft.cls ≠ "java/lang/invoke/MethodHandle" ∧ yX1_daysLeft.cls ≠ "java/lang/invoke/VarHandle" ∧ (parseMethodDescriptor yX1_daysLeft.desc).map (fun d => d.parameters.length) = some 1 := by decide +kernel
theorem ki_X1_daysLeft : Cond.instanceMethod yX1_daysLeft ∈ am_tb := am_in (tw_m4 94 rfl) rfl
theorem ks_X1_daysLeft : Cond.selects RX1 yX1_daysLeft yX1_daysLeft ∈ am_tb := am_inS 48 rfl rfl
theorem kc_X1_rowAt : Cond.code yX1_rowAt cX1_rowAt 2 (some .int) ∈ am_tb := am_in (tw_m4 67 rfl) rfl
theorem kd_X1_rowAt : yX1_rowAt.cls ≠ "java/lang/invoke/MethodHandle" ∧ yX1_rowAt.cls ≠ "java/lang/invoke/VarHandle" ∧ (parseMethodDescriptor yX1_rowAt.desc).map (fun d => d.parameters.length) = some 1 := by decide +kernel
theorem ki_X1_rowAt : Cond.instanceMethod yX1_rowAt ∈ am_tb := am_in (tw_m4 66 rfl) rfl
theorem ks_X1_rowAt : Cond.selects RX1 yX1_rowAt yX1_rowAt ∈ am_tb := am_inS 45 rfl rfl
theorem kc_X1_rowDay : Cond.code yX1_rowDay cX1_rowDay 1 (some .int) ∈ am_tb := am_in (tw_m4 73 rfl) rfl
theorem kd_X1_rowDay : yX1_rowDay.cls ≠ "java/lang/invoke/MethodHandle" ∧ yX1_rowDay.cls ≠ "java/lang/invoke/VarHandle" ∧ (parseMethodDescriptor yX1_rowDay.desc).map (fun d => d.parameters.length) = some 1 := by decide +kernel
theorem ki_X1_rowDay : Cond.static yX1_rowDay ∈ am_tb := am_in (tw_m4 72 rfl) rfl
theorem kc_X1_rowFeast : Cond.code yX1_rowFeast cX1_rowFeast 1 (some .int) ∈ am_tb := am_in (tw_m4 79 rfl) rfl
theorem kd_X1_rowFeast : yX1_rowFeast.cls ≠ "java/lang/invoke/MethodHandle" ∧ yX1_rowFeast.cls ≠ "java/lang/invoke/VarHandle" ∧ (parseMethodDescriptor yX1_rowFeast.desc).map (fun d => d.parameters.length) = some 1 := by decide +kernel
theorem ki_X1_rowFeast : Cond.static yX1_rowFeast ∈ am_tb := am_in (tw_m4 78 rfl) rfl
theorem kc_X1_rowThinkers : Cond.code yX1_rowThinkers cX1_rowThinkers 1 (some .int) ∈ am_tb := am_in (tw_m4 76 rfl) rfl
theorem kd_X1_rowThinkers : yX1_rowThinkers.cls ≠ "java/lang/invoke/MethodHandle" ∧ yX1_rowThinkers.cls ≠ "java/lang/invoke/VarHandle" ∧ (parseMethodDescriptor yX1_rowThinkers.desc).map (fun d => d.parameters.length) = some 1 := by decide +kernel
theorem ki_X1_rowThinkers : Cond.static yX1_rowThinkers ∈ am_tb := am_in (tw_m4 75 rfl) rfl
theorem kc_X1_rowYear : Cond.code yX1_rowYear cX1_rowYear 1 (some .int) ∈ am_tb := am_in (tw_m4 70 rfl) rfl
theorem kd_X1_rowYear : yX1_rowYear.cls ≠ "java/lang/invoke/MethodHandle" ∧ yX1_rowYear.cls ≠ "java/lang/invoke/VarHandle" ∧ (parseMethodDescriptor yX1_rowYear.desc).map (fun d => d.parameters.length) = some 1 := by decide +kernel
theorem ki_X1_rowYear : Cond.static yX1_rowYear ∈ am_tb := am_in (tw_m4 69 rfl) rfl
theorem kc_X1_toldOn : Cond.code yX1_toldOn cX1_toldOn 2 (some .int) ∈ am_tb := am_in (tw_m5 10 rfl) rfl
theorem kd_X1_toldOn : yX1_toldOn.cls ≠ "java/lang/invoke/MethodHandle" ∧ yX1_toldOn.cls ≠ "java/lang/invoke/VarHandle" ∧ (parseMethodDescriptor yX1_toldOn.desc).map (fun d => d.parameters.length) = some 1 := by decide +kernel
theorem ki_X1_toldOn : Cond.instanceMethod yX1_toldOn ∈ am_tb := am_in (tw_m5 9 rfl) rfl
theorem ks_X1_toldOn : Cond.selects RX1 yX1_toldOn yX1_toldOn ∈ am_tb := am_inS 64 rfl rfl
theorem kc_X2_init : Cond.code yX2_init cX2_init 1 none ∈ am_tb := am_in (tw_m2 51 rfl) rfl
theorem kd_X2_init : yX2_init.cls ≠ "java/lang/invoke/MethodHandle" ∧ yX2_init.cls ≠ "java/lang/invoke/VarHandle" ∧ (parseMethodDescriptor yX2_init.desc).map (fun d => d.parameters.length) = some 0 := by decide +kernel
theorem ki_X2_init : Cond.instanceMethod yX2_init ∈ am_tb := am_in (tw_m2 50 rfl) rfl
theorem kc_X2_bringBack : Cond.code yX2_bringBack cX2_bringBack 3 none ∈ am_tb := am_in (tw_m5 62 rfl) rfl
theorem kd_X2_bringBack : yX2_bringBack.cls ≠ "java/lang/invoke/MethodHandle" ∧ yX2_bringBack.cls ≠ "java/lang/invoke/VarHandle" ∧ (parseMethodDescriptor yX2_bringBack.desc).map (fun d => d.parameters.length) = some 1 := by decide +kernel
theorem ki_X2_bringBack : Cond.instanceMethod yX2_bringBack ∈ am_tb := am_in (tw_m5 61 rfl) rfl
theorem ks_X2_bringBack : Cond.selects RX2 yX2_bringBack yX2_bringBack ∈ am_tb := am_inS 69 rfl rfl
theorem kc_X2_forget : Cond.code yX2_forget cX2_forget 1 none ∈ am_tb := am_in (tw_m4 8 rfl) rfl
theorem kd_X2_forget : yX2_forget.cls ≠ "java/lang/invoke/MethodHandle" ∧ yX2_forget.cls ≠ "java/lang/invoke/VarHandle" ∧ (parseMethodDescriptor yX2_forget.desc).map (fun d => d.parameters.length) = some 0 := by decide +kernel
theorem ki_X2_forget : Cond.instanceMethod yX2_forget ∈ am_tb := am_in (tw_m4 7 rfl) rfl
theorem ks_X2_forget : Cond.selects RX2 yX2_forget yX2_forget ∈ am_tb := am_inS 39 rfl rfl
theorem kc_X2_remember : Cond.code yX2_remember cX2_remember 3 none ∈ am_tb := am_in (tw_m5 18 rfl) rfl
theorem kd_X2_remember : yX2_remember.cls ≠ "java/lang/invoke/MethodHandle" ∧ yX2_remember.cls ≠ "java/lang/invoke/VarHandle" ∧ (parseMethodDescriptor yX2_remember.desc).map (fun d => d.parameters.length) = some 1 := by decide +kernel
theorem ki_X2_remember : Cond.instanceMethod yX2_remember ∈ am_tb := am_in (tw_m5 17 rfl) rfl
theorem ks_X2_remember : Cond.selects RX2 yX2_remember yX2_remember ∈ am_tb := am_inS 65 rfl rfl
theorem kc_X3_init : Cond.code yX3_init cX3_init 1 none ∈ am_tb := am_in (tw_m2 125 rfl) rfl
theorem kd_X3_init : yX3_init.cls ≠ "java/lang/invoke/MethodHandle" ∧ yX3_init.cls ≠ "java/lang/invoke/VarHandle" ∧ (parseMethodDescriptor yX3_init.desc).map (fun d => d.parameters.length) = some 0 := by decide +kernel
theorem ki_X3_init : Cond.instanceMethod yX3_init ∈ am_tb := am_in (tw_m2 124 rfl) rfl
theorem kc_X3_add : Cond.code yX3_add cX3_add 2 none ∈ am_tb := am_in (tw_m5 98 rfl) rfl
theorem kd_X3_add : yX3_add.cls ≠ "java/lang/invoke/MethodHandle" ∧ yX3_add.cls ≠ "java/lang/invoke/VarHandle" ∧ (parseMethodDescriptor yX3_add.desc).map (fun d => d.parameters.length) = some 1 := by decide +kernel
theorem ki_X3_add : Cond.instanceMethod yX3_add ∈ am_tb := am_in (tw_m5 97 rfl) rfl
theorem ks_X3_add : Cond.selects RX3 yX3_add yX3_add ∈ am_tb := am_inS 74 rfl rfl
theorem kc_X3_addList : Cond.code yX3_addList cX3_addList 4 none ∈ am_tb := am_in (tw_m5 104 rfl) rfl
theorem kd_X3_addList : yX3_addList.cls ≠ "java/lang/invoke/MethodHandle" ∧ yX3_addList.cls ≠ "java/lang/invoke/VarHandle" ∧ (parseMethodDescriptor yX3_addList.desc).map (fun d => d.parameters.length) = some 1 := by decide +kernel
theorem ki_X3_addList : Cond.instanceMethod yX3_addList ∈ am_tb := am_in (tw_m5 103 rfl) rfl
theorem ks_X3_addList : Cond.selects RX3 yX3_addList yX3_addList ∈ am_tb := am_inS 75 rfl rfl
theorem kc_X3_checkOf : Cond.code yX3_checkOf cX3_checkOf 4 (some .int) ∈ am_tb := am_in (tw_m5 108 rfl) rfl
theorem kd_X3_checkOf : yX3_checkOf.cls ≠ "java/lang/invoke/MethodHandle" ∧ yX3_checkOf.cls ≠ "java/lang/invoke/VarHandle" ∧ (parseMethodDescriptor yX3_checkOf.desc).map (fun d => d.parameters.length) = some 2 := by decide +kernel
theorem ki_X3_checkOf : Cond.static yX3_checkOf ∈ am_tb := am_in (tw_m5 107 rfl) rfl
theorem kc_X3_paint : Cond.code yX3_paint cX3_paint 4 none ∈ am_tb := am_in (tw_m5 94 rfl) rfl
theorem kd_X3_paint : yX3_paint.cls ≠ "java/lang/invoke/MethodHandle" ∧ yX3_paint.cls ≠ "java/lang/invoke/VarHandle" ∧ (parseMethodDescriptor yX3_paint.desc).map (fun d => d.parameters.length) = some 2 := by decide +kernel
theorem ki_X3_paint : Cond.instanceMethod yX3_paint ∈ am_tb := am_in (tw_m5 93 rfl) rfl
theorem ks_X3_paint : Cond.selects RX3 yX3_paint yX3_paint ∈ am_tb := am_inS 73 rfl rfl
theorem kc_X3_readHead : Cond.code yX3_readHead cX3_readHead 4 (some .boolean) ∈ am_tb := am_in (tw_m5 124 rfl) rfl
theorem kd_X3_readHead : yX3_readHead.cls ≠ "java/lang/invoke/MethodHandle" ∧ yX3_readHead.cls ≠ "java/lang/invoke/VarHandle" ∧ (parseMethodDescriptor yX3_readHead.desc).map (fun d => d.parameters.length) = some 3 := by decide +kernel
theorem ki_X3_readHead : Cond.static yX3_readHead ∈ am_tb := am_in (tw_m5 123 rfl) rfl
theorem kc_X3_readInto : Cond.code yX3_readInto cX3_readInto 5 (some .boolean) ∈ am_tb := am_in (tw_m5 119 rfl) rfl
theorem kd_X3_readInto : yX3_readInto.cls ≠ "java/lang/invoke/MethodHandle" ∧ yX3_readInto.cls ≠ "java/lang/invoke/VarHandle" ∧ (parseMethodDescriptor yX3_readInto.desc).map (fun d => d.parameters.length) = some 3 := by decide +kernel
theorem ki_X3_readInto : Cond.static yX3_readInto ∈ am_tb := am_in (tw_m5 118 rfl) rfl
theorem kc_X3_readList : Cond.code yX3_readList cX3_readList 12 (some .int) ∈ am_tb := am_in (tw_m5 131 rfl) rfl
theorem kd_X3_readList : yX3_readList.cls ≠ "java/lang/invoke/MethodHandle" ∧ yX3_readList.cls ≠ "java/lang/invoke/VarHandle" ∧ (parseMethodDescriptor yX3_readList.desc).map (fun d => d.parameters.length) = some 5 := by decide +kernel
theorem ki_X3_readList : Cond.static yX3_readList ∈ am_tb := am_in (tw_m5 130 rfl) rfl
theorem kc_X3_readPeople : Cond.code yX3_readPeople cX3_readPeople 5 (some .boolean) ∈ am_tb := am_in (tw_m5 128 rfl) rfl
theorem kd_X3_readPeople : yX3_readPeople.cls ≠ "java/lang/invoke/MethodHandle" ∧ yX3_readPeople.cls ≠ "java/lang/invoke/VarHandle" ∧ (parseMethodDescriptor yX3_readPeople.desc).map (fun d => d.parameters.length) = some 3 := by decide +kernel
theorem ki_X3_readPeople : Cond.static yX3_readPeople ∈ am_tb := am_in (tw_m5 127 rfl) rfl
theorem kc_X4_init : Cond.code yX4_init cX4_init 3 none ∈ am_tb := am_in (tw_m1 156 rfl) rfl
theorem kd_X4_init : yX4_init.cls ≠ "java/lang/invoke/MethodHandle" ∧ yX4_init.cls ≠ "java/lang/invoke/VarHandle" ∧ (parseMethodDescriptor yX4_init.desc).map (fun d => d.parameters.length) = some 2 := by decide +kernel
theorem ki_X4_init : Cond.instanceMethod yX4_init ∈ am_tb := am_in (tw_m1 155 rfl) rfl
theorem kc_X4_begin : Cond.code yX4_begin cX4_begin 1 none ∈ am_tb := am_in (tw_m2 215 rfl) rfl
theorem kd_X4_begin : yX4_begin.cls ≠ "java/lang/invoke/MethodHandle" ∧ yX4_begin.cls ≠ "java/lang/invoke/VarHandle" ∧ (parseMethodDescriptor yX4_begin.desc).map (fun d => d.parameters.length) = some 0 := by decide +kernel
theorem ki_X4_begin : Cond.instanceMethod yX4_begin ∈ am_tb := am_in (tw_m2 214 rfl) rfl
theorem ks_X4_begin : Cond.selects RX4 yX4_begin yX4_begin ∈ am_tb := am_inS 3 rfl rfl
theorem kc_X4_fail : Cond.code yX4_fail cX4_fail 3 none ∈ am_tb := am_in (tw_m3 141 rfl) rfl
theorem kd_X4_fail : yX4_fail.cls ≠ "java/lang/invoke/MethodHandle" ∧ yX4_fail.cls ≠ "java/lang/invoke/VarHandle" ∧ (parseMethodDescriptor yX4_fail.desc).map (fun d => d.parameters.length) = some 2 := by decide +kernel
theorem ki_X4_fail : Cond.instanceMethod yX4_fail ∈ am_tb := am_in (tw_m3 140 rfl) rfl
theorem ks_X4_fail : Cond.selects RX4 yX4_fail yX4_fail ∈ am_tb := am_inS 15 rfl rfl
theorem kc_X4_isPartWord : Cond.code yX4_isPartWord cX4_isPartWord 2 (some .boolean) ∈ am_tb := am_in (tw_m3 220 rfl) rfl
theorem kd_X4_isPartWord : yX4_isPartWord.cls ≠ "java/lang/invoke/MethodHandle" ∧ yX4_isPartWord.cls ≠ "java/lang/invoke/VarHandle" ∧ (parseMethodDescriptor yX4_isPartWord.desc).map (fun d => d.parameters.length) = some 1 := by decide +kernel
theorem ki_X4_isPartWord : Cond.instanceMethod yX4_isPartWord ∈ am_tb := am_in (tw_m3 219 rfl) rfl
theorem ks_X4_isPartWord : Cond.selects RX4 yX4_isPartWord yX4_isPartWord ∈ am_tb := am_inS 34 rfl rfl
theorem kc_X4_isSumSign : Cond.code yX4_isSumSign cX4_isSumSign 1 (some .boolean) ∈ am_tb := am_in (tw_m3 223 rfl) rfl
theorem kd_X4_isSumSign : yX4_isSumSign.cls ≠ "java/lang/invoke/MethodHandle" ∧ yX4_isSumSign.cls ≠ "java/lang/invoke/VarHandle" ∧ (parseMethodDescriptor yX4_isSumSign.desc).map (fun d => d.parameters.length) = some 1 := by decide +kernel
theorem ki_X4_isSumSign : Cond.static yX4_isSumSign ∈ am_tb := am_in (tw_m3 222 rfl) rfl
theorem kc_X4_open : Cond.code yX4_open cX4_open 1 (some .boolean) ∈ am_tb := am_in (tw_m3 200 rfl) rfl
theorem kd_X4_open : yX4_open.cls ≠ "java/lang/invoke/MethodHandle" ∧ yX4_open.cls ≠ "java/lang/invoke/VarHandle" ∧ (parseMethodDescriptor yX4_open.desc).map (fun d => d.parameters.length) = some 0 := by decide +kernel
theorem ki_X4_open : Cond.instanceMethod yX4_open ∈ am_tb := am_in (tw_m3 199 rfl) rfl
theorem ks_X4_open : Cond.selects RX4 yX4_open yX4_open ∈ am_tb := am_inS 29 rfl rfl
theorem kc_X4_pass : Cond.code yX4_pass cX4_pass 5 none ∈ am_tb := am_in (tw_m3 120 rfl) rfl
theorem kd_X4_pass : yX4_pass.cls ≠ "java/lang/invoke/MethodHandle" ∧ yX4_pass.cls ≠ "java/lang/invoke/VarHandle" ∧ (parseMethodDescriptor yX4_pass.desc).map (fun d => d.parameters.length) = some 2 := by decide +kernel
theorem ki_X4_pass : Cond.instanceMethod yX4_pass ∈ am_tb := am_in (tw_m3 119 rfl) rfl
theorem ks_X4_pass : Cond.selects RX4 yX4_pass yX4_pass ∈ am_tb := am_inS 11 rfl rfl
theorem kc_X4_readFact : Cond.code yX4_readFact cX4_readFact 2 none ∈ am_tb := am_in (tw_m3 196 rfl) rfl
theorem kd_X4_readFact : yX4_readFact.cls ≠ "java/lang/invoke/MethodHandle" ∧ yX4_readFact.cls ≠ "java/lang/invoke/VarHandle" ∧ (parseMethodDescriptor yX4_readFact.desc).map (fun d => d.parameters.length) = some 0 := by decide +kernel
theorem ki_X4_readFact : Cond.instanceMethod yX4_readFact ∈ am_tb := am_in (tw_m3 195 rfl) rfl
theorem ks_X4_readFact : Cond.selects RX4 yX4_readFact yX4_readFact ∈ am_tb := am_inS 28 rfl rfl
theorem kc_X4_readFrost : Cond.code yX4_readFrost cX4_readFrost 3 none ∈ am_tb := am_in (tw_m3 184 rfl) rfl
theorem kd_X4_readFrost : yX4_readFrost.cls ≠ "java/lang/invoke/MethodHandle" ∧ yX4_readFrost.cls ≠ "java/lang/invoke/VarHandle" ∧ (parseMethodDescriptor yX4_readFrost.desc).map (fun d => d.parameters.length) = some 0 := by decide +kernel
theorem ki_X4_readFrost : Cond.instanceMethod yX4_readFrost ∈ am_tb := am_in (tw_m3 183 rfl) rfl
theorem ks_X4_readFrost : Cond.selects RX4 yX4_readFrost yX4_readFrost ∈ am_tb := am_inS 25 rfl rfl
theorem kc_X4_readName : Cond.code yX4_readName cX4_readName 2 none ∈ am_tb := am_in (tw_m3 157 rfl) rfl
theorem kd_X4_readName : yX4_readName.cls ≠ "java/lang/invoke/MethodHandle" ∧ yX4_readName.cls ≠ "java/lang/invoke/VarHandle" ∧ (parseMethodDescriptor yX4_readName.desc).map (fun d => d.parameters.length) = some 1 := by decide +kernel
theorem ki_X4_readName : Cond.instanceMethod yX4_readName ∈ am_tb := am_in (tw_m3 156 rfl) rfl
theorem ks_X4_readName : Cond.selects RX4 yX4_readName yX4_readName ∈ am_tb := am_inS 19 rfl rfl
theorem kc_X4_readNumber : Cond.code yX4_readNumber cX4_readNumber 4 (some .int) ∈ am_tb := am_in (tw_m3 145 rfl) rfl
theorem kd_X4_readNumber : yX4_readNumber.cls ≠ "java/lang/invoke/MethodHandle" ∧ yX4_readNumber.cls ≠ "java/lang/invoke/VarHandle" ∧ (parseMethodDescriptor yX4_readNumber.desc).map (fun d => d.parameters.length) = some 2 := by decide +kernel
theorem ki_X4_readNumber : Cond.instanceMethod yX4_readNumber ∈ am_tb := am_in (tw_m3 144 rfl) rfl
theorem ks_X4_readNumber : Cond.selects RX4 yX4_readNumber yX4_readNumber ∈ am_tb := am_inS 16 rfl rfl
theorem kc_X4_readPart : Cond.code yX4_readPart cX4_readPart 2 none ∈ am_tb := am_in (tw_m3 212 rfl) rfl
theorem kd_X4_readPart : yX4_readPart.cls ≠ "java/lang/invoke/MethodHandle" ∧ yX4_readPart.cls ≠ "java/lang/invoke/VarHandle" ∧ (parseMethodDescriptor yX4_readPart.desc).map (fun d => d.parameters.length) = some 0 := by decide +kernel
theorem ki_X4_readPart : Cond.instanceMethod yX4_readPart ∈ am_tb := am_in (tw_m3 211 rfl) rfl
theorem ks_X4_readPart : Cond.selects RX4 yX4_readPart yX4_readPart ∈ am_tb := am_inS 32 rfl rfl
theorem kc_X4_readPerson : Cond.code yX4_readPerson cX4_readPerson 5 none ∈ am_tb := am_in (tw_m3 149 rfl) rfl
theorem kd_X4_readPerson : yX4_readPerson.cls ≠ "java/lang/invoke/MethodHandle" ∧ yX4_readPerson.cls ≠ "java/lang/invoke/VarHandle" ∧ (parseMethodDescriptor yX4_readPerson.desc).map (fun d => d.parameters.length) = some 0 := by decide +kernel
theorem ki_X4_readPerson : Cond.instanceMethod yX4_readPerson ∈ am_tb := am_in (tw_m3 148 rfl) rfl
theorem ks_X4_readPerson : Cond.selects RX4 yX4_readPerson yX4_readPerson ∈ am_tb := am_inS 17 rfl rfl
theorem kc_X4_readQuestion : Cond.code yX4_readQuestion cX4_readQuestion 1 (some .boolean) ∈ am_tb := am_in (tw_m5 75 rfl) rfl
theorem kd_X4_readQuestion : yX4_readQuestion.cls ≠ "java/lang/invoke/MethodHandle" ∧ yX4_readQuestion.cls ≠ "java/lang/invoke/VarHandle" ∧ (parseMethodDescriptor yX4_readQuestion.desc).map (fun d => d.parameters.length) = some 0 := by decide +kernel
theorem ki_X4_readQuestion : Cond.instanceMethod yX4_readQuestion ∈ am_tb := am_in (tw_m5 74 rfl) rfl
theorem ks_X4_readQuestion : Cond.selects RX4 yX4_readQuestion yX4_readQuestion ∈ am_tb := am_inS 70 rfl rfl
theorem kc_X4_readReminds : Cond.code yX4_readReminds cX4_readReminds 4 none ∈ am_tb := am_in (tw_m3 176 rfl) rfl
theorem kd_X4_readReminds : yX4_readReminds.cls ≠ "java/lang/invoke/MethodHandle" ∧ yX4_readReminds.cls ≠ "java/lang/invoke/VarHandle" ∧ (parseMethodDescriptor yX4_readReminds.desc).map (fun d => d.parameters.length) = some 0 := by decide +kernel
theorem ki_X4_readReminds : Cond.instanceMethod yX4_readReminds ∈ am_tb := am_in (tw_m3 175 rfl) rfl
theorem ks_X4_readReminds : Cond.selects RX4 yX4_readReminds yX4_readReminds ∈ am_tb := am_inS 23 rfl rfl
theorem kc_X4_readStatement : Cond.code yX4_readStatement cX4_readStatement 3 none ∈ am_tb := am_in (tw_m3 133 rfl) rfl
theorem kd_X4_readStatement : yX4_readStatement.cls ≠ "java/lang/invoke/MethodHandle" ∧ yX4_readStatement.cls ≠ "java/lang/invoke/VarHandle" ∧ (parseMethodDescriptor yX4_readStatement.desc).map (fun d => d.parameters.length) = some 0 := by decide +kernel
theorem ki_X4_readStatement : Cond.instanceMethod yX4_readStatement ∈ am_tb := am_in (tw_m3 132 rfl) rfl
theorem ks_X4_readStatement : Cond.selects RX4 yX4_readStatement yX4_readStatement ∈ am_tb := am_inS 13 rfl rfl
theorem kc_X4_readSum : Cond.code yX4_readSum cX4_readSum 5 none ∈ am_tb := am_in (tw_m3 208 rfl) rfl
theorem kd_X4_readSum : yX4_readSum.cls ≠ "java/lang/invoke/MethodHandle" ∧ yX4_readSum.cls ≠ "java/lang/invoke/VarHandle" ∧ (parseMethodDescriptor yX4_readSum.desc).map (fun d => d.parameters.length) = some 0 := by decide +kernel
theorem ki_X4_readSum : Cond.instanceMethod yX4_readSum ∈ am_tb := am_in (tw_m3 207 rfl) rfl
theorem ks_X4_readSum : Cond.selects RX4 yX4_readSum yX4_readSum ∈ am_tb := am_inS 31 rfl rfl
theorem kc_X4_readSumsInside : Cond.code yX4_readSumsInside cX4_readSumsInside 2 none ∈ am_tb := am_in (tw_m3 216 rfl) rfl
theorem kd_X4_readSumsInside : yX4_readSumsInside.cls ≠ "java/lang/invoke/MethodHandle" ∧ yX4_readSumsInside.cls ≠ "java/lang/invoke/VarHandle" ∧ (parseMethodDescriptor yX4_readSumsInside.desc).map (fun d => d.parameters.length) = some 1 := by decide +kernel
theorem ki_X4_readSumsInside : Cond.instanceMethod yX4_readSumsInside ∈ am_tb := am_in (tw_m3 215 rfl) rfl
theorem ks_X4_readSumsInside : Cond.selects RX4 yX4_readSumsInside yX4_readSumsInside ∈ am_tb := am_inS 33 rfl rfl
theorem kc_X4_readTest : Cond.code yX4_readTest cX4_readTest 4 none ∈ am_tb := am_in (tw_m3 192 rfl) rfl
theorem kd_X4_readTest : yX4_readTest.cls ≠ "java/lang/invoke/MethodHandle" ∧ yX4_readTest.cls ≠ "java/lang/invoke/VarHandle" ∧ (parseMethodDescriptor yX4_readTest.desc).map (fun d => d.parameters.length) = some 0 := by decide +kernel
theorem ki_X4_readTest : Cond.instanceMethod yX4_readTest ∈ am_tb := am_in (tw_m3 191 rfl) rfl
theorem ks_X4_readTest : Cond.selects RX4 yX4_readTest yX4_readTest ∈ am_tb := am_inS 27 rfl rfl
theorem kc_X4_readTold : Cond.code yX4_readTold cX4_readTold 4 none ∈ am_tb := am_in (tw_m3 165 rfl) rfl
theorem kd_X4_readTold : yX4_readTold.cls ≠ "java/lang/invoke/MethodHandle" ∧ yX4_readTold.cls ≠ "java/lang/invoke/VarHandle" ∧ (parseMethodDescriptor yX4_readTold.desc).map (fun d => d.parameters.length) = some 0 := by decide +kernel
theorem ki_X4_readTold : Cond.instanceMethod yX4_readTold ∈ am_tb := am_in (tw_m3 164 rfl) rfl
theorem ks_X4_readTold : Cond.selects RX4 yX4_readTold yX4_readTold ∈ am_tb := am_inS 21 rfl rfl
theorem kc_X4_readTown : Cond.code yX4_readTown cX4_readTown 3 (some .boolean) ∈ am_tb := am_in (tw_m2 211 rfl) rfl
theorem kd_X4_readTown : yX4_readTown.cls ≠ "java/lang/invoke/MethodHandle" ∧ yX4_readTown.cls ≠ "java/lang/invoke/VarHandle" ∧ (parseMethodDescriptor yX4_readTown.desc).map (fun d => d.parameters.length) = some 1 := by decide +kernel
theorem ki_X4_readTown : Cond.instanceMethod yX4_readTown ∈ am_tb := am_in (tw_m2 210 rfl) rfl
theorem ks_X4_readTown : Cond.selects RX4 yX4_readTown yX4_readTown ∈ am_tb := am_inS 2 rfl rfl
theorem kc_X5_init : Cond.code yX5_init cX5_init 2 none ∈ am_tb := am_in (tw_m1 59 rfl) rfl
theorem kd_X5_init : yX5_init.cls ≠ "java/lang/invoke/MethodHandle" ∧ yX5_init.cls ≠ "java/lang/invoke/VarHandle" ∧ (parseMethodDescriptor yX5_init.desc).map (fun d => d.parameters.length) = some 1 := by decide +kernel
theorem ki_X5_init : Cond.instanceMethod yX5_init ∈ am_tb := am_in (tw_m1 58 rfl) rfl
theorem kc_X5_add : Cond.code yX5_add cX5_add 2 none ∈ am_tb := am_in (tw_m3 204 rfl) rfl
theorem kd_X5_add : yX5_add.cls ≠ "java/lang/invoke/MethodHandle" ∧ yX5_add.cls ≠ "java/lang/invoke/VarHandle" ∧ (parseMethodDescriptor yX5_add.desc).map (fun d => d.parameters.length) = some 1 := by decide +kernel
theorem ki_X5_add : Cond.instanceMethod yX5_add ∈ am_tb := am_in (tw_m3 203 rfl) rfl
theorem ks_X5_add : Cond.selects RX5 yX5_add yX5_add ∈ am_tb := am_inS 30 rfl rfl
theorem kc_X5_copyFrom : Cond.code yX5_copyFrom cX5_copyFrom 2 none ∈ am_tb := am_in (tw_m3 231 rfl) rfl
theorem kd_X5_copyFrom : yX5_copyFrom.cls ≠ "java/lang/invoke/MethodHandle" ∧ yX5_copyFrom.cls ≠ "java/lang/invoke/VarHandle" ∧ (parseMethodDescriptor yX5_copyFrom.desc).map (fun d => d.parameters.length) = some 1 := by decide +kernel
theorem ki_X5_copyFrom : Cond.instanceMethod yX5_copyFrom ∈ am_tb := am_in (tw_m3 230 rfl) rfl
theorem ks_X5_copyFrom : Cond.selects RX5 yX5_copyFrom yX5_copyFrom ∈ am_tb := am_inS 36 rfl rfl
theorem kc_X5_isRemindedBy : Cond.code yX5_isRemindedBy cX5_isRemindedBy 3 (some .int) ∈ am_tb := am_in (tw_m4 125 rfl) rfl
theorem kd_X5_isRemindedBy : yX5_isRemindedBy.cls ≠ "java/lang/invoke/MethodHandle" ∧ yX5_isRemindedBy.cls ≠ "java/lang/invoke/VarHandle" ∧ (parseMethodDescriptor yX5_isRemindedBy.desc).map (fun d => d.parameters.length) = some 2 := by decide +kernel
theorem ki_X5_isRemindedBy : Cond.static yX5_isRemindedBy ∈ am_tb := am_in (tw_m4 124 rfl) rfl
theorem kc_X5_pairUp : Cond.code yX5_pairUp cX5_pairUp 5 (some .int) ∈ am_tb := am_in (tw_m4 128 rfl) rfl
theorem kd_X5_pairUp : yX5_pairUp.cls ≠ "java/lang/invoke/MethodHandle" ∧ yX5_pairUp.cls ≠ "java/lang/invoke/VarHandle" ∧ (parseMethodDescriptor yX5_pairUp.desc).map (fun d => d.parameters.length) = some 3 := by decide +kernel
theorem ki_X5_pairUp : Cond.static yX5_pairUp ∈ am_tb := am_in (tw_m4 127 rfl) rfl
theorem kc_X5_partAt : Cond.code yX5_partAt cX5_partAt 2 (some .int) ∈ am_tb := am_in (tw_m4 122 rfl) rfl
theorem kd_X5_partAt : yX5_partAt.cls ≠ "java/lang/invoke/MethodHandle" ∧ yX5_partAt.cls ≠ "java/lang/invoke/VarHandle" ∧ (parseMethodDescriptor yX5_partAt.desc).map (fun d => d.parameters.length) = some 2 := by decide +kernel
theorem ki_X5_partAt : Cond.static yX5_partAt ∈ am_tb := am_in (tw_m4 121 rfl) rfl
theorem kc_X5_valueOf : Cond.code yX5_valueOf cX5_valueOf 6 (some .int) ∈ am_tb := am_in (tw_m4 119 rfl) rfl
theorem kd_X5_valueOf : yX5_valueOf.cls ≠ "java/lang/invoke/MethodHandle" ∧ yX5_valueOf.cls ≠ "java/lang/invoke/VarHandle" ∧ (parseMethodDescriptor yX5_valueOf.desc).map (fun d => d.parameters.length) = some 2 := by decide +kernel
theorem ki_X5_valueOf : Cond.instanceMethod yX5_valueOf ∈ am_tb := am_in (tw_m4 118 rfl) rfl
theorem ks_X5_valueOf : Cond.selects RX5 yX5_valueOf yX5_valueOf ∈ am_tb := am_inS 53 rfl rfl
theorem kc_X6_init : Cond.code yX6_init cX6_init 1 none ∈ am_tb := am_in (tw_m1 33 rfl) rfl
theorem kd_X6_init : yX6_init.cls ≠ "java/lang/invoke/MethodHandle" ∧ yX6_init.cls ≠ "java/lang/invoke/VarHandle" ∧ (parseMethodDescriptor yX6_init.desc).map (fun d => d.parameters.length) = some 0 := by decide +kernel
theorem ki_X6_init : Cond.instanceMethod yX6_init ∈ am_tb := am_in (tw_m1 32 rfl) rfl
theorem kc_X6_addNumber : Cond.code yX6_addNumber cX6_addNumber 3 none ∈ am_tb := am_in (tw_m2 199 rfl) rfl
theorem kd_X6_addNumber : yX6_addNumber.cls ≠ "java/lang/invoke/MethodHandle" ∧ yX6_addNumber.cls ≠ "java/lang/invoke/VarHandle" ∧ (parseMethodDescriptor yX6_addNumber.desc).map (fun d => d.parameters.length) = some 1 := by decide +kernel
theorem ki_X6_addNumber : Cond.instanceMethod yX6_addNumber ∈ am_tb := am_in (tw_m2 198 rfl) rfl
theorem ks_X6_addNumber : Cond.selects RX6 yX6_addNumber yX6_addNumber ∈ am_tb := am_inS 1 rfl rfl
theorem kc_X7_init : Cond.code yX7_init cX7_init 2 none ∈ am_tb := am_in (tw_m1 164 rfl) rfl
theorem kd_X7_init : yX7_init.cls ≠ "java/lang/invoke/MethodHandle" ∧ yX7_init.cls ≠ "java/lang/invoke/VarHandle" ∧ (parseMethodDescriptor yX7_init.desc).map (fun d => d.parameters.length) = some 1 := by decide +kernel
theorem ki_X7_init : Cond.instanceMethod yX7_init ∈ am_tb := am_in (tw_m1 163 rfl) rfl
theorem kc_X7_add : Cond.code yX7_add cX7_add 4 none ∈ am_tb := am_in (tw_m3 50 rfl) rfl
theorem kd_X7_add : yX7_add.cls ≠ "java/lang/invoke/MethodHandle" ∧ yX7_add.cls ≠ "java/lang/invoke/VarHandle" ∧ (parseMethodDescriptor yX7_add.desc).map (fun d => d.parameters.length) = some 3 := by decide +kernel
theorem ki_X7_add : Cond.instanceMethod yX7_add ∈ am_tb := am_in (tw_m3 49 rfl) rfl
theorem ks_X7_add : Cond.selects RX7 yX7_add yX7_add ∈ am_tb := am_inS 10 rfl rfl
theorem kc_X7_cut : Cond.code yX7_cut cX7_cut 6 none ∈ am_tb := am_in (tw_m2 219 rfl) rfl
theorem kd_X7_cut : yX7_cut.cls ≠ "java/lang/invoke/MethodHandle" ∧ yX7_cut.cls ≠ "java/lang/invoke/VarHandle" ∧ (parseMethodDescriptor yX7_cut.desc).map (fun d => d.parameters.length) = some 0 := by decide +kernel
theorem ki_X7_cut : Cond.instanceMethod yX7_cut ∈ am_tb := am_in (tw_m2 218 rfl) rfl
theorem ks_X7_cut : Cond.selects RX7 yX7_cut yX7_cut ∈ am_tb := am_inS 4 rfl rfl
theorem kc_X7_isDigit : Cond.code yX7_isDigit cX7_isDigit 1 (some .boolean) ∈ am_tb := am_in (tw_m2 229 rfl) rfl
theorem kd_X7_isDigit : yX7_isDigit.cls ≠ "java/lang/invoke/MethodHandle" ∧ yX7_isDigit.cls ≠ "java/lang/invoke/VarHandle" ∧ (parseMethodDescriptor yX7_isDigit.desc).map (fun d => d.parameters.length) = some 1 := by decide +kernel
theorem ki_X7_isDigit : Cond.static yX7_isDigit ∈ am_tb := am_in (tw_m2 228 rfl) rfl
theorem kc_X7_isLetter : Cond.code yX7_isLetter cX7_isLetter 1 (some .boolean) ∈ am_tb := am_in (tw_m2 226 rfl) rfl
theorem kd_X7_isLetter : yX7_isLetter.cls ≠ "java/lang/invoke/MethodHandle" ∧ yX7_isLetter.cls ≠ "java/lang/invoke/VarHandle" ∧ (parseMethodDescriptor yX7_isLetter.desc).map (fun d => d.parameters.length) = some 1 := by decide +kernel
theorem ki_X7_isLetter : Cond.static yX7_isLetter ∈ am_tb := am_in (tw_m2 225 rfl) rfl
theorem kc_X7_isWord : Cond.code yX7_isWord cX7_isWord 6 (some .boolean) ∈ am_tb := am_in (tw_m2 237 rfl) rfl
theorem kd_X7_isWord : yX7_isWord.cls ≠ "java/lang/invoke/MethodHandle" ∧ yX7_isWord.cls ≠ "java/lang/invoke/VarHandle" ∧ (parseMethodDescriptor yX7_isWord.desc).map (fun d => d.parameters.length) = some 3 := by decide +kernel
theorem ki_X7_isWord : Cond.instanceMethod yX7_isWord ∈ am_tb := am_in (tw_m2 236 rfl) rfl
theorem ks_X7_isWord : Cond.selects RX7 yX7_isWord yX7_isWord ∈ am_tb := am_inS 7 rfl rfl
theorem kc_X7_lettersOf : Cond.code yX7_lettersOf cX7_lettersOf 5 (some .int) ∈ am_tb := am_in (tw_m3 42 rfl) rfl
theorem kd_X7_lettersOf : yX7_lettersOf.cls ≠ "java/lang/invoke/MethodHandle" ∧ yX7_lettersOf.cls ≠ "java/lang/invoke/VarHandle" ∧ (parseMethodDescriptor yX7_lettersOf.desc).map (fun d => d.parameters.length) = some 2 := by decide +kernel
theorem ki_X7_lettersOf : Cond.instanceMethod yX7_lettersOf ∈ am_tb := am_in (tw_m3 41 rfl) rfl
theorem ks_X7_lettersOf : Cond.selects RX7 yX7_lettersOf yX7_lettersOf ∈ am_tb := am_inS 8 rfl rfl
theorem kc_X7_numberOf : Cond.code yX7_numberOf cX7_numberOf 5 (some .int) ∈ am_tb := am_in (tw_m3 46 rfl) rfl
theorem kd_X7_numberOf : yX7_numberOf.cls ≠ "java/lang/invoke/MethodHandle" ∧ yX7_numberOf.cls ≠ "java/lang/invoke/VarHandle" ∧ (parseMethodDescriptor yX7_numberOf.desc).map (fun d => d.parameters.length) = some 2 := by decide +kernel
theorem ki_X7_numberOf : Cond.instanceMethod yX7_numberOf ∈ am_tb := am_in (tw_m3 45 rfl) rfl
theorem ks_X7_numberOf : Cond.selects RX7 yX7_numberOf yX7_numberOf ∈ am_tb := am_inS 9 rfl rfl
theorem kc_X7_runFrom : Cond.code yX7_runFrom cX7_runFrom 4 (some .int) ∈ am_tb := am_in (tw_m2 223 rfl) rfl
theorem kd_X7_runFrom : yX7_runFrom.cls ≠ "java/lang/invoke/MethodHandle" ∧ yX7_runFrom.cls ≠ "java/lang/invoke/VarHandle" ∧ (parseMethodDescriptor yX7_runFrom.desc).map (fun d => d.parameters.length) = some 1 := by decide +kernel
theorem ki_X7_runFrom : Cond.instanceMethod yX7_runFrom ∈ am_tb := am_in (tw_m2 222 rfl) rfl
theorem ks_X7_runFrom : Cond.selects RX7 yX7_runFrom yX7_runFrom ∈ am_tb := am_inS 5 rfl rfl
theorem kc_X7_wordKind : Cond.code yX7_wordKind cX7_wordKind 4 (some .int) ∈ am_tb := am_in (tw_m2 233 rfl) rfl
theorem kd_X7_wordKind : yX7_wordKind.cls ≠ "java/lang/invoke/MethodHandle" ∧ yX7_wordKind.cls ≠ "java/lang/invoke/VarHandle" ∧ (parseMethodDescriptor yX7_wordKind.desc).map (fun d => d.parameters.length) = some 2 := by decide +kernel
theorem ki_X7_wordKind : Cond.instanceMethod yX7_wordKind ∈ am_tb := am_in (tw_m2 232 rfl) rfl
theorem ks_X7_wordKind : Cond.selects RX7 yX7_wordKind yX7_wordKind ∈ am_tb := am_inS 6 rfl rfl
theorem kc_X8_init : Cond.code yX8_init cX8_init 1 none ∈ am_tb := am_in (tw_m1 53 rfl) rfl
theorem kd_X8_init : yX8_init.cls ≠ "java/lang/invoke/MethodHandle" ∧ yX8_init.cls ≠ "java/lang/invoke/VarHandle" ∧ (parseMethodDescriptor yX8_init.desc).map (fun d => d.parameters.length) = some 0 := by decide +kernel
theorem ki_X8_init : Cond.instanceMethod yX8_init ∈ am_tb := am_in (tw_m1 52 rfl) rfl
theorem kc_X8_addFrost : Cond.code yX8_addFrost cX8_addFrost 4 none ∈ am_tb := am_in (tw_m3 188 rfl) rfl
theorem kd_X8_addFrost : yX8_addFrost.cls ≠ "java/lang/invoke/MethodHandle" ∧ yX8_addFrost.cls ≠ "java/lang/invoke/VarHandle" ∧ (parseMethodDescriptor yX8_addFrost.desc).map (fun d => d.parameters.length) = some 2 := by decide +kernel
theorem ki_X8_addFrost : Cond.instanceMethod yX8_addFrost ∈ am_tb := am_in (tw_m3 187 rfl) rfl
theorem ks_X8_addFrost : Cond.selects RX8 yX8_addFrost yX8_addFrost ∈ am_tb := am_inS 26 rfl rfl
theorem kc_X8_addPerson : Cond.code yX8_addPerson cX8_addPerson 4 none ∈ am_tb := am_in (tw_m3 161 rfl) rfl
theorem kd_X8_addPerson : yX8_addPerson.cls ≠ "java/lang/invoke/MethodHandle" ∧ yX8_addPerson.cls ≠ "java/lang/invoke/VarHandle" ∧ (parseMethodDescriptor yX8_addPerson.desc).map (fun d => d.parameters.length) = some 3 := by decide +kernel
theorem ki_X8_addPerson : Cond.instanceMethod yX8_addPerson ∈ am_tb := am_in (tw_m3 160 rfl) rfl
theorem ks_X8_addPerson : Cond.selects RX8 yX8_addPerson yX8_addPerson ∈ am_tb := am_inS 20 rfl rfl
theorem kc_X8_addReminds : Cond.code yX8_addReminds cX8_addReminds 3 (some .boolean) ∈ am_tb := am_in (tw_m3 180 rfl) rfl
theorem kd_X8_addReminds : yX8_addReminds.cls ≠ "java/lang/invoke/MethodHandle" ∧ yX8_addReminds.cls ≠ "java/lang/invoke/VarHandle" ∧ (parseMethodDescriptor yX8_addReminds.desc).map (fun d => d.parameters.length) = some 2 := by decide +kernel
theorem ki_X8_addReminds : Cond.instanceMethod yX8_addReminds ∈ am_tb := am_in (tw_m3 179 rfl) rfl
theorem ks_X8_addReminds : Cond.selects RX8 yX8_addReminds yX8_addReminds ∈ am_tb := am_inS 24 rfl rfl
theorem kc_X8_addTold : Cond.code yX8_addTold cX8_addTold 3 (some .boolean) ∈ am_tb := am_in (tw_m3 169 rfl) rfl
theorem kd_X8_addTold : yX8_addTold.cls ≠ "java/lang/invoke/MethodHandle" ∧ yX8_addTold.cls ≠ "java/lang/invoke/VarHandle" ∧ (parseMethodDescriptor yX8_addTold.desc).map (fun d => d.parameters.length) = some 2 := by decide +kernel
theorem ki_X8_addTold : Cond.instanceMethod yX8_addTold ∈ am_tb := am_in (tw_m3 168 rfl) rfl
theorem ks_X8_addTold : Cond.selects RX8 yX8_addTold yX8_addTold ∈ am_tb := am_inS 22 rfl rfl
theorem kc_X8_clear : Cond.code yX8_clear cX8_clear 1 none ∈ am_tb := am_in (tw_m3 126 rfl) rfl
theorem kd_X8_clear : yX8_clear.cls ≠ "java/lang/invoke/MethodHandle" ∧ yX8_clear.cls ≠ "java/lang/invoke/VarHandle" ∧ (parseMethodDescriptor yX8_clear.desc).map (fun d => d.parameters.length) = some 0 := by decide +kernel
theorem ki_X8_clear : Cond.instanceMethod yX8_clear ∈ am_tb := am_in (tw_m3 125 rfl) rfl
theorem ks_X8_clear : Cond.selects RX8 yX8_clear yX8_clear ∈ am_tb := am_inS 12 rfl rfl
theorem kc_X8_everybody : Cond.code yX8_everybody cX8_everybody 1 (some .int) ∈ am_tb := am_in (tw_m4 25 rfl) rfl
theorem kd_X8_everybody : yX8_everybody.cls ≠ "java/lang/invoke/MethodHandle" ∧ yX8_everybody.cls ≠ "java/lang/invoke/VarHandle" ∧ (parseMethodDescriptor yX8_everybody.desc).map (fun d => d.parameters.length) = some 0 := by decide +kernel
theorem ki_X8_everybody : Cond.instanceMethod yX8_everybody ∈ am_tb := am_in (tw_m4 24 rfl) rfl
theorem ks_X8_everybody : Cond.selects RX8 yX8_everybody yX8_everybody ∈ am_tb := am_inS 41 rfl rfl
theorem kc_X8_find : Cond.code yX8_find cX8_find 3 (some .int) ∈ am_tb := am_in (tw_m3 153 rfl) rfl
theorem kd_X8_find : yX8_find.cls ≠ "java/lang/invoke/MethodHandle" ∧ yX8_find.cls ≠ "java/lang/invoke/VarHandle" ∧ (parseMethodDescriptor yX8_find.desc).map (fun d => d.parameters.length) = some 1 := by decide +kernel
theorem ki_X8_find : Cond.instanceMethod yX8_find ∈ am_tb := am_in (tw_m3 152 rfl) rfl
theorem ks_X8_find : Cond.selects RX8 yX8_find yX8_find ∈ am_tb := am_inS 18 rfl rfl
theorem kc_X8_isFull : Cond.code yX8_isFull cX8_isFull 2 (some .boolean) ∈ am_tb := am_in (tw_m3 137 rfl) rfl
theorem kd_X8_isFull : yX8_isFull.cls ≠ "java/lang/invoke/MethodHandle" ∧ yX8_isFull.cls ≠ "java/lang/invoke/VarHandle" ∧ (parseMethodDescriptor yX8_isFull.desc).map (fun d => d.parameters.length) = some 1 := by decide +kernel
theorem ki_X8_isFull : Cond.instanceMethod yX8_isFull ∈ am_tb := am_in (tw_m3 136 rfl) rfl
theorem ks_X8_isFull : Cond.selects RX8 yX8_isFull yX8_isFull ∈ am_tb := am_inS 14 rfl rfl
theorem kc_X8_ruleOf : Cond.code yX8_ruleOf cX8_ruleOf 2 (some (.object "ForgottenFeast$Rule")) ∈ am_tb := am_in (tw_m3 227 rfl) rfl
theorem kd_X8_ruleOf : yX8_ruleOf.cls ≠ "java/lang/invoke/MethodHandle" ∧ yX8_ruleOf.cls ≠ "java/lang/invoke/VarHandle" ∧ (parseMethodDescriptor yX8_ruleOf.desc).map (fun d => d.parameters.length) = some 1 := by decide +kernel
theorem ki_X8_ruleOf : Cond.instanceMethod yX8_ruleOf ∈ am_tb := am_in (tw_m3 226 rfl) rfl
theorem ks_X8_ruleOf : Cond.selects RX8 yX8_ruleOf yX8_ruleOf ∈ am_tb := am_inS 35 rfl rfl
theorem kc_X10_init : Cond.code yX10_init cX10_init 1 none ∈ am_tb := am_in (tw_m5 140 rfl) rfl
theorem kd_X10_init : yX10_init.cls ≠ "java/lang/invoke/MethodHandle" ∧ yX10_init.cls ≠ "java/lang/invoke/VarHandle" ∧ (parseMethodDescriptor yX10_init.desc).map (fun d => d.parameters.length) = some 0 := by decide +kernel
theorem ki_X10_init : Cond.instanceMethod yX10_init ∈ am_tb := am_in (tw_m5 139 rfl) rfl
theorem kc_X10_agoOf : Cond.code yX10_agoOf cX10_agoOf 2 (some .int) ∈ am_tb := am_in (tw_m7 229 rfl) rfl
theorem kd_X10_agoOf : yX10_agoOf.cls ≠ "java/lang/invoke/MethodHandle" ∧ yX10_agoOf.cls ≠ "java/lang/invoke/VarHandle" ∧ (parseMethodDescriptor yX10_agoOf.desc).map (fun d => d.parameters.length) = some 1 := by decide +kernel
theorem ki_X10_agoOf : Cond.instanceMethod yX10_agoOf ∈ am_tb := am_in (tw_m7 228 rfl) rfl
theorem ks_X10_agoOf : Cond.selects RX10 yX10_agoOf yX10_agoOf ∈ am_tb := am_inS 124 rfl rfl
theorem kc_X10_anyThinks : Cond.code yX10_anyThinks cX10_anyThinks 3 (some .boolean) ∈ am_tb := am_in (tw_m8 146 rfl) rfl
theorem kd_X10_anyThinks : yX10_anyThinks.cls ≠ "java/lang/invoke/MethodHandle" ∧ yX10_anyThinks.cls ≠ "java/lang/invoke/VarHandle" ∧ (parseMethodDescriptor yX10_anyThinks.desc).map (fun d => d.parameters.length) = some 2 := by decide +kernel
theorem ki_X10_anyThinks : Cond.instanceMethod yX10_anyThinks ∈ am_tb := am_in (tw_m8 145 rfl) rfl
theorem ks_X10_anyThinks : Cond.selects RX10 yX10_anyThinks yX10_anyThinks ∈ am_tb := am_inS 149 rfl rfl
theorem kc_X10_areSetsTold : Cond.code yX10_areSetsTold cX10_areSetsTold 7 (some .boolean) ∈ am_tb := am_in (tw_m9 64 rfl) rfl
theorem kd_X10_areSetsTold : yX10_areSetsTold.cls ≠ "java/lang/invoke/MethodHandle" ∧ yX10_areSetsTold.cls ≠ "java/lang/invoke/VarHandle" ∧ (parseMethodDescriptor yX10_areSetsTold.desc).map (fun d => d.parameters.length) = some 3 := by decide +kernel
theorem ki_X10_areSetsTold : Cond.instanceMethod yX10_areSetsTold ∈ am_tb := am_in (tw_m9 63 rfl) rfl
theorem ks_X10_areSetsTold : Cond.selects RX10 yX10_areSetsTold yX10_areSetsTold ∈ am_tb := am_inS 170 rfl rfl
theorem kc_X10_ask : Cond.code yX10_ask cX10_ask 4 (some .long) ∈ am_tb := am_in (tw_m9 1 rfl) rfl
theorem kd_X10_ask : yX10_ask.cls ≠ "java/lang/invoke/MethodHandle" ∧ yX10_ask.cls ≠ "java/lang/invoke/VarHandle" ∧ (parseMethodDescriptor yX10_ask.desc).map (fun d => d.parameters.length) = some 1 := by decide +kernel
theorem ki_X10_ask : Cond.instanceMethod yX10_ask ∈ am_tb := am_in (tw_m8 239 rfl) rfl
theorem ks_X10_ask : Cond.selects RX10 yX10_ask yX10_ask ∈ am_tb := am_in (tw_m9 0 rfl) rfl
theorem kc_X10_askedBy : Cond.code yX10_askedBy cX10_askedBy 2 (some .int) ∈ am_tb := am_in (tw_m7 225 rfl) rfl
theorem kd_X10_askedBy : yX10_askedBy.cls ≠ "java/lang/invoke/MethodHandle" ∧ yX10_askedBy.cls ≠ "java/lang/invoke/VarHandle" ∧ (parseMethodDescriptor yX10_askedBy.desc).map (fun d => d.parameters.length) = some 1 := by decide +kernel
theorem ki_X10_askedBy : Cond.instanceMethod yX10_askedBy ∈ am_tb := am_in (tw_m7 224 rfl) rfl
theorem ks_X10_askedBy : Cond.selects RX10 yX10_askedBy yX10_askedBy ∈ am_tb := am_inS 123 rfl rfl
theorem kc_X10_asks : Cond.code yX10_asks cX10_asks 2 none ∈ am_tb := am_in (tw_m7 7 rfl) rfl
theorem kd_X10_asks : yX10_asks.cls ≠ "java/lang/invoke/MethodHandle" ∧ yX10_asks.cls ≠ "java/lang/invoke/VarHandle" ∧ (parseMethodDescriptor yX10_asks.desc).map (fun d => d.parameters.length) = some 1 := by decide +kernel
theorem ki_X10_asks : Cond.instanceMethod yX10_asks ∈ am_tb := am_in (tw_m7 6 rfl) rfl
theorem ks_X10_asks : Cond.selects RX10 yX10_asks yX10_asks ∈ am_tb := am_inS 77 rfl rfl
theorem kc_X10_asksDay : Cond.code yX10_asksDay cX10_asksDay 2 none ∈ am_tb := am_in (tw_m8 52 rfl) rfl
theorem kd_X10_asksDay : yX10_asksDay.cls ≠ "java/lang/invoke/MethodHandle" ∧ yX10_asksDay.cls ≠ "java/lang/invoke/VarHandle" ∧ (parseMethodDescriptor yX10_asksDay.desc).map (fun d => d.parameters.length) = some 1 := by decide +kernel
theorem ki_X10_asksDay : Cond.instanceMethod yX10_asksDay ∈ am_tb := am_in (tw_m8 51 rfl) rfl
theorem ks_X10_asksDay : Cond.selects RX10 yX10_asksDay yX10_asksDay ∈ am_tb := am_inS 136 rfl rfl
theorem kc_X10_asksSign : Cond.code yX10_asksSign cX10_asksSign 2 none ∈ am_tb := am_in (tw_m7 40 rfl) rfl
theorem kd_X10_asksSign : yX10_asksSign.cls ≠ "java/lang/invoke/MethodHandle" ∧ yX10_asksSign.cls ≠ "java/lang/invoke/VarHandle" ∧ (parseMethodDescriptor yX10_asksSign.desc).map (fun d => d.parameters.length) = some 1 := by decide +kernel
theorem ki_X10_asksSign : Cond.instanceMethod yX10_asksSign ∈ am_tb := am_in (tw_m7 39 rfl) rfl
theorem ks_X10_asksSign : Cond.selects RX10 yX10_asksSign yX10_asksSign ∈ am_tb := am_inS 83 rfl rfl
theorem kc_X10_begins : Cond.code yX10_begins cX10_begins 1 none ∈ am_tb := am_in (tw_m8 44 rfl) rfl
theorem kd_X10_begins : yX10_begins.cls ≠ "java/lang/invoke/MethodHandle" ∧ yX10_begins.cls ≠ "java/lang/invoke/VarHandle" ∧ (parseMethodDescriptor yX10_begins.desc).map (fun d => d.parameters.length) = some 0 := by decide +kernel
theorem ki_X10_begins : Cond.instanceMethod yX10_begins ∈ am_tb := am_in (tw_m8 43 rfl) rfl
theorem ks_X10_begins : Cond.selects RX10 yX10_begins yX10_begins ∈ am_tb := am_inS 134 rfl rfl
theorem kc_X10_bits : Cond.code yX10_bits cX10_bits 3 (some .int) ∈ am_tb := am_in (tw_m7 200 rfl) rfl
theorem kd_X10_bits : yX10_bits.cls ≠ "java/lang/invoke/MethodHandle" ∧ yX10_bits.cls ≠ "java/lang/invoke/VarHandle" ∧ (parseMethodDescriptor yX10_bits.desc).map (fun d => d.parameters.length) = some 1 := by decide +kernel
theorem ki_X10_bits : Cond.static yX10_bits ∈ am_tb := am_in (tw_m7 199 rfl) rfl
theorem kc_X10_bribe : Cond.code yX10_bribe cX10_bribe 4 (some .int) ∈ am_tb := am_in (tw_m8 216 rfl) rfl
theorem kd_X10_bribe : yX10_bribe.cls ≠ "java/lang/invoke/MethodHandle" ∧ yX10_bribe.cls ≠ "java/lang/invoke/VarHandle" ∧ (parseMethodDescriptor yX10_bribe.desc).map (fun d => d.parameters.length) = some 2 := by decide +kernel
theorem ki_X10_bribe : Cond.instanceMethod yX10_bribe ∈ am_tb := am_in (tw_m8 214 rfl) rfl
theorem ks_X10_bribe : Cond.selects RX10 yX10_bribe yX10_bribe ∈ am_tb := am_in (tw_m8 215 rfl) rfl
theorem kc_X10_bribesFirst : Cond.code yX10_bribesFirst cX10_bribesFirst 4 (some .boolean) ∈ am_tb := am_in (tw_m8 162 rfl) rfl
theorem kd_X10_bribesFirst : yX10_bribesFirst.cls ≠ "java/lang/invoke/MethodHandle" ∧ yX10_bribesFirst.cls ≠ "java/lang/invoke/VarHandle" ∧ (parseMethodDescriptor yX10_bribesFirst.desc).map (fun d => d.parameters.length) = some 1 := by decide +kernel
theorem ki_X10_bribesFirst : Cond.instanceMethod yX10_bribesFirst ∈ am_tb := am_in (tw_m8 161 rfl) rfl
theorem ks_X10_bribesFirst : Cond.selects RX10 yX10_bribesFirst yX10_bribesFirst ∈ am_tb := am_inS 153 rfl rfl
theorem kc_X10_bribesLast : Cond.code yX10_bribesLast cX10_bribesLast 5 (some .boolean) ∈ am_tb := am_in (tw_m8 154 rfl) rfl
theorem kd_X10_bribesLast : yX10_bribesLast.cls ≠ "java/lang/invoke/MethodHandle" ∧ yX10_bribesLast.cls ≠ "java/lang/invoke/VarHandle" ∧ (parseMethodDescriptor yX10_bribesLast.desc).map (fun d => d.parameters.length) = some 2 := by decide +kernel
theorem ki_X10_bribesLast : Cond.instanceMethod yX10_bribesLast ∈ am_tb := am_in (tw_m8 153 rfl) rfl
theorem ks_X10_bribesLast : Cond.selects RX10 yX10_bribesLast yX10_bribesLast ∈ am_tb := am_inS 151 rfl rfl
theorem kc_X10_canCome : Cond.code yX10_canCome cX10_canCome 1 (some .boolean) ∈ am_tb := am_in (tw_m8 137 rfl) rfl
theorem kd_X10_canCome : yX10_canCome.cls ≠ "java/lang/invoke/MethodHandle" ∧ yX10_canCome.cls ≠ "java/lang/invoke/VarHandle" ∧ (parseMethodDescriptor yX10_canCome.desc).map (fun d => d.parameters.length) = some 0 := by decide +kernel
theorem ki_X10_canCome : Cond.instanceMethod yX10_canCome ∈ am_tb := am_in (tw_m8 136 rfl) rfl
theorem ks_X10_canCome : Cond.selects RX10 yX10_canCome yX10_canCome ∈ am_tb := am_inS 148 rfl rfl
theorem kc_X10_chance : Cond.code yX10_chance cX10_chance 5 (some .int) ∈ am_tb := am_in (tw_m8 229 rfl) rfl
theorem kd_X10_chance : yX10_chance.cls ≠ "java/lang/invoke/MethodHandle" ∧ yX10_chance.cls ≠ "java/lang/invoke/VarHandle" ∧ (parseMethodDescriptor yX10_chance.desc).map (fun d => d.parameters.length) = some 1 := by decide +kernel
theorem ki_X10_chance : Cond.instanceMethod yX10_chance ∈ am_tb := am_in (tw_m8 227 rfl) rfl
theorem ks_X10_chance : Cond.selects RX10 yX10_chance yX10_chance ∈ am_tb := am_in (tw_m8 228 rfl) rfl
theorem kc_X10_cheapest : Cond.code yX10_cheapest cX10_cheapest 7 (some .int) ∈ am_tb := am_in (tw_m8 129 rfl) rfl
theorem kd_X10_cheapest : yX10_cheapest.cls ≠ "java/lang/invoke/MethodHandle" ∧ yX10_cheapest.cls ≠ "java/lang/invoke/VarHandle" ∧ (parseMethodDescriptor yX10_cheapest.desc).map (fun d => d.parameters.length) = some 1 := by decide +kernel
theorem ki_X10_cheapest : Cond.instanceMethod yX10_cheapest ∈ am_tb := am_in (tw_m8 127 rfl) rfl
theorem ks_X10_cheapest : Cond.selects RX10 yX10_cheapest yX10_cheapest ∈ am_tb := am_in (tw_m8 128 rfl) rfl
theorem kc_X10_checked : Cond.code yX10_checked cX10_checked 4 (some .int) ∈ am_tb := am_in (tw_m9 35 rfl) rfl
theorem kd_X10_checked : yX10_checked.cls ≠ "java/lang/invoke/MethodHandle" ∧ yX10_checked.cls ≠ "java/lang/invoke/VarHandle" ∧ (parseMethodDescriptor yX10_checked.desc).map (fun d => d.parameters.length) = some 2 := by decide +kernel
theorem ki_X10_checked : Cond.static yX10_checked ∈ am_tb := am_in (tw_m9 34 rfl) rfl
theorem kc_X10_codesTold : Cond.code yX10_codesTold cX10_codesTold 4 none ∈ am_tb := am_in (tw_m7 90 rfl) rfl
theorem kd_X10_codesTold : yX10_codesTold.cls ≠ "java/lang/invoke/MethodHandle" ∧ yX10_codesTold.cls ≠ "java/lang/invoke/VarHandle" ∧ (parseMethodDescriptor yX10_codesTold.desc).map (fun d => d.parameters.length) = some 2 := by decide +kernel
theorem ki_X10_codesTold : Cond.instanceMethod yX10_codesTold ∈ am_tb := am_in (tw_m7 89 rfl) rfl
theorem ks_X10_codesTold : Cond.selects RX10 yX10_codesTold yX10_codesTold ∈ am_tb := am_inS 95 rfl rfl
theorem kc_X10_coinsTold : Cond.code yX10_coinsTold cX10_coinsTold 1 (some .int) ∈ am_tb := am_in (tw_m9 60 rfl) rfl
theorem kd_X10_coinsTold : yX10_coinsTold.cls ≠ "java/lang/invoke/MethodHandle" ∧ yX10_coinsTold.cls ≠ "java/lang/invoke/VarHandle" ∧ (parseMethodDescriptor yX10_coinsTold.desc).map (fun d => d.parameters.length) = some 0 := by decide +kernel
theorem ki_X10_coinsTold : Cond.instanceMethod yX10_coinsTold ∈ am_tb := am_in (tw_m9 59 rfl) rfl
theorem ks_X10_coinsTold : Cond.selects RX10 yX10_coinsTold yX10_coinsTold ∈ am_tb := am_inS 169 rfl rfl
theorem kc_X10_costOf : Cond.code yX10_costOf cX10_costOf 4 (some .int) ∈ am_tb := am_in (tw_m8 125 rfl) rfl
theorem kd_X10_costOf : yX10_costOf.cls ≠ "java/lang/invoke/MethodHandle" ∧ yX10_costOf.cls ≠ "java/lang/invoke/VarHandle" ∧ (parseMethodDescriptor yX10_costOf.desc).map (fun d => d.parameters.length) = some 1 := by decide +kernel
theorem ki_X10_costOf : Cond.instanceMethod yX10_costOf ∈ am_tb := am_in (tw_m8 124 rfl) rfl
theorem ks_X10_costOf : Cond.selects RX10 yX10_costOf yX10_costOf ∈ am_tb := am_inS 147 rfl rfl
theorem kc_X10_costs : Cond.code yX10_costs cX10_costs 3 (some .int) ∈ am_tb := am_in (tw_m8 121 rfl) rfl
theorem kd_X10_costs : yX10_costs.cls ≠ "java/lang/invoke/MethodHandle" ∧ yX10_costs.cls ≠ "java/lang/invoke/VarHandle" ∧ (parseMethodDescriptor yX10_costs.desc).map (fun d => d.parameters.length) = some 1 := by decide +kernel
theorem ki_X10_costs : Cond.instanceMethod yX10_costs ∈ am_tb := am_in (tw_m8 119 rfl) rfl
theorem ks_X10_costs : Cond.selects RX10 yX10_costs yX10_costs ∈ am_tb := am_in (tw_m8 120 rfl) rfl
theorem kc_X10_day : Cond.code yX10_day cX10_day 3 (some .int) ∈ am_tb := am_in (tw_m8 1 rfl) rfl
theorem kd_X10_day : yX10_day.cls ≠ "java/lang/invoke/MethodHandle" ∧ yX10_day.cls ≠ "java/lang/invoke/VarHandle" ∧ (parseMethodDescriptor yX10_day.desc).map (fun d => d.parameters.length) = some 2 := by decide +kernel
theorem ki_X10_day : Cond.instanceMethod yX10_day ∈ am_tb := am_in (tw_m7 239 rfl) rfl
theorem ks_X10_day : Cond.selects RX10 yX10_day yX10_day ∈ am_tb := am_in (tw_m8 0 rfl) rfl
theorem kc_X10_dayGoes : Cond.code yX10_dayGoes cX10_dayGoes 3 none ∈ am_tb := am_in (tw_m8 40 rfl) rfl
theorem kd_X10_dayGoes : yX10_dayGoes.cls ≠ "java/lang/invoke/MethodHandle" ∧ yX10_dayGoes.cls ≠ "java/lang/invoke/VarHandle" ∧ (parseMethodDescriptor yX10_dayGoes.desc).map (fun d => d.parameters.length) = some 0 := by decide +kernel
theorem ki_X10_dayGoes : Cond.instanceMethod yX10_dayGoes ∈ am_tb := am_in (tw_m8 39 rfl) rfl
theorem ks_X10_dayGoes : Cond.selects RX10 yX10_dayGoes yX10_dayGoes ∈ am_tb := am_inS 133 rfl rfl
theorem kc_X10_daysGo : Cond.code yX10_daysGo cX10_daysGo 3 none ∈ am_tb := am_in (tw_m8 36 rfl) rfl
theorem kd_X10_daysGo : yX10_daysGo.cls ≠ "java/lang/invoke/MethodHandle" ∧ yX10_daysGo.cls ≠ "java/lang/invoke/VarHandle" ∧ (parseMethodDescriptor yX10_daysGo.desc).map (fun d => d.parameters.length) = some 1 := by decide +kernel
theorem ki_X10_daysGo : Cond.instanceMethod yX10_daysGo ∈ am_tb := am_in (tw_m8 35 rfl) rfl
theorem ks_X10_daysGo : Cond.selects RX10 yX10_daysGo yX10_daysGo ∈ am_tb := am_inS 132 rfl rfl
theorem kc_X10_daysLeft : Cond.code yX10_daysLeft cX10_daysLeft 1 (some .int) ∈ am_tb := am_in (tw_m8 27 rfl) rfl
theorem kd_X10_daysLeft : yX10_daysLeft.cls ≠ "java/lang/invoke/MethodHandle" ∧ yX10_daysLeft.cls ≠ "java/lang/invoke/VarHandle" ∧ (parseMethodDescriptor yX10_daysLeft.desc).map (fun d => d.parameters.length) = some 0 := by decide +kernel
theorem ki_X10_daysLeft : Cond.instanceMethod yX10_daysLeft ∈ am_tb := am_in (tw_m8 26 rfl) rfl
theorem ks_X10_daysLeft : Cond.selects RX10 yX10_daysLeft yX10_daysLeft ∈ am_tb := am_inS 130 rfl rfl
theorem kc_X10_daysTold : Cond.code yX10_daysTold cX10_daysTold 1 none ∈ am_tb := am_in (tw_m7 3 rfl) rfl
theorem kd_X10_daysTold : yX10_daysTold.cls ≠ "java/lang/invoke/MethodHandle" ∧ yX10_daysTold.cls ≠ "java/lang/invoke/VarHandle" ∧ (parseMethodDescriptor yX10_daysTold.desc).map (fun d => d.parameters.length) = some 0 := by decide +kernel
theorem ki_X10_daysTold : Cond.instanceMethod yX10_daysTold ∈ am_tb := am_in (tw_m7 2 rfl) rfl
theorem ks_X10_daysTold : Cond.selects RX10 yX10_daysTold yX10_daysTold ∈ am_tb := am_inS 76 rfl rfl
theorem kc_X10_dies : Cond.code yX10_dies cX10_dies 2 (some .boolean) ∈ am_tb := am_in (tw_m8 221 rfl) rfl
theorem kd_X10_dies : yX10_dies.cls ≠ "java/lang/invoke/MethodHandle" ∧ yX10_dies.cls ≠ "java/lang/invoke/VarHandle" ∧ (parseMethodDescriptor yX10_dies.desc).map (fun d => d.parameters.length) = some 1 := by decide +kernel
theorem ki_X10_dies : Cond.instanceMethod yX10_dies ∈ am_tb := am_in (tw_m8 219 rfl) rfl
theorem ks_X10_dies : Cond.selects RX10 yX10_dies yX10_dies ∈ am_tb := am_in (tw_m8 220 rfl) rfl
theorem kc_X10_drawOf : Cond.code yX10_drawOf cX10_drawOf 2 (some .int) ∈ am_tb := am_in (tw_m8 233 rfl) rfl
theorem kd_X10_drawOf : yX10_drawOf.cls ≠ "java/lang/invoke/MethodHandle" ∧ yX10_drawOf.cls ≠ "java/lang/invoke/VarHandle" ∧ (parseMethodDescriptor yX10_drawOf.desc).map (fun d => d.parameters.length) = some 1 := by decide +kernel
theorem ki_X10_drawOf : Cond.instanceMethod yX10_drawOf ∈ am_tb := am_in (tw_m8 232 rfl) rfl
theorem ks_X10_drawOf : Cond.selects RX10 yX10_drawOf yX10_drawOf ∈ am_tb := am_inS 159 rfl rfl
theorem kc_X10_end : Cond.code yX10_end cX10_end 2 (some .boolean) ∈ am_tb := am_in (tw_m6 235 rfl) rfl
theorem kd_X10_end : yX10_end.cls ≠ "java/lang/invoke/MethodHandle" ∧ yX10_end.cls ≠ "java/lang/invoke/VarHandle" ∧ (parseMethodDescriptor yX10_end.desc).map (fun d => d.parameters.length) = some 1 := by decide +kernel
theorem ki_X10_end : Cond.instanceMethod yX10_end ∈ am_tb := am_in (tw_m6 233 rfl) rfl
theorem ks_X10_end : Cond.selects RX10 yX10_end yX10_end ∈ am_tb := am_in (tw_m6 234 rfl) rfl
theorem kc_X10_enough : Cond.code yX10_enough cX10_enough 5 (some .int) ∈ am_tb := am_in (tw_m8 133 rfl) rfl
theorem kd_X10_enough : yX10_enough.cls ≠ "java/lang/invoke/MethodHandle" ∧ yX10_enough.cls ≠ "java/lang/invoke/VarHandle" ∧ (parseMethodDescriptor yX10_enough.desc).map (fun d => d.parameters.length) = some 1 := by decide +kernel
theorem ki_X10_enough : Cond.instanceMethod yX10_enough ∈ am_tb := am_in (tw_m8 131 rfl) rfl
theorem ks_X10_enough : Cond.selects RX10 yX10_enough yX10_enough ∈ am_tb := am_in (tw_m8 132 rfl) rfl
theorem kc_X10_fail : Cond.code yX10_fail cX10_fail 3 none ∈ am_tb := am_in (tw_m7 26 rfl) rfl
theorem kd_X10_fail : yX10_fail.cls ≠ "java/lang/invoke/MethodHandle" ∧ yX10_fail.cls ≠ "java/lang/invoke/VarHandle" ∧ (parseMethodDescriptor yX10_fail.desc).map (fun d => d.parameters.length) = some 2 := by decide +kernel
theorem ki_X10_fail : Cond.instanceMethod yX10_fail ∈ am_tb := am_in (tw_m7 25 rfl) rfl
theorem ks_X10_fail : Cond.selects RX10 yX10_fail yX10_fail ∈ am_tb := am_inS 81 rfl rfl
theorem kc_X10_fault : Cond.code yX10_fault cX10_fault 2 (some .int) ∈ am_tb := am_in (tw_m7 177 rfl) rfl
theorem kd_X10_fault : yX10_fault.cls ≠ "java/lang/invoke/MethodHandle" ∧ yX10_fault.cls ≠ "java/lang/invoke/VarHandle" ∧ (parseMethodDescriptor yX10_fault.desc).map (fun d => d.parameters.length) = some 1 := by decide +kernel
theorem ki_X10_fault : Cond.instanceMethod yX10_fault ∈ am_tb := am_in (tw_m7 175 rfl) rfl
theorem ks_X10_fault : Cond.selects RX10 yX10_fault yX10_fault ∈ am_tb := am_in (tw_m7 176 rfl) rfl
theorem kc_X10_feed : Cond.code yX10_feed cX10_feed 8 (some .int) ∈ am_tb := am_in (tw_m6 231 rfl) rfl
theorem kd_X10_feed : yX10_feed.cls ≠ "java/lang/invoke/MethodHandle" ∧ yX10_feed.cls ≠ "java/lang/invoke/VarHandle" ∧ (parseMethodDescriptor yX10_feed.desc).map (fun d => d.parameters.length) = some 5 := by decide +kernel
theorem ki_X10_feed : Cond.instanceMethod yX10_feed ∈ am_tb := am_in (tw_m6 229 rfl) rfl
theorem ks_X10_feed : Cond.selects RX10 yX10_feed yX10_feed ∈ am_tb := am_in (tw_m6 230 rfl) rfl
theorem kc_X10_first : Cond.code yX10_first cX10_first 5 (some .int) ∈ am_tb := am_in (tw_m8 100 rfl) rfl
theorem kd_X10_first : yX10_first.cls ≠ "java/lang/invoke/MethodHandle" ∧ yX10_first.cls ≠ "java/lang/invoke/VarHandle" ∧ (parseMethodDescriptor yX10_first.desc).map (fun d => d.parameters.length) = some 1 := by decide +kernel
theorem ki_X10_first : Cond.instanceMethod yX10_first ∈ am_tb := am_in (tw_m8 98 rfl) rfl
theorem ks_X10_first : Cond.selects RX10 yX10_first yX10_first ∈ am_tb := am_in (tw_m8 99 rfl) rfl
theorem kc_X10_frostTold : Cond.code yX10_frostTold cX10_frostTold 4 none ∈ am_tb := am_in (tw_m7 86 rfl) rfl
theorem kd_X10_frostTold : yX10_frostTold.cls ≠ "java/lang/invoke/MethodHandle" ∧ yX10_frostTold.cls ≠ "java/lang/invoke/VarHandle" ∧ (parseMethodDescriptor yX10_frostTold.desc).map (fun d => d.parameters.length) = some 1 := by decide +kernel
theorem ki_X10_frostTold : Cond.instanceMethod yX10_frostTold ∈ am_tb := am_in (tw_m7 85 rfl) rfl
theorem ks_X10_frostTold : Cond.selects RX10 yX10_frostTold yX10_frostTold ∈ am_tb := am_inS 94 rfl rfl
theorem kc_X10_go : Cond.code yX10_go cX10_go 4 (some .int) ∈ am_tb := am_in (tw_m8 199 rfl) rfl
theorem kd_X10_go : yX10_go.cls ≠ "java/lang/invoke/MethodHandle" ∧ yX10_go.cls ≠ "java/lang/invoke/VarHandle" ∧ (parseMethodDescriptor yX10_go.desc).map (fun d => d.parameters.length) = some 1 := by decide +kernel
theorem ki_X10_go : Cond.instanceMethod yX10_go ∈ am_tb := am_in (tw_m8 197 rfl) rfl
theorem ks_X10_go : Cond.selects RX10 yX10_go yX10_go ∈ am_tb := am_in (tw_m8 198 rfl) rfl
theorem kc_X10_hangs : Cond.code yX10_hangs cX10_hangs 3 (some .int) ∈ am_tb := am_in (tw_m8 104 rfl) rfl
theorem kd_X10_hangs : yX10_hangs.cls ≠ "java/lang/invoke/MethodHandle" ∧ yX10_hangs.cls ≠ "java/lang/invoke/VarHandle" ∧ (parseMethodDescriptor yX10_hangs.desc).map (fun d => d.parameters.length) = some 1 := by decide +kernel
theorem ki_X10_hangs : Cond.instanceMethod yX10_hangs ∈ am_tb := am_in (tw_m8 102 rfl) rfl
theorem ks_X10_hangs : Cond.selects RX10 yX10_hangs yX10_hangs ∈ am_tb := am_in (tw_m8 103 rfl) rfl
theorem kc_X10_hangsNext : Cond.code yX10_hangsNext cX10_hangsNext 11 (some .int) ∈ am_tb := am_in (tw_m8 108 rfl) rfl
theorem kd_X10_hangsNext : yX10_hangsNext.cls ≠ "java/lang/invoke/MethodHandle" ∧ yX10_hangsNext.cls ≠ "java/lang/invoke/VarHandle" ∧ (parseMethodDescriptor yX10_hangsNext.desc).map (fun d => d.parameters.length) = some 0 := by decide +kernel
theorem ki_X10_hangsNext : Cond.instanceMethod yX10_hangsNext ∈ am_tb := am_in (tw_m8 107 rfl) rfl
theorem ks_X10_hangsNext : Cond.selects RX10 yX10_hangsNext yX10_hangsNext ∈ am_tb := am_inS 146 rfl rfl
theorem kc_X10_has : Cond.code yX10_has cX10_has 2 (some .int) ∈ am_tb := am_in (tw_m7 181 rfl) rfl
theorem kd_X10_has : yX10_has.cls ≠ "java/lang/invoke/MethodHandle" ∧ yX10_has.cls ≠ "java/lang/invoke/VarHandle" ∧ (parseMethodDescriptor yX10_has.desc).map (fun d => d.parameters.length) = some 1 := by decide +kernel
theorem ki_X10_has : Cond.instanceMethod yX10_has ∈ am_tb := am_in (tw_m7 179 rfl) rfl
theorem ks_X10_has : Cond.selects RX10 yX10_has yX10_has ∈ am_tb := am_in (tw_m7 180 rfl) rfl
theorem kc_X10_hours : Cond.code yX10_hours cX10_hours 5 (some .int) ∈ am_tb := am_in (tw_m8 178 rfl) rfl
theorem kd_X10_hours : yX10_hours.cls ≠ "java/lang/invoke/MethodHandle" ∧ yX10_hours.cls ≠ "java/lang/invoke/VarHandle" ∧ (parseMethodDescriptor yX10_hours.desc).map (fun d => d.parameters.length) = some 1 := by decide +kernel
theorem ki_X10_hours : Cond.instanceMethod yX10_hours ∈ am_tb := am_in (tw_m8 176 rfl) rfl
theorem ks_X10_hours : Cond.selects RX10 yX10_hours yX10_hours ∈ am_tb := am_in (tw_m8 177 rfl) rfl
theorem kc_X10_hoursFrom : Cond.code yX10_hoursFrom cX10_hoursFrom 7 (some .int) ∈ am_tb := am_in (tw_m8 183 rfl) rfl
theorem kd_X10_hoursFrom : yX10_hoursFrom.cls ≠ "java/lang/invoke/MethodHandle" ∧ yX10_hoursFrom.cls ≠ "java/lang/invoke/VarHandle" ∧ (parseMethodDescriptor yX10_hoursFrom.desc).map (fun d => d.parameters.length) = some 1 := by decide +kernel
theorem ki_X10_hoursFrom : Cond.instanceMethod yX10_hoursFrom ∈ am_tb := am_in (tw_m8 182 rfl) rfl
theorem ks_X10_hoursFrom : Cond.selects RX10 yX10_hoursFrom yX10_hoursFrom ∈ am_tb := am_inS 155 rfl rfl
theorem kc_X10_image : Cond.code yX10_image cX10_image 2 (some .int) ∈ am_tb := am_in (tw_m9 23 rfl) rfl
theorem kd_X10_image : yX10_image.cls ≠ "java/lang/invoke/MethodHandle" ∧ yX10_image.cls ≠ "java/lang/invoke/VarHandle" ∧ (parseMethodDescriptor yX10_image.desc).map (fun d => d.parameters.length) = some 0 := by decide +kernel
theorem ki_X10_image : Cond.instanceMethod yX10_image ∈ am_tb := am_in (tw_m9 21 rfl) rfl
theorem ks_X10_image : Cond.selects RX10 yX10_image yX10_image ∈ am_tb := am_in (tw_m9 22 rfl) rfl
theorem kc_X10_isAhead : Cond.code yX10_isAhead cX10_isAhead 2 (some .boolean) ∈ am_tb := am_in (tw_m8 22 rfl) rfl
theorem kd_X10_isAhead : yX10_isAhead.cls ≠ "java/lang/invoke/MethodHandle" ∧ yX10_isAhead.cls ≠ "java/lang/invoke/VarHandle" ∧ (parseMethodDescriptor yX10_isAhead.desc).map (fun d => d.parameters.length) = some 1 := by decide +kernel
theorem ki_X10_isAhead : Cond.instanceMethod yX10_isAhead ∈ am_tb := am_in (tw_m8 21 rfl) rfl
theorem ks_X10_isAhead : Cond.selects RX10 yX10_isAhead yX10_isAhead ∈ am_tb := am_inS 129 rfl rfl
theorem kc_X10_isAllowed : Cond.code yX10_isAllowed cX10_isAllowed 2 (some .boolean) ∈ am_tb := am_in (tw_m7 126 rfl) rfl
theorem kd_X10_isAllowed : yX10_isAllowed.cls ≠ "java/lang/invoke/MethodHandle" ∧ yX10_isAllowed.cls ≠ "java/lang/invoke/VarHandle" ∧ (parseMethodDescriptor yX10_isAllowed.desc).map (fun d => d.parameters.length) = some 1 := by decide +kernel
theorem ki_X10_isAllowed : Cond.instanceMethod yX10_isAllowed ∈ am_tb := am_in (tw_m7 125 rfl) rfl
theorem ks_X10_isAllowed : Cond.selects RX10 yX10_isAllowed yX10_isAllowed ∈ am_tb := am_inS 104 rfl rfl
theorem kc_X10_isAsSeen : Cond.code yX10_isAsSeen cX10_isAsSeen 3 (some .boolean) ∈ am_tb := am_in (tw_m8 174 rfl) rfl
theorem kd_X10_isAsSeen : yX10_isAsSeen.cls ≠ "java/lang/invoke/MethodHandle" ∧ yX10_isAsSeen.cls ≠ "java/lang/invoke/VarHandle" ∧ (parseMethodDescriptor yX10_isAsSeen.desc).map (fun d => d.parameters.length) = some 1 := by decide +kernel
theorem ki_X10_isAsSeen : Cond.instanceMethod yX10_isAsSeen ∈ am_tb := am_in (tw_m8 173 rfl) rfl
theorem ks_X10_isAsSeen : Cond.selects RX10 yX10_isAsSeen yX10_isAsSeen ∈ am_tb := am_inS 154 rfl rfl
theorem kc_X10_isDay : Cond.code yX10_isDay cX10_isDay 2 (some .boolean) ∈ am_tb := am_in (tw_m8 5 rfl) rfl
theorem kd_X10_isDay : yX10_isDay.cls ≠ "java/lang/invoke/MethodHandle" ∧ yX10_isDay.cls ≠ "java/lang/invoke/VarHandle" ∧ (parseMethodDescriptor yX10_isDay.desc).map (fun d => d.parameters.length) = some 1 := by decide +kernel
theorem ki_X10_isDay : Cond.instanceMethod yX10_isDay ∈ am_tb := am_in (tw_m8 4 rfl) rfl
theorem ks_X10_isDay : Cond.selects RX10 yX10_isDay yX10_isDay ∈ am_tb := am_inS 127 rfl rfl
theorem kc_X10_isDead : Cond.code yX10_isDead cX10_isDead 2 (some .boolean) ∈ am_tb := am_in (tw_m7 197 rfl) rfl
theorem kd_X10_isDead : yX10_isDead.cls ≠ "java/lang/invoke/MethodHandle" ∧ yX10_isDead.cls ≠ "java/lang/invoke/VarHandle" ∧ (parseMethodDescriptor yX10_isDead.desc).map (fun d => d.parameters.length) = some 1 := by decide +kernel
theorem ki_X10_isDead : Cond.instanceMethod yX10_isDead ∈ am_tb := am_in (tw_m7 196 rfl) rfl
theorem ks_X10_isDead : Cond.selects RX10 yX10_isDead yX10_isDead ∈ am_tb := am_inS 119 rfl rfl
theorem kc_X10_isDigit : Cond.code yX10_isDigit cX10_isDigit 1 (some .boolean) ∈ am_tb := am_in (tw_m7 33 rfl) rfl
theorem kd_X10_isDigit : yX10_isDigit.cls ≠ "java/lang/invoke/MethodHandle" ∧ yX10_isDigit.cls ≠ "java/lang/invoke/VarHandle" ∧ (parseMethodDescriptor yX10_isDigit.desc).map (fun d => d.parameters.length) = some 1 := by decide +kernel
theorem ki_X10_isDigit : Cond.static yX10_isDigit ∈ am_tb := am_in (tw_m7 32 rfl) rfl
theorem kc_X10_isFrost : Cond.code yX10_isFrost cX10_isFrost 3 (some .boolean) ∈ am_tb := am_in (tw_m8 9 rfl) rfl
theorem kd_X10_isFrost : yX10_isFrost.cls ≠ "java/lang/invoke/MethodHandle" ∧ yX10_isFrost.cls ≠ "java/lang/invoke/VarHandle" ∧ (parseMethodDescriptor yX10_isFrost.desc).map (fun d => d.parameters.length) = some 1 := by decide +kernel
theorem ki_X10_isFrost : Cond.instanceMethod yX10_isFrost ∈ am_tb := am_in (tw_m8 8 rfl) rfl
theorem ks_X10_isFrost : Cond.selects RX10 yX10_isFrost yX10_isFrost ∈ am_tb := am_inS 128 rfl rfl
theorem kc_X10_isFull : Cond.code yX10_isFull cX10_isFull 4 (some .boolean) ∈ am_tb := am_in (tw_m7 56 rfl) rfl
theorem kd_X10_isFull : yX10_isFull.cls ≠ "java/lang/invoke/MethodHandle" ∧ yX10_isFull.cls ≠ "java/lang/invoke/VarHandle" ∧ (parseMethodDescriptor yX10_isFull.desc).map (fun d => d.parameters.length) = some 3 := by decide +kernel
theorem ki_X10_isFull : Cond.instanceMethod yX10_isFull ∈ am_tb := am_in (tw_m7 55 rfl) rfl
theorem ks_X10_isFull : Cond.selects RX10 yX10_isFull yX10_isFull ∈ am_tb := am_inS 87 rfl rfl
theorem kc_X10_isHeadTold : Cond.code yX10_isHeadTold cX10_isHeadTold 3 (some .boolean) ∈ am_tb := am_in (tw_m9 55 rfl) rfl
theorem kd_X10_isHeadTold : yX10_isHeadTold.cls ≠ "java/lang/invoke/MethodHandle" ∧ yX10_isHeadTold.cls ≠ "java/lang/invoke/VarHandle" ∧ (parseMethodDescriptor yX10_isHeadTold.desc).map (fun d => d.parameters.length) = some 0 := by decide +kernel
theorem ki_X10_isHeadTold : Cond.instanceMethod yX10_isHeadTold ∈ am_tb := am_in (tw_m9 54 rfl) rfl
theorem ks_X10_isHeadTold : Cond.selects RX10 yX10_isHeadTold yX10_isHeadTold ∈ am_tb := am_inS 168 rfl rfl
theorem kc_X10_isHere : Cond.code yX10_isHere cX10_isHere 4 (some .boolean) ∈ am_tb := am_in (tw_m7 15 rfl) rfl
theorem kd_X10_isHere : yX10_isHere.cls ≠ "java/lang/invoke/MethodHandle" ∧ yX10_isHere.cls ≠ "java/lang/invoke/VarHandle" ∧ (parseMethodDescriptor yX10_isHere.desc).map (fun d => d.parameters.length) = some 1 := by decide +kernel
theorem ki_X10_isHere : Cond.instanceMethod yX10_isHere ∈ am_tb := am_in (tw_m7 14 rfl) rfl
theorem ks_X10_isHere : Cond.selects RX10 yX10_isHere yX10_isHere ∈ am_tb := am_inS 79 rfl rfl
theorem kc_X10_isImage : Cond.code yX10_isImage cX10_isImage 3 (some .boolean) ∈ am_tb := am_in (tw_m9 47 rfl) rfl
theorem kd_X10_isImage : yX10_isImage.cls ≠ "java/lang/invoke/MethodHandle" ∧ yX10_isImage.cls ≠ "java/lang/invoke/VarHandle" ∧ (parseMethodDescriptor yX10_isImage.desc).map (fun d => d.parameters.length) = some 1 := by decide +kernel
theorem ki_X10_isImage : Cond.instanceMethod yX10_isImage ∈ am_tb := am_in (tw_m9 46 rfl) rfl
theorem ks_X10_isImage : Cond.selects RX10 yX10_isImage yX10_isImage ∈ am_tb := am_inS 166 rfl rfl
theorem kc_X10_isIn : Cond.code yX10_isIn cX10_isIn 6 (some .boolean) ∈ am_tb := am_in (tw_m7 36 rfl) rfl
theorem kd_X10_isIn : yX10_isIn.cls ≠ "java/lang/invoke/MethodHandle" ∧ yX10_isIn.cls ≠ "java/lang/invoke/VarHandle" ∧ (parseMethodDescriptor yX10_isIn.desc).map (fun d => d.parameters.length) = some 3 := by decide +kernel
theorem ki_X10_isIn : Cond.static yX10_isIn ∈ am_tb := am_in (tw_m7 35 rfl) rfl
theorem kc_X10_isKept : Cond.code yX10_isKept cX10_isKept 2 none ∈ am_tb := am_in (tw_m8 92 rfl) rfl
theorem kd_X10_isKept : yX10_isKept.cls ≠ "java/lang/invoke/MethodHandle" ∧ yX10_isKept.cls ≠ "java/lang/invoke/VarHandle" ∧ (parseMethodDescriptor yX10_isKept.desc).map (fun d => d.parameters.length) = some 0 := by decide +kernel
theorem ki_X10_isKept : Cond.instanceMethod yX10_isKept ∈ am_tb := am_in (tw_m8 91 rfl) rfl
theorem ks_X10_isKept : Cond.selects RX10 yX10_isKept yX10_isKept ∈ am_tb := am_inS 144 rfl rfl
theorem kc_X10_isLaw : Cond.code yX10_isLaw cX10_isLaw 7 (some .boolean) ∈ am_tb := am_in (tw_m8 191 rfl) rfl
theorem kd_X10_isLaw : yX10_isLaw.cls ≠ "java/lang/invoke/MethodHandle" ∧ yX10_isLaw.cls ≠ "java/lang/invoke/VarHandle" ∧ (parseMethodDescriptor yX10_isLaw.desc).map (fun d => d.parameters.length) = some 1 := by decide +kernel
theorem ki_X10_isLaw : Cond.instanceMethod yX10_isLaw ∈ am_tb := am_in (tw_m8 190 rfl) rfl
theorem ks_X10_isLaw : Cond.selects RX10 yX10_isLaw yX10_isLaw ∈ am_tb := am_inS 156 rfl rfl
theorem kc_X10_isLetter : Cond.code yX10_isLetter cX10_isLetter 1 (some .boolean) ∈ am_tb := am_in (tw_m7 22 rfl) rfl
theorem kd_X10_isLetter : yX10_isLetter.cls ≠ "java/lang/invoke/MethodHandle" ∧ yX10_isLetter.cls ≠ "java/lang/invoke/VarHandle" ∧ (parseMethodDescriptor yX10_isLetter.desc).map (fun d => d.parameters.length) = some 1 := by decide +kernel
theorem ki_X10_isLetter : Cond.static yX10_isLetter ∈ am_tb := am_in (tw_m7 21 rfl) rfl
theorem kc_X10_isOwnHere : Cond.code yX10_isOwnHere cX10_isOwnHere 2 (some .boolean) ∈ am_tb := am_in (tw_m7 64 rfl) rfl
theorem kd_X10_isOwnHere : yX10_isOwnHere.cls ≠ "java/lang/invoke/MethodHandle" ∧ yX10_isOwnHere.cls ≠ "java/lang/invoke/VarHandle" ∧ (parseMethodDescriptor yX10_isOwnHere.desc).map (fun d => d.parameters.length) = some 0 := by decide +kernel
theorem ki_X10_isOwnHere : Cond.instanceMethod yX10_isOwnHere ∈ am_tb := am_in (tw_m7 63 rfl) rfl
theorem ks_X10_isOwnHere : Cond.selects RX10 yX10_isOwnHere yX10_isOwnHere ∈ am_tb := am_inS 89 rfl rfl
theorem kc_X10_isPerson : Cond.code yX10_isPerson cX10_isPerson 2 (some .boolean) ∈ am_tb := am_in (tw_m7 212 rfl) rfl
theorem kd_X10_isPerson : yX10_isPerson.cls ≠ "java/lang/invoke/MethodHandle" ∧ yX10_isPerson.cls ≠ "java/lang/invoke/VarHandle" ∧ (parseMethodDescriptor yX10_isPerson.desc).map (fun d => d.parameters.length) = some 1 := by decide +kernel
theorem ki_X10_isPerson : Cond.instanceMethod yX10_isPerson ∈ am_tb := am_in (tw_m7 211 rfl) rfl
theorem ks_X10_isPerson : Cond.selects RX10 yX10_isPerson yX10_isPerson ∈ am_tb := am_inS 121 rfl rfl
theorem kc_X10_isReminded : Cond.code yX10_isReminded cX10_isReminded 4 (some .boolean) ∈ am_tb := am_in (tw_m8 84 rfl) rfl
theorem kd_X10_isReminded : yX10_isReminded.cls ≠ "java/lang/invoke/MethodHandle" ∧ yX10_isReminded.cls ≠ "java/lang/invoke/VarHandle" ∧ (parseMethodDescriptor yX10_isReminded.desc).map (fun d => d.parameters.length) = some 2 := by decide +kernel
theorem ki_X10_isReminded : Cond.instanceMethod yX10_isReminded ∈ am_tb := am_in (tw_m8 83 rfl) rfl
theorem ks_X10_isReminded : Cond.selects RX10 yX10_isReminded yX10_isReminded ∈ am_tb := am_inS 142 rfl rfl
theorem kc_X10_isTold : Cond.code yX10_isTold cX10_isTold 5 (some .boolean) ∈ am_tb := am_in (tw_m8 56 rfl) rfl
theorem kd_X10_isTold : yX10_isTold.cls ≠ "java/lang/invoke/MethodHandle" ∧ yX10_isTold.cls ≠ "java/lang/invoke/VarHandle" ∧ (parseMethodDescriptor yX10_isTold.desc).map (fun d => d.parameters.length) = some 2 := by decide +kernel
theorem ki_X10_isTold : Cond.instanceMethod yX10_isTold ∈ am_tb := am_in (tw_m8 55 rfl) rfl
theorem ks_X10_isTold : Cond.selects RX10 yX10_isTold yX10_isTold ∈ am_tb := am_inS 137 rfl rfl
theorem kc_X10_isToldOff : Cond.code yX10_isToldOff cX10_isToldOff 4 none ∈ am_tb := am_in (tw_m7 74 rfl) rfl
theorem kd_X10_isToldOff : yX10_isToldOff.cls ≠ "java/lang/invoke/MethodHandle" ∧ yX10_isToldOff.cls ≠ "java/lang/invoke/VarHandle" ∧ (parseMethodDescriptor yX10_isToldOff.desc).map (fun d => d.parameters.length) = some 1 := by decide +kernel
theorem ki_X10_isToldOff : Cond.instanceMethod yX10_isToldOff ∈ am_tb := am_in (tw_m7 73 rfl) rfl
theorem ks_X10_isToldOff : Cond.selects RX10 yX10_isToldOff yX10_isToldOff ∈ am_tb := am_inS 91 rfl rfl
theorem kc_X10_keeps : Cond.code yX10_keeps cX10_keeps 2 none ∈ am_tb := am_in (tw_m8 208 rfl) rfl
theorem kd_X10_keeps : yX10_keeps.cls ≠ "java/lang/invoke/MethodHandle" ∧ yX10_keeps.cls ≠ "java/lang/invoke/VarHandle" ∧ (parseMethodDescriptor yX10_keeps.desc).map (fun d => d.parameters.length) = some 0 := by decide +kernel
theorem ki_X10_keeps : Cond.instanceMethod yX10_keeps ∈ am_tb := am_in (tw_m8 207 rfl) rfl
theorem ks_X10_keeps : Cond.selects RX10 yX10_keeps yX10_keeps ∈ am_tb := am_inS 158 rfl rfl
theorem kc_X10_kept : Cond.code yX10_kept cX10_kept 3 (some .int) ∈ am_tb := am_in (tw_m8 13 rfl) rfl
theorem kd_X10_kept : yX10_kept.cls ≠ "java/lang/invoke/MethodHandle" ∧ yX10_kept.cls ≠ "java/lang/invoke/VarHandle" ∧ (parseMethodDescriptor yX10_kept.desc).map (fun d => d.parameters.length) = some 2 := by decide +kernel
theorem ki_X10_kept : Cond.instanceMethod yX10_kept ∈ am_tb := am_in (tw_m8 11 rfl) rfl
theorem ks_X10_kept : Cond.selects RX10 yX10_kept yX10_kept ∈ am_tb := am_in (tw_m8 12 rfl) rfl
theorem kc_X10_later : Cond.code yX10_later cX10_later 4 (some .int) ∈ am_tb := am_in (tw_m8 18 rfl) rfl
theorem kd_X10_later : yX10_later.cls ≠ "java/lang/invoke/MethodHandle" ∧ yX10_later.cls ≠ "java/lang/invoke/VarHandle" ∧ (parseMethodDescriptor yX10_later.desc).map (fun d => d.parameters.length) = some 2 := by decide +kernel
theorem ki_X10_later : Cond.instanceMethod yX10_later ∈ am_tb := am_in (tw_m8 16 rfl) rfl
theorem ks_X10_later : Cond.selects RX10 yX10_later yX10_later ∈ am_tb := am_in (tw_m8 17 rfl) rfl
theorem kc_X10_law : Cond.code yX10_law cX10_law 6 (some .int) ∈ am_tb := am_in (tw_m8 187 rfl) rfl
theorem kd_X10_law : yX10_law.cls ≠ "java/lang/invoke/MethodHandle" ∧ yX10_law.cls ≠ "java/lang/invoke/VarHandle" ∧ (parseMethodDescriptor yX10_law.desc).map (fun d => d.parameters.length) = some 1 := by decide +kernel
theorem ki_X10_law : Cond.instanceMethod yX10_law ∈ am_tb := am_in (tw_m8 185 rfl) rfl
theorem ks_X10_law : Cond.selects RX10 yX10_law yX10_law ∈ am_tb := am_in (tw_m8 186 rfl) rfl
theorem kc_X10_letter : Cond.code yX10_letter cX10_letter 8 (some .int) ∈ am_tb := am_in (tw_m7 208 rfl) rfl
theorem kd_X10_letter : yX10_letter.cls ≠ "java/lang/invoke/MethodHandle" ∧ yX10_letter.cls ≠ "java/lang/invoke/VarHandle" ∧ (parseMethodDescriptor yX10_letter.desc).map (fun d => d.parameters.length) = some 2 := by decide +kernel
theorem ki_X10_letter : Cond.instanceMethod yX10_letter ∈ am_tb := am_in (tw_m7 206 rfl) rfl
theorem ks_X10_letter : Cond.selects RX10 yX10_letter yX10_letter ∈ am_tb := am_in (tw_m7 207 rfl) rfl
theorem kc_X10_living : Cond.code yX10_living cX10_living 3 (some .int) ∈ am_tb := am_in (tw_m7 193 rfl) rfl
theorem kd_X10_living : yX10_living.cls ≠ "java/lang/invoke/MethodHandle" ∧ yX10_living.cls ≠ "java/lang/invoke/VarHandle" ∧ (parseMethodDescriptor yX10_living.desc).map (fun d => d.parameters.length) = some 0 := by decide +kernel
theorem ki_X10_living : Cond.instanceMethod yX10_living ∈ am_tb := am_in (tw_m7 192 rfl) rfl
theorem ks_X10_living : Cond.selects RX10 yX10_living yX10_living ∈ am_tb := am_inS 118 rfl rfl
theorem kc_X10_look : Cond.code yX10_look cX10_look 1 (some .int) ∈ am_tb := am_in (tw_m7 19 rfl) rfl
theorem kd_X10_look : yX10_look.cls ≠ "java/lang/invoke/MethodHandle" ∧ yX10_look.cls ≠ "java/lang/invoke/VarHandle" ∧ (parseMethodDescriptor yX10_look.desc).map (fun d => d.parameters.length) = some 0 := by decide +kernel
theorem ki_X10_look : Cond.instanceMethod yX10_look ∈ am_tb := am_in (tw_m7 18 rfl) rfl
theorem ks_X10_look : Cond.selects RX10 yX10_look yX10_look ∈ am_tb := am_inS 80 rfl rfl
theorem kc_X10_mindOf : Cond.code yX10_mindOf cX10_mindOf 2 (some .int) ∈ am_tb := am_in (tw_m7 221 rfl) rfl
theorem kd_X10_mindOf : yX10_mindOf.cls ≠ "java/lang/invoke/MethodHandle" ∧ yX10_mindOf.cls ≠ "java/lang/invoke/VarHandle" ∧ (parseMethodDescriptor yX10_mindOf.desc).map (fun d => d.parameters.length) = some 1 := by decide +kernel
theorem ki_X10_mindOf : Cond.instanceMethod yX10_mindOf ∈ am_tb := am_in (tw_m7 220 rfl) rfl
theorem ks_X10_mindOf : Cond.selects RX10 yX10_mindOf yX10_mindOf ∈ am_tb := am_inS 122 rfl rfl
theorem kc_X10_name : Cond.code yX10_name cX10_name 3 (some .long) ∈ am_tb := am_in (tw_m7 60 rfl) rfl
theorem kd_X10_name : yX10_name.cls ≠ "java/lang/invoke/MethodHandle" ∧ yX10_name.cls ≠ "java/lang/invoke/VarHandle" ∧ (parseMethodDescriptor yX10_name.desc).map (fun d => d.parameters.length) = some 0 := by decide +kernel
theorem ki_X10_name : Cond.instanceMethod yX10_name ∈ am_tb := am_in (tw_m7 59 rfl) rfl
theorem ks_X10_name : Cond.selects RX10 yX10_name yX10_name ∈ am_tb := am_inS 88 rfl rfl
theorem kc_X10_number : Cond.code yX10_number cX10_number 5 (some .int) ∈ am_tb := am_in (tw_m7 30 rfl) rfl
theorem kd_X10_number : yX10_number.cls ≠ "java/lang/invoke/MethodHandle" ∧ yX10_number.cls ≠ "java/lang/invoke/VarHandle" ∧ (parseMethodDescriptor yX10_number.desc).map (fun d => d.parameters.length) = some 2 := by decide +kernel
theorem ki_X10_number : Cond.instanceMethod yX10_number ∈ am_tb := am_in (tw_m7 29 rfl) rfl
theorem ks_X10_number : Cond.selects RX10 yX10_number yX10_number ∈ am_tb := am_inS 82 rfl rfl
theorem kc_X10_octet : Cond.code yX10_octet cX10_octet 2 (some .int) ∈ am_tb := am_in (tw_m9 39 rfl) rfl
theorem kd_X10_octet : yX10_octet.cls ≠ "java/lang/invoke/MethodHandle" ∧ yX10_octet.cls ≠ "java/lang/invoke/VarHandle" ∧ (parseMethodDescriptor yX10_octet.desc).map (fun d => d.parameters.length) = some 1 := by decide +kernel
theorem ki_X10_octet : Cond.instanceMethod yX10_octet ∈ am_tb := am_in (tw_m9 37 rfl) rfl
theorem ks_X10_octet : Cond.selects RX10 yX10_octet yX10_octet ∈ am_tb := am_in (tw_m9 38 rfl) rfl
theorem kc_X10_on : Cond.code yX10_on cX10_on 3 (some .boolean) ∈ am_tb := am_in (tw_m9 43 rfl) rfl
theorem kd_X10_on : yX10_on.cls ≠ "java/lang/invoke/MethodHandle" ∧ yX10_on.cls ≠ "java/lang/invoke/VarHandle" ∧ (parseMethodDescriptor yX10_on.desc).map (fun d => d.parameters.length) = some 0 := by decide +kernel
theorem ki_X10_on : Cond.instanceMethod yX10_on ∈ am_tb := am_in (tw_m9 41 rfl) rfl
theorem ks_X10_on : Cond.selects RX10 yX10_on yX10_on ∈ am_tb := am_in (tw_m9 42 rfl) rfl
theorem kc_X10_peopleMany : Cond.code yX10_peopleMany cX10_peopleMany 1 (some .int) ∈ am_tb := am_in (tw_m7 189 rfl) rfl
theorem kd_X10_peopleMany : yX10_peopleMany.cls ≠ "java/lang/invoke/MethodHandle" ∧ yX10_peopleMany.cls ≠ "java/lang/invoke/VarHandle" ∧ (parseMethodDescriptor yX10_peopleMany.desc).map (fun d => d.parameters.length) = some 0 := by decide +kernel
theorem ki_X10_peopleMany : Cond.instanceMethod yX10_peopleMany ∈ am_tb := am_in (tw_m7 188 rfl) rfl
theorem ks_X10_peopleMany : Cond.selects RX10 yX10_peopleMany yX10_peopleMany ∈ am_tb := am_inS 117 rfl rfl
theorem kc_X10_person : Cond.code yX10_person cX10_person 3 (some .int) ∈ am_tb := am_in (tw_m7 217 rfl) rfl
theorem kd_X10_person : yX10_person.cls ≠ "java/lang/invoke/MethodHandle" ∧ yX10_person.cls ≠ "java/lang/invoke/VarHandle" ∧ (parseMethodDescriptor yX10_person.desc).map (fun d => d.parameters.length) = some 2 := by decide +kernel
theorem ki_X10_person : Cond.instanceMethod yX10_person ∈ am_tb := am_in (tw_m7 215 rfl) rfl
theorem ks_X10_person : Cond.selects RX10 yX10_person yX10_person ∈ am_tb := am_in (tw_m7 216 rfl) rfl
theorem kc_X10_personHere : Cond.code yX10_personHere cX10_personHere 4 (some .int) ∈ am_tb := am_in (tw_m7 78 rfl) rfl
theorem kd_X10_personHere : yX10_personHere.cls ≠ "java/lang/invoke/MethodHandle" ∧ yX10_personHere.cls ≠ "java/lang/invoke/VarHandle" ∧ (parseMethodDescriptor yX10_personHere.desc).map (fun d => d.parameters.length) = some 0 := by decide +kernel
theorem ki_X10_personHere : Cond.instanceMethod yX10_personHere ∈ am_tb := am_in (tw_m7 77 rfl) rfl
theorem ks_X10_personHere : Cond.selects RX10 yX10_personHere yX10_personHere ∈ am_tb := am_inS 92 rfl rfl
theorem kc_X10_personOf : Cond.code yX10_personOf cX10_personOf 4 (some .int) ∈ am_tb := am_in (tw_m7 70 rfl) rfl
theorem kd_X10_personOf : yX10_personOf.cls ≠ "java/lang/invoke/MethodHandle" ∧ yX10_personOf.cls ≠ "java/lang/invoke/VarHandle" ∧ (parseMethodDescriptor yX10_personOf.desc).map (fun d => d.parameters.length) = some 1 := by decide +kernel
theorem ki_X10_personOf : Cond.instanceMethod yX10_personOf ∈ am_tb := am_in (tw_m7 69 rfl) rfl
theorem ks_X10_personOf : Cond.selects RX10 yX10_personOf yX10_personOf ∈ am_tb := am_inS 90 rfl rfl
theorem kc_X10_personTold : Cond.code yX10_personTold cX10_personTold 7 none ∈ am_tb := am_in (tw_m7 52 rfl) rfl
theorem kd_X10_personTold : yX10_personTold.cls ≠ "java/lang/invoke/MethodHandle" ∧ yX10_personTold.cls ≠ "java/lang/invoke/VarHandle" ∧ (parseMethodDescriptor yX10_personTold.desc).map (fun d => d.parameters.length) = some 1 := by decide +kernel
theorem ki_X10_personTold : Cond.instanceMethod yX10_personTold ∈ am_tb := am_in (tw_m7 51 rfl) rfl
theorem ks_X10_personTold : Cond.selects RX10 yX10_personTold yX10_personTold ∈ am_tb := am_inS 86 rfl rfl
theorem kc_X10_putsAside : Cond.code yX10_putsAside cX10_putsAside 2 none ∈ am_tb := am_in (tw_m8 32 rfl) rfl
theorem kd_X10_putsAside : yX10_putsAside.cls ≠ "java/lang/invoke/MethodHandle" ∧ yX10_putsAside.cls ≠ "java/lang/invoke/VarHandle" ∧ (parseMethodDescriptor yX10_putsAside.desc).map (fun d => d.parameters.length) = some 0 := by decide +kernel
theorem ki_X10_putsAside : Cond.instanceMethod yX10_putsAside ∈ am_tb := am_in (tw_m8 31 rfl) rfl
theorem ks_X10_putsAside : Cond.selects RX10 yX10_putsAside yX10_putsAside ∈ am_tb := am_inS 131 rfl rfl
theorem kc_X10_qAsksWord : Cond.code yX10_qAsksWord cX10_qAsksWord 2 none ∈ am_tb := am_in (tw_m7 130 rfl) rfl
theorem kd_X10_qAsksWord : yX10_qAsksWord.cls ≠ "java/lang/invoke/MethodHandle" ∧ yX10_qAsksWord.cls ≠ "java/lang/invoke/VarHandle" ∧ (parseMethodDescriptor yX10_qAsksWord.desc).map (fun d => d.parameters.length) = some 1 := by decide +kernel
theorem ki_X10_qAsksWord : Cond.instanceMethod yX10_qAsksWord ∈ am_tb := am_in (tw_m7 129 rfl) rfl
theorem ks_X10_qAsksWord : Cond.selects RX10 yX10_qAsksWord yX10_qAsksWord ∈ am_tb := am_inS 105 rfl rfl
theorem kc_X10_qBracket : Cond.code yX10_qBracket cX10_qBracket 2 (some .int) ∈ am_tb := am_in (tw_m7 146 rfl) rfl
theorem kd_X10_qBracket : yX10_qBracket.cls ≠ "java/lang/invoke/MethodHandle" ∧ yX10_qBracket.cls ≠ "java/lang/invoke/VarHandle" ∧ (parseMethodDescriptor yX10_qBracket.desc).map (fun d => d.parameters.length) = some 0 := by decide +kernel
theorem ki_X10_qBracket : Cond.instanceMethod yX10_qBracket ∈ am_tb := am_in (tw_m7 145 rfl) rfl
theorem ks_X10_qBracket : Cond.selects RX10 yX10_qBracket yX10_qBracket ∈ am_tb := am_inS 109 rfl rfl
theorem kc_X10_qClip : Cond.code yX10_qClip cX10_qClip 2 (some .long) ∈ am_tb := am_in (tw_m8 71 rfl) rfl
theorem kd_X10_qClip : yX10_qClip.cls ≠ "java/lang/invoke/MethodHandle" ∧ yX10_qClip.cls ≠ "java/lang/invoke/VarHandle" ∧ (parseMethodDescriptor yX10_qClip.desc).map (fun d => d.parameters.length) = some 1 := by decide +kernel
theorem ki_X10_qClip : Cond.static yX10_qClip ∈ am_tb := am_in (tw_m8 70 rfl) rfl
theorem kc_X10_qCode : Cond.code yX10_qCode cX10_qCode 2 none ∈ am_tb := am_in (tw_m7 106 rfl) rfl
theorem kd_X10_qCode : yX10_qCode.cls ≠ "java/lang/invoke/MethodHandle" ∧ yX10_qCode.cls ≠ "java/lang/invoke/VarHandle" ∧ (parseMethodDescriptor yX10_qCode.desc).map (fun d => d.parameters.length) = some 1 := by decide +kernel
theorem ki_X10_qCode : Cond.instanceMethod yX10_qCode ∈ am_tb := am_in (tw_m7 105 rfl) rfl
theorem ks_X10_qCode : Cond.selects RX10 yX10_qCode yX10_qCode ∈ am_tb := am_inS 99 rfl rfl
theorem kc_X10_qDrops : Cond.code yX10_qDrops cX10_qDrops 1 none ∈ am_tb := am_in (tw_m7 138 rfl) rfl
theorem kd_X10_qDrops : yX10_qDrops.cls ≠ "java/lang/invoke/MethodHandle" ∧ yX10_qDrops.cls ≠ "java/lang/invoke/VarHandle" ∧ (parseMethodDescriptor yX10_qDrops.desc).map (fun d => d.parameters.length) = some 0 := by decide +kernel
theorem ki_X10_qDrops : Cond.instanceMethod yX10_qDrops ∈ am_tb := am_in (tw_m7 137 rfl) rfl
theorem ks_X10_qDrops : Cond.selects RX10 yX10_qDrops yX10_qDrops ∈ am_tb := am_inS 107 rfl rfl
theorem kc_X10_qDropsNots : Cond.code yX10_qDropsNots cX10_qDropsNots 1 none ∈ am_tb := am_in (tw_m7 161 rfl) rfl
theorem kd_X10_qDropsNots : yX10_qDropsNots.cls ≠ "java/lang/invoke/MethodHandle" ∧ yX10_qDropsNots.cls ≠ "java/lang/invoke/VarHandle" ∧ (parseMethodDescriptor yX10_qDropsNots.desc).map (fun d => d.parameters.length) = some 0 := by decide +kernel
theorem ki_X10_qDropsNots : Cond.instanceMethod yX10_qDropsNots ∈ am_tb := am_in (tw_m7 160 rfl) rfl
theorem ks_X10_qDropsNots : Cond.selects RX10 yX10_qDropsNots yX10_qDropsNots ∈ am_tb := am_inS 112 rfl rfl
theorem kc_X10_qDropsToBracket : Cond.code yX10_qDropsToBracket cX10_qDropsToBracket 1 none ∈ am_tb := am_in (tw_m7 153 rfl) rfl
theorem kd_X10_qDropsToBracket : yX10_qDropsToBracket.cls ≠ "java/lang/invoke/MethodHandle" ∧ yX10_qDropsToBracket.cls ≠ "java/lang/invoke/VarHandle" ∧ (parseMethodDescriptor yX10_qDropsToBracket.desc).map (fun d => d.parameters.length) = some 0 := by decide +kernel
theorem ki_X10_qDropsToBracket : Cond.instanceMethod yX10_qDropsToBracket ∈ am_tb := am_in (tw_m7 152 rfl) rfl
theorem ks_X10_qDropsToBracket : Cond.selects RX10 yX10_qDropsToBracket yX10_qDropsToBracket ∈ am_tb := am_inS 110 rfl rfl
theorem kc_X10_qEndsPart : Cond.code yX10_qEndsPart cX10_qEndsPart 1 none ∈ am_tb := am_in (tw_m7 134 rfl) rfl
theorem kd_X10_qEndsPart : yX10_qEndsPart.cls ≠ "java/lang/invoke/MethodHandle" ∧ yX10_qEndsPart.cls ≠ "java/lang/invoke/VarHandle" ∧ (parseMethodDescriptor yX10_qEndsPart.desc).map (fun d => d.parameters.length) = some 0 := by decide +kernel
theorem ki_X10_qEndsPart : Cond.instanceMethod yX10_qEndsPart ∈ am_tb := am_in (tw_m7 133 rfl) rfl
theorem ks_X10_qEndsPart : Cond.selects RX10 yX10_qEndsPart yX10_qEndsPart ∈ am_tb := am_inS 106 rfl rfl
theorem kc_X10_qFact : Cond.code yX10_qFact cX10_qFact 2 none ∈ am_tb := am_in (tw_m7 102 rfl) rfl
theorem kd_X10_qFact : yX10_qFact.cls ≠ "java/lang/invoke/MethodHandle" ∧ yX10_qFact.cls ≠ "java/lang/invoke/VarHandle" ∧ (parseMethodDescriptor yX10_qFact.desc).map (fun d => d.parameters.length) = some 0 := by decide +kernel
theorem ki_X10_qFact : Cond.instanceMethod yX10_qFact ∈ am_tb := am_in (tw_m7 101 rfl) rfl
theorem ks_X10_qFact : Cond.selects RX10 yX10_qFact yX10_qFact ∈ am_tb := am_inS 98 rfl rfl
theorem kc_X10_qFloor : Cond.code yX10_qFloor cX10_qFloor 6 (some .long) ∈ am_tb := am_in (tw_m8 76 rfl) rfl
theorem kd_X10_qFloor : yX10_qFloor.cls ≠ "java/lang/invoke/MethodHandle" ∧ yX10_qFloor.cls ≠ "java/lang/invoke/VarHandle" ∧ (parseMethodDescriptor yX10_qFloor.desc).map (fun d => d.parameters.length) = some 2 := by decide +kernel
theorem ki_X10_qFloor : Cond.static yX10_qFloor ∈ am_tb := am_in (tw_m8 75 rfl) rfl
theorem kc_X10_qGoesOn : Cond.code yX10_qGoesOn cX10_qGoesOn 2 (some .boolean) ∈ am_tb := am_in (tw_m7 142 rfl) rfl
theorem kd_X10_qGoesOn : yX10_qGoesOn.cls ≠ "java/lang/invoke/MethodHandle" ∧ yX10_qGoesOn.cls ≠ "java/lang/invoke/VarHandle" ∧ (parseMethodDescriptor yX10_qGoesOn.desc).map (fun d => d.parameters.length) = some 0 := by decide +kernel
theorem ki_X10_qGoesOn : Cond.instanceMethod yX10_qGoesOn ∈ am_tb := am_in (tw_m7 141 rfl) rfl
theorem ks_X10_qGoesOn : Cond.selects RX10 yX10_qGoesOn yX10_qGoesOn ∈ am_tb := am_inS 108 rfl rfl
theorem kc_X10_qGoesOnTest : Cond.code yX10_qGoesOnTest cX10_qGoesOnTest 1 (some .boolean) ∈ am_tb := am_in (tw_m7 165 rfl) rfl
theorem kd_X10_qGoesOnTest : yX10_qGoesOnTest.cls ≠ "java/lang/invoke/MethodHandle" ∧ yX10_qGoesOnTest.cls ≠ "java/lang/invoke/VarHandle" ∧ (parseMethodDescriptor yX10_qGoesOnTest.desc).map (fun d => d.parameters.length) = some 0 := by decide +kernel
theorem ki_X10_qGoesOnTest : Cond.instanceMethod yX10_qGoesOnTest ∈ am_tb := am_in (tw_m7 164 rfl) rfl
theorem ks_X10_qGoesOnTest : Cond.selects RX10 yX10_qGoesOnTest yX10_qGoesOnTest ∈ am_tb := am_inS 113 rfl rfl
theorem kc_X10_qHasSquare : Cond.code yX10_qHasSquare cX10_qHasSquare 2 (some .boolean) ∈ am_tb := am_in (tw_m7 169 rfl) rfl
theorem kd_X10_qHasSquare : yX10_qHasSquare.cls ≠ "java/lang/invoke/MethodHandle" ∧ yX10_qHasSquare.cls ≠ "java/lang/invoke/VarHandle" ∧ (parseMethodDescriptor yX10_qHasSquare.desc).map (fun d => d.parameters.length) = some 0 := by decide +kernel
theorem ki_X10_qHasSquare : Cond.instanceMethod yX10_qHasSquare ∈ am_tb := am_in (tw_m7 168 rfl) rfl
theorem ks_X10_qHasSquare : Cond.selects RX10 yX10_qHasSquare yX10_qHasSquare ∈ am_tb := am_inS 114 rfl rfl
theorem kc_X10_qIsBracket : Cond.code yX10_qIsBracket cX10_qIsBracket 1 (some .boolean) ∈ am_tb := am_in (tw_m7 149 rfl) rfl
theorem kd_X10_qIsBracket : yX10_qIsBracket.cls ≠ "java/lang/invoke/MethodHandle" ∧ yX10_qIsBracket.cls ≠ "java/lang/invoke/VarHandle" ∧ (parseMethodDescriptor yX10_qIsBracket.desc).map (fun d => d.parameters.length) = some 1 := by decide +kernel
theorem ki_X10_qIsBracket : Cond.static yX10_qIsBracket ∈ am_tb := am_in (tw_m7 148 rfl) rfl
theorem kc_X10_qIsOn : Cond.code yX10_qIsOn cX10_qIsOn 2 (some .boolean) ∈ am_tb := am_in (tw_m7 157 rfl) rfl
theorem kd_X10_qIsOn : yX10_qIsOn.cls ≠ "java/lang/invoke/MethodHandle" ∧ yX10_qIsOn.cls ≠ "java/lang/invoke/VarHandle" ∧ (parseMethodDescriptor yX10_qIsOn.desc).map (fun d => d.parameters.length) = some 1 := by decide +kernel
theorem ki_X10_qIsOn : Cond.instanceMethod yX10_qIsOn ∈ am_tb := am_in (tw_m7 156 rfl) rfl
theorem ks_X10_qIsOn : Cond.selects RX10 yX10_qIsOn yX10_qIsOn ∈ am_tb := am_inS 111 rfl rfl
theorem kc_X10_qJoins : Cond.code yX10_qJoins cX10_qJoins 6 none ∈ am_tb := am_in (tw_m8 68 rfl) rfl
theorem kd_X10_qJoins : yX10_qJoins.cls ≠ "java/lang/invoke/MethodHandle" ∧ yX10_qJoins.cls ≠ "java/lang/invoke/VarHandle" ∧ (parseMethodDescriptor yX10_qJoins.desc).map (fun d => d.parameters.length) = some 1 := by decide +kernel
theorem ki_X10_qJoins : Cond.instanceMethod yX10_qJoins ∈ am_tb := am_in (tw_m8 67 rfl) rfl
theorem ks_X10_qJoins : Cond.selects RX10 yX10_qJoins yX10_qJoins ∈ am_tb := am_inS 140 rfl rfl
theorem kc_X10_qKind : Cond.code yX10_qKind cX10_qKind 2 (some .int) ∈ am_tb := am_in (tw_m9 6 rfl) rfl
theorem kd_X10_qKind : yX10_qKind.cls ≠ "java/lang/invoke/MethodHandle" ∧ yX10_qKind.cls ≠ "java/lang/invoke/VarHandle" ∧ (parseMethodDescriptor yX10_qKind.desc).map (fun d => d.parameters.length) = some 0 := by decide +kernel
theorem ki_X10_qKind : Cond.instanceMethod yX10_qKind ∈ am_tb := am_in (tw_m9 5 rfl) rfl
theorem ks_X10_qKind : Cond.selects RX10 yX10_qKind yX10_qKind ∈ am_tb := am_inS 160 rfl rfl
theorem kc_X10_qOf : Cond.code yX10_qOf cX10_qOf 5 (some .long) ∈ am_tb := am_in (tw_m9 15 rfl) rfl
theorem kd_X10_qOf : yX10_qOf.cls ≠ "java/lang/invoke/MethodHandle" ∧ yX10_qOf.cls ≠ "java/lang/invoke/VarHandle" ∧ (parseMethodDescriptor yX10_qOf.desc).map (fun d => d.parameters.length) = some 3 := by decide +kernel
theorem ki_X10_qOf : Cond.instanceMethod yX10_qOf ∈ am_tb := am_in (tw_m9 14 rfl) rfl
theorem ks_X10_qOf : Cond.selects RX10 yX10_qOf yX10_qOf ∈ am_tb := am_inS 162 rfl rfl
theorem kc_X10_qOpens : Cond.code yX10_qOpens cX10_qOpens 3 none ∈ am_tb := am_in (tw_m7 98 rfl) rfl
theorem kd_X10_qOpens : yX10_qOpens.cls ≠ "java/lang/invoke/MethodHandle" ∧ yX10_qOpens.cls ≠ "java/lang/invoke/VarHandle" ∧ (parseMethodDescriptor yX10_qOpens.desc).map (fun d => d.parameters.length) = some 2 := by decide +kernel
theorem ki_X10_qOpens : Cond.instanceMethod yX10_qOpens ∈ am_tb := am_in (tw_m7 97 rfl) rfl
theorem ks_X10_qOpens : Cond.selects RX10 yX10_qOpens yX10_qOpens ∈ am_tb := am_inS 97 rfl rfl
theorem kc_X10_qPartOf : Cond.code yX10_qPartOf cX10_qPartOf 3 (some .long) ∈ am_tb := am_in (tw_m8 64 rfl) rfl
theorem kd_X10_qPartOf : yX10_qPartOf.cls ≠ "java/lang/invoke/MethodHandle" ∧ yX10_qPartOf.cls ≠ "java/lang/invoke/VarHandle" ∧ (parseMethodDescriptor yX10_qPartOf.desc).map (fun d => d.parameters.length) = some 2 := by decide +kernel
theorem ki_X10_qPartOf : Cond.instanceMethod yX10_qPartOf ∈ am_tb := am_in (tw_m8 63 rfl) rfl
theorem ks_X10_qPartOf : Cond.selects RX10 yX10_qPartOf yX10_qPartOf ∈ am_tb := am_inS 139 rfl rfl
theorem kc_X10_qPartTold : Cond.code yX10_qPartTold cX10_qPartTold 6 none ∈ am_tb := am_in (tw_m7 114 rfl) rfl
theorem kd_X10_qPartTold : yX10_qPartTold.cls ≠ "java/lang/invoke/MethodHandle" ∧ yX10_qPartTold.cls ≠ "java/lang/invoke/VarHandle" ∧ (parseMethodDescriptor yX10_qPartTold.desc).map (fun d => d.parameters.length) = some 0 := by decide +kernel
theorem ki_X10_qPartTold : Cond.instanceMethod yX10_qPartTold ∈ am_tb := am_in (tw_m7 113 rfl) rfl
theorem ks_X10_qPartTold : Cond.selects RX10 yX10_qPartTold yX10_qPartTold ∈ am_tb := am_inS 101 rfl rfl
theorem kc_X10_qPuts : Cond.code yX10_qPuts cX10_qPuts 3 none ∈ am_tb := am_in (tw_m8 60 rfl) rfl
theorem kd_X10_qPuts : yX10_qPuts.cls ≠ "java/lang/invoke/MethodHandle" ∧ yX10_qPuts.cls ≠ "java/lang/invoke/VarHandle" ∧ (parseMethodDescriptor yX10_qPuts.desc).map (fun d => d.parameters.length) = some 1 := by decide +kernel
theorem ki_X10_qPuts : Cond.instanceMethod yX10_qPuts ∈ am_tb := am_in (tw_m8 59 rfl) rfl
theorem ks_X10_qPuts : Cond.selects RX10 yX10_qPuts yX10_qPuts ∈ am_tb := am_inS 138 rfl rfl
theorem kc_X10_qSums : Cond.code yX10_qSums cX10_qSums 3 none ∈ am_tb := am_in (tw_m7 110 rfl) rfl
theorem kd_X10_qSums : yX10_qSums.cls ≠ "java/lang/invoke/MethodHandle" ∧ yX10_qSums.cls ≠ "java/lang/invoke/VarHandle" ∧ (parseMethodDescriptor yX10_qSums.desc).map (fun d => d.parameters.length) = some 0 := by decide +kernel
theorem ki_X10_qSums : Cond.instanceMethod yX10_qSums ∈ am_tb := am_in (tw_m7 109 rfl) rfl
theorem ks_X10_qSums : Cond.selects RX10 yX10_qSums yX10_qSums ∈ am_tb := am_inS 100 rfl rfl
theorem kc_X10_qTakes : Cond.code yX10_qTakes cX10_qTakes 6 none ∈ am_tb := am_in (tw_m9 19 rfl) rfl
theorem kd_X10_qTakes : yX10_qTakes.cls ≠ "java/lang/invoke/MethodHandle" ∧ yX10_qTakes.cls ≠ "java/lang/invoke/VarHandle" ∧ (parseMethodDescriptor yX10_qTakes.desc).map (fun d => d.parameters.length) = some 3 := by decide +kernel
theorem ki_X10_qTakes : Cond.instanceMethod yX10_qTakes ∈ am_tb := am_in (tw_m9 18 rfl) rfl
theorem ks_X10_qTakes : Cond.selects RX10 yX10_qTakes yX10_qTakes ∈ am_tb := am_inS 163 rfl rfl
theorem kc_X10_qTest : Cond.code yX10_qTest cX10_qTest 3 none ∈ am_tb := am_in (tw_m7 94 rfl) rfl
theorem kd_X10_qTest : yX10_qTest.cls ≠ "java/lang/invoke/MethodHandle" ∧ yX10_qTest.cls ≠ "java/lang/invoke/VarHandle" ∧ (parseMethodDescriptor yX10_qTest.desc).map (fun d => d.parameters.length) = some 0 := by decide +kernel
theorem ki_X10_qTest : Cond.instanceMethod yX10_qTest ∈ am_tb := am_in (tw_m7 93 rfl) rfl
theorem ks_X10_qTest : Cond.selects RX10 yX10_qTest yX10_qTest ∈ am_tb := am_inS 96 rfl rfl
theorem kc_X10_qTold : Cond.code yX10_qTold cX10_qTold 4 (some .long) ∈ am_tb := am_in (tw_m9 11 rfl) rfl
theorem kd_X10_qTold : yX10_qTold.cls ≠ "java/lang/invoke/MethodHandle" ∧ yX10_qTold.cls ≠ "java/lang/invoke/VarHandle" ∧ (parseMethodDescriptor yX10_qTold.desc).map (fun d => d.parameters.length) = some 1 := by decide +kernel
theorem ki_X10_qTold : Cond.instanceMethod yX10_qTold ∈ am_tb := am_in (tw_m9 10 rfl) rfl
theorem ks_X10_qTold : Cond.selects RX10 yX10_qTold yX10_qTold ∈ am_tb := am_inS 161 rfl rfl
theorem kc_X10_qWordHere : Cond.code yX10_qWordHere cX10_qWordHere 1 (some .int) ∈ am_tb := am_in (tw_m7 122 rfl) rfl
theorem kd_X10_qWordHere : yX10_qWordHere.cls ≠ "java/lang/invoke/MethodHandle" ∧ yX10_qWordHere.cls ≠ "java/lang/invoke/VarHandle" ∧ (parseMethodDescriptor yX10_qWordHere.desc).map (fun d => d.parameters.length) = some 0 := by decide +kernel
theorem ki_X10_qWordHere : Cond.instanceMethod yX10_qWordHere ∈ am_tb := am_in (tw_m7 121 rfl) rfl
theorem ks_X10_qWordHere : Cond.selects RX10 yX10_qWordHere yX10_qWordHere ∈ am_tb := am_inS 103 rfl rfl
theorem kc_X10_qWordOf : Cond.code yX10_qWordOf cX10_qWordOf 4 (some .int) ∈ am_tb := am_in (tw_m7 118 rfl) rfl
theorem kd_X10_qWordOf : yX10_qWordOf.cls ≠ "java/lang/invoke/MethodHandle" ∧ yX10_qWordOf.cls ≠ "java/lang/invoke/VarHandle" ∧ (parseMethodDescriptor yX10_qWordOf.desc).map (fun d => d.parameters.length) = some 2 := by decide +kernel
theorem ki_X10_qWordOf : Cond.instanceMethod yX10_qWordOf ∈ am_tb := am_in (tw_m7 117 rfl) rfl
theorem ks_X10_qWordOf : Cond.selects RX10 yX10_qWordOf yX10_qWordOf ∈ am_tb := am_inS 102 rfl rfl
theorem kc_X10_refuses : Cond.code yX10_refuses cX10_refuses 2 (some .int) ∈ am_tb := am_in (tw_m8 204 rfl) rfl
theorem kd_X10_refuses : yX10_refuses.cls ≠ "java/lang/invoke/MethodHandle" ∧ yX10_refuses.cls ≠ "java/lang/invoke/VarHandle" ∧ (parseMethodDescriptor yX10_refuses.desc).map (fun d => d.parameters.length) = some 1 := by decide +kernel
theorem ki_X10_refuses : Cond.instanceMethod yX10_refuses ∈ am_tb := am_in (tw_m8 203 rfl) rfl
theorem ks_X10_refuses : Cond.selects RX10 yX10_refuses yX10_refuses ∈ am_tb := am_inS 157 rfl rfl
theorem kc_X10_reminded : Cond.code yX10_reminded cX10_reminded 6 (some .int) ∈ am_tb := am_in (tw_m8 80 rfl) rfl
theorem kd_X10_reminded : yX10_reminded.cls ≠ "java/lang/invoke/MethodHandle" ∧ yX10_reminded.cls ≠ "java/lang/invoke/VarHandle" ∧ (parseMethodDescriptor yX10_reminded.desc).map (fun d => d.parameters.length) = some 2 := by decide +kernel
theorem ki_X10_reminded : Cond.instanceMethod yX10_reminded ∈ am_tb := am_in (tw_m8 79 rfl) rfl
theorem ks_X10_reminded : Cond.selects RX10 yX10_reminded yX10_reminded ∈ am_tb := am_inS 141 rfl rfl
theorem kc_X10_reminderOf : Cond.code yX10_reminderOf cX10_reminderOf 4 (some .int) ∈ am_tb := am_in (tw_m8 88 rfl) rfl
theorem kd_X10_reminderOf : yX10_reminderOf.cls ≠ "java/lang/invoke/MethodHandle" ∧ yX10_reminderOf.cls ≠ "java/lang/invoke/VarHandle" ∧ (parseMethodDescriptor yX10_reminderOf.desc).map (fun d => d.parameters.length) = some 2 := by decide +kernel
theorem ki_X10_reminderOf : Cond.instanceMethod yX10_reminderOf ∈ am_tb := am_in (tw_m8 87 rfl) rfl
theorem ks_X10_reminderOf : Cond.selects RX10 yX10_reminderOf yX10_reminderOf ∈ am_tb := am_inS 143 rfl rfl
theorem kc_X10_remindersOf : Cond.code yX10_remindersOf cX10_remindersOf 4 (some .int) ∈ am_tb := am_in (tw_m7 233 rfl) rfl
theorem kd_X10_remindersOf : yX10_remindersOf.cls ≠ "java/lang/invoke/MethodHandle" ∧ yX10_remindersOf.cls ≠ "java/lang/invoke/VarHandle" ∧ (parseMethodDescriptor yX10_remindersOf.desc).map (fun d => d.parameters.length) = some 1 := by decide +kernel
theorem ki_X10_remindersOf : Cond.instanceMethod yX10_remindersOf ∈ am_tb := am_in (tw_m7 232 rfl) rfl
theorem ks_X10_remindersOf : Cond.selects RX10 yX10_remindersOf yX10_remindersOf ∈ am_tb := am_inS 125 rfl rfl
theorem kc_X10_remindsTold : Cond.code yX10_remindsTold cX10_remindsTold 4 none ∈ am_tb := am_in (tw_m7 82 rfl) rfl
theorem kd_X10_remindsTold : yX10_remindsTold.cls ≠ "java/lang/invoke/MethodHandle" ∧ yX10_remindsTold.cls ≠ "java/lang/invoke/VarHandle" ∧ (parseMethodDescriptor yX10_remindsTold.desc).map (fun d => d.parameters.length) = some 1 := by decide +kernel
theorem ki_X10_remindsTold : Cond.instanceMethod yX10_remindsTold ∈ am_tb := am_in (tw_m7 81 rfl) rfl
theorem ks_X10_remindsTold : Cond.selects RX10 yX10_remindsTold yX10_remindsTold ∈ am_tb := am_inS 93 rfl rfl
theorem kc_X10_see : Cond.code yX10_see cX10_see 4 (some .int) ∈ am_tb := am_in (tw_m8 166 rfl) rfl
theorem kd_X10_see : yX10_see.cls ≠ "java/lang/invoke/MethodHandle" ∧ yX10_see.cls ≠ "java/lang/invoke/VarHandle" ∧ (parseMethodDescriptor yX10_see.desc).map (fun d => d.parameters.length) = some 0 := by decide +kernel
theorem ki_X10_see : Cond.instanceMethod yX10_see ∈ am_tb := am_in (tw_m8 164 rfl) rfl
theorem ks_X10_see : Cond.selects RX10 yX10_see yX10_see ∈ am_tb := am_in (tw_m8 165 rfl) rfl
theorem kc_X10_seed : Cond.code yX10_seed cX10_seed 2 (some .boolean) ∈ am_tb := am_in (tw_m8 225 rfl) rfl
theorem kd_X10_seed : yX10_seed.cls ≠ "java/lang/invoke/MethodHandle" ∧ yX10_seed.cls ≠ "java/lang/invoke/VarHandle" ∧ (parseMethodDescriptor yX10_seed.desc).map (fun d => d.parameters.length) = some 1 := by decide +kernel
theorem ki_X10_seed : Cond.instanceMethod yX10_seed ∈ am_tb := am_in (tw_m8 223 rfl) rfl
theorem ks_X10_seed : Cond.selects RX10 yX10_seed yX10_seed ∈ am_tb := am_in (tw_m8 224 rfl) rfl
theorem kc_X10_selves : Cond.code yX10_selves cX10_selves 5 (some .int) ∈ am_tb := am_in (tw_m8 48 rfl) rfl
theorem kd_X10_selves : yX10_selves.cls ≠ "java/lang/invoke/MethodHandle" ∧ yX10_selves.cls ≠ "java/lang/invoke/VarHandle" ∧ (parseMethodDescriptor yX10_selves.desc).map (fun d => d.parameters.length) = some 2 := by decide +kernel
theorem ki_X10_selves : Cond.instanceMethod yX10_selves ∈ am_tb := am_in (tw_m8 47 rfl) rfl
theorem ks_X10_selves : Cond.selects RX10 yX10_selves yX10_selves ∈ am_tb := am_inS 135 rfl rfl
theorem kc_X10_setsFrom : Cond.code yX10_setsFrom cX10_setsFrom 1 (some .int) ∈ am_tb := am_in (tw_m9 51 rfl) rfl
theorem kd_X10_setsFrom : yX10_setsFrom.cls ≠ "java/lang/invoke/MethodHandle" ∧ yX10_setsFrom.cls ≠ "java/lang/invoke/VarHandle" ∧ (parseMethodDescriptor yX10_setsFrom.desc).map (fun d => d.parameters.length) = some 0 := by decide +kernel
theorem ki_X10_setsFrom : Cond.instanceMethod yX10_setsFrom ∈ am_tb := am_in (tw_m9 50 rfl) rfl
theorem ks_X10_setsFrom : Cond.selects RX10 yX10_setsFrom yX10_setsFrom ∈ am_tb := am_inS 167 rfl rfl
theorem kc_X10_setsOf : Cond.code yX10_setsOf cX10_setsOf 4 (some .int) ∈ am_tb := am_in (tw_m7 204 rfl) rfl
theorem kd_X10_setsOf : yX10_setsOf.cls ≠ "java/lang/invoke/MethodHandle" ∧ yX10_setsOf.cls ≠ "java/lang/invoke/VarHandle" ∧ (parseMethodDescriptor yX10_setsOf.desc).map (fun d => d.parameters.length) = some 1 := by decide +kernel
theorem ki_X10_setsOf : Cond.instanceMethod yX10_setsOf ∈ am_tb := am_in (tw_m7 203 rfl) rfl
theorem ks_X10_setsOf : Cond.selects RX10 yX10_setsOf yX10_setsOf ∈ am_tb := am_inS 120 rfl rfl
theorem kc_X10_slips : Cond.code yX10_slips cX10_slips 6 (some .int) ∈ am_tb := am_in (tw_m8 116 rfl) rfl
theorem kd_X10_slips : yX10_slips.cls ≠ "java/lang/invoke/MethodHandle" ∧ yX10_slips.cls ≠ "java/lang/invoke/VarHandle" ∧ (parseMethodDescriptor yX10_slips.desc).map (fun d => d.parameters.length) = some 1 := by decide +kernel
theorem ki_X10_slips : Cond.instanceMethod yX10_slips ∈ am_tb := am_in (tw_m8 114 rfl) rfl
theorem ks_X10_slips : Cond.selects RX10 yX10_slips yX10_slips ∈ am_tb := am_in (tw_m8 115 rfl) rfl
theorem kc_X10_stands : Cond.code yX10_stands cX10_stands 2 none ∈ am_tb := am_in (tw_m7 173 rfl) rfl
theorem kd_X10_stands : yX10_stands.cls ≠ "java/lang/invoke/MethodHandle" ∧ yX10_stands.cls ≠ "java/lang/invoke/VarHandle" ∧ (parseMethodDescriptor yX10_stands.desc).map (fun d => d.parameters.length) = some 0 := by decide +kernel
theorem ki_X10_stands : Cond.instanceMethod yX10_stands ∈ am_tb := am_in (tw_m7 172 rfl) rfl
theorem ks_X10_stands : Cond.selects RX10 yX10_stands yX10_stands ∈ am_tb := am_inS 115 rfl rfl
theorem kc_X10_statementTold : Cond.code yX10_statementTold cX10_statementTold 2 none ∈ am_tb := am_in (tw_m7 48 rfl) rfl
theorem kd_X10_statementTold : yX10_statementTold.cls ≠ "java/lang/invoke/MethodHandle" ∧ yX10_statementTold.cls ≠ "java/lang/invoke/VarHandle" ∧ (parseMethodDescriptor yX10_statementTold.desc).map (fun d => d.parameters.length) = some 0 := by decide +kernel
theorem ki_X10_statementTold : Cond.instanceMethod yX10_statementTold ∈ am_tb := am_in (tw_m7 47 rfl) rfl
theorem ks_X10_statementTold : Cond.selects RX10 yX10_statementTold yX10_statementTold ∈ am_tb := am_inS 85 rfl rfl
theorem kc_X10_status : Cond.code yX10_status cX10_status 2 (some .int) ∈ am_tb := am_in (tw_m9 72 rfl) rfl
theorem kd_X10_status : yX10_status.cls ≠ "java/lang/invoke/MethodHandle" ∧ yX10_status.cls ≠ "java/lang/invoke/VarHandle" ∧ (parseMethodDescriptor yX10_status.desc).map (fun d => d.parameters.length) = some 1 := by decide +kernel
theorem ki_X10_status : Cond.instanceMethod yX10_status ∈ am_tb := am_in (tw_m9 70 rfl) rfl
theorem ks_X10_status : Cond.selects RX10 yX10_status yX10_status ∈ am_tb := am_in (tw_m9 71 rfl) rfl
theorem kc_X10_sure : Cond.code yX10_sure cX10_sure 4 (some .int) ∈ am_tb := am_in (tw_m8 112 rfl) rfl
theorem kd_X10_sure : yX10_sure.cls ≠ "java/lang/invoke/MethodHandle" ∧ yX10_sure.cls ≠ "java/lang/invoke/VarHandle" ∧ (parseMethodDescriptor yX10_sure.desc).map (fun d => d.parameters.length) = some 1 := by decide +kernel
theorem ki_X10_sure : Cond.instanceMethod yX10_sure ∈ am_tb := am_in (tw_m8 110 rfl) rfl
theorem ks_X10_sure : Cond.selects RX10 yX10_sure yX10_sure ∈ am_tb := am_in (tw_m8 111 rfl) rfl
theorem kc_X10_takes : Cond.code yX10_takes cX10_takes 2 (some .boolean) ∈ am_tb := am_in (tw_m7 11 rfl) rfl
theorem kd_X10_takes : yX10_takes.cls ≠ "java/lang/invoke/MethodHandle" ∧ yX10_takes.cls ≠ "java/lang/invoke/VarHandle" ∧ (parseMethodDescriptor yX10_takes.desc).map (fun d => d.parameters.length) = some 1 := by decide +kernel
theorem ki_X10_takes : Cond.instanceMethod yX10_takes ∈ am_tb := am_in (tw_m7 10 rfl) rfl
theorem ks_X10_takes : Cond.selects RX10 yX10_takes yX10_takes ∈ am_tb := am_inS 78 rfl rfl
theorem kc_X10_takesBack : Cond.code yX10_takesBack cX10_takesBack 2 none ∈ am_tb := am_in (tw_m8 96 rfl) rfl
theorem kd_X10_takesBack : yX10_takesBack.cls ≠ "java/lang/invoke/MethodHandle" ∧ yX10_takesBack.cls ≠ "java/lang/invoke/VarHandle" ∧ (parseMethodDescriptor yX10_takesBack.desc).map (fun d => d.parameters.length) = some 0 := by decide +kernel
theorem ki_X10_takesBack : Cond.instanceMethod yX10_takesBack ∈ am_tb := am_in (tw_m8 95 rfl) rfl
theorem ks_X10_takesBack : Cond.selects RX10 yX10_takesBack yX10_takesBack ∈ am_tb := am_inS 145 rfl rfl
theorem kc_X10_takesSets : Cond.code yX10_takesSets cX10_takesSets 4 none ∈ am_tb := am_in (tw_m9 68 rfl) rfl
theorem kd_X10_takesSets : yX10_takesSets.cls ≠ "java/lang/invoke/MethodHandle" ∧ yX10_takesSets.cls ≠ "java/lang/invoke/VarHandle" ∧ (parseMethodDescriptor yX10_takesSets.desc).map (fun d => d.parameters.length) = some 2 := by decide +kernel
theorem ki_X10_takesSets : Cond.instanceMethod yX10_takesSets ∈ am_tb := am_in (tw_m9 67 rfl) rfl
theorem ks_X10_takesSets : Cond.selects RX10 yX10_takesSets yX10_takesSets ∈ am_tb := am_inS 171 rfl rfl
theorem kc_X10_takesSign : Cond.code yX10_takesSign cX10_takesSign 2 (some .boolean) ∈ am_tb := am_in (tw_m7 44 rfl) rfl
theorem kd_X10_takesSign : yX10_takesSign.cls ≠ "java/lang/invoke/MethodHandle" ∧ yX10_takesSign.cls ≠ "java/lang/invoke/VarHandle" ∧ (parseMethodDescriptor yX10_takesSign.desc).map (fun d => d.parameters.length) = some 1 := by decide +kernel
theorem ki_X10_takesSign : Cond.instanceMethod yX10_takesSign ∈ am_tb := am_in (tw_m7 43 rfl) rfl
theorem ks_X10_takesSign : Cond.selects RX10 yX10_takesSign yX10_takesSign ∈ am_tb := am_inS 84 rfl rfl
theorem kc_X10_tell : Cond.code yX10_tell cX10_tell 4 (some .int) ∈ am_tb := am_in (tw_m8 212 rfl) rfl
theorem kd_X10_tell : yX10_tell.cls ≠ "java/lang/invoke/MethodHandle" ∧ yX10_tell.cls ≠ "java/lang/invoke/VarHandle" ∧ (parseMethodDescriptor yX10_tell.desc).map (fun d => d.parameters.length) = some 2 := by decide +kernel
theorem ki_X10_tell : Cond.instanceMethod yX10_tell ∈ am_tb := am_in (tw_m8 210 rfl) rfl
theorem ks_X10_tell : Cond.selects RX10 yX10_tell yX10_tell ∈ am_tb := am_in (tw_m8 211 rfl) rfl
theorem kc_X10_tellsFirst : Cond.code yX10_tellsFirst cX10_tellsFirst 3 (some .boolean) ∈ am_tb := am_in (tw_m8 158 rfl) rfl
theorem kd_X10_tellsFirst : yX10_tellsFirst.cls ≠ "java/lang/invoke/MethodHandle" ∧ yX10_tellsFirst.cls ≠ "java/lang/invoke/VarHandle" ∧ (parseMethodDescriptor yX10_tellsFirst.desc).map (fun d => d.parameters.length) = some 0 := by decide +kernel
theorem ki_X10_tellsFirst : Cond.instanceMethod yX10_tellsFirst ∈ am_tb := am_in (tw_m8 157 rfl) rfl
theorem ks_X10_tellsFirst : Cond.selects RX10 yX10_tellsFirst yX10_tellsFirst ∈ am_tb := am_inS 152 rfl rfl
theorem kc_X10_tellsLast : Cond.code yX10_tellsLast cX10_tellsLast 5 (some .boolean) ∈ am_tb := am_in (tw_m8 150 rfl) rfl
theorem kd_X10_tellsLast : yX10_tellsLast.cls ≠ "java/lang/invoke/MethodHandle" ∧ yX10_tellsLast.cls ≠ "java/lang/invoke/VarHandle" ∧ (parseMethodDescriptor yX10_tellsLast.desc).map (fun d => d.parameters.length) = some 2 := by decide +kernel
theorem ki_X10_tellsLast : Cond.instanceMethod yX10_tellsLast ∈ am_tb := am_in (tw_m8 149 rfl) rfl
theorem ks_X10_tellsLast : Cond.selects RX10 yX10_tellsLast yX10_tellsLast ∈ am_tb := am_inS 150 rfl rfl
theorem kc_X10_thought : Cond.code yX10_thought cX10_thought 8 (some .int) ∈ am_tb := am_in (tw_m8 170 rfl) rfl
theorem kd_X10_thought : yX10_thought.cls ≠ "java/lang/invoke/MethodHandle" ∧ yX10_thought.cls ≠ "java/lang/invoke/VarHandle" ∧ (parseMethodDescriptor yX10_thought.desc).map (fun d => d.parameters.length) = some 1 := by decide +kernel
theorem ki_X10_thought : Cond.instanceMethod yX10_thought ∈ am_tb := am_in (tw_m8 168 rfl) rfl
theorem ks_X10_thought : Cond.selects RX10 yX10_thought yX10_thought ∈ am_tb := am_in (tw_m8 169 rfl) rfl
theorem kc_X10_toldDays : Cond.code yX10_toldDays cX10_toldDays 4 (some .int) ∈ am_tb := am_in (tw_m7 237 rfl) rfl
theorem kd_X10_toldDays : yX10_toldDays.cls ≠ "java/lang/invoke/MethodHandle" ∧ yX10_toldDays.cls ≠ "java/lang/invoke/VarHandle" ∧ (parseMethodDescriptor yX10_toldDays.desc).map (fun d => d.parameters.length) = some 1 := by decide +kernel
theorem ki_X10_toldDays : Cond.instanceMethod yX10_toldDays ∈ am_tb := am_in (tw_m7 236 rfl) rfl
theorem ks_X10_toldDays : Cond.selects RX10 yX10_toldDays yX10_toldDays ∈ am_tb := am_inS 126 rfl rfl
theorem kc_X10_town : Cond.code yX10_town cX10_town 2 (some .int) ∈ am_tb := am_in (tw_m6 239 rfl) rfl
theorem kd_X10_town : yX10_town.cls ≠ "java/lang/invoke/MethodHandle" ∧ yX10_town.cls ≠ "java/lang/invoke/VarHandle" ∧ (parseMethodDescriptor yX10_town.desc).map (fun d => d.parameters.length) = some 0 := by decide +kernel
theorem ki_X10_town : Cond.instanceMethod yX10_town ∈ am_tb := am_in (tw_m6 237 rfl) rfl
theorem ks_X10_town : Cond.selects RX10 yX10_town yX10_town ∈ am_tb := am_in (tw_m6 238 rfl) rfl
theorem kc_X10_turnsOf : Cond.code yX10_turnsOf cX10_turnsOf 3 (some .int) ∈ am_tb := am_in (tw_m8 141 rfl) rfl
theorem kd_X10_turnsOf : yX10_turnsOf.cls ≠ "java/lang/invoke/MethodHandle" ∧ yX10_turnsOf.cls ≠ "java/lang/invoke/VarHandle" ∧ (parseMethodDescriptor yX10_turnsOf.desc).map (fun d => d.parameters.length) = some 1 := by decide +kernel
theorem ki_X10_turnsOf : Cond.instanceMethod yX10_turnsOf ∈ am_tb := am_in (tw_m8 139 rfl) rfl
theorem ks_X10_turnsOf : Cond.selects RX10 yX10_turnsOf yX10_turnsOf ∈ am_tb := am_in (tw_m8 140 rfl) rfl
theorem kc_X10_undo : Cond.code yX10_undo cX10_undo 2 (some .boolean) ∈ am_tb := am_in (tw_m8 195 rfl) rfl
theorem kd_X10_undo : yX10_undo.cls ≠ "java/lang/invoke/MethodHandle" ∧ yX10_undo.cls ≠ "java/lang/invoke/VarHandle" ∧ (parseMethodDescriptor yX10_undo.desc).map (fun d => d.parameters.length) = some 0 := by decide +kernel
theorem ki_X10_undo : Cond.instanceMethod yX10_undo ∈ am_tb := am_in (tw_m8 193 rfl) rfl
theorem ks_X10_undo : Cond.selects RX10 yX10_undo yX10_undo ∈ am_tb := am_in (tw_m8 194 rfl) rfl
theorem kc_X10_writes : Cond.code yX10_writes cX10_writes 2 none ∈ am_tb := am_in (tw_m9 27 rfl) rfl
theorem kd_X10_writes : yX10_writes.cls ≠ "java/lang/invoke/MethodHandle" ∧ yX10_writes.cls ≠ "java/lang/invoke/VarHandle" ∧ (parseMethodDescriptor yX10_writes.desc).map (fun d => d.parameters.length) = some 1 := by decide +kernel
theorem ki_X10_writes : Cond.instanceMethod yX10_writes ∈ am_tb := am_in (tw_m9 26 rfl) rfl
theorem ks_X10_writes : Cond.selects RX10 yX10_writes yX10_writes ∈ am_tb := am_inS 164 rfl rfl
theorem kc_X10_writesSets : Cond.code yX10_writesSets cX10_writesSets 4 none ∈ am_tb := am_in (tw_m9 32 rfl) rfl
theorem kd_X10_writesSets : yX10_writesSets.cls ≠ "java/lang/invoke/MethodHandle" ∧ yX10_writesSets.cls ≠ "java/lang/invoke/VarHandle" ∧ (parseMethodDescriptor yX10_writesSets.desc).map (fun d => d.parameters.length) = some 1 := by decide +kernel
theorem ki_X10_writesSets : Cond.instanceMethod yX10_writesSets ∈ am_tb := am_in (tw_m9 31 rfl) rfl
theorem ks_X10_writesSets : Cond.selects RX10 yX10_writesSets yX10_writesSets ∈ am_tb := am_inS 165 rfl rfl
theorem kc_X10_yearDays : Cond.code yX10_yearDays cX10_yearDays 1 (some .int) ∈ am_tb := am_in (tw_m7 185 rfl) rfl
theorem kd_X10_yearDays : yX10_yearDays.cls ≠ "java/lang/invoke/MethodHandle" ∧ yX10_yearDays.cls ≠ "java/lang/invoke/VarHandle" ∧ (parseMethodDescriptor yX10_yearDays.desc).map (fun d => d.parameters.length) = some 0 := by decide +kernel
theorem ki_X10_yearDays : Cond.instanceMethod yX10_yearDays ∈ am_tb := am_in (tw_m7 184 rfl) rfl
theorem ks_X10_yearDays : Cond.selects RX10 yX10_yearDays yX10_yearDays ∈ am_tb := am_inS 116 rfl rfl
theorem kc_J6_bitCount_0f7a4 : Cond.code yJ6_bitCount_0f7a4 cJ6_bitCount_0f7a4 1 (some .int) ∈ am_tb := am_in (tw_m4 28 rfl) rfl
theorem kd_J6_bitCount_0f7a4 : yJ6_bitCount_0f7a4.cls ≠ "java/lang/invoke/MethodHandle" ∧ yJ6_bitCount_0f7a4.cls ≠ "java/lang/invoke/VarHandle" ∧ (parseMethodDescriptor yJ6_bitCount_0f7a4.desc).map (fun d => d.parameters.length) = some 1 := by decide +kernel
theorem ki_J6_bitCount_0f7a4 : Cond.static yJ6_bitCount_0f7a4 ∈ am_tb := am_in (tw_m4 27 rfl) rfl
theorem kc_J6_numberOfTrailingZeros_0f7a4 : Cond.code yJ6_numberOfTrailingZeros_0f7a4 cJ6_numberOfTrailingZeros_0f7a4 2 (some .int) ∈ am_tb := am_in (tw_m4 147 rfl) rfl
theorem kd_J6_numberOfTrailingZeros_0f7a4 : yJ6_numberOfTrailingZeros_0f7a4.cls ≠ "java/lang/invoke/MethodHandle" ∧ yJ6_numberOfTrailingZeros_0f7a4.cls ≠ "java/lang/invoke/VarHandle" ∧ (parseMethodDescriptor yJ6_numberOfTrailingZeros_0f7a4.desc).map (fun d => d.parameters.length) = some 1 := by decide +kernel
theorem ki_J6_numberOfTrailingZeros_0f7a4 : Cond.static yJ6_numberOfTrailingZeros_0f7a4 ∈ am_tb := am_in (tw_m4 146 rfl) rfl
theorem kc_J9_floorDiv_7cf53 : Cond.code yJ9_floorDiv_7cf53 cJ9_floorDiv_7cf53 3 (some .int) ∈ am_tb := am_in (tw_m4 131 rfl) rfl
theorem kd_J9_floorDiv_7cf53 : yJ9_floorDiv_7cf53.cls ≠ "java/lang/invoke/MethodHandle" ∧ yJ9_floorDiv_7cf53.cls ≠ "java/lang/invoke/VarHandle" ∧ (parseMethodDescriptor yJ9_floorDiv_7cf53.desc).map (fun d => d.parameters.length) = some 2 := by decide +kernel
theorem ki_J9_floorDiv_7cf53 : Cond.static yJ9_floorDiv_7cf53 ∈ am_tb := am_in (tw_m4 130 rfl) rfl
theorem kc_J9_max_7cf53 : Cond.code yJ9_max_7cf53 cJ9_max_7cf53 2 (some .int) ∈ am_tb := am_in (tw_m1 63 rfl) rfl
theorem kd_J9_max_7cf53 : yJ9_max_7cf53.cls ≠ "java/lang/invoke/MethodHandle" ∧ yJ9_max_7cf53.cls ≠ "java/lang/invoke/VarHandle" ∧ (parseMethodDescriptor yJ9_max_7cf53.desc).map (fun d => d.parameters.length) = some 2 := by decide +kernel
theorem ki_J9_max_7cf53 : Cond.static yJ9_max_7cf53 ∈ am_tb := am_in (tw_m1 62 rfl) rfl
theorem kc_J9_max_f86c9 : Cond.code yJ9_max_f86c9 cJ9_max_f86c9 4 (some .long) ∈ am_tb := am_in (tw_m4 140 rfl) rfl
theorem kd_J9_max_f86c9 : yJ9_max_f86c9.cls ≠ "java/lang/invoke/MethodHandle" ∧ yJ9_max_f86c9.cls ≠ "java/lang/invoke/VarHandle" ∧ (parseMethodDescriptor yJ9_max_f86c9.desc).map (fun d => d.parameters.length) = some 2 := by decide +kernel
theorem ki_J9_max_f86c9 : Cond.static yJ9_max_f86c9 ∈ am_tb := am_in (tw_m4 139 rfl) rfl
theorem kc_J9_min_7cf53 : Cond.code yJ9_min_7cf53 cJ9_min_7cf53 2 (some .int) ∈ am_tb := am_in (tw_m3 77 rfl) rfl
theorem kd_J9_min_7cf53 : yJ9_min_7cf53.cls ≠ "java/lang/invoke/MethodHandle" ∧ yJ9_min_7cf53.cls ≠ "java/lang/invoke/VarHandle" ∧ (parseMethodDescriptor yJ9_min_7cf53.desc).map (fun d => d.parameters.length) = some 2 := by decide +kernel
theorem ki_J9_min_7cf53 : Cond.static yJ9_min_7cf53 ∈ am_tb := am_in (tw_m3 76 rfl) rfl
theorem kc_J9_min_f86c9 : Cond.code yJ9_min_f86c9 cJ9_min_f86c9 4 (some .long) ∈ am_tb := am_in (tw_m4 137 rfl) rfl
theorem kd_J9_min_f86c9 : yJ9_min_f86c9.cls ≠ "java/lang/invoke/MethodHandle" ∧ yJ9_min_f86c9.cls ≠ "java/lang/invoke/VarHandle" ∧ (parseMethodDescriptor yJ9_min_f86c9.desc).map (fun d => d.parameters.length) = some 2 := by decide +kernel
theorem ki_J9_min_f86c9 : Cond.static yJ9_min_f86c9 ∈ am_tb := am_in (tw_m4 136 rfl) rfl
theorem kc_J7_fill_53178 : Cond.code yJ7_fill_53178 cJ7_fill_53178 4 none ∈ am_tb := am_in (tw_m3 129 rfl) rfl
theorem kd_J7_fill_53178 : yJ7_fill_53178.cls ≠ "java/lang/invoke/MethodHandle" ∧ yJ7_fill_53178.cls ≠ "java/lang/invoke/VarHandle" ∧ (parseMethodDescriptor yJ7_fill_53178.desc).map (fun d => d.parameters.length) = some 2 := by decide +kernel
theorem ki_J7_fill_53178 : Cond.static yJ7_fill_53178 ∈ am_tb := am_in (tw_m3 128 rfl) rfl
