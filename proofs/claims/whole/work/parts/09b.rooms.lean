abbrev rmX0_floorOf : Room := { frames := 0, cells := 0, slots := 0, locals := 0 }
theorem xs_X0_floorOf : XS yX0_floorOf cX0_floorOf 2 (some .int) rmX0_floorOf RX0 1 := ⟨tco_X0_floorOf, tini_X0, by decide +kernel, rfl, rfl⟩
abbrev rmX0_roofOf : Room := { frames := 0, cells := 0, slots := 0, locals := 0 }
theorem xs_X0_roofOf : XS yX0_roofOf cX0_roofOf 2 (some .int) rmX0_roofOf RX0 1 := ⟨tco_X0_roofOf, tini_X0, by decide +kernel, rfl, rfl⟩
abbrev rmX0_measureAll : Room := { frames := 4, cells := 0, slots := 0, locals := 96 }
theorem xs_X0_measureAll : XS yX0_measureAll cX0_measureAll 4 none rmX0_measureAll RX0 2 := ⟨tco_X0_measureAll, tini_X0, by decide +kernel, rfl, rfl⟩
abbrev rmX0_measure : Room := { frames := 3, cells := 0, slots := 0, locals := 72 }
theorem xs_X0_measure : XS yX0_measure cX0_measure 5 none rmX0_measure RX0 3 := ⟨tco_X0_measure, tini_X0, by decide +kernel, rfl, rfl⟩
abbrev rmX0_tightenByLatest : Room := { frames := 3, cells := 0, slots := 0, locals := 72 }
theorem xs_X0_tightenByLatest : XS yX0_tightenByLatest cX0_tightenByLatest 4 none rmX0_tightenByLatest RX0 2 := ⟨tco_X0_tightenByLatest, tini_X0, by decide +kernel, rfl, rfl⟩
abbrev rmX0_tighten : Room := { frames := 2, cells := 0, slots := 0, locals := 47 }
theorem xs_X0_tighten : XS yX0_tighten cX0_tighten 6 none rmX0_tighten RX0 4 := ⟨tco_X0_tighten, tini_X0, by decide +kernel, rfl, rfl⟩
abbrev rmX0_howManyLeft : Room := { frames := 2, cells := 0, slots := 0, locals := 44 }
theorem xs_X0_howManyLeft : XS yX0_howManyLeft cX0_howManyLeft 5 (some .int) rmX0_howManyLeft RX0 1 := ⟨tco_X0_howManyLeft, tini_X0, by decide +kernel, rfl, rfl⟩
abbrev rmX0_nextOf : Room := { frames := 2, cells := 0, slots := 0, locals := 44 }
theorem xs_X0_nextOf : XS yX0_nextOf cX0_nextOf 6 (some .int) rmX0_nextOf RX0 1 := ⟨tco_X0_nextOf, tini_X0, by decide +kernel, rfl, rfl⟩
abbrev rmX0_greatestFloor : Room := { frames := 1, cells := 0, slots := 0, locals := 21 }
theorem xs_X0_greatestFloor : XS yX0_greatestFloor cX0_greatestFloor 4 (some .int) rmX0_greatestFloor RX0 1 := ⟨tco_X0_greatestFloor, tini_X0, by decide +kernel, rfl, rfl⟩
abbrev rmX1_changeBase : Room := { frames := 0, cells := 0, slots := 0, locals := 0 }
theorem xs_X1_changeBase : XS yX1_changeBase cX1_changeBase 3 (some .int) rmX1_changeBase RX1 1 := ⟨tco_X1_changeBase, tini_X1, by decide +kernel, rfl, rfl⟩
abbrev rmX1_changeSingle : Room := { frames := 1, cells := 0, slots := 0, locals := 21 }
theorem xs_X1_changeSingle : XS yX1_changeSingle cX1_changeSingle 6 (some .int) rmX1_changeSingle RX1 3 := ⟨tco_X1_changeSingle, tini_X1, by decide +kernel, rfl, rfl⟩
abbrev rmX1_changeJoint : Room := { frames := 1, cells := 0, slots := 0, locals := 21 }
theorem xs_X1_changeJoint : XS yX1_changeJoint cX1_changeJoint 8 (some .int) rmX1_changeJoint RX1 5 := ⟨tco_X1_changeJoint, tini_X1, by decide +kernel, rfl, rfl⟩
abbrev rmX1_sumFor : Room := { frames := 1, cells := 0, slots := 0, locals := 22 }
theorem xs_X1_sumFor : XS yX1_sumFor cX1_sumFor 6 (some .int) rmX1_sumFor RX1 2 := ⟨tco_X1_sumFor, tini_X1, by decide +kernel, rfl, rfl⟩
abbrev rmX2_howMany : Room := { frames := 0, cells := 0, slots := 0, locals := 0 }
theorem xs_X2_howMany : XS yX2_howMany cX2_howMany 1 (some .int) rmX2_howMany RX2 0 := ⟨tco_X2_howMany, tini_X2, by decide +kernel, rfl, rfl⟩
abbrev rmX2_howManySettings : Room := { frames := 0, cells := 0, slots := 0, locals := 0 }
theorem xs_X2_howManySettings : XS yX2_howManySettings cX2_howManySettings 1 (some .int) rmX2_howManySettings RX2 0 := ⟨tco_X2_howManySettings, tini_X2, by decide +kernel, rfl, rfl⟩
abbrev rmX2_hasRoomFor : Room := { frames := 0, cells := 0, slots := 0, locals := 0 }
theorem xs_X2_hasRoomFor : XS yX2_hasRoomFor cX2_hasRoomFor 2 (some .boolean) rmX2_hasRoomFor RX2 1 := ⟨tco_X2_hasRoomFor, tini_X2, by decide +kernel, rfl, rfl⟩
abbrev rmX2_add : Room := { frames := 1, cells := 0, slots := 0, locals := 21 }
theorem xs_X2_add : XS yX2_add cX2_add 4 (some .int) rmX2_add RX2 1 := ⟨tco_X2_add, tini_X2, by decide +kernel, rfl, rfl⟩
abbrev rmX2_hasKnob : Room := { frames := 0, cells := 0, slots := 0, locals := 0 }
theorem xs_X2_hasKnob : XS yX2_hasKnob cX2_hasKnob 2 (some .boolean) rmX2_hasKnob RX2 1 := ⟨tco_X2_hasKnob, tini_X2, by decide +kernel, rfl, rfl⟩
abbrev rmX2_hasValue : Room := { frames := 1, cells := 0, slots := 0, locals := 21 }
theorem xs_X2_hasValue : XS yX2_hasValue cX2_hasValue 3 (some .boolean) rmX2_hasValue RX2 2 := ⟨tco_X2_hasValue, tini_X2, by decide +kernel, rfl, rfl⟩
abbrev rmX2_hasSetting : Room := { frames := 0, cells := 0, slots := 0, locals := 0 }
theorem xs_X2_hasSetting : XS yX2_hasSetting cX2_hasSetting 2 (some .boolean) rmX2_hasSetting RX2 1 := ⟨tco_X2_hasSetting, tini_X2, by decide +kernel, rfl, rfl⟩
abbrev rmX2_changePlace : Room := { frames := 1, cells := 0, slots := 0, locals := 21 }
theorem xs_X2_changePlace : XS yX2_changePlace cX2_changePlace 5 (some .int) rmX2_changePlace RX2 3 := ⟨tco_X2_changePlace, tini_X2, by decide +kernel, rfl, rfl⟩
abbrev rmX2_changeSteepness : Room := { frames := 0, cells := 0, slots := 0, locals := 0 }
theorem xs_X2_changeSteepness : XS yX2_changeSteepness cX2_changeSteepness 4 (some .int) rmX2_changeSteepness RX2 2 := ⟨tco_X2_changeSteepness, tini_X2, by decide +kernel, rfl, rfl⟩
abbrev rmX2_valueIn : Room := { frames := 0, cells := 0, slots := 0, locals := 0 }
theorem xs_X2_valueIn : XS yX2_valueIn cX2_valueIn 3 (some .int) rmX2_valueIn RX2 2 := ⟨tco_X2_valueIn, tini_X2, by decide +kernel, rfl, rfl⟩
abbrev rmX2_moved : Room := { frames := 1, cells := 0, slots := 0, locals := 22 }
theorem xs_X2_moved : XS yX2_moved cX2_moved 4 (some .int) rmX2_moved RX2 3 := ⟨tco_X2_moved, tini_X2, by decide +kernel, rfl, rfl⟩
abbrev rmX2_off : Room := { frames := 1, cells := 0, slots := 0, locals := 22 }
theorem xs_X2_off : XS yX2_off cX2_off 6 (some .int) rmX2_off RX2 2 := ⟨tco_X2_off, tini_X2, by decide +kernel, rfl, rfl⟩
abbrev rmX2_slot : Room := { frames := 0, cells := 0, slots := 0, locals := 0 }
theorem xs_X2_slot : XS yX2_slot cX2_slot 2 (some .int) rmX2_slot RX2 2 := ⟨tco_X2_slot, tini_X2, by decide +kernel, rfl, rfl⟩
abbrev rmX3_howMany : Room := { frames := 0, cells := 0, slots := 0, locals := 0 }
theorem xs_X3_howMany : XS yX3_howMany cX3_howMany 1 (some .int) rmX3_howMany RX3 0 := ⟨tco_X3_howMany, tini_X3, by decide +kernel, rfl, rfl⟩
abbrev rmX3_settingAt : Room := { frames := 0, cells := 0, slots := 0, locals := 0 }
theorem xs_X3_settingAt : XS yX3_settingAt cX3_settingAt 2 (some .int) rmX3_settingAt RX3 1 := ⟨tco_X3_settingAt, tini_X3, by decide +kernel, rfl, rfl⟩
abbrev rmX3_worthAt : Room := { frames := 0, cells := 0, slots := 0, locals := 0 }
theorem xs_X3_worthAt : XS yX3_worthAt cX3_worthAt 2 (some .int) rmX3_worthAt RX3 1 := ⟨tco_X3_worthAt, tini_X3, by decide +kernel, rfl, rfl⟩
abbrev rmX3_gather : Room := { frames := 3, cells := 0, slots := 0, locals := 69 }
theorem xs_X3_gather : XS yX3_gather cX3_gather 4 none rmX3_gather RX3 2 := ⟨tco_X3_gather, tini_X3, by decide +kernel, rfl, rfl⟩
abbrev rmX3_weigh : Room := { frames := 2, cells := 0, slots := 0, locals := 47 }
theorem xs_X3_weigh : XS yX3_weigh cX3_weigh 4 none rmX3_weigh RX3 2 := ⟨tco_X3_weigh, tini_X3, by decide +kernel, rfl, rfl⟩
abbrev rmX4_countingWays : Room := { frames := 0, cells := 0, slots := 0, locals := 0 }
theorem xs_X4_countingWays : XS yX4_countingWays cX4_countingWays 1 (some .int) rmX4_countingWays RX4 0 := ⟨tco_X4_countingWays, tini_X4, by decide +kernel, rfl, rfl⟩
abbrev rmX4_allWays : Room := { frames := 0, cells := 0, slots := 0, locals := 0 }
theorem xs_X4_allWays : XS yX4_allWays cX4_allWays 1 (some .int) rmX4_allWays RX4 0 := ⟨tco_X4_allWays, tini_X4, by decide +kernel, rfl, rfl⟩
abbrev rmX4_compare : Room := { frames := 2, cells := 0, slots := 0, locals := 48 }
theorem xs_X4_compare : XS yX4_compare cX4_compare 7 none rmX4_compare RX4 3 := ⟨tco_X4_compare, tini_X4, by decide +kernel, rfl, rfl⟩
abbrev rmX4_gather : Room := { frames := 1, cells := 0, slots := 0, locals := 21 }
theorem xs_X4_gather : XS yX4_gather cX4_gather 5 none rmX4_gather RX4 2 := ⟨tco_X4_gather, tini_X4, by decide +kernel, rfl, rfl⟩
abbrev rmX4_rankAt : Room := { frames := 0, cells := 0, slots := 0, locals := 0 }
theorem xs_X4_rankAt : XS yX4_rankAt cX4_rankAt 4 (some .int) rmX4_rankAt RX4 1 := ⟨tco_X4_rankAt, tini_X4, by decide +kernel, rfl, rfl⟩
abbrev rmX4_spreadWays : Room := { frames := 1, cells := 0, slots := 0, locals := 23 }
theorem xs_X4_spreadWays : XS yX4_spreadWays cX4_spreadWays 6 none rmX4_spreadWays RX4 1 := ⟨tco_X4_spreadWays, tini_X4, by decide +kernel, rfl, rfl⟩
abbrev rmX4_waysFrom : Room := { frames := 0, cells := 0, slots := 0, locals := 0 }
theorem xs_X4_waysFrom : XS yX4_waysFrom cX4_waysFrom 5 (some .int) rmX4_waysFrom RX4 2 := ⟨tco_X4_waysFrom, tini_X4, by decide +kernel, rfl, rfl⟩
abbrev rmX5_howMany : Room := { frames := 0, cells := 0, slots := 0, locals := 0 }
theorem xs_X5_howMany : XS yX5_howMany cX5_howMany 1 (some .int) rmX5_howMany RX5 0 := ⟨tco_X5_howMany, tini_X5, by decide +kernel, rfl, rfl⟩
abbrev rmX5_isFull : Room := { frames := 0, cells := 0, slots := 0, locals := 0 }
theorem xs_X5_isFull : XS yX5_isFull cX5_isFull 1 (some .boolean) rmX5_isFull RX5 0 := ⟨tco_X5_isFull, tini_X5, by decide +kernel, rfl, rfl⟩
abbrev rmX5_add : Room := { frames := 0, cells := 0, slots := 0, locals := 0 }
theorem xs_X5_add : XS yX5_add cX5_add 6 none rmX5_add RX5 5 := ⟨tco_X5_add, tini_X5, by decide +kernel, rfl, rfl⟩
abbrev rmX5_dropLatest : Room := { frames := 0, cells := 0, slots := 0, locals := 0 }
theorem xs_X5_dropLatest : XS yX5_dropLatest cX5_dropLatest 1 none rmX5_dropLatest RX5 0 := ⟨tco_X5_dropLatest, tini_X5, by decide +kernel, rfl, rfl⟩
abbrev rmX5_allow : Room := { frames := 2, cells := 0, slots := 0, locals := 46 }
theorem xs_X5_allow : XS yX5_allow cX5_allow 4 (some .boolean) rmX5_allow RX5 2 := ⟨tco_X5_allow, tini_X5, by decide +kernel, rfl, rfl⟩
abbrev rmX5_isAgainst : Room := { frames := 1, cells := 0, slots := 0, locals := 22 }
theorem xs_X5_isAgainst : XS yX5_isAgainst cX5_isAgainst 5 (some .boolean) rmX5_isAgainst RX5 3 := ⟨tco_X5_isAgainst, tini_X5, by decide +kernel, rfl, rfl⟩
abbrev rmX6_howMany : Room := { frames := 0, cells := 0, slots := 0, locals := 0 }
theorem xs_X6_howMany : XS yX6_howMany cX6_howMany 1 (some .int) rmX6_howMany RX6 0 := ⟨tco_X6_howMany, tini_X6, by decide +kernel, rfl, rfl⟩
abbrev rmX6_isFull : Room := { frames := 0, cells := 0, slots := 0, locals := 0 }
theorem xs_X6_isFull : XS yX6_isFull cX6_isFull 1 (some .boolean) rmX6_isFull RX6 0 := ⟨tco_X6_isFull, tini_X6, by decide +kernel, rfl, rfl⟩
abbrev rmX6_has : Room := { frames := 0, cells := 0, slots := 0, locals := 0 }
theorem xs_X6_has : XS yX6_has cX6_has 2 (some .boolean) rmX6_has RX6 1 := ⟨tco_X6_has, tini_X6, by decide +kernel, rfl, rfl⟩
abbrev rmX6_settingAt : Room := { frames := 0, cells := 0, slots := 0, locals := 0 }
theorem xs_X6_settingAt : XS yX6_settingAt cX6_settingAt 2 (some .int) rmX6_settingAt RX6 1 := ⟨tco_X6_settingAt, tini_X6, by decide +kernel, rfl, rfl⟩
abbrev rmX6_readingAt : Room := { frames := 0, cells := 0, slots := 0, locals := 0 }
theorem xs_X6_readingAt : XS yX6_readingAt cX6_readingAt 2 (some .int) rmX6_readingAt RX6 1 := ⟨tco_X6_readingAt, tini_X6, by decide +kernel, rfl, rfl⟩
abbrev rmX6_currentNoise : Room := { frames := 0, cells := 0, slots := 0, locals := 0 }
theorem xs_X6_currentNoise : XS yX6_currentNoise cX6_currentNoise 1 (some .int) rmX6_currentNoise RX6 0 := ⟨tco_X6_currentNoise, tini_X6, by decide +kernel, rfl, rfl⟩
abbrev rmX6_changeNoise : Room := { frames := 0, cells := 0, slots := 0, locals := 0 }
theorem xs_X6_changeNoise : XS yX6_changeNoise cX6_changeNoise 3 (some .int) rmX6_changeNoise RX6 1 := ⟨tco_X6_changeNoise, tini_X6, by decide +kernel, rfl, rfl⟩
abbrev rmX6_changeSeed : Room := { frames := 0, cells := 0, slots := 0, locals := 0 }
theorem xs_X6_changeSeed : XS yX6_changeSeed cX6_changeSeed 2 none rmX6_changeSeed RX6 1 := ⟨tco_X6_changeSeed, tini_X6, by decide +kernel, rfl, rfl⟩
abbrev rmX6_clear : Room := { frames := 0, cells := 0, slots := 0, locals := 0 }
theorem xs_X6_clear : XS yX6_clear cX6_clear 1 none rmX6_clear RX6 0 := ⟨tco_X6_clear, tini_X6, by decide +kernel, rfl, rfl⟩
abbrev rmX6_add : Room := { frames := 1, cells := 0, slots := 0, locals := 20 }
theorem xs_X6_add : XS yX6_add cX6_add 3 none rmX6_add RX6 2 := ⟨tco_X6_add, tini_X6, by decide +kernel, rfl, rfl⟩
abbrev rmX6_drawNoise : Room := { frames := 0, cells := 0, slots := 0, locals := 0 }
theorem xs_X6_drawNoise : XS yX6_drawNoise cX6_drawNoise 1 (some .int) rmX6_drawNoise RX6 0 := ⟨tco_X6_drawNoise, tini_X6, by decide +kernel, rfl, rfl⟩
abbrev rmX6_firstOf : Room := { frames := 0, cells := 0, slots := 0, locals := 0 }
theorem xs_X6_firstOf : XS yX6_firstOf cX6_firstOf 3 (some .int) rmX6_firstOf RX6 1 := ⟨tco_X6_firstOf, tini_X6, by decide +kernel, rfl, rfl⟩
abbrev rmX6_howManySettings : Room := { frames := 1, cells := 0, slots := 0, locals := 22 }
theorem xs_X6_howManySettings : XS yX6_howManySettings cX6_howManySettings 3 (some .int) rmX6_howManySettings RX6 0 := ⟨tco_X6_howManySettings, tini_X6, by decide +kernel, rfl, rfl⟩
abbrev rmX7_knob : Room := { frames := 2, cells := 0, slots := 0, locals := 44 }
theorem xs_X7_knob : XS yX7_knob cX7_knob 2 (some .int) rmX7_knob RX7 1 := ⟨tco_X7_knob, tini_X7, by decide +kernel, rfl, rfl⟩
abbrev rmX7_place : Room := { frames := 2, cells := 0, slots := 0, locals := 45 }
theorem xs_X7_place : XS yX7_place cX7_place 4 (some .int) rmX7_place RX7 3 := ⟨tco_X7_place, tini_X7, by decide +kernel, rfl, rfl⟩
abbrev rmX7_steep : Room := { frames := 1, cells := 0, slots := 0, locals := 23 }
theorem xs_X7_steep : XS yX7_steep cX7_steep 3 (some .int) rmX7_steep RX7 2 := ⟨tco_X7_steep, tini_X7, by decide +kernel, rfl, rfl⟩
abbrev rmX7_rule : Room := { frames := 2, cells := 0, slots := 0, locals := 43 }
theorem xs_X7_rule : XS yX7_rule cX7_rule 6 (some .int) rmX7_rule RX7 5 := ⟨tco_X7_rule, tini_X7, by decide +kernel, rfl, rfl⟩
abbrev rmX7_noRule : Room := { frames := 1, cells := 0, slots := 0, locals := 20 }
theorem xs_X7_noRule : XS yX7_noRule cX7_noRule 1 (some .int) rmX7_noRule RX7 0 := ⟨tco_X7_noRule, tini_X7, by decide +kernel, rfl, rfl⟩
abbrev rmX7_effect : Room := { frames := 2, cells := 0, slots := 0, locals := 48 }
theorem xs_X7_effect : XS yX7_effect cX7_effect 6 (some .int) rmX7_effect RX7 5 := ⟨tco_X7_effect, tini_X7, by decide +kernel, rfl, rfl⟩
abbrev rmX7_base : Room := { frames := 1, cells := 0, slots := 0, locals := 22 }
theorem xs_X7_base : XS yX7_base cX7_base 2 (some .int) rmX7_base RX7 1 := ⟨tco_X7_base, tini_X7, by decide +kernel, rfl, rfl⟩
abbrev rmX7_noise : Room := { frames := 1, cells := 0, slots := 0, locals := 22 }
theorem xs_X7_noise : XS yX7_noise cX7_noise 2 (some .int) rmX7_noise RX7 1 := ⟨tco_X7_noise, tini_X7, by decide +kernel, rfl, rfl⟩
abbrev rmX7_seed : Room := { frames := 1, cells := 0, slots := 0, locals := 22 }
theorem xs_X7_seed : XS yX7_seed cX7_seed 2 (some .int) rmX7_seed RX7 1 := ⟨tco_X7_seed, tini_X7, by decide +kernel, rfl, rfl⟩
abbrev rmX7_with : Room := { frames := 2, cells := 0, slots := 0, locals := 45 }
theorem xs_X7_with : XS yX7_with cX7_with 4 (some .int) rmX7_with RX7 3 := ⟨tco_X7_with, tini_X7, by decide +kernel, rfl, rfl⟩
abbrev rmX7_value : Room := { frames := 1, cells := 0, slots := 0, locals := 22 }
theorem xs_X7_value : XS yX7_value cX7_value 3 (some .int) rmX7_value RX7 2 := ⟨tco_X7_value, tini_X7, by decide +kernel, rfl, rfl⟩
abbrev rmX7_allowed : Room := { frames := 3, cells := 0, slots := 0, locals := 69 }
theorem xs_X7_allowed : XS yX7_allowed cX7_allowed 2 (some .int) rmX7_allowed RX7 1 := ⟨tco_X7_allowed, tini_X7, by decide +kernel, rfl, rfl⟩
abbrev rmX7_book : Room := { frames := 4, cells := 0, slots := 0, locals := 92 }
theorem xs_X7_book : XS yX7_book cX7_book 1 (some .int) rmX7_book RX7 0 := ⟨tco_X7_book, tini_X7, by decide +kernel, rfl, rfl⟩
abbrev rmX7_worth : Room := { frames := 2, cells := 0, slots := 0, locals := 47 }
theorem xs_X7_worth : XS yX7_worth cX7_worth 2 (some .int) rmX7_worth RX7 1 := ⟨tco_X7_worth, tini_X7, by decide +kernel, rfl, rfl⟩
abbrev rmX7_best : Room := { frames := 5, cells := 0, slots := 0, locals := 116 }
theorem xs_X7_best : XS yX7_best cX7_best 3 (some .int) rmX7_best RX7 1 := ⟨tco_X7_best, tini_X7, by decide +kernel, rfl, rfl⟩
abbrev rmX7_trial : Room := { frames := 3, cells := 0, slots := 0, locals := 69 }
theorem xs_X7_trial : XS yX7_trial cX7_trial 2 (some .int) rmX7_trial RX7 1 := ⟨tco_X7_trial, tini_X7, by decide +kernel, rfl, rfl⟩
abbrev rmX7_read : Room := { frames := 1, cells := 0, slots := 0, locals := 22 }
theorem xs_X7_read : XS yX7_read cX7_read 3 (some .int) rmX7_read RX7 2 := ⟨tco_X7_read, tini_X7, by decide +kernel, rfl, rfl⟩
abbrev rmX7_forget : Room := { frames := 1, cells := 0, slots := 0, locals := 20 }
theorem xs_X7_forget : XS yX7_forget cX7_forget 2 (some .int) rmX7_forget RX7 0 := ⟨tco_X7_forget, tini_X7, by decide +kernel, rfl, rfl⟩
abbrev rmX7_bound : Room := { frames := 4, cells := 0, slots := 0, locals := 96 }
theorem xs_X7_bound : XS yX7_bound cX7_bound 3 (some .int) rmX7_bound RX7 2 := ⟨tco_X7_bound, tini_X7, by decide +kernel, rfl, rfl⟩
abbrev rmX7_left : Room := { frames := 5, cells := 0, slots := 0, locals := 119 }
theorem xs_X7_left : XS yX7_left cX7_left 2 (some .int) rmX7_left RX7 1 := ⟨tco_X7_left, tini_X7, by decide +kernel, rfl, rfl⟩
abbrev rmX7_search : Room := { frames := 5, cells := 0, slots := 0, locals := 119 }
theorem xs_X7_search : XS yX7_search cX7_search 4 (some .int) rmX7_search RX7 1 := ⟨tco_X7_search, tini_X7, by decide +kernel, rfl, rfl⟩
abbrev rmX7_pairs : Room := { frames := 2, cells := 0, slots := 0, locals := 45 }
theorem xs_X7_pairs : XS yX7_pairs cX7_pairs 10 (some .int) rmX7_pairs RX7 4 := ⟨tco_X7_pairs, tini_X7, by decide +kernel, rfl, rfl⟩
abbrev rmX7_excess : Room := { frames := 2, cells := 0, slots := 0, locals := 45 }
theorem xs_X7_excess : XS yX7_excess cX7_excess 14 (some .int) rmX7_excess RX7 7 := ⟨tco_X7_excess, tini_X7, by decide +kernel, rfl, rfl⟩
abbrev rmX7_joint : Room := { frames := 3, cells := 0, slots := 0, locals := 78 }
theorem xs_X7_joint : XS yX7_joint cX7_joint 10 (some .int) rmX7_joint RX7 7 := ⟨tco_X7_joint, tini_X7, by decide +kernel, rfl, rfl⟩
abbrev rmX7_odds : Room := { frames := 3, cells := 0, slots := 0, locals := 74 }
theorem xs_X7_odds : XS yX7_odds cX7_odds 4 (some .int) rmX7_odds RX7 3 := ⟨tco_X7_odds, tini_X7, by decide +kernel, rfl, rfl⟩
abbrev rmX7_safe : Room := { frames := 3, cells := 0, slots := 0, locals := 74 }
theorem xs_X7_safe : XS yX7_safe cX7_safe 5 (some .int) rmX7_safe RX7 4 := ⟨tco_X7_safe, tini_X7, by decide +kernel, rfl, rfl⟩
abbrev rmX7_back : Room := { frames := 3, cells := 0, slots := 0, locals := 69 }
theorem xs_X7_back : XS yX7_back cX7_back 7 (some .int) rmX7_back RX7 2 := ⟨tco_X7_back, tini_X7, by decide +kernel, rfl, rfl⟩
abbrev rmX7_count : Room := { frames := 2, cells := 0, slots := 0, locals := 44 }
theorem xs_X7_count : XS yX7_count cX7_count 2 (some .int) rmX7_count RX7 1 := ⟨tco_X7_count, tini_X7, by decide +kernel, rfl, rfl⟩
abbrev rmX7_isWithin : Room := { frames := 0, cells := 0, slots := 0, locals := 0 }
theorem xs_X7_isWithin : XS yX7_isWithin cX7_isWithin 3 (some .boolean) rmX7_isWithin RX7 3 := ⟨tco_X7_isWithin, tini_X7, by decide +kernel, rfl, rfl⟩
abbrev rmX7_areTwoSettings : Room := { frames := 1, cells := 0, slots := 0, locals := 21 }
theorem xs_X7_areTwoSettings : XS yX7_areTwoSettings cX7_areTwoSettings 3 (some .boolean) rmX7_areTwoSettings RX7 2 := ⟨tco_X7_areTwoSettings, tini_X7, by decide +kernel, rfl, rfl⟩
abbrev rmX7_wereBothTried : Room := { frames := 1, cells := 0, slots := 0, locals := 22 }
theorem xs_X7_wereBothTried : XS yX7_wereBothTried cX7_wereBothTried 3 (some .boolean) rmX7_wereBothTried RX7 2 := ⟨tco_X7_wereBothTried, tini_X7, by decide +kernel, rfl, rfl⟩
abbrev rmX7_bestSetting : Room := { frames := 4, cells := 0, slots := 0, locals := 92 }
theorem xs_X7_bestSetting : XS yX7_bestSetting cX7_bestSetting 5 (some .int) rmX7_bestSetting RX7 0 := ⟨tco_X7_bestSetting, tini_X7, by decide +kernel, rfl, rfl⟩
abbrev rmX7_isToldSmoothnessTrue : Room := { frames := 3, cells := 0, slots := 0, locals := 70 }
theorem xs_X7_isToldSmoothnessTrue : XS yX7_isToldSmoothnessTrue cX7_isToldSmoothnessTrue 4 (some .boolean) rmX7_isToldSmoothnessTrue RX7 0 := ⟨tco_X7_isToldSmoothnessTrue, tini_X7, by decide +kernel, rfl, rfl⟩
abbrev rmX7_nextToSearch : Room := { frames := 3, cells := 0, slots := 0, locals := 69 }
theorem xs_X7_nextToSearch : XS yX7_nextToSearch cX7_nextToSearch 2 (some .int) rmX7_nextToSearch RX7 0 := ⟨tco_X7_nextToSearch, tini_X7, by decide +kernel, rfl, rfl⟩
abbrev rmX8_in : Room := { frames := 0, cells := 0, slots := 0, locals := 0 }
theorem xs_X8_in : XS yX8_in cX8_in 6 (some .boolean) rmX8_in RX8 3 := ⟨tco_X8_in, tini_X8, by decide +kernel, rfl, rfl⟩
abbrev rmX8_isKnob : Room := { frames := 1, cells := 0, slots := 0, locals := 25 }
theorem xs_X8_isKnob : XS yX8_isKnob cX8_isKnob 2 (some .boolean) rmX8_isKnob RX8 1 := ⟨tco_X8_isKnob, tini_X8, by decide +kernel, rfl, rfl⟩
abbrev rmX8_isValue : Room := { frames := 2, cells := 0, slots := 0, locals := 46 }
theorem xs_X8_isValue : XS yX8_isValue cX8_isValue 3 (some .boolean) rmX8_isValue RX8 2 := ⟨tco_X8_isValue, tini_X8, by decide +kernel, rfl, rfl⟩
abbrev rmX8_isSetting : Room := { frames := 1, cells := 0, slots := 0, locals := 25 }
theorem xs_X8_isSetting : XS yX8_isSetting cX8_isSetting 2 (some .boolean) rmX8_isSetting RX8 1 := ⟨tco_X8_isSetting, tini_X8, by decide +kernel, rfl, rfl⟩
abbrev rmX8_knob : Room := { frames := 1, cells := 0, slots := 0, locals := 25 }
theorem xs_X8_knob : XS yX8_knob cX8_knob 3 (some .int) rmX8_knob RX8 1 := ⟨tco_X8_knob, tini_X8, by decide +kernel, rfl, rfl⟩
abbrev rmX8_place : Room := { frames := 3, cells := 0, slots := 0, locals := 68 }
theorem xs_X8_place : XS yX8_place cX8_place 5 (some .int) rmX8_place RX8 3 := ⟨tco_X8_place, tini_X8, by decide +kernel, rfl, rfl⟩
abbrev rmX8_steep : Room := { frames := 2, cells := 0, slots := 0, locals := 46 }
theorem xs_X8_steep : XS yX8_steep cX8_steep 4 (some .int) rmX8_steep RX8 2 := ⟨tco_X8_steep, tini_X8, by decide +kernel, rfl, rfl⟩
abbrev rmX8_rule : Room := { frames := 3, cells := 0, slots := 0, locals := 68 }
theorem xs_X8_rule : XS yX8_rule cX8_rule 7 (some .int) rmX8_rule RX8 5 := ⟨tco_X8_rule, tini_X8, by decide +kernel, rfl, rfl⟩
abbrev rmX8_noRule : Room := { frames := 0, cells := 0, slots := 0, locals := 0 }
theorem xs_X8_noRule : XS yX8_noRule cX8_noRule 1 (some .int) rmX8_noRule RX8 0 := ⟨tco_X8_noRule, tini_X8, by decide +kernel, rfl, rfl⟩
abbrev rmX8_effect : Room := { frames := 3, cells := 0, slots := 0, locals := 68 }
theorem xs_X8_effect : XS yX8_effect cX8_effect 9 (some .int) rmX8_effect RX8 5 := ⟨tco_X8_effect, tini_X8, by decide +kernel, rfl, rfl⟩
abbrev rmX8_base : Room := { frames := 1, cells := 0, slots := 0, locals := 25 }
theorem xs_X8_base : XS yX8_base cX8_base 3 (some .int) rmX8_base RX8 1 := ⟨tco_X8_base, tini_X8, by decide +kernel, rfl, rfl⟩
abbrev rmX8_noise : Room := { frames := 1, cells := 0, slots := 0, locals := 25 }
theorem xs_X8_noise : XS yX8_noise cX8_noise 3 (some .int) rmX8_noise RX8 1 := ⟨tco_X8_noise, tini_X8, by decide +kernel, rfl, rfl⟩
abbrev rmX8_seed : Room := { frames := 1, cells := 0, slots := 0, locals := 25 }
theorem xs_X8_seed : XS yX8_seed cX8_seed 2 (some .int) rmX8_seed RX8 1 := ⟨tco_X8_seed, tini_X8, by decide +kernel, rfl, rfl⟩
abbrev rmX8_step : Room := { frames := 0, cells := 0, slots := 0, locals := 0 }
theorem xs_X8_step : XS yX8_step cX8_step 4 (some .int) rmX8_step RX8 1 := ⟨tco_X8_step, tini_X8, by decide +kernel, rfl, rfl⟩
abbrev rmX8_get : Room := { frames := 1, cells := 0, slots := 0, locals := 23 }
theorem xs_X8_get : XS yX8_get cX8_get 3 (some .int) rmX8_get RX8 2 := ⟨tco_X8_get, tini_X8, by decide +kernel, rfl, rfl⟩
abbrev rmX8_put : Room := { frames := 2, cells := 0, slots := 0, locals := 45 }
theorem xs_X8_put : XS yX8_put cX8_put 4 (some .int) rmX8_put RX8 3 := ⟨tco_X8_put, tini_X8, by decide +kernel, rfl, rfl⟩
abbrev rmX8_with : Room := { frames := 3, cells := 0, slots := 0, locals := 68 }
theorem xs_X8_with : XS yX8_with cX8_with 4 (some .int) rmX8_with RX8 3 := ⟨tco_X8_with, tini_X8, by decide +kernel, rfl, rfl⟩
abbrev rmX8_value : Room := { frames := 2, cells := 0, slots := 0, locals := 46 }
theorem xs_X8_value : XS yX8_value cX8_value 3 (some .int) rmX8_value RX8 2 := ⟨tco_X8_value, tini_X8, by decide +kernel, rfl, rfl⟩
abbrev rmX8_isAllowed : Room := { frames := 2, cells := 0, slots := 0, locals := 45 }
theorem xs_X8_isAllowed : XS yX8_isAllowed cX8_isAllowed 7 (some .boolean) rmX8_isAllowed RX8 1 := ⟨tco_X8_isAllowed, tini_X8, by decide +kernel, rfl, rfl⟩
abbrev rmX8_allowed : Room := { frames := 3, cells := 0, slots := 0, locals := 71 }
theorem xs_X8_allowed : XS yX8_allowed cX8_allowed 2 (some .int) rmX8_allowed RX8 1 := ⟨tco_X8_allowed, tini_X8, by decide +kernel, rfl, rfl⟩
abbrev rmX8_book : Room := { frames := 3, cells := 0, slots := 0, locals := 71 }
theorem xs_X8_book : XS yX8_book cX8_book 3 (some .int) rmX8_book RX8 0 := ⟨tco_X8_book, tini_X8, by decide +kernel, rfl, rfl⟩
abbrev rmX8_worthOf : Room := { frames := 2, cells := 0, slots := 0, locals := 45 }
theorem xs_X8_worthOf : XS yX8_worthOf cX8_worthOf 6 (some .int) rmX8_worthOf RX8 1 := ⟨tco_X8_worthOf, tini_X8, by decide +kernel, rfl, rfl⟩
abbrev rmX8_worth : Room := { frames := 3, cells := 0, slots := 0, locals := 70 }
theorem xs_X8_worth : XS yX8_worth cX8_worth 2 (some .int) rmX8_worth RX8 1 := ⟨tco_X8_worth, tini_X8, by decide +kernel, rfl, rfl⟩
abbrev rmX8_best : Room := { frames := 3, cells := 0, slots := 0, locals := 71 }
theorem xs_X8_best : XS yX8_best cX8_best 4 (some .int) rmX8_best RX8 1 := ⟨tco_X8_best, tini_X8, by decide +kernel, rfl, rfl⟩
abbrev rmX8_tries : Room := { frames := 3, cells := 0, slots := 0, locals := 70 }
theorem xs_X8_tries : XS yX8_tries cX8_tries 2 none rmX8_tries RX8 1 := ⟨tco_X8_tries, tini_X8, by decide +kernel, rfl, rfl⟩
abbrev rmX8_trial : Room := { frames := 4, cells := 0, slots := 0, locals := 91 }
theorem xs_X8_trial : XS yX8_trial cX8_trial 2 (some .int) rmX8_trial RX8 1 := ⟨tco_X8_trial, tini_X8, by decide +kernel, rfl, rfl⟩
abbrev rmX8_read : Room := { frames := 1, cells := 0, slots := 0, locals := 25 }
theorem xs_X8_read : XS yX8_read cX8_read 3 (some .int) rmX8_read RX8 2 := ⟨tco_X8_read, tini_X8, by decide +kernel, rfl, rfl⟩
abbrev rmX8_forget : Room := { frames := 0, cells := 0, slots := 0, locals := 0 }
theorem xs_X8_forget : XS yX8_forget cX8_forget 2 (some .int) rmX8_forget RX8 0 := ⟨tco_X8_forget, tini_X8, by decide +kernel, rfl, rfl⟩
abbrev rmX8_off : Room := { frames := 2, cells := 0, slots := 0, locals := 45 }
theorem xs_X8_off : XS yX8_off cX8_off 6 (some .int) rmX8_off RX8 2 := ⟨tco_X8_off, tini_X8, by decide +kernel, rfl, rfl⟩
abbrev rmX8_floor : Room := { frames := 3, cells := 0, slots := 0, locals := 70 }
theorem xs_X8_floor : XS yX8_floor cX8_floor 5 (some .int) rmX8_floor RX8 1 := ⟨tco_X8_floor, tini_X8, by decide +kernel, rfl, rfl⟩
abbrev rmX8_roof : Room := { frames := 3, cells := 0, slots := 0, locals := 70 }
theorem xs_X8_roof : XS yX8_roof cX8_roof 5 (some .int) rmX8_roof RX8 1 := ⟨tco_X8_roof, tini_X8, by decide +kernel, rfl, rfl⟩
abbrev rmX8_bound : Room := { frames := 4, cells := 0, slots := 0, locals := 94 }
theorem xs_X8_bound : XS yX8_bound cX8_bound 3 (some .int) rmX8_bound RX8 2 := ⟨tco_X8_bound, tini_X8, by decide +kernel, rfl, rfl⟩
abbrev rmX8_topFloor : Room := { frames := 4, cells := 0, slots := 0, locals := 94 }
theorem xs_X8_topFloor : XS yX8_topFloor cX8_topFloor 4 (some .int) rmX8_topFloor RX8 0 := ⟨tco_X8_topFloor, tini_X8, by decide +kernel, rfl, rfl⟩
abbrev rmX8_leftMany : Room := { frames := 5, cells := 0, slots := 0, locals := 117 }
theorem xs_X8_leftMany : XS yX8_leftMany cX8_leftMany 4 (some .int) rmX8_leftMany RX8 0 := ⟨tco_X8_leftMany, tini_X8, by decide +kernel, rfl, rfl⟩
abbrev rmX8_next : Room := { frames := 5, cells := 0, slots := 0, locals := 117 }
theorem xs_X8_next : XS yX8_next cX8_next 5 (some .int) rmX8_next RX8 0 := ⟨tco_X8_next, tini_X8, by decide +kernel, rfl, rfl⟩
abbrev rmX8_isSmooth : Room := { frames := 3, cells := 0, slots := 0, locals := 71 }
theorem xs_X8_isSmooth : XS yX8_isSmooth cX8_isSmooth 5 (some .boolean) rmX8_isSmooth RX8 0 := ⟨tco_X8_isSmooth, tini_X8, by decide +kernel, rfl, rfl⟩
abbrev rmX8_left : Room := { frames := 6, cells := 0, slots := 0, locals := 141 }
theorem xs_X8_left : XS yX8_left cX8_left 2 (some .int) rmX8_left RX8 1 := ⟨tco_X8_left, tini_X8, by decide +kernel, rfl, rfl⟩
abbrev rmX8_firstOf : Room := { frames := 0, cells := 0, slots := 0, locals := 0 }
theorem xs_X8_firstOf : XS yX8_firstOf cX8_firstOf 4 (some .int) rmX8_firstOf RX8 1 := ⟨tco_X8_firstOf, tini_X8, by decide +kernel, rfl, rfl⟩
abbrev rmX8_search : Room := { frames := 6, cells := 0, slots := 0, locals := 141 }
theorem xs_X8_search : XS yX8_search cX8_search 4 (some .int) rmX8_search RX8 1 := ⟨tco_X8_search, tini_X8, by decide +kernel, rfl, rfl⟩
abbrev rmX8_pairs : Room := { frames := 3, cells := 0, slots := 0, locals := 68 }
theorem xs_X8_pairs : XS yX8_pairs cX8_pairs 10 (some .int) rmX8_pairs RX8 4 := ⟨tco_X8_pairs, tini_X8, by decide +kernel, rfl, rfl⟩
abbrev rmX8_excess : Room := { frames := 3, cells := 0, slots := 0, locals := 68 }
theorem xs_X8_excess : XS yX8_excess cX8_excess 13 (some .int) rmX8_excess RX8 7 := ⟨tco_X8_excess, tini_X8, by decide +kernel, rfl, rfl⟩
abbrev rmX8_joint : Room := { frames := 4, cells := 0, slots := 0, locals := 100 }
theorem xs_X8_joint : XS yX8_joint cX8_joint 9 (some .int) rmX8_joint RX8 7 := ⟨tco_X8_joint, tini_X8, by decide +kernel, rfl, rfl⟩
abbrev rmX8_gather : Room := { frames := 0, cells := 0, slots := 0, locals := 0 }
theorem xs_X8_gather : XS yX8_gather cX8_gather 4 (some .int) rmX8_gather RX8 1 := ⟨tco_X8_gather, tini_X8, by decide +kernel, rfl, rfl⟩
abbrev rmX8_rank : Room := { frames := 0, cells := 0, slots := 0, locals := 0 }
theorem xs_X8_rank : XS yX8_rank cX8_rank 4 (some .int) rmX8_rank RX8 1 := ⟨tco_X8_rank, tini_X8, by decide +kernel, rfl, rfl⟩
abbrev rmX8_chances : Room := { frames := 2, cells := 0, slots := 0, locals := 46 }
theorem xs_X8_chances : XS yX8_chances cX8_chances 10 (some .int) rmX8_chances RX8 2 := ⟨tco_X8_chances, tini_X8, by decide +kernel, rfl, rfl⟩
abbrev rmX8_odds : Room := { frames := 3, cells := 0, slots := 0, locals := 75 }
theorem xs_X8_odds : XS yX8_odds cX8_odds 5 (some .int) rmX8_odds RX8 3 := ⟨tco_X8_odds, tini_X8, by decide +kernel, rfl, rfl⟩
abbrev rmX8_safe : Room := { frames := 3, cells := 0, slots := 0, locals := 75 }
theorem xs_X8_safe : XS yX8_safe cX8_safe 6 (some .int) rmX8_safe RX8 4 := ⟨tco_X8_safe, tini_X8, by decide +kernel, rfl, rfl⟩
abbrev rmX8_back : Room := { frames := 3, cells := 0, slots := 0, locals := 71 }
theorem xs_X8_back : XS yX8_back cX8_back 6 (some .int) rmX8_back RX8 2 := ⟨tco_X8_back, tini_X8, by decide +kernel, rfl, rfl⟩
abbrev rmX8_count : Room := { frames := 1, cells := 0, slots := 0, locals := 23 }
theorem xs_X8_count : XS yX8_count cX8_count 4 (some .int) rmX8_count RX8 1 := ⟨tco_X8_count, tini_X8, by decide +kernel, rfl, rfl⟩
abbrev rmJ7_fill_53178 : Room := { frames := 0, cells := 0, slots := 0, locals := 0 }
theorem xs_J7_fill_53178 : XS yJ7_fill_53178 cJ7_fill_53178 4 none rmJ7_fill_53178 RJ7 2 := ⟨tco_J7_fill_53178, tini_J7, by decide +kernel, rfl, rfl⟩
