set_option maxRecDepth 200000 in
theorem okX0_init : MOK mX0_init 0 := ⟨lw_inG 232 rfl rfl, lw_inG 114 (by decide +kernel) (by decide +kernel), by decide +kernel⟩
theorem iX0_init : (my mX0_init).name = "<init>" ∧ Cond.instanceMethod (my mX0_init) ∈ lw_g := ⟨rfl, lw_inG 231 (by decide +kernel) (by decide +kernel)⟩
set_option maxRecDepth 200000 in
theorem okX1_init : MOK mX1_init 0 := ⟨lw_inG 496 rfl rfl, lw_inG 119 (by decide +kernel) (by decide +kernel), by decide +kernel⟩
theorem iX1_init : (my mX1_init).name = "<init>" ∧ Cond.instanceMethod (my mX1_init) ∈ lw_g := ⟨rfl, lw_inG 495 (by decide +kernel) (by decide +kernel)⟩
set_option maxRecDepth 200000 in
theorem okX1_choose : MOK mX1_choose 1 := ⟨lw_inG 995 rfl rfl, lw_inG 119 (by decide +kernel) (by decide +kernel), by decide +kernel⟩
theorem vX1_choose : MVt mX1_choose := ⟨lw_inG 993 (by decide +kernel) (by decide +kernel), lw_inG 994 (by decide +kernel) (by decide +kernel)⟩
set_option maxRecDepth 200000 in
theorem okX1_bestFor : MOK mX1_bestFor 3 := ⟨lw_inG 999 rfl rfl, lw_inG 119 (by decide +kernel) (by decide +kernel), by decide +kernel⟩
theorem vX1_bestFor : MVt mX1_bestFor := ⟨lw_inG 998 (by decide +kernel) (by decide +kernel), lw_inG 44 (by decide +kernel) (by decide +kernel)⟩
set_option maxRecDepth 200000 in
theorem okX1_sumWith : MOK mX1_sumWith 3 := ⟨lw_inG 1003 rfl rfl, lw_inG 119 (by decide +kernel) (by decide +kernel), by decide +kernel⟩
theorem vX1_sumWith : MVt mX1_sumWith := ⟨lw_inG 1002 (by decide +kernel) (by decide +kernel), lw_inG 45 (by decide +kernel) (by decide +kernel)⟩
set_option maxRecDepth 200000 in
theorem okX1_chooseEach : MOK mX1_chooseEach 1 := ⟨lw_inG 1007 rfl rfl, lw_inG 119 (by decide +kernel) (by decide +kernel), by decide +kernel⟩
theorem vX1_chooseEach : MVt mX1_chooseEach := ⟨lw_inG 1006 (by decide +kernel) (by decide +kernel), lw_inG 46 (by decide +kernel) (by decide +kernel)⟩
set_option maxRecDepth 200000 in
theorem okX2_init : MOK mX2_init 0 := ⟨lw_inG 379 rfl rfl, lw_inG 116 (by decide +kernel) (by decide +kernel), by decide +kernel⟩
theorem iX2_init : (my mX2_init).name = "<init>" ∧ Cond.instanceMethod (my mX2_init) ∈ lw_g := ⟨rfl, lw_inG 378 (by decide +kernel) (by decide +kernel)⟩
set_option maxRecDepth 200000 in
theorem okX2_valueCounts : MOK mX2_valueCounts 1 := ⟨lw_inG 868 rfl rfl, lw_inG 116 (by decide +kernel) (by decide +kernel), by decide +kernel⟩
theorem vX2_valueCounts : MVt mX2_valueCounts := ⟨lw_inG 866 (by decide +kernel) (by decide +kernel), lw_inG 867 (by decide +kernel) (by decide +kernel)⟩
set_option maxRecDepth 200000 in
theorem okX2_valueMoney : MOK mX2_valueMoney 1 := ⟨lw_inG 931 rfl rfl, lw_inG 116 (by decide +kernel) (by decide +kernel), by decide +kernel⟩
theorem vX2_valueMoney : MVt mX2_valueMoney := ⟨lw_inG 929 (by decide +kernel) (by decide +kernel), lw_inG 930 (by decide +kernel) (by decide +kernel)⟩
set_option maxRecDepth 200000 in
theorem okX2_valueSafety : MOK mX2_valueSafety 0 := ⟨lw_inG 948 rfl rfl, lw_inG 116 (by decide +kernel) (by decide +kernel), by decide +kernel⟩
theorem vX2_valueSafety : MVt mX2_valueSafety := ⟨lw_inG 946 (by decide +kernel) (by decide +kernel), lw_inG 947 (by decide +kernel) (by decide +kernel)⟩
set_option maxRecDepth 200000 in
theorem okX2_valueEnd : MOK mX2_valueEnd 1 := ⟨lw_inG 884 rfl rfl, lw_inG 116 (by decide +kernel) (by decide +kernel), by decide +kernel⟩
theorem vX2_valueEnd : MVt mX2_valueEnd := ⟨lw_inG 883 (by decide +kernel) (by decide +kernel), lw_inG 36 (by decide +kernel) (by decide +kernel)⟩
set_option maxRecDepth 200000 in
theorem okX2_weeksBack : MOK mX2_weeksBack 4 := ⟨lw_inG 888 rfl rfl, lw_inG 116 (by decide +kernel) (by decide +kernel), by decide +kernel⟩
theorem vX2_weeksBack : MVt mX2_weeksBack := ⟨lw_inG 887 (by decide +kernel) (by decide +kernel), lw_inG 37 (by decide +kernel) (by decide +kernel)⟩
set_option maxRecDepth 200000 in
theorem okX2_valueBefore : MOK mX2_valueBefore 3 := ⟨lw_inG 892 rfl rfl, lw_inG 116 (by decide +kernel) (by decide +kernel), by decide +kernel⟩
theorem vX2_valueBefore : MVt mX2_valueBefore := ⟨lw_inG 891 (by decide +kernel) (by decide +kernel), lw_inG 38 (by decide +kernel) (by decide +kernel)⟩
set_option maxRecDepth 200000 in
theorem okX2_valueOfWeek : MOK mX2_valueOfWeek 0 := ⟨lw_inG 911 rfl rfl, lw_inG 116 (by decide +kernel) (by decide +kernel), by decide +kernel⟩
theorem vX2_valueOfWeek : MVt mX2_valueOfWeek := ⟨lw_inG 910 (by decide +kernel) (by decide +kernel), lw_inG 39 (by decide +kernel) (by decide +kernel)⟩
set_option maxRecDepth 200000 in
theorem okX2_passWinter : MOK mX2_passWinter 4 := ⟨lw_inG 923 rfl rfl, lw_inG 116 (by decide +kernel) (by decide +kernel), by decide +kernel⟩
theorem vX2_passWinter : MVt mX2_passWinter := ⟨lw_inG 921 (by decide +kernel) (by decide +kernel), lw_inG 922 (by decide +kernel) (by decide +kernel)⟩
set_option maxRecDepth 200000 in
theorem okX2_passAny : MOK mX2_passAny 5 := ⟨lw_inG 876 rfl rfl, lw_inG 116 (by decide +kernel) (by decide +kernel), by decide +kernel⟩
theorem vX2_passAny : MVt mX2_passAny := ⟨lw_inG 874 (by decide +kernel) (by decide +kernel), lw_inG 875 (by decide +kernel) (by decide +kernel)⟩
set_option maxRecDepth 200000 in
theorem okX2_clearAny : MOK mX2_clearAny 1 := ⟨lw_inG 880 rfl rfl, lw_inG 116 (by decide +kernel) (by decide +kernel), by decide +kernel⟩
theorem vX2_clearAny : MVt mX2_clearAny := ⟨lw_inG 879 (by decide +kernel) (by decide +kernel), lw_inG 35 (by decide +kernel) (by decide +kernel)⟩
set_option maxRecDepth 200000 in
theorem okX2_addToAny : MOK mX2_addToAny 2 := ⟨lw_inG 919 rfl rfl, lw_inG 116 (by decide +kernel) (by decide +kernel), by decide +kernel⟩
theorem vX2_addToAny : MVt mX2_addToAny := ⟨lw_inG 918 (by decide +kernel) (by decide +kernel), lw_inG 40 (by decide +kernel) (by decide +kernel)⟩
set_option maxRecDepth 200000 in
theorem okX2_scoreRow : MOK mX2_scoreRow 4 := ⟨lw_inG 959 rfl rfl, lw_inG 116 (by decide +kernel) (by decide +kernel), by decide +kernel⟩
theorem vX2_scoreRow : MVt mX2_scoreRow := ⟨lw_inG 957 (by decide +kernel) (by decide +kernel), lw_inG 958 (by decide +kernel) (by decide +kernel)⟩
set_option maxRecDepth 200000 in
theorem okX2_payFor : MOK mX2_payFor 3 := ⟨lw_inG 966 rfl rfl, lw_inG 116 (by decide +kernel) (by decide +kernel), by decide +kernel⟩
theorem vX2_payFor : MVt mX2_payFor := ⟨lw_inG 965 (by decide +kernel) (by decide +kernel), lw_inG 42 (by decide +kernel) (by decide +kernel)⟩
set_option maxRecDepth 200000 in
theorem okX2_bestOrder : MOK mX2_bestOrder 0 := ⟨lw_inG 970 rfl rfl, lw_inG 116 (by decide +kernel) (by decide +kernel), by decide +kernel⟩
theorem vX2_bestOrder : MVt mX2_bestOrder := ⟨lw_inG 968 (by decide +kernel) (by decide +kernel), lw_inG 969 (by decide +kernel) (by decide +kernel)⟩
set_option maxRecDepth 200000 in
theorem okX2_setSledge : MOK mX2_setSledge 4 := ⟨lw_inG 1087 rfl rfl, lw_inG 116 (by decide +kernel) (by decide +kernel), by decide +kernel⟩
theorem vX2_setSledge : MVt mX2_setSledge := ⟨lw_inG 1085 (by decide +kernel) (by decide +kernel), lw_inG 1086 (by decide +kernel) (by decide +kernel)⟩
set_option maxRecDepth 200000 in
theorem okX2_sledgeScore : MOK mX2_sledgeScore 3 := ⟨lw_inG 1091 rfl rfl, lw_inG 116 (by decide +kernel) (by decide +kernel), by decide +kernel⟩
theorem vX2_sledgeScore : MVt mX2_sledgeScore := ⟨lw_inG 1089 (by decide +kernel) (by decide +kernel), lw_inG 1090 (by decide +kernel) (by decide +kernel)⟩
set_option maxRecDepth 200000 in
theorem okX2_passSledgeWinter : MOK mX2_passSledgeWinter 4 := ⟨lw_inG 1095 rfl rfl, lw_inG 116 (by decide +kernel) (by decide +kernel), by decide +kernel⟩
theorem vX2_passSledgeWinter : MVt mX2_passSledgeWinter := ⟨lw_inG 1094 (by decide +kernel) (by decide +kernel), lw_inG 57 (by decide +kernel) (by decide +kernel)⟩
set_option maxRecDepth 200000 in
theorem okX2_secondRow : MOK mX2_secondRow 4 := ⟨lw_inG 1107 rfl rfl, lw_inG 116 (by decide +kernel) (by decide +kernel), by decide +kernel⟩
theorem vX2_secondRow : MVt mX2_secondRow := ⟨lw_inG 1105 (by decide +kernel) (by decide +kernel), lw_inG 1106 (by decide +kernel) (by decide +kernel)⟩
set_option maxRecDepth 200000 in
theorem okX3_init : MOK mX3_init 0 := ⟨lw_inG 472 rfl rfl, lw_inG 118 (by decide +kernel) (by decide +kernel), by decide +kernel⟩
theorem iX3_init : (my mX3_init).name = "<init>" ∧ Cond.instanceMethod (my mX3_init) ∈ lw_g := ⟨rfl, lw_inG 471 (by decide +kernel) (by decide +kernel)⟩
set_option maxRecDepth 200000 in
theorem okX3_together : MOK mX3_together 5 := ⟨lw_inG 1031 rfl rfl, lw_inG 118 (by decide +kernel) (by decide +kernel), by decide +kernel⟩
theorem vX3_together : MVt mX3_together := ⟨lw_inG 1029 (by decide +kernel) (by decide +kernel), lw_inG 1030 (by decide +kernel) (by decide +kernel)⟩
set_option maxRecDepth 200000 in
theorem okX3_valueEnd : MOK mX3_valueEnd 4 := ⟨lw_inG 1035 rfl rfl, lw_inG 118 (by decide +kernel) (by decide +kernel), by decide +kernel⟩
theorem vX3_valueEnd : MVt mX3_valueEnd := ⟨lw_inG 1034 (by decide +kernel) (by decide +kernel), lw_inG 49 (by decide +kernel) (by decide +kernel)⟩
set_option maxRecDepth 200000 in
theorem okX3_weekBack : MOK mX3_weekBack 5 := ⟨lw_inG 1039 rfl rfl, lw_inG 118 (by decide +kernel) (by decide +kernel), by decide +kernel⟩
theorem vX3_weekBack : MVt mX3_weekBack := ⟨lw_inG 1038 (by decide +kernel) (by decide +kernel), lw_inG 50 (by decide +kernel) (by decide +kernel)⟩
set_option maxRecDepth 200000 in
theorem okX3_valueBefore : MOK mX3_valueBefore 5 := ⟨lw_inG 1043 rfl rfl, lw_inG 118 (by decide +kernel) (by decide +kernel), by decide +kernel⟩
theorem vX3_valueBefore : MVt mX3_valueBefore := ⟨lw_inG 1042 (by decide +kernel) (by decide +kernel), lw_inG 51 (by decide +kernel) (by decide +kernel)⟩
set_option maxRecDepth 200000 in
theorem okX3_valueOfWeek : MOK mX3_valueOfWeek 2 := ⟨lw_inG 1048 rfl rfl, lw_inG 118 (by decide +kernel) (by decide +kernel), by decide +kernel⟩
theorem vX3_valueOfWeek : MVt mX3_valueOfWeek := ⟨lw_inG 1047 (by decide +kernel) (by decide +kernel), lw_inG 52 (by decide +kernel) (by decide +kernel)⟩
set_option maxRecDepth 200000 in
theorem okX3_giveInstead : MOK mX3_giveInstead 1 := ⟨lw_inG 1052 rfl rfl, lw_inG 118 (by decide +kernel) (by decide +kernel), by decide +kernel⟩
theorem vX3_giveInstead : MVt mX3_giveInstead := ⟨lw_inG 1051 (by decide +kernel) (by decide +kernel), lw_inG 53 (by decide +kernel) (by decide +kernel)⟩
set_option maxRecDepth 200000 in
theorem okX4_init : MOK mX4_init 0 := ⟨lw_inG 140 rfl rfl, lw_inG 112 (by decide +kernel) (by decide +kernel), by decide +kernel⟩
theorem iX4_init : (my mX4_init).name = "<init>" ∧ Cond.instanceMethod (my mX4_init) ∈ lw_g := ⟨rfl, lw_inG 139 (by decide +kernel) (by decide +kernel)⟩
set_option maxRecDepth 200000 in
theorem okX4_clear : MOK mX4_clear 0 := ⟨lw_inG 250 rfl rfl, lw_inG 112 (by decide +kernel) (by decide +kernel), by decide +kernel⟩
theorem vX4_clear : MVt mX4_clear := ⟨lw_inG 248 (by decide +kernel) (by decide +kernel), lw_inG 249 (by decide +kernel) (by decide +kernel)⟩
set_option maxRecDepth 200000 in
theorem okX4_areWeightsTen : MOK mX4_areWeightsTen 0 := ⟨lw_inG 644 rfl rfl, lw_inG 112 (by decide +kernel) (by decide +kernel), by decide +kernel⟩
theorem vX4_areWeightsTen : MVt mX4_areWeightsTen := ⟨lw_inG 642 (by decide +kernel) (by decide +kernel), lw_inG 643 (by decide +kernel) (by decide +kernel)⟩
set_option maxRecDepth 200000 in
theorem okX4_owedBy : MOK mX4_owedBy 1 := ⟨lw_inG 1119 rfl rfl, lw_inG 112 (by decide +kernel) (by decide +kernel), by decide +kernel⟩
theorem vX4_owedBy : MVt mX4_owedBy := ⟨lw_inG 1117 (by decide +kernel) (by decide +kernel), lw_inG 1118 (by decide +kernel) (by decide +kernel)⟩
set_option maxRecDepth 200000 in
theorem okX4_gainOf : MOK mX4_gainOf 1 := ⟨lw_inG 1123 rfl rfl, lw_inG 112 (by decide +kernel) (by decide +kernel), by decide +kernel⟩
theorem vX4_gainOf : MVt mX4_gainOf := ⟨lw_inG 1121 (by decide +kernel) (by decide +kernel), lw_inG 1122 (by decide +kernel) (by decide +kernel)⟩
set_option maxRecDepth 200000 in
theorem okX5_init : MOK mX5_init 0 := ⟨lw_inG 328 rfl rfl, lw_inG 115 (by decide +kernel) (by decide +kernel), by decide +kernel⟩
theorem iX5_init : (my mX5_init).name = "<init>" ∧ Cond.instanceMethod (my mX5_init) ∈ lw_g := ⟨rfl, lw_inG 327 (by decide +kernel) (by decide +kernel)⟩
set_option maxRecDepth 200000 in
theorem okX5_reads : MOK mX5_reads 3 := ⟨lw_inG 611 rfl rfl, lw_inG 115 (by decide +kernel) (by decide +kernel), by decide +kernel⟩
theorem vX5_reads : MVt mX5_reads := ⟨lw_inG 609 (by decide +kernel) (by decide +kernel), lw_inG 610 (by decide +kernel) (by decide +kernel)⟩
set_option maxRecDepth 200000 in
theorem okX5_readToken : MOK mX5_readToken 0 := ⟨lw_inG 615 rfl rfl, lw_inG 115 (by decide +kernel) (by decide +kernel), by decide +kernel⟩
theorem vX5_readToken : MVt mX5_readToken := ⟨lw_inG 614 (by decide +kernel) (by decide +kernel), lw_inG 2 (by decide +kernel) (by decide +kernel)⟩
set_option maxRecDepth 200000 in
theorem okX5_readWord : MOK mX5_readWord 0 := ⟨lw_inG 625 rfl rfl, lw_inG 115 (by decide +kernel) (by decide +kernel), by decide +kernel⟩
theorem vX5_readWord : MVt mX5_readWord := ⟨lw_inG 624 (by decide +kernel) (by decide +kernel), lw_inG 3 (by decide +kernel) (by decide +kernel)⟩
set_option maxRecDepth 200000 in
theorem okX5_readNumber : MOK mX5_readNumber 0 := ⟨lw_inG 632 rfl rfl, lw_inG 115 (by decide +kernel) (by decide +kernel), by decide +kernel⟩
theorem vX5_readNumber : MVt mX5_readNumber := ⟨lw_inG 631 (by decide +kernel) (by decide +kernel), lw_inG 4 (by decide +kernel) (by decide +kernel)⟩
set_option maxRecDepth 200000 in
theorem okX5_isBlank : MOK mX5_isBlank 1 := ⟨lw_inG 618 rfl rfl, lw_inG 115 (by decide +kernel) (by decide +kernel), by decide +kernel⟩
theorem sX5_isBlank : Cond.static (my mX5_isBlank) ∈ lw_g := lw_inG 617 (by decide +kernel) (by decide +kernel)
set_option maxRecDepth 200000 in
theorem okX5_isLetter : MOK mX5_isLetter 1 := ⟨lw_inG 621 rfl rfl, lw_inG 115 (by decide +kernel) (by decide +kernel), by decide +kernel⟩
theorem sX5_isLetter : Cond.static (my mX5_isLetter) ∈ lw_g := lw_inG 620 (by decide +kernel) (by decide +kernel)
set_option maxRecDepth 200000 in
theorem okX5_isDigit : MOK mX5_isDigit 1 := ⟨lw_inG 628 rfl rfl, lw_inG 115 (by decide +kernel) (by decide +kernel), by decide +kernel⟩
theorem sX5_isDigit : Cond.static (my mX5_isDigit) ∈ lw_g := lw_inG 627 (by decide +kernel) (by decide +kernel)
set_option maxRecDepth 200000 in
theorem okX5_faultOfToken : MOK mX5_faultOfToken 0 := ⟨lw_inG 636 rfl rfl, lw_inG 115 (by decide +kernel) (by decide +kernel), by decide +kernel⟩
theorem vX5_faultOfToken : MVt mX5_faultOfToken := ⟨lw_inG 635 (by decide +kernel) (by decide +kernel), lw_inG 5 (by decide +kernel) (by decide +kernel)⟩
set_option maxRecDepth 200000 in
theorem okX5_faultBetween : MOK mX5_faultBetween 0 := ⟨lw_inG 640 rfl rfl, lw_inG 115 (by decide +kernel) (by decide +kernel), by decide +kernel⟩
theorem vX5_faultBetween : MVt mX5_faultBetween := ⟨lw_inG 639 (by decide +kernel) (by decide +kernel), lw_inG 6 (by decide +kernel) (by decide +kernel)⟩
set_option maxRecDepth 200000 in
theorem okX5_faultOfWeeks : MOK mX5_faultOfWeeks 0 := ⟨lw_inG 715 rfl rfl, lw_inG 115 (by decide +kernel) (by decide +kernel), by decide +kernel⟩
theorem vX5_faultOfWeeks : MVt mX5_faultOfWeeks := ⟨lw_inG 714 (by decide +kernel) (by decide +kernel), lw_inG 9 (by decide +kernel) (by decide +kernel)⟩
set_option maxRecDepth 200000 in
theorem okX5_clauseNamed : MOK mX5_clauseNamed 0 := ⟨lw_inG 649 rfl rfl, lw_inG 115 (by decide +kernel) (by decide +kernel), by decide +kernel⟩
theorem vX5_clauseNamed : MVt mX5_clauseNamed := ⟨lw_inG 648 (by decide +kernel) (by decide +kernel), lw_inG 7 (by decide +kernel) (by decide +kernel)⟩
set_option maxRecDepth 200000 in
theorem okX5_isTokenText : MOK mX5_isTokenText 1 := ⟨lw_inG 663 rfl rfl, lw_inG 115 (by decide +kernel) (by decide +kernel), by decide +kernel⟩
theorem vX5_isTokenText : MVt mX5_isTokenText := ⟨lw_inG 662 (by decide +kernel) (by decide +kernel), lw_inG 8 (by decide +kernel) (by decide +kernel)⟩
set_option maxRecDepth 200000 in
theorem okX5_wordOf : MOK mX5_wordOf 1 := ⟨lw_inG 652 rfl rfl, lw_inG 115 (by decide +kernel) (by decide +kernel), by decide +kernel⟩
theorem sX5_wordOf : Cond.static (my mX5_wordOf) ∈ lw_g := lw_inG 651 (by decide +kernel) (by decide +kernel)
set_option maxRecDepth 200000 in
theorem okX5_shapeOf : MOK mX5_shapeOf 1 := ⟨lw_inG 722 rfl rfl, lw_inG 115 (by decide +kernel) (by decide +kernel), by decide +kernel⟩
theorem sX5_shapeOf : Cond.static (my mX5_shapeOf) ∈ lw_g := lw_inG 721 (by decide +kernel) (by decide +kernel)
set_option maxRecDepth 200000 in
theorem okX5_tokenDue : MOK mX5_tokenDue 0 := ⟨lw_inG 719 rfl rfl, lw_inG 115 (by decide +kernel) (by decide +kernel), by decide +kernel⟩
theorem vX5_tokenDue : MVt mX5_tokenDue := ⟨lw_inG 718 (by decide +kernel) (by decide +kernel), lw_inG 10 (by decide +kernel) (by decide +kernel)⟩
set_option maxRecDepth 200000 in
theorem okX5_faultOfNumber : MOK mX5_faultOfNumber 0 := ⟨lw_inG 732 rfl rfl, lw_inG 115 (by decide +kernel) (by decide +kernel), by decide +kernel⟩
theorem vX5_faultOfNumber : MVt mX5_faultOfNumber := ⟨lw_inG 731 (by decide +kernel) (by decide +kernel), lw_inG 11 (by decide +kernel) (by decide +kernel)⟩
set_option maxRecDepth 200000 in
theorem okX5_isLastChance : MOK mX5_isLastChance 0 := ⟨lw_inG 740 rfl rfl, lw_inG 115 (by decide +kernel) (by decide +kernel), by decide +kernel⟩
theorem vX5_isLastChance : MVt mX5_isLastChance := ⟨lw_inG 739 (by decide +kernel) (by decide +kernel), lw_inG 12 (by decide +kernel) (by decide +kernel)⟩
set_option maxRecDepth 200000 in
theorem okX5_chancesSoFar : MOK mX5_chancesSoFar 0 := ⟨lw_inG 744 rfl rfl, lw_inG 115 (by decide +kernel) (by decide +kernel), by decide +kernel⟩
theorem vX5_chancesSoFar : MVt mX5_chancesSoFar := ⟨lw_inG 743 (by decide +kernel) (by decide +kernel), lw_inG 13 (by decide +kernel) (by decide +kernel)⟩
set_option maxRecDepth 200000 in
theorem okX5_faultOfName : MOK mX5_faultOfName 0 := ⟨lw_inG 748 rfl rfl, lw_inG 115 (by decide +kernel) (by decide +kernel), by decide +kernel⟩
theorem vX5_faultOfName : MVt mX5_faultOfName := ⟨lw_inG 747 (by decide +kernel) (by decide +kernel), lw_inG 14 (by decide +kernel) (by decide +kernel)⟩
set_option maxRecDepth 200000 in
theorem okX5_faultOfKnown : MOK mX5_faultOfKnown 1 := ⟨lw_inG 752 rfl rfl, lw_inG 115 (by decide +kernel) (by decide +kernel), by decide +kernel⟩
theorem vX5_faultOfKnown : MVt mX5_faultOfKnown := ⟨lw_inG 751 (by decide +kernel) (by decide +kernel), lw_inG 15 (by decide +kernel) (by decide +kernel)⟩
set_option maxRecDepth 200000 in
theorem okX5_faultOfWantedWinter : MOK mX5_faultOfWantedWinter 0 := ⟨lw_inG 768 rfl rfl, lw_inG 115 (by decide +kernel) (by decide +kernel), by decide +kernel⟩
theorem vX5_faultOfWantedWinter : MVt mX5_faultOfWantedWinter := ⟨lw_inG 767 (by decide +kernel) (by decide +kernel), lw_inG 19 (by decide +kernel) (by decide +kernel)⟩
set_option maxRecDepth 200000 in
theorem okX5_faultOfHelped : MOK mX5_faultOfHelped 0 := ⟨lw_inG 772 rfl rfl, lw_inG 115 (by decide +kernel) (by decide +kernel), by decide +kernel⟩
theorem vX5_faultOfHelped : MVt mX5_faultOfHelped := ⟨lw_inG 771 (by decide +kernel) (by decide +kernel), lw_inG 20 (by decide +kernel) (by decide +kernel)⟩
set_option maxRecDepth 200000 in
theorem okX5_numberNamed : MOK mX5_numberNamed 1 := ⟨lw_inG 756 rfl rfl, lw_inG 115 (by decide +kernel) (by decide +kernel), by decide +kernel⟩
theorem vX5_numberNamed : MVt mX5_numberNamed := ⟨lw_inG 755 (by decide +kernel) (by decide +kernel), lw_inG 16 (by decide +kernel) (by decide +kernel)⟩
set_option maxRecDepth 200000 in
theorem okX5_toldOf : MOK mX5_toldOf 1 := ⟨lw_inG 760 rfl rfl, lw_inG 115 (by decide +kernel) (by decide +kernel), by decide +kernel⟩
theorem vX5_toldOf : MVt mX5_toldOf := ⟨lw_inG 759 (by decide +kernel) (by decide +kernel), lw_inG 17 (by decide +kernel) (by decide +kernel)⟩
set_option maxRecDepth 200000 in
theorem okX5_isNameToken : MOK mX5_isNameToken 1 := ⟨lw_inG 764 rfl rfl, lw_inG 115 (by decide +kernel) (by decide +kernel), by decide +kernel⟩
theorem vX5_isNameToken : MVt mX5_isNameToken := ⟨lw_inG 763 (by decide +kernel) (by decide +kernel), lw_inG 18 (by decide +kernel) (by decide +kernel)⟩
set_option maxRecDepth 200000 in
theorem okX5_acceptToken : MOK mX5_acceptToken 0 := ⟨lw_inG 776 rfl rfl, lw_inG 115 (by decide +kernel) (by decide +kernel), by decide +kernel⟩
theorem vX5_acceptToken : MVt mX5_acceptToken := ⟨lw_inG 775 (by decide +kernel) (by decide +kernel), lw_inG 21 (by decide +kernel) (by decide +kernel)⟩
set_option maxRecDepth 200000 in
theorem okX5_acceptName : MOK mX5_acceptName 0 := ⟨lw_inG 808 rfl rfl, lw_inG 115 (by decide +kernel) (by decide +kernel), by decide +kernel⟩
theorem vX5_acceptName : MVt mX5_acceptName := ⟨lw_inG 807 (by decide +kernel) (by decide +kernel), lw_inG 27 (by decide +kernel) (by decide +kernel)⟩
set_option maxRecDepth 200000 in
theorem okX5_settleClause : MOK mX5_settleClause 0 := ⟨lw_inG 780 rfl rfl, lw_inG 115 (by decide +kernel) (by decide +kernel), by decide +kernel⟩
theorem vX5_settleClause : MVt mX5_settleClause := ⟨lw_inG 779 (by decide +kernel) (by decide +kernel), lw_inG 22 (by decide +kernel) (by decide +kernel)⟩
set_option maxRecDepth 200000 in
theorem okX5_settleWinter : MOK mX5_settleWinter 0 := ⟨lw_inG 784 rfl rfl, lw_inG 115 (by decide +kernel) (by decide +kernel), by decide +kernel⟩
theorem vX5_settleWinter : MVt mX5_settleWinter := ⟨lw_inG 783 (by decide +kernel) (by decide +kernel), lw_inG 23 (by decide +kernel) (by decide +kernel)⟩
set_option maxRecDepth 200000 in
theorem okX5_settleThing : MOK mX5_settleThing 1 := ⟨lw_inG 788 rfl rfl, lw_inG 115 (by decide +kernel) (by decide +kernel), by decide +kernel⟩
theorem vX5_settleThing : MVt mX5_settleThing := ⟨lw_inG 787 (by decide +kernel) (by decide +kernel), lw_inG 24 (by decide +kernel) (by decide +kernel)⟩
set_option maxRecDepth 200000 in
theorem okX5_settleWant : MOK mX5_settleWant 2 := ⟨lw_inG 800 rfl rfl, lw_inG 115 (by decide +kernel) (by decide +kernel), by decide +kernel⟩
theorem vX5_settleWant : MVt mX5_settleWant := ⟨lw_inG 799 (by decide +kernel) (by decide +kernel), lw_inG 25 (by decide +kernel) (by decide +kernel)⟩
set_option maxRecDepth 200000 in
theorem okX5_settleFamily : MOK mX5_settleFamily 1 := ⟨lw_inG 804 rfl rfl, lw_inG 115 (by decide +kernel) (by decide +kernel), by decide +kernel⟩
theorem vX5_settleFamily : MVt mX5_settleFamily := ⟨lw_inG 803 (by decide +kernel) (by decide +kernel), lw_inG 26 (by decide +kernel) (by decide +kernel)⟩
set_option maxRecDepth 200000 in
theorem okX6_init : MOK mX6_init 0 := ⟨lw_inG 520 rfl rfl, lw_inG 120 (by decide +kernel) (by decide +kernel), by decide +kernel⟩
theorem iX6_init : (my mX6_init).name = "<init>" ∧ Cond.instanceMethod (my mX6_init) ∈ lw_g := ⟨rfl, lw_inG 519 (by decide +kernel) (by decide +kernel)⟩
set_option maxRecDepth 200000 in
theorem okX6_order : MOK mX6_order 2 := ⟨lw_inG 1131 rfl rfl, lw_inG 120 (by decide +kernel) (by decide +kernel), by decide +kernel⟩
theorem vX6_order : MVt mX6_order := ⟨lw_inG 1129 (by decide +kernel) (by decide +kernel), lw_inG 1130 (by decide +kernel) (by decide +kernel)⟩
set_option maxRecDepth 200000 in
theorem okX6_start : MOK mX6_start 2 := ⟨lw_inG 1135 rfl rfl, lw_inG 120 (by decide +kernel) (by decide +kernel), by decide +kernel⟩
theorem vX6_start : MVt mX6_start := ⟨lw_inG 1133 (by decide +kernel) (by decide +kernel), lw_inG 1134 (by decide +kernel) (by decide +kernel)⟩
set_option maxRecDepth 200000 in
theorem okX6_drawOfTen : MOK mX6_drawOfTen 0 := ⟨lw_inG 1143 rfl rfl, lw_inG 120 (by decide +kernel) (by decide +kernel), by decide +kernel⟩
theorem vX6_drawOfTen : MVt mX6_drawOfTen := ⟨lw_inG 1142 (by decide +kernel) (by decide +kernel), lw_inG 59 (by decide +kernel) (by decide +kernel)⟩
set_option maxRecDepth 200000 in
theorem okX6_drawWinter : MOK mX6_drawWinter 1 := ⟨lw_inG 1139 rfl rfl, lw_inG 120 (by decide +kernel) (by decide +kernel), by decide +kernel⟩
theorem vX6_drawWinter : MVt mX6_drawWinter := ⟨lw_inG 1138 (by decide +kernel) (by decide +kernel), lw_inG 58 (by decide +kernel) (by decide +kernel)⟩
set_option maxRecDepth 200000 in
theorem okX6_drawKind : MOK mX6_drawKind 2 := ⟨lw_inG 1160 rfl rfl, lw_inG 120 (by decide +kernel) (by decide +kernel), by decide +kernel⟩
theorem vX6_drawKind : MVt mX6_drawKind := ⟨lw_inG 1159 (by decide +kernel) (by decide +kernel), lw_inG 60 (by decide +kernel) (by decide +kernel)⟩
set_option maxRecDepth 200000 in
theorem okX6_passWeek : MOK mX6_passWeek 1 := ⟨lw_inG 1156 rfl rfl, lw_inG 120 (by decide +kernel) (by decide +kernel), by decide +kernel⟩
theorem vX6_passWeek : MVt mX6_passWeek := ⟨lw_inG 1154 (by decide +kernel) (by decide +kernel), lw_inG 1155 (by decide +kernel) (by decide +kernel)⟩
set_option maxRecDepth 200000 in
theorem okX6_passThing : MOK mX6_passThing 4 := ⟨lw_inG 1164 rfl rfl, lw_inG 120 (by decide +kernel) (by decide +kernel), by decide +kernel⟩
theorem vX6_passThing : MVt mX6_passThing := ⟨lw_inG 1163 (by decide +kernel) (by decide +kernel), lw_inG 61 (by decide +kernel) (by decide +kernel)⟩
set_option maxRecDepth 200000 in
theorem okX6_judged : MOK mX6_judged 1 := ⟨lw_inG 1179 rfl rfl, lw_inG 120 (by decide +kernel) (by decide +kernel), by decide +kernel⟩
theorem vX6_judged : MVt mX6_judged := ⟨lw_inG 1177 (by decide +kernel) (by decide +kernel), lw_inG 1178 (by decide +kernel) (by decide +kernel)⟩
set_option maxRecDepth 200000 in
theorem okX6_becomeAs : MOK mX6_becomeAs 1 := ⟨lw_inG 1187 rfl rfl, lw_inG 120 (by decide +kernel) (by decide +kernel), by decide +kernel⟩
theorem vX6_becomeAs : MVt mX6_becomeAs := ⟨lw_inG 1185 (by decide +kernel) (by decide +kernel), lw_inG 1186 (by decide +kernel) (by decide +kernel)⟩
set_option maxRecDepth 200000 in
theorem okX7_init : MOK mX7_init 0 := ⟨lw_inG 151 rfl rfl, lw_inG 113 (by decide +kernel) (by decide +kernel), by decide +kernel⟩
theorem iX7_init : (my mX7_init).name = "<init>" ∧ Cond.instanceMethod (my mX7_init) ∈ lw_g := ⟨rfl, lw_inG 150 (by decide +kernel) (by decide +kernel)⟩
set_option maxRecDepth 200000 in
theorem okX7_setRule : MOK mX7_setRule 2 := ⟨lw_inG 796 rfl rfl, lw_inG 113 (by decide +kernel) (by decide +kernel), by decide +kernel⟩
theorem vX7_setRule : MVt mX7_setRule := ⟨lw_inG 794 (by decide +kernel) (by decide +kernel), lw_inG 795 (by decide +kernel) (by decide +kernel)⟩
set_option maxRecDepth 200000 in
theorem okX7_setUntold : MOK mX7_setUntold 0 := ⟨lw_inG 792 rfl rfl, lw_inG 113 (by decide +kernel) (by decide +kernel), by decide +kernel⟩
theorem vX7_setUntold : MVt mX7_setUntold := ⟨lw_inG 790 (by decide +kernel) (by decide +kernel), lw_inG 791 (by decide +kernel) (by decide +kernel)⟩
set_option maxRecDepth 200000 in
theorem okX7_spareOf : MOK mX7_spareOf 1 := ⟨lw_inG 903 rfl rfl, lw_inG 113 (by decide +kernel) (by decide +kernel), by decide +kernel⟩
theorem vX7_spareOf : MVt mX7_spareOf := ⟨lw_inG 901 (by decide +kernel) (by decide +kernel), lw_inG 902 (by decide +kernel) (by decide +kernel)⟩
set_option maxRecDepth 200000 in
theorem okX8_init : MOK mX8_init 0 := ⟨lw_inG 385 rfl rfl, lw_inG 117 (by decide +kernel) (by decide +kernel), by decide +kernel⟩
theorem iX8_init : (my mX8_init).name = "<init>" ∧ Cond.instanceMethod (my mX8_init) ∈ lw_g := ⟨rfl, lw_inG 384 (by decide +kernel) (by decide +kernel)⟩
set_option maxRecDepth 200000 in
theorem okX8_giveOut : MOK mX8_giveOut 4 := ⟨lw_inG 896 rfl rfl, lw_inG 117 (by decide +kernel) (by decide +kernel), by decide +kernel⟩
theorem vX8_giveOut : MVt mX8_giveOut := ⟨lw_inG 894 (by decide +kernel) (by decide +kernel), lw_inG 895 (by decide +kernel) (by decide +kernel)⟩
set_option maxRecDepth 200000 in
theorem okX8_letSpoil : MOK mX8_letSpoil 1 := ⟨lw_inG 907 rfl rfl, lw_inG 117 (by decide +kernel) (by decide +kernel), by decide +kernel⟩
theorem vX8_letSpoil : MVt mX8_letSpoil := ⟨lw_inG 905 (by decide +kernel) (by decide +kernel), lw_inG 906 (by decide +kernel) (by decide +kernel)⟩
set_option maxRecDepth 200000 in
theorem okX9_init : MOK mX9_init 0 := ⟨lw_inG 132 rfl rfl, lw_inG 111 (by decide +kernel) (by decide +kernel), by decide +kernel⟩
theorem iX9_init : (my mX9_init).name = "<init>" ∧ Cond.instanceMethod (my mX9_init) ∈ lw_g := ⟨rfl, lw_inG 131 (by decide +kernel) (by decide +kernel)⟩
set_option maxRecDepth 200000 in
theorem okX9_feed : MOK mX9_feed 5 := ⟨lw_inG 590 rfl rfl, lw_inG 111 (by decide +kernel) (by decide +kernel), by decide +kernel⟩
theorem vX9_feed : MVt mX9_feed := ⟨lw_inG 588 (by decide +kernel) (by decide +kernel), lw_inG 589 (by decide +kernel) (by decide +kernel)⟩
set_option maxRecDepth 200000 in
theorem okX9_putBytes : MOK mX9_putBytes 1 := ⟨lw_inG 594 rfl rfl, lw_inG 111 (by decide +kernel) (by decide +kernel), by decide +kernel⟩
theorem vX9_putBytes : MVt mX9_putBytes := ⟨lw_inG 593 (by decide +kernel) (by decide +kernel), lw_inG 0 (by decide +kernel) (by decide +kernel)⟩
set_option maxRecDepth 200000 in
theorem okX9_end : MOK mX9_end 1 := ⟨lw_inG 598 rfl rfl, lw_inG 111 (by decide +kernel) (by decide +kernel), by decide +kernel⟩
theorem vX9_end : MVt mX9_end := ⟨lw_inG 596 (by decide +kernel) (by decide +kernel), lw_inG 597 (by decide +kernel) (by decide +kernel)⟩
set_option maxRecDepth 200000 in
theorem okX9_emptyTape : MOK mX9_emptyTape 0 := ⟨lw_inG 606 rfl rfl, lw_inG 111 (by decide +kernel) (by decide +kernel), by decide +kernel⟩
theorem vX9_emptyTape : MVt mX9_emptyTape := ⟨lw_inG 605 (by decide +kernel) (by decide +kernel), lw_inG 1 (by decide +kernel) (by decide +kernel)⟩
set_option maxRecDepth 200000 in
theorem okX9_post : MOK mX9_post 0 := ⟨lw_inG 602 rfl rfl, lw_inG 111 (by decide +kernel) (by decide +kernel), by decide +kernel⟩
theorem vX9_post : MVt mX9_post := ⟨lw_inG 600 (by decide +kernel) (by decide +kernel), lw_inG 601 (by decide +kernel) (by decide +kernel)⟩
set_option maxRecDepth 200000 in
theorem okX9_forgetRuns : MOK mX9_forgetRuns 0 := ⟨lw_inG 812 rfl rfl, lw_inG 111 (by decide +kernel) (by decide +kernel), by decide +kernel⟩
theorem vX9_forgetRuns : MVt mX9_forgetRuns := ⟨lw_inG 811 (by decide +kernel) (by decide +kernel), lw_inG 28 (by decide +kernel) (by decide +kernel)⟩
set_option maxRecDepth 200000 in
theorem okX9_fault : MOK mX9_fault 1 := ⟨lw_inG 816 rfl rfl, lw_inG 111 (by decide +kernel) (by decide +kernel), by decide +kernel⟩
theorem vX9_fault : MVt mX9_fault := ⟨lw_inG 814 (by decide +kernel) (by decide +kernel), lw_inG 815 (by decide +kernel) (by decide +kernel)⟩
set_option maxRecDepth 200000 in
theorem okX9_told : MOK mX9_told 1 := ⟨lw_inG 820 rfl rfl, lw_inG 111 (by decide +kernel) (by decide +kernel), by decide +kernel⟩
theorem vX9_told : MVt mX9_told := ⟨lw_inG 818 (by decide +kernel) (by decide +kernel), lw_inG 819 (by decide +kernel) (by decide +kernel)⟩
set_option maxRecDepth 200000 in
theorem okX9_toldByNumber : MOK mX9_toldByNumber 1 := ⟨lw_inG 824 rfl rfl, lw_inG 111 (by decide +kernel) (by decide +kernel), by decide +kernel⟩
theorem vX9_toldByNumber : MVt mX9_toldByNumber := ⟨lw_inG 823 (by decide +kernel) (by decide +kernel), lw_inG 29 (by decide +kernel) (by decide +kernel)⟩
set_option maxRecDepth 200000 in
theorem okX9_toldOfThing : MOK mX9_toldOfThing 2 := ⟨lw_inG 835 rfl rfl, lw_inG 111 (by decide +kernel) (by decide +kernel), by decide +kernel⟩
theorem sX9_toldOfThing : Cond.static (my mX9_toldOfThing) ∈ lw_g := lw_inG 834 (by decide +kernel) (by decide +kernel)
set_option maxRecDepth 200000 in
theorem okX9_hasThing : MOK mX9_hasThing 1 := ⟨lw_inG 832 rfl rfl, lw_inG 111 (by decide +kernel) (by decide +kernel), by decide +kernel⟩
theorem vX9_hasThing : MVt mX9_hasThing := ⟨lw_inG 831 (by decide +kernel) (by decide +kernel), lw_inG 31 (by decide +kernel) (by decide +kernel)⟩
set_option maxRecDepth 200000 in
theorem okX9_hasWinter : MOK mX9_hasWinter 1 := ⟨lw_inG 828 rfl rfl, lw_inG 111 (by decide +kernel) (by decide +kernel), by decide +kernel⟩
theorem vX9_hasWinter : MVt mX9_hasWinter := ⟨lw_inG 827 (by decide +kernel) (by decide +kernel), lw_inG 30 (by decide +kernel) (by decide +kernel)⟩
set_option maxRecDepth 200000 in
theorem okX9_isAnyWinter : MOK mX9_isAnyWinter 1 := ⟨lw_inG 863 rfl rfl, lw_inG 111 (by decide +kernel) (by decide +kernel), by decide +kernel⟩
theorem vX9_isAnyWinter : MVt mX9_isAnyWinter := ⟨lw_inG 862 (by decide +kernel) (by decide +kernel), lw_inG 33 (by decide +kernel) (by decide +kernel)⟩
set_option maxRecDepth 200000 in
theorem okX9_isOrder : MOK mX9_isOrder 1 := ⟨lw_inG 850 rfl rfl, lw_inG 111 (by decide +kernel) (by decide +kernel), by decide +kernel⟩
theorem sX9_isOrder : Cond.static (my mX9_isOrder) ∈ lw_g := lw_inG 849 (by decide +kernel) (by decide +kernel)
set_option maxRecDepth 200000 in
theorem okX9_wants : MOK mX9_wants 3 := ⟨lw_inG 839 rfl rfl, lw_inG 111 (by decide +kernel) (by decide +kernel), by decide +kernel⟩
theorem vX9_wants : MVt mX9_wants := ⟨lw_inG 837 (by decide +kernel) (by decide +kernel), lw_inG 838 (by decide +kernel) (by decide +kernel)⟩
set_option maxRecDepth 200000 in
theorem okX9_signs : MOK mX9_signs 2 := ⟨lw_inG 843 rfl rfl, lw_inG 111 (by decide +kernel) (by decide +kernel), by decide +kernel⟩
theorem vX9_signs : MVt mX9_signs := ⟨lw_inG 841 (by decide +kernel) (by decide +kernel), lw_inG 842 (by decide +kernel) (by decide +kernel)⟩
set_option maxRecDepth 200000 in
theorem okX9_rule : MOK mX9_rule 3 := ⟨lw_inG 847 rfl rfl, lw_inG 111 (by decide +kernel) (by decide +kernel), by decide +kernel⟩
theorem vX9_rule : MVt mX9_rule := ⟨lw_inG 845 (by decide +kernel) (by decide +kernel), lw_inG 846 (by decide +kernel) (by decide +kernel)⟩
set_option maxRecDepth 200000 in
theorem okX9_means : MOK mX9_means 4 := ⟨lw_inG 855 rfl rfl, lw_inG 111 (by decide +kernel) (by decide +kernel), by decide +kernel⟩
theorem vX9_means : MVt mX9_means := ⟨lw_inG 853 (by decide +kernel) (by decide +kernel), lw_inG 854 (by decide +kernel) (by decide +kernel)⟩
set_option maxRecDepth 200000 in
theorem okX9_score : MOK mX9_score 3 := ⟨lw_inG 927 rfl rfl, lw_inG 111 (by decide +kernel) (by decide +kernel), by decide +kernel⟩
theorem vX9_score : MVt mX9_score := ⟨lw_inG 925 (by decide +kernel) (by decide +kernel), lw_inG 926 (by decide +kernel) (by decide +kernel)⟩
set_option maxRecDepth 200000 in
theorem okX9_safe : MOK mX9_safe 4 := ⟨lw_inG 943 rfl rfl, lw_inG 111 (by decide +kernel) (by decide +kernel), by decide +kernel⟩
theorem vX9_safe : MVt mX9_safe := ⟨lw_inG 941 (by decide +kernel) (by decide +kernel), lw_inG 942 (by decide +kernel) (by decide +kernel)⟩
set_option maxRecDepth 200000 in
theorem okX9_isOutlook : MOK mX9_isOutlook 3 := ⟨lw_inG 859 rfl rfl, lw_inG 111 (by decide +kernel) (by decide +kernel), by decide +kernel⟩
theorem vX9_isOutlook : MVt mX9_isOutlook := ⟨lw_inG 858 (by decide +kernel) (by decide +kernel), lw_inG 32 (by decide +kernel) (by decide +kernel)⟩
set_option maxRecDepth 200000 in
theorem okX9_valueAt : MOK mX9_valueAt 3 := ⟨lw_inG 872 rfl rfl, lw_inG 111 (by decide +kernel) (by decide +kernel), by decide +kernel⟩
theorem vX9_valueAt : MVt mX9_valueAt := ⟨lw_inG 871 (by decide +kernel) (by decide +kernel), lw_inG 34 (by decide +kernel) (by decide +kernel)⟩
set_option maxRecDepth 200000 in
theorem okX9_waysIn : MOK mX9_waysIn 1 := ⟨lw_inG 935 rfl rfl, lw_inG 111 (by decide +kernel) (by decide +kernel), by decide +kernel⟩
theorem vX9_waysIn : MVt mX9_waysIn := ⟨lw_inG 934 (by decide +kernel) (by decide +kernel), lw_inG 41 (by decide +kernel) (by decide +kernel)⟩
set_option maxRecDepth 200000 in
theorem okX9_one : MOK mX9_one 1 := ⟨lw_inG 955 rfl rfl, lw_inG 111 (by decide +kernel) (by decide +kernel), by decide +kernel⟩
theorem vX9_one : MVt mX9_one := ⟨lw_inG 953 (by decide +kernel) (by decide +kernel), lw_inG 954 (by decide +kernel) (by decide +kernel)⟩
set_option maxRecDepth 200000 in
theorem okX9_keeps : MOK mX9_keeps 2 := ⟨lw_inG 974 rfl rfl, lw_inG 111 (by decide +kernel) (by decide +kernel), by decide +kernel⟩
theorem vX9_keeps : MVt mX9_keeps := ⟨lw_inG 972 (by decide +kernel) (by decide +kernel), lw_inG 973 (by decide +kernel) (by decide +kernel)⟩
set_option maxRecDepth 200000 in
theorem okX9_sure : MOK mX9_sure 2 := ⟨lw_inG 978 rfl rfl, lw_inG 111 (by decide +kernel) (by decide +kernel), by decide +kernel⟩
theorem vX9_sure : MVt mX9_sure := ⟨lw_inG 976 (by decide +kernel) (by decide +kernel), lw_inG 977 (by decide +kernel) (by decide +kernel)⟩
set_option maxRecDepth 200000 in
theorem okX9_worth : MOK mX9_worth 3 := ⟨lw_inG 982 rfl rfl, lw_inG 111 (by decide +kernel) (by decide +kernel), by decide +kernel⟩
theorem vX9_worth : MVt mX9_worth := ⟨lw_inG 980 (by decide +kernel) (by decide +kernel), lw_inG 981 (by decide +kernel) (by decide +kernel)⟩
set_option maxRecDepth 200000 in
theorem okX9_isWeek : MOK mX9_isWeek 1 := ⟨lw_inG 986 rfl rfl, lw_inG 111 (by decide +kernel) (by decide +kernel), by decide +kernel⟩
theorem vX9_isWeek : MVt mX9_isWeek := ⟨lw_inG 985 (by decide +kernel) (by decide +kernel), lw_inG 43 (by decide +kernel) (by decide +kernel)⟩
set_option maxRecDepth 200000 in
theorem okX9_list : MOK mX9_list 0 := ⟨lw_inG 990 rfl rfl, lw_inG 111 (by decide +kernel) (by decide +kernel), by decide +kernel⟩
theorem vX9_list : MVt mX9_list := ⟨lw_inG 988 (by decide +kernel) (by decide +kernel), lw_inG 989 (by decide +kernel) (by decide +kernel)⟩
set_option maxRecDepth 200000 in
theorem okX9_listed : MOK mX9_listed 1 := ⟨lw_inG 1011 rfl rfl, lw_inG 111 (by decide +kernel) (by decide +kernel), by decide +kernel⟩
theorem vX9_listed : MVt mX9_listed := ⟨lw_inG 1009 (by decide +kernel) (by decide +kernel), lw_inG 1010 (by decide +kernel) (by decide +kernel)⟩
set_option maxRecDepth 200000 in
theorem okX9_next : MOK mX9_next 0 := ⟨lw_inG 1015 rfl rfl, lw_inG 111 (by decide +kernel) (by decide +kernel), by decide +kernel⟩
theorem vX9_next : MVt mX9_next := ⟨lw_inG 1013 (by decide +kernel) (by decide +kernel), lw_inG 1014 (by decide +kernel) (by decide +kernel)⟩
set_option maxRecDepth 200000 in
theorem okX9_isOrderRow : MOK mX9_isOrderRow 1 := ⟨lw_inG 1019 rfl rfl, lw_inG 111 (by decide +kernel) (by decide +kernel), by decide +kernel⟩
theorem vX9_isOrderRow : MVt mX9_isOrderRow := ⟨lw_inG 1018 (by decide +kernel) (by decide +kernel), lw_inG 47 (by decide +kernel) (by decide +kernel)⟩
set_option maxRecDepth 200000 in
theorem okX9_instead : MOK mX9_instead 4 := ⟨lw_inG 1023 rfl rfl, lw_inG 111 (by decide +kernel) (by decide +kernel), by decide +kernel⟩
theorem vX9_instead : MVt mX9_instead := ⟨lw_inG 1021 (by decide +kernel) (by decide +kernel), lw_inG 1022 (by decide +kernel) (by decide +kernel)⟩
set_option maxRecDepth 200000 in
theorem okX9_isPaired : MOK mX9_isPaired 3 := ⟨lw_inG 1027 rfl rfl, lw_inG 111 (by decide +kernel) (by decide +kernel), by decide +kernel⟩
theorem vX9_isPaired : MVt mX9_isPaired := ⟨lw_inG 1026 (by decide +kernel) (by decide +kernel), lw_inG 48 (by decide +kernel) (by decide +kernel)⟩
set_option maxRecDepth 200000 in
theorem okX9_think : MOK mX9_think 2 := ⟨lw_inG 1062 rfl rfl, lw_inG 111 (by decide +kernel) (by decide +kernel), by decide +kernel⟩
theorem vX9_think : MVt mX9_think := ⟨lw_inG 1060 (by decide +kernel) (by decide +kernel), lw_inG 1061 (by decide +kernel) (by decide +kernel)⟩
set_option maxRecDepth 200000 in
theorem okX9_after : MOK mX9_after 1 := ⟨lw_inG 1075 rfl rfl, lw_inG 111 (by decide +kernel) (by decide +kernel), by decide +kernel⟩
theorem vX9_after : MVt mX9_after := ⟨lw_inG 1073 (by decide +kernel) (by decide +kernel), lw_inG 1074 (by decide +kernel) (by decide +kernel)⟩
set_option maxRecDepth 200000 in
theorem okX9_weighBySigns : MOK mX9_weighBySigns 1 := ⟨lw_inG 1066 rfl rfl, lw_inG 111 (by decide +kernel) (by decide +kernel), by decide +kernel⟩
theorem vX9_weighBySigns : MVt mX9_weighBySigns := ⟨lw_inG 1065 (by decide +kernel) (by decide +kernel), lw_inG 54 (by decide +kernel) (by decide +kernel)⟩
set_option maxRecDepth 200000 in
theorem okX9_isSignRow : MOK mX9_isSignRow 1 := ⟨lw_inG 1070 rfl rfl, lw_inG 111 (by decide +kernel) (by decide +kernel), by decide +kernel⟩
theorem vX9_isSignRow : MVt mX9_isSignRow := ⟨lw_inG 1069 (by decide +kernel) (by decide +kernel), lw_inG 55 (by decide +kernel) (by decide +kernel)⟩
set_option maxRecDepth 200000 in
theorem okX9_sledge : MOK mX9_sledge 6 := ⟨lw_inG 1079 rfl rfl, lw_inG 111 (by decide +kernel) (by decide +kernel), by decide +kernel⟩
theorem vX9_sledge : MVt mX9_sledge := ⟨lw_inG 1077 (by decide +kernel) (by decide +kernel), lw_inG 1078 (by decide +kernel) (by decide +kernel)⟩
set_option maxRecDepth 200000 in
theorem okX9_isSledge : MOK mX9_isSledge 5 := ⟨lw_inG 1083 rfl rfl, lw_inG 111 (by decide +kernel) (by decide +kernel), by decide +kernel⟩
theorem vX9_isSledge : MVt mX9_isSledge := ⟨lw_inG 1082 (by decide +kernel) (by decide +kernel), lw_inG 56 (by decide +kernel) (by decide +kernel)⟩
set_option maxRecDepth 200000 in
theorem okX9_when : MOK mX9_when 5 := ⟨lw_inG 1099 rfl rfl, lw_inG 111 (by decide +kernel) (by decide +kernel), by decide +kernel⟩
theorem vX9_when : MVt mX9_when := ⟨lw_inG 1097 (by decide +kernel) (by decide +kernel), lw_inG 1098 (by decide +kernel) (by decide +kernel)⟩
set_option maxRecDepth 200000 in
theorem okX9_second : MOK mX9_second 3 := ⟨lw_inG 1103 rfl rfl, lw_inG 111 (by decide +kernel) (by decide +kernel), by decide +kernel⟩
theorem vX9_second : MVt mX9_second := ⟨lw_inG 1101 (by decide +kernel) (by decide +kernel), lw_inG 1102 (by decide +kernel) (by decide +kernel)⟩
set_option maxRecDepth 200000 in
theorem okX9_forTwo : MOK mX9_forTwo 2 := ⟨lw_inG 1111 rfl rfl, lw_inG 111 (by decide +kernel) (by decide +kernel), by decide +kernel⟩
theorem vX9_forTwo : MVt mX9_forTwo := ⟨lw_inG 1109 (by decide +kernel) (by decide +kernel), lw_inG 1110 (by decide +kernel) (by decide +kernel)⟩
set_option maxRecDepth 200000 in
theorem okX9_trust : MOK mX9_trust 1 := ⟨lw_inG 1115 rfl rfl, lw_inG 111 (by decide +kernel) (by decide +kernel), by decide +kernel⟩
theorem vX9_trust : MVt mX9_trust := ⟨lw_inG 1113 (by decide +kernel) (by decide +kernel), lw_inG 1114 (by decide +kernel) (by decide +kernel)⟩
set_option maxRecDepth 200000 in
theorem okX9_begin : MOK mX9_begin 1 := ⟨lw_inG 1127 rfl rfl, lw_inG 111 (by decide +kernel) (by decide +kernel), by decide +kernel⟩
theorem vX9_begin : MVt mX9_begin := ⟨lw_inG 1125 (by decide +kernel) (by decide +kernel), lw_inG 1126 (by decide +kernel) (by decide +kernel)⟩
set_option maxRecDepth 200000 in
theorem okX9_go : MOK mX9_go 1 := ⟨lw_inG 1152 rfl rfl, lw_inG 111 (by decide +kernel) (by decide +kernel), by decide +kernel⟩
theorem vX9_go : MVt mX9_go := ⟨lw_inG 1150 (by decide +kernel) (by decide +kernel), lw_inG 1151 (by decide +kernel) (by decide +kernel)⟩
set_option maxRecDepth 200000 in
theorem okX9_stock : MOK mX9_stock 2 := ⟨lw_inG 1170 rfl rfl, lw_inG 111 (by decide +kernel) (by decide +kernel), by decide +kernel⟩
theorem vX9_stock : MVt mX9_stock := ⟨lw_inG 1168 (by decide +kernel) (by decide +kernel), lw_inG 1169 (by decide +kernel) (by decide +kernel)⟩
set_option maxRecDepth 200000 in
theorem okX9_ran : MOK mX9_ran 1 := ⟨lw_inG 1174 rfl rfl, lw_inG 111 (by decide +kernel) (by decide +kernel), by decide +kernel⟩
theorem vX9_ran : MVt mX9_ran := ⟨lw_inG 1172 (by decide +kernel) (by decide +kernel), lw_inG 1173 (by decide +kernel) (by decide +kernel)⟩
set_option maxRecDepth 200000 in
theorem okX9_keep : MOK mX9_keep 1 := ⟨lw_inG 1183 rfl rfl, lw_inG 111 (by decide +kernel) (by decide +kernel), by decide +kernel⟩
theorem vX9_keep : MVt mX9_keep := ⟨lw_inG 1181 (by decide +kernel) (by decide +kernel), lw_inG 1182 (by decide +kernel) (by decide +kernel)⟩
set_option maxRecDepth 200000 in
theorem okX9_take : MOK mX9_take 1 := ⟨lw_inG 1192 rfl rfl, lw_inG 111 (by decide +kernel) (by decide +kernel), by decide +kernel⟩
theorem vX9_take : MVt mX9_take := ⟨lw_inG 1190 (by decide +kernel) (by decide +kernel), lw_inG 1191 (by decide +kernel) (by decide +kernel)⟩
set_option maxRecDepth 200000 in
theorem okX9_count : MOK mX9_count 1 := ⟨lw_inG 1196 rfl rfl, lw_inG 111 (by decide +kernel) (by decide +kernel), by decide +kernel⟩
theorem vX9_count : MVt mX9_count := ⟨lw_inG 1194 (by decide +kernel) (by decide +kernel), lw_inG 1195 (by decide +kernel) (by decide +kernel)⟩
set_option maxRecDepth 200000 in
theorem okX9_tenTo : MOK mX9_tenTo 1 := ⟨lw_inG 938 rfl rfl, lw_inG 111 (by decide +kernel) (by decide +kernel), by decide +kernel⟩
theorem sX9_tenTo : Cond.static (my mX9_tenTo) ∈ lw_g := lw_inG 937 (by decide +kernel) (by decide +kernel)
set_option maxRecDepth 200000 in
theorem okX9_leastNumber : MOK mX9_leastNumber 3 := ⟨lw_inG 951 rfl rfl, lw_inG 111 (by decide +kernel) (by decide +kernel), by decide +kernel⟩
theorem sX9_leastNumber : Cond.static (my mX9_leastNumber) ∈ lw_g := lw_inG 950 (by decide +kernel) (by decide +kernel)
set_option maxRecDepth 200000 in
theorem okX10_init : MOK mX10_init 0 := ⟨lw_inG 1201 rfl rfl, lw_inG 121 (by decide +kernel) (by decide +kernel), by decide +kernel⟩
theorem iX10_init : (my mX10_init).name = "<init>" ∧ Cond.instanceMethod (my mX10_init) ∈ lw_g := ⟨rfl, lw_inG 1200 (by decide +kernel) (by decide +kernel)⟩
set_option maxRecDepth 200000 in
theorem okX10_in : MOK mX10_in 3 := ⟨lw_inG 1429 rfl rfl, lw_inG 121 (by decide +kernel) (by decide +kernel), by decide +kernel⟩
theorem sX10_in : Cond.static (my mX10_in) ∈ lw_g := lw_inG 1428 (by decide +kernel) (by decide +kernel)
set_option maxRecDepth 200000 in
theorem okX10_least : MOK mX10_least 2 := ⟨lw_inG 1537 rfl rfl, lw_inG 121 (by decide +kernel) (by decide +kernel), by decide +kernel⟩
theorem sX10_least : Cond.static (my mX10_least) ∈ lw_g := lw_inG 1536 (by decide +kernel) (by decide +kernel)
set_option maxRecDepth 200000 in
theorem okX10_feed : MOK mX10_feed 5 := ⟨lw_inG 1371 rfl rfl, lw_inG 121 (by decide +kernel) (by decide +kernel), by decide +kernel⟩
theorem vX10_feed : MVt mX10_feed := ⟨lw_inG 1369 (by decide +kernel) (by decide +kernel), lw_inG 1370 (by decide +kernel) (by decide +kernel)⟩
set_option maxRecDepth 200000 in
theorem okX10_end : MOK mX10_end 1 := ⟨lw_inG 1375 rfl rfl, lw_inG 121 (by decide +kernel) (by decide +kernel), by decide +kernel⟩
theorem vX10_end : MVt mX10_end := ⟨lw_inG 1373 (by decide +kernel) (by decide +kernel), lw_inG 1374 (by decide +kernel) (by decide +kernel)⟩
set_option maxRecDepth 200000 in
theorem okX10_byteAt : MOK mX10_byteAt 1 := ⟨lw_inG 1391 rfl rfl, lw_inG 121 (by decide +kernel) (by decide +kernel), by decide +kernel⟩
theorem vX10_byteAt : MVt mX10_byteAt := ⟨lw_inG 1390 (by decide +kernel) (by decide +kernel), lw_inG 65 (by decide +kernel) (by decide +kernel)⟩
set_option maxRecDepth 200000 in
theorem okX10_isSmall : MOK mX10_isSmall 1 := ⟨lw_inG 1394 rfl rfl, lw_inG 121 (by decide +kernel) (by decide +kernel), by decide +kernel⟩
theorem sX10_isSmall : Cond.static (my mX10_isSmall) ∈ lw_g := lw_inG 1393 (by decide +kernel) (by decide +kernel)
set_option maxRecDepth 200000 in
theorem okX10_isDigit : MOK mX10_isDigit 1 := ⟨lw_inG 1406 rfl rfl, lw_inG 121 (by decide +kernel) (by decide +kernel), by decide +kernel⟩
theorem sX10_isDigit : Cond.static (my mX10_isDigit) ∈ lw_g := lw_inG 1405 (by decide +kernel) (by decide +kernel)
set_option maxRecDepth 200000 in
theorem okX10_keyAt : MOK mX10_keyAt 2 := ⟨lw_inG 1400 rfl rfl, lw_inG 121 (by decide +kernel) (by decide +kernel), by decide +kernel⟩
theorem vX10_keyAt : MVt mX10_keyAt := ⟨lw_inG 1399 (by decide +kernel) (by decide +kernel), lw_inG 66 (by decide +kernel) (by decide +kernel)⟩
set_option maxRecDepth 200000 in
theorem okX10_scan : MOK mX10_scan 0 := ⟨lw_inG 1387 rfl rfl, lw_inG 121 (by decide +kernel) (by decide +kernel), by decide +kernel⟩
theorem vX10_scan : MVt mX10_scan := ⟨lw_inG 1386 (by decide +kernel) (by decide +kernel), lw_inG 64 (by decide +kernel) (by decide +kernel)⟩
set_option maxRecDepth 200000 in
theorem okX10_fails : MOK mX10_fails 1 := ⟨lw_inG 1418 rfl rfl, lw_inG 121 (by decide +kernel) (by decide +kernel), by decide +kernel⟩
theorem vX10_fails : MVt mX10_fails := ⟨lw_inG 1417 (by decide +kernel) (by decide +kernel), lw_inG 69 (by decide +kernel) (by decide +kernel)⟩
set_option maxRecDepth 200000 in
theorem okX10_readNumber : MOK mX10_readNumber 2 := ⟨lw_inG 1433 rfl rfl, lw_inG 121 (by decide +kernel) (by decide +kernel), by decide +kernel⟩
theorem vX10_readNumber : MVt mX10_readNumber := ⟨lw_inG 1432 (by decide +kernel) (by decide +kernel), lw_inG 72 (by decide +kernel) (by decide +kernel)⟩
set_option maxRecDepth 200000 in
theorem okX10_fault : MOK mX10_fault 1 := ⟨lw_inG 1379 rfl rfl, lw_inG 121 (by decide +kernel) (by decide +kernel), by decide +kernel⟩
theorem vX10_fault : MVt mX10_fault := ⟨lw_inG 1377 (by decide +kernel) (by decide +kernel), lw_inG 1378 (by decide +kernel) (by decide +kernel)⟩
set_option maxRecDepth 200000 in
theorem okX10_begin : MOK mX10_begin 0 := ⟨lw_inG 1206 rfl rfl, lw_inG 121 (by decide +kernel) (by decide +kernel), by decide +kernel⟩
theorem vX10_begin : MVt mX10_begin := ⟨lw_inG 1205 (by decide +kernel) (by decide +kernel), lw_inG 62 (by decide +kernel) (by decide +kernel)⟩
set_option maxRecDepth 200000 in
theorem okX10_comes : MOK mX10_comes 2 := ⟨lw_inG 1213 rfl rfl, lw_inG 121 (by decide +kernel) (by decide +kernel), by decide +kernel⟩
theorem sX10_comes : Cond.static (my mX10_comes) ∈ lw_g := lw_inG 1212 (by decide +kernel) (by decide +kernel)
set_option maxRecDepth 200000 in
theorem okX10_settle : MOK mX10_settle 0 := ⟨lw_inG 1210 rfl rfl, lw_inG 121 (by decide +kernel) (by decide +kernel), by decide +kernel⟩
theorem vX10_settle : MVt mX10_settle := ⟨lw_inG 1209 (by decide +kernel) (by decide +kernel), lw_inG 63 (by decide +kernel) (by decide +kernel)⟩
set_option maxRecDepth 200000 in
theorem okX10_winterNamed : MOK mX10_winterNamed 0 := ⟨lw_inG 1422 rfl rfl, lw_inG 121 (by decide +kernel) (by decide +kernel), by decide +kernel⟩
theorem vX10_winterNamed : MVt mX10_winterNamed := ⟨lw_inG 1421 (by decide +kernel) (by decide +kernel), lw_inG 70 (by decide +kernel) (by decide +kernel)⟩
set_option maxRecDepth 200000 in
theorem okX10_thingNamed : MOK mX10_thingNamed 0 := ⟨lw_inG 1441 rfl rfl, lw_inG 121 (by decide +kernel) (by decide +kernel), by decide +kernel⟩
theorem vX10_thingNamed : MVt mX10_thingNamed := ⟨lw_inG 1440 (by decide +kernel) (by decide +kernel), lw_inG 74 (by decide +kernel) (by decide +kernel)⟩
set_option maxRecDepth 200000 in
theorem okX10_familyNamed : MOK mX10_familyNamed 0 := ⟨lw_inG 1457 rfl rfl, lw_inG 121 (by decide +kernel) (by decide +kernel), by decide +kernel⟩
theorem vX10_familyNamed : MVt mX10_familyNamed := ⟨lw_inG 1456 (by decide +kernel) (by decide +kernel), lw_inG 78 (by decide +kernel) (by decide +kernel)⟩
set_option maxRecDepth 200000 in
theorem okX10_readLast : MOK mX10_readLast 1 := ⟨lw_inG 1426 rfl rfl, lw_inG 121 (by decide +kernel) (by decide +kernel), by decide +kernel⟩
theorem vX10_readLast : MVt mX10_readLast := ⟨lw_inG 1425 (by decide +kernel) (by decide +kernel), lw_inG 71 (by decide +kernel) (by decide +kernel)⟩
set_option maxRecDepth 200000 in
theorem okX10_readWinter : MOK mX10_readWinter 0 := ⟨lw_inG 1414 rfl rfl, lw_inG 121 (by decide +kernel) (by decide +kernel), by decide +kernel⟩
theorem vX10_readWinter : MVt mX10_readWinter := ⟨lw_inG 1413 (by decide +kernel) (by decide +kernel), lw_inG 68 (by decide +kernel) (by decide +kernel)⟩
set_option maxRecDepth 200000 in
theorem okX10_readThing : MOK mX10_readThing 0 := ⟨lw_inG 1437 rfl rfl, lw_inG 121 (by decide +kernel) (by decide +kernel), by decide +kernel⟩
theorem vX10_readThing : MVt mX10_readThing := ⟨lw_inG 1436 (by decide +kernel) (by decide +kernel), lw_inG 73 (by decide +kernel) (by decide +kernel)⟩
set_option maxRecDepth 200000 in
theorem okX10_readWant : MOK mX10_readWant 0 := ⟨lw_inG 1445 rfl rfl, lw_inG 121 (by decide +kernel) (by decide +kernel), by decide +kernel⟩
theorem vX10_readWant : MVt mX10_readWant := ⟨lw_inG 1444 (by decide +kernel) (by decide +kernel), lw_inG 75 (by decide +kernel) (by decide +kernel)⟩
set_option maxRecDepth 200000 in
theorem okX10_readInstead : MOK mX10_readInstead 0 := ⟨lw_inG 1449 rfl rfl, lw_inG 121 (by decide +kernel) (by decide +kernel), by decide +kernel⟩
theorem vX10_readInstead : MVt mX10_readInstead := ⟨lw_inG 1448 (by decide +kernel) (by decide +kernel), lw_inG 76 (by decide +kernel) (by decide +kernel)⟩
set_option maxRecDepth 200000 in
theorem okX10_readFamily : MOK mX10_readFamily 0 := ⟨lw_inG 1453 rfl rfl, lw_inG 121 (by decide +kernel) (by decide +kernel), by decide +kernel⟩
theorem vX10_readFamily : MVt mX10_readFamily := ⟨lw_inG 1452 (by decide +kernel) (by decide +kernel), lw_inG 77 (by decide +kernel) (by decide +kernel)⟩
set_option maxRecDepth 200000 in
theorem okX10_readClause : MOK mX10_readClause 1 := ⟨lw_inG 1410 rfl rfl, lw_inG 121 (by decide +kernel) (by decide +kernel), by decide +kernel⟩
theorem vX10_readClause : MVt mX10_readClause := ⟨lw_inG 1409 (by decide +kernel) (by decide +kernel), lw_inG 67 (by decide +kernel) (by decide +kernel)⟩
set_option maxRecDepth 200000 in
theorem okX10_isWeighed : MOK mX10_isWeighed 0 := ⟨lw_inG 1461 rfl rfl, lw_inG 121 (by decide +kernel) (by decide +kernel), by decide +kernel⟩
theorem vX10_isWeighed : MVt mX10_isWeighed := ⟨lw_inG 1460 (by decide +kernel) (by decide +kernel), lw_inG 79 (by decide +kernel) (by decide +kernel)⟩
set_option maxRecDepth 200000 in
theorem okX10_post : MOK mX10_post 0 := ⟨lw_inG 1383 rfl rfl, lw_inG 121 (by decide +kernel) (by decide +kernel), by decide +kernel⟩
theorem vX10_post : MVt mX10_post := ⟨lw_inG 1381 (by decide +kernel) (by decide +kernel), lw_inG 1382 (by decide +kernel) (by decide +kernel)⟩
set_option maxRecDepth 200000 in
theorem okX10_isWinter : MOK mX10_isWinter 1 := ⟨lw_inG 1469 rfl rfl, lw_inG 121 (by decide +kernel) (by decide +kernel), by decide +kernel⟩
theorem vX10_isWinter : MVt mX10_isWinter := ⟨lw_inG 1468 (by decide +kernel) (by decide +kernel), lw_inG 80 (by decide +kernel) (by decide +kernel)⟩
set_option maxRecDepth 200000 in
theorem okX10_isThing : MOK mX10_isThing 1 := ⟨lw_inG 1477 rfl rfl, lw_inG 121 (by decide +kernel) (by decide +kernel), by decide +kernel⟩
theorem vX10_isThing : MVt mX10_isThing := ⟨lw_inG 1476 (by decide +kernel) (by decide +kernel), lw_inG 82 (by decide +kernel) (by decide +kernel)⟩
set_option maxRecDepth 200000 in
theorem okX10_hasWinters : MOK mX10_hasWinters 0 := ⟨lw_inG 1512 rfl rfl, lw_inG 121 (by decide +kernel) (by decide +kernel), by decide +kernel⟩
theorem vX10_hasWinters : MVt mX10_hasWinters := ⟨lw_inG 1511 (by decide +kernel) (by decide +kernel), lw_inG 86 (by decide +kernel) (by decide +kernel)⟩
set_option maxRecDepth 200000 in
theorem okX10_isOrder : MOK mX10_isOrder 1 := ⟨lw_inG 1504 rfl rfl, lw_inG 121 (by decide +kernel) (by decide +kernel), by decide +kernel⟩
theorem sX10_isOrder : Cond.static (my mX10_isOrder) ∈ lw_g := lw_inG 1503 (by decide +kernel) (by decide +kernel)
set_option maxRecDepth 200000 in
theorem okX10_isAsked : MOK mX10_isAsked 1 := ⟨lw_inG 1508 rfl rfl, lw_inG 121 (by decide +kernel) (by decide +kernel), by decide +kernel⟩
theorem vX10_isAsked : MVt mX10_isAsked := ⟨lw_inG 1507 (by decide +kernel) (by decide +kernel), lw_inG 85 (by decide +kernel) (by decide +kernel)⟩
set_option maxRecDepth 200000 in
theorem okX10_of : MOK mX10_of 2 := ⟨lw_inG 1481 rfl rfl, lw_inG 121 (by decide +kernel) (by decide +kernel), by decide +kernel⟩
theorem vX10_of : MVt mX10_of := ⟨lw_inG 1480 (by decide +kernel) (by decide +kernel), lw_inG 83 (by decide +kernel) (by decide +kernel)⟩
set_option maxRecDepth 200000 in
theorem okX10_weight : MOK mX10_weight 1 := ⟨lw_inG 1473 rfl rfl, lw_inG 121 (by decide +kernel) (by decide +kernel), by decide +kernel⟩
theorem vX10_weight : MVt mX10_weight := ⟨lw_inG 1472 (by decide +kernel) (by decide +kernel), lw_inG 81 (by decide +kernel) (by decide +kernel)⟩
set_option maxRecDepth 200000 in
theorem okX10_told : MOK mX10_told 1 := ⟨lw_inG 1465 rfl rfl, lw_inG 121 (by decide +kernel) (by decide +kernel), by decide +kernel⟩
theorem vX10_told : MVt mX10_told := ⟨lw_inG 1463 (by decide +kernel) (by decide +kernel), lw_inG 1464 (by decide +kernel) (by decide +kernel)⟩
set_option maxRecDepth 200000 in
theorem okX10_chance : MOK mX10_chance 3 := ⟨lw_inG 1489 rfl rfl, lw_inG 121 (by decide +kernel) (by decide +kernel), by decide +kernel⟩
theorem vX10_chance : MVt mX10_chance := ⟨lw_inG 1488 (by decide +kernel) (by decide +kernel), lw_inG 84 (by decide +kernel) (by decide +kernel)⟩
set_option maxRecDepth 200000 in
theorem okX10_wants : MOK mX10_wants 3 := ⟨lw_inG 1485 rfl rfl, lw_inG 121 (by decide +kernel) (by decide +kernel), by decide +kernel⟩
theorem vX10_wants : MVt mX10_wants := ⟨lw_inG 1483 (by decide +kernel) (by decide +kernel), lw_inG 1484 (by decide +kernel) (by decide +kernel)⟩
set_option maxRecDepth 200000 in
theorem okX10_signs : MOK mX10_signs 2 := ⟨lw_inG 1493 rfl rfl, lw_inG 121 (by decide +kernel) (by decide +kernel), by decide +kernel⟩
theorem vX10_signs : MVt mX10_signs := ⟨lw_inG 1491 (by decide +kernel) (by decide +kernel), lw_inG 1492 (by decide +kernel) (by decide +kernel)⟩
set_option maxRecDepth 200000 in
theorem okX10_rule : MOK mX10_rule 3 := ⟨lw_inG 1497 rfl rfl, lw_inG 121 (by decide +kernel) (by decide +kernel), by decide +kernel⟩
theorem vX10_rule : MVt mX10_rule := ⟨lw_inG 1495 (by decide +kernel) (by decide +kernel), lw_inG 1496 (by decide +kernel) (by decide +kernel)⟩
set_option maxRecDepth 200000 in
theorem okX10_give : MOK mX10_give 4 := ⟨lw_inG 1534 rfl rfl, lw_inG 121 (by decide +kernel) (by decide +kernel), by decide +kernel⟩
theorem vX10_give : MVt mX10_give := ⟨lw_inG 1533 (by decide +kernel) (by decide +kernel), lw_inG 91 (by decide +kernel) (by decide +kernel)⟩
set_option maxRecDepth 200000 in
theorem okX10_above : MOK mX10_above 2 := ⟨lw_inG 1541 rfl rfl, lw_inG 121 (by decide +kernel) (by decide +kernel), by decide +kernel⟩
theorem vX10_above : MVt mX10_above := ⟨lw_inG 1540 (by decide +kernel) (by decide +kernel), lw_inG 92 (by decide +kernel) (by decide +kernel)⟩
set_option maxRecDepth 200000 in
theorem okX10_spoils : MOK mX10_spoils 2 := ⟨lw_inG 1545 rfl rfl, lw_inG 121 (by decide +kernel) (by decide +kernel), by decide +kernel⟩
theorem vX10_spoils : MVt mX10_spoils := ⟨lw_inG 1544 (by decide +kernel) (by decide +kernel), lw_inG 93 (by decide +kernel) (by decide +kernel)⟩
set_option maxRecDepth 200000 in
theorem okX10_week : MOK mX10_week 4 := ⟨lw_inG 1530 rfl rfl, lw_inG 121 (by decide +kernel) (by decide +kernel), by decide +kernel⟩
theorem vX10_week : MVt mX10_week := ⟨lw_inG 1529 (by decide +kernel) (by decide +kernel), lw_inG 90 (by decide +kernel) (by decide +kernel)⟩
set_option maxRecDepth 200000 in
theorem okX10_tens : MOK mX10_tens 1 := ⟨lw_inG 1525 rfl rfl, lw_inG 121 (by decide +kernel) (by decide +kernel), by decide +kernel⟩
theorem vX10_tens : MVt mX10_tens := ⟨lw_inG 1524 (by decide +kernel) (by decide +kernel), lw_inG 89 (by decide +kernel) (by decide +kernel)⟩
set_option maxRecDepth 200000 in
theorem okX10_goThrough : MOK mX10_goThrough 4 := ⟨lw_inG 1517 rfl rfl, lw_inG 121 (by decide +kernel) (by decide +kernel), by decide +kernel⟩
theorem vX10_goThrough : MVt mX10_goThrough := ⟨lw_inG 1516 (by decide +kernel) (by decide +kernel), lw_inG 87 (by decide +kernel) (by decide +kernel)⟩
set_option maxRecDepth 200000 in
theorem okX10_sledge : MOK mX10_sledge 1 := ⟨lw_inG 1521 rfl rfl, lw_inG 121 (by decide +kernel) (by decide +kernel), by decide +kernel⟩
theorem vX10_sledge : MVt mX10_sledge := ⟨lw_inG 1520 (by decide +kernel) (by decide +kernel), lw_inG 88 (by decide +kernel) (by decide +kernel)⟩
set_option maxRecDepth 200000 in
theorem okX10_valueOf : MOK mX10_valueOf 1 := ⟨lw_inG 1561 rfl rfl, lw_inG 121 (by decide +kernel) (by decide +kernel), by decide +kernel⟩
theorem vX10_valueOf : MVt mX10_valueOf := ⟨lw_inG 1560 (by decide +kernel) (by decide +kernel), lw_inG 96 (by decide +kernel) (by decide +kernel)⟩
set_option maxRecDepth 200000 in
theorem okX10_means : MOK mX10_means 4 := ⟨lw_inG 1501 rfl rfl, lw_inG 121 (by decide +kernel) (by decide +kernel), by decide +kernel⟩
theorem vX10_means : MVt mX10_means := ⟨lw_inG 1499 (by decide +kernel) (by decide +kernel), lw_inG 1500 (by decide +kernel) (by decide +kernel)⟩
set_option maxRecDepth 200000 in
theorem okX10_scoreIn : MOK mX10_scoreIn 3 := ⟨lw_inG 1557 rfl rfl, lw_inG 121 (by decide +kernel) (by decide +kernel), by decide +kernel⟩
theorem vX10_scoreIn : MVt mX10_scoreIn := ⟨lw_inG 1556 (by decide +kernel) (by decide +kernel), lw_inG 95 (by decide +kernel) (by decide +kernel)⟩
set_option maxRecDepth 200000 in
theorem okX10_scoreOf : MOK mX10_scoreOf 2 := ⟨lw_inG 1553 rfl rfl, lw_inG 121 (by decide +kernel) (by decide +kernel), by decide +kernel⟩
theorem vX10_scoreOf : MVt mX10_scoreOf := ⟨lw_inG 1552 (by decide +kernel) (by decide +kernel), lw_inG 94 (by decide +kernel) (by decide +kernel)⟩
set_option maxRecDepth 200000 in
theorem okX10_score : MOK mX10_score 3 := ⟨lw_inG 1549 rfl rfl, lw_inG 121 (by decide +kernel) (by decide +kernel), by decide +kernel⟩
theorem vX10_score : MVt mX10_score := ⟨lw_inG 1547 (by decide +kernel) (by decide +kernel), lw_inG 1548 (by decide +kernel) (by decide +kernel)⟩
set_option maxRecDepth 200000 in
theorem okX10_safeIn : MOK mX10_safeIn 3 := ⟨lw_inG 1574 rfl rfl, lw_inG 121 (by decide +kernel) (by decide +kernel), by decide +kernel⟩
theorem vX10_safeIn : MVt mX10_safeIn := ⟨lw_inG 1573 (by decide +kernel) (by decide +kernel), lw_inG 98 (by decide +kernel) (by decide +kernel)⟩
set_option maxRecDepth 200000 in
theorem okX10_safeOf : MOK mX10_safeOf 2 := ⟨lw_inG 1570 rfl rfl, lw_inG 121 (by decide +kernel) (by decide +kernel), by decide +kernel⟩
theorem vX10_safeOf : MVt mX10_safeOf := ⟨lw_inG 1569 (by decide +kernel) (by decide +kernel), lw_inG 97 (by decide +kernel) (by decide +kernel)⟩
set_option maxRecDepth 200000 in
theorem okX10_common : MOK mX10_common 2 := ⟨lw_inG 1580 rfl rfl, lw_inG 121 (by decide +kernel) (by decide +kernel), by decide +kernel⟩
theorem sX10_common : Cond.static (my mX10_common) ∈ lw_g := lw_inG 1579 (by decide +kernel) (by decide +kernel)
set_option maxRecDepth 200000 in
theorem okX10_leastOf : MOK mX10_leastOf 3 := ⟨lw_inG 1577 rfl rfl, lw_inG 121 (by decide +kernel) (by decide +kernel), by decide +kernel⟩
theorem sX10_leastOf : Cond.static (my mX10_leastOf) ∈ lw_g := lw_inG 1576 (by decide +kernel) (by decide +kernel)
set_option maxRecDepth 200000 in
theorem okX10_safe : MOK mX10_safe 4 := ⟨lw_inG 1565 rfl rfl, lw_inG 121 (by decide +kernel) (by decide +kernel), by decide +kernel⟩
theorem vX10_safe : MVt mX10_safe := ⟨lw_inG 1563 (by decide +kernel) (by decide +kernel), lw_inG 1564 (by decide +kernel) (by decide +kernel)⟩
set_option maxRecDepth 200000 in
theorem okX10_one : MOK mX10_one 1 := ⟨lw_inG 1584 rfl rfl, lw_inG 121 (by decide +kernel) (by decide +kernel), by decide +kernel⟩
theorem vX10_one : MVt mX10_one := ⟨lw_inG 1582 (by decide +kernel) (by decide +kernel), lw_inG 1583 (by decide +kernel) (by decide +kernel)⟩
set_option maxRecDepth 200000 in
theorem okX10_keeps : MOK mX10_keeps 2 := ⟨lw_inG 1588 rfl rfl, lw_inG 121 (by decide +kernel) (by decide +kernel), by decide +kernel⟩
theorem vX10_keeps : MVt mX10_keeps := ⟨lw_inG 1586 (by decide +kernel) (by decide +kernel), lw_inG 1587 (by decide +kernel) (by decide +kernel)⟩
set_option maxRecDepth 200000 in
theorem okX10_sure : MOK mX10_sure 2 := ⟨lw_inG 1592 rfl rfl, lw_inG 121 (by decide +kernel) (by decide +kernel), by decide +kernel⟩
theorem vX10_sure : MVt mX10_sure := ⟨lw_inG 1590 (by decide +kernel) (by decide +kernel), lw_inG 1591 (by decide +kernel) (by decide +kernel)⟩
set_option maxRecDepth 200000 in
theorem okX10_valueFrom : MOK mX10_valueFrom 3 := ⟨lw_inG 1600 rfl rfl, lw_inG 121 (by decide +kernel) (by decide +kernel), by decide +kernel⟩
theorem vX10_valueFrom : MVt mX10_valueFrom := ⟨lw_inG 1599 (by decide +kernel) (by decide +kernel), lw_inG 99 (by decide +kernel) (by decide +kernel)⟩
set_option maxRecDepth 200000 in
theorem okX10_worth : MOK mX10_worth 3 := ⟨lw_inG 1596 rfl rfl, lw_inG 121 (by decide +kernel) (by decide +kernel), by decide +kernel⟩
theorem vX10_worth : MVt mX10_worth := ⟨lw_inG 1594 (by decide +kernel) (by decide +kernel), lw_inG 1595 (by decide +kernel) (by decide +kernel)⟩
set_option maxRecDepth 200000 in
theorem okX10_makeScores : MOK mX10_makeScores 0 := ⟨lw_inG 1608 rfl rfl, lw_inG 121 (by decide +kernel) (by decide +kernel), by decide +kernel⟩
theorem vX10_makeScores : MVt mX10_makeScores := ⟨lw_inG 1607 (by decide +kernel) (by decide +kernel), lw_inG 100 (by decide +kernel) (by decide +kernel)⟩
set_option maxRecDepth 200000 in
theorem okX10_list : MOK mX10_list 0 := ⟨lw_inG 1604 rfl rfl, lw_inG 121 (by decide +kernel) (by decide +kernel), by decide +kernel⟩
theorem vX10_list : MVt mX10_list := ⟨lw_inG 1602 (by decide +kernel) (by decide +kernel), lw_inG 1603 (by decide +kernel) (by decide +kernel)⟩
set_option maxRecDepth 200000 in
theorem okX10_listed : MOK mX10_listed 1 := ⟨lw_inG 1612 rfl rfl, lw_inG 121 (by decide +kernel) (by decide +kernel), by decide +kernel⟩
theorem vX10_listed : MVt mX10_listed := ⟨lw_inG 1610 (by decide +kernel) (by decide +kernel), lw_inG 1611 (by decide +kernel) (by decide +kernel)⟩
set_option maxRecDepth 200000 in
theorem okX10_readList : MOK mX10_readList 1 := ⟨lw_inG 1620 rfl rfl, lw_inG 121 (by decide +kernel) (by decide +kernel), by decide +kernel⟩
theorem vX10_readList : MVt mX10_readList := ⟨lw_inG 1619 (by decide +kernel) (by decide +kernel), lw_inG 101 (by decide +kernel) (by decide +kernel)⟩
set_option maxRecDepth 200000 in
theorem okX10_next : MOK mX10_next 0 := ⟨lw_inG 1616 rfl rfl, lw_inG 121 (by decide +kernel) (by decide +kernel), by decide +kernel⟩
theorem vX10_next : MVt mX10_next := ⟨lw_inG 1614 (by decide +kernel) (by decide +kernel), lw_inG 1615 (by decide +kernel) (by decide +kernel)⟩
set_option maxRecDepth 200000 in
theorem okX10_pairIn : MOK mX10_pairIn 5 := ⟨lw_inG 1628 rfl rfl, lw_inG 121 (by decide +kernel) (by decide +kernel), by decide +kernel⟩
theorem vX10_pairIn : MVt mX10_pairIn := ⟨lw_inG 1627 (by decide +kernel) (by decide +kernel), lw_inG 102 (by decide +kernel) (by decide +kernel)⟩
set_option maxRecDepth 200000 in
theorem okX10_instead : MOK mX10_instead 4 := ⟨lw_inG 1624 rfl rfl, lw_inG 121 (by decide +kernel) (by decide +kernel), by decide +kernel⟩
theorem vX10_instead : MVt mX10_instead := ⟨lw_inG 1622 (by decide +kernel) (by decide +kernel), lw_inG 1623 (by decide +kernel) (by decide +kernel)⟩
set_option maxRecDepth 200000 in
theorem okX10_readSigns : MOK mX10_readSigns 0 := ⟨lw_inG 1636 rfl rfl, lw_inG 121 (by decide +kernel) (by decide +kernel), by decide +kernel⟩
theorem vX10_readSigns : MVt mX10_readSigns := ⟨lw_inG 1635 (by decide +kernel) (by decide +kernel), lw_inG 103 (by decide +kernel) (by decide +kernel)⟩
set_option maxRecDepth 200000 in
theorem okX10_think : MOK mX10_think 2 := ⟨lw_inG 1632 rfl rfl, lw_inG 121 (by decide +kernel) (by decide +kernel), by decide +kernel⟩
theorem vX10_think : MVt mX10_think := ⟨lw_inG 1630 (by decide +kernel) (by decide +kernel), lw_inG 1631 (by decide +kernel) (by decide +kernel)⟩
set_option maxRecDepth 200000 in
theorem okX10_after : MOK mX10_after 1 := ⟨lw_inG 1641 rfl rfl, lw_inG 121 (by decide +kernel) (by decide +kernel), by decide +kernel⟩
theorem vX10_after : MVt mX10_after := ⟨lw_inG 1639 (by decide +kernel) (by decide +kernel), lw_inG 1640 (by decide +kernel) (by decide +kernel)⟩
set_option maxRecDepth 200000 in
theorem okX10_isSledge : MOK mX10_isSledge 4 := ⟨lw_inG 1648 rfl rfl, lw_inG 121 (by decide +kernel) (by decide +kernel), by decide +kernel⟩
theorem sX10_isSledge : Cond.static (my mX10_isSledge) ∈ lw_g := lw_inG 1647 (by decide +kernel) (by decide +kernel)
set_option maxRecDepth 200000 in
theorem okX10_sledgeBy : MOK mX10_sledgeBy 6 := ⟨lw_inG 1652 rfl rfl, lw_inG 121 (by decide +kernel) (by decide +kernel), by decide +kernel⟩
theorem vX10_sledgeBy : MVt mX10_sledgeBy := ⟨lw_inG 1651 (by decide +kernel) (by decide +kernel), lw_inG 104 (by decide +kernel) (by decide +kernel)⟩
set_option maxRecDepth 200000 in
theorem okX10_sledge_ : MOK mX10_sledge_ 6 := ⟨lw_inG 1645 rfl rfl, lw_inG 121 (by decide +kernel) (by decide +kernel), by decide +kernel⟩
theorem vX10_sledge_ : MVt mX10_sledge_ := ⟨lw_inG 1643 (by decide +kernel) (by decide +kernel), lw_inG 1644 (by decide +kernel) (by decide +kernel)⟩
set_option maxRecDepth 200000 in
theorem okX10_when : MOK mX10_when 5 := ⟨lw_inG 1656 rfl rfl, lw_inG 121 (by decide +kernel) (by decide +kernel), by decide +kernel⟩
theorem vX10_when : MVt mX10_when := ⟨lw_inG 1654 (by decide +kernel) (by decide +kernel), lw_inG 1655 (by decide +kernel) (by decide +kernel)⟩
set_option maxRecDepth 200000 in
theorem okX10_makeAnother : MOK mX10_makeAnother 1 := ⟨lw_inG 1664 rfl rfl, lw_inG 121 (by decide +kernel) (by decide +kernel), by decide +kernel⟩
theorem vX10_makeAnother : MVt mX10_makeAnother := ⟨lw_inG 1663 (by decide +kernel) (by decide +kernel), lw_inG 105 (by decide +kernel) (by decide +kernel)⟩
set_option maxRecDepth 200000 in
theorem okX10_secondOf : MOK mX10_secondOf 3 := ⟨lw_inG 1668 rfl rfl, lw_inG 121 (by decide +kernel) (by decide +kernel), by decide +kernel⟩
theorem vX10_secondOf : MVt mX10_secondOf := ⟨lw_inG 1667 (by decide +kernel) (by decide +kernel), lw_inG 106 (by decide +kernel) (by decide +kernel)⟩
set_option maxRecDepth 200000 in
theorem okX10_second : MOK mX10_second 3 := ⟨lw_inG 1660 rfl rfl, lw_inG 121 (by decide +kernel) (by decide +kernel), by decide +kernel⟩
theorem vX10_second : MVt mX10_second := ⟨lw_inG 1658 (by decide +kernel) (by decide +kernel), lw_inG 1659 (by decide +kernel) (by decide +kernel)⟩
set_option maxRecDepth 200000 in
theorem okX10_forTwo : MOK mX10_forTwo 2 := ⟨lw_inG 1672 rfl rfl, lw_inG 121 (by decide +kernel) (by decide +kernel), by decide +kernel⟩
theorem vX10_forTwo : MVt mX10_forTwo := ⟨lw_inG 1670 (by decide +kernel) (by decide +kernel), lw_inG 1671 (by decide +kernel) (by decide +kernel)⟩
set_option maxRecDepth 200000 in
theorem okX10_trust : MOK mX10_trust 1 := ⟨lw_inG 1676 rfl rfl, lw_inG 121 (by decide +kernel) (by decide +kernel), by decide +kernel⟩
theorem vX10_trust : MVt mX10_trust := ⟨lw_inG 1674 (by decide +kernel) (by decide +kernel), lw_inG 1675 (by decide +kernel) (by decide +kernel)⟩
set_option maxRecDepth 200000 in
theorem okX10_draw : MOK mX10_draw 1 := ⟨lw_inG 1684 rfl rfl, lw_inG 121 (by decide +kernel) (by decide +kernel), by decide +kernel⟩
theorem vX10_draw : MVt mX10_draw := ⟨lw_inG 1683 (by decide +kernel) (by decide +kernel), lw_inG 107 (by decide +kernel) (by decide +kernel)⟩
set_option maxRecDepth 200000 in
theorem okX10_begin_ : MOK mX10_begin_ 1 := ⟨lw_inG 1680 rfl rfl, lw_inG 121 (by decide +kernel) (by decide +kernel), by decide +kernel⟩
theorem vX10_begin_ : MVt mX10_begin_ := ⟨lw_inG 1678 (by decide +kernel) (by decide +kernel), lw_inG 1679 (by decide +kernel) (by decide +kernel)⟩
set_option maxRecDepth 200000 in
theorem okX10_goOnce : MOK mX10_goOnce 0 := ⟨lw_inG 1696 rfl rfl, lw_inG 121 (by decide +kernel) (by decide +kernel), by decide +kernel⟩
theorem vX10_goOnce : MVt mX10_goOnce := ⟨lw_inG 1695 (by decide +kernel) (by decide +kernel), lw_inG 108 (by decide +kernel) (by decide +kernel)⟩
set_option maxRecDepth 200000 in
theorem okX10_go : MOK mX10_go 1 := ⟨lw_inG 1692 rfl rfl, lw_inG 121 (by decide +kernel) (by decide +kernel), by decide +kernel⟩
theorem vX10_go : MVt mX10_go := ⟨lw_inG 1690 (by decide +kernel) (by decide +kernel), lw_inG 1691 (by decide +kernel) (by decide +kernel)⟩
set_option maxRecDepth 200000 in
theorem okX10_stock : MOK mX10_stock 2 := ⟨lw_inG 1700 rfl rfl, lw_inG 121 (by decide +kernel) (by decide +kernel), by decide +kernel⟩
theorem vX10_stock : MVt mX10_stock := ⟨lw_inG 1698 (by decide +kernel) (by decide +kernel), lw_inG 1699 (by decide +kernel) (by decide +kernel)⟩
set_option maxRecDepth 200000 in
theorem okX10_judged : MOK mX10_judged 0 := ⟨lw_inG 1709 rfl rfl, lw_inG 121 (by decide +kernel) (by decide +kernel), by decide +kernel⟩
theorem vX10_judged : MVt mX10_judged := ⟨lw_inG 1708 (by decide +kernel) (by decide +kernel), lw_inG 109 (by decide +kernel) (by decide +kernel)⟩
set_option maxRecDepth 200000 in
theorem okX10_ran : MOK mX10_ran 1 := ⟨lw_inG 1704 rfl rfl, lw_inG 121 (by decide +kernel) (by decide +kernel), by decide +kernel⟩
theorem vX10_ran : MVt mX10_ran := ⟨lw_inG 1702 (by decide +kernel) (by decide +kernel), lw_inG 1703 (by decide +kernel) (by decide +kernel)⟩
set_option maxRecDepth 200000 in
theorem okX10_isSlot : MOK mX10_isSlot 1 := ⟨lw_inG 1716 rfl rfl, lw_inG 121 (by decide +kernel) (by decide +kernel), by decide +kernel⟩
theorem sX10_isSlot : Cond.static (my mX10_isSlot) ∈ lw_g := lw_inG 1715 (by decide +kernel) (by decide +kernel)
set_option maxRecDepth 200000 in
theorem okX10_keep : MOK mX10_keep 1 := ⟨lw_inG 1713 rfl rfl, lw_inG 121 (by decide +kernel) (by decide +kernel), by decide +kernel⟩
theorem vX10_keep : MVt mX10_keep := ⟨lw_inG 1711 (by decide +kernel) (by decide +kernel), lw_inG 1712 (by decide +kernel) (by decide +kernel)⟩
set_option maxRecDepth 200000 in
theorem okX10_take : MOK mX10_take 1 := ⟨lw_inG 1720 rfl rfl, lw_inG 121 (by decide +kernel) (by decide +kernel), by decide +kernel⟩
theorem vX10_take : MVt mX10_take := ⟨lw_inG 1718 (by decide +kernel) (by decide +kernel), lw_inG 1719 (by decide +kernel) (by decide +kernel)⟩
set_option maxRecDepth 200000 in
theorem okX10_count : MOK mX10_count 1 := ⟨lw_inG 1724 rfl rfl, lw_inG 121 (by decide +kernel) (by decide +kernel), by decide +kernel⟩
theorem vX10_count : MVt mX10_count := ⟨lw_inG 1722 (by decide +kernel) (by decide +kernel), lw_inG 1723 (by decide +kernel) (by decide +kernel)⟩
set_option maxRecDepth 200000 in
theorem okJ9_min_7cf53 : MOK mJ9_min_7cf53 2 := ⟨lw_inG 899 rfl rfl, lw_inG 126 (by decide +kernel) (by decide +kernel), by decide +kernel⟩
theorem sJ9_min_7cf53 : Cond.static (my mJ9_min_7cf53) ∈ lw_g := lw_inG 898 (by decide +kernel) (by decide +kernel)
set_option maxRecDepth 200000 in
theorem okJ0_length_8abf5 : MOK mJ0_length_8abf5 0 := ⟨lw_inG 667 rfl rfl, lw_inG 122 (by decide +kernel) (by decide +kernel), by decide +kernel⟩
theorem vJ0_length_8abf5 : MVt mJ0_length_8abf5 := ⟨lw_inG 665 (by decide +kernel) (by decide +kernel), lw_inG 666 (by decide +kernel) (by decide +kernel)⟩
set_option maxRecDepth 200000 in
theorem okJ0_charAt_5068e : MOK mJ0_charAt_5068e 1 := ⟨lw_inG 677 rfl rfl, lw_inG 122 (by decide +kernel) (by decide +kernel), by decide +kernel⟩
theorem vJ0_charAt_5068e : MVt mJ0_charAt_5068e := ⟨lw_inG 675 (by decide +kernel) (by decide +kernel), lw_inG 676 (by decide +kernel) (by decide +kernel)⟩
set_option maxRecDepth 200000 in
theorem okJ0_coder_7d493 : MOK mJ0_coder_7d493 0 := ⟨lw_inG 671 rfl rfl, lw_inG 122 (by decide +kernel) (by decide +kernel), by decide +kernel⟩
theorem vJ0_coder_7d493 : MVt mJ0_coder_7d493 := ⟨lw_inG 669 (by decide +kernel) (by decide +kernel), lw_inG 670 (by decide +kernel) (by decide +kernel)⟩
set_option maxRecDepth 200000 in
theorem okJ0_isLatin1_aae02 : MOK mJ0_isLatin1_aae02 0 := ⟨lw_inG 681 rfl rfl, lw_inG 122 (by decide +kernel) (by decide +kernel), by decide +kernel⟩
theorem vJ0_isLatin1_aae02 : MVt mJ0_isLatin1_aae02 := ⟨lw_inG 679 (by decide +kernel) (by decide +kernel), lw_inG 680 (by decide +kernel) (by decide +kernel)⟩
set_option maxRecDepth 200000 in
theorem okJ0_checkIndex_df160 : MOK mJ0_checkIndex_df160 2 := ⟨lw_inG 687 rfl rfl, lw_inG 122 (by decide +kernel) (by decide +kernel), by decide +kernel⟩
theorem sJ0_checkIndex_df160 : Cond.static (my mJ0_checkIndex_df160) ∈ lw_g := lw_inG 686 (by decide +kernel) (by decide +kernel)
set_option maxRecDepth 200000 in
theorem okJ1_charAt_3b067 : MOK mJ1_charAt_3b067 2 := ⟨lw_inG 684 rfl rfl, lw_inG 123 (by decide +kernel) (by decide +kernel), by decide +kernel⟩
theorem sJ1_charAt_3b067 : Cond.static (my mJ1_charAt_3b067) ∈ lw_g := lw_inG 683 (by decide +kernel) (by decide +kernel)
set_option maxRecDepth 200000 in
theorem okJ2_getChar_3b067 : MOK mJ2_getChar_3b067 2 := ⟨lw_inG 705 rfl rfl, lw_inG 125 (by decide +kernel) (by decide +kernel), by decide +kernel⟩
theorem sJ2_getChar_3b067 : Cond.static (my mJ2_getChar_3b067) ∈ lw_g := lw_inG 704 (by decide +kernel) (by decide +kernel)
set_option maxRecDepth 200000 in
theorem okJ2_length_9d52b : MOK mJ2_length_9d52b 1 := ⟨lw_inG 701 rfl rfl, lw_inG 125 (by decide +kernel) (by decide +kernel), by decide +kernel⟩
theorem sJ2_length_9d52b : Cond.static (my mJ2_length_9d52b) ∈ lw_g := lw_inG 700 (by decide +kernel) (by decide +kernel)
set_option maxRecDepth 200000 in
theorem okJ2_charAt_3b067 : MOK mJ2_charAt_3b067 2 := ⟨lw_inG 695 rfl rfl, lw_inG 125 (by decide +kernel) (by decide +kernel), by decide +kernel⟩
theorem sJ2_charAt_3b067 : Cond.static (my mJ2_charAt_3b067) ∈ lw_g := lw_inG 694 (by decide +kernel) (by decide +kernel)
set_option maxRecDepth 200000 in
theorem okJ2_checkIndex_2214a : MOK mJ2_checkIndex_2214a 2 := ⟨lw_inG 698 rfl rfl, lw_inG 125 (by decide +kernel) (by decide +kernel), by decide +kernel⟩
theorem sJ2_checkIndex_2214a : Cond.static (my mJ2_checkIndex_2214a) ∈ lw_g := lw_inG 697 (by decide +kernel) (by decide +kernel)
set_option maxRecDepth 200000 in
theorem okJ3_checkIndex_8e157 : MOK mJ3_checkIndex_8e157 3 := ⟨lw_inG 692 rfl rfl, lw_inG 124 (by decide +kernel) (by decide +kernel), by decide +kernel⟩
theorem sJ3_checkIndex_8e157 : Cond.static (my mJ3_checkIndex_8e157) ∈ lw_g := lw_inG 691 (by decide +kernel) (by decide +kernel)
theorem kX4_63 : Cond.constantLong RX4 63 (10) ∈ lw_g := lw_inG 645 (by decide +kernel) (by decide +kernel)
theorem kX9_182 : Cond.constantLong RX9 182 (-9000000000000000000) ∈ lw_g := lw_inG 864 (by decide +kernel) (by decide +kernel)
theorem kX2_80 : Cond.constantLong RX2 80 (10) ∈ lw_g := lw_inG 915 (by decide +kernel) (by decide +kernel)
theorem kX9_333 : Cond.constantLong RX9 333 (10) ∈ lw_g := lw_inG 939 (by decide +kernel) (by decide +kernel)
theorem kX9_199 : Cond.constantLong RX9 199 (-2) ∈ lw_g := lw_inG 944 (by decide +kernel) (by decide +kernel)
theorem kX3_74 : Cond.constantLong RX3 74 (100) ∈ lw_g := lw_inG 1057 (by decide +kernel) (by decide +kernel)
theorem kX9_275 : Cond.constantLong RX9 275 (-1) ∈ lw_g := lw_inG 1071 (by decide +kernel) (by decide +kernel)
theorem kX6_45 : Cond.constantLong RX6 45 (1103515245) ∈ lw_g := lw_inG 1144 (by decide +kernel) (by decide +kernel)
theorem kX6_47 : Cond.constantLong RX6 47 (12345) ∈ lw_g := lw_inG 1145 (by decide +kernel) (by decide +kernel)
theorem kX6_49 : Cond.constantLong RX6 49 (2147483648) ∈ lw_g := lw_inG 1146 (by decide +kernel) (by decide +kernel)
theorem kX6_51 : Cond.constantLong RX6 51 (65536) ∈ lw_g := lw_inG 1147 (by decide +kernel) (by decide +kernel)
theorem kX6_53 : Cond.constantLong RX6 53 (10) ∈ lw_g := lw_inG 1148 (by decide +kernel) (by decide +kernel)
theorem kX10_152 : Cond.constantLong RX10 152 (32) ∈ lw_g := lw_inG 1395 (by decide +kernel) (by decide +kernel)
theorem kX10_154 : Cond.constantLong RX10 154 (97) ∈ lw_g := lw_inG 1396 (by decide +kernel) (by decide +kernel)
theorem kX10_309 : Cond.constantLong RX10 309 (-9000000000000000000) ∈ lw_g := lw_inG 1513 (by decide +kernel) (by decide +kernel)
theorem kX10_281 : Cond.constantLong RX10 281 (10) ∈ lw_g := lw_inG 1526 (by decide +kernel) (by decide +kernel)
theorem kX10_332 : Cond.constantLong RX10 332 (-2) ∈ lw_g := lw_inG 1566 (by decide +kernel) (by decide +kernel)
theorem kX10_358 : Cond.constantLong RX10 358 (-1) ∈ lw_g := lw_inG 1637 (by decide +kernel) (by decide +kernel)
theorem kX10_374 : Cond.constantLong RX10 374 (1103515245) ∈ lw_g := lw_inG 1685 (by decide +kernel) (by decide +kernel)
theorem kX10_376 : Cond.constantLong RX10 376 (12345) ∈ lw_g := lw_inG 1686 (by decide +kernel) (by decide +kernel)
theorem kX10_378 : Cond.constantLong RX10 378 (2147483648) ∈ lw_g := lw_inG 1687 (by decide +kernel) (by decide +kernel)
theorem kX10_380 : Cond.constantLong RX10 380 (65536) ∈ lw_g := lw_inG 1688 (by decide +kernel) (by decide +kernel)
theorem kX9_322 : Cond.constant RX9 322 (-1000000) ∈ lw_g := lw_inG 1175 (by decide +kernel) (by decide +kernel)
theorem kX10_388 : Cond.constant RX10 388 (-1000000) ∈ lw_g := lw_inG 1705 (by decide +kernel) (by decide +kernel)
theorem lX9_248 : Cond.methodLink RX9 248 arraycopyName ∈ lw_g := lw_inG 991 (by decide +kernel) (by decide +kernel)
theorem lX2_74 : Cond.methodLink RX2 74 arraycopyName ∈ lw_g := lw_inG 912 (by decide +kernel) (by decide +kernel)
theorem lX3_68 : Cond.methodLink RX3 68 arraycopyName ∈ lw_g := lw_inG 1056 (by decide +kernel) (by decide +kernel)
theorem lmX3_118 : Cond.methodLink RX3 118 Lib.Math.min.name ∈ lw_g := lw_inG 1054 (by decide +kernel) (by decide +kernel)
theorem lX6_127 : Cond.methodLink RX6 127 arraycopyName ∈ lw_g := lw_inG 1188 (by decide +kernel) (by decide +kernel)
theorem lmX8_9 : Cond.methodLink RX8 9 Lib.Math.min.name ∈ lw_g := lw_inG 897 (by decide +kernel) (by decide +kernel)
theorem w_min_s : Cond.static Lib.Math.min.name ∈ lw_g := lw_inG 898 (by decide +kernel) (by decide +kernel)
theorem w_min_i : Cond.initialized "java/lang/Math" ∈ lw_g := lw_inG 126 (by decide +kernel) (by decide +kernel)
theorem w_min_c : Cond.code Lib.Math.min.name Lib.Math.min.code 2 (some .int) ∈ lw_g := lw_inG 899 (by decide +kernel) (by decide +kernel)
theorem w_cp_n : Cond.native arraycopyName ∈ lw_g := lw_inG 914 (by decide +kernel) (by decide +kernel)
theorem w_cp_s : Cond.static arraycopyName ∈ lw_g := lw_inG 913 (by decide +kernel) (by decide +kernel)
theorem w_cp_i : Cond.initialized "java/lang/System" ∈ lw_g := lw_inG 127 (by decide +kernel) (by decide +kernel)
