theorem fl_X9_10 : Cond.fieldLink RX9 10 (TX9 0).1 (TX9 0).2.1 (TX9 0).2.2.1 ∈ wsL_law := (tw1 (i := 15) rfl)
theorem fl_X9_16 : Cond.fieldLink RX9 16 (TX9 1).1 (TX9 1).2.1 (TX9 1).2.2.1 ∈ wsL_law := (tw1 (i := 16) rfl)
theorem fl_X9_23 : Cond.fieldLink RX9 23 (TX9 2).1 (TX9 2).2.1 (TX9 2).2.2.1 ∈ wsL_law := (tw1 (i := 20) rfl)
theorem fl_X9_30 : Cond.fieldLink RX9 30 (TX9 3).1 (TX9 3).2.1 (TX9 3).2.2.1 ∈ wsL_law := (tw2 (i := 0) rfl)
theorem fl_X9_37 : Cond.fieldLink RX9 37 (TX9 4).1 (TX9 4).2.1 (TX9 4).2.2.1 ∈ wsL_law := (tw2 (i := 4) rfl)
theorem fl_X9_41 : Cond.fieldLink RX9 41 (TX9 5).1 (TX9 5).2.1 (TX9 5).2.2.1 ∈ wsL_law := (tw2 (i := 6) rfl)
theorem fl_X9_45 : Cond.fieldLink RX9 45 (TX9 6).1 (TX9 6).2.1 (TX9 6).2.2.1 ∈ wsL_law := (tw2 (i := 7) rfl)
theorem fl_X9_48 : Cond.fieldLink RX9 48 (TX9 7).1 (TX9 7).2.1 (TX9 7).2.2.1 ∈ wsL_law := (tw2 (i := 8) rfl)
theorem fl_X9_52 : Cond.fieldLink RX9 52 (TX9 8).1 (TX9 8).2.1 (TX9 8).2.2.1 ∈ wsL_law := (tw2 (i := 9) rfl)
theorem fl_X9_55 : Cond.fieldLink RX9 55 (TX9 9).1 (TX9 9).2.1 (TX9 9).2.2.1 ∈ wsL_law := (tw2 (i := 10) rfl)
theorem fl_X9_58 : Cond.fieldLink RX9 58 (TX9 10).1 (TX9 10).2.1 (TX9 10).2.2.1 ∈ wsL_law := (tw2 (i := 11) rfl)
theorem fl_X9_61 : Cond.fieldLink RX9 61 (TX9 11).1 (TX9 11).2.1 (TX9 11).2.2.1 ∈ wsL_law := (tw2 (i := 12) rfl)
theorem fl_X9_65 : Cond.fieldLink RX9 65 (TX9 12).1 (TX9 12).2.1 (TX9 12).2.2.1 ∈ wsL_law := (tw2 (i := 13) rfl)
theorem fl_X9_68 : Cond.fieldLink RX9 68 (TX9 13).1 (TX9 13).2.1 (TX9 13).2.2.1 ∈ wsL_law := (tw2 (i := 14) rfl)
theorem fl_X3_12 : Cond.fieldLink RX3 12 (TX3 0).1 (TX3 0).2.1 (TX3 0).2.2.1 ∈ wsL_law := (tw2 (i := 21) rfl)
theorem fl_X3_21 : Cond.fieldLink RX3 21 (TX3 1).1 (TX3 1).2.1 (TX3 1).2.2.1 ∈ wsL_law := (tw3 (i := 1) rfl)
theorem fl_X3_28 : Cond.fieldLink RX3 28 (TX3 2).1 (TX3 2).2.1 (TX3 2).2.2.1 ∈ wsL_law := (tw3 (i := 5) rfl)
theorem fl_X3_32 : Cond.fieldLink RX3 32 (TX3 3).1 (TX3 3).2.1 (TX3 3).2.2.1 ∈ wsL_law := (tw3 (i := 6) rfl)
theorem fl_X3_36 : Cond.fieldLink RX3 36 (TX3 4).1 (TX3 4).2.1 (TX3 4).2.2.1 ∈ wsL_law := (tw3 (i := 7) rfl)
theorem fl_X3_39 : Cond.fieldLink RX3 39 (TX3 5).1 (TX3 5).2.1 (TX3 5).2.2.1 ∈ wsL_law := (tw3 (i := 8) rfl)
theorem fl_X3_42 : Cond.fieldLink RX3 42 (TX3 6).1 (TX3 6).2.1 (TX3 6).2.2.1 ∈ wsL_law := (tw3 (i := 9) rfl)
theorem fl_X3_47 : Cond.fieldLink RX3 47 (TX3 7).1 (TX3 7).2.1 (TX3 7).2.2.1 ∈ wsL_law := (tw3 (i := 11) rfl)
theorem fl_X3_51 : Cond.fieldLink RX3 51 (TX3 8).1 (TX3 8).2.1 (TX3 8).2.2.1 ∈ wsL_law := (tw3 (i := 12) rfl)
theorem fl_X3_55 : Cond.fieldLink RX3 55 (TX3 9).1 (TX3 9).2.1 (TX3 9).2.2.1 ∈ wsL_law := (tw3 (i := 13) rfl)
theorem fl_X3_58 : Cond.fieldLink RX3 58 (TX3 10).1 (TX3 10).2.1 (TX3 10).2.2.1 ∈ wsL_law := (tw3 (i := 14) rfl)
theorem fl_X3_61 : Cond.fieldLink RX3 61 (TX3 11).1 (TX3 11).2.1 (TX3 11).2.2.1 ∈ wsL_law := (tw3 (i := 15) rfl)
theorem fl_X0_9 : Cond.fieldLink RX0 9 (TX0 0).1 (TX0 0).2.1 (TX0 0).2.2.1 ∈ wsL_law := (tw3 (i := 19) rfl)
theorem fl_X0_15 : Cond.fieldLink RX0 15 (TX0 1).1 (TX0 1).2.1 (TX0 1).2.2.1 ∈ wsL_law := (tw3 (i := 20) rfl)
theorem fl_X0_18 : Cond.fieldLink RX0 18 (TX0 2).1 (TX0 2).2.1 (TX0 2).2.2.1 ∈ wsL_law := (tw3 (i := 21) rfl)
theorem fl_X0_21 : Cond.fieldLink RX0 21 (TX0 3).1 (TX0 3).2.1 (TX0 3).2.2.1 ∈ wsL_law := (tw3 (i := 22) rfl)
theorem fl_X5_9 : Cond.fieldLink RX5 9 (TX5 0).1 (TX5 0).2.1 (TX5 0).2.2.1 ∈ wsL_law := (tw4 (i := 2) rfl)
theorem fl_X5_15 : Cond.fieldLink RX5 15 (TX5 1).1 (TX5 1).2.1 (TX5 1).2.2.1 ∈ wsL_law := (tw4 (i := 3) rfl)
theorem fl_X5_18 : Cond.fieldLink RX5 18 (TX5 2).1 (TX5 2).2.1 (TX5 2).2.2.1 ∈ wsL_law := (tw4 (i := 4) rfl)
theorem fl_X5_21 : Cond.fieldLink RX5 21 (TX5 3).1 (TX5 3).2.1 (TX5 3).2.2.1 ∈ wsL_law := (tw4 (i := 5) rfl)
theorem fl_X5_24 : Cond.fieldLink RX5 24 (TX5 4).1 (TX5 4).2.1 (TX5 4).2.2.1 ∈ wsL_law := (tw4 (i := 6) rfl)
theorem fl_X8_9 : Cond.fieldLink RX8 9 (TX8 0).1 (TX8 0).2.1 (TX8 0).2.2.1 ∈ wsL_law := (tw4 (i := 10) rfl)
theorem fl_X8_15 : Cond.fieldLink RX8 15 (TX8 1).1 (TX8 1).2.1 (TX8 1).2.2.1 ∈ wsL_law := (tw4 (i := 11) rfl)
theorem fl_X8_18 : Cond.fieldLink RX8 18 (TX8 2).1 (TX8 2).2.1 (TX8 2).2.2.1 ∈ wsL_law := (tw4 (i := 12) rfl)
theorem fl_X8_21 : Cond.fieldLink RX8 21 (TX8 3).1 (TX8 3).2.1 (TX8 3).2.2.1 ∈ wsL_law := (tw4 (i := 13) rfl)
theorem fl_X8_24 : Cond.fieldLink RX8 24 (TX8 4).1 (TX8 4).2.1 (TX8 4).2.2.1 ∈ wsL_law := (tw4 (i := 14) rfl)
theorem fl_X7_9 : Cond.fieldLink RX7 9 (TX7 0).1 (TX7 0).2.1 (TX7 0).2.2.1 ∈ wsL_law := (tw4 (i := 18) rfl)
theorem fl_X7_15 : Cond.fieldLink RX7 15 (TX7 1).1 (TX7 1).2.1 (TX7 1).2.2.1 ∈ wsL_law := (tw4 (i := 19) rfl)
theorem fl_X7_18 : Cond.fieldLink RX7 18 (TX7 2).1 (TX7 2).2.1 (TX7 2).2.2.1 ∈ wsL_law := (tw4 (i := 20) rfl)
theorem fl_X7_21 : Cond.fieldLink RX7 21 (TX7 3).1 (TX7 3).2.1 (TX7 3).2.2.1 ∈ wsL_law := (tw4 (i := 22) rfl)
theorem fl_X7_25 : Cond.fieldLink RX7 25 (TX7 4).1 (TX7 4).2.1 (TX7 4).2.2.1 ∈ wsL_law := (tw4 (i := 23) rfl)
theorem fl_X7_28 : Cond.fieldLink RX7 28 (TX7 5).1 (TX7 5).2.1 (TX7 5).2.2.1 ∈ wsL_law := (tw5 (i := 0) rfl)
theorem fl_X6_12 : Cond.fieldLink RX6 12 (TX6 0).1 (TX6 0).2.1 (TX6 0).2.2.1 ∈ wsL_law := (tw5 (i := 5) rfl)
theorem fl_X6_18 : Cond.fieldLink RX6 18 (TX6 1).1 (TX6 1).2.1 (TX6 1).2.2.1 ∈ wsL_law := (tw5 (i := 6) rfl)
theorem fl_X6_22 : Cond.fieldLink RX6 22 (TX6 2).1 (TX6 2).2.1 (TX6 2).2.2.1 ∈ wsL_law := (tw5 (i := 7) rfl)
theorem fl_X6_26 : Cond.fieldLink RX6 26 (TX6 3).1 (TX6 3).2.1 (TX6 3).2.2.1 ∈ wsL_law := (tw5 (i := 8) rfl)
theorem fl_X6_30 : Cond.fieldLink RX6 30 (TX6 4).1 (TX6 4).2.1 (TX6 4).2.2.1 ∈ wsL_law := (tw5 (i := 9) rfl)
theorem fl_X6_33 : Cond.fieldLink RX6 33 (TX6 5).1 (TX6 5).2.1 (TX6 5).2.2.1 ∈ wsL_law := (tw5 (i := 10) rfl)
theorem fl_X6_36 : Cond.fieldLink RX6 36 (TX6 6).1 (TX6 6).2.1 (TX6 6).2.2.1 ∈ wsL_law := (tw5 (i := 11) rfl)
theorem fl_X6_39 : Cond.fieldLink RX6 39 (TX6 7).1 (TX6 7).2.1 (TX6 7).2.2.1 ∈ wsL_law := (tw5 (i := 12) rfl)
theorem fl_X6_42 : Cond.fieldLink RX6 42 (TX6 8).1 (TX6 8).2.1 (TX6 8).2.2.1 ∈ wsL_law := (tw5 (i := 13) rfl)
theorem fl_X6_45 : Cond.fieldLink RX6 45 (TX6 9).1 (TX6 9).2.1 (TX6 9).2.2.1 ∈ wsL_law := (tw5 (i := 14) rfl)
theorem fl_X6_48 : Cond.fieldLink RX6 48 (TX6 10).1 (TX6 10).2.1 (TX6 10).2.2.1 ∈ wsL_law := (tw5 (i := 15) rfl)
theorem fl_X2_9 : Cond.fieldLink RX2 9 (TX2 0).1 (TX2 0).2.1 (TX2 0).2.2.1 ∈ wsL_law := (tw5 (i := 19) rfl)
theorem fl_X2_15 : Cond.fieldLink RX2 15 (TX2 1).1 (TX2 1).2.1 (TX2 1).2.2.1 ∈ wsL_law := (tw5 (i := 20) rfl)
theorem fl_X2_19 : Cond.fieldLink RX2 19 (TX2 2).1 (TX2 2).2.1 (TX2 2).2.2.1 ∈ wsL_law := (tw5 (i := 21) rfl)
theorem fl_X2_25 : Cond.fieldLink RX2 25 (TX2 3).1 (TX2 3).2.1 (TX2 3).2.2.1 ∈ wsL_law := (tw6 (i := 1) rfl)
theorem fl_X2_29 : Cond.fieldLink RX2 29 (TX2 4).1 (TX2 4).2.1 (TX2 4).2.2.1 ∈ wsL_law := (tw6 (i := 2) rfl)
theorem fl_X2_32 : Cond.fieldLink RX2 32 (TX2 5).1 (TX2 5).2.1 (TX2 5).2.2.1 ∈ wsL_law := (tw6 (i := 3) rfl)
theorem fl_X2_35 : Cond.fieldLink RX2 35 (TX2 6).1 (TX2 6).2.1 (TX2 6).2.2.1 ∈ wsL_law := (tw6 (i := 4) rfl)
theorem fl_X2_38 : Cond.fieldLink RX2 38 (TX2 7).1 (TX2 7).2.1 (TX2 7).2.2.1 ∈ wsL_law := (tw6 (i := 5) rfl)
theorem fl_X4_9 : Cond.fieldLink RX4 9 (TX4 0).1 (TX4 0).2.1 (TX4 0).2.2.1 ∈ wsL_law := (tw6 (i := 9) rfl)
theorem fl_X4_15 : Cond.fieldLink RX4 15 (TX4 1).1 (TX4 1).2.1 (TX4 1).2.2.1 ∈ wsL_law := (tw6 (i := 10) rfl)
theorem fl_X4_18 : Cond.fieldLink RX4 18 (TX4 2).1 (TX4 2).2.1 (TX4 2).2.2.1 ∈ wsL_law := (tw6 (i := 11) rfl)
theorem fl_X4_22 : Cond.fieldLink RX4 22 (TX4 3).1 (TX4 3).2.1 (TX4 3).2.2.1 ∈ wsL_law := (tw6 (i := 12) rfl)
theorem fl_X4_25 : Cond.fieldLink RX4 25 (TX4 4).1 (TX4 4).2.1 (TX4 4).2.2.1 ∈ wsL_law := (tw6 (i := 13) rfl)
theorem fl_X10_7 : Cond.fieldLink RX10 7 (TX10 2).1 (TX10 2).2.1 (TX10 2).2.2.1 ∈ wsL_law := (tw6 (i := 18) rfl)
theorem fl_X10_13 : Cond.fieldLink RX10 13 (TX10 3).1 (TX10 3).2.1 (TX10 3).2.2.1 ∈ wsL_law := (tw6 (i := 19) rfl)
theorem fl_X10_16 : Cond.fieldLink RX10 16 (TX10 4).1 (TX10 4).2.1 (TX10 4).2.2.1 ∈ wsL_law := (tw6 (i := 20) rfl)
theorem fl_X10_19 : Cond.fieldLink RX10 19 (TX10 5).1 (TX10 5).2.1 (TX10 5).2.2.1 ∈ wsL_law := (tw6 (i := 22) rfl)
theorem fl_X10_23 : Cond.fieldLink RX10 23 (TX10 7).1 (TX10 7).2.1 (TX10 7).2.2.1 ∈ wsL_law := (tw6 (i := 23) rfl)
theorem fl_X10_26 : Cond.fieldLink RX10 26 (TX10 13).1 (TX10 13).2.1 (TX10 13).2.2.1 ∈ wsL_law := (tw7 (i := 0) rfl)
theorem fl_X10_30 : Cond.fieldLink RX10 30 (TX10 16).1 (TX10 16).2.1 (TX10 16).2.2.1 ∈ wsL_law := (tw7 (i := 1) rfl)
theorem fl_X10_33 : Cond.fieldLink RX10 33 (TX10 18).1 (TX10 18).2.1 (TX10 18).2.2.1 ∈ wsL_law := (tw7 (i := 2) rfl)
theorem fl_X10_36 : Cond.fieldLink RX10 36 (TX10 19).1 (TX10 19).2.1 (TX10 19).2.2.1 ∈ wsL_law := (tw7 (i := 3) rfl)
theorem fl_X10_39 : Cond.fieldLink RX10 39 (TX10 21).1 (TX10 21).2.1 (TX10 21).2.2.1 ∈ wsL_law := (tw7 (i := 4) rfl)
theorem fl_X10_42 : Cond.fieldLink RX10 42 (TX10 22).1 (TX10 22).2.1 (TX10 22).2.2.1 ∈ wsL_law := (tw7 (i := 5) rfl)
theorem fl_X10_63 : Cond.fieldLink RX10 63 (TX10 25).1 (TX10 25).2.1 (TX10 25).2.2.1 ∈ wsL_law := (tw7 (i := 15) rfl)
theorem fl_X10_67 : Cond.fieldLink RX10 67 (TX10 27).1 (TX10 27).2.1 (TX10 27).2.2.1 ∈ wsL_law := (tw7 (i := 16) rfl)
theorem fl_X10_70 : Cond.fieldLink RX10 70 (TX10 28).1 (TX10 28).2.1 (TX10 28).2.2.1 ∈ wsL_law := (tw7 (i := 17) rfl)
theorem fl_X10_73 : Cond.fieldLink RX10 73 (TX10 32).1 (TX10 32).2.1 (TX10 32).2.2.1 ∈ wsL_law := (tw7 (i := 18) rfl)
theorem fl_X10_76 : Cond.fieldLink RX10 76 (TX10 33).1 (TX10 33).2.1 (TX10 33).2.2.1 ∈ wsL_law := (tw7 (i := 19) rfl)
theorem fl_X10_79 : Cond.fieldLink RX10 79 (TX10 34).1 (TX10 34).2.1 (TX10 34).2.2.1 ∈ wsL_law := (tw7 (i := 20) rfl)
theorem fl_X10_82 : Cond.fieldLink RX10 82 (TX10 35).1 (TX10 35).2.1 (TX10 35).2.2.1 ∈ wsL_law := (tw7 (i := 21) rfl)
theorem fl_X10_85 : Cond.fieldLink RX10 85 (TX10 36).1 (TX10 36).2.1 (TX10 36).2.2.1 ∈ wsL_law := (tw7 (i := 22) rfl)
theorem fl_X10_88 : Cond.fieldLink RX10 88 (TX10 43).1 (TX10 43).2.1 (TX10 43).2.2.1 ∈ wsL_law := (tw7 (i := 23) rfl)
theorem fl_X10_91 : Cond.fieldLink RX10 91 (TX10 44).1 (TX10 44).2.1 (TX10 44).2.2.1 ∈ wsL_law := (tw8 (i := 0) rfl)
theorem fl_X10_94 : Cond.fieldLink RX10 94 (TX10 45).1 (TX10 45).2.1 (TX10 45).2.2.1 ∈ wsL_law := (tw8 (i := 1) rfl)
theorem fl_X10_97 : Cond.fieldLink RX10 97 (TX10 46).1 (TX10 46).2.1 (TX10 46).2.2.1 ∈ wsL_law := (tw8 (i := 2) rfl)
theorem fl_X10_100 : Cond.fieldLink RX10 100 (TX10 47).1 (TX10 47).2.1 (TX10 47).2.2.1 ∈ wsL_law := (tw8 (i := 3) rfl)
theorem fl_X9_79 : Cond.fieldLink RX9 79 (TX3 0).1 (TX3 0).2.1 (TX3 0).2.2.1 ∈ wsL_law := (tw8 (i := 8) rfl)
theorem fl_X9_89 : Cond.fieldLink RX9 89 (TX3 1).1 (TX3 1).2.1 (TX3 1).2.2.1 ∈ wsL_law := (tw8 (i := 9) rfl)
theorem fl_X3_107 : Cond.fieldLink RX3 107 (TX5 4).1 (TX5 4).2.1 (TX5 4).2.2.1 ∈ wsL_law := (tw8 (i := 14) rfl)
theorem fl_X3_84 : Cond.fieldLink RX3 84 (TX0 0).1 (TX0 0).2.1 (TX0 0).2.2.1 ∈ wsL_law := (tw8 (i := 23) rfl)
theorem fl_X10_103 : Cond.fieldLink RX10 103 (TX10 0).1 (TX10 0).2.1 (TX10 0).2.2.1 ∈ wsL_law := (tw10 (i := 20) rfl)
theorem fl_X10_106 : Cond.fieldLink RX10 106 (TX10 1).1 (TX10 1).2.1 (TX10 1).2.2.1 ∈ wsL_law := (tw11 (i := 10) rfl)
theorem fl_X5_38 : Cond.fieldLink RX5 38 (TX0 0).1 (TX0 0).2.1 (TX0 0).2.2.1 ∈ wsL_law := (tw13 (i := 11) rfl)
theorem fl_X9_134 : Cond.fieldLink RX9 134 (TX3 3).1 (TX3 3).2.1 (TX3 3).2.2.1 ∈ wsL_law := (tw16 (i := 3) rfl)
theorem fl_X9_137 : Cond.fieldLink RX9 137 (TX3 4).1 (TX3 4).2.1 (TX3 4).2.2.1 ∈ wsL_law := (tw16 (i := 4) rfl)
theorem fl_X10_183 : Cond.fieldLink RX10 183 (TX10 8).1 (TX10 8).2.1 (TX10 8).2.2.1 ∈ wsL_law := (tw17 (i := 23) rfl)
theorem fl_X10_186 : Cond.fieldLink RX10 186 (TX10 6).1 (TX10 6).2.1 (TX10 6).2.2.1 ∈ wsL_law := (tw19 (i := 3) rfl)
theorem fl_X9_164 : Cond.fieldLink RX9 164 (TX3 8).1 (TX3 8).2.1 (TX3 8).2.2.1 ∈ wsL_law := (tw19 (i := 20) rfl)
theorem fl_X9_171 : Cond.fieldLink RX9 171 (TX2 7).1 (TX2 7).2.1 (TX2 7).2.2.1 ∈ wsL_law := (tw19 (i := 21) rfl)
theorem fl_X2_45 : Cond.fieldLink RX2 45 (TX4 0).1 (TX4 0).2.1 (TX4 0).2.2.1 ∈ wsL_law := (tw20 (i := 2) rfl)
theorem fl_X2_110 : Cond.fieldLink RX2 110 (TX4 1).1 (TX4 1).2.1 (TX4 1).2.2.1 ∈ wsL_law := (tw24 (i := 3) rfl)
theorem fl_X2_113 : Cond.fieldLink RX2 113 (TX4 2).1 (TX4 2).2.1 (TX4 2).2.2.1 ∈ wsL_law := (tw24 (i := 12) rfl)
theorem fl_X1_9 : Cond.fieldLink RX1 9 (TX1 0).1 (TX1 0).2.1 (TX1 0).2.2.1 ∈ wsL_law := (tw27 (i := 1) rfl)
theorem fl_X1_15 : Cond.fieldLink RX1 15 (TX1 1).1 (TX1 1).2.1 (TX1 1).2.2.1 ∈ wsL_law := (tw27 (i := 2) rfl)
theorem fl_X10_317 : Cond.fieldLink RX10 317 (TX10 15).1 (TX10 15).2.1 (TX10 15).2.2.1 ∈ wsL_law := (tw27 (i := 11) rfl)
theorem fl_X10_239 : Cond.fieldLink RX10 239 (TX10 17).1 (TX10 17).2.1 (TX10 17).2.2.1 ∈ wsL_law := (tw27 (i := 12) rfl)
theorem fl_X10_268 : Cond.fieldLink RX10 268 (TX10 20).1 (TX10 20).2.1 (TX10 20).2.2.1 ∈ wsL_law := (tw27 (i := 13) rfl)
theorem fl_X10_200 : Cond.fieldLink RX10 200 (TX10 14).1 (TX10 14).2.1 (TX10 14).2.2.1 ∈ wsL_law := (tw27 (i := 14) rfl)
theorem fl_X10_220 : Cond.fieldLink RX10 220 (TX10 11).1 (TX10 11).2.1 (TX10 11).2.2.1 ∈ wsL_law := (tw27 (i := 15) rfl)
theorem fl_X10_197 : Cond.fieldLink RX10 197 (TX10 10).1 (TX10 10).2.1 (TX10 10).2.2.1 ∈ wsL_law := (tw27 (i := 20) rfl)
theorem fl_X10_207 : Cond.fieldLink RX10 207 (TX10 9).1 (TX10 9).2.1 (TX10 9).2.2.1 ∈ wsL_law := (tw28 (i := 1) rfl)
theorem fl_X10_210 : Cond.fieldLink RX10 210 (TX10 12).1 (TX10 12).2.1 (TX10 12).2.2.1 ∈ wsL_law := (tw28 (i := 2) rfl)
theorem fl_X10_242 : Cond.fieldLink RX10 242 (TX10 23).1 (TX10 23).2.1 (TX10 23).2.2.1 ∈ wsL_law := (tw29 (i := 9) rfl)
theorem fl_X10_262 : Cond.fieldLink RX10 262 (TX10 24).1 (TX10 24).2.1 (TX10 24).2.2.1 ∈ wsL_law := (tw29 (i := 10) rfl)
theorem fl_X9_176 : Cond.fieldLink RX9 176 (TX3 9).1 (TX3 9).2.1 (TX3 9).2.2.1 ∈ wsL_law := (tw32 (i := 13) rfl)
theorem fl_X9_187 : Cond.fieldLink RX9 187 (TX7 0).1 (TX7 0).2.1 (TX7 0).2.2.1 ∈ wsL_law := (tw32 (i := 22) rfl)
theorem fl_X7_32 : Cond.fieldLink RX7 32 (TX0 0).1 (TX0 0).2.1 (TX0 0).2.2.1 ∈ wsL_law := (tw33 (i := 8) rfl)
theorem fl_X7_49 : Cond.fieldLink RX7 49 (TX0 1).1 (TX0 1).2.1 (TX0 1).2.2.1 ∈ wsL_law := (tw33 (i := 10) rfl)
theorem fl_X7_52 : Cond.fieldLink RX7 52 (TX0 2).1 (TX0 2).2.1 (TX0 2).2.2.1 ∈ wsL_law := (tw33 (i := 11) rfl)
theorem fl_X10_376 : Cond.fieldLink RX10 376 (TX10 37).1 (TX10 37).2.1 (TX10 37).2.2.1 ∈ wsL_law := (tw35 (i := 2) rfl)
theorem fl_X10_394 : Cond.fieldLink RX10 394 (TX10 40).1 (TX10 40).2.1 (TX10 40).2.2.1 ∈ wsL_law := (tw35 (i := 3) rfl)
theorem fl_X10_379 : Cond.fieldLink RX10 379 (TX10 38).1 (TX10 38).2.1 (TX10 38).2.2.1 ∈ wsL_law := (tw35 (i := 4) rfl)
theorem fl_X10_385 : Cond.fieldLink RX10 385 (TX10 41).1 (TX10 41).2.1 (TX10 41).2.2.1 ∈ wsL_law := (tw35 (i := 5) rfl)
theorem fl_X10_388 : Cond.fieldLink RX10 388 (TX10 42).1 (TX10 42).2.1 (TX10 42).2.2.1 ∈ wsL_law := (tw35 (i := 6) rfl)
theorem fl_X10_382 : Cond.fieldLink RX10 382 (TX10 39).1 (TX10 39).2.1 (TX10 39).2.2.1 ∈ wsL_law := (tw35 (i := 7) rfl)
theorem fl_X10_334 : Cond.fieldLink RX10 334 (TX10 26).1 (TX10 26).2.1 (TX10 26).2.2.1 ∈ wsL_law := (tw35 (i := 23) rfl)
theorem fl_X10_351 : Cond.fieldLink RX10 351 (TX10 31).1 (TX10 31).2.1 (TX10 31).2.2.1 ∈ wsL_law := (tw36 (i := 0) rfl)
theorem fl_X10_331 : Cond.fieldLink RX10 331 (TX10 29).1 (TX10 29).2.1 (TX10 29).2.2.1 ∈ wsL_law := (tw37 (i := 5) rfl)
theorem fl_X10_345 : Cond.fieldLink RX10 345 (TX10 30).1 (TX10 30).2.1 (TX10 30).2.2.1 ∈ wsL_law := (tw37 (i := 6) rfl)
theorem fl_X7_87 : Cond.fieldLink RX7 87 (TX3 6).1 (TX3 6).2.1 (TX3 6).2.2.1 ∈ wsL_law := (tw38 (i := 1) rfl)
theorem fl_X7_97 : Cond.fieldLink RX7 97 (TX3 5).1 (TX3 5).2.1 (TX3 5).2.2.1 ∈ wsL_law := (tw38 (i := 2) rfl)
theorem fl_X9_197 : Cond.fieldLink RX9 197 (TX7 1).1 (TX7 1).2.1 (TX7 1).2.2.1 ∈ wsL_law := (tw38 (i := 18) rfl)
theorem fl_X7_104 : Cond.fieldLink RX7 104 (TX0 3).1 (TX0 3).2.1 (TX0 3).2.2.1 ∈ wsL_law := (tw38 (i := 23) rfl)
theorem fl_X7_111 : Cond.fieldLink RX7 111 (TX3 3).1 (TX3 3).2.1 (TX3 3).2.2.1 ∈ wsL_law := (tw39 (i := 0) rfl)
theorem fl_X7_117 : Cond.fieldLink RX7 117 (TX3 4).1 (TX3 4).2.1 (TX3 4).2.2.1 ∈ wsL_law := (tw39 (i := 1) rfl)
theorem fl_X9_208 : Cond.fieldLink RX9 208 (TX6 0).1 (TX6 0).2.1 (TX6 0).2.2.1 ∈ wsL_law := (tw41 (i := 10) rfl)
theorem fl_X9_219 : Cond.fieldLink RX9 219 (TX5 4).1 (TX5 4).2.1 (TX5 4).2.2.1 ∈ wsL_law := (tw42 (i := 2) rfl)
theorem fl_X6_51 : Cond.fieldLink RX6 51 (TX3 1).1 (TX3 1).2.1 (TX3 1).2.2.1 ∈ wsL_law := (tw42 (i := 7) rfl)
theorem fl_X6_57 : Cond.fieldLink RX6 57 (TX5 4).1 (TX5 4).2.1 (TX5 4).2.2.1 ∈ wsL_law := (tw42 (i := 8) rfl)
theorem fl_X6_62 : Cond.fieldLink RX6 62 (TX3 0).1 (TX3 0).2.1 (TX3 0).2.2.1 ∈ wsL_law := (tw42 (i := 9) rfl)
theorem fl_X9_230 : Cond.fieldLink RX9 230 (TX6 9).1 (TX6 9).2.1 (TX6 9).2.2.1 ∈ wsL_law := (tw44 (i := 8) rfl)
theorem fl_X9_233 : Cond.fieldLink RX9 233 (TX6 7).1 (TX6 7).2.1 (TX6 7).2.2.1 ∈ wsL_law := (tw44 (i := 9) rfl)
theorem fl_X9_236 : Cond.fieldLink RX9 236 (TX6 8).1 (TX6 8).2.1 (TX6 8).2.2.1 ∈ wsL_law := (tw44 (i := 10) rfl)
theorem fl_X9_248 : Cond.fieldLink RX9 248 (TX0 2).1 (TX0 2).2.1 (TX0 2).2.2.1 ∈ wsL_law := (tw45 (i := 2) rfl)
theorem fl_X9_254 : Cond.fieldLink RX9 254 (TX0 3).1 (TX0 3).2.1 (TX0 3).2.2.1 ∈ wsL_law := (tw45 (i := 18) rfl)
theorem fl_X9_260 : Cond.fieldLink RX9 260 (TX3 2).1 (TX3 2).2.1 (TX3 2).2.2.1 ∈ wsL_law := (tw46 (i := 3) rfl)
theorem fl_X3_113 : Cond.fieldLink RX3 113 (TX8 4).1 (TX8 4).2.1 (TX8 4).2.2.1 ∈ wsL_law := (tw46 (i := 8) rfl)
theorem fl_X9_267 : Cond.fieldLink RX9 267 (TX8 4).1 (TX8 4).2.1 (TX8 4).2.2.1 ∈ wsL_law := (tw46 (i := 22) rfl)
theorem fl_X6_103 : Cond.fieldLink RX6 103 (TX3 2).1 (TX3 2).2.1 (TX3 2).2.2.1 ∈ wsL_law := (tw48 (i := 3) rfl)
theorem fl_X6_107 : Cond.fieldLink RX6 107 (TX8 4).1 (TX8 4).2.1 (TX8 4).2.2.1 ∈ wsL_law := (tw48 (i := 4) rfl)
theorem fl_X3_114 : Cond.fieldLink RX3 114 (TX8 1).1 (TX8 1).2.1 (TX8 1).2.2.1 ∈ wsL_law := (tw48 (i := 9) rfl)
theorem fl_X3_117 : Cond.fieldLink RX3 117 (TX8 2).1 (TX8 2).2.1 (TX8 2).2.2.1 ∈ wsL_law := (tw48 (i := 10) rfl)
theorem fl_X3_120 : Cond.fieldLink RX3 120 (TX8 0).1 (TX8 0).2.1 (TX8 0).2.2.1 ∈ wsL_law := (tw48 (i := 11) rfl)
theorem fl_X3_137 : Cond.fieldLink RX3 137 (TX0 1).1 (TX0 1).2.1 (TX0 1).2.2.1 ∈ wsL_law := (tw48 (i := 13) rfl)
theorem fl_X3_143 : Cond.fieldLink RX3 143 (TX0 2).1 (TX0 2).2.1 (TX0 2).2.2.1 ∈ wsL_law := (tw48 (i := 15) rfl)
theorem fl_X3_146 : Cond.fieldLink RX3 146 (TX0 3).1 (TX0 3).2.1 (TX0 3).2.2.1 ∈ wsL_law := (tw48 (i := 16) rfl)
theorem fl_X6_124 : Cond.fieldLink RX6 124 (TX0 3).1 (TX0 3).2.1 (TX0 3).2.2.1 ∈ wsL_law := (tw49 (i := 3) rfl)
theorem fl_X6_127 : Cond.fieldLink RX6 127 (TX3 3).1 (TX3 3).2.1 (TX3 3).2.2.1 ∈ wsL_law := (tw49 (i := 4) rfl)
theorem fl_X9_291 : Cond.fieldLink RX9 291 (TX6 3).1 (TX6 3).2.1 (TX6 3).2.2.1 ∈ wsL_law := (tw50 (i := 6) rfl)
theorem fl_X9_294 : Cond.fieldLink RX9 294 (TX6 4).1 (TX6 4).2.1 (TX6 4).2.2.1 ∈ wsL_law := (tw50 (i := 7) rfl)
theorem fl_X9_297 : Cond.fieldLink RX9 297 (TX6 5).1 (TX6 5).2.1 (TX6 5).2.2.1 ∈ wsL_law := (tw50 (i := 8) rfl)
theorem fl_X9_307 : Cond.fieldLink RX9 307 (TX3 11).1 (TX3 11).2.1 (TX3 11).2.2.1 ∈ wsL_law := (tw51 (i := 8) rfl)
theorem fl_X9_334 : Cond.fieldLink RX9 334 (TX3 5).1 (TX3 5).2.1 (TX3 5).2.2.1 ∈ wsL_law := (tw53 (i := 22) rfl)
theorem fl_X9_348 : Cond.fieldLink RX9 348 (TX3 6).1 (TX3 6).2.1 (TX3 6).2.2.1 ∈ wsL_law := (tw54 (i := 23) rfl)
theorem fl_X10_473 : Cond.fieldLink RX10 473 (TX10 49).1 (TX10 49).2.1 (TX10 49).2.2.1 ∈ wsL_law := (tw55 (i := 9) rfl)
theorem fl_X10_482 : Cond.fieldLink RX10 482 (TX10 48).1 (TX10 48).2.1 (TX10 48).2.2.1 ∈ wsL_law := (tw55 (i := 13) rfl)
theorem kc_X1_22 : Cond.constant RX1 22 (-1000000001) ∈ wsL_law := (tw34 (i := 7) rfl)
theorem kc_X9_200 : Cond.constant RX9 200 (-1000000001) ∈ wsL_law := (tw39 (i := 23) rfl)
theorem kc_X9_207 : Cond.constant RX9 207 (-1000000000) ∈ wsL_law := (tw41 (i := 9) rfl)
theorem kc_X10_432 : Cond.constant RX10 432 (-1000000000) ∈ wsL_law := (tw41 (i := 20) rfl)
theorem kc_J6_265 : Cond.constant RJ6 265 (1431655765) ∈ wsL_law := (tw42 (i := 22) rfl)
theorem kc_J6_266 : Cond.constant RJ6 266 (858993459) ∈ wsL_law := (tw42 (i := 23) rfl)
theorem kc_J6_267 : Cond.constant RJ6 267 (252645135) ∈ wsL_law := (tw43 (i := 0) rfl)
theorem kc_X10_448 : Cond.constant RX10 448 (2000000000) ∈ wsL_law := (tw44 (i := 21) rfl)
theorem kc_X9_340 : Cond.constant RX9 340 (1000000) ∈ wsL_law := (tw54 (i := 13) rfl)
theorem kc_X9_341 : Cond.constant RX9 341 (1000003) ∈ wsL_law := (tw54 (i := 14) rfl)
theorem kl_X10_45 : Cond.constantLong RX10 45 (370116) ∈ wsL_law := (tw7 (i := 6) rfl)
theorem kl_X10_47 : Cond.constantLong RX10 47 (599653) ∈ wsL_law := (tw7 (i := 7) rfl)
theorem kl_X10_49 : Cond.constantLong RX10 49 (271592) ∈ wsL_law := (tw7 (i := 8) rfl)
theorem kl_X10_51 : Cond.constantLong RX10 51 (21566643) ∈ wsL_law := (tw7 (i := 9) rfl)
theorem kl_X10_53 : Cond.constantLong RX10 53 (641275054) ∈ wsL_law := (tw7 (i := 10) rfl)
theorem kl_X10_55 : Cond.constantLong RX10 55 (24) ∈ wsL_law := (tw7 (i := 11) rfl)
theorem kl_X10_57 : Cond.constantLong RX10 57 (25) ∈ wsL_law := (tw7 (i := 12) rfl)
theorem kl_X10_59 : Cond.constantLong RX10 59 (23609) ∈ wsL_law := (tw7 (i := 13) rfl)
theorem kl_X10_61 : Cond.constantLong RX10 61 (15558) ∈ wsL_law := (tw7 (i := 14) rfl)
theorem kl_X10_142 : Cond.constantLong RX10 142 (9) ∈ wsL_law := (tw11 (i := 0) rfl)
theorem kl_X10_144 : Cond.constantLong RX10 144 (5) ∈ wsL_law := (tw11 (i := 1) rfl)
theorem kl_X10_146 : Cond.constantLong RX10 146 (40) ∈ wsL_law := (tw11 (i := 2) rfl)
theorem kl_X10_120 : Cond.constantLong RX10 120 (99) ∈ wsL_law := (tw11 (i := 22) rfl)
theorem kl_X10_171 : Cond.constantLong RX10 171 (2) ∈ wsL_law := (tw15 (i := 13) rfl)
theorem kl_X10_122 : Cond.constantLong RX10 122 (3) ∈ wsL_law := (tw15 (i := 14) rfl)
theorem kl_X10_176 : Cond.constantLong RX10 176 (9999) ∈ wsL_law := (tw16 (i := 9) rfl)
theorem kl_X10_181 : Cond.constantLong RX10 181 (999) ∈ wsL_law := (tw17 (i := 7) rfl)
theorem kl_X10_223 : Cond.constantLong RX10 223 (32) ∈ wsL_law := (tw28 (i := 3) rfl)
theorem kl_X10_225 : Cond.constantLong RX10 225 (96) ∈ wsL_law := (tw28 (i := 4) rfl)
theorem kl_X10_227 : Cond.constantLong RX10 227 (-1) ∈ wsL_law := (tw28 (i := 5) rfl)
theorem kl_X10_229 : Cond.constantLong RX10 229 (1000000) ∈ wsL_law := (tw28 (i := 6) rfl)
theorem kl_X10_231 : Cond.constantLong RX10 231 (10) ∈ wsL_law := (tw28 (i := 7) rfl)
theorem kl_X10_233 : Cond.constantLong RX10 233 (48) ∈ wsL_law := (tw28 (i := 8) rfl)
theorem kl_X10_315 : Cond.constantLong RX10 315 (18523243) ∈ wsL_law := (tw28 (i := 19) rfl)
theorem kl_X10_323 : Cond.constantLong RX10 323 (294) ∈ wsL_law := (tw28 (i := 20) rfl)
theorem kl_X10_286 : Cond.constantLong RX10 286 (14836) ∈ wsL_law := (tw29 (i := 15) rfl)
theorem kl_X10_280 : Cond.constantLong RX10 280 (1000) ∈ wsL_law := (tw30 (i := 8) rfl)
theorem kl_X10_252 : Cond.constantLong RX10 252 (20) ∈ wsL_law := (tw31 (i := 16) rfl)
theorem kl_X10_254 : Cond.constantLong RX10 254 (23) ∈ wsL_law := (tw31 (i := 17) rfl)
theorem kl_X10_256 : Cond.constantLong RX10 256 (26) ∈ wsL_law := (tw31 (i := 18) rfl)
theorem kl_X10_301 : Cond.constantLong RX10 301 (1476) ∈ wsL_law := (tw31 (i := 23) rfl)
theorem kl_X10_303 : Cond.constantLong RX10 303 (498) ∈ wsL_law := (tw32 (i := 0) rfl)
theorem kl_X7_79 : Cond.constantLong RX7 79 (6364136223846793005) ∈ wsL_law := (tw33 (i := 3) rfl)
theorem kl_X1_36 : Cond.constantLong RX1 36 (-1000000001) ∈ wsL_law := (tw34 (i := 17) rfl)
theorem kl_X1_38 : Cond.constantLong RX1 38 (1000000000) ∈ wsL_law := (tw34 (i := 18) rfl)
theorem kl_X1_40 : Cond.constantLong RX1 40 (-1000000000) ∈ wsL_law := (tw34 (i := 19) rfl)
theorem kl_X10_403 : Cond.constantLong RX10 403 (6) ∈ wsL_law := (tw35 (i := 1) rfl)
theorem kl_X10_341 : Cond.constantLong RX10 341 (-1000000000) ∈ wsL_law := (tw37 (i := 11) rfl)
theorem kl_X10_343 : Cond.constantLong RX10 343 (1000000000) ∈ wsL_law := (tw37 (i := 12) rfl)
theorem kl_X10_411 : Cond.constantLong RX10 411 (4) ∈ wsL_law := (tw41 (i := 4) rfl)
theorem kl_X9_213 : Cond.constantLong RX9 213 (-1000000000000) ∈ wsL_law := (tw42 (i := 1) rfl)
theorem kl_X6_81 : Cond.constantLong RX6 81 (-1000000000000) ∈ wsL_law := (tw42 (i := 17) rfl)
theorem kl_X10_433 : Cond.constantLong RX10 433 (-1000000000000) ∈ wsL_law := (tw43 (i := 5) rfl)
theorem kl_X10_476 : Cond.constantLong RX10 476 (1103) ∈ wsL_law := (tw55 (i := 10) rfl)
theorem kl_X10_478 : Cond.constantLong RX10 478 (12345) ∈ wsL_law := (tw55 (i := 11) rfl)
theorem kl_X10_480 : Cond.constantLong RX10 480 (1000003) ∈ wsL_law := (tw55 (i := 12) rfl)
abbrev cd_X9_init : Cond := Cond.code yX9_init cX9_init 1 none
theorem cm_X9_init : cd_X9_init ∈ wsL_law := (tw1 (i := 8) rfl)
theorem hd_X9_init : yX9_init.cls = RX9 ∧ yX9_init.cls ≠ "java/lang/invoke/MethodHandle" ∧ yX9_init.cls ≠ "java/lang/invoke/VarHandle" ∧ (parseMethodDescriptor yX9_init.desc).map (fun d => d.parameters.length) = some 0 := by decide +kernel
abbrev cd_X3_init : Cond := Cond.code yX3_init cX3_init 1 none
theorem cm_X3_init : cd_X3_init ∈ wsL_law := (tw2 (i := 16) rfl)
theorem hd_X3_init : yX3_init.cls = RX3 ∧ yX3_init.cls ≠ "java/lang/invoke/MethodHandle" ∧ yX3_init.cls ≠ "java/lang/invoke/VarHandle" ∧ (parseMethodDescriptor yX3_init.desc).map (fun d => d.parameters.length) = some 0 := by decide +kernel
abbrev cd_X0_init : Cond := Cond.code yX0_init cX0_init 1 none
theorem cm_X0_init : cd_X0_init ∈ wsL_law := (tw3 (i := 17) rfl)
theorem hd_X0_init : yX0_init.cls = RX0 ∧ yX0_init.cls ≠ "java/lang/invoke/MethodHandle" ∧ yX0_init.cls ≠ "java/lang/invoke/VarHandle" ∧ (parseMethodDescriptor yX0_init.desc).map (fun d => d.parameters.length) = some 0 := by decide +kernel
abbrev cd_X5_init : Cond := Cond.code yX5_init cX5_init 1 none
theorem cm_X5_init : cd_X5_init ∈ wsL_law := (tw4 (i := 0) rfl)
theorem hd_X5_init : yX5_init.cls = RX5 ∧ yX5_init.cls ≠ "java/lang/invoke/MethodHandle" ∧ yX5_init.cls ≠ "java/lang/invoke/VarHandle" ∧ (parseMethodDescriptor yX5_init.desc).map (fun d => d.parameters.length) = some 0 := by decide +kernel
abbrev cd_X8_init : Cond := Cond.code yX8_init cX8_init 1 none
theorem cm_X8_init : cd_X8_init ∈ wsL_law := (tw4 (i := 8) rfl)
theorem hd_X8_init : yX8_init.cls = RX8 ∧ yX8_init.cls ≠ "java/lang/invoke/MethodHandle" ∧ yX8_init.cls ≠ "java/lang/invoke/VarHandle" ∧ (parseMethodDescriptor yX8_init.desc).map (fun d => d.parameters.length) = some 0 := by decide +kernel
abbrev cd_X7_init : Cond := Cond.code yX7_init cX7_init 1 none
theorem cm_X7_init : cd_X7_init ∈ wsL_law := (tw4 (i := 16) rfl)
theorem hd_X7_init : yX7_init.cls = RX7 ∧ yX7_init.cls ≠ "java/lang/invoke/MethodHandle" ∧ yX7_init.cls ≠ "java/lang/invoke/VarHandle" ∧ (parseMethodDescriptor yX7_init.desc).map (fun d => d.parameters.length) = some 0 := by decide +kernel
abbrev cd_X6_init : Cond := Cond.code yX6_init cX6_init 1 none
theorem cm_X6_init : cd_X6_init ∈ wsL_law := (tw5 (i := 2) rfl)
theorem hd_X6_init : yX6_init.cls = RX6 ∧ yX6_init.cls ≠ "java/lang/invoke/MethodHandle" ∧ yX6_init.cls ≠ "java/lang/invoke/VarHandle" ∧ (parseMethodDescriptor yX6_init.desc).map (fun d => d.parameters.length) = some 0 := by decide +kernel
abbrev cd_X2_init : Cond := Cond.code yX2_init cX2_init 1 none
theorem cm_X2_init : cd_X2_init ∈ wsL_law := (tw5 (i := 17) rfl)
theorem hd_X2_init : yX2_init.cls = RX2 ∧ yX2_init.cls ≠ "java/lang/invoke/MethodHandle" ∧ yX2_init.cls ≠ "java/lang/invoke/VarHandle" ∧ (parseMethodDescriptor yX2_init.desc).map (fun d => d.parameters.length) = some 0 := by decide +kernel
abbrev cd_X4_init : Cond := Cond.code yX4_init cX4_init 1 none
theorem cm_X4_init : cd_X4_init ∈ wsL_law := (tw6 (i := 7) rfl)
theorem hd_X4_init : yX4_init.cls = RX4 ∧ yX4_init.cls ≠ "java/lang/invoke/MethodHandle" ∧ yX4_init.cls ≠ "java/lang/invoke/VarHandle" ∧ (parseMethodDescriptor yX4_init.desc).map (fun d => d.parameters.length) = some 0 := by decide +kernel
abbrev cd_X10_init : Cond := Cond.code yX10_init cX10_init 2 none
theorem cm_X10_init : cd_X10_init ∈ wsL_law := (tw6 (i := 16) rfl)
theorem hd_X10_init : yX10_init.cls = RX10 ∧ yX10_init.cls ≠ "java/lang/invoke/MethodHandle" ∧ yX10_init.cls ≠ "java/lang/invoke/VarHandle" ∧ (parseMethodDescriptor yX10_init.desc).map (fun d => d.parameters.length) = some 0 := by decide +kernel
abbrev cd_X9_tower : Cond := Cond.code yX9_tower cX9_tower 7 (some .int)
theorem cm_X9_tower : cd_X9_tower ∈ wsL_law := (tw8 (i := 7) rfl)
theorem hd_X9_tower : yX9_tower.cls = RX9 ∧ yX9_tower.cls ≠ "java/lang/invoke/MethodHandle" ∧ yX9_tower.cls ≠ "java/lang/invoke/VarHandle" ∧ (parseMethodDescriptor yX9_tower.desc).map (fun d => d.parameters.length) = some 5 := by decide +kernel
abbrev cd_X3_whyNoTower : Cond := Cond.code yX3_whyNoTower cX3_whyNoTower 9 (some .int)
theorem cm_X3_whyNoTower : cd_X3_whyNoTower ∈ wsL_law := (tw8 (i := 13) rfl)
theorem hd_X3_whyNoTower : yX3_whyNoTower.cls = RX3 ∧ yX3_whyNoTower.cls ≠ "java/lang/invoke/MethodHandle" ∧ yX3_whyNoTower.cls ≠ "java/lang/invoke/VarHandle" ∧ (parseMethodDescriptor yX3_whyNoTower.desc).map (fun d => d.parameters.length) = some 5 := by decide +kernel
abbrev cd_X9_isOnEdge : Cond := Cond.code yX9_isOnEdge cX9_isOnEdge 1 (some .boolean)
theorem cm_X9_isOnEdge : cd_X9_isOnEdge ∈ wsL_law := (tw8 (i := 16) rfl)
theorem hd_X9_isOnEdge : yX9_isOnEdge.cls = RX9 ∧ yX9_isOnEdge.cls ≠ "java/lang/invoke/MethodHandle" ∧ yX9_isOnEdge.cls ≠ "java/lang/invoke/VarHandle" ∧ (parseMethodDescriptor yX9_isOnEdge.desc).map (fun d => d.parameters.length) = some 1 := by decide +kernel
abbrev cd_X9_isWithin : Cond := Cond.code yX9_isWithin cX9_isWithin 3 (some .boolean)
theorem cm_X9_isWithin : cd_X9_isWithin ∈ wsL_law := (tw8 (i := 18) rfl)
theorem hd_X9_isWithin : yX9_isWithin.cls = RX9 ∧ yX9_isWithin.cls ≠ "java/lang/invoke/MethodHandle" ∧ yX9_isWithin.cls ≠ "java/lang/invoke/VarHandle" ∧ (parseMethodDescriptor yX9_isWithin.desc).map (fun d => d.parameters.length) = some 3 := by decide +kernel
abbrev cd_X3_isGround : Cond := Cond.code yX3_isGround cX3_isGround 2 (some .boolean)
theorem cm_X3_isGround : cd_X3_isGround ∈ wsL_law := (tw8 (i := 22) rfl)
theorem hd_X3_isGround : yX3_isGround.cls = RX3 ∧ yX3_isGround.cls ≠ "java/lang/invoke/MethodHandle" ∧ yX3_isGround.cls ≠ "java/lang/invoke/VarHandle" ∧ (parseMethodDescriptor yX3_isGround.desc).map (fun d => d.parameters.length) = some 1 := by decide +kernel
abbrev cd_X9_isCell : Cond := Cond.code yX9_isCell cX9_isCell 1 (some .boolean)
theorem cm_X9_isCell : cd_X9_isCell ∈ wsL_law := (tw9 (i := 1) rfl)
theorem hd_X9_isCell : yX9_isCell.cls = RX9 ∧ yX9_isCell.cls ≠ "java/lang/invoke/MethodHandle" ∧ yX9_isCell.cls ≠ "java/lang/invoke/VarHandle" ∧ (parseMethodDescriptor yX9_isCell.desc).map (fun d => d.parameters.length) = some 1 := by decide +kernel
abbrev cd_X9_spotOf : Cond := Cond.code yX9_spotOf cX9_spotOf 1 (some .int)
theorem cm_X9_spotOf : cd_X9_spotOf ∈ wsL_law := (tw9 (i := 3) rfl)
theorem hd_X9_spotOf : yX9_spotOf.cls = RX9 ∧ yX9_spotOf.cls ≠ "java/lang/invoke/MethodHandle" ∧ yX9_spotOf.cls ≠ "java/lang/invoke/VarHandle" ∧ (parseMethodDescriptor yX9_spotOf.desc).map (fun d => d.parameters.length) = some 1 := by decide +kernel
abbrev cd_X9_spotAt : Cond := Cond.code yX9_spotAt cX9_spotAt 2 (some .int)
theorem cm_X9_spotAt : cd_X9_spotAt ∈ wsL_law := (tw9 (i := 6) rfl)
theorem hd_X9_spotAt : yX9_spotAt.cls = RX9 ∧ yX9_spotAt.cls ≠ "java/lang/invoke/MethodHandle" ∧ yX9_spotAt.cls ≠ "java/lang/invoke/VarHandle" ∧ (parseMethodDescriptor yX9_spotAt.desc).map (fun d => d.parameters.length) = some 2 := by decide +kernel
abbrev cd_X3_hasPlaceIn : Cond := Cond.code yX3_hasPlaceIn cX3_hasPlaceIn 3 (some .boolean)
theorem cm_X3_hasPlaceIn : cd_X3_hasPlaceIn ∈ wsL_law := (tw9 (i := 10) rfl)
theorem hd_X3_hasPlaceIn : yX3_hasPlaceIn.cls = RX3 ∧ yX3_hasPlaceIn.cls ≠ "java/lang/invoke/MethodHandle" ∧ yX3_hasPlaceIn.cls ≠ "java/lang/invoke/VarHandle" ∧ (parseMethodDescriptor yX3_hasPlaceIn.desc).map (fun d => d.parameters.length) = some 1 := by decide +kernel
abbrev cd_X8_needCell : Cond := Cond.code yX8_needCell cX8_needCell 3 (some .boolean)
theorem cm_X8_needCell : cd_X8_needCell ∈ wsL_law := (tw9 (i := 14) rfl)
theorem hd_X8_needCell : yX8_needCell.cls = RX8 ∧ yX8_needCell.cls ≠ "java/lang/invoke/MethodHandle" ∧ yX8_needCell.cls ≠ "java/lang/invoke/VarHandle" ∧ (parseMethodDescriptor yX8_needCell.desc).map (fun d => d.parameters.length) = some 1 := by decide +kernel
abbrev cd_X9_refuse : Cond := Cond.code yX9_refuse cX9_refuse 2 (some .int)
theorem cm_X9_refuse : cd_X9_refuse ∈ wsL_law := (tw9 (i := 18) rfl)
theorem hd_X9_refuse : yX9_refuse.cls = RX9 ∧ yX9_refuse.cls ≠ "java/lang/invoke/MethodHandle" ∧ yX9_refuse.cls ≠ "java/lang/invoke/VarHandle" ∧ (parseMethodDescriptor yX9_refuse.desc).map (fun d => d.parameters.length) = some 1 := by decide +kernel
abbrev cd_X0_stand : Cond := Cond.code yX0_stand cX0_stand 9 none
theorem cm_X0_stand : cd_X0_stand ∈ wsL_law := (tw9 (i := 23) rfl)
theorem hd_X0_stand : yX0_stand.cls = RX0 ∧ yX0_stand.cls ≠ "java/lang/invoke/MethodHandle" ∧ yX0_stand.cls ≠ "java/lang/invoke/VarHandle" ∧ (parseMethodDescriptor yX0_stand.desc).map (fun d => d.parameters.length) = some 5 := by decide +kernel
abbrev cd_X5_add : Cond := Cond.code yX5_add cX5_add 5 (some .int)
theorem cm_X5_add : cd_X5_add ∈ wsL_law := (tw10 (i := 7) rfl)
theorem hd_X5_add : yX5_add.cls = RX5 ∧ yX5_add.cls ≠ "java/lang/invoke/MethodHandle" ∧ yX5_add.cls ≠ "java/lang/invoke/VarHandle" ∧ (parseMethodDescriptor yX5_add.desc).map (fun d => d.parameters.length) = some 4 := by decide +kernel
abbrev cd_X9_accept : Cond := Cond.code yX9_accept cX9_accept 2 (some .int)
theorem cm_X9_accept : cd_X9_accept ∈ wsL_law := (tw10 (i := 11) rfl)
theorem hd_X9_accept : yX9_accept.cls = RX9 ∧ yX9_accept.cls ≠ "java/lang/invoke/MethodHandle" ∧ yX9_accept.cls ≠ "java/lang/invoke/VarHandle" ∧ (parseMethodDescriptor yX9_accept.desc).map (fun d => d.parameters.length) = some 1 := by decide +kernel
abbrev cd_X6_forget : Cond := Cond.code yX6_forget cX6_forget 1 none
theorem cm_X6_forget : cd_X6_forget ∈ wsL_law := (tw10 (i := 15) rfl)
theorem hd_X6_forget : yX6_forget.cls = RX6 ∧ yX6_forget.cls ≠ "java/lang/invoke/MethodHandle" ∧ yX6_forget.cls ≠ "java/lang/invoke/VarHandle" ∧ (parseMethodDescriptor yX6_forget.desc).map (fun d => d.parameters.length) = some 0 := by decide +kernel
abbrev cd_X10_tower : Cond := Cond.code yX10_tower cX10_tower 9 (some .int)
theorem cm_X10_tower : cd_X10_tower ∈ wsL_law := (tw10 (i := 19) rfl)
theorem hd_X10_tower : yX10_tower.cls = RX10 ∧ yX10_tower.cls ≠ "java/lang/invoke/MethodHandle" ∧ yX10_tower.cls ≠ "java/lang/invoke/VarHandle" ∧ (parseMethodDescriptor yX10_tower.desc).map (fun d => d.parameters.length) = some 5 := by decide +kernel
abbrev cd_X10_canBe : Cond := Cond.code yX10_canBe cX10_canBe 5 (some .boolean)
theorem cm_X10_canBe : cd_X10_canBe ∈ wsL_law := (tw10 (i := 23) rfl)
theorem hd_X10_canBe : yX10_canBe.cls = RX10 ∧ yX10_canBe.cls ≠ "java/lang/invoke/MethodHandle" ∧ yX10_canBe.cls ≠ "java/lang/invoke/VarHandle" ∧ (parseMethodDescriptor yX10_canBe.desc).map (fun d => d.parameters.length) = some 5 := by decide +kernel
abbrev cd_X10_in : Cond := Cond.code yX10_in cX10_in 6 (some .boolean)
theorem cm_X10_in : cd_X10_in ∈ wsL_law := (tw11 (i := 5) rfl)
theorem hd_X10_in : yX10_in.cls = RX10 ∧ yX10_in.cls ≠ "java/lang/invoke/MethodHandle" ∧ yX10_in.cls ≠ "java/lang/invoke/VarHandle" ∧ (parseMethodDescriptor yX10_in.desc).map (fun d => d.parameters.length) = some 3 := by decide +kernel
abbrev cd_X10_tell : Cond := Cond.code yX10_tell cX10_tell 2 (some .int)
theorem cm_X10_tell : cd_X10_tell ∈ wsL_law := (tw11 (i := 9) rfl)
theorem hd_X10_tell : yX10_tell.cls = RX10 ∧ yX10_tell.cls ≠ "java/lang/invoke/MethodHandle" ∧ yX10_tell.cls ≠ "java/lang/invoke/VarHandle" ∧ (parseMethodDescriptor yX10_tell.desc).map (fun d => d.parameters.length) = some 1 := by decide +kernel
abbrev cd_X10_isFree : Cond := Cond.code yX10_isFree cX10_isFree 9 (some .boolean)
theorem cm_X10_isFree : cd_X10_isFree ∈ wsL_law := (tw11 (i := 14) rfl)
theorem hd_X10_isFree : yX10_isFree.cls = RX10 ∧ yX10_isFree.cls ≠ "java/lang/invoke/MethodHandle" ∧ yX10_isFree.cls ≠ "java/lang/invoke/VarHandle" ∧ (parseMethodDescriptor yX10_isFree.desc).map (fun d => d.parameters.length) = some 4 := by decide +kernel
abbrev cd_X10_isGround : Cond := Cond.code yX10_isGround cX10_isGround 2 (some .boolean)
theorem cm_X10_isGround : cd_X10_isGround ∈ wsL_law := (tw11 (i := 18) rfl)
theorem hd_X10_isGround : yX10_isGround.cls = RX10 ∧ yX10_isGround.cls ≠ "java/lang/invoke/MethodHandle" ∧ yX10_isGround.cls ≠ "java/lang/invoke/VarHandle" ∧ (parseMethodDescriptor yX10_isGround.desc).map (fun d => d.parameters.length) = some 1 := by decide +kernel
abbrev cd_X10_isCell : Cond := Cond.code yX10_isCell cX10_isCell 1 (some .boolean)
theorem cm_X10_isCell : cd_X10_isCell ∈ wsL_law := (tw11 (i := 21) rfl)
theorem hd_X10_isCell : yX10_isCell.cls = RX10 ∧ yX10_isCell.cls ≠ "java/lang/invoke/MethodHandle" ∧ yX10_isCell.cls ≠ "java/lang/invoke/VarHandle" ∧ (parseMethodDescriptor yX10_isCell.desc).map (fun d => d.parameters.length) = some 1 := by decide +kernel
abbrev cd_X10_towerOn : Cond := Cond.code yX10_towerOn cX10_towerOn 4 (some .int)
theorem cm_X10_towerOn : cd_X10_towerOn ∈ wsL_law := (tw12 (i := 2) rfl)
theorem hd_X10_towerOn : yX10_towerOn.cls = RX10 ∧ yX10_towerOn.cls ≠ "java/lang/invoke/MethodHandle" ∧ yX10_towerOn.cls ≠ "java/lang/invoke/VarHandle" ∧ (parseMethodDescriptor yX10_towerOn.desc).map (fun d => d.parameters.length) = some 1 := by decide +kernel
abbrev cd_X10_covers : Cond := Cond.code yX10_covers cX10_covers 5 (some .boolean)
theorem cm_X10_covers : cd_X10_covers ∈ wsL_law := (tw12 (i := 6) rfl)
theorem hd_X10_covers : yX10_covers.cls = RX10 ∧ yX10_covers.cls ≠ "java/lang/invoke/MethodHandle" ∧ yX10_covers.cls ≠ "java/lang/invoke/VarHandle" ∧ (parseMethodDescriptor yX10_covers.desc).map (fun d => d.parameters.length) = some 2 := by decide +kernel
abbrev cd_X10_ofTower : Cond := Cond.code yX10_ofTower cX10_ofTower 3 (some .int)
theorem cm_X10_ofTower : cd_X10_ofTower ∈ wsL_law := (tw12 (i := 10) rfl)
theorem hd_X10_ofTower : yX10_ofTower.cls = RX10 ∧ yX10_ofTower.cls ≠ "java/lang/invoke/MethodHandle" ∧ yX10_ofTower.cls ≠ "java/lang/invoke/VarHandle" ∧ (parseMethodDescriptor yX10_ofTower.desc).map (fun d => d.parameters.length) = some 2 := by decide +kernel
abbrev cd_X10_isOfWork : Cond := Cond.code yX10_isOfWork cX10_isOfWork 5 (some .boolean)
theorem cm_X10_isOfWork : cd_X10_isOfWork ∈ wsL_law := (tw12 (i := 14) rfl)
theorem hd_X10_isOfWork : yX10_isOfWork.cls = RX10 ∧ yX10_isOfWork.cls ≠ "java/lang/invoke/MethodHandle" ∧ yX10_isOfWork.cls ≠ "java/lang/invoke/VarHandle" ∧ (parseMethodDescriptor yX10_isOfWork.desc).map (fun d => d.parameters.length) = some 1 := by decide +kernel
abbrev cd_X10_ofWork : Cond := Cond.code yX10_ofWork cX10_ofWork 3 (some .int)
theorem cm_X10_ofWork : cd_X10_ofWork ∈ wsL_law := (tw12 (i := 18) rfl)
theorem hd_X10_ofWork : yX10_ofWork.cls = RX10 ∧ yX10_ofWork.cls ≠ "java/lang/invoke/MethodHandle" ∧ yX10_ofWork.cls ≠ "java/lang/invoke/VarHandle" ∧ (parseMethodDescriptor yX10_ofWork.desc).map (fun d => d.parameters.length) = some 2 := by decide +kernel
abbrev cd_X10_isOfPlace : Cond := Cond.code yX10_isOfPlace cX10_isOfPlace 4 (some .boolean)
theorem cm_X10_isOfPlace : cd_X10_isOfPlace ∈ wsL_law := (tw12 (i := 22) rfl)
theorem hd_X10_isOfPlace : yX10_isOfPlace.cls = RX10 ∧ yX10_isOfPlace.cls ≠ "java/lang/invoke/MethodHandle" ∧ yX10_isOfPlace.cls ≠ "java/lang/invoke/VarHandle" ∧ (parseMethodDescriptor yX10_isOfPlace.desc).map (fun d => d.parameters.length) = some 1 := by decide +kernel
abbrev cd_X9_high : Cond := Cond.code yX9_high cX9_high 4 (some .int)
theorem cm_X9_high : cd_X9_high ∈ wsL_law := (tw13 (i := 2) rfl)
theorem hd_X9_high : yX9_high.cls = RX9 ∧ yX9_high.cls ≠ "java/lang/invoke/MethodHandle" ∧ yX9_high.cls ≠ "java/lang/invoke/VarHandle" ∧ (parseMethodDescriptor yX9_high.desc).map (fun d => d.parameters.length) = some 2 := by decide +kernel
abbrev cd_X5_has : Cond := Cond.code yX5_has cX5_has 2 (some .boolean)
theorem cm_X5_has : cd_X5_has ∈ wsL_law := (tw13 (i := 6) rfl)
theorem hd_X5_has : yX5_has.cls = RX5 ∧ yX5_has.cls ≠ "java/lang/invoke/MethodHandle" ∧ yX5_has.cls ≠ "java/lang/invoke/VarHandle" ∧ (parseMethodDescriptor yX5_has.desc).map (fun d => d.parameters.length) = some 1 := by decide +kernel
abbrev cd_X5_highOf : Cond := Cond.code yX5_highOf cX5_highOf 3 (some .int)
theorem cm_X5_highOf : cd_X5_highOf ∈ wsL_law := (tw13 (i := 10) rfl)
theorem hd_X5_highOf : yX5_highOf.cls = RX5 ∧ yX5_highOf.cls ≠ "java/lang/invoke/MethodHandle" ∧ yX5_highOf.cls ≠ "java/lang/invoke/VarHandle" ∧ (parseMethodDescriptor yX5_highOf.desc).map (fun d => d.parameters.length) = some 2 := by decide +kernel
abbrev cd_X5_makeHigh : Cond := Cond.code yX5_makeHigh cX5_makeHigh 4 none
theorem cm_X5_makeHigh : cd_X5_makeHigh ∈ wsL_law := (tw13 (i := 16) rfl)
theorem hd_X5_makeHigh : yX5_makeHigh.cls = RX5 ∧ yX5_makeHigh.cls ≠ "java/lang/invoke/MethodHandle" ∧ yX5_makeHigh.cls ≠ "java/lang/invoke/VarHandle" ∧ (parseMethodDescriptor yX5_makeHigh.desc).map (fun d => d.parameters.length) = some 3 := by decide +kernel
abbrev cd_X10_high : Cond := Cond.code yX10_high cX10_high 3 (some .int)
theorem cm_X10_high : cd_X10_high ∈ wsL_law := (tw13 (i := 21) rfl)
theorem hd_X10_high : yX10_high.cls = RX10 ∧ yX10_high.cls ≠ "java/lang/invoke/MethodHandle" ∧ yX10_high.cls ≠ "java/lang/invoke/VarHandle" ∧ (parseMethodDescriptor yX10_high.desc).map (fun d => d.parameters.length) = some 2 := by decide +kernel
abbrev cd_X10_isTower : Cond := Cond.code yX10_isTower cX10_isTower 2 (some .boolean)
theorem cm_X10_isTower : cd_X10_isTower ∈ wsL_law := (tw14 (i := 1) rfl)
theorem hd_X10_isTower : yX10_isTower.cls = RX10 ∧ yX10_isTower.cls ≠ "java/lang/invoke/MethodHandle" ∧ yX10_isTower.cls ≠ "java/lang/invoke/VarHandle" ∧ (parseMethodDescriptor yX10_isTower.desc).map (fun d => d.parameters.length) = some 1 := by decide +kernel
abbrev cd_X10_change : Cond := Cond.code yX10_change cX10_change 4 (some .int)
theorem cm_X10_change : cd_X10_change ∈ wsL_law := (tw14 (i := 5) rfl)
theorem hd_X10_change : yX10_change.cls = RX10 ∧ yX10_change.cls ≠ "java/lang/invoke/MethodHandle" ∧ yX10_change.cls ≠ "java/lang/invoke/VarHandle" ∧ (parseMethodDescriptor yX10_change.desc).map (fun d => d.parameters.length) = some 2 := by decide +kernel
abbrev cd_X10_was : Cond := Cond.code yX10_was cX10_was 2 (some .int)
theorem cm_X10_was : cd_X10_was ∈ wsL_law := (tw14 (i := 9) rfl)
theorem hd_X10_was : yX10_was.cls = RX10 ∧ yX10_was.cls ≠ "java/lang/invoke/MethodHandle" ∧ yX10_was.cls ≠ "java/lang/invoke/VarHandle" ∧ (parseMethodDescriptor yX10_was.desc).map (fun d => d.parameters.length) = some 1 := by decide +kernel
abbrev cd_X9_at : Cond := Cond.code yX9_at cX9_at 2 (some .int)
theorem cm_X9_at : cd_X9_at ∈ wsL_law := (tw14 (i := 13) rfl)
theorem hd_X9_at : yX9_at.cls = RX9 ∧ yX9_at.cls ≠ "java/lang/invoke/MethodHandle" ∧ yX9_at.cls ≠ "java/lang/invoke/VarHandle" ∧ (parseMethodDescriptor yX9_at.desc).map (fun d => d.parameters.length) = some 1 := by decide +kernel
abbrev cd_X5_in : Cond := Cond.code yX5_in cX5_in 5 (some .int)
theorem cm_X5_in : cd_X5_in ∈ wsL_law := (tw14 (i := 18) rfl)
theorem hd_X5_in : yX5_in.cls = RX5 ∧ yX5_in.cls ≠ "java/lang/invoke/MethodHandle" ∧ yX5_in.cls ≠ "java/lang/invoke/VarHandle" ∧ (parseMethodDescriptor yX5_in.desc).map (fun d => d.parameters.length) = some 1 := by decide +kernel
abbrev cd_X10_at : Cond := Cond.code yX10_at cX10_at 2 (some .int)
theorem cm_X10_at : cd_X10_at ∈ wsL_law := (tw14 (i := 22) rfl)
theorem hd_X10_at : yX10_at.cls = RX10 ∧ yX10_at.cls ≠ "java/lang/invoke/MethodHandle" ∧ yX10_at.cls ≠ "java/lang/invoke/VarHandle" ∧ (parseMethodDescriptor yX10_at.desc).map (fun d => d.parameters.length) = some 1 := by decide +kernel
abbrev cd_X9_put : Cond := Cond.code yX9_put cX9_put 8 (some .int)
theorem cm_X9_put : cd_X9_put ∈ wsL_law := (tw15 (i := 2) rfl)
theorem hd_X9_put : yX9_put.cls = RX9 ∧ yX9_put.cls ≠ "java/lang/invoke/MethodHandle" ∧ yX9_put.cls ≠ "java/lang/invoke/VarHandle" ∧ (parseMethodDescriptor yX9_put.desc).map (fun d => d.parameters.length) = some 3 := by decide +kernel
abbrev cd_X0_rowOf : Cond := Cond.code yX0_rowOf cX0_rowOf 2 (some (.array .int))
theorem cm_X0_rowOf : cd_X0_rowOf ∈ wsL_law := (tw15 (i := 7) rfl)
theorem hd_X0_rowOf : yX0_rowOf.cls = RX0 ∧ yX0_rowOf.cls ≠ "java/lang/invoke/MethodHandle" ∧ yX0_rowOf.cls ≠ "java/lang/invoke/VarHandle" ∧ (parseMethodDescriptor yX0_rowOf.desc).map (fun d => d.parameters.length) = some 1 := by decide +kernel
abbrev cd_X10_put : Cond := Cond.code yX10_put cX10_put 4 (some .int)
theorem cm_X10_put : cd_X10_put ∈ wsL_law := (tw15 (i := 12) rfl)
theorem hd_X10_put : yX10_put.cls = RX10 ∧ yX10_put.cls ≠ "java/lang/invoke/MethodHandle" ∧ yX10_put.cls ≠ "java/lang/invoke/VarHandle" ∧ (parseMethodDescriptor yX10_put.desc).map (fun d => d.parameters.length) = some 3 := by decide +kernel
abbrev cd_X9_of : Cond := Cond.code yX9_of cX9_of 3 (some .int)
theorem cm_X9_of : cd_X9_of ∈ wsL_law := (tw15 (i := 18) rfl)
theorem hd_X9_of : yX9_of.cls = RX9 ∧ yX9_of.cls ≠ "java/lang/invoke/MethodHandle" ∧ yX9_of.cls ≠ "java/lang/invoke/VarHandle" ∧ (parseMethodDescriptor yX9_of.desc).map (fun d => d.parameters.length) = some 2 := by decide +kernel
abbrev cd_X10_of : Cond := Cond.code yX10_of cX10_of 3 (some .int)
theorem cm_X10_of : cd_X10_of ∈ wsL_law := (tw15 (i := 22) rfl)
theorem hd_X10_of : yX10_of.cls = RX10 ∧ yX10_of.cls ≠ "java/lang/invoke/MethodHandle" ∧ yX10_of.cls ≠ "java/lang/invoke/VarHandle" ∧ (parseMethodDescriptor yX10_of.desc).map (fun d => d.parameters.length) = some 2 := by decide +kernel
abbrev cd_X9_line : Cond := Cond.code yX9_line cX9_line 7 (some .int)
theorem cm_X9_line : cd_X9_line ∈ wsL_law := (tw16 (i := 2) rfl)
theorem hd_X9_line : yX9_line.cls = RX9 ∧ yX9_line.cls ≠ "java/lang/invoke/MethodHandle" ∧ yX9_line.cls ≠ "java/lang/invoke/VarHandle" ∧ (parseMethodDescriptor yX9_line.desc).map (fun d => d.parameters.length) = some 3 := by decide +kernel
abbrev cd_X10_line : Cond := Cond.code yX10_line cX10_line 5 (some .int)
theorem cm_X10_line : cd_X10_line ∈ wsL_law := (tw16 (i := 8) rfl)
theorem hd_X10_line : yX10_line.cls = RX10 ∧ yX10_line.cls ≠ "java/lang/invoke/MethodHandle" ∧ yX10_line.cls ≠ "java/lang/invoke/VarHandle" ∧ (parseMethodDescriptor yX10_line.desc).map (fun d => d.parameters.length) = some 3 := by decide +kernel
abbrev cd_X10_isUse : Cond := Cond.code yX10_isUse cX10_isUse 1 (some .boolean)
theorem cm_X10_isUse : cd_X10_isUse ∈ wsL_law := (tw16 (i := 12) rfl)
theorem hd_X10_isUse : yX10_isUse.cls = RX10 ∧ yX10_isUse.cls ≠ "java/lang/invoke/MethodHandle" ∧ yX10_isUse.cls ≠ "java/lang/invoke/VarHandle" ∧ (parseMethodDescriptor yX10_isUse.desc).map (fun d => d.parameters.length) = some 1 := by decide +kernel
abbrev cd_X9_hours : Cond := Cond.code yX9_hours cX9_hours 4 (some .int)
theorem cm_X9_hours : cd_X9_hours ∈ wsL_law := (tw16 (i := 16) rfl)
theorem hd_X9_hours : yX9_hours.cls = RX9 ∧ yX9_hours.cls ≠ "java/lang/invoke/MethodHandle" ∧ yX9_hours.cls ≠ "java/lang/invoke/VarHandle" ∧ (parseMethodDescriptor yX9_hours.desc).map (fun d => d.parameters.length) = some 3 := by decide +kernel
abbrev cd_X9_isWay : Cond := Cond.code yX9_isWay cX9_isWay 1 (some .boolean)
theorem cm_X9_isWay : cd_X9_isWay ∈ wsL_law := (tw16 (i := 19) rfl)
theorem hd_X9_isWay : yX9_isWay.cls = RX9 ∧ yX9_isWay.cls ≠ "java/lang/invoke/MethodHandle" ∧ yX9_isWay.cls ≠ "java/lang/invoke/VarHandle" ∧ (parseMethodDescriptor yX9_isWay.desc).map (fun d => d.parameters.length) = some 1 := by decide +kernel
abbrev cd_X9_isPace : Cond := Cond.code yX9_isPace cX9_isPace 1 (some .boolean)
theorem cm_X9_isPace : cd_X9_isPace ∈ wsL_law := (tw16 (i := 22) rfl)
theorem hd_X9_isPace : yX9_isPace.cls = RX9 ∧ yX9_isPace.cls ≠ "java/lang/invoke/MethodHandle" ∧ yX9_isPace.cls ≠ "java/lang/invoke/VarHandle" ∧ (parseMethodDescriptor yX9_isPace.desc).map (fun d => d.parameters.length) = some 1 := by decide +kernel
abbrev cd_X3_setHours : Cond := Cond.code yX3_setHours cX3_setHours 5 (some .int)
theorem cm_X3_setHours : cd_X3_setHours ∈ wsL_law := (tw17 (i := 2) rfl)
theorem hd_X3_setHours : yX3_setHours.cls = RX3 ∧ yX3_setHours.cls ≠ "java/lang/invoke/MethodHandle" ∧ yX3_setHours.cls ≠ "java/lang/invoke/VarHandle" ∧ (parseMethodDescriptor yX3_setHours.desc).map (fun d => d.parameters.length) = some 3 := by decide +kernel
abbrev cd_X10_hours : Cond := Cond.code yX10_hours cX10_hours 4 (some .int)
theorem cm_X10_hours : cd_X10_hours ∈ wsL_law := (tw17 (i := 6) rfl)
theorem hd_X10_hours : yX10_hours.cls = RX10 ∧ yX10_hours.cls ≠ "java/lang/invoke/MethodHandle" ∧ yX10_hours.cls ≠ "java/lang/invoke/VarHandle" ∧ (parseMethodDescriptor yX10_hours.desc).map (fun d => d.parameters.length) = some 3 := by decide +kernel
abbrev cd_X10_isWay : Cond := Cond.code yX10_isWay cX10_isWay 1 (some .boolean)
theorem cm_X10_isWay : cd_X10_isWay ∈ wsL_law := (tw17 (i := 10) rfl)
theorem hd_X10_isWay : yX10_isWay.cls = RX10 ∧ yX10_isWay.cls ≠ "java/lang/invoke/MethodHandle" ∧ yX10_isWay.cls ≠ "java/lang/invoke/VarHandle" ∧ (parseMethodDescriptor yX10_isWay.desc).map (fun d => d.parameters.length) = some 1 := by decide +kernel
abbrev cd_X9_feed : Cond := Cond.code yX9_feed cX9_feed 6 (some .int)
theorem cm_X9_feed : cd_X9_feed ∈ wsL_law := (tw17 (i := 14) rfl)
theorem hd_X9_feed : yX9_feed.cls = RX9 ∧ yX9_feed.cls ≠ "java/lang/invoke/MethodHandle" ∧ yX9_feed.cls ≠ "java/lang/invoke/VarHandle" ∧ (parseMethodDescriptor yX9_feed.desc).map (fun d => d.parameters.length) = some 5 := by decide +kernel
abbrev cd_X9_feedOne : Cond := Cond.code yX9_feedOne cX9_feedOne 3 none
theorem cm_X9_feedOne : cd_X9_feedOne ∈ wsL_law := (tw17 (i := 18) rfl)
theorem hd_X9_feedOne : yX9_feedOne.cls = RX9 ∧ yX9_feedOne.cls ≠ "java/lang/invoke/MethodHandle" ∧ yX9_feedOne.cls ≠ "java/lang/invoke/VarHandle" ∧ (parseMethodDescriptor yX9_feedOne.desc).map (fun d => d.parameters.length) = some 1 := by decide +kernel
abbrev cd_X10_feed : Cond := Cond.code yX10_feed cX10_feed 6 (some .int)
theorem cm_X10_feed : cd_X10_feed ∈ wsL_law := (tw17 (i := 22) rfl)
theorem hd_X10_feed : yX10_feed.cls = RX10 ∧ yX10_feed.cls ≠ "java/lang/invoke/MethodHandle" ∧ yX10_feed.cls ≠ "java/lang/invoke/VarHandle" ∧ (parseMethodDescriptor yX10_feed.desc).map (fun d => d.parameters.length) = some 5 := by decide +kernel
abbrev cd_X10_four : Cond := Cond.code yX10_four cX10_four 3 none
theorem cm_X10_four : cd_X10_four ∈ wsL_law := (tw18 (i := 3) rfl)
theorem hd_X10_four : yX10_four.cls = RX10 ∧ yX10_four.cls ≠ "java/lang/invoke/MethodHandle" ∧ yX10_four.cls ≠ "java/lang/invoke/VarHandle" ∧ (parseMethodDescriptor yX10_four.desc).map (fun d => d.parameters.length) = some 1 := by decide +kernel
abbrev cd_X9_end : Cond := Cond.code yX9_end cX9_end 2 (some .int)
theorem cm_X9_end : cd_X9_end ∈ wsL_law := (tw18 (i := 7) rfl)
theorem hd_X9_end : yX9_end.cls = RX9 ∧ yX9_end.cls ≠ "java/lang/invoke/MethodHandle" ∧ yX9_end.cls ≠ "java/lang/invoke/VarHandle" ∧ (parseMethodDescriptor yX9_end.desc).map (fun d => d.parameters.length) = some 1 := by decide +kernel
abbrev cd_X10_end : Cond := Cond.code yX10_end cX10_end 2 (some .int)
theorem cm_X10_end : cd_X10_end ∈ wsL_law := (tw18 (i := 11) rfl)
theorem hd_X10_end : yX10_end.cls = RX10 ∧ yX10_end.cls ≠ "java/lang/invoke/MethodHandle" ∧ yX10_end.cls ≠ "java/lang/invoke/VarHandle" ∧ (parseMethodDescriptor yX10_end.desc).map (fun d => d.parameters.length) = some 1 := by decide +kernel
abbrev cd_X9_row : Cond := Cond.code yX9_row cX9_row 4 (some .int)
theorem cm_X9_row : cd_X9_row ∈ wsL_law := (tw18 (i := 15) rfl)
theorem hd_X9_row : yX9_row.cls = RX9 ∧ yX9_row.cls ≠ "java/lang/invoke/MethodHandle" ∧ yX9_row.cls ≠ "java/lang/invoke/VarHandle" ∧ (parseMethodDescriptor yX9_row.desc).map (fun d => d.parameters.length) = some 0 := by decide +kernel
abbrev cd_X3_allHours : Cond := Cond.code yX3_allHours cX3_allHours 1 (some .int)
theorem cm_X3_allHours : cd_X3_allHours ∈ wsL_law := (tw18 (i := 22) rfl)
theorem hd_X3_allHours : yX3_allHours.cls = RX3 ∧ yX3_allHours.cls ≠ "java/lang/invoke/MethodHandle" ∧ yX3_allHours.cls ≠ "java/lang/invoke/VarHandle" ∧ (parseMethodDescriptor yX3_allHours.desc).map (fun d => d.parameters.length) = some 0 := by decide +kernel
abbrev cd_X10_row : Cond := Cond.code yX10_row cX10_row 5 (some .int)
theorem cm_X10_row : cd_X10_row ∈ wsL_law := (tw19 (i := 2) rfl)
theorem hd_X10_row : yX10_row.cls = RX10 ∧ yX10_row.cls ≠ "java/lang/invoke/MethodHandle" ∧ yX10_row.cls ≠ "java/lang/invoke/VarHandle" ∧ (parseMethodDescriptor yX10_row.desc).map (fun d => d.parameters.length) = some 0 := by decide +kernel
abbrev cd_X10_allHours : Cond := Cond.code yX10_allHours cX10_allHours 3 (some .int)
theorem cm_X10_allHours : cd_X10_allHours ∈ wsL_law := (tw19 (i := 7) rfl)
theorem hd_X10_allHours : yX10_allHours.cls = RX10 ∧ yX10_allHours.cls ≠ "java/lang/invoke/MethodHandle" ∧ yX10_allHours.cls ≠ "java/lang/invoke/VarHandle" ∧ (parseMethodDescriptor yX10_allHours.desc).map (fun d => d.parameters.length) = some 0 := by decide +kernel
abbrev cd_X9_torn : Cond := Cond.code yX9_torn cX9_torn 1 (some .int)
theorem cm_X9_torn : cd_X9_torn ∈ wsL_law := (tw19 (i := 11) rfl)
theorem hd_X9_torn : yX9_torn.cls = RX9 ∧ yX9_torn.cls ≠ "java/lang/invoke/MethodHandle" ∧ yX9_torn.cls ≠ "java/lang/invoke/VarHandle" ∧ (parseMethodDescriptor yX9_torn.desc).map (fun d => d.parameters.length) = some 0 := by decide +kernel
abbrev cd_X10_torn : Cond := Cond.code yX10_torn cX10_torn 1 (some .int)
theorem cm_X10_torn : cd_X10_torn ∈ wsL_law := (tw19 (i := 15) rfl)
theorem hd_X10_torn : yX10_torn.cls = RX10 ∧ yX10_torn.cls ≠ "java/lang/invoke/MethodHandle" ∧ yX10_torn.cls ≠ "java/lang/invoke/VarHandle" ∧ (parseMethodDescriptor yX10_torn.desc).map (fun d => d.parameters.length) = some 0 := by decide +kernel
abbrev cd_X9_law : Cond := Cond.code yX9_law cX9_law 3 (some .int)
theorem cm_X9_law : cd_X9_law ∈ wsL_law := (tw19 (i := 19) rfl)
theorem hd_X9_law : yX9_law.cls = RX9 ∧ yX9_law.cls ≠ "java/lang/invoke/MethodHandle" ∧ yX9_law.cls ≠ "java/lang/invoke/VarHandle" ∧ (parseMethodDescriptor yX9_law.desc).map (fun d => d.parameters.length) = some 0 := by decide +kernel
abbrev cd_X2_read : Cond := Cond.code yX2_read cX2_read 4 (some (.object "TowerFoot$Law"))
theorem cm_X2_read : cd_X2_read ∈ wsL_law := (tw20 (i := 1) rfl)
theorem hd_X2_read : yX2_read.cls = RX2 ∧ yX2_read.cls ≠ "java/lang/invoke/MethodHandle" ∧ yX2_read.cls ≠ "java/lang/invoke/VarHandle" ∧ (parseMethodDescriptor yX2_read.desc).map (fun d => d.parameters.length) = some 2 := by decide +kernel
abbrev cd_X4_cut : Cond := Cond.code yX4_cut cX4_cut 4 none
theorem cm_X4_cut : cd_X4_cut ∈ wsL_law := (tw20 (i := 9) rfl)
theorem hd_X4_cut : yX4_cut.cls = RX4 ∧ yX4_cut.cls ≠ "java/lang/invoke/MethodHandle" ∧ yX4_cut.cls ≠ "java/lang/invoke/VarHandle" ∧ (parseMethodDescriptor yX4_cut.desc).map (fun d => d.parameters.length) = some 2 := by decide +kernel
abbrev cd_X4_goesOn : Cond := Cond.code yX4_goesOn cX4_goesOn 2 (some .boolean)
theorem cm_X4_goesOn : cd_X4_goesOn ∈ wsL_law := (tw20 (i := 15) rfl)
theorem hd_X4_goesOn : yX4_goesOn.cls = RX4 ∧ yX4_goesOn.cls ≠ "java/lang/invoke/MethodHandle" ∧ yX4_goesOn.cls ≠ "java/lang/invoke/VarHandle" ∧ (parseMethodDescriptor yX4_goesOn.desc).map (fun d => d.parameters.length) = some 1 := by decide +kernel
abbrev cd_X4_isLetter : Cond := Cond.code yX4_isLetter cX4_isLetter 1 (some .boolean)
theorem cm_X4_isLetter : cd_X4_isLetter ∈ wsL_law := (tw20 (i := 18) rfl)
theorem hd_X4_isLetter : yX4_isLetter.cls = RX4 ∧ yX4_isLetter.cls ≠ "java/lang/invoke/MethodHandle" ∧ yX4_isLetter.cls ≠ "java/lang/invoke/VarHandle" ∧ (parseMethodDescriptor yX4_isLetter.desc).map (fun d => d.parameters.length) = some 1 := by decide +kernel
abbrev cd_X4_isDigit : Cond := Cond.code yX4_isDigit cX4_isDigit 1 (some .boolean)
theorem cm_X4_isDigit : cd_X4_isDigit ∈ wsL_law := (tw20 (i := 21) rfl)
theorem hd_X4_isDigit : yX4_isDigit.cls = RX4 ∧ yX4_isDigit.cls ≠ "java/lang/invoke/MethodHandle" ∧ yX4_isDigit.cls ≠ "java/lang/invoke/VarHandle" ∧ (parseMethodDescriptor yX4_isDigit.desc).map (fun d => d.parameters.length) = some 1 := by decide +kernel
abbrev cd_X4_sortFrom : Cond := Cond.code yX4_sortFrom cX4_sortFrom 2 (some .int)
theorem cm_X4_sortFrom : cd_X4_sortFrom ∈ wsL_law := (tw21 (i := 1) rfl)
theorem hd_X4_sortFrom : yX4_sortFrom.cls = RX4 ∧ yX4_sortFrom.cls ≠ "java/lang/invoke/MethodHandle" ∧ yX4_sortFrom.cls ≠ "java/lang/invoke/VarHandle" ∧ (parseMethodDescriptor yX4_sortFrom.desc).map (fun d => d.parameters.length) = some 1 := by decide +kernel
abbrev cd_X4_wordFrom : Cond := Cond.code yX4_wordFrom cX4_wordFrom 2 (some .int)
theorem cm_X4_wordFrom : cd_X4_wordFrom ∈ wsL_law := (tw21 (i := 5) rfl)
theorem hd_X4_wordFrom : yX4_wordFrom.cls = RX4 ∧ yX4_wordFrom.cls ≠ "java/lang/invoke/MethodHandle" ∧ yX4_wordFrom.cls ≠ "java/lang/invoke/VarHandle" ∧ (parseMethodDescriptor yX4_wordFrom.desc).map (fun d => d.parameters.length) = some 1 := by decide +kernel
abbrev cd_X4_spells : Cond := Cond.code yX4_spells cX4_spells 5 (some .boolean)
theorem cm_X4_spells : cd_X4_spells ∈ wsL_law := (tw21 (i := 9) rfl)
theorem hd_X4_spells : yX4_spells.cls = RX4 ∧ yX4_spells.cls ≠ "java/lang/invoke/MethodHandle" ∧ yX4_spells.cls ≠ "java/lang/invoke/VarHandle" ∧ (parseMethodDescriptor yX4_spells.desc).map (fun d => d.parameters.length) = some 2 := by decide +kernel
abbrev cd_J0_length_8abf5 : Cond := Cond.code yJ0_length_8abf5 cJ0_length_8abf5 1 (some .int)
theorem cm_J0_length_8abf5 : cd_J0_length_8abf5 ∈ wsL_law := (tw21 (i := 14) rfl)
theorem hd_J0_length_8abf5 : yJ0_length_8abf5.cls = RJ0 ∧ yJ0_length_8abf5.cls ≠ "java/lang/invoke/MethodHandle" ∧ yJ0_length_8abf5.cls ≠ "java/lang/invoke/VarHandle" ∧ (parseMethodDescriptor yJ0_length_8abf5.desc).map (fun d => d.parameters.length) = some 0 := by decide +kernel
abbrev cd_J0_coder_7d493 : Cond := Cond.code yJ0_coder_7d493 cJ0_coder_7d493 1 (some .byte)
theorem cm_J0_coder_7d493 : cd_J0_coder_7d493 ∈ wsL_law := (tw21 (i := 19) rfl)
theorem hd_J0_coder_7d493 : yJ0_coder_7d493.cls = RJ0 ∧ yJ0_coder_7d493.cls ≠ "java/lang/invoke/MethodHandle" ∧ yJ0_coder_7d493.cls ≠ "java/lang/invoke/VarHandle" ∧ (parseMethodDescriptor yJ0_coder_7d493.desc).map (fun d => d.parameters.length) = some 0 := by decide +kernel
abbrev cd_J0_charAt_5068e : Cond := Cond.code yJ0_charAt_5068e cJ0_charAt_5068e 2 (some .char)
theorem cm_J0_charAt_5068e : cd_J0_charAt_5068e ∈ wsL_law := (tw22 (i := 1) rfl)
theorem hd_J0_charAt_5068e : yJ0_charAt_5068e.cls = RJ0 ∧ yJ0_charAt_5068e.cls ≠ "java/lang/invoke/MethodHandle" ∧ yJ0_charAt_5068e.cls ≠ "java/lang/invoke/VarHandle" ∧ (parseMethodDescriptor yJ0_charAt_5068e.desc).map (fun d => d.parameters.length) = some 1 := by decide +kernel
abbrev cd_J0_isLatin1_aae02 : Cond := Cond.code yJ0_isLatin1_aae02 cJ0_isLatin1_aae02 1 (some .boolean)
theorem cm_J0_isLatin1_aae02 : cd_J0_isLatin1_aae02 ∈ wsL_law := (tw22 (i := 5) rfl)
theorem hd_J0_isLatin1_aae02 : yJ0_isLatin1_aae02.cls = RJ0 ∧ yJ0_isLatin1_aae02.cls ≠ "java/lang/invoke/MethodHandle" ∧ yJ0_isLatin1_aae02.cls ≠ "java/lang/invoke/VarHandle" ∧ (parseMethodDescriptor yJ0_isLatin1_aae02.desc).map (fun d => d.parameters.length) = some 0 := by decide +kernel
abbrev cd_J1_charAt_3b067 : Cond := Cond.code yJ1_charAt_3b067 cJ1_charAt_3b067 2 (some .char)
theorem cm_J1_charAt_3b067 : cd_J1_charAt_3b067 ∈ wsL_law := (tw22 (i := 9) rfl)
theorem hd_J1_charAt_3b067 : yJ1_charAt_3b067.cls = RJ1 ∧ yJ1_charAt_3b067.cls ≠ "java/lang/invoke/MethodHandle" ∧ yJ1_charAt_3b067.cls ≠ "java/lang/invoke/VarHandle" ∧ (parseMethodDescriptor yJ1_charAt_3b067.desc).map (fun d => d.parameters.length) = some 2 := by decide +kernel
abbrev cd_J0_checkIndex_df160 : Cond := Cond.code yJ0_checkIndex_df160 cJ0_checkIndex_df160 2 none
theorem cm_J0_checkIndex_df160 : cd_J0_checkIndex_df160 ∈ wsL_law := (tw22 (i := 12) rfl)
theorem hd_J0_checkIndex_df160 : yJ0_checkIndex_df160.cls = RJ0 ∧ yJ0_checkIndex_df160.cls ≠ "java/lang/invoke/MethodHandle" ∧ yJ0_checkIndex_df160.cls ≠ "java/lang/invoke/VarHandle" ∧ (parseMethodDescriptor yJ0_checkIndex_df160.desc).map (fun d => d.parameters.length) = some 2 := by decide +kernel
abbrev cd_J3_checkIndex_8e157 : Cond := Cond.code yJ3_checkIndex_8e157 cJ3_checkIndex_8e157 3 (some .int)
theorem cm_J3_checkIndex_8e157 : cd_J3_checkIndex_8e157 ∈ wsL_law := (tw22 (i := 17) rfl)
theorem hd_J3_checkIndex_8e157 : yJ3_checkIndex_8e157.cls = RJ3 ∧ yJ3_checkIndex_8e157.cls ≠ "java/lang/invoke/MethodHandle" ∧ yJ3_checkIndex_8e157.cls ≠ "java/lang/invoke/VarHandle" ∧ (parseMethodDescriptor yJ3_checkIndex_8e157.desc).map (fun d => d.parameters.length) = some 3 := by decide +kernel
abbrev cd_J2_charAt_3b067 : Cond := Cond.code yJ2_charAt_3b067 cJ2_charAt_3b067 2 (some .char)
theorem cm_J2_charAt_3b067 : cd_J2_charAt_3b067 ∈ wsL_law := (tw22 (i := 21) rfl)
theorem hd_J2_charAt_3b067 : yJ2_charAt_3b067.cls = RJ2 ∧ yJ2_charAt_3b067.cls ≠ "java/lang/invoke/MethodHandle" ∧ yJ2_charAt_3b067.cls ≠ "java/lang/invoke/VarHandle" ∧ (parseMethodDescriptor yJ2_charAt_3b067.desc).map (fun d => d.parameters.length) = some 2 := by decide +kernel
abbrev cd_J2_checkIndex_2214a : Cond := Cond.code yJ2_checkIndex_2214a cJ2_checkIndex_2214a 2 none
theorem cm_J2_checkIndex_2214a : cd_J2_checkIndex_2214a ∈ wsL_law := (tw23 (i := 0) rfl)
theorem hd_J2_checkIndex_2214a : yJ2_checkIndex_2214a.cls = RJ2 ∧ yJ2_checkIndex_2214a.cls ≠ "java/lang/invoke/MethodHandle" ∧ yJ2_checkIndex_2214a.cls ≠ "java/lang/invoke/VarHandle" ∧ (parseMethodDescriptor yJ2_checkIndex_2214a.desc).map (fun d => d.parameters.length) = some 2 := by decide +kernel
abbrev cd_J2_length_9d52b : Cond := Cond.code yJ2_length_9d52b cJ2_length_9d52b 1 (some .int)
theorem cm_J2_length_9d52b : cd_J2_length_9d52b ∈ wsL_law := (tw23 (i := 3) rfl)
theorem hd_J2_length_9d52b : yJ2_length_9d52b.cls = RJ2 ∧ yJ2_length_9d52b.cls ≠ "java/lang/invoke/MethodHandle" ∧ yJ2_length_9d52b.cls ≠ "java/lang/invoke/VarHandle" ∧ (parseMethodDescriptor yJ2_length_9d52b.desc).map (fun d => d.parameters.length) = some 1 := by decide +kernel
abbrev cd_J2_getChar_3b067 : Cond := Cond.code yJ2_getChar_3b067 cJ2_getChar_3b067 2 (some .char)
theorem cm_J2_getChar_3b067 : cd_J2_getChar_3b067 ∈ wsL_law := (tw23 (i := 7) rfl)
theorem hd_J2_getChar_3b067 : yJ2_getChar_3b067.cls = RJ2 ∧ yJ2_getChar_3b067.cls ≠ "java/lang/invoke/MethodHandle" ∧ yJ2_getChar_3b067.cls ≠ "java/lang/invoke/VarHandle" ∧ (parseMethodDescriptor yJ2_getChar_3b067.desc).map (fun d => d.parameters.length) = some 2 := by decide +kernel
abbrev cd_X4_numberFrom : Cond := Cond.code yX4_numberFrom cX4_numberFrom 4 (some .int)
theorem cm_X4_numberFrom : cd_X4_numberFrom ∈ wsL_law := (tw23 (i := 14) rfl)
theorem hd_X4_numberFrom : yX4_numberFrom.cls = RX4 ∧ yX4_numberFrom.cls ≠ "java/lang/invoke/MethodHandle" ∧ yX4_numberFrom.cls ≠ "java/lang/invoke/VarHandle" ∧ (parseMethodDescriptor yX4_numberFrom.desc).map (fun d => d.parameters.length) = some 1 := by decide +kernel
abbrev cd_X4_add : Cond := Cond.code yX4_add cX4_add 3 none
theorem cm_X4_add : cd_X4_add ∈ wsL_law := (tw23 (i := 18) rfl)
theorem hd_X4_add : yX4_add.cls = RX4 ∧ yX4_add.cls ≠ "java/lang/invoke/MethodHandle" ∧ yX4_add.cls ≠ "java/lang/invoke/VarHandle" ∧ (parseMethodDescriptor yX4_add.desc).map (fun d => d.parameters.length) = some 2 := by decide +kernel
abbrev cd_X2_readClause : Cond := Cond.code yX2_readClause cX2_readClause 2 (some .boolean)
theorem cm_X2_readClause : cd_X2_readClause ∈ wsL_law := (tw23 (i := 22) rfl)
theorem hd_X2_readClause : yX2_readClause.cls = RX2 ∧ yX2_readClause.cls ≠ "java/lang/invoke/MethodHandle" ∧ yX2_readClause.cls ≠ "java/lang/invoke/VarHandle" ∧ (parseMethodDescriptor yX2_readClause.desc).map (fun d => d.parameters.length) = some 1 := by decide +kernel
abbrev cd_X2_failHere : Cond := Cond.code yX2_failHere cX2_failHere 1 (some .boolean)
theorem cm_X2_failHere : cd_X2_failHere ∈ wsL_law := (tw24 (i := 2) rfl)
theorem hd_X2_failHere : yX2_failHere.cls = RX2 ∧ yX2_failHere.cls ≠ "java/lang/invoke/MethodHandle" ∧ yX2_failHere.cls ≠ "java/lang/invoke/VarHandle" ∧ (parseMethodDescriptor yX2_failHere.desc).map (fun d => d.parameters.length) = some 0 := by decide +kernel
abbrev cd_X2_pass : Cond := Cond.code yX2_pass cX2_pass 2 (some .boolean)
theorem cm_X2_pass : cd_X2_pass ∈ wsL_law := (tw24 (i := 7) rfl)
theorem hd_X2_pass : yX2_pass.cls = RX2 ∧ yX2_pass.cls ≠ "java/lang/invoke/MethodHandle" ∧ yX2_pass.cls ≠ "java/lang/invoke/VarHandle" ∧ (parseMethodDescriptor yX2_pass.desc).map (fun d => d.parameters.length) = some 1 := by decide +kernel
abbrev cd_X2_next : Cond := Cond.code yX2_next cX2_next 1 none
theorem cm_X2_next : cd_X2_next ∈ wsL_law := (tw24 (i := 11) rfl)
theorem hd_X2_next : yX2_next.cls = RX2 ∧ yX2_next.cls ≠ "java/lang/invoke/MethodHandle" ∧ yX2_next.cls ≠ "java/lang/invoke/VarHandle" ∧ (parseMethodDescriptor yX2_next.desc).map (fun d => d.parameters.length) = some 0 := by decide +kernel
abbrev cd_X2_readSum : Cond := Cond.code yX2_readSum cX2_readSum 4 (some .boolean)
theorem cm_X2_readSum : cd_X2_readSum ∈ wsL_law := (tw24 (i := 17) rfl)
theorem hd_X2_readSum : yX2_readSum.cls = RX2 ∧ yX2_readSum.cls ≠ "java/lang/invoke/MethodHandle" ∧ yX2_readSum.cls ≠ "java/lang/invoke/VarHandle" ∧ (parseMethodDescriptor yX2_readSum.desc).map (fun d => d.parameters.length) = some 1 := by decide +kernel
abbrev cd_X2_add : Cond := Cond.code yX2_add cX2_add 3 none
theorem cm_X2_add : cd_X2_add ∈ wsL_law := (tw25 (i := 0) rfl)
theorem hd_X2_add : yX2_add.cls = RX2 ∧ yX2_add.cls ≠ "java/lang/invoke/MethodHandle" ∧ yX2_add.cls ≠ "java/lang/invoke/VarHandle" ∧ (parseMethodDescriptor yX2_add.desc).map (fun d => d.parameters.length) = some 2 := by decide +kernel
abbrev cd_X2_readPart : Cond := Cond.code yX2_readPart cX2_readPart 4 (some .boolean)
theorem cm_X2_readPart : cd_X2_readPart ∈ wsL_law := (tw25 (i := 1) rfl)
theorem hd_X2_readPart : yX2_readPart.cls = RX2 ∧ yX2_readPart.cls ≠ "java/lang/invoke/MethodHandle" ∧ yX2_readPart.cls ≠ "java/lang/invoke/VarHandle" ∧ (parseMethodDescriptor yX2_readPart.desc).map (fun d => d.parameters.length) = some 1 := by decide +kernel
abbrev cd_X2_readTerm : Cond := Cond.code yX2_readTerm cX2_readTerm 4 (some .boolean)
theorem cm_X2_readTerm : cd_X2_readTerm ∈ wsL_law := (tw25 (i := 2) rfl)
theorem hd_X2_readTerm : yX2_readTerm.cls = RX2 ∧ yX2_readTerm.cls ≠ "java/lang/invoke/MethodHandle" ∧ yX2_readTerm.cls ≠ "java/lang/invoke/VarHandle" ∧ (parseMethodDescriptor yX2_readTerm.desc).map (fun d => d.parameters.length) = some 1 := by decide +kernel
abbrev cd_X2_readTest : Cond := Cond.code yX2_readTest cX2_readTest 4 (some .boolean)
theorem cm_X2_readTest : cd_X2_readTest ∈ wsL_law := (tw25 (i := 9) rfl)
theorem hd_X2_readTest : yX2_readTest.cls = RX2 ∧ yX2_readTest.cls ≠ "java/lang/invoke/MethodHandle" ∧ yX2_readTest.cls ≠ "java/lang/invoke/VarHandle" ∧ (parseMethodDescriptor yX2_readTest.desc).map (fun d => d.parameters.length) = some 1 := by decide +kernel
abbrev cd_X2_addJump : Cond := Cond.code yX2_addJump cX2_addJump 3 (some .int)
theorem cm_X2_addJump : cd_X2_addJump ∈ wsL_law := (tw25 (i := 16) rfl)
theorem hd_X2_addJump : yX2_addJump.cls = RX2 ∧ yX2_addJump.cls ≠ "java/lang/invoke/MethodHandle" ∧ yX2_addJump.cls ≠ "java/lang/invoke/VarHandle" ∧ (parseMethodDescriptor yX2_addJump.desc).map (fun d => d.parameters.length) = some 2 := by decide +kernel
abbrev cd_X2_landHere : Cond := Cond.code yX2_landHere cX2_landHere 5 none
theorem cm_X2_landHere : cd_X2_landHere ∈ wsL_law := (tw25 (i := 20) rfl)
theorem hd_X2_landHere : yX2_landHere.cls = RX2 ∧ yX2_landHere.cls ≠ "java/lang/invoke/MethodHandle" ∧ yX2_landHere.cls ≠ "java/lang/invoke/VarHandle" ∧ (parseMethodDescriptor yX2_landHere.desc).map (fun d => d.parameters.length) = some 1 := by decide +kernel
abbrev cd_X2_readBoth : Cond := Cond.code yX2_readBoth cX2_readBoth 4 (some .boolean)
theorem cm_X2_readBoth : cd_X2_readBoth ∈ wsL_law := (tw25 (i := 21) rfl)
theorem hd_X2_readBoth : yX2_readBoth.cls = RX2 ∧ yX2_readBoth.cls ≠ "java/lang/invoke/MethodHandle" ∧ yX2_readBoth.cls ≠ "java/lang/invoke/VarHandle" ∧ (parseMethodDescriptor yX2_readBoth.desc).map (fun d => d.parameters.length) = some 1 := by decide +kernel
abbrev cd_X2_readPlain : Cond := Cond.code yX2_readPlain cX2_readPlain 3 (some .boolean)
theorem cm_X2_readPlain : cd_X2_readPlain ∈ wsL_law := (tw26 (i := 1) rfl)
theorem hd_X2_readPlain : yX2_readPlain.cls = RX2 ∧ yX2_readPlain.cls ≠ "java/lang/invoke/MethodHandle" ∧ yX2_readPlain.cls ≠ "java/lang/invoke/VarHandle" ∧ (parseMethodDescriptor yX2_readPlain.desc).map (fun d => d.parameters.length) = some 1 := by decide +kernel
abbrev cd_X2_readComparison : Cond := Cond.code yX2_readComparison cX2_readComparison 3 (some .boolean)
theorem cm_X2_readComparison : cd_X2_readComparison ∈ wsL_law := (tw26 (i := 5) rfl)
theorem hd_X2_readComparison : yX2_readComparison.cls = RX2 ∧ yX2_readComparison.cls ≠ "java/lang/invoke/MethodHandle" ∧ yX2_readComparison.cls ≠ "java/lang/invoke/VarHandle" ∧ (parseMethodDescriptor yX2_readComparison.desc).map (fun d => d.parameters.length) = some 1 := by decide +kernel
abbrev cd_J7_copyOf_59c91 : Cond := Cond.code yJ7_copyOf_59c91 cJ7_copyOf_59c91 3 (some (.array .int))
theorem cm_J7_copyOf_59c91 : cd_J7_copyOf_59c91 ∈ wsL_law := (tw26 (i := 9) rfl)
theorem hd_J7_copyOf_59c91 : yJ7_copyOf_59c91.cls = RJ7 ∧ yJ7_copyOf_59c91.cls ≠ "java/lang/invoke/MethodHandle" ∧ yJ7_copyOf_59c91.cls ≠ "java/lang/invoke/VarHandle" ∧ (parseMethodDescriptor yJ7_copyOf_59c91.desc).map (fun d => d.parameters.length) = some 2 := by decide +kernel
abbrev cd_X1_init : Cond := Cond.code yX1_init cX1_init 3 none
theorem cm_X1_init : cd_X1_init ∈ wsL_law := (tw26 (i := 23) rfl)
theorem hd_X1_init : yX1_init.cls = RX1 ∧ yX1_init.cls ≠ "java/lang/invoke/MethodHandle" ∧ yX1_init.cls ≠ "java/lang/invoke/VarHandle" ∧ (parseMethodDescriptor yX1_init.desc).map (fun d => d.parameters.length) = some 2 := by decide +kernel
abbrev cd_X3_addLaw : Cond := Cond.code yX3_addLaw cX3_addLaw 2 (some .int)
theorem cm_X3_addLaw : cd_X3_addLaw ∈ wsL_law := (tw27 (i := 6) rfl)
theorem hd_X3_addLaw : yX3_addLaw.cls = RX3 ∧ yX3_addLaw.cls ≠ "java/lang/invoke/MethodHandle" ∧ yX3_addLaw.cls ≠ "java/lang/invoke/VarHandle" ∧ (parseMethodDescriptor yX3_addLaw.desc).map (fun d => d.parameters.length) = some 1 := by decide +kernel
abbrev cd_X10_law : Cond := Cond.code yX10_law cX10_law 3 (some .int)
theorem cm_X10_law : cd_X10_law ∈ wsL_law := (tw27 (i := 10) rfl)
theorem hd_X10_law : yX10_law.cls = RX10 ∧ yX10_law.cls ≠ "java/lang/invoke/MethodHandle" ∧ yX10_law.cls ≠ "java/lang/invoke/VarHandle" ∧ (parseMethodDescriptor yX10_law.desc).map (fun d => d.parameters.length) = some 0 := by decide +kernel
abbrev cd_X10_begin : Cond := Cond.code yX10_begin cX10_begin 1 none
theorem cm_X10_begin : cd_X10_begin ∈ wsL_law := (tw27 (i := 19) rfl)
theorem hd_X10_begin : yX10_begin.cls = RX10 ∧ yX10_begin.cls ≠ "java/lang/invoke/MethodHandle" ∧ yX10_begin.cls ≠ "java/lang/invoke/VarHandle" ∧ (parseMethodDescriptor yX10_begin.desc).map (fun d => d.parameters.length) = some 0 := by decide +kernel
abbrev cd_X10_next : Cond := Cond.code yX10_next cX10_next 1 none
theorem cm_X10_next : cd_X10_next ∈ wsL_law := (tw28 (i := 0) rfl)
theorem hd_X10_next : yX10_next.cls = RX10 ∧ yX10_next.cls ≠ "java/lang/invoke/MethodHandle" ∧ yX10_next.cls ≠ "java/lang/invoke/VarHandle" ∧ (parseMethodDescriptor yX10_next.desc).map (fun d => d.parameters.length) = some 0 := by decide +kernel
abbrev cd_X10_isSmall : Cond := Cond.code yX10_isSmall cX10_isSmall 1 (some .boolean)
theorem cm_X10_isSmall : cd_X10_isSmall ∈ wsL_law := (tw28 (i := 11) rfl)
theorem hd_X10_isSmall : yX10_isSmall.cls = RX10 ∧ yX10_isSmall.cls ≠ "java/lang/invoke/MethodHandle" ∧ yX10_isSmall.cls ≠ "java/lang/invoke/VarHandle" ∧ (parseMethodDescriptor yX10_isSmall.desc).map (fun d => d.parameters.length) = some 1 := by decide +kernel
abbrev cd_X10_isDigit : Cond := Cond.code yX10_isDigit cX10_isDigit 1 (some .boolean)
theorem cm_X10_isDigit : cd_X10_isDigit ∈ wsL_law := (tw28 (i := 14) rfl)
theorem hd_X10_isDigit : yX10_isDigit.cls = RX10 ∧ yX10_isDigit.cls ≠ "java/lang/invoke/MethodHandle" ∧ yX10_isDigit.cls ≠ "java/lang/invoke/VarHandle" ∧ (parseMethodDescriptor yX10_isDigit.desc).map (fun d => d.parameters.length) = some 1 := by decide +kernel
abbrev cd_X10_readClause : Cond := Cond.code yX10_readClause cX10_readClause 3 none
theorem cm_X10_readClause : cd_X10_readClause ∈ wsL_law := (tw28 (i := 18) rfl)
theorem hd_X10_readClause : yX10_readClause.cls = RX10 ∧ yX10_readClause.cls ≠ "java/lang/invoke/MethodHandle" ∧ yX10_readClause.cls ≠ "java/lang/invoke/VarHandle" ∧ (parseMethodDescriptor yX10_readClause.desc).map (fun d => d.parameters.length) = some 0 := by decide +kernel
abbrev cd_X10_isWord : Cond := Cond.code yX10_isWord cX10_isWord 3 (some .boolean)
theorem cm_X10_isWord : cd_X10_isWord ∈ wsL_law := (tw29 (i := 0) rfl)
theorem hd_X10_isWord : yX10_isWord.cls = RX10 ∧ yX10_isWord.cls ≠ "java/lang/invoke/MethodHandle" ∧ yX10_isWord.cls ≠ "java/lang/invoke/VarHandle" ∧ (parseMethodDescriptor yX10_isWord.desc).map (fun d => d.parameters.length) = some 1 := by decide +kernel
abbrev cd_X10_must : Cond := Cond.code yX10_must cX10_must 2 none
theorem cm_X10_must : cd_X10_must ∈ wsL_law := (tw29 (i := 4) rfl)
theorem hd_X10_must : yX10_must.cls = RX10 ∧ yX10_must.cls ≠ "java/lang/invoke/MethodHandle" ∧ yX10_must.cls ≠ "java/lang/invoke/VarHandle" ∧ (parseMethodDescriptor yX10_must.desc).map (fun d => d.parameters.length) = some 1 := by decide +kernel
abbrev cd_X10_readExpression : Cond := Cond.code yX10_readExpression cX10_readExpression 3 none
theorem cm_X10_readExpression : cd_X10_readExpression ∈ wsL_law := (tw29 (i := 8) rfl)
theorem hd_X10_readExpression : yX10_readExpression.cls = RX10 ∧ yX10_readExpression.cls ≠ "java/lang/invoke/MethodHandle" ∧ yX10_readExpression.cls ≠ "java/lang/invoke/VarHandle" ∧ (parseMethodDescriptor yX10_readExpression.desc).map (fun d => d.parameters.length) = some 1 := by decide +kernel
abbrev cd_X10_readPlain : Cond := Cond.code yX10_readPlain cX10_readPlain 1 (some .int)
theorem cm_X10_readPlain : cd_X10_readPlain ∈ wsL_law := (tw29 (i := 14) rfl)
theorem hd_X10_readPlain : yX10_readPlain.cls = RX10 ∧ yX10_readPlain.cls ≠ "java/lang/invoke/MethodHandle" ∧ yX10_readPlain.cls ≠ "java/lang/invoke/VarHandle" ∧ (parseMethodDescriptor yX10_readPlain.desc).map (fun d => d.parameters.length) = some 0 := by decide +kernel
abbrev cd_X10_push : Cond := Cond.code yX10_push cX10_push 3 none
theorem cm_X10_push : cd_X10_push ∈ wsL_law := (tw29 (i := 19) rfl)
theorem hd_X10_push : yX10_push.cls = RX10 ∧ yX10_push.cls ≠ "java/lang/invoke/MethodHandle" ∧ yX10_push.cls ≠ "java/lang/invoke/VarHandle" ∧ (parseMethodDescriptor yX10_push.desc).map (fun d => d.parameters.length) = some 2 := by decide +kernel
abbrev cd_X10_isSign : Cond := Cond.code yX10_isSign cX10_isSign 2 (some .boolean)
theorem cm_X10_isSign : cd_X10_isSign ∈ wsL_law := (tw29 (i := 23) rfl)
theorem hd_X10_isSign : yX10_isSign.cls = RX10 ∧ yX10_isSign.cls ≠ "java/lang/invoke/MethodHandle" ∧ yX10_isSign.cls ≠ "java/lang/invoke/VarHandle" ∧ (parseMethodDescriptor yX10_isSign.desc).map (fun d => d.parameters.length) = some 1 := by decide +kernel
abbrev cd_X10_openBracket : Cond := Cond.code yX10_openBracket cX10_openBracket 2 none
theorem cm_X10_openBracket : cd_X10_openBracket ∈ wsL_law := (tw30 (i := 3) rfl)
theorem hd_X10_openBracket : yX10_openBracket.cls = RX10 ∧ yX10_openBracket.cls ≠ "java/lang/invoke/MethodHandle" ∧ yX10_openBracket.cls ≠ "java/lang/invoke/VarHandle" ∧ (parseMethodDescriptor yX10_openBracket.desc).map (fun d => d.parameters.length) = some 1 := by decide +kernel
abbrev cd_X10_readPart : Cond := Cond.code yX10_readPart cX10_readPart 3 (some .int)
theorem cm_X10_readPart : cd_X10_readPart ∈ wsL_law := (tw30 (i := 7) rfl)
theorem hd_X10_readPart : yX10_readPart.cls = RX10 ∧ yX10_readPart.cls ≠ "java/lang/invoke/MethodHandle" ∧ yX10_readPart.cls ≠ "java/lang/invoke/VarHandle" ∧ (parseMethodDescriptor yX10_readPart.desc).map (fun d => d.parameters.length) = some 0 := by decide +kernel
abbrev cd_X10_partAt : Cond := Cond.code yX10_partAt cX10_partAt 3 (some .int)
theorem cm_X10_partAt : cd_X10_partAt ∈ wsL_law := (tw30 (i := 12) rfl)
theorem hd_X10_partAt : yX10_partAt.cls = RX10 ∧ yX10_partAt.cls ≠ "java/lang/invoke/MethodHandle" ∧ yX10_partAt.cls ≠ "java/lang/invoke/VarHandle" ∧ (parseMethodDescriptor yX10_partAt.desc).map (fun d => d.parameters.length) = some 0 := by decide +kernel
abbrev cd_X10_leaf : Cond := Cond.code yX10_leaf cX10_leaf 4 none
theorem cm_X10_leaf : cd_X10_leaf ∈ wsL_law := (tw30 (i := 16) rfl)
theorem hd_X10_leaf : yX10_leaf.cls = RX10 ∧ yX10_leaf.cls ≠ "java/lang/invoke/MethodHandle" ∧ yX10_leaf.cls ≠ "java/lang/invoke/VarHandle" ∧ (parseMethodDescriptor yX10_leaf.desc).map (fun d => d.parameters.length) = some 3 := by decide +kernel
abbrev cd_X10_emit : Cond := Cond.code yX10_emit cX10_emit 3 none
theorem cm_X10_emit : cd_X10_emit ∈ wsL_law := (tw30 (i := 20) rfl)
theorem hd_X10_emit : yX10_emit.cls = RX10 ∧ yX10_emit.cls ≠ "java/lang/invoke/MethodHandle" ∧ yX10_emit.cls ≠ "java/lang/invoke/VarHandle" ∧ (parseMethodDescriptor yX10_emit.desc).map (fun d => d.parameters.length) = some 2 := by decide +kernel
abbrev cd_X10_behindSum : Cond := Cond.code yX10_behindSum cX10_behindSum 4 (some .int)
theorem cm_X10_behindSum : cd_X10_behindSum ∈ wsL_law := (tw31 (i := 0) rfl)
theorem hd_X10_behindSum : yX10_behindSum.cls = RX10 ∧ yX10_behindSum.cls ≠ "java/lang/invoke/MethodHandle" ∧ yX10_behindSum.cls ≠ "java/lang/invoke/VarHandle" ∧ (parseMethodDescriptor yX10_behindSum.desc).map (fun d => d.parameters.length) = some 1 := by decide +kernel
abbrev cd_X10_binds : Cond := Cond.code yX10_binds cX10_binds 1 (some .int)
theorem cm_X10_binds : cd_X10_binds ∈ wsL_law := (tw31 (i := 3) rfl)
theorem hd_X10_binds : yX10_binds.cls = RX10 ∧ yX10_binds.cls ≠ "java/lang/invoke/MethodHandle" ∧ yX10_binds.cls ≠ "java/lang/invoke/VarHandle" ∧ (parseMethodDescriptor yX10_binds.desc).map (fun d => d.parameters.length) = some 1 := by decide +kernel
abbrev cd_X10_settle : Cond := Cond.code yX10_settle cX10_settle 2 none
theorem cm_X10_settle : cd_X10_settle ∈ wsL_law := (tw31 (i := 7) rfl)
theorem hd_X10_settle : yX10_settle.cls = RX10 ∧ yX10_settle.cls ≠ "java/lang/invoke/MethodHandle" ∧ yX10_settle.cls ≠ "java/lang/invoke/VarHandle" ∧ (parseMethodDescriptor yX10_settle.desc).map (fun d => d.parameters.length) = some 1 := by decide +kernel
abbrev cd_X10_inner : Cond := Cond.code yX10_inner cX10_inner 3 (some .int)
theorem cm_X10_inner : cd_X10_inner ∈ wsL_law := (tw31 (i := 11) rfl)
theorem hd_X10_inner : yX10_inner.cls = RX10 ∧ yX10_inner.cls ≠ "java/lang/invoke/MethodHandle" ∧ yX10_inner.cls ≠ "java/lang/invoke/VarHandle" ∧ (parseMethodDescriptor yX10_inner.desc).map (fun d => d.parameters.length) = some 0 := by decide +kernel
abbrev cd_X10_isCompared : Cond := Cond.code yX10_isCompared cX10_isCompared 2 (some .boolean)
theorem cm_X10_isCompared : cd_X10_isCompared ∈ wsL_law := (tw31 (i := 15) rfl)
theorem hd_X10_isCompared : yX10_isCompared.cls = RX10 ∧ yX10_isCompared.cls ≠ "java/lang/invoke/MethodHandle" ∧ yX10_isCompared.cls ≠ "java/lang/invoke/VarHandle" ∧ (parseMethodDescriptor yX10_isCompared.desc).map (fun d => d.parameters.length) = some 0 := by decide +kernel
abbrev cd_X10_behindTest : Cond := Cond.code yX10_behindTest cX10_behindTest 2 (some .int)
theorem cm_X10_behindTest : cd_X10_behindTest ∈ wsL_law := (tw31 (i := 22) rfl)
theorem hd_X10_behindTest : yX10_behindTest.cls = RX10 ∧ yX10_behindTest.cls ≠ "java/lang/invoke/MethodHandle" ∧ yX10_behindTest.cls ≠ "java/lang/invoke/VarHandle" ∧ (parseMethodDescriptor yX10_behindTest.desc).map (fun d => d.parameters.length) = some 0 := by decide +kernel
abbrev cd_X9_fault : Cond := Cond.code yX9_fault cX9_fault 1 (some .int)
theorem cm_X9_fault : cd_X9_fault ∈ wsL_law := (tw32 (i := 4) rfl)
theorem hd_X9_fault : yX9_fault.cls = RX9 ∧ yX9_fault.cls ≠ "java/lang/invoke/MethodHandle" ∧ yX9_fault.cls ≠ "java/lang/invoke/VarHandle" ∧ (parseMethodDescriptor yX9_fault.desc).map (fun d => d.parameters.length) = some 0 := by decide +kernel
abbrev cd_X10_fault : Cond := Cond.code yX10_fault cX10_fault 1 (some .int)
theorem cm_X10_fault : cd_X10_fault ∈ wsL_law := (tw32 (i := 8) rfl)
theorem hd_X10_fault : yX10_fault.cls = RX10 ∧ yX10_fault.cls ≠ "java/lang/invoke/MethodHandle" ∧ yX10_fault.cls ≠ "java/lang/invoke/VarHandle" ∧ (parseMethodDescriptor yX10_fault.desc).map (fun d => d.parameters.length) = some 0 := by decide +kernel
abbrev cd_X9_force : Cond := Cond.code yX9_force cX9_force 3 (some .int)
theorem cm_X9_force : cd_X9_force ∈ wsL_law := (tw32 (i := 12) rfl)
theorem hd_X9_force : yX9_force.cls = RX9 ∧ yX9_force.cls ≠ "java/lang/invoke/MethodHandle" ∧ yX9_force.cls ≠ "java/lang/invoke/VarHandle" ∧ (parseMethodDescriptor yX9_force.desc).map (fun d => d.parameters.length) = some 1 := by decide +kernel
abbrev cd_X10_force : Cond := Cond.code yX10_force cX10_force 2 (some .int)
theorem cm_X10_force : cd_X10_force ∈ wsL_law := (tw32 (i := 17) rfl)
theorem hd_X10_force : yX10_force.cls = RX10 ∧ yX10_force.cls ≠ "java/lang/invoke/MethodHandle" ∧ yX10_force.cls ≠ "java/lang/invoke/VarHandle" ∧ (parseMethodDescriptor yX10_force.desc).map (fun d => d.parameters.length) = some 1 := by decide +kernel
abbrev cd_X9_kind : Cond := Cond.code yX9_kind cX9_kind 4 (some .int)
theorem cm_X9_kind : cd_X9_kind ∈ wsL_law := (tw32 (i := 21) rfl)
theorem hd_X9_kind : yX9_kind.cls = RX9 ∧ yX9_kind.cls ≠ "java/lang/invoke/MethodHandle" ∧ yX9_kind.cls ≠ "java/lang/invoke/VarHandle" ∧ (parseMethodDescriptor yX9_kind.desc).map (fun d => d.parameters.length) = some 3 := by decide +kernel
abbrev cd_X7_quick : Cond := Cond.code yX7_quick cX7_quick 10 (some .int)
theorem cm_X7_quick : cd_X7_quick ∈ wsL_law := (tw33 (i := 2) rfl)
theorem hd_X7_quick : yX7_quick.cls = RX7 ∧ yX7_quick.cls ≠ "java/lang/invoke/MethodHandle" ∧ yX7_quick.cls ≠ "java/lang/invoke/VarHandle" ∧ (parseMethodDescriptor yX7_quick.desc).map (fun d => d.parameters.length) = some 4 := by decide +kernel
abbrev cd_X7_look : Cond := Cond.code yX7_look cX7_look 16 none
theorem cm_X7_look : cd_X7_look ∈ wsL_law := (tw33 (i := 7) rfl)
theorem hd_X7_look : yX7_look.cls = RX7 ∧ yX7_look.cls ≠ "java/lang/invoke/MethodHandle" ∧ yX7_look.cls ≠ "java/lang/invoke/VarHandle" ∧ (parseMethodDescriptor yX7_look.desc).map (fun d => d.parameters.length) = some 3 := by decide +kernel
abbrev cd_X3_lawInForce : Cond := Cond.code yX3_lawInForce cX3_lawInForce 1 (some (.object "TowerFoot$Law"))
theorem cm_X3_lawInForce : cd_X3_lawInForce ∈ wsL_law := (tw33 (i := 15) rfl)
theorem hd_X3_lawInForce : yX3_lawInForce.cls = RX3 ∧ yX3_lawInForce.cls ≠ "java/lang/invoke/MethodHandle" ∧ yX3_lawInForce.cls ≠ "java/lang/invoke/VarHandle" ∧ (parseMethodDescriptor yX3_lawInForce.desc).map (fun d => d.parameters.length) = some 0 := by decide +kernel
abbrev cd_X7_lawlessQuick : Cond := Cond.code yX7_lawlessQuick cX7_lawlessQuick 1 (some .int)
theorem cm_X7_lawlessQuick : cd_X7_lawlessQuick ∈ wsL_law := (tw33 (i := 19) rfl)
theorem hd_X7_lawlessQuick : yX7_lawlessQuick.cls = RX7 ∧ yX7_lawlessQuick.cls ≠ "java/lang/invoke/MethodHandle" ∧ yX7_lawlessQuick.cls ≠ "java/lang/invoke/VarHandle" ∧ (parseMethodDescriptor yX7_lawlessQuick.desc).map (fun d => d.parameters.length) = some 0 := by decide +kernel
abbrev cd_J7_fill_d0a16 : Cond := Cond.code yJ7_fill_d0a16 cJ7_fill_d0a16 5 none
theorem cm_J7_fill_d0a16 : cd_J7_fill_d0a16 ∈ wsL_law := (tw33 (i := 22) rfl)
theorem hd_J7_fill_d0a16 : yJ7_fill_d0a16.cls = RJ7 ∧ yJ7_fill_d0a16.cls ≠ "java/lang/invoke/MethodHandle" ∧ yJ7_fill_d0a16.cls ≠ "java/lang/invoke/VarHandle" ∧ (parseMethodDescriptor yJ7_fill_d0a16.desc).map (fun d => d.parameters.length) = some 2 := by decide +kernel
abbrev cd_X7_sightSeen : Cond := Cond.code yX7_sightSeen cX7_sightSeen 4 (some .long)
theorem cm_X7_sightSeen : cd_X7_sightSeen ∈ wsL_law := (tw34 (i := 2) rfl)
theorem hd_X7_sightSeen : yX7_sightSeen.cls = RX7 ∧ yX7_sightSeen.cls ≠ "java/lang/invoke/MethodHandle" ∧ yX7_sightSeen.cls ≠ "java/lang/invoke/VarHandle" ∧ (parseMethodDescriptor yX7_sightSeen.desc).map (fun d => d.parameters.length) = some 0 := by decide +kernel
abbrev cd_X1_tells : Cond := Cond.code yX1_tells cX1_tells 7 (some .int)
theorem cm_X1_tells : cd_X1_tells ∈ wsL_law := (tw34 (i := 6) rfl)
theorem hd_X1_tells : yX1_tells.cls = RX1 ∧ yX1_tells.cls ≠ "java/lang/invoke/MethodHandle" ∧ yX1_tells.cls ≠ "java/lang/invoke/VarHandle" ∧ (parseMethodDescriptor yX1_tells.desc).map (fun d => d.parameters.length) = some 2 := by decide +kernel
abbrev cd_X1_reckon : Cond := Cond.code yX1_reckon cX1_reckon 9 (some .int)
theorem cm_X1_reckon : cd_X1_reckon ∈ wsL_law := (tw34 (i := 13) rfl)
theorem hd_X1_reckon : yX1_reckon.cls = RX1 ∧ yX1_reckon.cls ≠ "java/lang/invoke/MethodHandle" ∧ yX1_reckon.cls ≠ "java/lang/invoke/VarHandle" ∧ (parseMethodDescriptor yX1_reckon.desc).map (fun d => d.parameters.length) = some 4 := by decide +kernel
abbrev cd_X1_joined : Cond := Cond.code yX1_joined cX1_joined 5 (some .int)
theorem cm_X1_joined : cd_X1_joined ∈ wsL_law := (tw34 (i := 16) rfl)
theorem hd_X1_joined : yX1_joined.cls = RX1 ∧ yX1_joined.cls ≠ "java/lang/invoke/MethodHandle" ∧ yX1_joined.cls ≠ "java/lang/invoke/VarHandle" ∧ (parseMethodDescriptor yX1_joined.desc).map (fun d => d.parameters.length) = some 3 := by decide +kernel
abbrev cd_X10_kind : Cond := Cond.code yX10_kind cX10_kind 5 (some .int)
theorem cm_X10_kind : cd_X10_kind ∈ wsL_law := (tw35 (i := 0) rfl)
theorem hd_X10_kind : yX10_kind.cls = RX10 ∧ yX10_kind.cls ≠ "java/lang/invoke/MethodHandle" ∧ yX10_kind.cls ≠ "java/lang/invoke/VarHandle" ∧ (parseMethodDescriptor yX10_kind.desc).map (fun d => d.parameters.length) = some 3 := by decide +kernel
abbrev cd_X10_layAll : Cond := Cond.code yX10_layAll cX10_layAll 1 none
theorem cm_X10_layAll : cd_X10_layAll ∈ wsL_law := (tw35 (i := 11) rfl)
theorem hd_X10_layAll : yX10_layAll.cls = RX10 ∧ yX10_layAll.cls ≠ "java/lang/invoke/MethodHandle" ∧ yX10_layAll.cls ≠ "java/lang/invoke/VarHandle" ∧ (parseMethodDescriptor yX10_layAll.desc).map (fun d => d.parameters.length) = some 0 := by decide +kernel
abbrev cd_X10_lay : Cond := Cond.code yX10_lay cX10_lay 4 none
theorem cm_X10_lay : cd_X10_lay ∈ wsL_law := (tw35 (i := 15) rfl)
theorem hd_X10_lay : yX10_lay.cls = RX10 ∧ yX10_lay.cls ≠ "java/lang/invoke/MethodHandle" ∧ yX10_lay.cls ≠ "java/lang/invoke/VarHandle" ∧ (parseMethodDescriptor yX10_lay.desc).map (fun d => d.parameters.length) = some 1 := by decide +kernel
abbrev cd_X10_is : Cond := Cond.code yX10_is cX10_is 2 (some .boolean)
theorem cm_X10_is : cd_X10_is ∈ wsL_law := (tw35 (i := 18) rfl)
theorem hd_X10_is : yX10_is.cls = RX10 ∧ yX10_is.cls ≠ "java/lang/invoke/MethodHandle" ∧ yX10_is.cls ≠ "java/lang/invoke/VarHandle" ∧ (parseMethodDescriptor yX10_is.desc).map (fun d => d.parameters.length) = some 2 := by decide +kernel
abbrev cd_X10_quickIn : Cond := Cond.code yX10_quickIn cX10_quickIn 9 (some .int)
theorem cm_X10_quickIn : cd_X10_quickIn ∈ wsL_law := (tw35 (i := 22) rfl)
theorem hd_X10_quickIn : yX10_quickIn.cls = RX10 ∧ yX10_quickIn.cls ≠ "java/lang/invoke/MethodHandle" ∧ yX10_quickIn.cls ≠ "java/lang/invoke/VarHandle" ∧ (parseMethodDescriptor yX10_quickIn.desc).map (fun d => d.parameters.length) = some 2 := by decide +kernel
abbrev cd_X10_find : Cond := Cond.code yX10_find cX10_find 12 none
theorem cm_X10_find : cd_X10_find ∈ wsL_law := (tw36 (i := 4) rfl)
theorem hd_X10_find : yX10_find.cls = RX10 ∧ yX10_find.cls ≠ "java/lang/invoke/MethodHandle" ∧ yX10_find.cls ≠ "java/lang/invoke/VarHandle" ∧ (parseMethodDescriptor yX10_find.desc).map (fun d => d.parameters.length) = some 2 := by decide +kernel
abbrev cd_X10_upY : Cond := Cond.code yX10_upY cX10_upY 1 (some .int)
theorem cm_X10_upY : cd_X10_upY ∈ wsL_law := (tw36 (i := 7) rfl)
theorem hd_X10_upY : yX10_upY.cls = RX10 ∧ yX10_upY.cls ≠ "java/lang/invoke/MethodHandle" ∧ yX10_upY.cls ≠ "java/lang/invoke/VarHandle" ∧ (parseMethodDescriptor yX10_upY.desc).map (fun d => d.parameters.length) = some 1 := by decide +kernel
abbrev cd_X10_upX : Cond := Cond.code yX10_upX cX10_upX 1 (some .int)
theorem cm_X10_upX : cd_X10_upX ∈ wsL_law := (tw36 (i := 10) rfl)
theorem hd_X10_upX : yX10_upX.cls = RX10 ∧ yX10_upX.cls ≠ "java/lang/invoke/MethodHandle" ∧ yX10_upX.cls ≠ "java/lang/invoke/VarHandle" ∧ (parseMethodDescriptor yX10_upX.desc).map (fun d => d.parameters.length) = some 1 := by decide +kernel
abbrev cd_X10_cellAt : Cond := Cond.code yX10_cellAt cX10_cellAt 5 (some .int)
theorem cm_X10_cellAt : cd_X10_cellAt ∈ wsL_law := (tw36 (i := 13) rfl)
theorem hd_X10_cellAt : yX10_cellAt.cls = RX10 ∧ yX10_cellAt.cls ≠ "java/lang/invoke/MethodHandle" ∧ yX10_cellAt.cls ≠ "java/lang/invoke/VarHandle" ∧ (parseMethodDescriptor yX10_cellAt.desc).map (fun d => d.parameters.length) = some 3 := by decide +kernel
abbrev cd_X10_standing : Cond := Cond.code yX10_standing cX10_standing 2 (some .int)
theorem cm_X10_standing : cd_X10_standing ∈ wsL_law := (tw36 (i := 17) rfl)
theorem hd_X10_standing : yX10_standing.cls = RX10 ∧ yX10_standing.cls ≠ "java/lang/invoke/MethodHandle" ∧ yX10_standing.cls ≠ "java/lang/invoke/VarHandle" ∧ (parseMethodDescriptor yX10_standing.desc).map (fun d => d.parameters.length) = some 1 := by decide +kernel
abbrev cd_X10_upFrom : Cond := Cond.code yX10_upFrom cX10_upFrom 3 (some .int)
theorem cm_X10_upFrom : cd_X10_upFrom ∈ wsL_law := (tw36 (i := 20) rfl)
theorem hd_X10_upFrom : yX10_upFrom.cls = RX10 ∧ yX10_upFrom.cls ≠ "java/lang/invoke/MethodHandle" ∧ yX10_upFrom.cls ≠ "java/lang/invoke/VarHandle" ∧ (parseMethodDescriptor yX10_upFrom.desc).map (fun d => d.parameters.length) = some 3 := by decide +kernel
abbrev cd_X10_highAt : Cond := Cond.code yX10_highAt cX10_highAt 3 (some .int)
theorem cm_X10_highAt : cd_X10_highAt ∈ wsL_law := (tw37 (i := 0) rfl)
theorem hd_X10_highAt : yX10_highAt.cls = RX10 ∧ yX10_highAt.cls ≠ "java/lang/invoke/MethodHandle" ∧ yX10_highAt.cls ≠ "java/lang/invoke/VarHandle" ∧ (parseMethodDescriptor yX10_highAt.desc).map (fun d => d.parameters.length) = some 1 := by decide +kernel
abbrev cd_X10_isSo : Cond := Cond.code yX10_isSo cX10_isSo 2 (some .boolean)
theorem cm_X10_isSo : cd_X10_isSo ∈ wsL_law := (tw37 (i := 4) rfl)
theorem hd_X10_isSo : yX10_isSo.cls = RX10 ∧ yX10_isSo.cls ≠ "java/lang/invoke/MethodHandle" ∧ yX10_isSo.cls ≠ "java/lang/invoke/VarHandle" ∧ (parseMethodDescriptor yX10_isSo.desc).map (fun d => d.parameters.length) = some 1 := by decide +kernel
abbrev cd_X10_reckonAll : Cond := Cond.code yX10_reckonAll cX10_reckonAll 7 none
theorem cm_X10_reckonAll : cd_X10_reckonAll ∈ wsL_law := (tw37 (i := 10) rfl)
theorem hd_X10_reckonAll : yX10_reckonAll.cls = RX10 ∧ yX10_reckonAll.cls ≠ "java/lang/invoke/MethodHandle" ∧ yX10_reckonAll.cls ≠ "java/lang/invoke/VarHandle" ∧ (parseMethodDescriptor yX10_reckonAll.desc).map (fun d => d.parameters.length) = some 2 := by decide +kernel
abbrev cd_X10_reckon : Cond := Cond.code yX10_reckon cX10_reckon 6 (some .long)
theorem cm_X10_reckon : cd_X10_reckon ∈ wsL_law := (tw37 (i := 16) rfl)
theorem hd_X10_reckon : yX10_reckon.cls = RX10 ∧ yX10_reckon.cls ≠ "java/lang/invoke/MethodHandle" ∧ yX10_reckon.cls ≠ "java/lang/invoke/VarHandle" ∧ (parseMethodDescriptor yX10_reckon.desc).map (fun d => d.parameters.length) = some 3 := by decide +kernel
abbrev cd_X9_above : Cond := Cond.code yX9_above cX9_above 3 (some .int)
theorem cm_X9_above : cd_X9_above ∈ wsL_law := (tw37 (i := 20) rfl)
theorem hd_X9_above : yX9_above.cls = RX9 ∧ yX9_above.cls ≠ "java/lang/invoke/MethodHandle" ∧ yX9_above.cls ≠ "java/lang/invoke/VarHandle" ∧ (parseMethodDescriptor yX9_above.desc).map (fun d => d.parameters.length) = some 2 := by decide +kernel
abbrev cd_X7_hoursAbove : Cond := Cond.code yX7_hoursAbove cX7_hoursAbove 9 (some .int)
theorem cm_X7_hoursAbove : cd_X7_hoursAbove ∈ wsL_law := (tw38 (i := 0) rfl)
theorem hd_X7_hoursAbove : yX7_hoursAbove.cls = RX7 ∧ yX7_hoursAbove.cls ≠ "java/lang/invoke/MethodHandle" ∧ yX7_hoursAbove.cls ≠ "java/lang/invoke/VarHandle" ∧ (parseMethodDescriptor yX7_hoursAbove.desc).map (fun d => d.parameters.length) = some 4 := by decide +kernel
abbrev cd_X9_leastPaceAbove : Cond := Cond.code yX9_leastPaceAbove cX9_leastPaceAbove 2 (some .int)
theorem cm_X9_leastPaceAbove : cd_X9_leastPaceAbove ∈ wsL_law := (tw38 (i := 5) rfl)
theorem hd_X9_leastPaceAbove : yX9_leastPaceAbove.cls = RX9 ∧ yX9_leastPaceAbove.cls ≠ "java/lang/invoke/MethodHandle" ∧ yX9_leastPaceAbove.cls ≠ "java/lang/invoke/VarHandle" ∧ (parseMethodDescriptor yX9_leastPaceAbove.desc).map (fun d => d.parameters.length) = some 2 := by decide +kernel
abbrev cd_X10_above : Cond := Cond.code yX10_above cX10_above 3 (some .int)
theorem cm_X10_above : cd_X10_above ∈ wsL_law := (tw38 (i := 9) rfl)
theorem hd_X10_above : yX10_above.cls = RX10 ∧ yX10_above.cls ≠ "java/lang/invoke/MethodHandle" ∧ yX10_above.cls ≠ "java/lang/invoke/VarHandle" ∧ (parseMethodDescriptor yX10_above.desc).map (fun d => d.parameters.length) = some 2 := by decide +kernel
abbrev cd_X10_hoursAbove : Cond := Cond.code yX10_hoursAbove cX10_hoursAbove 7 (some .int)
theorem cm_X10_hoursAbove : cd_X10_hoursAbove ∈ wsL_law := (tw38 (i := 13) rfl)
theorem hd_X10_hoursAbove : yX10_hoursAbove.cls = RX10 ∧ yX10_hoursAbove.cls ≠ "java/lang/invoke/MethodHandle" ∧ yX10_hoursAbove.cls ≠ "java/lang/invoke/VarHandle" ∧ (parseMethodDescriptor yX10_hoursAbove.desc).map (fun d => d.parameters.length) = some 2 := by decide +kernel
abbrev cd_X9_over : Cond := Cond.code yX9_over cX9_over 3 (some .int)
theorem cm_X9_over : cd_X9_over ∈ wsL_law := (tw38 (i := 17) rfl)
theorem hd_X9_over : yX9_over.cls = RX9 ∧ yX9_over.cls ≠ "java/lang/invoke/MethodHandle" ∧ yX9_over.cls ≠ "java/lang/invoke/VarHandle" ∧ (parseMethodDescriptor yX9_over.desc).map (fun d => d.parameters.length) = some 1 := by decide +kernel
abbrev cd_X7_allOver : Cond := Cond.code yX7_allOver cX7_allOver 9 (some .int)
theorem cm_X7_allOver : cd_X7_allOver ∈ wsL_law := (tw38 (i := 22) rfl)
theorem hd_X7_allOver : yX7_allOver.cls = RX7 ∧ yX7_allOver.cls ≠ "java/lang/invoke/MethodHandle" ∧ yX7_allOver.cls ≠ "java/lang/invoke/VarHandle" ∧ (parseMethodDescriptor yX7_allOver.desc).map (fun d => d.parameters.length) = some 2 := by decide +kernel
abbrev cd_X10_over : Cond := Cond.code yX10_over cX10_over 2 (some .int)
theorem cm_X10_over : cd_X10_over ∈ wsL_law := (tw39 (i := 6) rfl)
theorem hd_X10_over : yX10_over.cls = RX10 ∧ yX10_over.cls ≠ "java/lang/invoke/MethodHandle" ∧ yX10_over.cls ≠ "java/lang/invoke/VarHandle" ∧ (parseMethodDescriptor yX10_over.desc).map (fun d => d.parameters.length) = some 1 := by decide +kernel
abbrev cd_X10_overAll : Cond := Cond.code yX10_overAll cX10_overAll 3 (some .int)
theorem cm_X10_overAll : cd_X10_overAll ∈ wsL_law := (tw39 (i := 10) rfl)
theorem hd_X10_overAll : yX10_overAll.cls = RX10 ∧ yX10_overAll.cls ≠ "java/lang/invoke/MethodHandle" ∧ yX10_overAll.cls ≠ "java/lang/invoke/VarHandle" ∧ (parseMethodDescriptor yX10_overAll.desc).map (fun d => d.parameters.length) = some 0 := by decide +kernel
abbrev cd_X10_overIn : Cond := Cond.code yX10_overIn cX10_overIn 3 (some .int)
theorem cm_X10_overIn : cd_X10_overIn ∈ wsL_law := (tw39 (i := 14) rfl)
theorem hd_X10_overIn : yX10_overIn.cls = RX10 ∧ yX10_overIn.cls ≠ "java/lang/invoke/MethodHandle" ∧ yX10_overIn.cls ≠ "java/lang/invoke/VarHandle" ∧ (parseMethodDescriptor yX10_overIn.desc).map (fun d => d.parameters.length) = some 1 := by decide +kernel
abbrev cd_X10_paceOf : Cond := Cond.code yX10_paceOf cX10_paceOf 2 (some .int)
theorem cm_X10_paceOf : cd_X10_paceOf ∈ wsL_law := (tw39 (i := 18) rfl)
theorem hd_X10_paceOf : yX10_paceOf.cls = RX10 ∧ yX10_paceOf.cls ≠ "java/lang/invoke/MethodHandle" ∧ yX10_paceOf.cls ≠ "java/lang/invoke/VarHandle" ∧ (parseMethodDescriptor yX10_paceOf.desc).map (fun d => d.parameters.length) = some 1 := by decide +kernel
abbrev cd_X9_bad : Cond := Cond.code yX9_bad cX9_bad 5 (some .int)
theorem cm_X9_bad : cd_X9_bad ∈ wsL_law := (tw39 (i := 22) rfl)
theorem hd_X9_bad : yX9_bad.cls = RX9 ∧ yX9_bad.cls ≠ "java/lang/invoke/MethodHandle" ∧ yX9_bad.cls ≠ "java/lang/invoke/VarHandle" ∧ (parseMethodDescriptor yX9_bad.desc).map (fun d => d.parameters.length) = some 1 := by decide +kernel
abbrev cd_X9_greatestKey : Cond := Cond.code yX9_greatestKey cX9_greatestKey 3 (some .int)
theorem cm_X9_greatestKey : cd_X9_greatestKey ∈ wsL_law := (tw40 (i := 3) rfl)
theorem hd_X9_greatestKey : yX9_greatestKey.cls = RX9 ∧ yX9_greatestKey.cls ≠ "java/lang/invoke/MethodHandle" ∧ yX9_greatestKey.cls ≠ "java/lang/invoke/VarHandle" ∧ (parseMethodDescriptor yX9_greatestKey.desc).map (fun d => d.parameters.length) = some 1 := by decide +kernel
abbrev cd_X9_keysAhead : Cond := Cond.code yX9_keysAhead cX9_keysAhead 4 (some .int)
theorem cm_X9_keysAhead : cd_X9_keysAhead ∈ wsL_law := (tw40 (i := 7) rfl)
theorem hd_X9_keysAhead : yX9_keysAhead.cls = RX9 ∧ yX9_keysAhead.cls ≠ "java/lang/invoke/MethodHandle" ∧ yX9_keysAhead.cls ≠ "java/lang/invoke/VarHandle" ∧ (parseMethodDescriptor yX9_keysAhead.desc).map (fun d => d.parameters.length) = some 1 := by decide +kernel
abbrev cd_X10_bad : Cond := Cond.code yX10_bad cX10_bad 2 (some .int)
theorem cm_X10_bad : cd_X10_bad ∈ wsL_law := (tw40 (i := 11) rfl)
theorem hd_X10_bad : yX10_bad.cls = RX10 ∧ yX10_bad.cls ≠ "java/lang/invoke/MethodHandle" ∧ yX10_bad.cls ≠ "java/lang/invoke/VarHandle" ∧ (parseMethodDescriptor yX10_bad.desc).map (fun d => d.parameters.length) = some 1 := by decide +kernel
abbrev cd_X10_findBad : Cond := Cond.code yX10_findBad cX10_findBad 2 none
theorem cm_X10_findBad : cd_X10_findBad ∈ wsL_law := (tw40 (i := 15) rfl)
theorem hd_X10_findBad : yX10_findBad.cls = RX10 ∧ yX10_findBad.cls ≠ "java/lang/invoke/MethodHandle" ∧ yX10_findBad.cls ≠ "java/lang/invoke/VarHandle" ∧ (parseMethodDescriptor yX10_findBad.desc).map (fun d => d.parameters.length) = some 0 := by decide +kernel
abbrev cd_X10_inOrder : Cond := Cond.code yX10_inOrder cX10_inOrder 8 (some .int)
theorem cm_X10_inOrder : cd_X10_inOrder ∈ wsL_law := (tw40 (i := 19) rfl)
theorem hd_X10_inOrder : yX10_inOrder.cls = RX10 ∧ yX10_inOrder.cls ≠ "java/lang/invoke/MethodHandle" ∧ yX10_inOrder.cls ≠ "java/lang/invoke/VarHandle" ∧ (parseMethodDescriptor yX10_inOrder.desc).map (fun d => d.parameters.length) = some 2 := by decide +kernel
abbrev cd_X9_kinds : Cond := Cond.code yX9_kinds cX9_kinds 5 (some .int)
theorem cm_X9_kinds : cd_X9_kinds ∈ wsL_law := (tw40 (i := 23) rfl)
theorem hd_X9_kinds : yX9_kinds.cls = RX9 ∧ yX9_kinds.cls ≠ "java/lang/invoke/MethodHandle" ∧ yX9_kinds.cls ≠ "java/lang/invoke/VarHandle" ∧ (parseMethodDescriptor yX9_kinds.desc).map (fun d => d.parameters.length) = some 2 := by decide +kernel
abbrev cd_X10_kinds : Cond := Cond.code yX10_kinds cX10_kinds 5 (some .int)
theorem cm_X10_kinds : cd_X10_kinds ∈ wsL_law := (tw41 (i := 3) rfl)
theorem hd_X10_kinds : yX10_kinds.cls = RX10 ∧ yX10_kinds.cls ≠ "java/lang/invoke/MethodHandle" ∧ yX10_kinds.cls ≠ "java/lang/invoke/VarHandle" ∧ (parseMethodDescriptor yX10_kinds.desc).map (fun d => d.parameters.length) = some 2 := by decide +kernel
abbrev cd_X9_does : Cond := Cond.code yX9_does cX9_does 2 (some .int)
theorem cm_X9_does : cd_X9_does ∈ wsL_law := (tw41 (i := 8) rfl)
theorem hd_X9_does : yX9_does.cls = RX9 ∧ yX9_does.cls ≠ "java/lang/invoke/MethodHandle" ∧ yX9_does.cls ≠ "java/lang/invoke/VarHandle" ∧ (parseMethodDescriptor yX9_does.desc).map (fun d => d.parameters.length) = some 1 := by decide +kernel
abbrev cd_X0_become : Cond := Cond.code yX0_become cX0_become 2 none
theorem cm_X0_become : cd_X0_become ∈ wsL_law := (tw41 (i := 14) rfl)
theorem hd_X0_become : yX0_become.cls = RX0 ∧ yX0_become.cls ≠ "java/lang/invoke/MethodHandle" ∧ yX0_become.cls ≠ "java/lang/invoke/VarHandle" ∧ (parseMethodDescriptor yX0_become.desc).map (fun d => d.parameters.length) = some 1 := by decide +kernel
abbrev cd_X10_does : Cond := Cond.code yX10_does cX10_does 3 (some .int)
theorem cm_X10_does : cd_X10_does ∈ wsL_law := (tw41 (i := 19) rfl)
theorem hd_X10_does : yX10_does.cls = RX10 ∧ yX10_does.cls ≠ "java/lang/invoke/MethodHandle" ∧ yX10_does.cls ≠ "java/lang/invoke/VarHandle" ∧ (parseMethodDescriptor yX10_does.desc).map (fun d => d.parameters.length) = some 1 := by decide +kernel
abbrev cd_X9_share : Cond := Cond.code yX9_share cX9_share 2 (some .long)
theorem cm_X9_share : cd_X9_share ∈ wsL_law := (tw42 (i := 0) rfl)
theorem hd_X9_share : yX9_share.cls = RX9 ∧ yX9_share.cls ≠ "java/lang/invoke/MethodHandle" ∧ yX9_share.cls ≠ "java/lang/invoke/VarHandle" ∧ (parseMethodDescriptor yX9_share.desc).map (fun d => d.parameters.length) = some 1 := by decide +kernel
abbrev cd_X6_learnTowerOvers : Cond := Cond.code yX6_learnTowerOvers cX6_learnTowerOvers 5 none
theorem cm_X6_learnTowerOvers : cd_X6_learnTowerOvers ∈ wsL_law := (tw42 (i := 6) rfl)
theorem hd_X6_learnTowerOvers : yX6_learnTowerOvers.cls = RX6 ∧ yX6_learnTowerOvers.cls ≠ "java/lang/invoke/MethodHandle" ∧ yX6_learnTowerOvers.cls ≠ "java/lang/invoke/VarHandle" ∧ (parseMethodDescriptor yX6_learnTowerOvers.desc).map (fun d => d.parameters.length) = some 2 := by decide +kernel
abbrev cd_X6_shareOf : Cond := Cond.code yX6_shareOf cX6_shareOf 9 (some .long)
theorem cm_X6_shareOf : cd_X6_shareOf ∈ wsL_law := (tw42 (i := 16) rfl)
theorem hd_X6_shareOf : yX6_shareOf.cls = RX6 ∧ yX6_shareOf.cls ≠ "java/lang/invoke/MethodHandle" ∧ yX6_shareOf.cls ≠ "java/lang/invoke/VarHandle" ∧ (parseMethodDescriptor yX6_shareOf.desc).map (fun d => d.parameters.length) = some 2 := by decide +kernel
abbrev cd_J6_bitCount_0f7a4 : Cond := Cond.code yJ6_bitCount_0f7a4 cJ6_bitCount_0f7a4 1 (some .int)
theorem cm_J6_bitCount_0f7a4 : cd_J6_bitCount_0f7a4 ∈ wsL_law := (tw42 (i := 21) rfl)
theorem hd_J6_bitCount_0f7a4 : yJ6_bitCount_0f7a4.cls = RJ6 ∧ yJ6_bitCount_0f7a4.cls ≠ "java/lang/invoke/MethodHandle" ∧ yJ6_bitCount_0f7a4.cls ≠ "java/lang/invoke/VarHandle" ∧ (parseMethodDescriptor yJ6_bitCount_0f7a4.desc).map (fun d => d.parameters.length) = some 1 := by decide +kernel
abbrev cd_X10_share : Cond := Cond.code yX10_share cX10_share 9 (some .long)
theorem cm_X10_share : cd_X10_share ∈ wsL_law := (tw43 (i := 4) rfl)
theorem hd_X10_share : yX10_share.cls = RX10 ∧ yX10_share.cls ≠ "java/lang/invoke/MethodHandle" ∧ yX10_share.cls ≠ "java/lang/invoke/VarHandle" ∧ (parseMethodDescriptor yX10_share.desc).map (fun d => d.parameters.length) = some 1 := by decide +kernel
abbrev cd_X10_bits : Cond := Cond.code yX10_bits cX10_bits 3 (some .int)
theorem cm_X10_bits : cd_X10_bits ∈ wsL_law := (tw43 (i := 8) rfl)
theorem hd_X10_bits : yX10_bits.cls = RX10 ∧ yX10_bits.cls ≠ "java/lang/invoke/MethodHandle" ∧ yX10_bits.cls ≠ "java/lang/invoke/VarHandle" ∧ (parseMethodDescriptor yX10_bits.desc).map (fun d => d.parameters.length) = some 1 := by decide +kernel
abbrev cd_X10_orders : Cond := Cond.code yX10_orders cX10_orders 3 (some .int)
theorem cm_X10_orders : cd_X10_orders ∈ wsL_law := (tw43 (i := 11) rfl)
theorem hd_X10_orders : yX10_orders.cls = RX10 ∧ yX10_orders.cls ≠ "java/lang/invoke/MethodHandle" ∧ yX10_orders.cls ≠ "java/lang/invoke/VarHandle" ∧ (parseMethodDescriptor yX10_orders.desc).map (fun d => d.parameters.length) = some 1 := by decide +kernel
abbrev cd_X9_ahead : Cond := Cond.code yX9_ahead cX9_ahead 6 (some .int)
theorem cm_X9_ahead : cd_X9_ahead ∈ wsL_law := (tw43 (i := 15) rfl)
theorem hd_X9_ahead : yX9_ahead.cls = RX9 ∧ yX9_ahead.cls ≠ "java/lang/invoke/MethodHandle" ∧ yX9_ahead.cls ≠ "java/lang/invoke/VarHandle" ∧ (parseMethodDescriptor yX9_ahead.desc).map (fun d => d.parameters.length) = some 5 := by decide +kernel
abbrev cd_X10_ahead : Cond := Cond.code yX10_ahead cX10_ahead 6 (some .int)
theorem cm_X10_ahead : cd_X10_ahead ∈ wsL_law := (tw43 (i := 19) rfl)
theorem hd_X10_ahead : yX10_ahead.cls = RX10 ∧ yX10_ahead.cls ≠ "java/lang/invoke/MethodHandle" ∧ yX10_ahead.cls ≠ "java/lang/invoke/VarHandle" ∧ (parseMethodDescriptor yX10_ahead.desc).map (fun d => d.parameters.length) = some 5 := by decide +kernel
abbrev cd_X10_canBuild : Cond := Cond.code yX10_canBuild cX10_canBuild 6 (some .boolean)
theorem cm_X10_canBuild : cd_X10_canBuild ∈ wsL_law := (tw43 (i := 23) rfl)
theorem hd_X10_canBuild : yX10_canBuild.cls = RX10 ∧ yX10_canBuild.cls ≠ "java/lang/invoke/MethodHandle" ∧ yX10_canBuild.cls ≠ "java/lang/invoke/VarHandle" ∧ (parseMethodDescriptor yX10_canBuild.desc).map (fun d => d.parameters.length) = some 5 := by decide +kernel
abbrev cd_X10_buildPaper : Cond := Cond.code yX10_buildPaper cX10_buildPaper 9 none
theorem cm_X10_buildPaper : cd_X10_buildPaper ∈ wsL_law := (tw44 (i := 3) rfl)
theorem hd_X10_buildPaper : yX10_buildPaper.cls = RX10 ∧ yX10_buildPaper.cls ≠ "java/lang/invoke/MethodHandle" ∧ yX10_buildPaper.cls ≠ "java/lang/invoke/VarHandle" ∧ (parseMethodDescriptor yX10_buildPaper.desc).map (fun d => d.parameters.length) = some 5 := by decide +kernel
abbrev cd_X9_site : Cond := Cond.code yX9_site cX9_site 5 (some .int)
theorem cm_X9_site : cd_X9_site ∈ wsL_law := (tw44 (i := 7) rfl)
theorem hd_X9_site : yX9_site.cls = RX9 ∧ yX9_site.cls ≠ "java/lang/invoke/MethodHandle" ∧ yX9_site.cls ≠ "java/lang/invoke/VarHandle" ∧ (parseMethodDescriptor yX9_site.desc).map (fun d => d.parameters.length) = some 4 := by decide +kernel
abbrev cd_X6_findSite : Cond := Cond.code yX6_findSite cX6_findSite 11 none
theorem cm_X6_findSite : cd_X6_findSite ∈ wsL_law := (tw44 (i := 14) rfl)
theorem hd_X6_findSite : yX6_findSite.cls = RX6 ∧ yX6_findSite.cls ≠ "java/lang/invoke/MethodHandle" ∧ yX6_findSite.cls ≠ "java/lang/invoke/VarHandle" ∧ (parseMethodDescriptor yX6_findSite.desc).map (fun d => d.parameters.length) = some 5 := by decide +kernel
abbrev cd_X10_site : Cond := Cond.code yX10_site cX10_site 10 (some .int)
theorem cm_X10_site : cd_X10_site ∈ wsL_law := (tw44 (i := 20) rfl)
theorem hd_X10_site : yX10_site.cls = RX10 ∧ yX10_site.cls ≠ "java/lang/invoke/MethodHandle" ∧ yX10_site.cls ≠ "java/lang/invoke/VarHandle" ∧ (parseMethodDescriptor yX10_site.desc).map (fun d => d.parameters.length) = some 4 := by decide +kernel
abbrev cd_X9_curve : Cond := Cond.code yX9_curve cX9_curve 7 (some .int)
theorem cm_X9_curve : cd_X9_curve ∈ wsL_law := (tw45 (i := 1) rfl)
theorem hd_X9_curve : yX9_curve.cls = RX9 ∧ yX9_curve.cls ≠ "java/lang/invoke/MethodHandle" ∧ yX9_curve.cls ≠ "java/lang/invoke/VarHandle" ∧ (parseMethodDescriptor yX9_curve.desc).map (fun d => d.parameters.length) = some 4 := by decide +kernel
abbrev cd_X9_stepX : Cond := Cond.code yX9_stepX cX9_stepX 1 (some .int)
theorem cm_X9_stepX : cd_X9_stepX ∈ wsL_law := (tw45 (i := 5) rfl)
theorem hd_X9_stepX : yX9_stepX.cls = RX9 ∧ yX9_stepX.cls ≠ "java/lang/invoke/MethodHandle" ∧ yX9_stepX.cls ≠ "java/lang/invoke/VarHandle" ∧ (parseMethodDescriptor yX9_stepX.desc).map (fun d => d.parameters.length) = some 1 := by decide +kernel
abbrev cd_X9_stepY : Cond := Cond.code yX9_stepY cX9_stepY 1 (some .int)
theorem cm_X9_stepY : cd_X9_stepY ∈ wsL_law := (tw45 (i := 8) rfl)
theorem hd_X9_stepY : yX9_stepY.cls = RX9 ∧ yX9_stepY.cls ≠ "java/lang/invoke/MethodHandle" ∧ yX9_stepY.cls ≠ "java/lang/invoke/VarHandle" ∧ (parseMethodDescriptor yX9_stepY.desc).map (fun d => d.parameters.length) = some 1 := by decide +kernel
abbrev cd_X10_curve : Cond := Cond.code yX10_curve cX10_curve 6 (some .int)
theorem cm_X10_curve : cd_X10_curve ∈ wsL_law := (tw45 (i := 13) rfl)
theorem hd_X10_curve : yX10_curve.cls = RX10 ∧ yX10_curve.cls ≠ "java/lang/invoke/MethodHandle" ∧ yX10_curve.cls ≠ "java/lang/invoke/VarHandle" ∧ (parseMethodDescriptor yX10_curve.desc).map (fun d => d.parameters.length) = some 4 := by decide +kernel
abbrev cd_X9_seat : Cond := Cond.code yX9_seat cX9_seat 6 (some .int)
theorem cm_X9_seat : cd_X9_seat ∈ wsL_law := (tw45 (i := 17) rfl)
theorem hd_X9_seat : yX9_seat.cls = RX9 ∧ yX9_seat.cls ≠ "java/lang/invoke/MethodHandle" ∧ yX9_seat.cls ≠ "java/lang/invoke/VarHandle" ∧ (parseMethodDescriptor yX9_seat.desc).map (fun d => d.parameters.length) = some 2 := by decide +kernel
abbrev cd_X10_seat : Cond := Cond.code yX10_seat cX10_seat 4 (some .int)
theorem cm_X10_seat : cd_X10_seat ∈ wsL_law := (tw45 (i := 22) rfl)
theorem hd_X10_seat : yX10_seat.cls = RX10 ∧ yX10_seat.cls ≠ "java/lang/invoke/MethodHandle" ∧ yX10_seat.cls ≠ "java/lang/invoke/VarHandle" ∧ (parseMethodDescriptor yX10_seat.desc).map (fun d => d.parameters.length) = some 2 := by decide +kernel
abbrev cd_X9_work : Cond := Cond.code yX9_work cX9_work 6 (some .int)
theorem cm_X9_work : cd_X9_work ∈ wsL_law := (tw46 (i := 2) rfl)
theorem hd_X9_work : yX9_work.cls = RX9 ∧ yX9_work.cls ≠ "java/lang/invoke/MethodHandle" ∧ yX9_work.cls ≠ "java/lang/invoke/VarHandle" ∧ (parseMethodDescriptor yX9_work.desc).map (fun d => d.parameters.length) = some 4 := by decide +kernel
abbrev cd_X3_whyNoWork : Cond := Cond.code yX3_whyNoWork cX3_whyNoWork 6 (some .int)
theorem cm_X3_whyNoWork : cd_X3_whyNoWork ∈ wsL_law := (tw46 (i := 7) rfl)
theorem hd_X3_whyNoWork : yX3_whyNoWork.cls = RX3 ∧ yX3_whyNoWork.cls ≠ "java/lang/invoke/MethodHandle" ∧ yX3_whyNoWork.cls ≠ "java/lang/invoke/VarHandle" ∧ (parseMethodDescriptor yX3_whyNoWork.desc).map (fun d => d.parameters.length) = some 4 := by decide +kernel
abbrev cd_X8_add : Cond := Cond.code yX8_add cX8_add 5 (some .int)
theorem cm_X8_add : cd_X8_add ∈ wsL_law := (tw46 (i := 13) rfl)
theorem hd_X8_add : yX8_add.cls = RX8 ∧ yX8_add.cls ≠ "java/lang/invoke/MethodHandle" ∧ yX8_add.cls ≠ "java/lang/invoke/VarHandle" ∧ (parseMethodDescriptor yX8_add.desc).map (fun d => d.parameters.length) = some 4 := by decide +kernel
abbrev cd_X10_work : Cond := Cond.code yX10_work cX10_work 7 (some .int)
theorem cm_X10_work : cd_X10_work ∈ wsL_law := (tw46 (i := 17) rfl)
theorem hd_X10_work : yX10_work.cls = RX10 ∧ yX10_work.cls ≠ "java/lang/invoke/MethodHandle" ∧ yX10_work.cls ≠ "java/lang/invoke/VarHandle" ∧ (parseMethodDescriptor yX10_work.desc).map (fun d => d.parameters.length) = some 4 := by decide +kernel
abbrev cd_X9_drop : Cond := Cond.code yX9_drop cX9_drop 2 (some .int)
theorem cm_X9_drop : cd_X9_drop ∈ wsL_law := (tw46 (i := 21) rfl)
theorem hd_X9_drop : yX9_drop.cls = RX9 ∧ yX9_drop.cls ≠ "java/lang/invoke/MethodHandle" ∧ yX9_drop.cls ≠ "java/lang/invoke/VarHandle" ∧ (parseMethodDescriptor yX9_drop.desc).map (fun d => d.parameters.length) = some 1 := by decide +kernel
abbrev cd_X8_takeOut : Cond := Cond.code yX8_takeOut cX8_takeOut 3 none
theorem cm_X8_takeOut : cd_X8_takeOut ∈ wsL_law := (tw47 (i := 2) rfl)
theorem hd_X8_takeOut : yX8_takeOut.cls = RX8 ∧ yX8_takeOut.cls ≠ "java/lang/invoke/MethodHandle" ∧ yX8_takeOut.cls ≠ "java/lang/invoke/VarHandle" ∧ (parseMethodDescriptor yX8_takeOut.desc).map (fun d => d.parameters.length) = some 1 := by decide +kernel
abbrev cd_X10_drop : Cond := Cond.code yX10_drop cX10_drop 2 (some .int)
theorem cm_X10_drop : cd_X10_drop ∈ wsL_law := (tw47 (i := 6) rfl)
theorem hd_X10_drop : yX10_drop.cls = RX10 ∧ yX10_drop.cls ≠ "java/lang/invoke/MethodHandle" ∧ yX10_drop.cls ≠ "java/lang/invoke/VarHandle" ∧ (parseMethodDescriptor yX10_drop.desc).map (fun d => d.parameters.length) = some 1 := by decide +kernel
abbrev cd_X10_out : Cond := Cond.code yX10_out cX10_out 3 none
theorem cm_X10_out : cd_X10_out ∈ wsL_law := (tw47 (i := 10) rfl)
theorem hd_X10_out : yX10_out.cls = RX10 ∧ yX10_out.cls ≠ "java/lang/invoke/MethodHandle" ∧ yX10_out.cls ≠ "java/lang/invoke/VarHandle" ∧ (parseMethodDescriptor yX10_out.desc).map (fun d => d.parameters.length) = some 1 := by decide +kernel
abbrev cd_X9_done : Cond := Cond.code yX9_done cX9_done 3 (some .int)
theorem cm_X9_done : cd_X9_done ∈ wsL_law := (tw47 (i := 14) rfl)
theorem hd_X9_done : yX9_done.cls = RX9 ∧ yX9_done.cls ≠ "java/lang/invoke/MethodHandle" ∧ yX9_done.cls ≠ "java/lang/invoke/VarHandle" ∧ (parseMethodDescriptor yX9_done.desc).map (fun d => d.parameters.length) = some 2 := by decide +kernel
abbrev cd_X8_haveAll : Cond := Cond.code yX8_haveAll cX8_haveAll 2 (some .boolean)
theorem cm_X8_haveAll : cd_X8_haveAll ∈ wsL_law := (tw47 (i := 18) rfl)
theorem hd_X8_haveAll : yX8_haveAll.cls = RX8 ∧ yX8_haveAll.cls ≠ "java/lang/invoke/MethodHandle" ∧ yX8_haveAll.cls ≠ "java/lang/invoke/VarHandle" ∧ (parseMethodDescriptor yX8_haveAll.desc).map (fun d => d.parameters.length) = some 1 := by decide +kernel
abbrev cd_X8_coinOf : Cond := Cond.code yX8_coinOf cX8_coinOf 4 (some .int)
theorem cm_X8_coinOf : cd_X8_coinOf ∈ wsL_law := (tw47 (i := 22) rfl)
theorem hd_X8_coinOf : yX8_coinOf.cls = RX8 ∧ yX8_coinOf.cls ≠ "java/lang/invoke/MethodHandle" ∧ yX8_coinOf.cls ≠ "java/lang/invoke/VarHandle" ∧ (parseMethodDescriptor yX8_coinOf.desc).map (fun d => d.parameters.length) = some 1 := by decide +kernel
abbrev cd_X6_doWorks : Cond := Cond.code yX6_doWorks cX6_doWorks 4 none
theorem cm_X6_doWorks : cd_X6_doWorks ∈ wsL_law := (tw48 (i := 2) rfl)
theorem hd_X6_doWorks : yX6_doWorks.cls = RX6 ∧ yX6_doWorks.cls ≠ "java/lang/invoke/MethodHandle" ∧ yX6_doWorks.cls ≠ "java/lang/invoke/VarHandle" ∧ (parseMethodDescriptor yX6_doWorks.desc).map (fun d => d.parameters.length) = some 2 := by decide +kernel
abbrev cd_X3_doWork : Cond := Cond.code yX3_doWork cX3_doWork 7 none
theorem cm_X3_doWork : cd_X3_doWork ∈ wsL_law := (tw48 (i := 8) rfl)
theorem hd_X3_doWork : yX3_doWork.cls = RX3 ∧ yX3_doWork.cls ≠ "java/lang/invoke/MethodHandle" ∧ yX3_doWork.cls ≠ "java/lang/invoke/VarHandle" ∧ (parseMethodDescriptor yX3_doWork.desc).map (fun d => d.parameters.length) = some 2 := by decide +kernel
abbrev cd_X6_hurtCells : Cond := Cond.code yX6_hurtCells cX6_hurtCells 5 (some .int)
theorem cm_X6_hurtCells : cd_X6_hurtCells ∈ wsL_law := (tw48 (i := 22) rfl)
theorem hd_X6_hurtCells : yX6_hurtCells.cls = RX6 ∧ yX6_hurtCells.cls ≠ "java/lang/invoke/MethodHandle" ∧ yX6_hurtCells.cls ≠ "java/lang/invoke/VarHandle" ∧ (parseMethodDescriptor yX6_hurtCells.desc).map (fun d => d.parameters.length) = some 2 := by decide +kernel
abbrev cd_X6_isHurt : Cond := Cond.code yX6_isHurt cX6_isHurt 7 (some .boolean)
theorem cm_X6_isHurt : cd_X6_isHurt ∈ wsL_law := (tw49 (i := 2) rfl)
theorem hd_X6_isHurt : yX6_isHurt.cls = RX6 ∧ yX6_isHurt.cls ≠ "java/lang/invoke/MethodHandle" ∧ yX6_isHurt.cls ≠ "java/lang/invoke/VarHandle" ∧ (parseMethodDescriptor yX6_isHurt.desc).map (fun d => d.parameters.length) = some 3 := by decide +kernel
abbrev cd_X6_lowestHurt : Cond := Cond.code yX6_lowestHurt cX6_lowestHurt 4 (some .int)
theorem cm_X6_lowestHurt : cd_X6_lowestHurt ∈ wsL_law := (tw49 (i := 9) rfl)
theorem hd_X6_lowestHurt : yX6_lowestHurt.cls = RX6 ∧ yX6_lowestHurt.cls ≠ "java/lang/invoke/MethodHandle" ∧ yX6_lowestHurt.cls ≠ "java/lang/invoke/VarHandle" ∧ (parseMethodDescriptor yX6_lowestHurt.desc).map (fun d => d.parameters.length) = some 2 := by decide +kernel
abbrev cd_X10_done : Cond := Cond.code yX10_done cX10_done 7 (some .int)
theorem cm_X10_done : cd_X10_done ∈ wsL_law := (tw49 (i := 13) rfl)
theorem hd_X10_done : yX10_done.cls = RX10 ∧ yX10_done.cls ≠ "java/lang/invoke/MethodHandle" ∧ yX10_done.cls ≠ "java/lang/invoke/VarHandle" ∧ (parseMethodDescriptor yX10_done.desc).map (fun d => d.parameters.length) = some 2 := by decide +kernel
abbrev cd_X10_findAboves : Cond := Cond.code yX10_findAboves cX10_findAboves 3 none
theorem cm_X10_findAboves : cd_X10_findAboves ∈ wsL_law := (tw49 (i := 17) rfl)
theorem hd_X10_findAboves : yX10_findAboves.cls = RX10 ∧ yX10_findAboves.cls ≠ "java/lang/invoke/MethodHandle" ∧ yX10_findAboves.cls ≠ "java/lang/invoke/VarHandle" ∧ (parseMethodDescriptor yX10_findAboves.desc).map (fun d => d.parameters.length) = some 0 := by decide +kernel
abbrev cd_X10_doWorks : Cond := Cond.code yX10_doWorks cX10_doWorks 6 (some .int)
theorem cm_X10_doWorks : cd_X10_doWorks ∈ wsL_law := (tw49 (i := 21) rfl)
theorem hd_X10_doWorks : yX10_doWorks.cls = RX10 ∧ yX10_doWorks.cls ≠ "java/lang/invoke/MethodHandle" ∧ yX10_doWorks.cls ≠ "java/lang/invoke/VarHandle" ∧ (parseMethodDescriptor yX10_doWorks.desc).map (fun d => d.parameters.length) = some 1 := by decide +kernel
abbrev cd_X10_moveUse : Cond := Cond.code yX10_moveUse cX10_moveUse 4 none
theorem cm_X10_moveUse : cd_X10_moveUse ∈ wsL_law := (tw50 (i := 1) rfl)
theorem hd_X10_moveUse : yX10_moveUse.cls = RX10 ∧ yX10_moveUse.cls ≠ "java/lang/invoke/MethodHandle" ∧ yX10_moveUse.cls ≠ "java/lang/invoke/VarHandle" ∧ (parseMethodDescriptor yX10_moveUse.desc).map (fun d => d.parameters.length) = some 2 := by decide +kernel
abbrev cd_X9_least : Cond := Cond.code yX9_least cX9_least 2 (some .int)
theorem cm_X9_least : cd_X9_least ∈ wsL_law := (tw50 (i := 5) rfl)
theorem hd_X9_least : yX9_least.cls = RX9 ∧ yX9_least.cls ≠ "java/lang/invoke/MethodHandle" ∧ yX9_least.cls ≠ "java/lang/invoke/VarHandle" ∧ (parseMethodDescriptor yX9_least.desc).map (fun d => d.parameters.length) = some 1 := by decide +kernel
abbrev cd_X6_findLeast : Cond := Cond.code yX6_findLeast cX6_findLeast 6 none
theorem cm_X6_findLeast : cd_X6_findLeast ∈ wsL_law := (tw50 (i := 12) rfl)
theorem hd_X6_findLeast : yX6_findLeast.cls = RX6 ∧ yX6_findLeast.cls ≠ "java/lang/invoke/MethodHandle" ∧ yX6_findLeast.cls ≠ "java/lang/invoke/VarHandle" ∧ (parseMethodDescriptor yX6_findLeast.desc).map (fun d => d.parameters.length) = some 2 := by decide +kernel
abbrev cd_X10_least : Cond := Cond.code yX10_least cX10_least 9 (some .int)
theorem cm_X10_least : cd_X10_least ∈ wsL_law := (tw50 (i := 18) rfl)
theorem hd_X10_least : yX10_least.cls = RX10 ∧ yX10_least.cls ≠ "java/lang/invoke/MethodHandle" ∧ yX10_least.cls ≠ "java/lang/invoke/VarHandle" ∧ (parseMethodDescriptor yX10_least.desc).map (fun d => d.parameters.length) = some 1 := by decide +kernel
abbrev cd_X9_build : Cond := Cond.code yX9_build cX9_build 3 (some .int)
theorem cm_X9_build : cd_X9_build ∈ wsL_law := (tw50 (i := 22) rfl)
theorem hd_X9_build : yX9_build.cls = RX9 ∧ yX9_build.cls ≠ "java/lang/invoke/MethodHandle" ∧ yX9_build.cls ≠ "java/lang/invoke/VarHandle" ∧ (parseMethodDescriptor yX9_build.desc).map (fun d => d.parameters.length) = some 1 := by decide +kernel
abbrev cd_X10_build : Cond := Cond.code yX10_build cX10_build 4 (some .int)
theorem cm_X10_build : cd_X10_build ∈ wsL_law := (tw51 (i := 3) rfl)
theorem hd_X10_build : yX10_build.cls = RX10 ∧ yX10_build.cls ≠ "java/lang/invoke/MethodHandle" ∧ yX10_build.cls ≠ "java/lang/invoke/VarHandle" ∧ (parseMethodDescriptor yX10_build.desc).map (fun d => d.parameters.length) = some 1 := by decide +kernel
abbrev cd_X9_place : Cond := Cond.code yX9_place cX9_place 2 (some .int)
theorem cm_X9_place : cd_X9_place ∈ wsL_law := (tw51 (i := 7) rfl)
theorem hd_X9_place : yX9_place.cls = RX9 ∧ yX9_place.cls ≠ "java/lang/invoke/MethodHandle" ∧ yX9_place.cls ≠ "java/lang/invoke/VarHandle" ∧ (parseMethodDescriptor yX9_place.desc).map (fun d => d.parameters.length) = some 1 := by decide +kernel
abbrev cd_X3_addPlace : Cond := Cond.code yX3_addPlace cX3_addPlace 2 (some .int)
theorem cm_X3_addPlace : cd_X3_addPlace ∈ wsL_law := (tw51 (i := 13) rfl)
theorem hd_X3_addPlace : yX3_addPlace.cls = RX3 ∧ yX3_addPlace.cls ≠ "java/lang/invoke/MethodHandle" ∧ yX3_addPlace.cls ≠ "java/lang/invoke/VarHandle" ∧ (parseMethodDescriptor yX3_addPlace.desc).map (fun d => d.parameters.length) = some 1 := by decide +kernel
abbrev cd_X10_place : Cond := Cond.code yX10_place cX10_place 3 (some .int)
theorem cm_X10_place : cd_X10_place ∈ wsL_law := (tw51 (i := 17) rfl)
theorem hd_X10_place : yX10_place.cls = RX10 ∧ yX10_place.cls ≠ "java/lang/invoke/MethodHandle" ∧ yX10_place.cls ≠ "java/lang/invoke/VarHandle" ∧ (parseMethodDescriptor yX10_place.desc).map (fun d => d.parameters.length) = some 1 := by decide +kernel
abbrev cd_X9_glass : Cond := Cond.code yX9_glass cX9_glass 8 (some .int)
theorem cm_X9_glass : cd_X9_glass ∈ wsL_law := (tw51 (i := 21) rfl)
theorem hd_X9_glass : yX9_glass.cls = RX9 ∧ yX9_glass.cls ≠ "java/lang/invoke/MethodHandle" ∧ yX9_glass.cls ≠ "java/lang/invoke/VarHandle" ∧ (parseMethodDescriptor yX9_glass.desc).map (fun d => d.parameters.length) = some 1 := by decide +kernel
abbrev cd_X9_gatherWatchers : Cond := Cond.code yX9_gatherWatchers cX9_gatherWatchers 3 (some .int)
theorem cm_X9_gatherWatchers : cd_X9_gatherWatchers ∈ wsL_law := (tw52 (i := 1) rfl)
theorem hd_X9_gatherWatchers : yX9_gatherWatchers.cls = RX9 ∧ yX9_gatherWatchers.cls ≠ "java/lang/invoke/MethodHandle" ∧ yX9_gatherWatchers.cls ≠ "java/lang/invoke/VarHandle" ∧ (parseMethodDescriptor yX9_gatherWatchers.desc).map (fun d => d.parameters.length) = some 0 := by decide +kernel
abbrev cd_X3_watchers : Cond := Cond.code yX3_watchers cX3_watchers 5 (some .int)
theorem cm_X3_watchers : cd_X3_watchers ∈ wsL_law := (tw52 (i := 5) rfl)
theorem hd_X3_watchers : yX3_watchers.cls = RX3 ∧ yX3_watchers.cls ≠ "java/lang/invoke/MethodHandle" ∧ yX3_watchers.cls ≠ "java/lang/invoke/VarHandle" ∧ (parseMethodDescriptor yX3_watchers.desc).map (fun d => d.parameters.length) = some 1 := by decide +kernel
abbrev cd_X9_watchesAll : Cond := Cond.code yX9_watchesAll cX9_watchesAll 4 (some .boolean)
theorem cm_X9_watchesAll : cd_X9_watchesAll ∈ wsL_law := (tw52 (i := 13) rfl)
theorem hd_X9_watchesAll : yX9_watchesAll.cls = RX9 ∧ yX9_watchesAll.cls ≠ "java/lang/invoke/MethodHandle" ∧ yX9_watchesAll.cls ≠ "java/lang/invoke/VarHandle" ∧ (parseMethodDescriptor yX9_watchesAll.desc).map (fun d => d.parameters.length) = some 2 := by decide +kernel
abbrev cd_X10_glass : Cond := Cond.code yX10_glass cX10_glass 8 (some .int)
theorem cm_X10_glass : cd_X10_glass ∈ wsL_law := (tw52 (i := 17) rfl)
theorem hd_X10_glass : yX10_glass.cls = RX10 ∧ yX10_glass.cls ≠ "java/lang/invoke/MethodHandle" ∧ yX10_glass.cls ≠ "java/lang/invoke/VarHandle" ∧ (parseMethodDescriptor yX10_glass.desc).map (fun d => d.parameters.length) = some 1 := by decide +kernel
abbrev cd_X10_isWatched : Cond := Cond.code yX10_isWatched cX10_isWatched 6 (some .boolean)
theorem cm_X10_isWatched : cd_X10_isWatched ∈ wsL_law := (tw52 (i := 21) rfl)
theorem hd_X10_isWatched : yX10_isWatched.cls = RX10 ∧ yX10_isWatched.cls ≠ "java/lang/invoke/MethodHandle" ∧ yX10_isWatched.cls ≠ "java/lang/invoke/VarHandle" ∧ (parseMethodDescriptor yX10_isWatched.desc).map (fun d => d.parameters.length) = some 1 := by decide +kernel
abbrev cd_X10_isNear : Cond := Cond.code yX10_isNear cX10_isNear 4 (some .boolean)
theorem cm_X10_isNear : cd_X10_isNear ∈ wsL_law := (tw53 (i := 0) rfl)
theorem hd_X10_isNear : yX10_isNear.cls = RX10 ∧ yX10_isNear.cls ≠ "java/lang/invoke/MethodHandle" ∧ yX10_isNear.cls ≠ "java/lang/invoke/VarHandle" ∧ (parseMethodDescriptor yX10_isNear.desc).map (fun d => d.parameters.length) = some 2 := by decide +kernel
abbrev cd_X9_salt : Cond := Cond.code yX9_salt cX9_salt 5 (some .int)
theorem cm_X9_salt : cd_X9_salt ∈ wsL_law := (tw53 (i := 4) rfl)
theorem hd_X9_salt : yX9_salt.cls = RX9 ∧ yX9_salt.cls ≠ "java/lang/invoke/MethodHandle" ∧ yX9_salt.cls ≠ "java/lang/invoke/VarHandle" ∧ (parseMethodDescriptor yX9_salt.desc).map (fun d => d.parameters.length) = some 3 := by decide +kernel
abbrev cd_X9_saltCells : Cond := Cond.code yX9_saltCells cX9_saltCells 6 (some .int)
theorem cm_X9_saltCells : cd_X9_saltCells ∈ wsL_law := (tw53 (i := 8) rfl)
theorem hd_X9_saltCells : yX9_saltCells.cls = RX9 ∧ yX9_saltCells.cls ≠ "java/lang/invoke/MethodHandle" ∧ yX9_saltCells.cls ≠ "java/lang/invoke/VarHandle" ∧ (parseMethodDescriptor yX9_saltCells.desc).map (fun d => d.parameters.length) = some 2 := by decide +kernel
abbrev cd_X10_salt : Cond := Cond.code yX10_salt cX10_salt 6 (some .int)
theorem cm_X10_salt : cd_X10_salt ∈ wsL_law := (tw53 (i := 13) rfl)
theorem hd_X10_salt : yX10_salt.cls = RX10 ∧ yX10_salt.cls ≠ "java/lang/invoke/MethodHandle" ∧ yX10_salt.cls ≠ "java/lang/invoke/VarHandle" ∧ (parseMethodDescriptor yX10_salt.desc).map (fun d => d.parameters.length) = some 3 := by decide +kernel
abbrev cd_X10_blown : Cond := Cond.code yX10_blown cX10_blown 6 (some .int)
theorem cm_X10_blown : cd_X10_blown ∈ wsL_law := (tw53 (i := 17) rfl)
theorem hd_X10_blown : yX10_blown.cls = RX10 ∧ yX10_blown.cls ≠ "java/lang/invoke/MethodHandle" ∧ yX10_blown.cls ≠ "java/lang/invoke/VarHandle" ∧ (parseMethodDescriptor yX10_blown.desc).map (fun d => d.parameters.length) = some 3 := by decide +kernel
abbrev cd_X9_odds : Cond := Cond.code yX9_odds cX9_odds 12 (some .int)
theorem cm_X9_odds : cd_X9_odds ∈ wsL_law := (tw53 (i := 21) rfl)
theorem hd_X9_odds : yX9_odds.cls = RX9 ∧ yX9_odds.cls ≠ "java/lang/invoke/MethodHandle" ∧ yX9_odds.cls ≠ "java/lang/invoke/VarHandle" ∧ (parseMethodDescriptor yX9_odds.desc).map (fun d => d.parameters.length) = some 5 := by decide +kernel
abbrev cd_X9_greatestDivisor : Cond := Cond.code yX9_greatestDivisor cX9_greatestDivisor 6 (some .int)
theorem cm_X9_greatestDivisor : cd_X9_greatestDivisor ∈ wsL_law := (tw54 (i := 1) rfl)
theorem hd_X9_greatestDivisor : yX9_greatestDivisor.cls = RX9 ∧ yX9_greatestDivisor.cls ≠ "java/lang/invoke/MethodHandle" ∧ yX9_greatestDivisor.cls ≠ "java/lang/invoke/VarHandle" ∧ (parseMethodDescriptor yX9_greatestDivisor.desc).map (fun d => d.parameters.length) = some 2 := by decide +kernel
abbrev cd_X10_odds : Cond := Cond.code yX10_odds cX10_odds 11 (some .int)
theorem cm_X10_odds : cd_X10_odds ∈ wsL_law := (tw54 (i := 5) rfl)
theorem hd_X10_odds : yX10_odds.cls = RX10 ∧ yX10_odds.cls ≠ "java/lang/invoke/MethodHandle" ∧ yX10_odds.cls ≠ "java/lang/invoke/VarHandle" ∧ (parseMethodDescriptor yX10_odds.desc).map (fun d => d.parameters.length) = some 5 := by decide +kernel
abbrev cd_X10_common : Cond := Cond.code yX10_common cX10_common 5 (some .int)
theorem cm_X10_common : cd_X10_common ∈ wsL_law := (tw54 (i := 8) rfl)
theorem hd_X10_common : yX10_common.cls = RX10 ∧ yX10_common.cls ≠ "java/lang/invoke/MethodHandle" ∧ yX10_common.cls ≠ "java/lang/invoke/VarHandle" ∧ (parseMethodDescriptor yX10_common.desc).map (fun d => d.parameters.length) = some 2 := by decide +kernel
abbrev cd_X9_day : Cond := Cond.code yX9_day cX9_day 5 (some .int)
theorem cm_X9_day : cd_X9_day ∈ wsL_law := (tw54 (i := 12) rfl)
theorem hd_X9_day : yX9_day.cls = RX9 ∧ yX9_day.cls ≠ "java/lang/invoke/MethodHandle" ∧ yX9_day.cls ≠ "java/lang/invoke/VarHandle" ∧ (parseMethodDescriptor yX9_day.desc).map (fun d => d.parameters.length) = some 1 := by decide +kernel
abbrev cd_X3_hourOf : Cond := Cond.code yX3_hourOf cX3_hourOf 4 (some .int)
theorem cm_X3_hourOf : cd_X3_hourOf ∈ wsL_law := (tw54 (i := 18) rfl)
theorem hd_X3_hourOf : yX3_hourOf.cls = RX3 ∧ yX3_hourOf.cls ≠ "java/lang/invoke/MethodHandle" ∧ yX3_hourOf.cls ≠ "java/lang/invoke/VarHandle" ∧ (parseMethodDescriptor yX3_hourOf.desc).map (fun d => d.parameters.length) = some 1 := by decide +kernel
abbrev cd_X9_tooQuickHours : Cond := Cond.code yX9_tooQuickHours cX9_tooQuickHours 6 (some .int)
theorem cm_X9_tooQuickHours : cd_X9_tooQuickHours ∈ wsL_law := (tw54 (i := 22) rfl)
theorem hd_X9_tooQuickHours : yX9_tooQuickHours.cls = RX9 ∧ yX9_tooQuickHours.cls ≠ "java/lang/invoke/MethodHandle" ∧ yX9_tooQuickHours.cls ≠ "java/lang/invoke/VarHandle" ∧ (parseMethodDescriptor yX9_tooQuickHours.desc).map (fun d => d.parameters.length) = some 0 := by decide +kernel
abbrev cd_X7_leastPaceOverLines : Cond := Cond.code yX7_leastPaceOverLines cX7_leastPaceOverLines 9 (some .int)
theorem cm_X7_leastPaceOverLines : cd_X7_leastPaceOverLines ∈ wsL_law := (tw55 (i := 3) rfl)
theorem hd_X7_leastPaceOverLines : yX7_leastPaceOverLines.cls = RX7 ∧ yX7_leastPaceOverLines.cls ≠ "java/lang/invoke/MethodHandle" ∧ yX7_leastPaceOverLines.cls ≠ "java/lang/invoke/VarHandle" ∧ (parseMethodDescriptor yX7_leastPaceOverLines.desc).map (fun d => d.parameters.length) = some 3 := by decide +kernel
abbrev cd_X10_day : Cond := Cond.code yX10_day cX10_day 9 (some .int)
theorem cm_X10_day : cd_X10_day ∈ wsL_law := (tw55 (i := 8) rfl)
theorem hd_X10_day : yX10_day.cls = RX10 ∧ yX10_day.cls ≠ "java/lang/invoke/MethodHandle" ∧ yX10_day.cls ≠ "java/lang/invoke/VarHandle" ∧ (parseMethodDescriptor yX10_day.desc).map (fun d => d.parameters.length) = some 1 := by decide +kernel
abbrev cd_X9_drawn : Cond := Cond.code yX9_drawn cX9_drawn 3 (some .int)
theorem cm_X9_drawn : cd_X9_drawn ∈ wsL_law := (tw55 (i := 17) rfl)
theorem hd_X9_drawn : yX9_drawn.cls = RX9 ∧ yX9_drawn.cls ≠ "java/lang/invoke/MethodHandle" ∧ yX9_drawn.cls ≠ "java/lang/invoke/VarHandle" ∧ (parseMethodDescriptor yX9_drawn.desc).map (fun d => d.parameters.length) = some 2 := by decide +kernel
abbrev cd_X10_drawn : Cond := Cond.code yX10_drawn cX10_drawn 3 (some .int)
theorem cm_X10_drawn : cd_X10_drawn ∈ wsL_law := (tw55 (i := 21) rfl)
theorem hd_X10_drawn : yX10_drawn.cls = RX10 ∧ yX10_drawn.cls ≠ "java/lang/invoke/MethodHandle" ∧ yX10_drawn.cls ≠ "java/lang/invoke/VarHandle" ∧ (parseMethodDescriptor yX10_drawn.desc).map (fun d => d.parameters.length) = some 2 := by decide +kernel
abbrev cd_X9_image : Cond := Cond.code yX9_image cX9_image 3 (some .int)
theorem cm_X9_image : cd_X9_image ∈ wsL_law := (tw56 (i := 1) rfl)
theorem hd_X9_image : yX9_image.cls = RX9 ∧ yX9_image.cls ≠ "java/lang/invoke/MethodHandle" ∧ yX9_image.cls ≠ "java/lang/invoke/VarHandle" ∧ (parseMethodDescriptor yX9_image.desc).map (fun d => d.parameters.length) = some 1 := by decide +kernel
abbrev cd_X3_become : Cond := Cond.code yX3_become cX3_become 3 none
theorem cm_X3_become : cd_X3_become ∈ wsL_law := (tw56 (i := 5) rfl)
theorem hd_X3_become : yX3_become.cls = RX3 ∧ yX3_become.cls ≠ "java/lang/invoke/MethodHandle" ∧ yX3_become.cls ≠ "java/lang/invoke/VarHandle" ∧ (parseMethodDescriptor yX3_become.desc).map (fun d => d.parameters.length) = some 1 := by decide +kernel
abbrev cd_X5_become : Cond := Cond.code yX5_become cX5_become 2 none
theorem cm_X5_become : cd_X5_become ∈ wsL_law := (tw56 (i := 11) rfl)
theorem hd_X5_become : yX5_become.cls = RX5 ∧ yX5_become.cls ≠ "java/lang/invoke/MethodHandle" ∧ yX5_become.cls ≠ "java/lang/invoke/VarHandle" ∧ (parseMethodDescriptor yX5_become.desc).map (fun d => d.parameters.length) = some 1 := by decide +kernel
abbrev cd_X8_become : Cond := Cond.code yX8_become cX8_become 2 none
theorem cm_X8_become : cd_X8_become ∈ wsL_law := (tw56 (i := 16) rfl)
theorem hd_X8_become : yX8_become.cls = RX8 ∧ yX8_become.cls ≠ "java/lang/invoke/MethodHandle" ∧ yX8_become.cls ≠ "java/lang/invoke/VarHandle" ∧ (parseMethodDescriptor yX8_become.desc).map (fun d => d.parameters.length) = some 1 := by decide +kernel
abbrev cd_X10_image : Cond := Cond.code yX10_image cX10_image 3 (some .int)
theorem cm_X10_image : cd_X10_image ∈ wsL_law := (tw56 (i := 21) rfl)
theorem hd_X10_image : yX10_image.cls = RX10 ∧ yX10_image.cls ≠ "java/lang/invoke/MethodHandle" ∧ yX10_image.cls ≠ "java/lang/invoke/VarHandle" ∧ (parseMethodDescriptor yX10_image.desc).map (fun d => d.parameters.length) = some 1 := by decide +kernel
abbrev cd_X9_back : Cond := Cond.code yX9_back cX9_back 3 (some .int)
theorem cm_X9_back : cd_X9_back ∈ wsL_law := (tw57 (i := 1) rfl)
theorem hd_X9_back : yX9_back.cls = RX9 ∧ yX9_back.cls ≠ "java/lang/invoke/MethodHandle" ∧ yX9_back.cls ≠ "java/lang/invoke/VarHandle" ∧ (parseMethodDescriptor yX9_back.desc).map (fun d => d.parameters.length) = some 1 := by decide +kernel
abbrev cd_X10_back : Cond := Cond.code yX10_back cX10_back 3 (some .int)
theorem cm_X10_back : cd_X10_back ∈ wsL_law := (tw57 (i := 5) rfl)
theorem hd_X10_back : yX10_back.cls = RX10 ∧ yX10_back.cls ≠ "java/lang/invoke/MethodHandle" ∧ yX10_back.cls ≠ "java/lang/invoke/VarHandle" ∧ (parseMethodDescriptor yX10_back.desc).map (fun d => d.parameters.length) = some 1 := by decide +kernel
abbrev cd_X9_count : Cond := Cond.code yX9_count cX9_count 2 (some .int)
theorem cm_X9_count : cd_X9_count ∈ wsL_law := (tw57 (i := 9) rfl)
theorem hd_X9_count : yX9_count.cls = RX9 ∧ yX9_count.cls ≠ "java/lang/invoke/MethodHandle" ∧ yX9_count.cls ≠ "java/lang/invoke/VarHandle" ∧ (parseMethodDescriptor yX9_count.desc).map (fun d => d.parameters.length) = some 1 := by decide +kernel
abbrev cd_X3_groundCells : Cond := Cond.code yX3_groundCells cX3_groundCells 3 (some .int)
theorem cm_X3_groundCells : cd_X3_groundCells ∈ wsL_law := (tw57 (i := 13) rfl)
theorem hd_X3_groundCells : yX3_groundCells.cls = RX3 ∧ yX3_groundCells.cls ≠ "java/lang/invoke/MethodHandle" ∧ yX3_groundCells.cls ≠ "java/lang/invoke/VarHandle" ∧ (parseMethodDescriptor yX3_groundCells.desc).map (fun d => d.parameters.length) = some 0 := by decide +kernel
abbrev cd_X10_count : Cond := Cond.code yX10_count cX10_count 4 (some .int)
theorem cm_X10_count : cd_X10_count ∈ wsL_law := (tw57 (i := 17) rfl)
theorem hd_X10_count : yX10_count.cls = RX10 ∧ yX10_count.cls ≠ "java/lang/invoke/MethodHandle" ∧ yX10_count.cls ≠ "java/lang/invoke/VarHandle" ∧ (parseMethodDescriptor yX10_count.desc).map (fun d => d.parameters.length) = some 1 := by decide +kernel
abbrev cd_X9_status : Cond := Cond.code yX9_status cX9_status 1 (some .int)
theorem cm_X9_status : cd_X9_status ∈ wsL_law := (tw57 (i := 21) rfl)
theorem hd_X9_status : yX9_status.cls = RX9 ∧ yX9_status.cls ≠ "java/lang/invoke/MethodHandle" ∧ yX9_status.cls ≠ "java/lang/invoke/VarHandle" ∧ (parseMethodDescriptor yX9_status.desc).map (fun d => d.parameters.length) = some 0 := by decide +kernel
abbrev cd_X10_status : Cond := Cond.code yX10_status cX10_status 1 (some .int)
theorem cm_X10_status : cd_X10_status ∈ wsL_law := (tw58 (i := 1) rfl)
theorem hd_X10_status : yX10_status.cls = RX10 ∧ yX10_status.cls ≠ "java/lang/invoke/MethodHandle" ∧ yX10_status.cls ≠ "java/lang/invoke/VarHandle" ∧ (parseMethodDescriptor yX10_status.desc).map (fun d => d.parameters.length) = some 0 := by decide +kernel
theorem gv_L_13 : GoodIn wsL_law (wsV RL 13 RX9 yX9_tower (cd_X9_tower :: wsL_law)) := gw_V (tw8 (i := 4) rfl) (tw8 (i := 5) rfl) (tw8 (i := 6) rfl) (tw1 (i := 2) rfl) cm_X9_tower
theorem gv_X9_71 : GoodIn wsL_law (wsV RX9 71 RX3 yX3_whyNoTower (cd_X3_whyNoTower :: wsL_law)) := gw_V (tw8 (i := 10) rfl) (tw8 (i := 11) rfl) (tw8 (i := 12) rfl) (tw1 (i := 14) rfl) cm_X3_whyNoTower
theorem gv_X3_91 : GoodIn wsL_law (wsV RX3 91 RX3 yX3_isGround (cd_X3_isGround :: wsL_law)) := gw_V (tw8 (i := 19) rfl) (tw8 (i := 20) rfl) (tw8 (i := 21) rfl) (tw1 (i := 14) rfl) cm_X3_isGround
theorem gs_X9_251 : GoodIn wsL_law (wsS RX9 251 yX9_spotAt (cd_X9_spotAt :: wsL_law)) := gw_S (tw9 (i := 4) rfl) (tw9 (i := 5) rfl) (tw1 (i := 2) rfl) cm_X9_spotAt
theorem gv_X3_101 : GoodIn wsL_law (wsV RX3 101 RX3 yX3_hasPlaceIn (cd_X3_hasPlaceIn :: wsL_law)) := gw_V (tw9 (i := 7) rfl) (tw9 (i := 8) rfl) (tw9 (i := 9) rfl) (tw1 (i := 14) rfl) cm_X3_hasPlaceIn
theorem gv_X3_104 : GoodIn wsL_law (wsV RX3 104 RX8 yX8_needCell (cd_X8_needCell :: wsL_law)) := gw_V (tw9 (i := 11) rfl) (tw9 (i := 12) rfl) (tw9 (i := 13) rfl) (tw3 (i := 4) rfl) cm_X8_needCell
theorem gv_X9_75 : GoodIn wsL_law (wsV RX9 75 RX9 yX9_refuse (cd_X9_refuse :: wsL_law)) := gw_V (tw9 (i := 15) rfl) (tw9 (i := 16) rfl) (tw9 (i := 17) rfl) (tw1 (i := 2) rfl) cm_X9_refuse
theorem gs_X9_102 : GoodIn wsL_law (wsS RX9 102 yX9_isWithin (cd_X9_isWithin :: wsL_law)) := gw_S (tw9 (i := 19) rfl) (tw8 (i := 17) rfl) (tw1 (i := 2) rfl) cm_X9_isWithin
theorem gv_X9_83 : GoodIn wsL_law (wsV RX9 83 RX0 yX0_stand (cd_X0_stand :: wsL_law)) := gw_V (tw9 (i := 20) rfl) (tw9 (i := 21) rfl) (tw9 (i := 22) rfl) (tw2 (i := 20) rfl) cm_X0_stand
theorem gv_X9_93 : GoodIn wsL_law (wsV RX9 93 RX5 yX5_add (cd_X5_add :: wsL_law)) := gw_V (tw10 (i := 4) rfl) (tw10 (i := 5) rfl) (tw10 (i := 6) rfl) (tw3 (i := 0) rfl) cm_X5_add
theorem gv_X9_99 : GoodIn wsL_law (wsV RX9 99 RX9 yX9_accept (cd_X9_accept :: wsL_law)) := gw_V (tw10 (i := 8) rfl) (tw10 (i := 9) rfl) (tw10 (i := 10) rfl) (tw1 (i := 2) rfl) cm_X9_accept
theorem gv_X9_361 : GoodIn wsL_law (wsV RX9 361 RX6 yX6_forget (cd_X6_forget :: wsL_law)) := gw_V (tw10 (i := 12) rfl) (tw10 (i := 13) rfl) (tw10 (i := 14) rfl) (tw1 (i := 23) rfl) cm_X6_forget
theorem gv_L_17 : GoodIn wsL_law (wsV RL 17 RX10 yX10_tower (cd_X10_tower :: wsL_law)) := gw_V (tw10 (i := 16) rfl) (tw10 (i := 17) rfl) (tw10 (i := 18) rfl) (tw1 (i := 5) rfl) cm_X10_tower
theorem gs_X10_157 : GoodIn wsL_law (wsS RX10 157 yX10_canBe (cd_X10_canBe :: wsL_law)) := gw_S (tw10 (i := 21) rfl) (tw10 (i := 22) rfl) (tw1 (i := 5) rfl) cm_X10_canBe
theorem gs_X10_113 : GoodIn wsL_law (wsS RX10 113 yX10_in (cd_X10_in :: wsL_law)) := gw_S (tw11 (i := 3) rfl) (tw11 (i := 4) rfl) (tw1 (i := 5) rfl) cm_X10_in
theorem gv_X10_117 : GoodIn wsL_law (wsV RX10 117 RX10 yX10_tell (cd_X10_tell :: wsL_law)) := gw_V (tw11 (i := 6) rfl) (tw11 (i := 7) rfl) (tw11 (i := 8) rfl) (tw1 (i := 5) rfl) cm_X10_tell
theorem gv_X10_161 : GoodIn wsL_law (wsV RX10 161 RX10 yX10_isFree (cd_X10_isFree :: wsL_law)) := gw_V (tw11 (i := 11) rfl) (tw11 (i := 12) rfl) (tw11 (i := 13) rfl) (tw1 (i := 5) rfl) cm_X10_isFree
theorem gv_X10_148 : GoodIn wsL_law (wsV RX10 148 RX10 yX10_isGround (cd_X10_isGround :: wsL_law)) := gw_V (tw11 (i := 15) rfl) (tw11 (i := 16) rfl) (tw11 (i := 17) rfl) (tw1 (i := 5) rfl) cm_X10_isGround
theorem gs_X10_132 : GoodIn wsL_law (wsS RX10 132 yX10_isCell (cd_X10_isCell :: wsL_law)) := gw_S (tw11 (i := 19) rfl) (tw11 (i := 20) rfl) (tw1 (i := 5) rfl) cm_X10_isCell
theorem gv_X10_136 : GoodIn wsL_law (wsV RX10 136 RX10 yX10_towerOn (cd_X10_towerOn :: wsL_law)) := gw_V (tw11 (i := 23) rfl) (tw12 (i := 0) rfl) (tw12 (i := 1) rfl) (tw1 (i := 5) rfl) cm_X10_towerOn
theorem gv_X10_128 : GoodIn wsL_law (wsV RX10 128 RX10 yX10_covers (cd_X10_covers :: wsL_law)) := gw_V (tw12 (i := 3) rfl) (tw12 (i := 4) rfl) (tw12 (i := 5) rfl) (tw1 (i := 5) rfl) cm_X10_covers
theorem gv_X10_124 : GoodIn wsL_law (wsV RX10 124 RX10 yX10_ofTower (cd_X10_ofTower :: wsL_law)) := gw_V (tw12 (i := 7) rfl) (tw12 (i := 8) rfl) (tw12 (i := 9) rfl) (tw1 (i := 5) rfl) cm_X10_ofTower
theorem gv_X10_151 : GoodIn wsL_law (wsV RX10 151 RX10 yX10_isOfWork (cd_X10_isOfWork :: wsL_law)) := gw_V (tw12 (i := 11) rfl) (tw12 (i := 12) rfl) (tw12 (i := 13) rfl) (tw1 (i := 5) rfl) cm_X10_isOfWork
theorem gv_X10_139 : GoodIn wsL_law (wsV RX10 139 RX10 yX10_ofWork (cd_X10_ofWork :: wsL_law)) := gw_V (tw12 (i := 15) rfl) (tw12 (i := 16) rfl) (tw12 (i := 17) rfl) (tw1 (i := 5) rfl) cm_X10_ofWork
theorem gv_X10_154 : GoodIn wsL_law (wsV RX10 154 RX10 yX10_isOfPlace (cd_X10_isOfPlace :: wsL_law)) := gw_V (tw12 (i := 19) rfl) (tw12 (i := 20) rfl) (tw12 (i := 21) rfl) (tw1 (i := 5) rfl) cm_X10_isOfPlace
theorem gv_L_18 : GoodIn wsL_law (wsV RL 18 RX9 yX9_high (cd_X9_high :: wsL_law)) := gw_V (tw12 (i := 23) rfl) (tw13 (i := 0) rfl) (tw13 (i := 1) rfl) (tw1 (i := 2) rfl) cm_X9_high
theorem gv_X9_106 : GoodIn wsL_law (wsV RX9 106 RX5 yX5_has (cd_X5_has :: wsL_law)) := gw_V (tw13 (i := 3) rfl) (tw13 (i := 4) rfl) (tw13 (i := 5) rfl) (tw3 (i := 0) rfl) cm_X5_has
theorem gv_X9_110 : GoodIn wsL_law (wsV RX9 110 RX5 yX5_highOf (cd_X5_highOf :: wsL_law)) := gw_V (tw13 (i := 7) rfl) (tw13 (i := 8) rfl) (tw13 (i := 9) rfl) (tw3 (i := 0) rfl) cm_X5_highOf
theorem gv_X5_34 : GoodIn wsL_law (wsV RX5 34 RX5 yX5_has (cd_X5_has :: wsL_law)) := gw_V (tw13 (i := 12) rfl) (tw13 (i := 4) rfl) (tw13 (i := 5) rfl) (tw3 (i := 0) rfl) cm_X5_has
theorem gv_X9_114 : GoodIn wsL_law (wsV RX9 114 RX5 yX5_makeHigh (cd_X5_makeHigh :: wsL_law)) := gw_V (tw13 (i := 13) rfl) (tw13 (i := 14) rfl) (tw13 (i := 15) rfl) (tw3 (i := 0) rfl) cm_X5_makeHigh
theorem gv_X5_47 : GoodIn wsL_law (wsV RX5 47 RX0 yX0_stand (cd_X0_stand :: wsL_law)) := gw_V (tw13 (i := 17) rfl) (tw9 (i := 21) rfl) (tw9 (i := 22) rfl) (tw2 (i := 20) rfl) cm_X0_stand
theorem gv_L_22 : GoodIn wsL_law (wsV RL 22 RX10 yX10_high (cd_X10_high :: wsL_law)) := gw_V (tw13 (i := 18) rfl) (tw13 (i := 19) rfl) (tw13 (i := 20) rfl) (tw1 (i := 5) rfl) cm_X10_high
theorem gv_X10_165 : GoodIn wsL_law (wsV RX10 165 RX10 yX10_isTower (cd_X10_isTower :: wsL_law)) := gw_V (tw13 (i := 22) rfl) (tw13 (i := 23) rfl) (tw14 (i := 0) rfl) (tw1 (i := 5) rfl) cm_X10_isTower
theorem gv_X10_168 : GoodIn wsL_law (wsV RX10 168 RX10 yX10_change (cd_X10_change :: wsL_law)) := gw_V (tw14 (i := 2) rfl) (tw14 (i := 3) rfl) (tw14 (i := 4) rfl) (tw1 (i := 5) rfl) cm_X10_change
theorem gv_X10_109 : GoodIn wsL_law (wsV RX10 109 RX10 yX10_was (cd_X10_was :: wsL_law)) := gw_V (tw14 (i := 6) rfl) (tw14 (i := 7) rfl) (tw14 (i := 8) rfl) (tw1 (i := 5) rfl) cm_X10_was
theorem gv_L_23 : GoodIn wsL_law (wsV RL 23 RX9 yX9_at (cd_X9_at :: wsL_law)) := gw_V (tw14 (i := 10) rfl) (tw14 (i := 11) rfl) (tw14 (i := 12) rfl) (tw1 (i := 2) rfl) cm_X9_at
theorem gs_X9_118 : GoodIn wsL_law (wsS RX9 118 yX9_isCell (cd_X9_isCell :: wsL_law)) := gw_S (tw14 (i := 14) rfl) (tw9 (i := 0) rfl) (tw1 (i := 2) rfl) cm_X9_isCell
theorem gv_X9_121 : GoodIn wsL_law (wsV RX9 121 RX5 yX5_in (cd_X5_in :: wsL_law)) := gw_V (tw14 (i := 15) rfl) (tw14 (i := 16) rfl) (tw14 (i := 17) rfl) (tw3 (i := 0) rfl) cm_X5_in
theorem gv_L_27 : GoodIn wsL_law (wsV RL 27 RX10 yX10_at (cd_X10_at :: wsL_law)) := gw_V (tw14 (i := 19) rfl) (tw14 (i := 20) rfl) (tw14 (i := 21) rfl) (tw1 (i := 5) rfl) cm_X10_at
theorem gv_L_28 : GoodIn wsL_law (wsV RL 28 RX9 yX9_put (cd_X9_put :: wsL_law)) := gw_V (tw14 (i := 23) rfl) (tw15 (i := 0) rfl) (tw15 (i := 1) rfl) (tw1 (i := 2) rfl) cm_X9_put
theorem gv_X9_124 : GoodIn wsL_law (wsV RX9 124 RX3 yX3_isGround (cd_X3_isGround :: wsL_law)) := gw_V (tw15 (i := 3) rfl) (tw8 (i := 20) rfl) (tw8 (i := 21) rfl) (tw1 (i := 14) rfl) cm_X3_isGround
theorem gv_X9_127 : GoodIn wsL_law (wsV RX9 127 RX0 yX0_rowOf (cd_X0_rowOf :: wsL_law)) := gw_V (tw15 (i := 4) rfl) (tw15 (i := 5) rfl) (tw15 (i := 6) rfl) (tw2 (i := 20) rfl) cm_X0_rowOf
theorem gs_X9_131 : GoodIn wsL_law (wsS RX9 131 yX9_spotOf (cd_X9_spotOf :: wsL_law)) := gw_S (tw15 (i := 8) rfl) (tw9 (i := 2) rfl) (tw1 (i := 2) rfl) cm_X9_spotOf
theorem gv_L_32 : GoodIn wsL_law (wsV RL 32 RX10 yX10_put (cd_X10_put :: wsL_law)) := gw_V (tw15 (i := 9) rfl) (tw15 (i := 10) rfl) (tw15 (i := 11) rfl) (tw1 (i := 5) rfl) cm_X10_put
theorem gv_L_33 : GoodIn wsL_law (wsV RL 33 RX9 yX9_of (cd_X9_of :: wsL_law)) := gw_V (tw15 (i := 15) rfl) (tw15 (i := 16) rfl) (tw15 (i := 17) rfl) (tw1 (i := 2) rfl) cm_X9_of
theorem gv_L_36 : GoodIn wsL_law (wsV RL 36 RX10 yX10_of (cd_X10_of :: wsL_law)) := gw_V (tw15 (i := 19) rfl) (tw15 (i := 20) rfl) (tw15 (i := 21) rfl) (tw1 (i := 5) rfl) cm_X10_of
theorem gv_L_37 : GoodIn wsL_law (wsV RL 37 RX9 yX9_line (cd_X9_line :: wsL_law)) := gw_V (tw15 (i := 23) rfl) (tw16 (i := 0) rfl) (tw16 (i := 1) rfl) (tw1 (i := 2) rfl) cm_X9_line
theorem gv_L_40 : GoodIn wsL_law (wsV RL 40 RX10 yX10_line (cd_X10_line :: wsL_law)) := gw_V (tw16 (i := 5) rfl) (tw16 (i := 6) rfl) (tw16 (i := 7) rfl) (tw1 (i := 5) rfl) cm_X10_line
theorem gs_X10_173 : GoodIn wsL_law (wsS RX10 173 yX10_isUse (cd_X10_isUse :: wsL_law)) := gw_S (tw16 (i := 10) rfl) (tw16 (i := 11) rfl) (tw1 (i := 5) rfl) cm_X10_isUse
theorem gv_L_41 : GoodIn wsL_law (wsV RL 41 RX9 yX9_hours (cd_X9_hours :: wsL_law)) := gw_V (tw16 (i := 13) rfl) (tw16 (i := 14) rfl) (tw16 (i := 15) rfl) (tw1 (i := 2) rfl) cm_X9_hours
theorem gs_X9_140 : GoodIn wsL_law (wsS RX9 140 yX9_isWay (cd_X9_isWay :: wsL_law)) := gw_S (tw16 (i := 17) rfl) (tw16 (i := 18) rfl) (tw1 (i := 2) rfl) cm_X9_isWay
theorem gs_X9_143 : GoodIn wsL_law (wsS RX9 143 yX9_isPace (cd_X9_isPace :: wsL_law)) := gw_S (tw16 (i := 20) rfl) (tw16 (i := 21) rfl) (tw1 (i := 2) rfl) cm_X9_isPace
theorem gv_X9_146 : GoodIn wsL_law (wsV RX9 146 RX3 yX3_setHours (cd_X3_setHours :: wsL_law)) := gw_V (tw16 (i := 23) rfl) (tw17 (i := 0) rfl) (tw17 (i := 1) rfl) (tw1 (i := 14) rfl) cm_X3_setHours
theorem gv_L_44 : GoodIn wsL_law (wsV RL 44 RX10 yX10_hours (cd_X10_hours :: wsL_law)) := gw_V (tw17 (i := 3) rfl) (tw17 (i := 4) rfl) (tw17 (i := 5) rfl) (tw1 (i := 5) rfl) cm_X10_hours
theorem gs_X10_178 : GoodIn wsL_law (wsS RX10 178 yX10_isWay (cd_X10_isWay :: wsL_law)) := gw_S (tw17 (i := 8) rfl) (tw17 (i := 9) rfl) (tw1 (i := 5) rfl) cm_X10_isWay
theorem gv_L_45 : GoodIn wsL_law (wsV RL 45 RX9 yX9_feed (cd_X9_feed :: wsL_law)) := gw_V (tw17 (i := 11) rfl) (tw17 (i := 12) rfl) (tw17 (i := 13) rfl) (tw1 (i := 2) rfl) cm_X9_feed
theorem gv_X9_150 : GoodIn wsL_law (wsV RX9 150 RX9 yX9_feedOne (cd_X9_feedOne :: wsL_law)) := gw_V (tw17 (i := 15) rfl) (tw17 (i := 16) rfl) (tw17 (i := 17) rfl) (tw1 (i := 2) rfl) cm_X9_feedOne
theorem gv_L_48 : GoodIn wsL_law (wsV RL 48 RX10 yX10_feed (cd_X10_feed :: wsL_law)) := gw_V (tw17 (i := 19) rfl) (tw17 (i := 20) rfl) (tw17 (i := 21) rfl) (tw1 (i := 5) rfl) cm_X10_feed
theorem gv_X10_193 : GoodIn wsL_law (wsV RX10 193 RX10 yX10_four (cd_X10_four :: wsL_law)) := gw_V (tw18 (i := 0) rfl) (tw18 (i := 1) rfl) (tw18 (i := 2) rfl) (tw1 (i := 5) rfl) cm_X10_four
theorem gv_L_49 : GoodIn wsL_law (wsV RL 49 RX9 yX9_end (cd_X9_end :: wsL_law)) := gw_V (tw18 (i := 4) rfl) (tw18 (i := 5) rfl) (tw18 (i := 6) rfl) (tw1 (i := 2) rfl) cm_X9_end
theorem gv_L_52 : GoodIn wsL_law (wsV RL 52 RX10 yX10_end (cd_X10_end :: wsL_law)) := gw_V (tw18 (i := 8) rfl) (tw18 (i := 9) rfl) (tw18 (i := 10) rfl) (tw1 (i := 5) rfl) cm_X10_end
theorem gv_L_53 : GoodIn wsL_law (wsV RL 53 RX9 yX9_row (cd_X9_row :: wsL_law)) := gw_V (tw18 (i := 12) rfl) (tw18 (i := 13) rfl) (tw18 (i := 14) rfl) (tw1 (i := 2) rfl) cm_X9_row
theorem gv_X9_160 : GoodIn wsL_law (wsV RX9 160 RX3 yX3_allHours (cd_X3_allHours :: wsL_law)) := gw_V (tw18 (i := 19) rfl) (tw18 (i := 20) rfl) (tw18 (i := 21) rfl) (tw1 (i := 14) rfl) cm_X3_allHours
theorem gv_L_57 : GoodIn wsL_law (wsV RL 57 RX10 yX10_row (cd_X10_row :: wsL_law)) := gw_V (tw18 (i := 23) rfl) (tw19 (i := 0) rfl) (tw19 (i := 1) rfl) (tw1 (i := 5) rfl) cm_X10_row
theorem gv_X10_189 : GoodIn wsL_law (wsV RX10 189 RX10 yX10_allHours (cd_X10_allHours :: wsL_law)) := gw_V (tw19 (i := 4) rfl) (tw19 (i := 5) rfl) (tw19 (i := 6) rfl) (tw1 (i := 5) rfl) cm_X10_allHours
theorem gv_L_58 : GoodIn wsL_law (wsV RL 58 RX9 yX9_torn (cd_X9_torn :: wsL_law)) := gw_V (tw19 (i := 8) rfl) (tw19 (i := 9) rfl) (tw19 (i := 10) rfl) (tw1 (i := 2) rfl) cm_X9_torn
theorem gv_L_61 : GoodIn wsL_law (wsV RL 61 RX10 yX10_torn (cd_X10_torn :: wsL_law)) := gw_V (tw19 (i := 12) rfl) (tw19 (i := 13) rfl) (tw19 (i := 14) rfl) (tw1 (i := 5) rfl) cm_X10_torn
theorem gv_L_62 : GoodIn wsL_law (wsV RL 62 RX9 yX9_law (cd_X9_law :: wsL_law)) := gw_V (tw19 (i := 16) rfl) (tw19 (i := 17) rfl) (tw19 (i := 18) rfl) (tw1 (i := 2) rfl) cm_X9_law
theorem gv_X9_167 : GoodIn wsL_law (wsV RX9 167 RX2 yX2_read (cd_X2_read :: wsL_law)) := gw_V (tw19 (i := 22) rfl) (tw19 (i := 23) rfl) (tw20 (i := 0) rfl) (tw2 (i := 3) rfl) cm_X2_read
theorem gv_X2_41 : GoodIn wsL_law (wsV RX2 41 RX4 yX4_cut (cd_X4_cut :: wsL_law)) := gw_V (tw20 (i := 6) rfl) (tw20 (i := 7) rfl) (tw20 (i := 8) rfl) (tw6 (i := 0) rfl) cm_X4_cut
theorem gv_X4_37 : GoodIn wsL_law (wsV RX4 37 RX4 yX4_goesOn (cd_X4_goesOn :: wsL_law)) := gw_V (tw20 (i := 12) rfl) (tw20 (i := 13) rfl) (tw20 (i := 14) rfl) (tw6 (i := 0) rfl) cm_X4_goesOn
theorem gs_X4_49 : GoodIn wsL_law (wsS RX4 49 yX4_isLetter (cd_X4_isLetter :: wsL_law)) := gw_S (tw20 (i := 16) rfl) (tw20 (i := 17) rfl) (tw6 (i := 0) rfl) cm_X4_isLetter
theorem gs_X4_52 : GoodIn wsL_law (wsS RX4 52 yX4_isDigit (cd_X4_isDigit :: wsL_law)) := gw_S (tw20 (i := 19) rfl) (tw20 (i := 20) rfl) (tw6 (i := 0) rfl) cm_X4_isDigit
theorem gv_X4_41 : GoodIn wsL_law (wsV RX4 41 RX4 yX4_sortFrom (cd_X4_sortFrom :: wsL_law)) := gw_V (tw20 (i := 22) rfl) (tw20 (i := 23) rfl) (tw21 (i := 0) rfl) (tw6 (i := 0) rfl) cm_X4_sortFrom
theorem gv_X4_55 : GoodIn wsL_law (wsV RX4 55 RX4 yX4_wordFrom (cd_X4_wordFrom :: wsL_law)) := gw_V (tw21 (i := 2) rfl) (tw21 (i := 3) rfl) (tw21 (i := 4) rfl) (tw6 (i := 0) rfl) cm_X4_wordFrom
theorem gv_X4_63 : GoodIn wsL_law (wsV RX4 63 RX4 yX4_spells (cd_X4_spells :: wsL_law)) := gw_V (tw21 (i := 6) rfl) (tw21 (i := 7) rfl) (tw21 (i := 8) rfl) (tw6 (i := 0) rfl) cm_X4_spells
theorem gv_X4_93 : GoodIn wsL_law (wsV RX4 93 RJ0 yJ0_length_8abf5 (cd_J0_length_8abf5 :: wsL_law)) := gw_V (tw21 (i := 10) rfl) (tw21 (i := 11) rfl) (tw21 (i := 12) rfl) (tw21 (i := 13) rfl) cm_J0_length_8abf5
theorem gv_J0_335 : GoodIn wsL_law (wsV RJ0 335 RJ0 yJ0_coder_7d493 (cd_J0_coder_7d493 :: wsL_law)) := gw_V (tw21 (i := 16) rfl) (tw21 (i := 17) rfl) (tw21 (i := 18) rfl) (tw21 (i := 13) rfl) cm_J0_coder_7d493
theorem gv_X4_98 : GoodIn wsL_law (wsV RX4 98 RJ0 yJ0_charAt_5068e (cd_J0_charAt_5068e :: wsL_law)) := gw_V (tw21 (i := 22) rfl) (tw21 (i := 23) rfl) (tw22 (i := 0) rfl) (tw21 (i := 13) rfl) cm_J0_charAt_5068e
theorem gv_J0_492 : GoodIn wsL_law (wsV RJ0 492 RJ0 yJ0_isLatin1_aae02 (cd_J0_isLatin1_aae02 :: wsL_law)) := gw_V (tw22 (i := 2) rfl) (tw22 (i := 3) rfl) (tw22 (i := 4) rfl) (tw21 (i := 13) rfl) cm_J0_isLatin1_aae02
theorem gv_X4_58 : GoodIn wsL_law (wsV RX4 58 RX4 yX4_numberFrom (cd_X4_numberFrom :: wsL_law)) := gw_V (tw23 (i := 11) rfl) (tw23 (i := 12) rfl) (tw23 (i := 13) rfl) (tw6 (i := 0) rfl) cm_X4_numberFrom
theorem gv_X4_45 : GoodIn wsL_law (wsV RX4 45 RX4 yX4_add (cd_X4_add :: wsL_law)) := gw_V (tw23 (i := 15) rfl) (tw23 (i := 16) rfl) (tw23 (i := 17) rfl) (tw6 (i := 0) rfl) cm_X4_add
theorem gv_X2_48 : GoodIn wsL_law (wsV RX2 48 RX2 yX2_readClause (cd_X2_readClause :: wsL_law)) := gw_V (tw23 (i := 19) rfl) (tw23 (i := 20) rfl) (tw23 (i := 21) rfl) (tw2 (i := 3) rfl) cm_X2_readClause
theorem gv_X2_66 : GoodIn wsL_law (wsV RX2 66 RX2 yX2_failHere (cd_X2_failHere :: wsL_law)) := gw_V (tw23 (i := 23) rfl) (tw24 (i := 0) rfl) (tw24 (i := 1) rfl) (tw2 (i := 3) rfl) cm_X2_failHere
theorem gv_X2_63 : GoodIn wsL_law (wsV RX2 63 RX2 yX2_pass (cd_X2_pass :: wsL_law)) := gw_V (tw24 (i := 4) rfl) (tw24 (i := 5) rfl) (tw24 (i := 6) rfl) (tw2 (i := 3) rfl) cm_X2_pass
theorem gv_X2_73 : GoodIn wsL_law (wsV RX2 73 RX2 yX2_next (cd_X2_next :: wsL_law)) := gw_V (tw24 (i := 8) rfl) (tw24 (i := 9) rfl) (tw24 (i := 10) rfl) (tw2 (i := 3) rfl) cm_X2_next
theorem gv_X2_70 : GoodIn wsL_law (wsV RX2 70 RX2 yX2_readSum (cd_X2_readSum :: wsL_law)) := gw_V (tw24 (i := 14) rfl) (tw24 (i := 15) rfl) (tw24 (i := 16) rfl) (tw2 (i := 3) rfl) cm_X2_readSum
theorem gv_X2_100 : GoodIn wsL_law (wsV RX2 100 RX2 yX2_readTerm (cd_X2_readTerm :: wsL_law)) := gw_V (tw24 (i := 18) rfl) (tw24 (i := 19) rfl) (tw24 (i := 20) rfl) (tw2 (i := 3) rfl) cm_X2_readTerm
theorem gv_X2_93 : GoodIn wsL_law (wsV RX2 93 RX2 yX2_add (cd_X2_add :: wsL_law)) := gw_V (tw24 (i := 21) rfl) (tw24 (i := 22) rfl) (tw24 (i := 23) rfl) (tw2 (i := 3) rfl) cm_X2_add
theorem gv_X2_103 : GoodIn wsL_law (wsV RX2 103 RX2 yX2_readPart (cd_X2_readPart :: wsL_law)) := gw_V (tw25 (i := 3) rfl) (tw25 (i := 4) rfl) (tw25 (i := 5) rfl) (tw2 (i := 3) rfl) cm_X2_readPart
theorem gv_X2_76 : GoodIn wsL_law (wsV RX2 76 RX2 yX2_readTest (cd_X2_readTest :: wsL_law)) := gw_V (tw25 (i := 6) rfl) (tw25 (i := 7) rfl) (tw25 (i := 8) rfl) (tw2 (i := 3) rfl) cm_X2_readTest
theorem gv_X2_79 : GoodIn wsL_law (wsV RX2 79 RX2 yX2_readBoth (cd_X2_readBoth :: wsL_law)) := gw_V (tw25 (i := 10) rfl) (tw25 (i := 11) rfl) (tw25 (i := 12) rfl) (tw2 (i := 3) rfl) cm_X2_readBoth
theorem gv_X2_82 : GoodIn wsL_law (wsV RX2 82 RX2 yX2_addJump (cd_X2_addJump :: wsL_law)) := gw_V (tw25 (i := 13) rfl) (tw25 (i := 14) rfl) (tw25 (i := 15) rfl) (tw2 (i := 3) rfl) cm_X2_addJump
theorem gv_X2_86 : GoodIn wsL_law (wsV RX2 86 RX2 yX2_landHere (cd_X2_landHere :: wsL_law)) := gw_V (tw25 (i := 17) rfl) (tw25 (i := 18) rfl) (tw25 (i := 19) rfl) (tw2 (i := 3) rfl) cm_X2_landHere
theorem gv_X2_90 : GoodIn wsL_law (wsV RX2 90 RX2 yX2_readPlain (cd_X2_readPlain :: wsL_law)) := gw_V (tw25 (i := 22) rfl) (tw25 (i := 23) rfl) (tw26 (i := 0) rfl) (tw2 (i := 3) rfl) cm_X2_readPlain
theorem gv_X2_97 : GoodIn wsL_law (wsV RX2 97 RX2 yX2_readComparison (cd_X2_readComparison :: wsL_law)) := gw_V (tw26 (i := 2) rfl) (tw26 (i := 3) rfl) (tw26 (i := 4) rfl) (tw2 (i := 3) rfl) cm_X2_readComparison
theorem gv_X9_172 : GoodIn wsL_law (wsV RX9 172 RX3 yX3_addLaw (cd_X3_addLaw :: wsL_law)) := gw_V (tw27 (i := 3) rfl) (tw27 (i := 4) rfl) (tw27 (i := 5) rfl) (tw1 (i := 14) rfl) cm_X3_addLaw
theorem gv_L_65 : GoodIn wsL_law (wsV RL 65 RX10 yX10_law (cd_X10_law :: wsL_law)) := gw_V (tw27 (i := 7) rfl) (tw27 (i := 8) rfl) (tw27 (i := 9) rfl) (tw1 (i := 5) rfl) cm_X10_law
theorem gv_X10_325 : GoodIn wsL_law (wsV RX10 325 RX10 yX10_begin (cd_X10_begin :: wsL_law)) := gw_V (tw27 (i := 16) rfl) (tw27 (i := 17) rfl) (tw27 (i := 18) rfl) (tw1 (i := 5) rfl) cm_X10_begin
theorem gv_X10_204 : GoodIn wsL_law (wsV RX10 204 RX10 yX10_next (cd_X10_next :: wsL_law)) := gw_V (tw27 (i := 21) rfl) (tw27 (i := 22) rfl) (tw27 (i := 23) rfl) (tw1 (i := 5) rfl) cm_X10_next
theorem gs_X10_214 : GoodIn wsL_law (wsS RX10 214 yX10_isSmall (cd_X10_isSmall :: wsL_law)) := gw_S (tw28 (i := 9) rfl) (tw28 (i := 10) rfl) (tw1 (i := 5) rfl) cm_X10_isSmall
theorem gs_X10_217 : GoodIn wsL_law (wsS RX10 217 yX10_isDigit (cd_X10_isDigit :: wsL_law)) := gw_S (tw28 (i := 12) rfl) (tw28 (i := 13) rfl) (tw1 (i := 5) rfl) cm_X10_isDigit
theorem gv_X10_328 : GoodIn wsL_law (wsV RX10 328 RX10 yX10_readClause (cd_X10_readClause :: wsL_law)) := gw_V (tw28 (i := 15) rfl) (tw28 (i := 16) rfl) (tw28 (i := 17) rfl) (tw1 (i := 5) rfl) cm_X10_readClause
theorem gv_X10_258 : GoodIn wsL_law (wsV RX10 258 RX10 yX10_isWord (cd_X10_isWord :: wsL_law)) := gw_V (tw28 (i := 21) rfl) (tw28 (i := 22) rfl) (tw28 (i := 23) rfl) (tw1 (i := 5) rfl) cm_X10_isWord
theorem gv_X10_235 : GoodIn wsL_law (wsV RX10 235 RX10 yX10_must (cd_X10_must :: wsL_law)) := gw_V (tw29 (i := 1) rfl) (tw29 (i := 2) rfl) (tw29 (i := 3) rfl) (tw1 (i := 5) rfl) cm_X10_must
theorem gv_X10_320 : GoodIn wsL_law (wsV RX10 320 RX10 yX10_readExpression (cd_X10_readExpression :: wsL_law)) := gw_V (tw29 (i := 5) rfl) (tw29 (i := 6) rfl) (tw29 (i := 7) rfl) (tw1 (i := 5) rfl) cm_X10_readExpression
theorem gv_X10_305 : GoodIn wsL_law (wsV RX10 305 RX10 yX10_readPlain (cd_X10_readPlain :: wsL_law)) := gw_V (tw29 (i := 11) rfl) (tw29 (i := 12) rfl) (tw29 (i := 13) rfl) (tw1 (i := 5) rfl) cm_X10_readPlain
theorem gv_X10_265 : GoodIn wsL_law (wsV RX10 265 RX10 yX10_push (cd_X10_push :: wsL_law)) := gw_V (tw29 (i := 16) rfl) (tw29 (i := 17) rfl) (tw29 (i := 18) rfl) (tw1 (i := 5) rfl) cm_X10_push
theorem gv_X10_271 : GoodIn wsL_law (wsV RX10 271 RX10 yX10_isSign (cd_X10_isSign :: wsL_law)) := gw_V (tw29 (i := 20) rfl) (tw29 (i := 21) rfl) (tw29 (i := 22) rfl) (tw1 (i := 5) rfl) cm_X10_isSign
theorem gv_X10_274 : GoodIn wsL_law (wsV RX10 274 RX10 yX10_openBracket (cd_X10_openBracket :: wsL_law)) := gw_V (tw30 (i := 0) rfl) (tw30 (i := 1) rfl) (tw30 (i := 2) rfl) (tw1 (i := 5) rfl) cm_X10_openBracket
theorem gv_X10_288 : GoodIn wsL_law (wsV RX10 288 RX10 yX10_readPart (cd_X10_readPart :: wsL_law)) := gw_V (tw30 (i := 4) rfl) (tw30 (i := 5) rfl) (tw30 (i := 6) rfl) (tw1 (i := 5) rfl) cm_X10_readPart
theorem gv_X10_277 : GoodIn wsL_law (wsV RX10 277 RX10 yX10_partAt (cd_X10_partAt :: wsL_law)) := gw_V (tw30 (i := 9) rfl) (tw30 (i := 10) rfl) (tw30 (i := 11) rfl) (tw1 (i := 5) rfl) cm_X10_partAt
theorem gv_X10_282 : GoodIn wsL_law (wsV RX10 282 RX10 yX10_leaf (cd_X10_leaf :: wsL_law)) := gw_V (tw30 (i := 13) rfl) (tw30 (i := 14) rfl) (tw30 (i := 15) rfl) (tw1 (i := 5) rfl) cm_X10_leaf
theorem gv_X10_248 : GoodIn wsL_law (wsV RX10 248 RX10 yX10_emit (cd_X10_emit :: wsL_law)) := gw_V (tw30 (i := 17) rfl) (tw30 (i := 18) rfl) (tw30 (i := 19) rfl) (tw1 (i := 5) rfl) cm_X10_emit
theorem gv_X10_308 : GoodIn wsL_law (wsV RX10 308 RX10 yX10_behindSum (cd_X10_behindSum :: wsL_law)) := gw_V (tw30 (i := 21) rfl) (tw30 (i := 22) rfl) (tw30 (i := 23) rfl) (tw1 (i := 5) rfl) cm_X10_behindSum
theorem gs_X10_245 : GoodIn wsL_law (wsS RX10 245 yX10_binds (cd_X10_binds :: wsL_law)) := gw_S (tw31 (i := 1) rfl) (tw31 (i := 2) rfl) (tw1 (i := 5) rfl) cm_X10_binds
theorem gv_X10_291 : GoodIn wsL_law (wsV RX10 291 RX10 yX10_settle (cd_X10_settle :: wsL_law)) := gw_V (tw31 (i := 4) rfl) (tw31 (i := 5) rfl) (tw31 (i := 6) rfl) (tw1 (i := 5) rfl) cm_X10_settle
theorem gv_X10_294 : GoodIn wsL_law (wsV RX10 294 RX10 yX10_inner (cd_X10_inner :: wsL_law)) := gw_V (tw31 (i := 8) rfl) (tw31 (i := 9) rfl) (tw31 (i := 10) rfl) (tw1 (i := 5) rfl) cm_X10_inner
theorem gv_X10_297 : GoodIn wsL_law (wsV RX10 297 RX10 yX10_isCompared (cd_X10_isCompared :: wsL_law)) := gw_V (tw31 (i := 12) rfl) (tw31 (i := 13) rfl) (tw31 (i := 14) rfl) (tw1 (i := 5) rfl) cm_X10_isCompared
theorem gv_X10_312 : GoodIn wsL_law (wsV RX10 312 RX10 yX10_behindTest (cd_X10_behindTest :: wsL_law)) := gw_V (tw31 (i := 19) rfl) (tw31 (i := 20) rfl) (tw31 (i := 21) rfl) (tw1 (i := 5) rfl) cm_X10_behindTest
theorem gv_L_66 : GoodIn wsL_law (wsV RL 66 RX9 yX9_fault (cd_X9_fault :: wsL_law)) := gw_V (tw32 (i := 1) rfl) (tw32 (i := 2) rfl) (tw32 (i := 3) rfl) (tw1 (i := 2) rfl) cm_X9_fault
theorem gv_L_69 : GoodIn wsL_law (wsV RL 69 RX10 yX10_fault (cd_X10_fault :: wsL_law)) := gw_V (tw32 (i := 5) rfl) (tw32 (i := 6) rfl) (tw32 (i := 7) rfl) (tw1 (i := 5) rfl) cm_X10_fault
theorem gv_L_70 : GoodIn wsL_law (wsV RL 70 RX9 yX9_force (cd_X9_force :: wsL_law)) := gw_V (tw32 (i := 9) rfl) (tw32 (i := 10) rfl) (tw32 (i := 11) rfl) (tw1 (i := 2) rfl) cm_X9_force
theorem gv_L_73 : GoodIn wsL_law (wsV RL 73 RX10 yX10_force (cd_X10_force :: wsL_law)) := gw_V (tw32 (i := 14) rfl) (tw32 (i := 15) rfl) (tw32 (i := 16) rfl) (tw1 (i := 5) rfl) cm_X10_force
theorem gv_L_74 : GoodIn wsL_law (wsV RL 74 RX9 yX9_kind (cd_X9_kind :: wsL_law)) := gw_V (tw32 (i := 18) rfl) (tw32 (i := 19) rfl) (tw32 (i := 20) rfl) (tw1 (i := 2) rfl) cm_X9_kind
theorem gv_X9_179 : GoodIn wsL_law (wsV RX9 179 RX7 yX7_quick (cd_X7_quick :: wsL_law)) := gw_V (tw32 (i := 23) rfl) (tw33 (i := 0) rfl) (tw33 (i := 1) rfl) (tw1 (i := 19) rfl) cm_X7_quick
theorem gv_X7_55 : GoodIn wsL_law (wsV RX7 55 RX7 yX7_look (cd_X7_look :: wsL_law)) := gw_V (tw33 (i := 4) rfl) (tw33 (i := 5) rfl) (tw33 (i := 6) rfl) (tw1 (i := 19) rfl) cm_X7_look
theorem gv_X7_59 : GoodIn wsL_law (wsV RX7 59 RX3 yX3_lawInForce (cd_X3_lawInForce :: wsL_law)) := gw_V (tw33 (i := 12) rfl) (tw33 (i := 13) rfl) (tw33 (i := 14) rfl) (tw1 (i := 14) rfl) cm_X3_lawInForce
theorem gv_X7_65 : GoodIn wsL_law (wsV RX7 65 RX7 yX7_lawlessQuick (cd_X7_lawlessQuick :: wsL_law)) := gw_V (tw33 (i := 16) rfl) (tw33 (i := 17) rfl) (tw33 (i := 18) rfl) (tw1 (i := 19) rfl) cm_X7_lawlessQuick
theorem gv_X7_75 : GoodIn wsL_law (wsV RX7 75 RX7 yX7_sightSeen (cd_X7_sightSeen :: wsL_law)) := gw_V (tw33 (i := 23) rfl) (tw34 (i := 0) rfl) (tw34 (i := 1) rfl) (tw1 (i := 19) rfl) cm_X7_sightSeen
theorem gv_X7_81 : GoodIn wsL_law (wsV RX7 81 RX1 yX1_tells (cd_X1_tells :: wsL_law)) := gw_V (tw34 (i := 3) rfl) (tw34 (i := 4) rfl) (tw34 (i := 5) rfl) (tw20 (i := 5) rfl) cm_X1_tells
theorem gv_X1_18 : GoodIn wsL_law (wsV RX1 18 RX1 yX1_reckon (cd_X1_reckon :: wsL_law)) := gw_V (tw34 (i := 10) rfl) (tw34 (i := 11) rfl) (tw34 (i := 12) rfl) (tw20 (i := 5) rfl) cm_X1_reckon
theorem gs_X1_32 : GoodIn wsL_law (wsS RX1 32 yX1_joined (cd_X1_joined :: wsL_law)) := gw_S (tw34 (i := 14) rfl) (tw34 (i := 15) rfl) (tw20 (i := 5) rfl) cm_X1_joined
theorem gv_X9_183 : GoodIn wsL_law (wsV RX9 183 RX7 yX7_look (cd_X7_look :: wsL_law)) := gw_V (tw34 (i := 20) rfl) (tw33 (i := 5) rfl) (tw33 (i := 6) rfl) (tw1 (i := 19) rfl) cm_X7_look
theorem gv_L_77 : GoodIn wsL_law (wsV RL 77 RX10 yX10_kind (cd_X10_kind :: wsL_law)) := gw_V (tw34 (i := 21) rfl) (tw34 (i := 22) rfl) (tw34 (i := 23) rfl) (tw1 (i := 5) rfl) cm_X10_kind
theorem gv_X10_405 : GoodIn wsL_law (wsV RX10 405 RX10 yX10_layAll (cd_X10_layAll :: wsL_law)) := gw_V (tw35 (i := 8) rfl) (tw35 (i := 9) rfl) (tw35 (i := 10) rfl) (tw1 (i := 5) rfl) cm_X10_layAll
theorem gv_X10_357 : GoodIn wsL_law (wsV RX10 357 RX10 yX10_lay (cd_X10_lay :: wsL_law)) := gw_V (tw35 (i := 12) rfl) (tw35 (i := 13) rfl) (tw35 (i := 14) rfl) (tw1 (i := 5) rfl) cm_X10_lay
theorem gs_X10_354 : GoodIn wsL_law (wsS RX10 354 yX10_is (cd_X10_is :: wsL_law)) := gw_S (tw35 (i := 16) rfl) (tw35 (i := 17) rfl) (tw1 (i := 5) rfl) cm_X10_is
theorem gv_X10_408 : GoodIn wsL_law (wsV RX10 408 RX10 yX10_quickIn (cd_X10_quickIn :: wsL_law)) := gw_V (tw35 (i := 19) rfl) (tw35 (i := 20) rfl) (tw35 (i := 21) rfl) (tw1 (i := 5) rfl) cm_X10_quickIn
theorem gv_X10_397 : GoodIn wsL_law (wsV RX10 397 RX10 yX10_find (cd_X10_find :: wsL_law)) := gw_V (tw36 (i := 1) rfl) (tw36 (i := 2) rfl) (tw36 (i := 3) rfl) (tw1 (i := 5) rfl) cm_X10_find
theorem gs_X10_363 : GoodIn wsL_law (wsS RX10 363 yX10_upY (cd_X10_upY :: wsL_law)) := gw_S (tw36 (i := 5) rfl) (tw36 (i := 6) rfl) (tw1 (i := 5) rfl) cm_X10_upY
theorem gs_X10_360 : GoodIn wsL_law (wsS RX10 360 yX10_upX (cd_X10_upX :: wsL_law)) := gw_S (tw36 (i := 8) rfl) (tw36 (i := 9) rfl) (tw1 (i := 5) rfl) cm_X10_upX
theorem gs_X10_366 : GoodIn wsL_law (wsS RX10 366 yX10_cellAt (cd_X10_cellAt :: wsL_law)) := gw_S (tw36 (i := 11) rfl) (tw36 (i := 12) rfl) (tw1 (i := 5) rfl) cm_X10_cellAt
theorem gv_X10_370 : GoodIn wsL_law (wsV RX10 370 RX10 yX10_standing (cd_X10_standing :: wsL_law)) := gw_V (tw36 (i := 14) rfl) (tw36 (i := 15) rfl) (tw36 (i := 16) rfl) (tw1 (i := 5) rfl) cm_X10_standing
theorem gs_X10_373 : GoodIn wsL_law (wsS RX10 373 yX10_upFrom (cd_X10_upFrom :: wsL_law)) := gw_S (tw36 (i := 18) rfl) (tw36 (i := 19) rfl) (tw1 (i := 5) rfl) cm_X10_upFrom
theorem gv_X10_391 : GoodIn wsL_law (wsV RX10 391 RX10 yX10_highAt (cd_X10_highAt :: wsL_law)) := gw_V (tw36 (i := 21) rfl) (tw36 (i := 22) rfl) (tw36 (i := 23) rfl) (tw1 (i := 5) rfl) cm_X10_highAt
theorem gv_X10_400 : GoodIn wsL_law (wsV RX10 400 RX10 yX10_isSo (cd_X10_isSo :: wsL_law)) := gw_V (tw37 (i := 1) rfl) (tw37 (i := 2) rfl) (tw37 (i := 3) rfl) (tw1 (i := 5) rfl) cm_X10_isSo
theorem gv_X10_348 : GoodIn wsL_law (wsV RX10 348 RX10 yX10_reckonAll (cd_X10_reckonAll :: wsL_law)) := gw_V (tw37 (i := 7) rfl) (tw37 (i := 8) rfl) (tw37 (i := 9) rfl) (tw1 (i := 5) rfl) cm_X10_reckonAll
theorem gv_X10_337 : GoodIn wsL_law (wsV RX10 337 RX10 yX10_reckon (cd_X10_reckon :: wsL_law)) := gw_V (tw37 (i := 13) rfl) (tw37 (i := 14) rfl) (tw37 (i := 15) rfl) (tw1 (i := 5) rfl) cm_X10_reckon
theorem gv_L_78 : GoodIn wsL_law (wsV RL 78 RX9 yX9_above (cd_X9_above :: wsL_law)) := gw_V (tw37 (i := 17) rfl) (tw37 (i := 18) rfl) (tw37 (i := 19) rfl) (tw1 (i := 2) rfl) cm_X9_above
theorem gv_X9_190 : GoodIn wsL_law (wsV RX9 190 RX7 yX7_hoursAbove (cd_X7_hoursAbove :: wsL_law)) := gw_V (tw37 (i := 21) rfl) (tw37 (i := 22) rfl) (tw37 (i := 23) rfl) (tw1 (i := 19) rfl) cm_X7_hoursAbove
theorem gv_X7_90 : GoodIn wsL_law (wsV RX7 90 RX7 yX7_quick (cd_X7_quick :: wsL_law)) := gw_V (tw38 (i := 3) rfl) (tw33 (i := 0) rfl) (tw33 (i := 1) rfl) (tw1 (i := 19) rfl) cm_X7_quick
theorem gv_L_81 : GoodIn wsL_law (wsV RL 81 RX10 yX10_above (cd_X10_above :: wsL_law)) := gw_V (tw38 (i := 6) rfl) (tw38 (i := 7) rfl) (tw38 (i := 8) rfl) (tw1 (i := 5) rfl) cm_X10_above
theorem gv_X10_416 : GoodIn wsL_law (wsV RX10 416 RX10 yX10_hoursAbove (cd_X10_hoursAbove :: wsL_law)) := gw_V (tw38 (i := 10) rfl) (tw38 (i := 11) rfl) (tw38 (i := 12) rfl) (tw1 (i := 5) rfl) cm_X10_hoursAbove
theorem gv_L_82 : GoodIn wsL_law (wsV RL 82 RX9 yX9_over (cd_X9_over :: wsL_law)) := gw_V (tw38 (i := 14) rfl) (tw38 (i := 15) rfl) (tw38 (i := 16) rfl) (tw1 (i := 2) rfl) cm_X9_over
theorem gv_X9_193 : GoodIn wsL_law (wsV RX9 193 RX7 yX7_allOver (cd_X7_allOver :: wsL_law)) := gw_V (tw38 (i := 19) rfl) (tw38 (i := 20) rfl) (tw38 (i := 21) rfl) (tw1 (i := 19) rfl) cm_X7_allOver
theorem gv_X7_114 : GoodIn wsL_law (wsV RX7 114 RX7 yX7_hoursAbove (cd_X7_hoursAbove :: wsL_law)) := gw_V (tw39 (i := 2) rfl) (tw37 (i := 22) rfl) (tw37 (i := 23) rfl) (tw1 (i := 19) rfl) cm_X7_hoursAbove
theorem gv_L_85 : GoodIn wsL_law (wsV RL 85 RX10 yX10_over (cd_X10_over :: wsL_law)) := gw_V (tw39 (i := 3) rfl) (tw39 (i := 4) rfl) (tw39 (i := 5) rfl) (tw1 (i := 5) rfl) cm_X10_over
theorem gv_X10_422 : GoodIn wsL_law (wsV RX10 422 RX10 yX10_overAll (cd_X10_overAll :: wsL_law)) := gw_V (tw39 (i := 7) rfl) (tw39 (i := 8) rfl) (tw39 (i := 9) rfl) (tw1 (i := 5) rfl) cm_X10_overAll
theorem gv_X10_419 : GoodIn wsL_law (wsV RX10 419 RX10 yX10_overIn (cd_X10_overIn :: wsL_law)) := gw_V (tw39 (i := 11) rfl) (tw39 (i := 12) rfl) (tw39 (i := 13) rfl) (tw1 (i := 5) rfl) cm_X10_overIn
theorem gv_X10_413 : GoodIn wsL_law (wsV RX10 413 RX10 yX10_paceOf (cd_X10_paceOf :: wsL_law)) := gw_V (tw39 (i := 15) rfl) (tw39 (i := 16) rfl) (tw39 (i := 17) rfl) (tw1 (i := 5) rfl) cm_X10_paceOf
theorem gv_L_86 : GoodIn wsL_law (wsV RL 86 RX9 yX9_bad (cd_X9_bad :: wsL_law)) := gw_V (tw39 (i := 19) rfl) (tw39 (i := 20) rfl) (tw39 (i := 21) rfl) (tw1 (i := 2) rfl) cm_X9_bad
theorem gv_X9_201 : GoodIn wsL_law (wsV RX9 201 RX9 yX9_greatestKey (cd_X9_greatestKey :: wsL_law)) := gw_V (tw40 (i := 0) rfl) (tw40 (i := 1) rfl) (tw40 (i := 2) rfl) (tw1 (i := 2) rfl) cm_X9_greatestKey
theorem gv_X9_204 : GoodIn wsL_law (wsV RX9 204 RX9 yX9_keysAhead (cd_X9_keysAhead :: wsL_law)) := gw_V (tw40 (i := 4) rfl) (tw40 (i := 5) rfl) (tw40 (i := 6) rfl) (tw1 (i := 2) rfl) cm_X9_keysAhead
theorem gv_L_89 : GoodIn wsL_law (wsV RL 89 RX10 yX10_bad (cd_X10_bad :: wsL_law)) := gw_V (tw40 (i := 8) rfl) (tw40 (i := 9) rfl) (tw40 (i := 10) rfl) (tw1 (i := 5) rfl) cm_X10_bad
theorem gv_X10_425 : GoodIn wsL_law (wsV RX10 425 RX10 yX10_findBad (cd_X10_findBad :: wsL_law)) := gw_V (tw40 (i := 12) rfl) (tw40 (i := 13) rfl) (tw40 (i := 14) rfl) (tw1 (i := 5) rfl) cm_X10_findBad
theorem gv_X10_428 : GoodIn wsL_law (wsV RX10 428 RX10 yX10_inOrder (cd_X10_inOrder :: wsL_law)) := gw_V (tw40 (i := 16) rfl) (tw40 (i := 17) rfl) (tw40 (i := 18) rfl) (tw1 (i := 5) rfl) cm_X10_inOrder
theorem gv_L_90 : GoodIn wsL_law (wsV RL 90 RX9 yX9_kinds (cd_X9_kinds :: wsL_law)) := gw_V (tw40 (i := 20) rfl) (tw40 (i := 21) rfl) (tw40 (i := 22) rfl) (tw1 (i := 2) rfl) cm_X9_kinds
theorem gv_L_93 : GoodIn wsL_law (wsV RL 93 RX10 yX10_kinds (cd_X10_kinds :: wsL_law)) := gw_V (tw41 (i := 0) rfl) (tw41 (i := 1) rfl) (tw41 (i := 2) rfl) (tw1 (i := 5) rfl) cm_X10_kinds
theorem gv_L_94 : GoodIn wsL_law (wsV RL 94 RX9 yX9_does (cd_X9_does :: wsL_law)) := gw_V (tw41 (i := 5) rfl) (tw41 (i := 6) rfl) (tw41 (i := 7) rfl) (tw1 (i := 2) rfl) cm_X9_does
theorem gv_X9_209 : GoodIn wsL_law (wsV RX9 209 RX0 yX0_become (cd_X0_become :: wsL_law)) := gw_V (tw41 (i := 11) rfl) (tw41 (i := 12) rfl) (tw41 (i := 13) rfl) (tw2 (i := 20) rfl) cm_X0_become
theorem gv_L_97 : GoodIn wsL_law (wsV RL 97 RX10 yX10_does (cd_X10_does :: wsL_law)) := gw_V (tw41 (i := 16) rfl) (tw41 (i := 17) rfl) (tw41 (i := 18) rfl) (tw1 (i := 5) rfl) cm_X10_does
theorem gv_L_98 : GoodIn wsL_law (wsV RL 98 RX9 yX9_share (cd_X9_share :: wsL_law)) := gw_V (tw41 (i := 21) rfl) (tw41 (i := 22) rfl) (tw41 (i := 23) rfl) (tw1 (i := 2) rfl) cm_X9_share
theorem gv_X9_215 : GoodIn wsL_law (wsV RX9 215 RX6 yX6_learnTowerOvers (cd_X6_learnTowerOvers :: wsL_law)) := gw_V (tw42 (i := 3) rfl) (tw42 (i := 4) rfl) (tw42 (i := 5) rfl) (tw1 (i := 23) rfl) cm_X6_learnTowerOvers
theorem gv_X6_63 : GoodIn wsL_law (wsV RX6 63 RX0 yX0_become (cd_X0_become :: wsL_law)) := gw_V (tw42 (i := 10) rfl) (tw41 (i := 12) rfl) (tw41 (i := 13) rfl) (tw2 (i := 20) rfl) cm_X0_become
theorem gv_X6_67 : GoodIn wsL_law (wsV RX6 67 RX5 yX5_makeHigh (cd_X5_makeHigh :: wsL_law)) := gw_V (tw42 (i := 11) rfl) (tw13 (i := 14) rfl) (tw13 (i := 15) rfl) (tw3 (i := 0) rfl) cm_X5_makeHigh
theorem gv_X6_71 : GoodIn wsL_law (wsV RX6 71 RX7 yX7_allOver (cd_X7_allOver :: wsL_law)) := gw_V (tw42 (i := 12) rfl) (tw38 (i := 20) rfl) (tw38 (i := 21) rfl) (tw1 (i := 19) rfl) cm_X7_allOver
theorem gv_X9_222 : GoodIn wsL_law (wsV RX9 222 RX6 yX6_shareOf (cd_X6_shareOf :: wsL_law)) := gw_V (tw42 (i := 13) rfl) (tw42 (i := 14) rfl) (tw42 (i := 15) rfl) (tw1 (i := 23) rfl) cm_X6_shareOf
theorem gv_L_102 : GoodIn wsL_law (wsV RL 102 RX10 yX10_share (cd_X10_share :: wsL_law)) := gw_V (tw43 (i := 1) rfl) (tw43 (i := 2) rfl) (tw43 (i := 3) rfl) (tw1 (i := 5) rfl) cm_X10_share
theorem gs_X10_435 : GoodIn wsL_law (wsS RX10 435 yX10_bits (cd_X10_bits :: wsL_law)) := gw_S (tw43 (i := 6) rfl) (tw43 (i := 7) rfl) (tw1 (i := 5) rfl) cm_X10_bits
theorem gs_X10_438 : GoodIn wsL_law (wsS RX10 438 yX10_orders (cd_X10_orders :: wsL_law)) := gw_S (tw43 (i := 9) rfl) (tw43 (i := 10) rfl) (tw1 (i := 5) rfl) cm_X10_orders
theorem gv_L_103 : GoodIn wsL_law (wsV RL 103 RX9 yX9_ahead (cd_X9_ahead :: wsL_law)) := gw_V (tw43 (i := 12) rfl) (tw43 (i := 13) rfl) (tw43 (i := 14) rfl) (tw1 (i := 2) rfl) cm_X9_ahead
theorem gv_L_106 : GoodIn wsL_law (wsV RL 106 RX10 yX10_ahead (cd_X10_ahead :: wsL_law)) := gw_V (tw43 (i := 16) rfl) (tw43 (i := 17) rfl) (tw43 (i := 18) rfl) (tw1 (i := 5) rfl) cm_X10_ahead
theorem gv_X10_441 : GoodIn wsL_law (wsV RX10 441 RX10 yX10_canBuild (cd_X10_canBuild :: wsL_law)) := gw_V (tw43 (i := 20) rfl) (tw43 (i := 21) rfl) (tw43 (i := 22) rfl) (tw1 (i := 5) rfl) cm_X10_canBuild
theorem gv_X10_444 : GoodIn wsL_law (wsV RX10 444 RX10 yX10_buildPaper (cd_X10_buildPaper :: wsL_law)) := gw_V (tw44 (i := 0) rfl) (tw44 (i := 1) rfl) (tw44 (i := 2) rfl) (tw1 (i := 5) rfl) cm_X10_buildPaper
theorem gv_L_107 : GoodIn wsL_law (wsV RL 107 RX9 yX9_site (cd_X9_site :: wsL_law)) := gw_V (tw44 (i := 4) rfl) (tw44 (i := 5) rfl) (tw44 (i := 6) rfl) (tw1 (i := 2) rfl) cm_X9_site
theorem gv_X9_226 : GoodIn wsL_law (wsV RX9 226 RX6 yX6_findSite (cd_X6_findSite :: wsL_law)) := gw_V (tw44 (i := 11) rfl) (tw44 (i := 12) rfl) (tw44 (i := 13) rfl) (tw1 (i := 23) rfl) cm_X6_findSite
theorem gv_X6_95 : GoodIn wsL_law (wsV RX6 95 RX3 yX3_whyNoTower (cd_X3_whyNoTower :: wsL_law)) := gw_V (tw44 (i := 15) rfl) (tw8 (i := 11) rfl) (tw8 (i := 12) rfl) (tw1 (i := 14) rfl) cm_X3_whyNoTower
theorem gv_X6_99 : GoodIn wsL_law (wsV RX6 99 RX0 yX0_stand (cd_X0_stand :: wsL_law)) := gw_V (tw44 (i := 16) rfl) (tw9 (i := 21) rfl) (tw9 (i := 22) rfl) (tw2 (i := 20) rfl) cm_X0_stand
theorem gv_L_111 : GoodIn wsL_law (wsV RL 111 RX10 yX10_site (cd_X10_site :: wsL_law)) := gw_V (tw44 (i := 17) rfl) (tw44 (i := 18) rfl) (tw44 (i := 19) rfl) (tw1 (i := 5) rfl) cm_X10_site
theorem gv_L_112 : GoodIn wsL_law (wsV RL 112 RX9 yX9_curve (cd_X9_curve :: wsL_law)) := gw_V (tw44 (i := 22) rfl) (tw44 (i := 23) rfl) (tw45 (i := 0) rfl) (tw1 (i := 2) rfl) cm_X9_curve
theorem gs_X9_239 : GoodIn wsL_law (wsS RX9 239 yX9_stepX (cd_X9_stepX :: wsL_law)) := gw_S (tw45 (i := 3) rfl) (tw45 (i := 4) rfl) (tw1 (i := 2) rfl) cm_X9_stepX
theorem gs_X9_242 : GoodIn wsL_law (wsS RX9 242 yX9_stepY (cd_X9_stepY :: wsL_law)) := gw_S (tw45 (i := 6) rfl) (tw45 (i := 7) rfl) (tw1 (i := 2) rfl) cm_X9_stepY
theorem gs_X9_245 : GoodIn wsL_law (wsS RX9 245 yX9_isOnEdge (cd_X9_isOnEdge :: wsL_law)) := gw_S (tw45 (i := 9) rfl) (tw8 (i := 15) rfl) (tw1 (i := 2) rfl) cm_X9_isOnEdge
theorem gv_L_115 : GoodIn wsL_law (wsV RL 115 RX10 yX10_curve (cd_X10_curve :: wsL_law)) := gw_V (tw45 (i := 10) rfl) (tw45 (i := 11) rfl) (tw45 (i := 12) rfl) (tw1 (i := 5) rfl) cm_X10_curve
theorem gv_L_116 : GoodIn wsL_law (wsV RL 116 RX9 yX9_seat (cd_X9_seat :: wsL_law)) := gw_V (tw45 (i := 14) rfl) (tw45 (i := 15) rfl) (tw45 (i := 16) rfl) (tw1 (i := 2) rfl) cm_X9_seat
theorem gv_L_119 : GoodIn wsL_law (wsV RL 119 RX10 yX10_seat (cd_X10_seat :: wsL_law)) := gw_V (tw45 (i := 19) rfl) (tw45 (i := 20) rfl) (tw45 (i := 21) rfl) (tw1 (i := 5) rfl) cm_X10_seat
theorem gv_L_120 : GoodIn wsL_law (wsV RL 120 RX9 yX9_work (cd_X9_work :: wsL_law)) := gw_V (tw45 (i := 23) rfl) (tw46 (i := 0) rfl) (tw46 (i := 1) rfl) (tw1 (i := 2) rfl) cm_X9_work
theorem gv_X9_257 : GoodIn wsL_law (wsV RX9 257 RX3 yX3_whyNoWork (cd_X3_whyNoWork :: wsL_law)) := gw_V (tw46 (i := 4) rfl) (tw46 (i := 5) rfl) (tw46 (i := 6) rfl) (tw1 (i := 14) rfl) cm_X3_whyNoWork
theorem gv_X3_110 : GoodIn wsL_law (wsV RX3 110 RX5 yX5_has (cd_X5_has :: wsL_law)) := gw_V (tw46 (i := 9) rfl) (tw13 (i := 4) rfl) (tw13 (i := 5) rfl) (tw3 (i := 0) rfl) cm_X5_has
theorem gv_X9_264 : GoodIn wsL_law (wsV RX9 264 RX8 yX8_add (cd_X8_add :: wsL_law)) := gw_V (tw46 (i := 10) rfl) (tw46 (i := 11) rfl) (tw46 (i := 12) rfl) (tw3 (i := 4) rfl) cm_X8_add
theorem gv_L_123 : GoodIn wsL_law (wsV RL 123 RX10 yX10_work (cd_X10_work :: wsL_law)) := gw_V (tw46 (i := 14) rfl) (tw46 (i := 15) rfl) (tw46 (i := 16) rfl) (tw1 (i := 5) rfl) cm_X10_work
theorem gv_L_124 : GoodIn wsL_law (wsV RL 124 RX9 yX9_drop (cd_X9_drop :: wsL_law)) := gw_V (tw46 (i := 18) rfl) (tw46 (i := 19) rfl) (tw46 (i := 20) rfl) (tw1 (i := 2) rfl) cm_X9_drop
theorem gv_X9_268 : GoodIn wsL_law (wsV RX9 268 RX8 yX8_takeOut (cd_X8_takeOut :: wsL_law)) := gw_V (tw46 (i := 23) rfl) (tw47 (i := 0) rfl) (tw47 (i := 1) rfl) (tw3 (i := 4) rfl) cm_X8_takeOut
theorem gv_L_127 : GoodIn wsL_law (wsV RL 127 RX10 yX10_drop (cd_X10_drop :: wsL_law)) := gw_V (tw47 (i := 3) rfl) (tw47 (i := 4) rfl) (tw47 (i := 5) rfl) (tw1 (i := 5) rfl) cm_X10_drop
theorem gv_X10_449 : GoodIn wsL_law (wsV RX10 449 RX10 yX10_out (cd_X10_out :: wsL_law)) := gw_V (tw47 (i := 7) rfl) (tw47 (i := 8) rfl) (tw47 (i := 9) rfl) (tw1 (i := 5) rfl) cm_X10_out
theorem gv_L_128 : GoodIn wsL_law (wsV RL 128 RX9 yX9_done (cd_X9_done :: wsL_law)) := gw_V (tw47 (i := 11) rfl) (tw47 (i := 12) rfl) (tw47 (i := 13) rfl) (tw1 (i := 2) rfl) cm_X9_done
theorem gv_X9_271 : GoodIn wsL_law (wsV RX9 271 RX8 yX8_haveAll (cd_X8_haveAll :: wsL_law)) := gw_V (tw47 (i := 15) rfl) (tw47 (i := 16) rfl) (tw47 (i := 17) rfl) (tw3 (i := 4) rfl) cm_X8_haveAll
theorem gv_X9_274 : GoodIn wsL_law (wsV RX9 274 RX8 yX8_coinOf (cd_X8_coinOf :: wsL_law)) := gw_V (tw47 (i := 19) rfl) (tw47 (i := 20) rfl) (tw47 (i := 21) rfl) (tw3 (i := 4) rfl) cm_X8_coinOf
theorem gv_X9_277 : GoodIn wsL_law (wsV RX9 277 RX6 yX6_doWorks (cd_X6_doWorks :: wsL_law)) := gw_V (tw47 (i := 23) rfl) (tw48 (i := 0) rfl) (tw48 (i := 1) rfl) (tw1 (i := 23) rfl) cm_X6_doWorks
theorem gv_X6_110 : GoodIn wsL_law (wsV RX6 110 RX3 yX3_doWork (cd_X3_doWork :: wsL_law)) := gw_V (tw48 (i := 5) rfl) (tw48 (i := 6) rfl) (tw48 (i := 7) rfl) (tw1 (i := 14) rfl) cm_X3_doWork
theorem gv_X3_123 : GoodIn wsL_law (wsV RX3 123 RX5 yX5_highOf (cd_X5_highOf :: wsL_law)) := gw_V (tw48 (i := 17) rfl) (tw13 (i := 8) rfl) (tw13 (i := 9) rfl) (tw3 (i := 0) rfl) cm_X5_highOf
theorem gv_X3_133 : GoodIn wsL_law (wsV RX3 133 RX5 yX5_makeHigh (cd_X5_makeHigh :: wsL_law)) := gw_V (tw48 (i := 18) rfl) (tw13 (i := 14) rfl) (tw13 (i := 15) rfl) (tw3 (i := 0) rfl) cm_X5_makeHigh
theorem gv_X9_281 : GoodIn wsL_law (wsV RX9 281 RX6 yX6_hurtCells (cd_X6_hurtCells :: wsL_law)) := gw_V (tw48 (i := 19) rfl) (tw48 (i := 20) rfl) (tw48 (i := 21) rfl) (tw1 (i := 23) rfl) cm_X6_hurtCells
theorem gv_X6_134 : GoodIn wsL_law (wsV RX6 134 RX6 yX6_isHurt (cd_X6_isHurt :: wsL_law)) := gw_V (tw48 (i := 23) rfl) (tw49 (i := 0) rfl) (tw49 (i := 1) rfl) (tw1 (i := 23) rfl) cm_X6_isHurt
theorem gv_X6_130 : GoodIn wsL_law (wsV RX6 130 RX7 yX7_hoursAbove (cd_X7_hoursAbove :: wsL_law)) := gw_V (tw49 (i := 5) rfl) (tw37 (i := 22) rfl) (tw37 (i := 23) rfl) (tw1 (i := 19) rfl) cm_X7_hoursAbove
theorem gv_X9_285 : GoodIn wsL_law (wsV RX9 285 RX6 yX6_lowestHurt (cd_X6_lowestHurt :: wsL_law)) := gw_V (tw49 (i := 6) rfl) (tw49 (i := 7) rfl) (tw49 (i := 8) rfl) (tw1 (i := 23) rfl) cm_X6_lowestHurt
theorem gv_L_131 : GoodIn wsL_law (wsV RL 131 RX10 yX10_done (cd_X10_done :: wsL_law)) := gw_V (tw49 (i := 10) rfl) (tw49 (i := 11) rfl) (tw49 (i := 12) rfl) (tw1 (i := 5) rfl) cm_X10_done
theorem gv_X10_455 : GoodIn wsL_law (wsV RX10 455 RX10 yX10_findAboves (cd_X10_findAboves :: wsL_law)) := gw_V (tw49 (i := 14) rfl) (tw49 (i := 15) rfl) (tw49 (i := 16) rfl) (tw1 (i := 5) rfl) cm_X10_findAboves
theorem gv_X10_458 : GoodIn wsL_law (wsV RX10 458 RX10 yX10_doWorks (cd_X10_doWorks :: wsL_law)) := gw_V (tw49 (i := 18) rfl) (tw49 (i := 19) rfl) (tw49 (i := 20) rfl) (tw1 (i := 5) rfl) cm_X10_doWorks
theorem gv_X10_452 : GoodIn wsL_law (wsV RX10 452 RX10 yX10_moveUse (cd_X10_moveUse :: wsL_law)) := gw_V (tw49 (i := 22) rfl) (tw49 (i := 23) rfl) (tw50 (i := 0) rfl) (tw1 (i := 5) rfl) cm_X10_moveUse
theorem gv_L_132 : GoodIn wsL_law (wsV RL 132 RX9 yX9_least (cd_X9_least :: wsL_law)) := gw_V (tw50 (i := 2) rfl) (tw50 (i := 3) rfl) (tw50 (i := 4) rfl) (tw1 (i := 2) rfl) cm_X9_least
theorem gv_X9_288 : GoodIn wsL_law (wsV RX9 288 RX6 yX6_findLeast (cd_X6_findLeast :: wsL_law)) := gw_V (tw50 (i := 9) rfl) (tw50 (i := 10) rfl) (tw50 (i := 11) rfl) (tw1 (i := 23) rfl) cm_X6_findLeast
theorem gv_X6_114 : GoodIn wsL_law (wsV RX6 114 RX8 yX8_coinOf (cd_X8_coinOf :: wsL_law)) := gw_V (tw50 (i := 13) rfl) (tw47 (i := 20) rfl) (tw47 (i := 21) rfl) (tw3 (i := 4) rfl) cm_X8_coinOf
theorem gv_X6_117 : GoodIn wsL_law (wsV RX6 117 RX6 yX6_doWorks (cd_X6_doWorks :: wsL_law)) := gw_V (tw50 (i := 14) rfl) (tw48 (i := 0) rfl) (tw48 (i := 1) rfl) (tw1 (i := 23) rfl) cm_X6_doWorks
theorem gv_L_135 : GoodIn wsL_law (wsV RL 135 RX10 yX10_least (cd_X10_least :: wsL_law)) := gw_V (tw50 (i := 15) rfl) (tw50 (i := 16) rfl) (tw50 (i := 17) rfl) (tw1 (i := 5) rfl) cm_X10_least
theorem gv_L_136 : GoodIn wsL_law (wsV RL 136 RX9 yX9_build (cd_X9_build :: wsL_law)) := gw_V (tw50 (i := 19) rfl) (tw50 (i := 20) rfl) (tw50 (i := 21) rfl) (tw1 (i := 2) rfl) cm_X9_build
theorem gv_X9_300 : GoodIn wsL_law (wsV RX9 300 RX3 yX3_doWork (cd_X3_doWork :: wsL_law)) := gw_V (tw50 (i := 23) rfl) (tw48 (i := 6) rfl) (tw48 (i := 7) rfl) (tw1 (i := 14) rfl) cm_X3_doWork
theorem gv_L_139 : GoodIn wsL_law (wsV RL 139 RX10 yX10_build (cd_X10_build :: wsL_law)) := gw_V (tw51 (i := 0) rfl) (tw51 (i := 1) rfl) (tw51 (i := 2) rfl) (tw1 (i := 5) rfl) cm_X10_build
theorem gv_L_140 : GoodIn wsL_law (wsV RL 140 RX9 yX9_place (cd_X9_place :: wsL_law)) := gw_V (tw51 (i := 4) rfl) (tw51 (i := 5) rfl) (tw51 (i := 6) rfl) (tw1 (i := 2) rfl) cm_X9_place
theorem gv_X9_304 : GoodIn wsL_law (wsV RX9 304 RX3 yX3_hasPlaceIn (cd_X3_hasPlaceIn :: wsL_law)) := gw_V (tw51 (i := 9) rfl) (tw9 (i := 8) rfl) (tw9 (i := 9) rfl) (tw1 (i := 14) rfl) cm_X3_hasPlaceIn
theorem gv_X9_310 : GoodIn wsL_law (wsV RX9 310 RX3 yX3_addPlace (cd_X3_addPlace :: wsL_law)) := gw_V (tw51 (i := 10) rfl) (tw51 (i := 11) rfl) (tw51 (i := 12) rfl) (tw1 (i := 14) rfl) cm_X3_addPlace
theorem gv_L_143 : GoodIn wsL_law (wsV RL 143 RX10 yX10_place (cd_X10_place :: wsL_law)) := gw_V (tw51 (i := 14) rfl) (tw51 (i := 15) rfl) (tw51 (i := 16) rfl) (tw1 (i := 5) rfl) cm_X10_place
theorem gv_L_144 : GoodIn wsL_law (wsV RL 144 RX9 yX9_glass (cd_X9_glass :: wsL_law)) := gw_V (tw51 (i := 18) rfl) (tw51 (i := 19) rfl) (tw51 (i := 20) rfl) (tw1 (i := 2) rfl) cm_X9_glass
theorem gv_X9_313 : GoodIn wsL_law (wsV RX9 313 RX9 yX9_gatherWatchers (cd_X9_gatherWatchers :: wsL_law)) := gw_V (tw51 (i := 22) rfl) (tw51 (i := 23) rfl) (tw52 (i := 0) rfl) (tw1 (i := 2) rfl) cm_X9_gatherWatchers
theorem gv_X9_325 : GoodIn wsL_law (wsV RX9 325 RX3 yX3_watchers (cd_X3_watchers :: wsL_law)) := gw_V (tw52 (i := 2) rfl) (tw52 (i := 3) rfl) (tw52 (i := 4) rfl) (tw1 (i := 14) rfl) cm_X3_watchers
theorem gv_X9_321 : GoodIn wsL_law (wsV RX9 321 RX9 yX9_watchesAll (cd_X9_watchesAll :: wsL_law)) := gw_V (tw52 (i := 10) rfl) (tw52 (i := 11) rfl) (tw52 (i := 12) rfl) (tw1 (i := 2) rfl) cm_X9_watchesAll
theorem gv_L_147 : GoodIn wsL_law (wsV RL 147 RX10 yX10_glass (cd_X10_glass :: wsL_law)) := gw_V (tw52 (i := 14) rfl) (tw52 (i := 15) rfl) (tw52 (i := 16) rfl) (tw1 (i := 5) rfl) cm_X10_glass
theorem gv_X10_464 : GoodIn wsL_law (wsV RX10 464 RX10 yX10_isWatched (cd_X10_isWatched :: wsL_law)) := gw_V (tw52 (i := 18) rfl) (tw52 (i := 19) rfl) (tw52 (i := 20) rfl) (tw1 (i := 5) rfl) cm_X10_isWatched
theorem gs_X10_461 : GoodIn wsL_law (wsS RX10 461 yX10_isNear (cd_X10_isNear :: wsL_law)) := gw_S (tw52 (i := 22) rfl) (tw52 (i := 23) rfl) (tw1 (i := 5) rfl) cm_X10_isNear
theorem gv_L_148 : GoodIn wsL_law (wsV RL 148 RX9 yX9_salt (cd_X9_salt :: wsL_law)) := gw_V (tw53 (i := 1) rfl) (tw53 (i := 2) rfl) (tw53 (i := 3) rfl) (tw1 (i := 2) rfl) cm_X9_salt
theorem gv_X9_328 : GoodIn wsL_law (wsV RX9 328 RX9 yX9_saltCells (cd_X9_saltCells :: wsL_law)) := gw_V (tw53 (i := 5) rfl) (tw53 (i := 6) rfl) (tw53 (i := 7) rfl) (tw1 (i := 2) rfl) cm_X9_saltCells
theorem gs_X9_331 : GoodIn wsL_law (wsS RX9 331 yX9_leastPaceAbove (cd_X9_leastPaceAbove :: wsL_law)) := gw_S (tw53 (i := 9) rfl) (tw38 (i := 4) rfl) (tw1 (i := 2) rfl) cm_X9_leastPaceAbove
theorem gv_L_151 : GoodIn wsL_law (wsV RL 151 RX10 yX10_salt (cd_X10_salt :: wsL_law)) := gw_V (tw53 (i := 10) rfl) (tw53 (i := 11) rfl) (tw53 (i := 12) rfl) (tw1 (i := 5) rfl) cm_X10_salt
theorem gv_X10_467 : GoodIn wsL_law (wsV RX10 467 RX10 yX10_blown (cd_X10_blown :: wsL_law)) := gw_V (tw53 (i := 14) rfl) (tw53 (i := 15) rfl) (tw53 (i := 16) rfl) (tw1 (i := 5) rfl) cm_X10_blown
theorem gv_L_152 : GoodIn wsL_law (wsV RL 152 RX9 yX9_odds (cd_X9_odds :: wsL_law)) := gw_V (tw53 (i := 18) rfl) (tw53 (i := 19) rfl) (tw53 (i := 20) rfl) (tw1 (i := 2) rfl) cm_X9_odds
theorem gs_X9_337 : GoodIn wsL_law (wsS RX9 337 yX9_greatestDivisor (cd_X9_greatestDivisor :: wsL_law)) := gw_S (tw53 (i := 23) rfl) (tw54 (i := 0) rfl) (tw1 (i := 2) rfl) cm_X9_greatestDivisor
theorem gv_L_155 : GoodIn wsL_law (wsV RL 155 RX10 yX10_odds (cd_X10_odds :: wsL_law)) := gw_V (tw54 (i := 2) rfl) (tw54 (i := 3) rfl) (tw54 (i := 4) rfl) (tw1 (i := 5) rfl) cm_X10_odds
theorem gs_X10_470 : GoodIn wsL_law (wsS RX10 470 yX10_common (cd_X10_common :: wsL_law)) := gw_S (tw54 (i := 6) rfl) (tw54 (i := 7) rfl) (tw1 (i := 5) rfl) cm_X10_common
theorem gv_L_156 : GoodIn wsL_law (wsV RL 156 RX9 yX9_day (cd_X9_day :: wsL_law)) := gw_V (tw54 (i := 9) rfl) (tw54 (i := 10) rfl) (tw54 (i := 11) rfl) (tw1 (i := 2) rfl) cm_X9_day
theorem gv_X9_342 : GoodIn wsL_law (wsV RX9 342 RX3 yX3_hourOf (cd_X3_hourOf :: wsL_law)) := gw_V (tw54 (i := 15) rfl) (tw54 (i := 16) rfl) (tw54 (i := 17) rfl) (tw1 (i := 14) rfl) cm_X3_hourOf
theorem gv_X9_345 : GoodIn wsL_law (wsV RX9 345 RX9 yX9_tooQuickHours (cd_X9_tooQuickHours :: wsL_law)) := gw_V (tw54 (i := 19) rfl) (tw54 (i := 20) rfl) (tw54 (i := 21) rfl) (tw1 (i := 2) rfl) cm_X9_tooQuickHours
theorem gv_X9_351 : GoodIn wsL_law (wsV RX9 351 RX7 yX7_leastPaceOverLines (cd_X7_leastPaceOverLines :: wsL_law)) := gw_V (tw55 (i := 0) rfl) (tw55 (i := 1) rfl) (tw55 (i := 2) rfl) (tw1 (i := 19) rfl) cm_X7_leastPaceOverLines
theorem gv_L_159 : GoodIn wsL_law (wsV RL 159 RX10 yX10_day (cd_X10_day :: wsL_law)) := gw_V (tw55 (i := 5) rfl) (tw55 (i := 6) rfl) (tw55 (i := 7) rfl) (tw1 (i := 5) rfl) cm_X10_day
theorem gv_L_160 : GoodIn wsL_law (wsV RL 160 RX9 yX9_drawn (cd_X9_drawn :: wsL_law)) := gw_V (tw55 (i := 14) rfl) (tw55 (i := 15) rfl) (tw55 (i := 16) rfl) (tw1 (i := 2) rfl) cm_X9_drawn
theorem gv_L_163 : GoodIn wsL_law (wsV RL 163 RX10 yX10_drawn (cd_X10_drawn :: wsL_law)) := gw_V (tw55 (i := 18) rfl) (tw55 (i := 19) rfl) (tw55 (i := 20) rfl) (tw1 (i := 5) rfl) cm_X10_drawn
theorem gv_L_164 : GoodIn wsL_law (wsV RL 164 RX9 yX9_image (cd_X9_image :: wsL_law)) := gw_V (tw55 (i := 22) rfl) (tw55 (i := 23) rfl) (tw56 (i := 0) rfl) (tw1 (i := 2) rfl) cm_X9_image
theorem gv_X9_355 : GoodIn wsL_law (wsV RX9 355 RX3 yX3_become (cd_X3_become :: wsL_law)) := gw_V (tw56 (i := 2) rfl) (tw56 (i := 3) rfl) (tw56 (i := 4) rfl) (tw1 (i := 14) rfl) cm_X3_become
theorem gv_X3_64 : GoodIn wsL_law (wsV RX3 64 RX0 yX0_become (cd_X0_become :: wsL_law)) := gw_V (tw56 (i := 7) rfl) (tw41 (i := 12) rfl) (tw41 (i := 13) rfl) (tw2 (i := 20) rfl) cm_X0_become
theorem gv_X3_68 : GoodIn wsL_law (wsV RX3 68 RX5 yX5_become (cd_X5_become :: wsL_law)) := gw_V (tw56 (i := 8) rfl) (tw56 (i := 9) rfl) (tw56 (i := 10) rfl) (tw3 (i := 0) rfl) cm_X5_become
theorem gv_X3_71 : GoodIn wsL_law (wsV RX3 71 RX8 yX8_become (cd_X8_become :: wsL_law)) := gw_V (tw56 (i := 13) rfl) (tw56 (i := 14) rfl) (tw56 (i := 15) rfl) (tw3 (i := 4) rfl) cm_X8_become
theorem gv_L_167 : GoodIn wsL_law (wsV RL 167 RX10 yX10_image (cd_X10_image :: wsL_law)) := gw_V (tw56 (i := 18) rfl) (tw56 (i := 19) rfl) (tw56 (i := 20) rfl) (tw1 (i := 5) rfl) cm_X10_image
theorem gv_L_168 : GoodIn wsL_law (wsV RL 168 RX9 yX9_back (cd_X9_back :: wsL_law)) := gw_V (tw56 (i := 22) rfl) (tw56 (i := 23) rfl) (tw57 (i := 0) rfl) (tw1 (i := 2) rfl) cm_X9_back
theorem gv_L_171 : GoodIn wsL_law (wsV RL 171 RX10 yX10_back (cd_X10_back :: wsL_law)) := gw_V (tw57 (i := 2) rfl) (tw57 (i := 3) rfl) (tw57 (i := 4) rfl) (tw1 (i := 5) rfl) cm_X10_back
theorem gv_L_172 : GoodIn wsL_law (wsV RL 172 RX9 yX9_count (cd_X9_count :: wsL_law)) := gw_V (tw57 (i := 6) rfl) (tw57 (i := 7) rfl) (tw57 (i := 8) rfl) (tw1 (i := 2) rfl) cm_X9_count
theorem gv_X9_358 : GoodIn wsL_law (wsV RX9 358 RX3 yX3_groundCells (cd_X3_groundCells :: wsL_law)) := gw_V (tw57 (i := 10) rfl) (tw57 (i := 11) rfl) (tw57 (i := 12) rfl) (tw1 (i := 14) rfl) cm_X3_groundCells
theorem gv_L_175 : GoodIn wsL_law (wsV RL 175 RX10 yX10_count (cd_X10_count :: wsL_law)) := gw_V (tw57 (i := 14) rfl) (tw57 (i := 15) rfl) (tw57 (i := 16) rfl) (tw1 (i := 5) rfl) cm_X10_count
theorem gv_L_176 : GoodIn wsL_law (wsV RL 176 RX9 yX9_status (cd_X9_status :: wsL_law)) := gw_V (tw57 (i := 18) rfl) (tw57 (i := 19) rfl) (tw57 (i := 20) rfl) (tw1 (i := 2) rfl) cm_X9_status
theorem gv_L_179 : GoodIn wsL_law (wsV RL 179 RX10 yX10_status (cd_X10_status :: wsL_law)) := gw_V (tw57 (i := 22) rfl) (tw57 (i := 23) rfl) (tw58 (i := 0) rfl) (tw1 (i := 5) rfl) cm_X10_status
theorem nw_0 : (.methodLinkNest RX9 9 yX3_init RX9 : Cond) ∈ tf_nw := List.mem_of_getElem? (i := 0) rfl
theorem nw_1 : (.methodLinkNest RX3 11 yX0_init RX9 : Cond) ∈ tf_nw := List.mem_of_getElem? (i := 1) rfl
theorem nw_2 : (.methodLinkNest RX3 20 yX5_init RX9 : Cond) ∈ tf_nw := List.mem_of_getElem? (i := 2) rfl
theorem nw_3 : (.methodLinkNest RX3 27 yX8_init RX9 : Cond) ∈ tf_nw := List.mem_of_getElem? (i := 3) rfl
theorem nw_4 : (.methodLinkNest RX9 22 yX7_init RX9 : Cond) ∈ tf_nw := List.mem_of_getElem? (i := 4) rfl
theorem nw_5 : (.methodLinkNest RX9 29 yX6_init RX9 : Cond) ∈ tf_nw := List.mem_of_getElem? (i := 5) rfl
theorem nw_6 : (.methodLinkNest RX6 11 yX0_init RX9 : Cond) ∈ tf_nw := List.mem_of_getElem? (i := 6) rfl
theorem nw_7 : (.methodLinkNest RX9 36 yX2_init RX9 : Cond) ∈ tf_nw := List.mem_of_getElem? (i := 7) rfl
theorem nw_8 : (.methodLinkNest RX2 24 yX4_init RX9 : Cond) ∈ tf_nw := List.mem_of_getElem? (i := 8) rfl
theorem nw_9 : (.methodLinkNest RX3 94 yX9_isOnEdge RX9 : Cond) ∈ tf_nw := List.mem_of_getElem? (i := 9) rfl
theorem nw_10 : (.methodLinkNest RX3 97 yX9_isWithin RX9 : Cond) ∈ tf_nw := List.mem_of_getElem? (i := 10) rfl
theorem nw_11 : (.methodLinkNest RX3 80 yX9_isCell RX9 : Cond) ∈ tf_nw := List.mem_of_getElem? (i := 11) rfl
theorem nw_12 : (.methodLinkNest RX3 87 yX9_spotOf RX9 : Cond) ∈ tf_nw := List.mem_of_getElem? (i := 12) rfl
theorem nw_13 : (.methodLinkNest RX0 36 yX9_spotAt RX9 : Cond) ∈ tf_nw := List.mem_of_getElem? (i := 13) rfl
theorem nw_14 : (.methodLinkNest RX5 43 yX9_spotAt RX9 : Cond) ∈ tf_nw := List.mem_of_getElem? (i := 14) rfl
theorem nw_15 : (.methodLinkNest RX3 149 yX9_isWay RX9 : Cond) ∈ tf_nw := List.mem_of_getElem? (i := 15) rfl
theorem nw_16 : (.methodLinkNest RX3 152 yX9_isPace RX9 : Cond) ∈ tf_nw := List.mem_of_getElem? (i := 16) rfl
theorem nw_17 : (.methodLinkNest RX2 106 yX9_isWithin RX9 : Cond) ∈ tf_nw := List.mem_of_getElem? (i := 17) rfl
theorem nw_18 : (.methodLinkNest RX7 94 yX9_leastPaceAbove RX9 : Cond) ∈ tf_nw := List.mem_of_getElem? (i := 18) rfl
theorem nw_19 : (.methodLinkNest RX7 100 yX9_spotOf RX9 : Cond) ∈ tf_nw := List.mem_of_getElem? (i := 19) rfl
theorem nw_20 : (.methodLinkNest RX7 107 yX9_isWithin RX9 : Cond) ∈ tf_nw := List.mem_of_getElem? (i := 20) rfl
theorem nw_21 : (.methodLinkNest RX6 77 yX9_isWithin RX9 : Cond) ∈ tf_nw := List.mem_of_getElem? (i := 21) rfl
theorem nw_22 : (.methodLinkNest RX6 121 yX9_spotOf RX9 : Cond) ∈ tf_nw := List.mem_of_getElem? (i := 22) rfl
theorem nw_23 : (.fieldLinkNest RX7 37 "TowerFoot" "UP" "[I" RX9 : Cond) ∈ tf_nw := List.mem_of_getElem? (i := 23) rfl
theorem nw_24 : (.fieldLinkNest RX7 40 "TowerFoot" "BESIDE" "[I" RX9 : Cond) ∈ tf_nw := List.mem_of_getElem? (i := 24) rfl
theorem nw_25 : (.fieldLinkNest RX6 89 "TowerFoot" "ORDERS" "[I" RX9 : Cond) ∈ tf_nw := List.mem_of_getElem? (i := 25) rfl
theorem nw_26 : (.fieldLinkNest RX6 92 "TowerFoot" "OF_720" "[I" RX9 : Cond) ∈ tf_nw := List.mem_of_getElem? (i := 26) rfl
theorem nw_27 : (.castable "[I" "java/lang/Cloneable" : Cond) ∈ tf_nw := List.mem_of_getElem? (i := 27) rfl
