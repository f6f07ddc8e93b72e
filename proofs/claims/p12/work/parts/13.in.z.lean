theorem in_wsX90 : GoodIn lw_tbl wsX90 := goodIn_p _ [] rfl (by decide +kernel)
theorem in_wsX100 : GoodIn lw_tbl wsX100 := goodIn_p _ [] rfl (by decide +kernel)
theorem in_wsX30 : GoodIn lw_tbl wsX30 := goodIn_p _ [] rfl (by decide +kernel)
theorem in_wsX70 : GoodIn lw_tbl wsX70 := goodIn_p _ [] rfl (by decide +kernel)
theorem in_wsX60 : GoodIn lw_tbl wsX60 := goodIn_p _ [] rfl (by decide +kernel)
theorem in_wsX20 : GoodIn lw_tbl wsX20 := goodIn_p _ [] rfl (by decide +kernel)
theorem in_wsX00 : GoodIn lw_tbl wsX00 := goodIn_p _ [] rfl (by decide +kernel)
theorem in_wsX50 : GoodIn lw_tbl wsX50 := goodIn_p _ [] rfl (by decide +kernel)
theorem in_wsX80 : GoodIn lw_tbl wsX80 := goodIn_p _ [] rfl (by decide +kernel)
theorem in_wsX40 : GoodIn lw_tbl wsX40 := goodIn_p _ [] rfl (by decide +kernel)
theorem in_wsX10 : GoodIn lw_tbl wsX10 := goodIn_p _ [] rfl (by decide +kernel)
theorem in_last : GoodIn lw_tbl ([] : List Cond) := fun w h => absurd h List.not_mem_nil
theorem in_all : ∀ w ∈ wsL_law, w ∈ lw_tbl := fun w h => ((goodIn_app (goodIn_app (goodIn_app (goodIn_app (goodIn_app (goodIn_app (goodIn_app (goodIn_app (goodIn_app (goodIn_app (goodIn_app (goodIn_app (goodIn_app in_r1 (goodIn_app in_r2 (goodIn_app in_r3 (goodIn_app in_r4 (goodIn_app in_r5 (goodIn_app in_r6 (goodIn_app in_r7 (goodIn_app in_r8 (goodIn_app in_r9 (goodIn_app in_r10 (goodIn_app in_r11 (goodIn_app in_r12 (goodIn_app in_r13 (goodIn_app in_r14 (goodIn_app in_r15 (goodIn_app in_r16 (goodIn_app in_r17 (goodIn_app in_r18 (goodIn_app in_r19 (goodIn_app in_r20 (goodIn_app in_r21 (goodIn_app in_r22 (goodIn_app in_r23 (goodIn_app in_r24 (goodIn_app in_r25 (goodIn_app in_r26 (goodIn_app in_r27 (goodIn_app in_r28 (goodIn_app in_r29 (goodIn_app in_r30 (goodIn_app in_r31 (goodIn_app in_r32 (goodIn_app in_r33 (goodIn_app in_r34 (goodIn_app in_r35 (goodIn_app in_r36 (goodIn_app in_r37 (goodIn_app in_r38 (goodIn_app in_r39 (goodIn_app in_r40 (goodIn_app in_r41 (goodIn_app in_r42 (goodIn_app in_r43 (goodIn_app in_r44 (goodIn_app in_r45 (goodIn_app in_r46 (goodIn_app in_r47 (goodIn_app in_r48 (goodIn_app in_r49 (goodIn_app in_r50 (goodIn_app in_r51 (goodIn_app in_r52 (goodIn_app in_r53 (goodIn_app in_r54 (goodIn_app in_r55 (goodIn_app in_r56 (goodIn_app in_r57 (in_r58)))))))))))))))))))))))))))))))))))))))))))))))))))))))))) in_wsX90) in_wsX100) in_wsX30) in_wsX70) in_wsX60) in_wsX20) in_wsX00) in_wsX50) in_wsX80) in_wsX40) in_wsX10) in_last) w h).1
