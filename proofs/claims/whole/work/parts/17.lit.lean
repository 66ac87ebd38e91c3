/-! small literals and the constant rows, one row each -/
theorem kx_tn_0 : Int32.toNatClampNeg 0 = 0 := by decide
theorem kx_tn_1 : Int32.toNatClampNeg 1 = 1 := by decide
theorem kx_tn_2 : Int32.toNatClampNeg 2 = 2 := by decide
theorem kx_tn_3 : Int32.toNatClampNeg 3 = 3 := by decide
theorem kx_tn_4 : Int32.toNatClampNeg 4 = 4 := by decide
theorem kx_tn_5 : Int32.toNatClampNeg 5 = 5 := by decide
theorem kx_tn_6 : Int32.toNatClampNeg 6 = 6 := by decide
theorem kx_tn_7 : Int32.toNatClampNeg 7 = 7 := by decide
theorem kx_tn_8 : Int32.toNatClampNeg 8 = 8 := by decide
theorem kx_tn_9 : Int32.toNatClampNeg 9 = 9 := by decide
theorem kx_tn_10 : Int32.toNatClampNeg 10 = 10 := by decide
theorem kx_tn_11 : Int32.toNatClampNeg 11 = 11 := by decide
theorem kx_tn_12 : Int32.toNatClampNeg 12 = 12 := by decide
theorem kx_tn_13 : Int32.toNatClampNeg 13 = 13 := by decide
theorem kx_tn_14 : Int32.toNatClampNeg 14 = 14 := by decide
theorem kx_tn_15 : Int32.toNatClampNeg 15 = 15 := by decide
theorem kx_tn_16 : Int32.toNatClampNeg 16 = 16 := by decide
theorem kx_tn_17 : Int32.toNatClampNeg 17 = 17 := by decide
theorem kx_tn_18 : Int32.toNatClampNeg 18 = 18 := by decide
theorem kx_tn_19 : Int32.toNatClampNeg 19 = 19 := by decide
theorem kx_tn_20 : Int32.toNatClampNeg 20 = 20 := by decide
theorem kx_tn_21 : Int32.toNatClampNeg 21 = 21 := by decide
theorem kx_tn_22 : Int32.toNatClampNeg 22 = 22 := by decide
theorem kx_tn_23 : Int32.toNatClampNeg 23 = 23 := by decide
theorem kx_tn_24 : Int32.toNatClampNeg 24 = 24 := by decide
theorem kx_tn_25 : Int32.toNatClampNeg 25 = 25 := by decide
theorem kx_tn_26 : Int32.toNatClampNeg 26 = 26 := by decide
theorem kx_tn_27 : Int32.toNatClampNeg 27 = 27 := by decide
theorem kx_tn_28 : Int32.toNatClampNeg 28 = 28 := by decide
theorem kx_tn_29 : Int32.toNatClampNeg 29 = 29 := by decide
theorem kx_tn_30 : Int32.toNatClampNeg 30 = 30 := by decide
theorem kx_tn_31 : Int32.toNatClampNeg 31 = 31 := by decide
theorem kx_tn_32 : Int32.toNatClampNeg 32 = 32 := by decide
theorem kx_tn_33 : Int32.toNatClampNeg 33 = 33 := by decide
theorem kx_tn_34 : Int32.toNatClampNeg 34 = 34 := by decide
theorem kx_tn_35 : Int32.toNatClampNeg 35 = 35 := by decide
theorem kx_tn_36 : Int32.toNatClampNeg 36 = 36 := by decide
theorem kx_tn_37 : Int32.toNatClampNeg 37 = 37 := by decide
theorem kx_tn_38 : Int32.toNatClampNeg 38 = 38 := by decide
theorem kx_tn_39 : Int32.toNatClampNeg 39 = 39 := by decide
theorem kx_tn_40 : Int32.toNatClampNeg 40 = 40 := by decide
theorem kx_tn_41 : Int32.toNatClampNeg 41 = 41 := by decide
theorem kx_tn_42 : Int32.toNatClampNeg 42 = 42 := by decide
theorem kx_tn_43 : Int32.toNatClampNeg 43 = 43 := by decide
theorem kx_tn_44 : Int32.toNatClampNeg 44 = 44 := by decide
theorem kx_tn_45 : Int32.toNatClampNeg 45 = 45 := by decide
theorem kx_tn_46 : Int32.toNatClampNeg 46 = 46 := by decide
theorem kx_tn_47 : Int32.toNatClampNeg 47 = 47 := by decide
theorem kx_tn_48 : Int32.toNatClampNeg 48 = 48 := by decide
theorem kx_tn_49 : Int32.toNatClampNeg 49 = 49 := by decide
theorem kx_tn_50 : Int32.toNatClampNeg 50 = 50 := by decide
theorem kx_tn_51 : Int32.toNatClampNeg 51 = 51 := by decide
theorem kx_tn_52 : Int32.toNatClampNeg 52 = 52 := by decide
theorem kx_tn_53 : Int32.toNatClampNeg 53 = 53 := by decide
theorem kx_tn_54 : Int32.toNatClampNeg 54 = 54 := by decide
theorem kx_tn_55 : Int32.toNatClampNeg 55 = 55 := by decide
theorem kx_tn_56 : Int32.toNatClampNeg 56 = 56 := by decide
theorem kx_tn_57 : Int32.toNatClampNeg 57 = 57 := by decide
theorem kx_tn_58 : Int32.toNatClampNeg 58 = 58 := by decide
theorem kx_tn_59 : Int32.toNatClampNeg 59 = 59 := by decide
theorem kx_tn_60 : Int32.toNatClampNeg 60 = 60 := by decide
theorem kx_rsc_2 {M : kx_M} : kx_rs M (.retAddr 2) = some (101, 8) := rfl
theorem kx_rdc_2_0 {M : kx_M} : kx_rd M (.retAddr 2) 0 = .int 0 := rfl
theorem kx_rdc_2_1 {M : kx_M} : kx_rd M (.retAddr 2) 1 = .int 4 := rfl
theorem kx_rdc_2_2 {M : kx_M} : kx_rd M (.retAddr 2) 2 = .int 9 := rfl
theorem kx_rdc_2_3 {M : kx_M} : kx_rd M (.retAddr 2) 3 = .int 15 := rfl
theorem kx_rdc_2_4 {M : kx_M} : kx_rd M (.retAddr 2) 4 = .int 22 := rfl
theorem kx_rdc_2_5 {M : kx_M} : kx_rd M (.retAddr 2) 5 = .int 28 := rfl
theorem kx_rdc_2_6 {M : kx_M} : kx_rd M (.retAddr 2) 6 = .int 33 := rfl
theorem kx_rdc_2_7 {M : kx_M} : kx_rd M (.retAddr 2) 7 = .int 37 := rfl
theorem kx_rsc_3 {M : kx_M} : kx_rs M (.retAddr 3) = some (101, 37) := rfl
theorem kx_rdc_3_0 {M : kx_M} : kx_rd M (.retAddr 3) 0 = .int 0 := rfl
theorem kx_rdc_3_1 {M : kx_M} : kx_rd M (.retAddr 3) 1 = .int 0 := rfl
theorem kx_rdc_3_2 {M : kx_M} : kx_rd M (.retAddr 3) 2 = .int 0 := rfl
theorem kx_rdc_3_3 {M : kx_M} : kx_rd M (.retAddr 3) 3 = .int 0 := rfl
theorem kx_rdc_3_4 {M : kx_M} : kx_rd M (.retAddr 3) 4 = .int 1 := rfl
theorem kx_rdc_3_5 {M : kx_M} : kx_rd M (.retAddr 3) 5 = .int 1 := rfl
theorem kx_rdc_3_6 {M : kx_M} : kx_rd M (.retAddr 3) 6 = .int 1 := rfl
theorem kx_rdc_3_7 {M : kx_M} : kx_rd M (.retAddr 3) 7 = .int 1 := rfl
theorem kx_rdc_3_8 {M : kx_M} : kx_rd M (.retAddr 3) 8 = .int 1 := rfl
theorem kx_rdc_3_9 {M : kx_M} : kx_rd M (.retAddr 3) 9 = .int 2 := rfl
theorem kx_rdc_3_10 {M : kx_M} : kx_rd M (.retAddr 3) 10 = .int 2 := rfl
theorem kx_rdc_3_11 {M : kx_M} : kx_rd M (.retAddr 3) 11 = .int 2 := rfl
theorem kx_rdc_3_12 {M : kx_M} : kx_rd M (.retAddr 3) 12 = .int 2 := rfl
theorem kx_rdc_3_13 {M : kx_M} : kx_rd M (.retAddr 3) 13 = .int 2 := rfl
theorem kx_rdc_3_14 {M : kx_M} : kx_rd M (.retAddr 3) 14 = .int 2 := rfl
theorem kx_rdc_3_15 {M : kx_M} : kx_rd M (.retAddr 3) 15 = .int 3 := rfl
theorem kx_rdc_3_16 {M : kx_M} : kx_rd M (.retAddr 3) 16 = .int 3 := rfl
theorem kx_rdc_3_17 {M : kx_M} : kx_rd M (.retAddr 3) 17 = .int 3 := rfl
theorem kx_rdc_3_18 {M : kx_M} : kx_rd M (.retAddr 3) 18 = .int 3 := rfl
theorem kx_rdc_3_19 {M : kx_M} : kx_rd M (.retAddr 3) 19 = .int 3 := rfl
theorem kx_rdc_3_20 {M : kx_M} : kx_rd M (.retAddr 3) 20 = .int 3 := rfl
theorem kx_rdc_3_21 {M : kx_M} : kx_rd M (.retAddr 3) 21 = .int 3 := rfl
theorem kx_rdc_3_22 {M : kx_M} : kx_rd M (.retAddr 3) 22 = .int 4 := rfl
theorem kx_rdc_3_23 {M : kx_M} : kx_rd M (.retAddr 3) 23 = .int 4 := rfl
theorem kx_rdc_3_24 {M : kx_M} : kx_rd M (.retAddr 3) 24 = .int 4 := rfl
theorem kx_rdc_3_25 {M : kx_M} : kx_rd M (.retAddr 3) 25 = .int 4 := rfl
theorem kx_rdc_3_26 {M : kx_M} : kx_rd M (.retAddr 3) 26 = .int 4 := rfl
theorem kx_rdc_3_27 {M : kx_M} : kx_rd M (.retAddr 3) 27 = .int 4 := rfl
theorem kx_rdc_3_28 {M : kx_M} : kx_rd M (.retAddr 3) 28 = .int 5 := rfl
theorem kx_rdc_3_29 {M : kx_M} : kx_rd M (.retAddr 3) 29 = .int 5 := rfl
theorem kx_rdc_3_30 {M : kx_M} : kx_rd M (.retAddr 3) 30 = .int 5 := rfl
theorem kx_rdc_3_31 {M : kx_M} : kx_rd M (.retAddr 3) 31 = .int 5 := rfl
theorem kx_rdc_3_32 {M : kx_M} : kx_rd M (.retAddr 3) 32 = .int 5 := rfl
theorem kx_rdc_3_33 {M : kx_M} : kx_rd M (.retAddr 3) 33 = .int 6 := rfl
theorem kx_rdc_3_34 {M : kx_M} : kx_rd M (.retAddr 3) 34 = .int 6 := rfl
theorem kx_rdc_3_35 {M : kx_M} : kx_rd M (.retAddr 3) 35 = .int 6 := rfl
theorem kx_rdc_3_36 {M : kx_M} : kx_rd M (.retAddr 3) 36 = .int 6 := rfl
theorem kx_rsc_4 {M : kx_M} : kx_rs M (.retAddr 4) = some (101, 7) := rfl
theorem kx_rdc_4_0 {M : kx_M} : kx_rd M (.retAddr 4) 0 = .int 0 := rfl
theorem kx_rdc_4_1 {M : kx_M} : kx_rd M (.retAddr 4) 1 = .int 1 := rfl
theorem kx_rdc_4_2 {M : kx_M} : kx_rd M (.retAddr 4) 2 = .int 2 := rfl
theorem kx_rdc_4_3 {M : kx_M} : kx_rd M (.retAddr 4) 3 = .int 3 := rfl
theorem kx_rdc_4_4 {M : kx_M} : kx_rd M (.retAddr 4) 4 = .int 3 := rfl
theorem kx_rdc_4_5 {M : kx_M} : kx_rd M (.retAddr 4) 5 = .int 3 := rfl
theorem kx_rdc_4_6 {M : kx_M} : kx_rd M (.retAddr 4) 6 = .int 3 := rfl
theorem kx_rsc_5 {M : kx_M} : kx_rs M (.retAddr 5) = some (101, 6) := rfl
theorem kx_rdc_5_0 {M : kx_M} : kx_rd M (.retAddr 5) 0 = .int 0 := rfl
theorem kx_rdc_5_1 {M : kx_M} : kx_rd M (.retAddr 5) 1 = .int (-1) := rfl
theorem kx_rdc_5_2 {M : kx_M} : kx_rd M (.retAddr 5) 2 = .int (-1) := rfl
theorem kx_rdc_5_3 {M : kx_M} : kx_rd M (.retAddr 5) 3 = .int 0 := rfl
theorem kx_rdc_5_4 {M : kx_M} : kx_rd M (.retAddr 5) 4 = .int 1 := rfl
theorem kx_rdc_5_5 {M : kx_M} : kx_rd M (.retAddr 5) 5 = .int 1 := rfl
theorem kx_rsc_6 {M : kx_M} : kx_rs M (.retAddr 6) = some (101, 6) := rfl
theorem kx_rdc_6_0 {M : kx_M} : kx_rd M (.retAddr 6) 0 = .int 1 := rfl
theorem kx_rdc_6_1 {M : kx_M} : kx_rd M (.retAddr 6) 1 = .int 1 := rfl
theorem kx_rdc_6_2 {M : kx_M} : kx_rd M (.retAddr 6) 2 = .int 0 := rfl
theorem kx_rdc_6_3 {M : kx_M} : kx_rd M (.retAddr 6) 3 = .int (-1) := rfl
theorem kx_rdc_6_4 {M : kx_M} : kx_rd M (.retAddr 6) 4 = .int (-1) := rfl
theorem kx_rdc_6_5 {M : kx_M} : kx_rd M (.retAddr 6) 5 = .int 0 := rfl
theorem kx_rsc_7 {M : kx_M} : kx_rs M (.retAddr 7) = some (103, 100) := rfl
theorem kx_rdc_7_0 {M : kx_M} : kx_rd M (.retAddr 7) 0 = .int 48 := rfl
theorem kx_rdc_7_1 {M : kx_M} : kx_rd M (.retAddr 7) 1 = .int 49 := rfl
theorem kx_rdc_7_2 {M : kx_M} : kx_rd M (.retAddr 7) 2 = .int 50 := rfl
theorem kx_rdc_7_3 {M : kx_M} : kx_rd M (.retAddr 7) 3 = .int 51 := rfl
theorem kx_rdc_7_4 {M : kx_M} : kx_rd M (.retAddr 7) 4 = .int 52 := rfl
theorem kx_rdc_7_5 {M : kx_M} : kx_rd M (.retAddr 7) 5 = .int 53 := rfl
theorem kx_rdc_7_6 {M : kx_M} : kx_rd M (.retAddr 7) 6 = .int 54 := rfl
theorem kx_rdc_7_7 {M : kx_M} : kx_rd M (.retAddr 7) 7 = .int 55 := rfl
theorem kx_rdc_7_8 {M : kx_M} : kx_rd M (.retAddr 7) 8 = .int 56 := rfl
theorem kx_rdc_7_9 {M : kx_M} : kx_rd M (.retAddr 7) 9 = .int 57 := rfl
theorem kx_rdc_7_10 {M : kx_M} : kx_rd M (.retAddr 7) 10 = .int 48 := rfl
theorem kx_rdc_7_11 {M : kx_M} : kx_rd M (.retAddr 7) 11 = .int 49 := rfl
theorem kx_rdc_7_12 {M : kx_M} : kx_rd M (.retAddr 7) 12 = .int 50 := rfl
theorem kx_rdc_7_13 {M : kx_M} : kx_rd M (.retAddr 7) 13 = .int 51 := rfl
theorem kx_rdc_7_14 {M : kx_M} : kx_rd M (.retAddr 7) 14 = .int 52 := rfl
theorem kx_rdc_7_15 {M : kx_M} : kx_rd M (.retAddr 7) 15 = .int 53 := rfl
theorem kx_rdc_7_16 {M : kx_M} : kx_rd M (.retAddr 7) 16 = .int 54 := rfl
theorem kx_rdc_7_17 {M : kx_M} : kx_rd M (.retAddr 7) 17 = .int 55 := rfl
theorem kx_rdc_7_18 {M : kx_M} : kx_rd M (.retAddr 7) 18 = .int 56 := rfl
theorem kx_rdc_7_19 {M : kx_M} : kx_rd M (.retAddr 7) 19 = .int 57 := rfl
theorem kx_rdc_7_20 {M : kx_M} : kx_rd M (.retAddr 7) 20 = .int 48 := rfl
theorem kx_rdc_7_21 {M : kx_M} : kx_rd M (.retAddr 7) 21 = .int 49 := rfl
theorem kx_rdc_7_22 {M : kx_M} : kx_rd M (.retAddr 7) 22 = .int 50 := rfl
theorem kx_rdc_7_23 {M : kx_M} : kx_rd M (.retAddr 7) 23 = .int 51 := rfl
theorem kx_rdc_7_24 {M : kx_M} : kx_rd M (.retAddr 7) 24 = .int 52 := rfl
theorem kx_rdc_7_25 {M : kx_M} : kx_rd M (.retAddr 7) 25 = .int 53 := rfl
theorem kx_rdc_7_26 {M : kx_M} : kx_rd M (.retAddr 7) 26 = .int 54 := rfl
theorem kx_rdc_7_27 {M : kx_M} : kx_rd M (.retAddr 7) 27 = .int 55 := rfl
theorem kx_rdc_7_28 {M : kx_M} : kx_rd M (.retAddr 7) 28 = .int 56 := rfl
theorem kx_rdc_7_29 {M : kx_M} : kx_rd M (.retAddr 7) 29 = .int 57 := rfl
theorem kx_rdc_7_30 {M : kx_M} : kx_rd M (.retAddr 7) 30 = .int 48 := rfl
theorem kx_rdc_7_31 {M : kx_M} : kx_rd M (.retAddr 7) 31 = .int 49 := rfl
theorem kx_rdc_7_32 {M : kx_M} : kx_rd M (.retAddr 7) 32 = .int 50 := rfl
theorem kx_rdc_7_33 {M : kx_M} : kx_rd M (.retAddr 7) 33 = .int 51 := rfl
theorem kx_rdc_7_34 {M : kx_M} : kx_rd M (.retAddr 7) 34 = .int 52 := rfl
theorem kx_rdc_7_35 {M : kx_M} : kx_rd M (.retAddr 7) 35 = .int 53 := rfl
theorem kx_rdc_7_36 {M : kx_M} : kx_rd M (.retAddr 7) 36 = .int 54 := rfl
theorem kx_rdc_7_37 {M : kx_M} : kx_rd M (.retAddr 7) 37 = .int 55 := rfl
theorem kx_rdc_7_38 {M : kx_M} : kx_rd M (.retAddr 7) 38 = .int 56 := rfl
theorem kx_rdc_7_39 {M : kx_M} : kx_rd M (.retAddr 7) 39 = .int 57 := rfl
theorem kx_rsc_8 {M : kx_M} : kx_rs M (.retAddr 8) = some (103, 100) := rfl
theorem kx_rdc_8_0 {M : kx_M} : kx_rd M (.retAddr 8) 0 = .int 48 := rfl
theorem kx_rdc_8_1 {M : kx_M} : kx_rd M (.retAddr 8) 1 = .int 48 := rfl
theorem kx_rdc_8_2 {M : kx_M} : kx_rd M (.retAddr 8) 2 = .int 48 := rfl
theorem kx_rdc_8_3 {M : kx_M} : kx_rd M (.retAddr 8) 3 = .int 48 := rfl
theorem kx_rdc_8_4 {M : kx_M} : kx_rd M (.retAddr 8) 4 = .int 48 := rfl
theorem kx_rdc_8_5 {M : kx_M} : kx_rd M (.retAddr 8) 5 = .int 48 := rfl
theorem kx_rdc_8_6 {M : kx_M} : kx_rd M (.retAddr 8) 6 = .int 48 := rfl
theorem kx_rdc_8_7 {M : kx_M} : kx_rd M (.retAddr 8) 7 = .int 48 := rfl
theorem kx_rdc_8_8 {M : kx_M} : kx_rd M (.retAddr 8) 8 = .int 48 := rfl
theorem kx_rdc_8_9 {M : kx_M} : kx_rd M (.retAddr 8) 9 = .int 48 := rfl
theorem kx_rdc_8_10 {M : kx_M} : kx_rd M (.retAddr 8) 10 = .int 49 := rfl
theorem kx_rdc_8_11 {M : kx_M} : kx_rd M (.retAddr 8) 11 = .int 49 := rfl
theorem kx_rdc_8_12 {M : kx_M} : kx_rd M (.retAddr 8) 12 = .int 49 := rfl
theorem kx_rdc_8_13 {M : kx_M} : kx_rd M (.retAddr 8) 13 = .int 49 := rfl
theorem kx_rdc_8_14 {M : kx_M} : kx_rd M (.retAddr 8) 14 = .int 49 := rfl
theorem kx_rdc_8_15 {M : kx_M} : kx_rd M (.retAddr 8) 15 = .int 49 := rfl
theorem kx_rdc_8_16 {M : kx_M} : kx_rd M (.retAddr 8) 16 = .int 49 := rfl
theorem kx_rdc_8_17 {M : kx_M} : kx_rd M (.retAddr 8) 17 = .int 49 := rfl
theorem kx_rdc_8_18 {M : kx_M} : kx_rd M (.retAddr 8) 18 = .int 49 := rfl
theorem kx_rdc_8_19 {M : kx_M} : kx_rd M (.retAddr 8) 19 = .int 49 := rfl
theorem kx_rdc_8_20 {M : kx_M} : kx_rd M (.retAddr 8) 20 = .int 50 := rfl
theorem kx_rdc_8_21 {M : kx_M} : kx_rd M (.retAddr 8) 21 = .int 50 := rfl
theorem kx_rdc_8_22 {M : kx_M} : kx_rd M (.retAddr 8) 22 = .int 50 := rfl
theorem kx_rdc_8_23 {M : kx_M} : kx_rd M (.retAddr 8) 23 = .int 50 := rfl
theorem kx_rdc_8_24 {M : kx_M} : kx_rd M (.retAddr 8) 24 = .int 50 := rfl
theorem kx_rdc_8_25 {M : kx_M} : kx_rd M (.retAddr 8) 25 = .int 50 := rfl
theorem kx_rdc_8_26 {M : kx_M} : kx_rd M (.retAddr 8) 26 = .int 50 := rfl
theorem kx_rdc_8_27 {M : kx_M} : kx_rd M (.retAddr 8) 27 = .int 50 := rfl
theorem kx_rdc_8_28 {M : kx_M} : kx_rd M (.retAddr 8) 28 = .int 50 := rfl
theorem kx_rdc_8_29 {M : kx_M} : kx_rd M (.retAddr 8) 29 = .int 50 := rfl
theorem kx_rdc_8_30 {M : kx_M} : kx_rd M (.retAddr 8) 30 = .int 51 := rfl
theorem kx_rdc_8_31 {M : kx_M} : kx_rd M (.retAddr 8) 31 = .int 51 := rfl
theorem kx_rdc_8_32 {M : kx_M} : kx_rd M (.retAddr 8) 32 = .int 51 := rfl
theorem kx_rdc_8_33 {M : kx_M} : kx_rd M (.retAddr 8) 33 = .int 51 := rfl
theorem kx_rdc_8_34 {M : kx_M} : kx_rd M (.retAddr 8) 34 = .int 51 := rfl
theorem kx_rdc_8_35 {M : kx_M} : kx_rd M (.retAddr 8) 35 = .int 51 := rfl
theorem kx_rdc_8_36 {M : kx_M} : kx_rd M (.retAddr 8) 36 = .int 51 := rfl
theorem kx_rdc_8_37 {M : kx_M} : kx_rd M (.retAddr 8) 37 = .int 51 := rfl
theorem kx_rdc_8_38 {M : kx_M} : kx_rd M (.retAddr 8) 38 = .int 51 := rfl
theorem kx_rdc_8_39 {M : kx_M} : kx_rd M (.retAddr 8) 39 = .int 51 := rfl
