section PLACES
theorem se_0 : sk_e 0 = (1, 6, 7, [some 1, some 2, some 3, some 4, some 5, some 6]) := rfl
theorem se_1 : sk_e 1 = (1, 2, 15, [some 18, some 19, some 20, some 21, some 22, some 23]) := rfl
theorem se_2 : sk_e 2 = (1, 2, 15, [some 36, some 37, some 38, some 39, some 40, some 41]) := rfl
theorem se_3 : sk_e 3 = (1, 3, 6, [some 15, none, some 16]) := rfl
theorem se_4 : sk_e 4 = (1, 5, 6, [some 17]) := rfl
theorem se_5 : sk_e 5 = (2, 3, 4, [some 7, some 8, some 9, some 10]) := rfl
theorem se_6 : sk_e 6 = (0, 0, 7, []) := rfl
theorem se_7 : sk_e 7 = (1, 4, 3, [some 11]) := rfl
theorem se_8 : sk_e 8 = (1, 4, 3, [some 12]) := rfl
theorem se_9 : sk_e 9 = (1, 4, 3, [some 13]) := rfl
theorem se_10 : sk_e 10 = (1, 4, 3, [some 14]) := rfl
theorem se_11 : sk_e 11 = (0, 0, 24, []) := rfl
theorem se_12 : sk_e 12 = (0, 0, 24, []) := rfl
theorem se_13 : sk_e 13 = (0, 0, 24, []) := rfl
theorem se_14 : sk_e 14 = (0, 0, 24, []) := rfl
theorem se_15 : sk_e 15 = (0, 0, 60, []) := rfl
theorem se_16 : sk_e 16 = (0, 0, 60, []) := rfl
theorem se_17 : sk_e 17 = (0, 0, 30, []) := rfl
theorem se_18 : sk_e 18 = (0, 0, 4, []) := rfl
theorem se_19 : sk_e 19 = (0, 0, 4, []) := rfl
theorem se_20 : sk_e 20 = (2, 1, 6, [some 24, some 25, some 26, some 27, some 28, some 29]) := rfl
theorem se_21 : sk_e 21 = (2, 2, 2, [some 30, some 31]) := rfl
theorem se_22 : sk_e 22 = (0, 0, 60, []) := rfl
theorem se_23 : sk_e 23 = (0, 0, 24, []) := rfl
theorem se_24 : sk_e 24 = (1, 0, 3, []) := rfl
theorem se_25 : sk_e 25 = (1, 0, 3, []) := rfl
theorem se_26 : sk_e 26 = (1, 0, 3, []) := rfl
theorem se_27 : sk_e 27 = (1, 0, 3, []) := rfl
theorem se_28 : sk_e 28 = (1, 0, 3, []) := rfl
theorem se_29 : sk_e 29 = (1, 0, 3, []) := rfl
theorem se_30 : sk_e 30 = (1, 1, 4, [some 32, some 34]) := rfl
theorem se_31 : sk_e 31 = (1, 1, 4, [some 33, some 35]) := rfl
theorem se_32 : sk_e 32 = (0, 0, 60, []) := rfl
theorem se_33 : sk_e 33 = (0, 0, 60, []) := rfl
theorem se_34 : sk_e 34 = (0, 0, 60, []) := rfl
theorem se_35 : sk_e 35 = (0, 0, 60, []) := rfl
theorem se_36 : sk_e 36 = (0, 0, 4, []) := rfl
theorem se_37 : sk_e 37 = (0, 0, 4, []) := rfl
theorem se_38 : sk_e 38 = (2, 1, 6, [some 42, some 43, some 44, some 45, some 46, some 47]) := rfl
theorem se_39 : sk_e 39 = (2, 2, 2, [some 48, some 49]) := rfl
theorem se_40 : sk_e 40 = (0, 0, 60, []) := rfl
theorem se_41 : sk_e 41 = (0, 0, 24, []) := rfl
theorem se_42 : sk_e 42 = (1, 0, 3, []) := rfl
theorem se_43 : sk_e 43 = (1, 0, 3, []) := rfl
theorem se_44 : sk_e 44 = (1, 0, 3, []) := rfl
theorem se_45 : sk_e 45 = (1, 0, 3, []) := rfl
theorem se_46 : sk_e 46 = (1, 0, 3, []) := rfl
theorem se_47 : sk_e 47 = (1, 0, 3, []) := rfl
theorem se_48 : sk_e 48 = (1, 1, 4, [some 50, some 52]) := rfl
theorem se_49 : sk_e 49 = (1, 1, 4, [some 51, some 53]) := rfl
theorem se_50 : sk_e 50 = (0, 0, 60, []) := rfl
theorem se_51 : sk_e 51 = (0, 0, 60, []) := rfl
theorem se_52 : sk_e 52 = (0, 0, 60, []) := rfl
theorem se_53 : sk_e 53 = (0, 0, 60, []) := rfl
theorem se_54 : sk_e 54 = (1, 7, 20, [some 55, some 56, none, some 57, some 58, some 59, some 60, some 61, some 62, some 63, some 64, none, none, none, none, none, some 65, some 66]) := rfl
theorem se_55 : sk_e 55 = (0, 0, 361, []) := rfl
theorem se_56 : sk_e 56 = (0, 0, 361, []) := rfl
theorem se_57 : sk_e 57 = (0, 0, 7, []) := rfl
theorem se_58 : sk_e 58 = (0, 0, 4, []) := rfl
theorem se_59 : sk_e 59 = (0, 0, 4, []) := rfl
theorem se_60 : sk_e 60 = (0, 0, 96, []) := rfl
theorem se_61 : sk_e 61 = (0, 0, 60, []) := rfl
theorem se_62 : sk_e 62 = (0, 0, 60, []) := rfl
theorem se_63 : sk_e 63 = (0, 0, 3, []) := rfl
theorem se_64 : sk_e 64 = (0, 0, 60, []) := rfl
theorem se_65 : sk_e 65 = (0, 0, 24, []) := rfl
theorem se_66 : sk_e 66 = (0, 0, 30, []) := rfl
end PLACES
