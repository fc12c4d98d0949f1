def wd_0 : vw := fun _ => none
def wd_1 : vw := wup wd_0 (0, 0) (.inl (7, [.inr none, .inl 0, .inl 0, .inr none, .inr none, .inr none, .inr none]))
def wd_2 : vw := wup wd_1 (0, 6) (.inr (2, 16, .inr (fun _ => none)))
def wd_3 : vw := wup wd_2 (0, 0) (.inl (7, [.inr (some (0, 6)), .inl 0, .inl 0, .inr none, .inr none, .inr none, .inr none]))
def wd_4 : vw := wup wd_3 (0, 0) (.inl (7, [.inr (some (0, 6)), .inl 0, .inl 0, .inr none, .inr none, .inr none, .inr none]))
def wd_5 : vw := wup wd_4 (0, 0) (.inl (7, [.inr (some (0, 6)), .inl 0, .inl 0, .inr none, .inr none, .inr none, .inr none]))
def wd_6 : vw := wup wd_5 (0, 2) (.inl (0, [.inl 0, .inl 0, .inr none, .inr none, .inr none, .inr none, .inr none, .inr none, .inr none, .inr none, .inr none, .inr none]))
def wd_7 : vw := wup wd_6 (0, 2) (.inl (0, [.inl 0, .inl 0, .inr none, .inr none, .inr none, .inr none, .inr none, .inr none, .inr none, .inr none, .inr none, .inr none]))
def wd_8 : vw := wup wd_7 (0, 2) (.inl (0, [.inl 0, .inl 0, .inr none, .inr none, .inr none, .inr none, .inr none, .inr none, .inr none, .inr none, .inr none, .inr none]))
def wd_9 : vw := wup wd_8 (0, 7) (.inr (0, 6, .inl (fun _ => 0)))
def wd_10 : vw := wup wd_9 (0, 2) (.inl (0, [.inl 0, .inl 0, .inr (some (0, 7)), .inr none, .inr none, .inr none, .inr none, .inr none, .inr none, .inr none, .inr none, .inr none]))
def wd_11 : vw := wup wd_10 (0, 8) (.inr (0, 6, .inl (fun _ => 0)))
def wd_12 : vw := wup wd_11 (0, 2) (.inl (0, [.inl 0, .inl 0, .inr (some (0, 7)), .inr (some (0, 8)), .inr none, .inr none, .inr none, .inr none, .inr none, .inr none, .inr none, .inr none]))
def wd_13 : vw := wm wd_12 (0, 9)
def wd_14 : vw := wup wd_13 (0, 2) (.inl (0, [.inl 0, .inl 0, .inr (some (0, 7)), .inr (some (0, 8)), .inr (some (0, 9)), .inr none, .inr none, .inr none, .inr none, .inr none, .inr none, .inr none]))
def wd_15 : vw := wup wd_14 (0, 10) (.inr (0, 3, .inl (fun _ => 0)))
def wd_16 : vw := wup wd_15 (0, 2) (.inl (0, [.inl 0, .inl 0, .inr (some (0, 7)), .inr (some (0, 8)), .inr (some (0, 9)), .inr (some (0, 10)), .inr none, .inr none, .inr none, .inr none, .inr none, .inr none]))
def wd_17 : vw := wup wd_16 (0, 11) (.inr (0, 64, .inl (fun _ => 0)))
def wd_18 : vw := wup wd_17 (0, 2) (.inl (0, [.inl 0, .inl 0, .inr (some (0, 7)), .inr (some (0, 8)), .inr (some (0, 9)), .inr (some (0, 10)), .inr (some (0, 11)), .inr none, .inr none, .inr none, .inr none, .inr none]))
def wd_19 : vw := wup wd_18 (0, 12) (.inr (0, 64, .inl (fun _ => 0)))
def wd_20 : vw := wup wd_19 (0, 2) (.inl (0, [.inl 0, .inl 0, .inr (some (0, 7)), .inr (some (0, 8)), .inr (some (0, 9)), .inr (some (0, 10)), .inr (some (0, 11)), .inr (some (0, 12)), .inr none, .inr none, .inr none, .inr none]))
def wd_21 : vw := wup wd_20 (0, 13) (.inr (0, 64, .inl (fun _ => 0)))
def wd_22 : vw := wup wd_21 (0, 2) (.inl (0, [.inl 0, .inl 0, .inr (some (0, 7)), .inr (some (0, 8)), .inr (some (0, 9)), .inr (some (0, 10)), .inr (some (0, 11)), .inr (some (0, 12)), .inr (some (0, 13)), .inr none, .inr none, .inr none]))
def wd_23 : vw := wup wd_22 (0, 14) (.inr (0, 64, .inl (fun _ => 0)))
def wd_24 : vw := wup wd_23 (0, 2) (.inl (0, [.inl 0, .inl 0, .inr (some (0, 7)), .inr (some (0, 8)), .inr (some (0, 9)), .inr (some (0, 10)), .inr (some (0, 11)), .inr (some (0, 12)), .inr (some (0, 13)), .inr (some (0, 14)), .inr none, .inr none]))
def wd_25 : vw := wup wd_24 (0, 15) (.inr (0, 64, .inl (fun _ => 0)))
def wd_26 : vw := wup wd_25 (0, 2) (.inl (0, [.inl 0, .inl 0, .inr (some (0, 7)), .inr (some (0, 8)), .inr (some (0, 9)), .inr (some (0, 10)), .inr (some (0, 11)), .inr (some (0, 12)), .inr (some (0, 13)), .inr (some (0, 14)), .inr (some (0, 15)), .inr none]))
def wd_27 : vw := wup wd_26 (0, 16) (.inr (0, 64, .inl (fun _ => 0)))
def wd_28 : vw := wup wd_27 (0, 2) (.inl (0, [.inl 0, .inl 0, .inr (some (0, 7)), .inr (some (0, 8)), .inr (some (0, 9)), .inr (some (0, 10)), .inr (some (0, 11)), .inr (some (0, 12)), .inr (some (0, 13)), .inr (some (0, 14)), .inr (some (0, 15)), .inr (some (0, 16))]))
def wd_29 : vw := wup wd_28 (0, 0) (.inl (7, [.inr (some (0, 6)), .inl 0, .inl 0, .inr (some (0, 2)), .inr none, .inr none, .inr none]))
def wd_30 : vw := wup wd_29 (0, 3) (.inl (4, [.inr none, .inl 0]))
def wd_31 : vw := wup wd_30 (0, 17) (.inr (3, 60, .inr (fun _ => none)))
def wd_32 : vw := wup wd_31 (0, 3) (.inl (4, [.inr (some (0, 17)), .inl 0]))
def wd_33 : vw := wup wd_32 (0, 3) (.inl (4, [.inr (some (0, 17)), .inl 0]))
def wd_34 : vw := wup wd_33 (0, 0) (.inl (7, [.inr (some (0, 6)), .inl 0, .inl 0, .inr (some (0, 2)), .inr (some (0, 3)), .inr none, .inr none]))
def wd_35 : vw := wup wd_34 (0, 4) (.inl (1, [.inl 0, .inl 0, .inr none, .inr none, .inr none, .inr none]))
def wd_36 : vw := wup wd_35 (0, 4) (.inl (1, [.inl 0, .inl 0, .inr none, .inr none, .inr none, .inr none]))
def wd_37 : vw := wup wd_36 (0, 4) (.inl (1, [.inl 0, .inl 0, .inr none, .inr none, .inr none, .inr none]))
def wd_38 : vw := wup wd_37 (0, 18) (.inr (0, 7, .inl (fun _ => 0)))
def wd_39 : vw := wup wd_38 (0, 4) (.inl (1, [.inl 0, .inl 0, .inr (some (0, 18)), .inr none, .inr none, .inr none]))
def wd_40 : vw := wup wd_39 (0, 19) (.inr (0, 7, .inl (fun _ => 0)))
def wd_41 : vw := wup wd_40 (0, 4) (.inl (1, [.inl 0, .inl 0, .inr (some (0, 18)), .inr (some (0, 19)), .inr none, .inr none]))
def wd_42 : vw := wup wd_41 (0, 20) (.inr (0, 896, .inl (fun _ => 0)))
def wd_43 : vw := wup wd_42 (0, 4) (.inl (1, [.inl 0, .inl 0, .inr (some (0, 18)), .inr (some (0, 19)), .inr (some (0, 20)), .inr none]))
def wd_44 : vw := wup wd_43 (0, 21) (.inr (0, 896, .inl (fun _ => 0)))
def wd_45 : vw := wup wd_44 (0, 4) (.inl (1, [.inl 0, .inl 0, .inr (some (0, 18)), .inr (some (0, 19)), .inr (some (0, 20)), .inr (some (0, 21))]))
def wd_46 : vw := wup wd_45 (0, 0) (.inl (7, [.inr (some (0, 6)), .inl 0, .inl 0, .inr (some (0, 2)), .inr (some (0, 3)), .inr (some (0, 4)), .inr none]))
def wd_47 : vw := wup wd_46 (0, 5) (.inl (6, [.inr none, .inl 0]))
def wd_48 : vw := wup wd_47 (0, 22) (.inr (4, 60, .inr (fun _ => none)))
def wd_49 : vw := wup wd_48 (0, 5) (.inl (6, [.inr (some (0, 22)), .inl 0]))
def wd_50 : vw := wup wd_49 (0, 5) (.inl (6, [.inr (some (0, 22)), .inl 0]))
def wd_51 : vw := wup wd_50 (0, 0) (.inl (7, [.inr (some (0, 6)), .inl 0, .inl 0, .inr (some (0, 2)), .inr (some (0, 3)), .inr (some (0, 4)), .inr (some (0, 5))]))
def wd_52 : vw := wup wd_51 (0, 1) (.inl (8, [.inl 0, .inl 0, .inl 0, .inr none, .inr none, .inr none, .inr none, .inr none, .inr none, .inr none, .inr none, .inr none, .inr none, .inr none, .inl 0, .inr none, .inr none, .inr none, .inr none, .inr none, .inl 0, .inl 0, .inr none, .inr none, .inl 0, .inr none, .inr none, .inr none, .inr none, .inr none, .inl 0, .inr none, .inr none, .inl 0, .inr none, .inr none, .inr none]))
def wd_53 : vw := wup wd_52 (0, 23) (.inr (0, 16, .inl (fun _ => 0)))
def wd_54 : vw := wup wd_53 (0, 1) (.inl (8, [.inl 0, .inl 0, .inl 0, .inr (some (0, 23)), .inr none, .inr none, .inr none, .inr none, .inr none, .inr none, .inr none, .inr none, .inr none, .inr none, .inl 0, .inr none, .inr none, .inr none, .inr none, .inr none, .inl 0, .inl 0, .inr none, .inr none, .inl 0, .inr none, .inr none, .inr none, .inr none, .inr none, .inl 0, .inr none, .inr none, .inl 0, .inr none, .inr none, .inr none]))
def wd_55 : vw := wup wd_54 (0, 24) (.inr (0, 16, .inl (fun _ => 0)))
def wd_56 : vw := wup wd_55 (0, 1) (.inl (8, [.inl 0, .inl 0, .inl 0, .inr (some (0, 23)), .inr (some (0, 24)), .inr none, .inr none, .inr none, .inr none, .inr none, .inr none, .inr none, .inr none, .inr none, .inl 0, .inr none, .inr none, .inr none, .inr none, .inr none, .inl 0, .inl 0, .inr none, .inr none, .inl 0, .inr none, .inr none, .inr none, .inr none, .inr none, .inl 0, .inr none, .inr none, .inl 0, .inr none, .inr none, .inr none]))
def wd_57 : vw := wup wd_56 (0, 25) (.inr (0, 16, .inl (fun _ => 0)))
def wd_58 : vw := wup wd_57 (0, 1) (.inl (8, [.inl 0, .inl 0, .inl 0, .inr (some (0, 23)), .inr (some (0, 24)), .inr (some (0, 25)), .inr none, .inr none, .inr none, .inr none, .inr none, .inr none, .inr none, .inr none, .inl 0, .inr none, .inr none, .inr none, .inr none, .inr none, .inl 0, .inl 0, .inr none, .inr none, .inl 0, .inr none, .inr none, .inr none, .inr none, .inr none, .inl 0, .inr none, .inr none, .inl 0, .inr none, .inr none, .inr none]))
def wd_59 : vw := wup wd_58 (0, 26) (.inr (0, 16, .inl (fun _ => 0)))
def wd_60 : vw := wup wd_59 (0, 1) (.inl (8, [.inl 0, .inl 0, .inl 0, .inr (some (0, 23)), .inr (some (0, 24)), .inr (some (0, 25)), .inr (some (0, 26)), .inr none, .inr none, .inr none, .inr none, .inr none, .inr none, .inr none, .inl 0, .inr none, .inr none, .inr none, .inr none, .inr none, .inl 0, .inl 0, .inr none, .inr none, .inl 0, .inr none, .inr none, .inr none, .inr none, .inr none, .inl 0, .inr none, .inr none, .inl 0, .inr none, .inr none, .inr none]))
def wd_61 : vw := wup wd_60 (0, 27) (.inr (0, 16, .inl (fun _ => 0)))
def wd_62 : vw := wup wd_61 (0, 1) (.inl (8, [.inl 0, .inl 0, .inl 0, .inr (some (0, 23)), .inr (some (0, 24)), .inr (some (0, 25)), .inr (some (0, 26)), .inr (some (0, 27)), .inr none, .inr none, .inr none, .inr none, .inr none, .inr none, .inl 0, .inr none, .inr none, .inr none, .inr none, .inr none, .inl 0, .inl 0, .inr none, .inr none, .inl 0, .inr none, .inr none, .inr none, .inr none, .inr none, .inl 0, .inr none, .inr none, .inl 0, .inr none, .inr none, .inr none]))
def wd_63 : vw := wup wd_62 (0, 28) (.inr (0, 16, .inl (fun _ => 0)))
def wd_64 : vw := wup wd_63 (0, 1) (.inl (8, [.inl 0, .inl 0, .inl 0, .inr (some (0, 23)), .inr (some (0, 24)), .inr (some (0, 25)), .inr (some (0, 26)), .inr (some (0, 27)), .inr (some (0, 28)), .inr none, .inr none, .inr none, .inr none, .inr none, .inl 0, .inr none, .inr none, .inr none, .inr none, .inr none, .inl 0, .inl 0, .inr none, .inr none, .inl 0, .inr none, .inr none, .inr none, .inr none, .inr none, .inl 0, .inr none, .inr none, .inl 0, .inr none, .inr none, .inr none]))
def wd_65 : vw := wup wd_64 (0, 29) (.inr (0, 16, .inl (fun _ => 0)))
def wd_66 : vw := wup wd_65 (0, 1) (.inl (8, [.inl 0, .inl 0, .inl 0, .inr (some (0, 23)), .inr (some (0, 24)), .inr (some (0, 25)), .inr (some (0, 26)), .inr (some (0, 27)), .inr (some (0, 28)), .inr (some (0, 29)), .inr none, .inr none, .inr none, .inr none, .inl 0, .inr none, .inr none, .inr none, .inr none, .inr none, .inl 0, .inl 0, .inr none, .inr none, .inl 0, .inr none, .inr none, .inr none, .inr none, .inr none, .inl 0, .inr none, .inr none, .inl 0, .inr none, .inr none, .inr none]))
def wd_67 : vw := wup wd_66 (0, 30) (.inr (0, 16, .inl (fun _ => 0)))
def wd_68 : vw := wup wd_67 (0, 1) (.inl (8, [.inl 0, .inl 0, .inl 0, .inr (some (0, 23)), .inr (some (0, 24)), .inr (some (0, 25)), .inr (some (0, 26)), .inr (some (0, 27)), .inr (some (0, 28)), .inr (some (0, 29)), .inr (some (0, 30)), .inr none, .inr none, .inr none, .inl 0, .inr none, .inr none, .inr none, .inr none, .inr none, .inl 0, .inl 0, .inr none, .inr none, .inl 0, .inr none, .inr none, .inr none, .inr none, .inr none, .inl 0, .inr none, .inr none, .inl 0, .inr none, .inr none, .inr none]))
def wd_69 : vw := wup wd_68 (0, 31) (.inr (0, 16, .inl (fun _ => 0)))
def wd_70 : vw := wup wd_69 (0, 1) (.inl (8, [.inl 0, .inl 0, .inl 0, .inr (some (0, 23)), .inr (some (0, 24)), .inr (some (0, 25)), .inr (some (0, 26)), .inr (some (0, 27)), .inr (some (0, 28)), .inr (some (0, 29)), .inr (some (0, 30)), .inr (some (0, 31)), .inr none, .inr none, .inl 0, .inr none, .inr none, .inr none, .inr none, .inr none, .inl 0, .inl 0, .inr none, .inr none, .inl 0, .inr none, .inr none, .inr none, .inr none, .inr none, .inl 0, .inr none, .inr none, .inl 0, .inr none, .inr none, .inr none]))
def wd_71 : vw := wup wd_70 (0, 32) (.inr (0, 16, .inl (fun _ => 0)))
def wd_72 : vw := wup wd_71 (0, 1) (.inl (8, [.inl 0, .inl 0, .inl 0, .inr (some (0, 23)), .inr (some (0, 24)), .inr (some (0, 25)), .inr (some (0, 26)), .inr (some (0, 27)), .inr (some (0, 28)), .inr (some (0, 29)), .inr (some (0, 30)), .inr (some (0, 31)), .inr (some (0, 32)), .inr none, .inl 0, .inr none, .inr none, .inr none, .inr none, .inr none, .inl 0, .inl 0, .inr none, .inr none, .inl 0, .inr none, .inr none, .inr none, .inr none, .inr none, .inl 0, .inr none, .inr none, .inl 0, .inr none, .inr none, .inr none]))
def wd_73 : vw := wup wd_72 (0, 33) (.inr (0, 16, .inl (fun _ => 0)))
def wd_74 : vw := wup wd_73 (0, 1) (.inl (8, [.inl 0, .inl 0, .inl 0, .inr (some (0, 23)), .inr (some (0, 24)), .inr (some (0, 25)), .inr (some (0, 26)), .inr (some (0, 27)), .inr (some (0, 28)), .inr (some (0, 29)), .inr (some (0, 30)), .inr (some (0, 31)), .inr (some (0, 32)), .inr (some (0, 33)), .inl 0, .inr none, .inr none, .inr none, .inr none, .inr none, .inl 0, .inl 0, .inr none, .inr none, .inl 0, .inr none, .inr none, .inr none, .inr none, .inr none, .inl 0, .inr none, .inr none, .inl 0, .inr none, .inr none, .inr none]))
def wd_75 : vw := wup wd_74 (0, 34) (.inr (0, 60, .inl (fun _ => 0)))
def wd_76 : vw := wup wd_75 (0, 1) (.inl (8, [.inl 0, .inl 0, .inl 0, .inr (some (0, 23)), .inr (some (0, 24)), .inr (some (0, 25)), .inr (some (0, 26)), .inr (some (0, 27)), .inr (some (0, 28)), .inr (some (0, 29)), .inr (some (0, 30)), .inr (some (0, 31)), .inr (some (0, 32)), .inr (some (0, 33)), .inl 0, .inr (some (0, 34)), .inr none, .inr none, .inr none, .inr none, .inl 0, .inl 0, .inr none, .inr none, .inl 0, .inr none, .inr none, .inr none, .inr none, .inr none, .inl 0, .inr none, .inr none, .inl 0, .inr none, .inr none, .inr none]))
def wd_77 : vw := wup wd_76 (0, 35) (.inr (0, 60, .inl (fun _ => 0)))
def wd_78 : vw := wup wd_77 (0, 1) (.inl (8, [.inl 0, .inl 0, .inl 0, .inr (some (0, 23)), .inr (some (0, 24)), .inr (some (0, 25)), .inr (some (0, 26)), .inr (some (0, 27)), .inr (some (0, 28)), .inr (some (0, 29)), .inr (some (0, 30)), .inr (some (0, 31)), .inr (some (0, 32)), .inr (some (0, 33)), .inl 0, .inr (some (0, 34)), .inr (some (0, 35)), .inr none, .inr none, .inr none, .inl 0, .inl 0, .inr none, .inr none, .inl 0, .inr none, .inr none, .inr none, .inr none, .inr none, .inl 0, .inr none, .inr none, .inl 0, .inr none, .inr none, .inr none]))
def wd_79 : vw := wup wd_78 (0, 36) (.inr (0, 60, .inl (fun _ => 0)))
def wd_80 : vw := wup wd_79 (0, 1) (.inl (8, [.inl 0, .inl 0, .inl 0, .inr (some (0, 23)), .inr (some (0, 24)), .inr (some (0, 25)), .inr (some (0, 26)), .inr (some (0, 27)), .inr (some (0, 28)), .inr (some (0, 29)), .inr (some (0, 30)), .inr (some (0, 31)), .inr (some (0, 32)), .inr (some (0, 33)), .inl 0, .inr (some (0, 34)), .inr (some (0, 35)), .inr (some (0, 36)), .inr none, .inr none, .inl 0, .inl 0, .inr none, .inr none, .inl 0, .inr none, .inr none, .inr none, .inr none, .inr none, .inl 0, .inr none, .inr none, .inl 0, .inr none, .inr none, .inr none]))
def wd_81 : vw := wup wd_80 (0, 37) (.inr (0, 60, .inl (fun _ => 0)))
def wd_82 : vw := wup wd_81 (0, 1) (.inl (8, [.inl 0, .inl 0, .inl 0, .inr (some (0, 23)), .inr (some (0, 24)), .inr (some (0, 25)), .inr (some (0, 26)), .inr (some (0, 27)), .inr (some (0, 28)), .inr (some (0, 29)), .inr (some (0, 30)), .inr (some (0, 31)), .inr (some (0, 32)), .inr (some (0, 33)), .inl 0, .inr (some (0, 34)), .inr (some (0, 35)), .inr (some (0, 36)), .inr (some (0, 37)), .inr none, .inl 0, .inl 0, .inr none, .inr none, .inl 0, .inr none, .inr none, .inr none, .inr none, .inr none, .inl 0, .inr none, .inr none, .inl 0, .inr none, .inr none, .inr none]))
def wd_83 : vw := wup wd_82 (0, 38) (.inr (1, 60, .inl (fun _ => 0)))
def wd_84 : vw := wup wd_83 (0, 1) (.inl (8, [.inl 0, .inl 0, .inl 0, .inr (some (0, 23)), .inr (some (0, 24)), .inr (some (0, 25)), .inr (some (0, 26)), .inr (some (0, 27)), .inr (some (0, 28)), .inr (some (0, 29)), .inr (some (0, 30)), .inr (some (0, 31)), .inr (some (0, 32)), .inr (some (0, 33)), .inl 0, .inr (some (0, 34)), .inr (some (0, 35)), .inr (some (0, 36)), .inr (some (0, 37)), .inr (some (0, 38)), .inl 0, .inl 0, .inr none, .inr none, .inl 0, .inr none, .inr none, .inr none, .inr none, .inr none, .inl 0, .inr none, .inr none, .inl 0, .inr none, .inr none, .inr none]))
def wd_85 : vw := wup wd_84 (0, 39) (.inr (0, 7, .inl (fun _ => 0)))
def wd_86 : vw := wup wd_85 (0, 1) (.inl (8, [.inl 0, .inl 0, .inl 0, .inr (some (0, 23)), .inr (some (0, 24)), .inr (some (0, 25)), .inr (some (0, 26)), .inr (some (0, 27)), .inr (some (0, 28)), .inr (some (0, 29)), .inr (some (0, 30)), .inr (some (0, 31)), .inr (some (0, 32)), .inr (some (0, 33)), .inl 0, .inr (some (0, 34)), .inr (some (0, 35)), .inr (some (0, 36)), .inr (some (0, 37)), .inr (some (0, 38)), .inl 0, .inl 0, .inr (some (0, 39)), .inr none, .inl 0, .inr none, .inr none, .inr none, .inr none, .inr none, .inl 0, .inr none, .inr none, .inl 0, .inr none, .inr none, .inr none]))
def wd_87 : vw := wup wd_86 (0, 40) (.inr (0, 7, .inl (fun _ => 0)))
def wd_88 : vw := wup wd_87 (0, 1) (.inl (8, [.inl 0, .inl 0, .inl 0, .inr (some (0, 23)), .inr (some (0, 24)), .inr (some (0, 25)), .inr (some (0, 26)), .inr (some (0, 27)), .inr (some (0, 28)), .inr (some (0, 29)), .inr (some (0, 30)), .inr (some (0, 31)), .inr (some (0, 32)), .inr (some (0, 33)), .inl 0, .inr (some (0, 34)), .inr (some (0, 35)), .inr (some (0, 36)), .inr (some (0, 37)), .inr (some (0, 38)), .inl 0, .inl 0, .inr (some (0, 39)), .inr (some (0, 40)), .inl 0, .inr none, .inr none, .inr none, .inr none, .inr none, .inl 0, .inr none, .inr none, .inl 0, .inr none, .inr none, .inr none]))
def wd_89 : vw := wup wd_88 (0, 41) (.inr (0, 60, .inl (fun _ => 0)))
def wd_90 : vw := wup wd_89 (0, 1) (.inl (8, [.inl 0, .inl 0, .inl 0, .inr (some (0, 23)), .inr (some (0, 24)), .inr (some (0, 25)), .inr (some (0, 26)), .inr (some (0, 27)), .inr (some (0, 28)), .inr (some (0, 29)), .inr (some (0, 30)), .inr (some (0, 31)), .inr (some (0, 32)), .inr (some (0, 33)), .inl 0, .inr (some (0, 34)), .inr (some (0, 35)), .inr (some (0, 36)), .inr (some (0, 37)), .inr (some (0, 38)), .inl 0, .inl 0, .inr (some (0, 39)), .inr (some (0, 40)), .inl 0, .inr (some (0, 41)), .inr none, .inr none, .inr none, .inr none, .inl 0, .inr none, .inr none, .inl 0, .inr none, .inr none, .inr none]))
def wd_91 : vw := wup wd_90 (0, 42) (.inr (0, 60, .inl (fun _ => 0)))
def wd_92 : vw := wup wd_91 (0, 1) (.inl (8, [.inl 0, .inl 0, .inl 0, .inr (some (0, 23)), .inr (some (0, 24)), .inr (some (0, 25)), .inr (some (0, 26)), .inr (some (0, 27)), .inr (some (0, 28)), .inr (some (0, 29)), .inr (some (0, 30)), .inr (some (0, 31)), .inr (some (0, 32)), .inr (some (0, 33)), .inl 0, .inr (some (0, 34)), .inr (some (0, 35)), .inr (some (0, 36)), .inr (some (0, 37)), .inr (some (0, 38)), .inl 0, .inl 0, .inr (some (0, 39)), .inr (some (0, 40)), .inl 0, .inr (some (0, 41)), .inr (some (0, 42)), .inr none, .inr none, .inr none, .inl 0, .inr none, .inr none, .inl 0, .inr none, .inr none, .inr none]))
def wd_93 : vw := wup wd_92 (0, 43) (.inr (0, 60, .inl (fun _ => 0)))
def wd_94 : vw := wup wd_93 (0, 1) (.inl (8, [.inl 0, .inl 0, .inl 0, .inr (some (0, 23)), .inr (some (0, 24)), .inr (some (0, 25)), .inr (some (0, 26)), .inr (some (0, 27)), .inr (some (0, 28)), .inr (some (0, 29)), .inr (some (0, 30)), .inr (some (0, 31)), .inr (some (0, 32)), .inr (some (0, 33)), .inl 0, .inr (some (0, 34)), .inr (some (0, 35)), .inr (some (0, 36)), .inr (some (0, 37)), .inr (some (0, 38)), .inl 0, .inl 0, .inr (some (0, 39)), .inr (some (0, 40)), .inl 0, .inr (some (0, 41)), .inr (some (0, 42)), .inr (some (0, 43)), .inr none, .inr none, .inl 0, .inr none, .inr none, .inl 0, .inr none, .inr none, .inr none]))
def wd_95 : vw := wup wd_94 (0, 44) (.inr (0, 60, .inl (fun _ => 0)))
def wd_96 : vw := wup wd_95 (0, 1) (.inl (8, [.inl 0, .inl 0, .inl 0, .inr (some (0, 23)), .inr (some (0, 24)), .inr (some (0, 25)), .inr (some (0, 26)), .inr (some (0, 27)), .inr (some (0, 28)), .inr (some (0, 29)), .inr (some (0, 30)), .inr (some (0, 31)), .inr (some (0, 32)), .inr (some (0, 33)), .inl 0, .inr (some (0, 34)), .inr (some (0, 35)), .inr (some (0, 36)), .inr (some (0, 37)), .inr (some (0, 38)), .inl 0, .inl 0, .inr (some (0, 39)), .inr (some (0, 40)), .inl 0, .inr (some (0, 41)), .inr (some (0, 42)), .inr (some (0, 43)), .inr (some (0, 44)), .inr none, .inl 0, .inr none, .inr none, .inl 0, .inr none, .inr none, .inr none]))
def wd_97 : vw := wup wd_96 (0, 45) (.inr (1, 60, .inl (fun _ => 0)))
def wd_98 : vw := wup wd_97 (0, 1) (.inl (8, [.inl 0, .inl 0, .inl 0, .inr (some (0, 23)), .inr (some (0, 24)), .inr (some (0, 25)), .inr (some (0, 26)), .inr (some (0, 27)), .inr (some (0, 28)), .inr (some (0, 29)), .inr (some (0, 30)), .inr (some (0, 31)), .inr (some (0, 32)), .inr (some (0, 33)), .inl 0, .inr (some (0, 34)), .inr (some (0, 35)), .inr (some (0, 36)), .inr (some (0, 37)), .inr (some (0, 38)), .inl 0, .inl 0, .inr (some (0, 39)), .inr (some (0, 40)), .inl 0, .inr (some (0, 41)), .inr (some (0, 42)), .inr (some (0, 43)), .inr (some (0, 44)), .inr (some (0, 45)), .inl 0, .inr none, .inr none, .inl 0, .inr none, .inr none, .inr none]))
def wd_99 : vw := wup wd_98 (0, 46) (.inr (0, 6, .inl (fun _ => 0)))
def wd_100 : vw := wup wd_99 (0, 1) (.inl (8, [.inl 0, .inl 0, .inl 0, .inr (some (0, 23)), .inr (some (0, 24)), .inr (some (0, 25)), .inr (some (0, 26)), .inr (some (0, 27)), .inr (some (0, 28)), .inr (some (0, 29)), .inr (some (0, 30)), .inr (some (0, 31)), .inr (some (0, 32)), .inr (some (0, 33)), .inl 0, .inr (some (0, 34)), .inr (some (0, 35)), .inr (some (0, 36)), .inr (some (0, 37)), .inr (some (0, 38)), .inl 0, .inl 0, .inr (some (0, 39)), .inr (some (0, 40)), .inl 0, .inr (some (0, 41)), .inr (some (0, 42)), .inr (some (0, 43)), .inr (some (0, 44)), .inr (some (0, 45)), .inl 0, .inr (some (0, 46)), .inr none, .inl 0, .inr none, .inr none, .inr none]))
def wd_101 : vw := wup wd_100 (0, 47) (.inr (0, 6, .inl (fun _ => 0)))
def wd_102 : vw := wup wd_101 (0, 1) (.inl (8, [.inl 0, .inl 0, .inl 0, .inr (some (0, 23)), .inr (some (0, 24)), .inr (some (0, 25)), .inr (some (0, 26)), .inr (some (0, 27)), .inr (some (0, 28)), .inr (some (0, 29)), .inr (some (0, 30)), .inr (some (0, 31)), .inr (some (0, 32)), .inr (some (0, 33)), .inl 0, .inr (some (0, 34)), .inr (some (0, 35)), .inr (some (0, 36)), .inr (some (0, 37)), .inr (some (0, 38)), .inl 0, .inl 0, .inr (some (0, 39)), .inr (some (0, 40)), .inl 0, .inr (some (0, 41)), .inr (some (0, 42)), .inr (some (0, 43)), .inr (some (0, 44)), .inr (some (0, 45)), .inl 0, .inr (some (0, 46)), .inr (some (0, 47)), .inl 0, .inr none, .inr none, .inr none]))
def wd_103 : vw := wup wd_102 (0, 48) (.inr (0, 3, .inl (fun _ => 0)))
def wd_104 : vw := wup wd_103 (0, 1) (.inl (8, [.inl 0, .inl 0, .inl 0, .inr (some (0, 23)), .inr (some (0, 24)), .inr (some (0, 25)), .inr (some (0, 26)), .inr (some (0, 27)), .inr (some (0, 28)), .inr (some (0, 29)), .inr (some (0, 30)), .inr (some (0, 31)), .inr (some (0, 32)), .inr (some (0, 33)), .inl 0, .inr (some (0, 34)), .inr (some (0, 35)), .inr (some (0, 36)), .inr (some (0, 37)), .inr (some (0, 38)), .inl 0, .inl 0, .inr (some (0, 39)), .inr (some (0, 40)), .inl 0, .inr (some (0, 41)), .inr (some (0, 42)), .inr (some (0, 43)), .inr (some (0, 44)), .inr (some (0, 45)), .inl 0, .inr (some (0, 46)), .inr (some (0, 47)), .inl 0, .inr (some (0, 48)), .inr none, .inr none]))
def wd_105 : vw := wup wd_104 (0, 49) (.inr (0, 896, .inl (fun _ => 0)))
def wd_106 : vw := wup wd_105 (0, 1) (.inl (8, [.inl 0, .inl 0, .inl 0, .inr (some (0, 23)), .inr (some (0, 24)), .inr (some (0, 25)), .inr (some (0, 26)), .inr (some (0, 27)), .inr (some (0, 28)), .inr (some (0, 29)), .inr (some (0, 30)), .inr (some (0, 31)), .inr (some (0, 32)), .inr (some (0, 33)), .inl 0, .inr (some (0, 34)), .inr (some (0, 35)), .inr (some (0, 36)), .inr (some (0, 37)), .inr (some (0, 38)), .inl 0, .inl 0, .inr (some (0, 39)), .inr (some (0, 40)), .inl 0, .inr (some (0, 41)), .inr (some (0, 42)), .inr (some (0, 43)), .inr (some (0, 44)), .inr (some (0, 45)), .inl 0, .inr (some (0, 46)), .inr (some (0, 47)), .inl 0, .inr (some (0, 48)), .inr (some (0, 49)), .inr none]))
def wd_107 : vw := wup wd_106 (0, 50) (.inr (0, 896, .inl (fun _ => 0)))
def wd_108 : vw := wup wd_107 (0, 1) (.inl (8, [.inl 0, .inl 0, .inl 0, .inr (some (0, 23)), .inr (some (0, 24)), .inr (some (0, 25)), .inr (some (0, 26)), .inr (some (0, 27)), .inr (some (0, 28)), .inr (some (0, 29)), .inr (some (0, 30)), .inr (some (0, 31)), .inr (some (0, 32)), .inr (some (0, 33)), .inl 0, .inr (some (0, 34)), .inr (some (0, 35)), .inr (some (0, 36)), .inr (some (0, 37)), .inr (some (0, 38)), .inl 0, .inl 0, .inr (some (0, 39)), .inr (some (0, 40)), .inl 0, .inr (some (0, 41)), .inr (some (0, 42)), .inr (some (0, 43)), .inr (some (0, 44)), .inr (some (0, 45)), .inl 0, .inr (some (0, 46)), .inr (some (0, 47)), .inl 0, .inr (some (0, 48)), .inr (some (0, 49)), .inr (some (0, 50))]))
theorem le_1_6 : dle wd_1 wd_6 := (((((dle.rf wd_1).up).up).up).up).up
theorem le_1_30 : dle wd_1 wd_30 := (((((((((((((((((((((((((((((dle.rf wd_1).up).up).up).up).up).up).up).up).up).up).up).wm).up).up).up).up).up).up).up).up).up).up).up).up).up).up).up).up).up
theorem le_1_35 : dle wd_1 wd_35 := ((((((((((((((((((((((((((((((((((dle.rf wd_1).up).up).up).up).up).up).up).up).up).up).up).wm).up).up).up).up).up).up).up).up).up).up).up).up).up).up).up).up).up).up).up).up).up).up
theorem le_1_47 : dle wd_1 wd_47 := ((((((((((((((((((((((((((((((((((((((((((((((dle.rf wd_1).up).up).up).up).up).up).up).up).up).up).up).wm).up).up).up).up).up).up).up).up).up).up).up).up).up).up).up).up).up).up).up).up).up).up).up).up).up).up).up).up).up).up).up).up).up).up
abbrev mX0_init : vmt := (yX0_init, cX0_init, 1, none, { frames := 1, cells := 16, slots := 441, locals := 20 })
theorem mfX0_init : mfI mX0_init 0 := ⟨im_X0_init, rfl, rfl, ini_X0, co_X0_init, by decide, by decide, by decide +kernel⟩
set_option maxHeartbeats 2000000 in
theorem kX0_init (l : Launch) (G : vg) : Rt l G mX0_init (some wd_6) (fun _ : Unit => (none, wd_28)) [vR (0, 2)] wd_6 (some ()) := Rt.of rfl (Nat.le_of_ble_eq_true rfl) (by
  show V l G mX0_init (some wd_6) _ _ 0 [(0, vR (0, 2))] [] wd_6 0 0
  refine V.aload_n dX0_init_0 0 rfl ?_
  refine V.oinit dX0_init_1 ml_X0_5 (by decide) (Nat.le_of_ble_eq_true rfl) ?_
  refine V.aload_n dX0_init_4 0 rfl ?_
  refine V.iconst (v := 0) dX0_init_5 (by decide) ?_
  refine V.putI 0 0 dX0_init_6 pf_X0_11 rfl (by decide) ?_
  show V l G mX0_init (some wd_6) _ _ 9 [(0, vR (0, 2))] [] wd_7 0 0
  refine V.aload_n dX0_init_9 0 rfl ?_
  refine V.iconst (v := 0) dX0_init_10 (by decide) ?_
  refine V.putI 0 1 dX0_init_11 pf_X0_15 rfl (by decide) ?_
  show V l G mX0_init (some wd_6) _ _ 14 [(0, vR (0, 2))] [] wd_8 0 0
  refine V.aload_n dX0_init_14 0 rfl ?_
  refine V.bipush (v := 6) dX0_init_15 (by decide) ?_
  refine V.nI (0, 7) dX0_init_17 (by decide) rfl (by decide) rfl rfl rfl rfl (by decide) (by decide) ?_
  show V l G mX0_init (some wd_6) _ _ 19 [(0, vR (0, 2))] [vR (0, 7), vR (0, 2)] wd_9 1 6
  refine V.pR 0 2 dX0_init_19 pf_X0_18 rfl ⟨_, _, rfl⟩ rfl (by decide) (fun _ => rfl) (fun _ => rfl) rfl ?_
  show V l G mX0_init (some wd_6) _ _ 22 [(0, vR (0, 2))] [] wd_10 1 6
  refine V.aload_n dX0_init_22 0 rfl ?_
  refine V.bipush (v := 6) dX0_init_23 (by decide) ?_
  refine V.nI (0, 8) dX0_init_25 (by decide) rfl (by decide) rfl rfl rfl rfl (by decide) (by decide) ?_
  show V l G mX0_init (some wd_6) _ _ 27 [(0, vR (0, 2))] [vR (0, 8), vR (0, 2)] wd_11 2 12
  refine V.pR 0 3 dX0_init_27 pf_X0_22 rfl ⟨_, _, rfl⟩ rfl (by decide) (fun _ => rfl) (fun _ => rfl) rfl ?_
  show V l G mX0_init (some wd_6) _ _ 30 [(0, vR (0, 2))] [] wd_12 2 12
  refine V.aload_n dX0_init_30 0 rfl ?_
  refine V.bipush (v := 6) dX0_init_31 (by decide) ?_
  refine V.bipush (v := 6) dX0_init_33 (by decide) ?_
  refine V.nM (0, 9) dX0_init_35 cl_X0_25 (by decide) rfl (fun i hi => by match i, hi with | 0, _ => rfl | 1, _ => rfl | 2, _ => rfl | 3, _ => rfl | 4, _ => rfl | 5, _ => rfl | i + 6, hi => omega) rfl (fun i hi => by match i, hi with | 0, _ => rfl | 1, _ => rfl | 2, _ => rfl | 3, _ => rfl | 4, _ => rfl | 5, _ => rfl | i + 6, hi => omega) rfl rfl (by decide) (by decide) ?_
  show V l G mX0_init (some wd_6) _ _ 39 [(0, vR (0, 2))] [vR (0, 9), vR (0, 2)] wd_13 9 54
  refine V.pR 0 4 dX0_init_39 pf_X0_27 rfl ⟨_, _, rfl⟩ rfl (by decide) (fun _ => rfl) (fun _ => rfl) rfl ?_
  show V l G mX0_init (some wd_6) _ _ 42 [(0, vR (0, 2))] [] wd_14 9 54
  refine V.aload_n dX0_init_42 0 rfl ?_
  refine V.iconst (v := 3) dX0_init_43 (by decide) ?_
  refine V.nI (0, 10) dX0_init_44 (by decide) rfl (by decide) rfl rfl rfl rfl (by decide) (by decide) ?_
  show V l G mX0_init (some wd_6) _ _ 46 [(0, vR (0, 2))] [vR (0, 10), vR (0, 2)] wd_15 10 57
  refine V.pR 0 5 dX0_init_46 pf_X0_30 rfl ⟨_, _, rfl⟩ rfl (by decide) (fun _ => rfl) (fun _ => rfl) rfl ?_
  show V l G mX0_init (some wd_6) _ _ 49 [(0, vR (0, 2))] [] wd_16 10 57
  refine V.aload_n dX0_init_49 0 rfl ?_
  refine V.bipush (v := 64) dX0_init_50 (by decide) ?_
  refine V.nI (0, 11) dX0_init_52 (by decide) rfl (by decide) rfl rfl rfl rfl (by decide) (by decide) ?_
  show V l G mX0_init (some wd_6) _ _ 54 [(0, vR (0, 2))] [vR (0, 11), vR (0, 2)] wd_17 11 121
  refine V.pR 0 6 dX0_init_54 pf_X0_33 rfl ⟨_, _, rfl⟩ rfl (by decide) (fun _ => rfl) (fun _ => rfl) rfl ?_
  show V l G mX0_init (some wd_6) _ _ 57 [(0, vR (0, 2))] [] wd_18 11 121
  refine V.aload_n dX0_init_57 0 rfl ?_
  refine V.bipush (v := 64) dX0_init_58 (by decide) ?_
  refine V.nI (0, 12) dX0_init_60 (by decide) rfl (by decide) rfl rfl rfl rfl (by decide) (by decide) ?_
  show V l G mX0_init (some wd_6) _ _ 62 [(0, vR (0, 2))] [vR (0, 12), vR (0, 2)] wd_19 12 185
  refine V.pR 0 7 dX0_init_62 pf_X0_36 rfl ⟨_, _, rfl⟩ rfl (by decide) (fun _ => rfl) (fun _ => rfl) rfl ?_
  show V l G mX0_init (some wd_6) _ _ 65 [(0, vR (0, 2))] [] wd_20 12 185
  refine V.aload_n dX0_init_65 0 rfl ?_
  refine V.bipush (v := 64) dX0_init_66 (by decide) ?_
  refine V.nI (0, 13) dX0_init_68 (by decide) rfl (by decide) rfl rfl rfl rfl (by decide) (by decide) ?_
  show V l G mX0_init (some wd_6) _ _ 70 [(0, vR (0, 2))] [vR (0, 13), vR (0, 2)] wd_21 13 249
  refine V.pR 0 8 dX0_init_70 pf_X0_39 rfl ⟨_, _, rfl⟩ rfl (by decide) (fun _ => rfl) (fun _ => rfl) rfl ?_
  show V l G mX0_init (some wd_6) _ _ 73 [(0, vR (0, 2))] [] wd_22 13 249
  refine V.aload_n dX0_init_73 0 rfl ?_
  refine V.bipush (v := 64) dX0_init_74 (by decide) ?_
  refine V.nI (0, 14) dX0_init_76 (by decide) rfl (by decide) rfl rfl rfl rfl (by decide) (by decide) ?_
  show V l G mX0_init (some wd_6) _ _ 78 [(0, vR (0, 2))] [vR (0, 14), vR (0, 2)] wd_23 14 313
  refine V.pR 0 9 dX0_init_78 pf_X0_42 rfl ⟨_, _, rfl⟩ rfl (by decide) (fun _ => rfl) (fun _ => rfl) rfl ?_
  show V l G mX0_init (some wd_6) _ _ 81 [(0, vR (0, 2))] [] wd_24 14 313
  refine V.aload_n dX0_init_81 0 rfl ?_
  refine V.bipush (v := 64) dX0_init_82 (by decide) ?_
  refine V.nI (0, 15) dX0_init_84 (by decide) rfl (by decide) rfl rfl rfl rfl (by decide) (by decide) ?_
  show V l G mX0_init (some wd_6) _ _ 86 [(0, vR (0, 2))] [vR (0, 15), vR (0, 2)] wd_25 15 377
  refine V.pR 0 10 dX0_init_86 pf_X0_45 rfl ⟨_, _, rfl⟩ rfl (by decide) (fun _ => rfl) (fun _ => rfl) rfl ?_
  show V l G mX0_init (some wd_6) _ _ 89 [(0, vR (0, 2))] [] wd_26 15 377
  refine V.aload_n dX0_init_89 0 rfl ?_
  refine V.bipush (v := 64) dX0_init_90 (by decide) ?_
  refine V.nI (0, 16) dX0_init_92 (by decide) rfl (by decide) rfl rfl rfl rfl (by decide) (by decide) ?_
  show V l G mX0_init (some wd_6) _ _ 94 [(0, vR (0, 2))] [vR (0, 16), vR (0, 2)] wd_27 16 441
  refine V.pR 0 11 dX0_init_94 pf_X0_48 rfl ⟨_, _, rfl⟩ rfl (by decide) (fun _ => rfl) (fun _ => rfl) rfl ?_
  show V l G mX0_init (some wd_6) _ _ 97 [(0, vR (0, 2))] [] wd_28 16 441
  exact V.vret rfl dX0_init_97 rfl (by decide) (by decide))
abbrev mX4_init : vmt := (yX4_init, cX4_init, 1, none, { frames := 1, cells := 1, slots := 60, locals := 20 })
theorem mfX4_init : mfI mX4_init 0 := ⟨im_X4_init, rfl, rfl, ini_X4, co_X4_init, by decide, by decide, by decide +kernel⟩
set_option maxHeartbeats 2000000 in
theorem kX4_init (l : Launch) (G : vg) : Rt l G mX4_init (some wd_30) (fun _ : Unit => (none, wd_33)) [vR (0, 3)] wd_30 (some ()) := Rt.of rfl (Nat.le_of_ble_eq_true rfl) (by
  show V l G mX4_init (some wd_30) _ _ 0 [(0, vR (0, 3))] [] wd_30 0 0
  refine V.aload_n dX4_init_0 0 rfl ?_
  refine V.oinit dX4_init_1 ml_X4_3 (by decide) (Nat.le_of_ble_eq_true rfl) ?_
  refine V.aload_n dX4_init_4 0 rfl ?_
  refine V.bipush (v := 60) dX4_init_5 (by decide) ?_
  refine V.nQ (0, 17) (t := 3) (C := RX3) dX4_init_7 cl_X4_11 (fun _ h => h.2.1) rfl (by decide) rfl (by decide) rfl rfl rfl rfl (by decide) (by decide) ?_
  show V l G mX4_init (some wd_30) _ _ 10 [(0, vR (0, 3))] [vR (0, 17), vR (0, 3)] wd_31 1 60
  refine V.pR 4 0 dX4_init_10 pf_X4_13 rfl ⟨_, _, rfl⟩ rfl (by decide) (fun _ => rfl) (fun _ => rfl) rfl ?_
  show V l G mX4_init (some wd_30) _ _ 13 [(0, vR (0, 3))] [] wd_32 1 60
  refine V.aload_n dX4_init_13 0 rfl ?_
  refine V.iconst (v := 0) dX4_init_14 (by decide) ?_
  refine V.putI 4 1 dX4_init_15 pf_X4_17 rfl (by decide) ?_
  show V l G mX4_init (some wd_30) _ _ 18 [(0, vR (0, 3))] [] wd_33 1 60
  exact V.vret rfl dX4_init_18 rfl (by decide) (by decide))
abbrev mX1_init : vmt := (yX1_init, cX1_init, 1, none, { frames := 1, cells := 4, slots := 1806, locals := 20 })
theorem mfX1_init : mfI mX1_init 0 := ⟨im_X1_init, rfl, rfl, ini_X1, co_X1_init, by decide, by decide, by decide +kernel⟩
set_option maxHeartbeats 2000000 in
theorem kX1_init (l : Launch) (G : vg) : Rt l G mX1_init (some wd_35) (fun _ : Unit => (none, wd_45)) [vR (0, 4)] wd_35 (some ()) := Rt.of rfl (Nat.le_of_ble_eq_true rfl) (by
  show V l G mX1_init (some wd_35) _ _ 0 [(0, vR (0, 4))] [] wd_35 0 0
  refine V.aload_n dX1_init_0 0 rfl ?_
  refine V.oinit dX1_init_1 ml_X1_5 (by decide) (Nat.le_of_ble_eq_true rfl) ?_
  refine V.aload_n dX1_init_4 0 rfl ?_
  refine V.iconst (v := 0) dX1_init_5 (by decide) ?_
  refine V.putI 1 0 dX1_init_6 pf_X1_11 rfl (by decide) ?_
  show V l G mX1_init (some wd_35) _ _ 9 [(0, vR (0, 4))] [] wd_36 0 0
  refine V.aload_n dX1_init_9 0 rfl ?_
  refine V.iconst (v := 0) dX1_init_10 (by decide) ?_
  refine V.putI 1 1 dX1_init_11 pf_X1_15 rfl (by decide) ?_
  show V l G mX1_init (some wd_35) _ _ 14 [(0, vR (0, 4))] [] wd_37 0 0
  refine V.aload_n dX1_init_14 0 rfl ?_
  refine V.bipush (v := 7) dX1_init_15 (by decide) ?_
  refine V.nI (0, 18) dX1_init_17 (by decide) rfl (by decide) rfl rfl rfl rfl (by decide) (by decide) ?_
  show V l G mX1_init (some wd_35) _ _ 19 [(0, vR (0, 4))] [vR (0, 18), vR (0, 4)] wd_38 1 7
  refine V.pR 1 2 dX1_init_19 pf_X1_18 rfl ⟨_, _, rfl⟩ rfl (by decide) (fun _ => rfl) (fun _ => rfl) rfl ?_
  show V l G mX1_init (some wd_35) _ _ 22 [(0, vR (0, 4))] [] wd_39 1 7
  refine V.aload_n dX1_init_22 0 rfl ?_
  refine V.bipush (v := 7) dX1_init_23 (by decide) ?_
  refine V.nI (0, 19) dX1_init_25 (by decide) rfl (by decide) rfl rfl rfl rfl (by decide) (by decide) ?_
  show V l G mX1_init (some wd_35) _ _ 27 [(0, vR (0, 4))] [vR (0, 19), vR (0, 4)] wd_40 2 14
  refine V.pR 1 3 dX1_init_27 pf_X1_22 rfl ⟨_, _, rfl⟩ rfl (by decide) (fun _ => rfl) (fun _ => rfl) rfl ?_
  show V l G mX1_init (some wd_35) _ _ 30 [(0, vR (0, 4))] [] wd_41 2 14
  refine V.aload_n dX1_init_30 0 rfl ?_
  refine V.sipush (v := 896) dX1_init_31 (by decide) ?_
  refine V.nI (0, 20) dX1_init_34 (by decide) rfl (by decide) rfl rfl rfl rfl (by decide) (by decide) ?_
  show V l G mX1_init (some wd_35) _ _ 36 [(0, vR (0, 4))] [vR (0, 20), vR (0, 4)] wd_42 3 910
  refine V.pR 1 4 dX1_init_36 pf_X1_25 rfl ⟨_, _, rfl⟩ rfl (by decide) (fun _ => rfl) (fun _ => rfl) rfl ?_
  show V l G mX1_init (some wd_35) _ _ 39 [(0, vR (0, 4))] [] wd_43 3 910
  refine V.aload_n dX1_init_39 0 rfl ?_
  refine V.sipush (v := 896) dX1_init_40 (by decide) ?_
  refine V.nI (0, 21) dX1_init_43 (by decide) rfl (by decide) rfl rfl rfl rfl (by decide) (by decide) ?_
  show V l G mX1_init (some wd_35) _ _ 45 [(0, vR (0, 4))] [vR (0, 21), vR (0, 4)] wd_44 4 1806
  refine V.pR 1 5 dX1_init_45 pf_X1_28 rfl ⟨_, _, rfl⟩ rfl (by decide) (fun _ => rfl) (fun _ => rfl) rfl ?_
  show V l G mX1_init (some wd_35) _ _ 48 [(0, vR (0, 4))] [] wd_45 4 1806
  exact V.vret rfl dX1_init_48 rfl (by decide) (by decide))
abbrev mX6_init : vmt := (yX6_init, cX6_init, 1, none, { frames := 1, cells := 1, slots := 60, locals := 20 })
theorem mfX6_init : mfI mX6_init 0 := ⟨im_X6_init, rfl, rfl, ini_X6, co_X6_init, by decide, by decide, by decide +kernel⟩
set_option maxHeartbeats 2000000 in
theorem kX6_init (l : Launch) (G : vg) : Rt l G mX6_init (some wd_47) (fun _ : Unit => (none, wd_50)) [vR (0, 5)] wd_47 (some ()) := Rt.of rfl (Nat.le_of_ble_eq_true rfl) (by
  show V l G mX6_init (some wd_47) _ _ 0 [(0, vR (0, 5))] [] wd_47 0 0
  refine V.aload_n dX6_init_0 0 rfl ?_
  refine V.oinit dX6_init_1 ml_X6_3 (by decide) (Nat.le_of_ble_eq_true rfl) ?_
  refine V.aload_n dX6_init_4 0 rfl ?_
  refine V.bipush (v := 60) dX6_init_5 (by decide) ?_
  refine V.nQ (0, 22) (t := 4) (C := RX5) dX6_init_7 cl_X6_11 (fun _ h => h.2.2.1) rfl (by decide) rfl (by decide) rfl rfl rfl rfl (by decide) (by decide) ?_
  show V l G mX6_init (some wd_47) _ _ 10 [(0, vR (0, 5))] [vR (0, 22), vR (0, 5)] wd_48 1 60
  refine V.pR 6 0 dX6_init_10 pf_X6_13 rfl ⟨_, _, rfl⟩ rfl (by decide) (fun _ => rfl) (fun _ => rfl) rfl ?_
  show V l G mX6_init (some wd_47) _ _ 13 [(0, vR (0, 5))] [] wd_49 1 60
  refine V.aload_n dX6_init_13 0 rfl ?_
  refine V.iconst (v := 0) dX6_init_14 (by decide) ?_
  refine V.putI 6 1 dX6_init_15 pf_X6_17 rfl (by decide) ?_
  show V l G mX6_init (some wd_47) _ _ 18 [(0, vR (0, 5))] [] wd_50 1 60
  exact V.vret rfl dX6_init_18 rfl (by decide) (by decide))
abbrev mX7_init : vmt := (yX7_init, cX7_init, 1, none, { frames := 2, cells := 27, slots := 2405, locals := 40 })
theorem mfX7_init : mfI mX7_init 0 := ⟨im_X7_init, rfl, rfl, ini_X7, co_X7_init, by decide, by decide, by decide +kernel⟩
set_option maxHeartbeats 2000000 in
theorem kX7_init (l : Launch) (G : vg) : Rt l G mX7_init (some wd_1) (fun _ : Unit => (none, wd_51)) [vR (0, 0)] wd_1 (some ()) := Rt.of rfl (Nat.le_of_ble_eq_true rfl) (by
  show V l G mX7_init (some wd_1) _ _ 0 [(0, vR (0, 0))] [] wd_1 0 0
  refine V.aload_n dX7_init_0 0 rfl ?_
  refine V.oinit dX7_init_1 ml_X7_1 (by decide) (Nat.le_of_ble_eq_true rfl) ?_
  refine V.aload_n dX7_init_4 0 rfl ?_
  refine V.bipush (v := 16) dX7_init_5 (by decide) ?_
  refine V.nQ (0, 6) (t := 2) (C := RX2) dX7_init_7 cl_X7_9 (fun _ h => h.1) rfl (by decide) rfl (by decide) rfl rfl rfl rfl (by decide) (by decide) ?_
  show V l G mX7_init (some wd_1) _ _ 10 [(0, vR (0, 0))] [vR (0, 6), vR (0, 0)] wd_2 1 16
  refine V.pR 7 0 dX7_init_10 pf_X7_11 rfl ⟨_, _, rfl⟩ rfl (by decide) (fun _ => rfl) (fun _ => rfl) rfl ?_
  show V l G mX7_init (some wd_1) _ _ 13 [(0, vR (0, 0))] [] wd_3 1 16
  refine V.aload_n dX7_init_13 0 rfl ?_
  refine V.iconst (v := 0) dX7_init_14 (by decide) ?_
  refine V.putI 7 1 dX7_init_15 pf_X7_15 rfl (by decide) ?_
  show V l G mX7_init (some wd_1) _ _ 18 [(0, vR (0, 0))] [] wd_4 1 16
  refine V.aload_n dX7_init_18 0 rfl ?_
  refine V.iconst (v := 0) dX7_init_19 (by decide) ?_
  refine V.putI 7 2 dX7_init_20 pf_X7_19 rfl (by decide) ?_
  show V l G mX7_init (some wd_1) _ _ 23 [(0, vR (0, 0))] [] wd_5 1 16
  refine V.aload_n dX7_init_23 0 rfl ?_
  refine V.nO (0, 2) (ci := 0) tyX0 [.inl 0, .inl 0, .inr none, .inr none, .inr none, .inr none, .inr none, .inr none, .inr none, .inr none, .inr none, .inr none] dX7_init_24 cl_X7_22 ins_X0 ini_X0 rfl inX0 tyX0_ok (fun j hj al => by match j, hj with | 0, _ => rfl | 1, _ => rfl | 2, _ => rfl | 3, _ => rfl | 4, _ => rfl | 5, _ => rfl | 6, _ => rfl | 7, _ => rfl | 8, _ => rfl | 9, _ => rfl | 10, _ => rfl | 11, _ => rfl | j + 12, hj => omega) rfl rfl rfl rfl rfl (by decide) (by decide) ?_
  show V l G mX7_init (some wd_1) _ _ 27 [(0, vR (0, 0))] [vR (0, 2), vR (0, 0)] wd_6 2 28
  refine V.dup dX7_init_27 rfl ?_
  refine V.cIa (M' := mX0_init) (wf := wd_28) dX7_init_28 ml_X7_24 mfX0_init ⟨by decide, by decide⟩ ⟨by decide, by decide⟩ (Nat.le_of_ble_eq_true rfl) rfl rfl le_1_6 (kX0_init l G) ?_
  show V l G mX7_init (some wd_1) _ _ 31 [(0, vR (0, 0))] [vR (0, 2), vR (0, 0)] wd_28 18 469
  refine V.pR 7 3 dX7_init_31 pf_X7_25 rfl ⟨_, _, rfl⟩ rfl (by decide) (fun _ => rfl) (fun _ => rfl) rfl ?_
  show V l G mX7_init (some wd_1) _ _ 34 [(0, vR (0, 0))] [] wd_29 18 469
  refine V.aload_n dX7_init_34 0 rfl ?_
  refine V.nO (0, 3) (ci := 4) tyX4 [.inr none, .inl 0] dX7_init_35 cl_X7_29 ins_X4 ini_X4 rfl inX4 tyX4_ok (fun j hj al => by match j, hj with | 0, _ => rfl | 1, _ => rfl | j + 2, hj => omega) rfl rfl rfl rfl rfl (by decide) (by decide) ?_
  show V l G mX7_init (some wd_1) _ _ 38 [(0, vR (0, 0))] [vR (0, 3), vR (0, 0)] wd_30 19 471
  refine V.dup dX7_init_38 rfl ?_
  refine V.cIa (M' := mX4_init) (wf := wd_33) dX7_init_39 ml_X7_31 mfX4_init ⟨by decide, by decide⟩ ⟨by decide, by decide⟩ (Nat.le_of_ble_eq_true rfl) rfl rfl le_1_30 (kX4_init l G) ?_
  show V l G mX7_init (some wd_1) _ _ 42 [(0, vR (0, 0))] [vR (0, 3), vR (0, 0)] wd_33 20 531
  refine V.pR 7 4 dX7_init_42 pf_X7_32 rfl ⟨_, _, rfl⟩ rfl (by decide) (fun _ => rfl) (fun _ => rfl) rfl ?_
  show V l G mX7_init (some wd_1) _ _ 45 [(0, vR (0, 0))] [] wd_34 20 531
  refine V.aload_n dX7_init_45 0 rfl ?_
  refine V.nO (0, 4) (ci := 1) tyX1 [.inl 0, .inl 0, .inr none, .inr none, .inr none, .inr none] dX7_init_46 cl_X7_36 ins_X1 ini_X1 rfl inX1 tyX1_ok (fun j hj al => by match j, hj with | 0, _ => rfl | 1, _ => rfl | 2, _ => rfl | 3, _ => rfl | 4, _ => rfl | 5, _ => rfl | j + 6, hj => omega) rfl rfl rfl rfl rfl (by decide) (by decide) ?_
  show V l G mX7_init (some wd_1) _ _ 49 [(0, vR (0, 0))] [vR (0, 4), vR (0, 0)] wd_35 21 537
  refine V.dup dX7_init_49 rfl ?_
  refine V.cIa (M' := mX1_init) (wf := wd_45) dX7_init_50 ml_X7_38 mfX1_init ⟨by decide, by decide⟩ ⟨by decide, by decide⟩ (Nat.le_of_ble_eq_true rfl) rfl rfl le_1_35 (kX1_init l G) ?_
  show V l G mX7_init (some wd_1) _ _ 53 [(0, vR (0, 0))] [vR (0, 4), vR (0, 0)] wd_45 25 2343
  refine V.pR 7 5 dX7_init_53 pf_X7_39 rfl ⟨_, _, rfl⟩ rfl (by decide) (fun _ => rfl) (fun _ => rfl) rfl ?_
  show V l G mX7_init (some wd_1) _ _ 56 [(0, vR (0, 0))] [] wd_46 25 2343
  refine V.aload_n dX7_init_56 0 rfl ?_
  refine V.nO (0, 5) (ci := 6) tyX6 [.inr none, .inl 0] dX7_init_57 cl_X7_43 ins_X6 ini_X6 rfl inX6 tyX6_ok (fun j hj al => by match j, hj with | 0, _ => rfl | 1, _ => rfl | j + 2, hj => omega) rfl rfl rfl rfl rfl (by decide) (by decide) ?_
  show V l G mX7_init (some wd_1) _ _ 60 [(0, vR (0, 0))] [vR (0, 5), vR (0, 0)] wd_47 26 2345
  refine V.dup dX7_init_60 rfl ?_
  refine V.cIa (M' := mX6_init) (wf := wd_50) dX7_init_61 ml_X7_45 mfX6_init ⟨by decide, by decide⟩ ⟨by decide, by decide⟩ (Nat.le_of_ble_eq_true rfl) rfl rfl le_1_47 (kX6_init l G) ?_
  show V l G mX7_init (some wd_1) _ _ 64 [(0, vR (0, 0))] [vR (0, 5), vR (0, 0)] wd_50 27 2405
  refine V.pR 7 6 dX7_init_64 pf_X7_46 rfl ⟨_, _, rfl⟩ rfl (by decide) (fun _ => rfl) (fun _ => rfl) rfl ?_
  show V l G mX7_init (some wd_1) _ _ 67 [(0, vR (0, 0))] [] wd_51 27 2405
  exact V.vret rfl dX7_init_67 rfl (by decide) (by decide))
abbrev mX8_init : vmt := (yX8_init, cX8_init, 1, none, { frames := 1, cells := 28, slots := 2597, locals := 20 })
theorem mfX8_init : mfI mX8_init 0 := ⟨im_X8_init, rfl, rfl, ini_X8, co_X8_init, by decide, by decide, by decide +kernel⟩
set_option maxHeartbeats 2000000 in
theorem kX8_init (l : Launch) (G : vg) : Rt l G mX8_init (some wd_52) (fun _ : Unit => (none, wd_108)) [vR (0, 1)] wd_52 (some ()) := Rt.of rfl (Nat.le_of_ble_eq_true rfl) (by
  show V l G mX8_init (some wd_52) _ _ 0 [(0, vR (0, 1))] [] wd_52 0 0
  refine V.aload_n dX8_init_0 0 rfl ?_
  refine V.oinit dX8_init_1 ml_X8_1 (by decide) (Nat.le_of_ble_eq_true rfl) ?_
  refine V.aload_n dX8_init_4 0 rfl ?_
  refine V.bipush (v := 16) dX8_init_5 (by decide) ?_
  refine V.nI (0, 23) dX8_init_7 (by decide) rfl (by decide) rfl rfl rfl rfl (by decide) (by decide) ?_
  show V l G mX8_init (some wd_52) _ _ 9 [(0, vR (0, 1))] [vR (0, 23), vR (0, 1)] wd_53 1 16
  refine V.pR 8 3 dX8_init_9 pf_X8_7 rfl ⟨_, _, rfl⟩ rfl (by decide) (fun _ => rfl) (fun _ => rfl) rfl ?_
  show V l G mX8_init (some wd_52) _ _ 12 [(0, vR (0, 1))] [] wd_54 1 16
  refine V.aload_n dX8_init_12 0 rfl ?_
  refine V.bipush (v := 16) dX8_init_13 (by decide) ?_
  refine V.nI (0, 24) dX8_init_15 (by decide) rfl (by decide) rfl rfl rfl rfl (by decide) (by decide) ?_
  show V l G mX8_init (some wd_52) _ _ 17 [(0, vR (0, 1))] [vR (0, 24), vR (0, 1)] wd_55 2 32
  refine V.pR 8 4 dX8_init_17 pf_X8_13 rfl ⟨_, _, rfl⟩ rfl (by decide) (fun _ => rfl) (fun _ => rfl) rfl ?_
  show V l G mX8_init (some wd_52) _ _ 20 [(0, vR (0, 1))] [] wd_56 2 32
  refine V.aload_n dX8_init_20 0 rfl ?_
  refine V.bipush (v := 16) dX8_init_21 (by decide) ?_
  refine V.nI (0, 25) dX8_init_23 (by decide) rfl (by decide) rfl rfl rfl rfl (by decide) (by decide) ?_
  show V l G mX8_init (some wd_52) _ _ 25 [(0, vR (0, 1))] [vR (0, 25), vR (0, 1)] wd_57 3 48
  refine V.pR 8 5 dX8_init_25 pf_X8_16 rfl ⟨_, _, rfl⟩ rfl (by decide) (fun _ => rfl) (fun _ => rfl) rfl ?_
  show V l G mX8_init (some wd_52) _ _ 28 [(0, vR (0, 1))] [] wd_58 3 48
  refine V.aload_n dX8_init_28 0 rfl ?_
  refine V.bipush (v := 16) dX8_init_29 (by decide) ?_
  refine V.nI (0, 26) dX8_init_31 (by decide) rfl (by decide) rfl rfl rfl rfl (by decide) (by decide) ?_
  show V l G mX8_init (some wd_52) _ _ 33 [(0, vR (0, 1))] [vR (0, 26), vR (0, 1)] wd_59 4 64
  refine V.pR 8 6 dX8_init_33 pf_X8_19 rfl ⟨_, _, rfl⟩ rfl (by decide) (fun _ => rfl) (fun _ => rfl) rfl ?_
  show V l G mX8_init (some wd_52) _ _ 36 [(0, vR (0, 1))] [] wd_60 4 64
  refine V.aload_n dX8_init_36 0 rfl ?_
  refine V.bipush (v := 16) dX8_init_37 (by decide) ?_
  refine V.nI (0, 27) dX8_init_39 (by decide) rfl (by decide) rfl rfl rfl rfl (by decide) (by decide) ?_
  show V l G mX8_init (some wd_52) _ _ 41 [(0, vR (0, 1))] [vR (0, 27), vR (0, 1)] wd_61 5 80
  refine V.pR 8 7 dX8_init_41 pf_X8_22 rfl ⟨_, _, rfl⟩ rfl (by decide) (fun _ => rfl) (fun _ => rfl) rfl ?_
  show V l G mX8_init (some wd_52) _ _ 44 [(0, vR (0, 1))] [] wd_62 5 80
  refine V.aload_n dX8_init_44 0 rfl ?_
  refine V.bipush (v := 16) dX8_init_45 (by decide) ?_
  refine V.nI (0, 28) dX8_init_47 (by decide) rfl (by decide) rfl rfl rfl rfl (by decide) (by decide) ?_
  show V l G mX8_init (some wd_52) _ _ 49 [(0, vR (0, 1))] [vR (0, 28), vR (0, 1)] wd_63 6 96
  refine V.pR 8 8 dX8_init_49 pf_X8_25 rfl ⟨_, _, rfl⟩ rfl (by decide) (fun _ => rfl) (fun _ => rfl) rfl ?_
  show V l G mX8_init (some wd_52) _ _ 52 [(0, vR (0, 1))] [] wd_64 6 96
  refine V.aload_n dX8_init_52 0 rfl ?_
  refine V.bipush (v := 16) dX8_init_53 (by decide) ?_
  refine V.nI (0, 29) dX8_init_55 (by decide) rfl (by decide) rfl rfl rfl rfl (by decide) (by decide) ?_
  show V l G mX8_init (some wd_52) _ _ 57 [(0, vR (0, 1))] [vR (0, 29), vR (0, 1)] wd_65 7 112
  refine V.pR 8 9 dX8_init_57 pf_X8_28 rfl ⟨_, _, rfl⟩ rfl (by decide) (fun _ => rfl) (fun _ => rfl) rfl ?_
  show V l G mX8_init (some wd_52) _ _ 60 [(0, vR (0, 1))] [] wd_66 7 112
  refine V.aload_n dX8_init_60 0 rfl ?_
  refine V.bipush (v := 16) dX8_init_61 (by decide) ?_
  refine V.nI (0, 30) dX8_init_63 (by decide) rfl (by decide) rfl rfl rfl rfl (by decide) (by decide) ?_
  show V l G mX8_init (some wd_52) _ _ 65 [(0, vR (0, 1))] [vR (0, 30), vR (0, 1)] wd_67 8 128
  refine V.pR 8 10 dX8_init_65 pf_X8_31 rfl ⟨_, _, rfl⟩ rfl (by decide) (fun _ => rfl) (fun _ => rfl) rfl ?_
  show V l G mX8_init (some wd_52) _ _ 68 [(0, vR (0, 1))] [] wd_68 8 128
  refine V.aload_n dX8_init_68 0 rfl ?_
  refine V.bipush (v := 16) dX8_init_69 (by decide) ?_
  refine V.nI (0, 31) dX8_init_71 (by decide) rfl (by decide) rfl rfl rfl rfl (by decide) (by decide) ?_
  show V l G mX8_init (some wd_52) _ _ 73 [(0, vR (0, 1))] [vR (0, 31), vR (0, 1)] wd_69 9 144
  refine V.pR 8 11 dX8_init_73 pf_X8_34 rfl ⟨_, _, rfl⟩ rfl (by decide) (fun _ => rfl) (fun _ => rfl) rfl ?_
  show V l G mX8_init (some wd_52) _ _ 76 [(0, vR (0, 1))] [] wd_70 9 144
  refine V.aload_n dX8_init_76 0 rfl ?_
  refine V.bipush (v := 16) dX8_init_77 (by decide) ?_
  refine V.nI (0, 32) dX8_init_79 (by decide) rfl (by decide) rfl rfl rfl rfl (by decide) (by decide) ?_
  show V l G mX8_init (some wd_52) _ _ 81 [(0, vR (0, 1))] [vR (0, 32), vR (0, 1)] wd_71 10 160
  refine V.pR 8 12 dX8_init_81 pf_X8_37 rfl ⟨_, _, rfl⟩ rfl (by decide) (fun _ => rfl) (fun _ => rfl) rfl ?_
  show V l G mX8_init (some wd_52) _ _ 84 [(0, vR (0, 1))] [] wd_72 10 160
  refine V.aload_n dX8_init_84 0 rfl ?_
  refine V.bipush (v := 16) dX8_init_85 (by decide) ?_
  refine V.nI (0, 33) dX8_init_87 (by decide) rfl (by decide) rfl rfl rfl rfl (by decide) (by decide) ?_
  show V l G mX8_init (some wd_52) _ _ 89 [(0, vR (0, 1))] [vR (0, 33), vR (0, 1)] wd_73 11 176
  refine V.pR 8 13 dX8_init_89 pf_X8_40 rfl ⟨_, _, rfl⟩ rfl (by decide) (fun _ => rfl) (fun _ => rfl) rfl ?_
  show V l G mX8_init (some wd_52) _ _ 92 [(0, vR (0, 1))] [] wd_74 11 176
  refine V.aload_n dX8_init_92 0 rfl ?_
  refine V.bipush (v := 60) dX8_init_93 (by decide) ?_
  refine V.nI (0, 34) dX8_init_95 (by decide) rfl (by decide) rfl rfl rfl rfl (by decide) (by decide) ?_
  show V l G mX8_init (some wd_52) _ _ 97 [(0, vR (0, 1))] [vR (0, 34), vR (0, 1)] wd_75 12 236
  refine V.pR 8 15 dX8_init_97 pf_X8_43 rfl ⟨_, _, rfl⟩ rfl (by decide) (fun _ => rfl) (fun _ => rfl) rfl ?_
  show V l G mX8_init (some wd_52) _ _ 100 [(0, vR (0, 1))] [] wd_76 12 236
  refine V.aload_n dX8_init_100 0 rfl ?_
  refine V.bipush (v := 60) dX8_init_101 (by decide) ?_
  refine V.nI (0, 35) dX8_init_103 (by decide) rfl (by decide) rfl rfl rfl rfl (by decide) (by decide) ?_
  show V l G mX8_init (some wd_52) _ _ 105 [(0, vR (0, 1))] [vR (0, 35), vR (0, 1)] wd_77 13 296
  refine V.pR 8 16 dX8_init_105 pf_X8_46 rfl ⟨_, _, rfl⟩ rfl (by decide) (fun _ => rfl) (fun _ => rfl) rfl ?_
  show V l G mX8_init (some wd_52) _ _ 108 [(0, vR (0, 1))] [] wd_78 13 296
  refine V.aload_n dX8_init_108 0 rfl ?_
  refine V.bipush (v := 60) dX8_init_109 (by decide) ?_
  refine V.nI (0, 36) dX8_init_111 (by decide) rfl (by decide) rfl rfl rfl rfl (by decide) (by decide) ?_
  show V l G mX8_init (some wd_52) _ _ 113 [(0, vR (0, 1))] [vR (0, 36), vR (0, 1)] wd_79 14 356
  refine V.pR 8 17 dX8_init_113 pf_X8_49 rfl ⟨_, _, rfl⟩ rfl (by decide) (fun _ => rfl) (fun _ => rfl) rfl ?_
  show V l G mX8_init (some wd_52) _ _ 116 [(0, vR (0, 1))] [] wd_80 14 356
  refine V.aload_n dX8_init_116 0 rfl ?_
  refine V.bipush (v := 60) dX8_init_117 (by decide) ?_
  refine V.nI (0, 37) dX8_init_119 (by decide) rfl (by decide) rfl rfl rfl rfl (by decide) (by decide) ?_
  show V l G mX8_init (some wd_52) _ _ 121 [(0, vR (0, 1))] [vR (0, 37), vR (0, 1)] wd_81 15 416
  refine V.pR 8 18 dX8_init_121 pf_X8_52 rfl ⟨_, _, rfl⟩ rfl (by decide) (fun _ => rfl) (fun _ => rfl) rfl ?_
  show V l G mX8_init (some wd_52) _ _ 124 [(0, vR (0, 1))] [] wd_82 15 416
  refine V.aload_n dX8_init_124 0 rfl ?_
  refine V.bipush (v := 60) dX8_init_125 (by decide) ?_
  refine V.nZ (0, 38) dX8_init_127 (by decide) rfl (by decide) rfl rfl rfl rfl (by decide) (by decide) ?_
  show V l G mX8_init (some wd_52) _ _ 129 [(0, vR (0, 1))] [vR (0, 38), vR (0, 1)] wd_83 16 476
  refine V.pR 8 19 dX8_init_129 pf_X8_55 rfl ⟨_, _, rfl⟩ rfl (by decide) (fun _ => rfl) (fun _ => rfl) rfl ?_
  show V l G mX8_init (some wd_52) _ _ 132 [(0, vR (0, 1))] [] wd_84 16 476
  refine V.aload_n dX8_init_132 0 rfl ?_
  refine V.bipush (v := 7) dX8_init_133 (by decide) ?_
  refine V.nI (0, 39) dX8_init_135 (by decide) rfl (by decide) rfl rfl rfl rfl (by decide) (by decide) ?_
  show V l G mX8_init (some wd_52) _ _ 137 [(0, vR (0, 1))] [vR (0, 39), vR (0, 1)] wd_85 17 483
  refine V.pR 8 22 dX8_init_137 pf_X8_59 rfl ⟨_, _, rfl⟩ rfl (by decide) (fun _ => rfl) (fun _ => rfl) rfl ?_
  show V l G mX8_init (some wd_52) _ _ 140 [(0, vR (0, 1))] [] wd_86 17 483
  refine V.aload_n dX8_init_140 0 rfl ?_
  refine V.bipush (v := 7) dX8_init_141 (by decide) ?_
  refine V.nI (0, 40) dX8_init_143 (by decide) rfl (by decide) rfl rfl rfl rfl (by decide) (by decide) ?_
  show V l G mX8_init (some wd_52) _ _ 145 [(0, vR (0, 1))] [vR (0, 40), vR (0, 1)] wd_87 18 490
  refine V.pR 8 23 dX8_init_145 pf_X8_62 rfl ⟨_, _, rfl⟩ rfl (by decide) (fun _ => rfl) (fun _ => rfl) rfl ?_
  show V l G mX8_init (some wd_52) _ _ 148 [(0, vR (0, 1))] [] wd_88 18 490
  refine V.aload_n dX8_init_148 0 rfl ?_
  refine V.bipush (v := 60) dX8_init_149 (by decide) ?_
  refine V.nI (0, 41) dX8_init_151 (by decide) rfl (by decide) rfl rfl rfl rfl (by decide) (by decide) ?_
  show V l G mX8_init (some wd_52) _ _ 153 [(0, vR (0, 1))] [vR (0, 41), vR (0, 1)] wd_89 19 550
  refine V.pR 8 25 dX8_init_153 pf_X8_65 rfl ⟨_, _, rfl⟩ rfl (by decide) (fun _ => rfl) (fun _ => rfl) rfl ?_
  show V l G mX8_init (some wd_52) _ _ 156 [(0, vR (0, 1))] [] wd_90 19 550
  refine V.aload_n dX8_init_156 0 rfl ?_
  refine V.bipush (v := 60) dX8_init_157 (by decide) ?_
  refine V.nI (0, 42) dX8_init_159 (by decide) rfl (by decide) rfl rfl rfl rfl (by decide) (by decide) ?_
  show V l G mX8_init (some wd_52) _ _ 161 [(0, vR (0, 1))] [vR (0, 42), vR (0, 1)] wd_91 20 610
  refine V.pR 8 26 dX8_init_161 pf_X8_68 rfl ⟨_, _, rfl⟩ rfl (by decide) (fun _ => rfl) (fun _ => rfl) rfl ?_
  show V l G mX8_init (some wd_52) _ _ 164 [(0, vR (0, 1))] [] wd_92 20 610
  refine V.aload_n dX8_init_164 0 rfl ?_
  refine V.bipush (v := 60) dX8_init_165 (by decide) ?_
  refine V.nI (0, 43) dX8_init_167 (by decide) rfl (by decide) rfl rfl rfl rfl (by decide) (by decide) ?_
  show V l G mX8_init (some wd_52) _ _ 169 [(0, vR (0, 1))] [vR (0, 43), vR (0, 1)] wd_93 21 670
  refine V.pR 8 27 dX8_init_169 pf_X8_71 rfl ⟨_, _, rfl⟩ rfl (by decide) (fun _ => rfl) (fun _ => rfl) rfl ?_
  show V l G mX8_init (some wd_52) _ _ 172 [(0, vR (0, 1))] [] wd_94 21 670
  refine V.aload_n dX8_init_172 0 rfl ?_
  refine V.bipush (v := 60) dX8_init_173 (by decide) ?_
  refine V.nI (0, 44) dX8_init_175 (by decide) rfl (by decide) rfl rfl rfl rfl (by decide) (by decide) ?_
  show V l G mX8_init (some wd_52) _ _ 177 [(0, vR (0, 1))] [vR (0, 44), vR (0, 1)] wd_95 22 730
  refine V.pR 8 28 dX8_init_177 pf_X8_74 rfl ⟨_, _, rfl⟩ rfl (by decide) (fun _ => rfl) (fun _ => rfl) rfl ?_
  show V l G mX8_init (some wd_52) _ _ 180 [(0, vR (0, 1))] [] wd_96 22 730
  refine V.aload_n dX8_init_180 0 rfl ?_
  refine V.bipush (v := 60) dX8_init_181 (by decide) ?_
  refine V.nZ (0, 45) dX8_init_183 (by decide) rfl (by decide) rfl rfl rfl rfl (by decide) (by decide) ?_
  show V l G mX8_init (some wd_52) _ _ 185 [(0, vR (0, 1))] [vR (0, 45), vR (0, 1)] wd_97 23 790
  refine V.pR 8 29 dX8_init_185 pf_X8_77 rfl ⟨_, _, rfl⟩ rfl (by decide) (fun _ => rfl) (fun _ => rfl) rfl ?_
  show V l G mX8_init (some wd_52) _ _ 188 [(0, vR (0, 1))] [] wd_98 23 790
  refine V.aload_n dX8_init_188 0 rfl ?_
  refine V.bipush (v := 6) dX8_init_189 (by decide) ?_
  refine V.nI (0, 46) dX8_init_191 (by decide) rfl (by decide) rfl rfl rfl rfl (by decide) (by decide) ?_
  show V l G mX8_init (some wd_52) _ _ 193 [(0, vR (0, 1))] [vR (0, 46), vR (0, 1)] wd_99 24 796
  refine V.pR 8 31 dX8_init_193 pf_X8_80 rfl ⟨_, _, rfl⟩ rfl (by decide) (fun _ => rfl) (fun _ => rfl) rfl ?_
  show V l G mX8_init (some wd_52) _ _ 196 [(0, vR (0, 1))] [] wd_100 24 796
  refine V.aload_n dX8_init_196 0 rfl ?_
  refine V.bipush (v := 6) dX8_init_197 (by decide) ?_
  refine V.nI (0, 47) dX8_init_199 (by decide) rfl (by decide) rfl rfl rfl rfl (by decide) (by decide) ?_
  show V l G mX8_init (some wd_52) _ _ 201 [(0, vR (0, 1))] [vR (0, 47), vR (0, 1)] wd_101 25 802
  refine V.pR 8 32 dX8_init_201 pf_X8_83 rfl ⟨_, _, rfl⟩ rfl (by decide) (fun _ => rfl) (fun _ => rfl) rfl ?_
  show V l G mX8_init (some wd_52) _ _ 204 [(0, vR (0, 1))] [] wd_102 25 802
  refine V.aload_n dX8_init_204 0 rfl ?_
  refine V.iconst (v := 3) dX8_init_205 (by decide) ?_
  refine V.nI (0, 48) dX8_init_206 (by decide) rfl (by decide) rfl rfl rfl rfl (by decide) (by decide) ?_
  show V l G mX8_init (some wd_52) _ _ 208 [(0, vR (0, 1))] [vR (0, 48), vR (0, 1)] wd_103 26 805
  refine V.pR 8 34 dX8_init_208 pf_X8_86 rfl ⟨_, _, rfl⟩ rfl (by decide) (fun _ => rfl) (fun _ => rfl) rfl ?_
  show V l G mX8_init (some wd_52) _ _ 211 [(0, vR (0, 1))] [] wd_104 26 805
  refine V.aload_n dX8_init_211 0 rfl ?_
  refine V.sipush (v := 896) dX8_init_212 (by decide) ?_
  refine V.nI (0, 49) dX8_init_215 (by decide) rfl (by decide) rfl rfl rfl rfl (by decide) (by decide) ?_
  show V l G mX8_init (some wd_52) _ _ 217 [(0, vR (0, 1))] [vR (0, 49), vR (0, 1)] wd_105 27 1701
  refine V.pR 8 35 dX8_init_217 pf_X8_89 rfl ⟨_, _, rfl⟩ rfl (by decide) (fun _ => rfl) (fun _ => rfl) rfl ?_
  show V l G mX8_init (some wd_52) _ _ 220 [(0, vR (0, 1))] [] wd_106 27 1701
  refine V.aload_n dX8_init_220 0 rfl ?_
  refine V.sipush (v := 896) dX8_init_221 (by decide) ?_
  refine V.nI (0, 50) dX8_init_224 (by decide) rfl (by decide) rfl rfl rfl rfl (by decide) (by decide) ?_
  show V l G mX8_init (some wd_52) _ _ 226 [(0, vR (0, 1))] [vR (0, 50), vR (0, 1)] wd_107 28 2597
  refine V.pR 8 36 dX8_init_226 pf_X8_92 rfl ⟨_, _, rfl⟩ rfl (by decide) (fun _ => rfl) (fun _ => rfl) rfl ?_
  show V l G mX8_init (some wd_52) _ _ 229 [(0, vR (0, 1))] [] wd_108 28 2597
  exact V.vret rfl dX8_init_229 rfl (by decide) (by decide))
