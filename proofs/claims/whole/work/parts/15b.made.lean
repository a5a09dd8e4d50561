/-! the law's start: both objects are made -/
def cw_0 : List PE := []
def cw_1 : List PE := cw_0 ++ [.inr (0, [.null, .null, .null, .null, .null, .null, .null, .null, .null, .null, .null])]
def cw_2 : List PE := cw_1 ++ [.inr (1, [.null, .null, .null, .int 0, .int 0, .int 0])]
def cw_3 : List PE := mnaE cw_2 7 10
def cw_4 : List PE := cw_3.set 1 (.inr (1, [.ref 7, .null, .null, .int 0, .int 0, .int 0]))
def cw_5 : List PE := cw_4 ++ [.inl (.int, 4, .inl (fun _ => 0))]
def cw_6 : List PE := cw_5.set 10 (.inl (.int, 4, .inl (upd (fun _ => 0) 0 (1))))
def cw_7 : List PE := cw_6.set 10 (.inl (.int, 4, .inl (upd (upd (fun _ => 0) 0 (1)) 1 (1))))
def cw_8 : List PE := cw_7.set 10 (.inl (.int, 4, .inl (upd (upd (upd (fun _ => 0) 0 (1)) 1 (1)) 2 (1))))
def cw_9 : List PE := cw_8.set 10 (.inl (.int, 4, .inl (upd (upd (upd (upd (fun _ => 0) 0 (1)) 1 (1)) 2 (1)) 3 (1))))
def cw_10 : List PE := cw_9.set 1 (.inr (1, [.ref 7, .ref 15, .null, .int 0, .int 0, .int 0]))
def cw_11 : List PE := mnaE cw_10 5 100
def cw_12 : List PE := cw_11.set 1 (.inr (1, [.ref 7, .ref 15, .ref 16, .int 0, .int 0, .int 0]))
def cw_13 : List PE := cw_12 ++ [.inr (2, [.null, .null, .null, .null, .int 0, .int 0])]
def cw_14 : List PE := cw_13 ++ [.inl (.int, 256, .inl (fun _ => 0))]
def cw_15 : List PE := cw_14.set 17 (.inr (2, [.ref 23, .null, .null, .null, .int 0, .int 0]))
def cw_16 : List PE := cw_15 ++ [.inl (.int, 256, .inl (fun _ => 0))]
def cw_17 : List PE := cw_16.set 17 (.inr (2, [.ref 23, .ref 24, .null, .null, .int 0, .int 0]))
def cw_18 : List PE := cw_17 ++ [.inl (.int, 5, .inl (fun _ => 0))]
def cw_19 : List PE := cw_18.set 17 (.inr (2, [.ref 23, .ref 24, .ref 25, .null, .int 0, .int 0]))
def cw_20 : List PE := cw_19 ++ [.inl (.int, 256, .inl (fun _ => 0))]
def cw_21 : List PE := cw_20.set 17 (.inr (2, [.ref 23, .ref 24, .ref 25, .ref 26, .int 0, .int 0]))
def cw_22 : List PE := cw_21.set 0 (.inr (0, [.ref 6, .null, .null, .null, .null, .null, .null, .null, .null, .null, .null]))
def cw_23 : List PE := cw_22.set 0 (.inr (0, [.ref 6, .ref 22, .null, .null, .null, .null, .null, .null, .null, .null, .null]))
def cw_24 : List PE := cw_23 ++ [.inr (3, [.null, .null, .null, .int 0, .int 0, .int 0])]
def cw_25 : List PE := cw_24 ++ [.inl (.int, 120, .inl (fun _ => 0))]
def cw_26 : List PE := cw_25.set 22 (.inr (3, [.ref 28, .null, .null, .int 0, .int 0, .int 0]))
def cw_27 : List PE := cw_26 ++ [.inl (.int, 256, .inl (fun _ => 0))]
def cw_28 : List PE := cw_27.set 22 (.inr (3, [.ref 28, .ref 29, .null, .int 0, .int 0, .int 0]))
def cw_29 : List PE := cw_28 ++ [.inl (.int, 256, .inl (fun _ => 0))]
def cw_30 : List PE := cw_29.set 22 (.inr (3, [.ref 28, .ref 29, .ref 30, .int 0, .int 0, .int 0]))
def cw_31 : List PE := cw_30.set 0 (.inr (0, [.ref 6, .ref 22, .ref 27, .null, .null, .null, .null, .null, .null, .null, .null]))
def cw_32 : List PE := cw_31 ++ [.inr (4, [.null, .null, .int 0, .int 0, .int 0])]
def cw_33 : List PE := cw_32.set 26 (.inr (4, [.ref 6, .null, .int 0, .int 0, .int 0]))
def cw_34 : List PE := cw_33.set 26 (.inr (4, [.ref 6, .ref 22, .int 0, .int 0, .int 0]))
def cw_35 : List PE := cw_34.set 0 (.inr (0, [.ref 6, .ref 22, .ref 27, .ref 31, .null, .null, .null, .null, .null, .null, .null]))
def cw_36 : List PE := cw_35 ++ [.inr (5, [.null, .null, .null, .null, .int 0, .int 0, .int 0])]
def cw_37 : List PE := cw_36 ++ [.inl (.int, 6, .inl (fun _ => 0))]
def cw_38 : List PE := cw_37.set 27 (.inr (5, [.null, .null, .ref 33, .null, .int 0, .int 0, .int 0]))
def cw_39 : List PE := cw_38 ++ [.inl (.int, 6, .inl (fun _ => 0))]
def cw_40 : List PE := cw_39.set 27 (.inr (5, [.null, .null, .ref 33, .ref 34, .int 0, .int 0, .int 0]))
def cw_41 : List PE := cw_40.set 27 (.inr (5, [.ref 6, .null, .ref 33, .ref 34, .int 0, .int 0, .int 0]))
def cw_42 : List PE := cw_41.set 27 (.inr (5, [.ref 6, .ref 22, .ref 33, .ref 34, .int 0, .int 0, .int 0]))
def cw_43 : List PE := cw_42.set 0 (.inr (0, [.ref 6, .ref 22, .ref 27, .ref 31, .ref 32, .null, .null, .null, .null, .null, .null]))
def cw_44 : List PE := cw_43 ++ [.inr (6, [.null, .null, .null, .null, .null, .int 0, .int 0])]
def cw_45 : List PE := mnaE cw_44 2 12
def cw_46 : List PE := cw_45.set 30 (.inr (6, [.null, .null, .null, .ref 36, .null, .int 0, .int 0]))
def cw_47 : List PE := mnaE cw_46 2 12
def cw_48 : List PE := cw_47.set 30 (.inr (6, [.null, .null, .null, .ref 36, .ref 39, .int 0, .int 0]))
def cw_49 : List PE := cw_48.set 30 (.inr (6, [.ref 6, .null, .null, .ref 36, .ref 39, .int 0, .int 0]))
def cw_50 : List PE := cw_49 ++ [.inr (4, [.null, .null, .int 0, .int 0, .int 0])]
def cw_51 : List PE := cw_50.set 37 (.inr (4, [.ref 6, .null, .int 0, .int 0, .int 0]))
def cw_52 : List PE := cw_51.set 37 (.inr (4, [.ref 6, .ref 22, .int 0, .int 0, .int 0]))
def cw_53 : List PE := cw_52.set 30 (.inr (6, [.ref 6, .ref 42, .null, .ref 36, .ref 39, .int 0, .int 0]))
def cw_54 : List PE := cw_53 ++ [.inr (4, [.null, .null, .int 0, .int 0, .int 0])]
def cw_55 : List PE := cw_54.set 38 (.inr (4, [.ref 6, .null, .int 0, .int 0, .int 0]))
def cw_56 : List PE := cw_55.set 38 (.inr (4, [.ref 6, .ref 22, .int 0, .int 0, .int 0]))
def cw_57 : List PE := cw_56.set 30 (.inr (6, [.ref 6, .ref 42, .ref 43, .ref 36, .ref 39, .int 0, .int 0]))
def cw_58 : List PE := cw_57.set 0 (.inr (0, [.ref 6, .ref 22, .ref 27, .ref 31, .ref 32, .ref 35, .null, .null, .null, .null, .null]))
def cw_59 : List PE := cw_58 ++ [.inr (7, [.null, .null, .int 0])]
def cw_60 : List PE := cw_59 ++ [.inl (.int, 11, .inl (fun _ => 0))]
def cw_61 : List PE := cw_60.set 39 (.inr (7, [.null, .ref 45, .int 0]))
def cw_62 : List PE := cw_61.set 39 (.inr (7, [.ref 6, .ref 45, .int 0]))
def cw_63 : List PE := cw_62.set 0 (.inr (0, [.ref 6, .ref 22, .ref 27, .ref 31, .ref 32, .ref 35, .ref 44, .null, .null, .null, .null]))
def cw_64 : List PE := cw_63 ++ [.inr (8, [.null, .null, .null, .int 0, .int 0, .int 0, .int 0])]
def cw_65 : List PE := cw_64 ++ [.inl (.int, 6, .inl (fun _ => 0))]
def cw_66 : List PE := cw_65.set 41 (.inr (8, [.null, .null, .ref 47, .int 0, .int 0, .int 0, .int 0]))
def cw_67 : List PE := cw_66.set 41 (.inr (8, [.ref 6, .null, .ref 47, .int 0, .int 0, .int 0, .int 0]))
def cw_68 : List PE := cw_67 ++ [.inr (4, [.null, .null, .int 0, .int 0, .int 0])]
def cw_69 : List PE := cw_68.set 43 (.inr (4, [.ref 6, .null, .int 0, .int 0, .int 0]))
def cw_70 : List PE := cw_69.set 43 (.inr (4, [.ref 6, .ref 22, .int 0, .int 0, .int 0]))
def cw_71 : List PE := cw_70.set 41 (.inr (8, [.ref 6, .ref 48, .ref 47, .int 0, .int 0, .int 0, .int 0]))
def cw_72 : List PE := cw_71.set 0 (.inr (0, [.ref 6, .ref 22, .ref 27, .ref 31, .ref 32, .ref 35, .ref 44, .ref 46, .null, .null, .null]))
def cw_73 : List PE := cw_72 ++ [.inr (9, [.null, .null, .null, .null, .null, .int 0, .int 0])]
def cw_74 : List PE := cw_73 ++ [.inl (.int, 40, .inl (fun _ => 0))]
def cw_75 : List PE := cw_74.set 44 (.inr (9, [.null, .ref 50, .null, .null, .null, .int 0, .int 0]))
def cw_76 : List PE := cw_75 ++ [.inl (.int, 40, .inl (fun _ => 0))]
def cw_77 : List PE := cw_76.set 44 (.inr (9, [.null, .ref 50, .ref 51, .null, .null, .int 0, .int 0]))
def cw_78 : List PE := cw_77 ++ [.inl (.int, 40, .inl (fun _ => 0))]
def cw_79 : List PE := cw_78.set 44 (.inr (9, [.null, .ref 50, .ref 51, .ref 52, .null, .int 0, .int 0]))
def cw_80 : List PE := cw_79 ++ [.inl (.int, 40, .inl (fun _ => 0))]
def cw_81 : List PE := cw_80.set 44 (.inr (9, [.null, .ref 50, .ref 51, .ref 52, .ref 53, .int 0, .int 0]))
def cw_82 : List PE := cw_81.set 44 (.inr (9, [.ref 6, .ref 50, .ref 51, .ref 52, .ref 53, .int 0, .int 0]))
def cw_83 : List PE := cw_82.set 0 (.inr (0, [.ref 6, .ref 22, .ref 27, .ref 31, .ref 32, .ref 35, .ref 44, .ref 46, .ref 49, .null, .null]))
def cw_84 : List PE := cw_83 ++ [.inr (10, [.null, .null, .int 0, .int 0])]
def cw_85 : List PE := cw_84 ++ [.inl (.int, 50, .inl (fun _ => 0))]
def cw_86 : List PE := cw_85.set 49 (.inr (10, [.ref 55, .null, .int 0, .int 0]))
def cw_87 : List PE := cw_86 ++ [.inl (.int, 24, .inl (fun _ => 0))]
def cw_88 : List PE := cw_87.set 49 (.inr (10, [.ref 55, .ref 56, .int 0, .int 0]))
def cw_89 : List PE := cw_88.set 0 (.inr (0, [.ref 6, .ref 22, .ref 27, .ref 31, .ref 32, .ref 35, .ref 44, .ref 46, .ref 49, .ref 54, .null]))
def cw_90 : List PE := cw_89 ++ [.inl (.object "GoodbyeAll$Shelf", 6, .inr (.inr (.inr (.inr (fun _ => none)))))]
def cw_91 : List PE := cw_90 ++ [.inr (11, [.null, .int 0, .int 0, .int 0, .int 0])]
def cw_92 : List PE := cw_91 ++ [.inl (.long, 60, .inr (.inl (fun _ => 0)))]
def cw_93 : List PE := cw_92.set 53 (.inr (11, [.ref 59, .int 0, .int 0, .int 0, .int 0]))
def cw_94 : List PE := cw_93.set 53 (.inr (11, [.ref 59, .int 0, .int 0, .int 0, .int 0]))
def cw_95 : List PE := cw_94.set 52 (.inl (.object "GoodbyeAll$Shelf", 6, .inr (.inr (.inr (.inr (va_up (fun _ => none) 0 (some 58)))))))
def cw_96 : List PE := cw_95 ++ [.inr (11, [.null, .int 0, .int 0, .int 0, .int 0])]
def cw_97 : List PE := cw_96 ++ [.inl (.long, 60, .inr (.inl (fun _ => 0)))]
def cw_98 : List PE := cw_97.set 55 (.inr (11, [.ref 61, .int 0, .int 0, .int 0, .int 0]))
def cw_99 : List PE := cw_98.set 55 (.inr (11, [.ref 61, .int 0, .int 0, .int 0, .int 0]))
def cw_100 : List PE := cw_99.set 52 (.inl (.object "GoodbyeAll$Shelf", 6, .inr (.inr (.inr (.inr (va_up (va_up (fun _ => none) 0 (some 58)) 1 (some 60)))))))
def cw_101 : List PE := cw_100 ++ [.inr (11, [.null, .int 0, .int 0, .int 0, .int 0])]
def cw_102 : List PE := cw_101 ++ [.inl (.long, 60, .inr (.inl (fun _ => 0)))]
def cw_103 : List PE := cw_102.set 57 (.inr (11, [.ref 63, .int 0, .int 0, .int 0, .int 0]))
def cw_104 : List PE := cw_103.set 57 (.inr (11, [.ref 63, .int 0, .int 0, .int 0, .int 0]))
def cw_105 : List PE := cw_104.set 52 (.inl (.object "GoodbyeAll$Shelf", 6, .inr (.inr (.inr (.inr (va_up (va_up (va_up (fun _ => none) 0 (some 58)) 1 (some 60)) 2 (some 62)))))))
def cw_106 : List PE := cw_105 ++ [.inr (11, [.null, .int 0, .int 0, .int 0, .int 0])]
def cw_107 : List PE := cw_106 ++ [.inl (.long, 60, .inr (.inl (fun _ => 0)))]
def cw_108 : List PE := cw_107.set 59 (.inr (11, [.ref 65, .int 0, .int 0, .int 0, .int 0]))
def cw_109 : List PE := cw_108.set 59 (.inr (11, [.ref 65, .int 0, .int 0, .int 0, .int 0]))
def cw_110 : List PE := cw_109.set 52 (.inl (.object "GoodbyeAll$Shelf", 6, .inr (.inr (.inr (.inr (va_up (va_up (va_up (va_up (fun _ => none) 0 (some 58)) 1 (some 60)) 2 (some 62)) 3 (some 64)))))))
def cw_111 : List PE := cw_110 ++ [.inr (11, [.null, .int 0, .int 0, .int 0, .int 0])]
def cw_112 : List PE := cw_111 ++ [.inl (.long, 60, .inr (.inl (fun _ => 0)))]
def cw_113 : List PE := cw_112.set 61 (.inr (11, [.ref 67, .int 0, .int 0, .int 0, .int 0]))
def cw_114 : List PE := cw_113.set 61 (.inr (11, [.ref 67, .int 0, .int 0, .int 0, .int 0]))
def cw_115 : List PE := cw_114.set 52 (.inl (.object "GoodbyeAll$Shelf", 6, .inr (.inr (.inr (.inr (va_up (va_up (va_up (va_up (va_up (fun _ => none) 0 (some 58)) 1 (some 60)) 2 (some 62)) 3 (some 64)) 4 (some 66)))))))
def cw_116 : List PE := cw_115 ++ [.inr (11, [.null, .int 0, .int 0, .int 0, .int 0])]
def cw_117 : List PE := cw_116 ++ [.inl (.long, 60, .inr (.inl (fun _ => 0)))]
def cw_118 : List PE := cw_117.set 63 (.inr (11, [.ref 69, .int 0, .int 0, .int 0, .int 0]))
def cw_119 : List PE := cw_118.set 63 (.inr (11, [.ref 69, .int 0, .int 0, .int 0, .int 0]))
def cw_120 : List PE := cw_119.set 52 (.inl (.object "GoodbyeAll$Shelf", 6, .inr (.inr (.inr (.inr (va_up (va_up (va_up (va_up (va_up (va_up (fun _ => none) 0 (some 58)) 1 (some 60)) 2 (some 62)) 3 (some 64)) 4 (some 66)) 5 (some 68)))))))
def cw_121 : List PE := cw_120.set 0 (.inr (0, [.ref 6, .ref 22, .ref 27, .ref 31, .ref 32, .ref 35, .ref 44, .ref 46, .ref 49, .ref 54, .ref 57]))
def cw_122 : List PE := cw_121 ++ [.inr (12, [.int 0, .int 0, .null, .null, .null, .null, .null, .null, .null, .null, .int 0, .int 0, .null, .null, .null, .null, .null, .int 0, .int 0, .int 0, .int 0, .int 0, .null, .null, .null, .null, .null, .null, .null, .int 0, .int 0, .int 0, .int 0, .null, .null, .int 0, .int 0, .null, .null, .null, .null, .null, .null, .null, .int 0, .int 0, .null, .null, .int 0, .int 0, .null, .int 0, .null, .null, .null, .null, .null])]
def cw_123 : List PE := cw_122 ++ [.inl (.int, 10, .inl (fun _ => 0))]
def cw_124 : List PE := cw_123.set 65 (.inr (12, [.int 0, .int 0, .ref 71, .null, .null, .null, .null, .null, .null, .null, .int 0, .int 0, .null, .null, .null, .null, .null, .int 0, .int 0, .int 0, .int 0, .int 0, .null, .null, .null, .null, .null, .null, .null, .int 0, .int 0, .int 0, .int 0, .null, .null, .int 0, .int 0, .null, .null, .null, .null, .null, .null, .null, .int 0, .int 0, .null, .null, .int 0, .int 0, .null, .int 0, .null, .null, .null, .null, .null]))
def cw_125 : List PE := cw_124 ++ [.inl (.int, 10, .inl (fun _ => 0))]
def cw_126 : List PE := cw_125.set 65 (.inr (12, [.int 0, .int 0, .ref 71, .ref 72, .null, .null, .null, .null, .null, .null, .int 0, .int 0, .null, .null, .null, .null, .null, .int 0, .int 0, .int 0, .int 0, .int 0, .null, .null, .null, .null, .null, .null, .null, .int 0, .int 0, .int 0, .int 0, .null, .null, .int 0, .int 0, .null, .null, .null, .null, .null, .null, .null, .int 0, .int 0, .null, .null, .int 0, .int 0, .null, .int 0, .null, .null, .null, .null, .null]))
def cw_127 : List PE := cw_126 ++ [.inl (.int, 10, .inl (fun _ => 0))]
def cw_128 : List PE := cw_127.set 65 (.inr (12, [.int 0, .int 0, .ref 71, .ref 72, .ref 73, .null, .null, .null, .null, .null, .int 0, .int 0, .null, .null, .null, .null, .null, .int 0, .int 0, .int 0, .int 0, .int 0, .null, .null, .null, .null, .null, .null, .null, .int 0, .int 0, .int 0, .int 0, .null, .null, .int 0, .int 0, .null, .null, .null, .null, .null, .null, .null, .int 0, .int 0, .null, .null, .int 0, .int 0, .null, .int 0, .null, .null, .null, .null, .null]))
def cw_129 : List PE := cw_128 ++ [.inl (.int, 10, .inl (fun _ => 0))]
def cw_130 : List PE := cw_129.set 65 (.inr (12, [.int 0, .int 0, .ref 71, .ref 72, .ref 73, .ref 74, .null, .null, .null, .null, .int 0, .int 0, .null, .null, .null, .null, .null, .int 0, .int 0, .int 0, .int 0, .int 0, .null, .null, .null, .null, .null, .null, .null, .int 0, .int 0, .int 0, .int 0, .null, .null, .int 0, .int 0, .null, .null, .null, .null, .null, .null, .null, .int 0, .int 0, .null, .null, .int 0, .int 0, .null, .int 0, .null, .null, .null, .null, .null]))
def cw_131 : List PE := cw_130 ++ [.inl (.int, 10, .inl (fun _ => 0))]
def cw_132 : List PE := cw_131.set 65 (.inr (12, [.int 0, .int 0, .ref 71, .ref 72, .ref 73, .ref 74, .ref 75, .null, .null, .null, .int 0, .int 0, .null, .null, .null, .null, .null, .int 0, .int 0, .int 0, .int 0, .int 0, .null, .null, .null, .null, .null, .null, .null, .int 0, .int 0, .int 0, .int 0, .null, .null, .int 0, .int 0, .null, .null, .null, .null, .null, .null, .null, .int 0, .int 0, .null, .null, .int 0, .int 0, .null, .int 0, .null, .null, .null, .null, .null]))
def cw_133 : List PE := cw_132 ++ [.inl (.int, 10, .inl (fun _ => 0))]
def cw_134 : List PE := cw_133.set 65 (.inr (12, [.int 0, .int 0, .ref 71, .ref 72, .ref 73, .ref 74, .ref 75, .ref 76, .null, .null, .int 0, .int 0, .null, .null, .null, .null, .null, .int 0, .int 0, .int 0, .int 0, .int 0, .null, .null, .null, .null, .null, .null, .null, .int 0, .int 0, .int 0, .int 0, .null, .null, .int 0, .int 0, .null, .null, .null, .null, .null, .null, .null, .int 0, .int 0, .null, .null, .int 0, .int 0, .null, .int 0, .null, .null, .null, .null, .null]))
def cw_135 : List PE := cw_134 ++ [.inl (.int, 10, .inl (fun _ => 0))]
def cw_136 : List PE := cw_135.set 65 (.inr (12, [.int 0, .int 0, .ref 71, .ref 72, .ref 73, .ref 74, .ref 75, .ref 76, .ref 77, .null, .int 0, .int 0, .null, .null, .null, .null, .null, .int 0, .int 0, .int 0, .int 0, .int 0, .null, .null, .null, .null, .null, .null, .null, .int 0, .int 0, .int 0, .int 0, .null, .null, .int 0, .int 0, .null, .null, .null, .null, .null, .null, .null, .int 0, .int 0, .null, .null, .int 0, .int 0, .null, .int 0, .null, .null, .null, .null, .null]))
def cw_137 : List PE := cw_136 ++ [.inl (.int, 4, .inl (fun _ => 0))]
def cw_138 : List PE := cw_137.set 73 (.inl (.int, 4, .inl (upd (fun _ => 0) 0 (1))))
def cw_139 : List PE := cw_138.set 73 (.inl (.int, 4, .inl (upd (upd (fun _ => 0) 0 (1)) 1 (1))))
def cw_140 : List PE := cw_139.set 73 (.inl (.int, 4, .inl (upd (upd (upd (fun _ => 0) 0 (1)) 1 (1)) 2 (1))))
def cw_141 : List PE := cw_140.set 73 (.inl (.int, 4, .inl (upd (upd (upd (upd (fun _ => 0) 0 (1)) 1 (1)) 2 (1)) 3 (1))))
def cw_142 : List PE := cw_141.set 65 (.inr (12, [.int 0, .int 0, .ref 71, .ref 72, .ref 73, .ref 74, .ref 75, .ref 76, .ref 77, .ref 78, .int 0, .int 0, .null, .null, .null, .null, .null, .int 0, .int 0, .int 0, .int 0, .int 0, .null, .null, .null, .null, .null, .null, .null, .int 0, .int 0, .int 0, .int 0, .null, .null, .int 0, .int 0, .null, .null, .null, .null, .null, .null, .null, .int 0, .int 0, .null, .null, .int 0, .int 0, .null, .int 0, .null, .null, .null, .null, .null]))
def cw_143 : List PE := cw_142 ++ [.inl (.int, 40, .inl (fun _ => 0))]
def cw_144 : List PE := cw_143.set 65 (.inr (12, [.int 0, .int 0, .ref 71, .ref 72, .ref 73, .ref 74, .ref 75, .ref 76, .ref 77, .ref 78, .int 0, .int 0, .ref 79, .null, .null, .null, .null, .int 0, .int 0, .int 0, .int 0, .int 0, .null, .null, .null, .null, .null, .null, .null, .int 0, .int 0, .int 0, .int 0, .null, .null, .int 0, .int 0, .null, .null, .null, .null, .null, .null, .null, .int 0, .int 0, .null, .null, .int 0, .int 0, .null, .int 0, .null, .null, .null, .null, .null]))
def cw_145 : List PE := cw_144 ++ [.inl (.int, 40, .inl (fun _ => 0))]
def cw_146 : List PE := cw_145.set 65 (.inr (12, [.int 0, .int 0, .ref 71, .ref 72, .ref 73, .ref 74, .ref 75, .ref 76, .ref 77, .ref 78, .int 0, .int 0, .ref 79, .ref 80, .null, .null, .null, .int 0, .int 0, .int 0, .int 0, .int 0, .null, .null, .null, .null, .null, .null, .null, .int 0, .int 0, .int 0, .int 0, .null, .null, .int 0, .int 0, .null, .null, .null, .null, .null, .null, .null, .int 0, .int 0, .null, .null, .int 0, .int 0, .null, .int 0, .null, .null, .null, .null, .null]))
def cw_147 : List PE := cw_146 ++ [.inl (.int, 40, .inl (fun _ => 0))]
def cw_148 : List PE := cw_147.set 65 (.inr (12, [.int 0, .int 0, .ref 71, .ref 72, .ref 73, .ref 74, .ref 75, .ref 76, .ref 77, .ref 78, .int 0, .int 0, .ref 79, .ref 80, .ref 81, .null, .null, .int 0, .int 0, .int 0, .int 0, .int 0, .null, .null, .null, .null, .null, .null, .null, .int 0, .int 0, .int 0, .int 0, .null, .null, .int 0, .int 0, .null, .null, .null, .null, .null, .null, .null, .int 0, .int 0, .null, .null, .int 0, .int 0, .null, .int 0, .null, .null, .null, .null, .null]))
def cw_149 : List PE := cw_148 ++ [.inl (.int, 40, .inl (fun _ => 0))]
def cw_150 : List PE := cw_149.set 65 (.inr (12, [.int 0, .int 0, .ref 71, .ref 72, .ref 73, .ref 74, .ref 75, .ref 76, .ref 77, .ref 78, .int 0, .int 0, .ref 79, .ref 80, .ref 81, .ref 82, .null, .int 0, .int 0, .int 0, .int 0, .int 0, .null, .null, .null, .null, .null, .null, .null, .int 0, .int 0, .int 0, .int 0, .null, .null, .int 0, .int 0, .null, .null, .null, .null, .null, .null, .null, .int 0, .int 0, .null, .null, .int 0, .int 0, .null, .int 0, .null, .null, .null, .null, .null]))
def cw_151 : List PE := cw_150 ++ [.inl (.byte, 120, .inl (fun _ => 0))]
def cw_152 : List PE := cw_151.set 65 (.inr (12, [.int 0, .int 0, .ref 71, .ref 72, .ref 73, .ref 74, .ref 75, .ref 76, .ref 77, .ref 78, .int 0, .int 0, .ref 79, .ref 80, .ref 81, .ref 82, .ref 83, .int 0, .int 0, .int 0, .int 0, .int 0, .null, .null, .null, .null, .null, .null, .null, .int 0, .int 0, .int 0, .int 0, .null, .null, .int 0, .int 0, .null, .null, .null, .null, .null, .null, .null, .int 0, .int 0, .null, .null, .int 0, .int 0, .null, .int 0, .null, .null, .null, .null, .null]))
def cw_153 : List PE := cw_152 ++ [.inl (.byte, 260, .inl (fun _ => 0))]
def cw_154 : List PE := cw_153.set 65 (.inr (12, [.int 0, .int 0, .ref 71, .ref 72, .ref 73, .ref 74, .ref 75, .ref 76, .ref 77, .ref 78, .int 0, .int 0, .ref 79, .ref 80, .ref 81, .ref 82, .ref 83, .int 0, .int 0, .int 0, .int 0, .int 0, .ref 84, .null, .null, .null, .null, .null, .null, .int 0, .int 0, .int 0, .int 0, .null, .null, .int 0, .int 0, .null, .null, .null, .null, .null, .null, .null, .int 0, .int 0, .null, .null, .int 0, .int 0, .null, .int 0, .null, .null, .null, .null, .null]))
def cw_155 : List PE := cw_154 ++ [.inl (.int, 260, .inl (fun _ => 0))]
def cw_156 : List PE := cw_155.set 65 (.inr (12, [.int 0, .int 0, .ref 71, .ref 72, .ref 73, .ref 74, .ref 75, .ref 76, .ref 77, .ref 78, .int 0, .int 0, .ref 79, .ref 80, .ref 81, .ref 82, .ref 83, .int 0, .int 0, .int 0, .int 0, .int 0, .ref 84, .ref 85, .null, .null, .null, .null, .null, .int 0, .int 0, .int 0, .int 0, .null, .null, .int 0, .int 0, .null, .null, .null, .null, .null, .null, .null, .int 0, .int 0, .null, .null, .int 0, .int 0, .null, .int 0, .null, .null, .null, .null, .null]))
def cw_157 : List PE := cw_156 ++ [.inl (.int, 2, .inl (fun _ => 0))]
def cw_158 : List PE := cw_157.set 65 (.inr (12, [.int 0, .int 0, .ref 71, .ref 72, .ref 73, .ref 74, .ref 75, .ref 76, .ref 77, .ref 78, .int 0, .int 0, .ref 79, .ref 80, .ref 81, .ref 82, .ref 83, .int 0, .int 0, .int 0, .int 0, .int 0, .ref 84, .ref 85, .ref 86, .null, .null, .null, .null, .int 0, .int 0, .int 0, .int 0, .null, .null, .int 0, .int 0, .null, .null, .null, .null, .null, .null, .null, .int 0, .int 0, .null, .null, .int 0, .int 0, .null, .int 0, .null, .null, .null, .null, .null]))
def cw_159 : List PE := cw_158 ++ [.inl (.short, 122, .inl (fun _ => 0))]
def cw_160 : List PE := cw_159.set 65 (.inr (12, [.int 0, .int 0, .ref 71, .ref 72, .ref 73, .ref 74, .ref 75, .ref 76, .ref 77, .ref 78, .int 0, .int 0, .ref 79, .ref 80, .ref 81, .ref 82, .ref 83, .int 0, .int 0, .int 0, .int 0, .int 0, .ref 84, .ref 85, .ref 86, .ref 87, .null, .null, .null, .int 0, .int 0, .int 0, .int 0, .null, .null, .int 0, .int 0, .null, .null, .null, .null, .null, .null, .null, .int 0, .int 0, .null, .null, .int 0, .int 0, .null, .int 0, .null, .null, .null, .null, .null]))
def cw_161 : List PE := cw_160 ++ [.inl (.short, 122, .inl (fun _ => 0))]
def cw_162 : List PE := cw_161.set 65 (.inr (12, [.int 0, .int 0, .ref 71, .ref 72, .ref 73, .ref 74, .ref 75, .ref 76, .ref 77, .ref 78, .int 0, .int 0, .ref 79, .ref 80, .ref 81, .ref 82, .ref 83, .int 0, .int 0, .int 0, .int 0, .int 0, .ref 84, .ref 85, .ref 86, .ref 87, .ref 88, .null, .null, .int 0, .int 0, .int 0, .int 0, .null, .null, .int 0, .int 0, .null, .null, .null, .null, .null, .null, .null, .int 0, .int 0, .null, .null, .int 0, .int 0, .null, .int 0, .null, .null, .null, .null, .null]))
def cw_163 : List PE := cw_162 ++ [.inl (.int, 5, .inl (fun _ => 0))]
def cw_164 : List PE := cw_163.set 65 (.inr (12, [.int 0, .int 0, .ref 71, .ref 72, .ref 73, .ref 74, .ref 75, .ref 76, .ref 77, .ref 78, .int 0, .int 0, .ref 79, .ref 80, .ref 81, .ref 82, .ref 83, .int 0, .int 0, .int 0, .int 0, .int 0, .ref 84, .ref 85, .ref 86, .ref 87, .ref 88, .ref 89, .null, .int 0, .int 0, .int 0, .int 0, .null, .null, .int 0, .int 0, .null, .null, .null, .null, .null, .null, .null, .int 0, .int 0, .null, .null, .int 0, .int 0, .null, .int 0, .null, .null, .null, .null, .null]))
def cw_165 : List PE := cw_164 ++ [.inl (.int, 130, .inl (fun _ => 0))]
def cw_166 : List PE := cw_165.set 65 (.inr (12, [.int 0, .int 0, .ref 71, .ref 72, .ref 73, .ref 74, .ref 75, .ref 76, .ref 77, .ref 78, .int 0, .int 0, .ref 79, .ref 80, .ref 81, .ref 82, .ref 83, .int 0, .int 0, .int 0, .int 0, .int 0, .ref 84, .ref 85, .ref 86, .ref 87, .ref 88, .ref 89, .ref 90, .int 0, .int 0, .int 0, .int 0, .null, .null, .int 0, .int 0, .null, .null, .null, .null, .null, .null, .null, .int 0, .int 0, .null, .null, .int 0, .int 0, .null, .int 0, .null, .null, .null, .null, .null]))
def cw_167 : List PE := cw_166 ++ [.inl (.int, 7, .inl (fun _ => 0))]
def cw_168 : List PE := cw_167.set 65 (.inr (12, [.int 0, .int 0, .ref 71, .ref 72, .ref 73, .ref 74, .ref 75, .ref 76, .ref 77, .ref 78, .int 0, .int 0, .ref 79, .ref 80, .ref 81, .ref 82, .ref 83, .int 0, .int 0, .int 0, .int 0, .int 0, .ref 84, .ref 85, .ref 86, .ref 87, .ref 88, .ref 89, .ref 90, .int 0, .int 0, .int 0, .int 0, .ref 91, .null, .int 0, .int 0, .null, .null, .null, .null, .null, .null, .null, .int 0, .int 0, .null, .null, .int 0, .int 0, .null, .int 0, .null, .null, .null, .null, .null]))
def cw_169 : List PE := cw_168 ++ [.inl (.int, 7, .inl (fun _ => 0))]
def cw_170 : List PE := cw_169.set 65 (.inr (12, [.int 0, .int 0, .ref 71, .ref 72, .ref 73, .ref 74, .ref 75, .ref 76, .ref 77, .ref 78, .int 0, .int 0, .ref 79, .ref 80, .ref 81, .ref 82, .ref 83, .int 0, .int 0, .int 0, .int 0, .int 0, .ref 84, .ref 85, .ref 86, .ref 87, .ref 88, .ref 89, .ref 90, .int 0, .int 0, .int 0, .int 0, .ref 91, .ref 92, .int 0, .int 0, .null, .null, .null, .null, .null, .null, .null, .int 0, .int 0, .null, .null, .int 0, .int 0, .null, .int 0, .null, .null, .null, .null, .null]))
def cw_171 : List PE := cw_170 ++ [.inl (.int, 2, .inl (fun _ => 0))]
def cw_172 : List PE := cw_171.set 65 (.inr (12, [.int 0, .int 0, .ref 71, .ref 72, .ref 73, .ref 74, .ref 75, .ref 76, .ref 77, .ref 78, .int 0, .int 0, .ref 79, .ref 80, .ref 81, .ref 82, .ref 83, .int 0, .int 0, .int 0, .int 0, .int 0, .ref 84, .ref 85, .ref 86, .ref 87, .ref 88, .ref 89, .ref 90, .int 0, .int 0, .int 0, .int 0, .ref 91, .ref 92, .int 0, .int 0, .ref 93, .null, .null, .null, .null, .null, .null, .int 0, .int 0, .null, .null, .int 0, .int 0, .null, .int 0, .null, .null, .null, .null, .null]))
def cw_173 : List PE := cw_172 ++ [.inl (.int, 2, .inl (fun _ => 0))]
def cw_174 : List PE := cw_173.set 65 (.inr (12, [.int 0, .int 0, .ref 71, .ref 72, .ref 73, .ref 74, .ref 75, .ref 76, .ref 77, .ref 78, .int 0, .int 0, .ref 79, .ref 80, .ref 81, .ref 82, .ref 83, .int 0, .int 0, .int 0, .int 0, .int 0, .ref 84, .ref 85, .ref 86, .ref 87, .ref 88, .ref 89, .ref 90, .int 0, .int 0, .int 0, .int 0, .ref 91, .ref 92, .int 0, .int 0, .ref 93, .ref 94, .null, .null, .null, .null, .null, .int 0, .int 0, .null, .null, .int 0, .int 0, .null, .int 0, .null, .null, .null, .null, .null]))
def cw_175 : List PE := cw_174 ++ [.inl (.int, 2, .inl (fun _ => 0))]
def cw_176 : List PE := cw_175.set 65 (.inr (12, [.int 0, .int 0, .ref 71, .ref 72, .ref 73, .ref 74, .ref 75, .ref 76, .ref 77, .ref 78, .int 0, .int 0, .ref 79, .ref 80, .ref 81, .ref 82, .ref 83, .int 0, .int 0, .int 0, .int 0, .int 0, .ref 84, .ref 85, .ref 86, .ref 87, .ref 88, .ref 89, .ref 90, .int 0, .int 0, .int 0, .int 0, .ref 91, .ref 92, .int 0, .int 0, .ref 93, .ref 94, .ref 95, .null, .null, .null, .null, .int 0, .int 0, .null, .null, .int 0, .int 0, .null, .int 0, .null, .null, .null, .null, .null]))
def cw_177 : List PE := cw_176 ++ [.inl (.int, 2, .inl (fun _ => 0))]
def cw_178 : List PE := cw_177.set 65 (.inr (12, [.int 0, .int 0, .ref 71, .ref 72, .ref 73, .ref 74, .ref 75, .ref 76, .ref 77, .ref 78, .int 0, .int 0, .ref 79, .ref 80, .ref 81, .ref 82, .ref 83, .int 0, .int 0, .int 0, .int 0, .int 0, .ref 84, .ref 85, .ref 86, .ref 87, .ref 88, .ref 89, .ref 90, .int 0, .int 0, .int 0, .int 0, .ref 91, .ref 92, .int 0, .int 0, .ref 93, .ref 94, .ref 95, .ref 96, .null, .null, .null, .int 0, .int 0, .null, .null, .int 0, .int 0, .null, .int 0, .null, .null, .null, .null, .null]))
def cw_179 : List PE := cw_178 ++ [.inl (.int, 24, .inl (fun _ => 0))]
def cw_180 : List PE := cw_179.set 65 (.inr (12, [.int 0, .int 0, .ref 71, .ref 72, .ref 73, .ref 74, .ref 75, .ref 76, .ref 77, .ref 78, .int 0, .int 0, .ref 79, .ref 80, .ref 81, .ref 82, .ref 83, .int 0, .int 0, .int 0, .int 0, .int 0, .ref 84, .ref 85, .ref 86, .ref 87, .ref 88, .ref 89, .ref 90, .int 0, .int 0, .int 0, .int 0, .ref 91, .ref 92, .int 0, .int 0, .ref 93, .ref 94, .ref 95, .ref 96, .ref 97, .null, .null, .int 0, .int 0, .null, .null, .int 0, .int 0, .null, .int 0, .null, .null, .null, .null, .null]))
def cw_181 : List PE := cw_180 ++ [.inl (.int, 24, .inl (fun _ => 0))]
def cw_182 : List PE := cw_181.set 65 (.inr (12, [.int 0, .int 0, .ref 71, .ref 72, .ref 73, .ref 74, .ref 75, .ref 76, .ref 77, .ref 78, .int 0, .int 0, .ref 79, .ref 80, .ref 81, .ref 82, .ref 83, .int 0, .int 0, .int 0, .int 0, .int 0, .ref 84, .ref 85, .ref 86, .ref 87, .ref 88, .ref 89, .ref 90, .int 0, .int 0, .int 0, .int 0, .ref 91, .ref 92, .int 0, .int 0, .ref 93, .ref 94, .ref 95, .ref 96, .ref 97, .ref 98, .null, .int 0, .int 0, .null, .null, .int 0, .int 0, .null, .int 0, .null, .null, .null, .null, .null]))
def cw_183 : List PE := cw_182 ++ [.inl (.int, 60, .inl (fun _ => 0))]
def cw_184 : List PE := cw_183.set 65 (.inr (12, [.int 0, .int 0, .ref 71, .ref 72, .ref 73, .ref 74, .ref 75, .ref 76, .ref 77, .ref 78, .int 0, .int 0, .ref 79, .ref 80, .ref 81, .ref 82, .ref 83, .int 0, .int 0, .int 0, .int 0, .int 0, .ref 84, .ref 85, .ref 86, .ref 87, .ref 88, .ref 89, .ref 90, .int 0, .int 0, .int 0, .int 0, .ref 91, .ref 92, .int 0, .int 0, .ref 93, .ref 94, .ref 95, .ref 96, .ref 97, .ref 98, .ref 99, .int 0, .int 0, .null, .null, .int 0, .int 0, .null, .int 0, .null, .null, .null, .null, .null]))
def cw_185 : List PE := cw_184 ++ [.inl (.int, 6, .inl (fun _ => 0))]
def cw_186 : List PE := cw_185.set 65 (.inr (12, [.int 0, .int 0, .ref 71, .ref 72, .ref 73, .ref 74, .ref 75, .ref 76, .ref 77, .ref 78, .int 0, .int 0, .ref 79, .ref 80, .ref 81, .ref 82, .ref 83, .int 0, .int 0, .int 0, .int 0, .int 0, .ref 84, .ref 85, .ref 86, .ref 87, .ref 88, .ref 89, .ref 90, .int 0, .int 0, .int 0, .int 0, .ref 91, .ref 92, .int 0, .int 0, .ref 93, .ref 94, .ref 95, .ref 96, .ref 97, .ref 98, .ref 99, .int 0, .int 0, .ref 100, .null, .int 0, .int 0, .null, .int 0, .null, .null, .null, .null, .null]))
def cw_187 : List PE := cw_186 ++ [.inl (.int, 6, .inl (fun _ => 0))]
def cw_188 : List PE := cw_187.set 65 (.inr (12, [.int 0, .int 0, .ref 71, .ref 72, .ref 73, .ref 74, .ref 75, .ref 76, .ref 77, .ref 78, .int 0, .int 0, .ref 79, .ref 80, .ref 81, .ref 82, .ref 83, .int 0, .int 0, .int 0, .int 0, .int 0, .ref 84, .ref 85, .ref 86, .ref 87, .ref 88, .ref 89, .ref 90, .int 0, .int 0, .int 0, .int 0, .ref 91, .ref 92, .int 0, .int 0, .ref 93, .ref 94, .ref 95, .ref 96, .ref 97, .ref 98, .ref 99, .int 0, .int 0, .ref 100, .ref 101, .int 0, .int 0, .null, .int 0, .null, .null, .null, .null, .null]))
def cw_189 : List PE := cw_188 ++ [.inl (.int, 50, .inl (fun _ => 0))]
def cw_190 : List PE := cw_189.set 65 (.inr (12, [.int 0, .int 0, .ref 71, .ref 72, .ref 73, .ref 74, .ref 75, .ref 76, .ref 77, .ref 78, .int 0, .int 0, .ref 79, .ref 80, .ref 81, .ref 82, .ref 83, .int 0, .int 0, .int 0, .int 0, .int 0, .ref 84, .ref 85, .ref 86, .ref 87, .ref 88, .ref 89, .ref 90, .int 0, .int 0, .int 0, .int 0, .ref 91, .ref 92, .int 0, .int 0, .ref 93, .ref 94, .ref 95, .ref 96, .ref 97, .ref 98, .ref 99, .int 0, .int 0, .ref 100, .ref 101, .int 0, .int 0, .ref 102, .int 0, .null, .null, .null, .null, .null]))
def cw_191 : List PE := cw_190 ++ [.inl (.int, 24, .inl (fun _ => 0))]
def cw_192 : List PE := cw_191.set 65 (.inr (12, [.int 0, .int 0, .ref 71, .ref 72, .ref 73, .ref 74, .ref 75, .ref 76, .ref 77, .ref 78, .int 0, .int 0, .ref 79, .ref 80, .ref 81, .ref 82, .ref 83, .int 0, .int 0, .int 0, .int 0, .int 0, .ref 84, .ref 85, .ref 86, .ref 87, .ref 88, .ref 89, .ref 90, .int 0, .int 0, .int 0, .int 0, .ref 91, .ref 92, .int 0, .int 0, .ref 93, .ref 94, .ref 95, .ref 96, .ref 97, .ref 98, .ref 99, .int 0, .int 0, .ref 100, .ref 101, .int 0, .int 0, .ref 102, .int 0, .ref 103, .null, .null, .null, .null]))
def cw_193 : List PE := cw_192 ++ [.inl (.int, 6, .inl (fun _ => 0))]
def cw_194 : List PE := cw_193.set 99 (.inl (.int, 6, .inl (upd (fun _ => 0) 0 (-1))))
def cw_195 : List PE := cw_194.set 99 (.inl (.int, 6, .inl (upd (upd (fun _ => 0) 0 (-1)) 1 (-1))))
def cw_196 : List PE := cw_195.set 99 (.inl (.int, 6, .inl (upd (upd (upd (fun _ => 0) 0 (-1)) 1 (-1)) 2 (-1))))
def cw_197 : List PE := cw_196.set 99 (.inl (.int, 6, .inl (upd (upd (upd (upd (fun _ => 0) 0 (-1)) 1 (-1)) 2 (-1)) 3 (-1))))
def cw_198 : List PE := cw_197.set 99 (.inl (.int, 6, .inl (upd (upd (upd (upd (upd (fun _ => 0) 0 (-1)) 1 (-1)) 2 (-1)) 3 (-1)) 4 (-1))))
def cw_199 : List PE := cw_198.set 99 (.inl (.int, 6, .inl (upd (upd (upd (upd (upd (upd (fun _ => 0) 0 (-1)) 1 (-1)) 2 (-1)) 3 (-1)) 4 (-1)) 5 (-1))))
def cw_200 : List PE := cw_199.set 65 (.inr (12, [.int 0, .int 0, .ref 71, .ref 72, .ref 73, .ref 74, .ref 75, .ref 76, .ref 77, .ref 78, .int 0, .int 0, .ref 79, .ref 80, .ref 81, .ref 82, .ref 83, .int 0, .int 0, .int 0, .int 0, .int 0, .ref 84, .ref 85, .ref 86, .ref 87, .ref 88, .ref 89, .ref 90, .int 0, .int 0, .int 0, .int 0, .ref 91, .ref 92, .int 0, .int 0, .ref 93, .ref 94, .ref 95, .ref 96, .ref 97, .ref 98, .ref 99, .int 0, .int 0, .ref 100, .ref 101, .int 0, .int 0, .ref 102, .int 0, .ref 103, .ref 104, .null, .null, .null]))
def cw_201 : List PE := cw_200 ++ [.inl (.int, 6, .inl (fun _ => 0))]
def cw_202 : List PE := cw_201.set 65 (.inr (12, [.int 0, .int 0, .ref 71, .ref 72, .ref 73, .ref 74, .ref 75, .ref 76, .ref 77, .ref 78, .int 0, .int 0, .ref 79, .ref 80, .ref 81, .ref 82, .ref 83, .int 0, .int 0, .int 0, .int 0, .int 0, .ref 84, .ref 85, .ref 86, .ref 87, .ref 88, .ref 89, .ref 90, .int 0, .int 0, .int 0, .int 0, .ref 91, .ref 92, .int 0, .int 0, .ref 93, .ref 94, .ref 95, .ref 96, .ref 97, .ref 98, .ref 99, .int 0, .int 0, .ref 100, .ref 101, .int 0, .int 0, .ref 102, .int 0, .ref 103, .ref 104, .ref 105, .null, .null]))
def cw_203 : List PE := cw_202 ++ [.inl (.long, 360, .inr (.inl (fun _ => 0)))]
def cw_204 : List PE := cw_203.set 65 (.inr (12, [.int 0, .int 0, .ref 71, .ref 72, .ref 73, .ref 74, .ref 75, .ref 76, .ref 77, .ref 78, .int 0, .int 0, .ref 79, .ref 80, .ref 81, .ref 82, .ref 83, .int 0, .int 0, .int 0, .int 0, .int 0, .ref 84, .ref 85, .ref 86, .ref 87, .ref 88, .ref 89, .ref 90, .int 0, .int 0, .int 0, .int 0, .ref 91, .ref 92, .int 0, .int 0, .ref 93, .ref 94, .ref 95, .ref 96, .ref 97, .ref 98, .ref 99, .int 0, .int 0, .ref 100, .ref 101, .int 0, .int 0, .ref 102, .int 0, .ref 103, .ref 104, .ref 105, .ref 106, .null]))
def cw_205 : List PE := cw_204 ++ [.inl (.long, 60, .inr (.inl (fun _ => 0)))]
def cw_206 : List PE := cw_205.set 65 (.inr (12, [.int 0, .int 0, .ref 71, .ref 72, .ref 73, .ref 74, .ref 75, .ref 76, .ref 77, .ref 78, .int 0, .int 0, .ref 79, .ref 80, .ref 81, .ref 82, .ref 83, .int 0, .int 0, .int 0, .int 0, .int 0, .ref 84, .ref 85, .ref 86, .ref 87, .ref 88, .ref 89, .ref 90, .int 0, .int 0, .int 0, .int 0, .ref 91, .ref 92, .int 0, .int 0, .ref 93, .ref 94, .ref 95, .ref 96, .ref 97, .ref 98, .ref 99, .int 0, .int 0, .ref 100, .ref 101, .int 0, .int 0, .ref 102, .int 0, .ref 103, .ref 104, .ref 105, .ref 106, .ref 107]))
theorem cl_H : Cond.classLink m_H_init.1.cls 11 ("[" ++ (FieldType.array .int).toString) ∈ gw_tbl := gw_t 31 (by decide +kernel) rfl
theorem cl_P : Cond.classLink m_P_init.1.cls 9 ("[" ++ (FieldType.array .int).toString) ∈ gw_tbl := gw_t 159 (by decide +kernel) rfl
theorem cl_shelf : Cond.classLink m_G_init.1.cls 83 "GoodbyeAll$Shelf" ∈ gw_tbl := gw_t 277 (by decide +kernel) rfl
theorem PW_Ic {d mc ms d2 mc2 ms2 idx n pc nx o : Nat} {z : ZS} {mi mi2 : MI} {post : Option Value → List PE → Prop} {L L2 : List (Option Value)} {st stk : List Value} {w : List PE} (As : List Value) (hd : CD mi pc (.invokespecial idx) 3 nx) (hl : LKI mi idx mi2 n) (hn : As.length = n) (hs : As.reverse ++ .ref o :: st = stk) (hL2 : padL mi2.2.2.1 (flatL (.ref o :: As)) = L2) (hm : (flatL (.ref o :: As)).length ≤ mi2.2.2.1) (hd2 : d2 + 1 ≤ d) (hst : (st.map fun v => v.category).sum ≤ 8)
    (hb : PW (d2, mc2, ms2, z) mi2 (fun r w' => PW (d, mc, ms, z) mi post nx L (r.toList ++ st) w') 0 L2 [] w) : PW (d, mc2 + mc, ms2 + ms, z) mi post pc L stk w := PW_callI As hd hl hn hs hL2 hm hd2 hst hb (fun _ _ h => h)
set_option maxRecDepth 100000 in
set_option maxHeartbeats 4000000 in
theorem law_made {z : ZS} {post : Option Value → List PE → Prop} (h : PW (100, 97, 15254, z) m_W_law post 18 [some (.ref 4), some (.ref 5), some (.ref 70), some (.int 0)] [] cw_206) : PW (100, 200, 20000, z) m_W_law post 0 [some (.ref 4), none, none, none] [] [] := by
  show PW (100, 200, 20000, z) m_W_law post 0 [some (.ref 4), none, none, none] [] cw_0
  refine PW_new (a := 5) (mc := 199) (ms := 19989) c_W_law_0 nl_W_law_7 rfl rfl ?_
  show PW _ _ _ 3 [some (.ref 4), none, none, none] [.ref 5] cw_1
  refine PW_dup c_W_law_3 rfl ?_
  refine PW_Ic (d2 := 99) (mc2 := 64) (ms2 := 2775) (mc := 135) (ms := 17214) (st := [.ref 5]) [] c_W_law_4 lk_W_law_9 rfl rfl rfl (Nat.le_of_ble_eq_true rfl) (by decide) (by decide) ?_
  show PW _ _ _ 0 [some (.ref 5), none, none, none, none] [] cw_1
  refine PW_aload_n c_G_init_0 rfl ?_
  refine PW_objInit c_G_init_1 ol_G_1 ol_i ol_c (by decide) (by decide) ?_
  refine PW_new (a := 6) (mc := 63) (ms := 2769) c_G_init_4 nl_G_init_7 rfl rfl ?_
  show PW _ _ _ 7 [some (.ref 5), none, none, none, none] [.ref 6] cw_2
  refine PW_dup c_G_init_7 rfl ?_
  refine PW_Ic (d2 := 98) (mc2 := 15) (ms2 := 586) (mc := 48) (ms := 2183) (st := [.ref 6]) [] c_G_init_8 lk_G_init_9 rfl rfl rfl (Nat.le_of_ble_eq_true rfl) (by decide) (by decide) ?_
  show PW _ _ _ 0 [some (.ref 6)] [] cw_2
  refine PW_aload_n c_H_init_0 rfl ?_
  refine PW_objInit c_H_init_1 ol_H_3 ol_i ol_c (by decide) (by decide) ?_
  refine PW_aload_n c_H_init_4 rfl ?_
  refine PW_bipush (v := 7) c_H_init_5 (by decide) ?_
  refine PW_bipush (v := 10) c_H_init_7 (by decide) ?_
  refine PW_mna (N := 7) (K := 10) (a := 7) (mc := 7) (ms := 509) c_H_init_9 cl_H (by decide) (by decide) rfl rfl (by decide) (by decide) rfl ?_
  show PW _ _ _ 13 [some (.ref 6)] [.ref 7, .ref 6] cw_3
  refine PW_put (w2 := cw_4) c_H_init_13 fp_H_init_13 rfl ⟨_, rfl, Nat.le_of_ble_eq_true rfl, rfl⟩ ?_
  refine PW_aload_n c_H_init_16 rfl ?_
  refine PW_iconst (v := 4) c_H_init_17 (by decide) ?_
  refine PW_newa (ty := .int) (t0 := 0) (N := 4) (a := 15) (x := .inl (fun _ => 0)) (mc := 6) (ms := 505) c_H_init_18 rfl ac_int rfl (fun g cA => by rfl) (by decide) rfl (by decide) rfl ?_
  show PW _ _ _ 20 [some (.ref 6)] [.ref 15, .ref 6] cw_5
  refine PW_dup c_H_init_20 rfl ?_
  refine PW_iconst (v := 0) c_H_init_21 (by decide) ?_
  refine PW_iconst (v := 1) c_H_init_22 (by decide) ?_
  refine PW_iast (j := 0) (w2 := cw_6) c_H_init_23 rfl (vp_in_iff.mpr (by decide)) rfl rfl ?_
  refine PW_dup c_H_init_24 rfl ?_
  refine PW_iconst (v := 1) c_H_init_25 (by decide) ?_
  refine PW_iconst (v := 1) c_H_init_26 (by decide) ?_
  refine PW_iast (j := 1) (w2 := cw_7) c_H_init_27 rfl (vp_in_iff.mpr (by decide)) rfl rfl ?_
  refine PW_dup c_H_init_28 rfl ?_
  refine PW_iconst (v := 2) c_H_init_29 (by decide) ?_
  refine PW_iconst (v := 1) c_H_init_30 (by decide) ?_
  refine PW_iast (j := 2) (w2 := cw_8) c_H_init_31 rfl (vp_in_iff.mpr (by decide)) rfl rfl ?_
  refine PW_dup c_H_init_32 rfl ?_
  refine PW_iconst (v := 3) c_H_init_33 (by decide) ?_
  refine PW_iconst (v := 1) c_H_init_34 (by decide) ?_
  refine PW_iast (j := 3) (w2 := cw_9) c_H_init_35 rfl (vp_in_iff.mpr (by decide)) rfl rfl ?_
  refine PW_put (w2 := cw_10) c_H_init_36 fp_H_init_16 rfl ⟨_, rfl, Nat.le_of_ble_eq_true rfl, rfl⟩ ?_
  refine PW_aload_n c_H_init_39 rfl ?_
  refine PW_iconst (v := 5) c_H_init_40 (by decide) ?_
  refine PW_bipush (v := 100) c_H_init_41 (by decide) ?_
  refine PW_mna (N := 5) (K := 100) (a := 16) (mc := 0) (ms := 0) c_H_init_43 cl_H (by decide) (by decide) rfl rfl (by decide) (by decide) rfl ?_
  show PW _ _ _ 47 [some (.ref 6)] [.ref 16, .ref 6] cw_11
  refine PW_put (w2 := cw_12) c_H_init_47 fp_H_init_20 rfl ⟨_, rfl, Nat.le_of_ble_eq_true rfl, rfl⟩ ?_
  refine PW_vreturn c_H_init_50 rfl ?_
  show PW _ _ _ 11 [some (.ref 5), none, none, none, none] [.ref 6] cw_12
  refine PW_astore_n (i := 1) (L2 := [some (.ref 5), some (.ref 6), none, none, none]) c_G_init_11 rfl (Nat.le_of_ble_eq_true rfl) rfl rfl ?_
  refine PW_new (a := 22) (mc := 47) (ms := 2177) c_G_init_12 nl_G_init_10 rfl rfl ?_
  show PW _ _ _ 15 [some (.ref 5), some (.ref 6), none, none, none] [.ref 22] cw_13
  refine PW_dup c_G_init_15 rfl ?_
  refine PW_Ic (d2 := 98) (mc2 := 4) (ms2 := 773) (mc := 43) (ms := 1404) (st := [.ref 22]) [] c_G_init_16 lk_G_init_12 rfl rfl rfl (Nat.le_of_ble_eq_true rfl) (by decide) (by decide) ?_
  show PW _ _ _ 0 [some (.ref 22)] [] cw_13
  refine PW_aload_n c_L_init_0 rfl ?_
  refine PW_objInit c_L_init_1 ol_L_1 ol_i ol_c (by decide) (by decide) ?_
  refine PW_aload_n c_L_init_4 rfl ?_
  refine PW_sipush (v := 256) c_L_init_5 (by decide) ?_
  refine PW_newa (ty := .int) (t0 := 0) (N := 256) (a := 23) (x := .inl (fun _ => 0)) (mc := 3) (ms := 517) c_L_init_8 rfl ac_int rfl (fun g cA => by rfl) (by decide) rfl (by decide) rfl ?_
  show PW _ _ _ 10 [some (.ref 22)] [.ref 23, .ref 22] cw_14
  refine PW_put (w2 := cw_15) c_L_init_10 fp_L_init_9 rfl ⟨_, rfl, Nat.le_of_ble_eq_true rfl, rfl⟩ ?_
  refine PW_aload_n c_L_init_13 rfl ?_
  refine PW_sipush (v := 256) c_L_init_14 (by decide) ?_
  refine PW_newa (ty := .int) (t0 := 0) (N := 256) (a := 24) (x := .inl (fun _ => 0)) (mc := 2) (ms := 261) c_L_init_17 rfl ac_int rfl (fun g cA => by rfl) (by decide) rfl (by decide) rfl ?_
  show PW _ _ _ 19 [some (.ref 22)] [.ref 24, .ref 22] cw_16
  refine PW_put (w2 := cw_17) c_L_init_19 fp_L_init_13 rfl ⟨_, rfl, Nat.le_of_ble_eq_true rfl, rfl⟩ ?_
  refine PW_aload_n c_L_init_22 rfl ?_
  refine PW_iconst (v := 5) c_L_init_23 (by decide) ?_
  refine PW_newa (ty := .int) (t0 := 0) (N := 5) (a := 25) (x := .inl (fun _ => 0)) (mc := 1) (ms := 256) c_L_init_24 rfl ac_int rfl (fun g cA => by rfl) (by decide) rfl (by decide) rfl ?_
  show PW _ _ _ 26 [some (.ref 22)] [.ref 25, .ref 22] cw_18
  refine PW_put (w2 := cw_19) c_L_init_26 fp_L_init_16 rfl ⟨_, rfl, Nat.le_of_ble_eq_true rfl, rfl⟩ ?_
  refine PW_aload_n c_L_init_29 rfl ?_
  refine PW_sipush (v := 256) c_L_init_30 (by decide) ?_
  refine PW_newa (ty := .int) (t0 := 0) (N := 256) (a := 26) (x := .inl (fun _ => 0)) (mc := 0) (ms := 0) c_L_init_33 rfl ac_int rfl (fun g cA => by rfl) (by decide) rfl (by decide) rfl ?_
  show PW _ _ _ 35 [some (.ref 22)] [.ref 26, .ref 22] cw_20
  refine PW_put (w2 := cw_21) c_L_init_35 fp_L_init_19 rfl ⟨_, rfl, Nat.le_of_ble_eq_true rfl, rfl⟩ ?_
  refine PW_vreturn c_L_init_38 rfl ?_
  show PW _ _ _ 19 [some (.ref 5), some (.ref 6), none, none, none] [.ref 22] cw_21
  refine PW_astore_n (i := 2) (L2 := [some (.ref 5), some (.ref 6), some (.ref 22), none, none]) c_G_init_19 rfl (Nat.le_of_ble_eq_true rfl) rfl rfl ?_
  refine PW_aload_n c_G_init_20 rfl ?_
  refine PW_aload_n c_G_init_21 rfl ?_
  refine PW_put (w2 := cw_22) c_G_init_22 fp_G_init_13 rfl ⟨_, rfl, Nat.le_of_ble_eq_true rfl, rfl⟩ ?_
  refine PW_aload_n c_G_init_25 rfl ?_
  refine PW_aload_n c_G_init_26 rfl ?_
  refine PW_put (w2 := cw_23) c_G_init_27 fp_G_init_19 rfl ⟨_, rfl, Nat.le_of_ble_eq_true rfl, rfl⟩ ?_
  refine PW_aload_n c_G_init_30 rfl ?_
  refine PW_new (a := 27) (mc := 42) (ms := 1398) c_G_init_31 nl_G_init_23 rfl rfl ?_
  show PW _ _ _ 34 [some (.ref 5), some (.ref 6), some (.ref 22), none, none] [.ref 27, .ref 5] cw_24
  refine PW_dup c_G_init_34 rfl ?_
  refine PW_Ic (d2 := 98) (mc2 := 3) (ms2 := 632) (mc := 39) (ms := 766) (st := [.ref 27, .ref 5]) [] c_G_init_35 lk_G_init_25 rfl rfl rfl (Nat.le_of_ble_eq_true rfl) (by decide) (by decide) ?_
  show PW _ _ _ 0 [some (.ref 27)] [] cw_24
  refine PW_aload_n c_T_init_0 rfl ?_
  refine PW_objInit c_T_init_1 ol_T_1 ol_i ol_c (by decide) (by decide) ?_
  refine PW_aload_n c_T_init_4 rfl ?_
  refine PW_bipush (v := 120) c_T_init_5 (by decide) ?_
  refine PW_newa (ty := .int) (t0 := 0) (N := 120) (a := 28) (x := .inl (fun _ => 0)) (mc := 2) (ms := 512) c_T_init_7 rfl ac_int rfl (fun g cA => by rfl) (by decide) rfl (by decide) rfl ?_
  show PW _ _ _ 9 [some (.ref 27)] [.ref 28, .ref 27] cw_25
  refine PW_put (w2 := cw_26) c_T_init_9 fp_T_init_9 rfl ⟨_, rfl, Nat.le_of_ble_eq_true rfl, rfl⟩ ?_
  refine PW_aload_n c_T_init_12 rfl ?_
  refine PW_sipush (v := 256) c_T_init_13 (by decide) ?_
  refine PW_newa (ty := .int) (t0 := 0) (N := 256) (a := 29) (x := .inl (fun _ => 0)) (mc := 1) (ms := 256) c_T_init_16 rfl ac_int rfl (fun g cA => by rfl) (by decide) rfl (by decide) rfl ?_
  show PW _ _ _ 18 [some (.ref 27)] [.ref 29, .ref 27] cw_27
  refine PW_put (w2 := cw_28) c_T_init_18 fp_T_init_15 rfl ⟨_, rfl, Nat.le_of_ble_eq_true rfl, rfl⟩ ?_
  refine PW_aload_n c_T_init_21 rfl ?_
  refine PW_sipush (v := 256) c_T_init_22 (by decide) ?_
  refine PW_newa (ty := .int) (t0 := 0) (N := 256) (a := 30) (x := .inl (fun _ => 0)) (mc := 0) (ms := 0) c_T_init_25 rfl ac_int rfl (fun g cA => by rfl) (by decide) rfl (by decide) rfl ?_
  show PW _ _ _ 27 [some (.ref 27)] [.ref 30, .ref 27] cw_29
  refine PW_put (w2 := cw_30) c_T_init_27 fp_T_init_18 rfl ⟨_, rfl, Nat.le_of_ble_eq_true rfl, rfl⟩ ?_
  refine PW_vreturn c_T_init_30 rfl ?_
  show PW _ _ _ 38 [some (.ref 5), some (.ref 6), some (.ref 22), none, none] [.ref 27, .ref 5] cw_30
  refine PW_put (w2 := cw_31) c_G_init_38 fp_G_init_26 rfl ⟨_, rfl, Nat.le_of_ble_eq_true rfl, rfl⟩ ?_
  refine PW_aload_n c_G_init_41 rfl ?_
  refine PW_new (a := 31) (mc := 38) (ms := 761) c_G_init_42 nl_G_init_30 rfl rfl ?_
  show PW _ _ _ 45 [some (.ref 5), some (.ref 6), some (.ref 22), none, none] [.ref 31, .ref 5] cw_32
  refine PW_dup c_G_init_45 rfl ?_
  refine PW_aload_n c_G_init_46 rfl ?_
  refine PW_aload_n c_G_init_47 rfl ?_
  refine PW_Ic (d2 := 98) (mc2 := 0) (ms2 := 0) (mc := 38) (ms := 761) (st := [.ref 31, .ref 5]) [.ref 6, .ref 22] c_G_init_48 lk_G_init_32 rfl rfl rfl (Nat.le_of_ble_eq_true rfl) (by decide) (by decide) ?_
  show PW _ _ _ 0 [some (.ref 31), some (.ref 6), some (.ref 22)] [] cw_32
  refine PW_aload_n c_V_init_0 rfl ?_
  refine PW_objInit c_V_init_1 ol_V_3 ol_i ol_c (by decide) (by decide) ?_
  refine PW_aload_n c_V_init_4 rfl ?_
  refine PW_aload_n c_V_init_5 rfl ?_
  refine PW_put (w2 := cw_33) c_V_init_6 fp_V_init_9 rfl ⟨_, rfl, Nat.le_of_ble_eq_true rfl, rfl⟩ ?_
  refine PW_aload_n c_V_init_9 rfl ?_
  refine PW_aload_n c_V_init_10 rfl ?_
  refine PW_put (w2 := cw_34) c_V_init_11 fp_V_init_15 rfl ⟨_, rfl, Nat.le_of_ble_eq_true rfl, rfl⟩ ?_
  refine PW_vreturn c_V_init_14 rfl ?_
  show PW _ _ _ 51 [some (.ref 5), some (.ref 6), some (.ref 22), none, none] [.ref 31, .ref 5] cw_34
  refine PW_put (w2 := cw_35) c_G_init_51 fp_G_init_35 rfl ⟨_, rfl, Nat.le_of_ble_eq_true rfl, rfl⟩ ?_
  refine PW_aload_n c_G_init_54 rfl ?_
  refine PW_new (a := 32) (mc := 37) (ms := 754) c_G_init_55 nl_G_init_39 rfl rfl ?_
  show PW _ _ _ 58 [some (.ref 5), some (.ref 6), some (.ref 22), none, none] [.ref 32, .ref 5] cw_36
  refine PW_dup c_G_init_58 rfl ?_
  refine PW_aload_n c_G_init_59 rfl ?_
  refine PW_aload_n c_G_init_60 rfl ?_
  refine PW_Ic (d2 := 98) (mc2 := 2) (ms2 := 12) (mc := 35) (ms := 742) (st := [.ref 32, .ref 5]) [.ref 6, .ref 22] c_G_init_61 lk_G_init_41 rfl rfl rfl (Nat.le_of_ble_eq_true rfl) (by decide) (by decide) ?_
  show PW _ _ _ 0 [some (.ref 32), some (.ref 6), some (.ref 22)] [] cw_36
  refine PW_aload_n c_S_init_0 rfl ?_
  refine PW_objInit c_S_init_1 ol_S_3 ol_i ol_c (by decide) (by decide) ?_
  refine PW_aload_n c_S_init_4 rfl ?_
  refine PW_bipush (v := 6) c_S_init_5 (by decide) ?_
  refine PW_newa (ty := .int) (t0 := 0) (N := 6) (a := 33) (x := .inl (fun _ => 0)) (mc := 1) (ms := 6) c_S_init_7 rfl ac_int rfl (fun g cA => by rfl) (by decide) rfl (by decide) rfl ?_
  show PW _ _ _ 9 [some (.ref 32), some (.ref 6), some (.ref 22)] [.ref 33, .ref 32] cw_37
  refine PW_put (w2 := cw_38) c_S_init_9 fp_S_init_11 rfl ⟨_, rfl, Nat.le_of_ble_eq_true rfl, rfl⟩ ?_
  refine PW_aload_n c_S_init_12 rfl ?_
  refine PW_bipush (v := 6) c_S_init_13 (by decide) ?_
  refine PW_newa (ty := .int) (t0 := 0) (N := 6) (a := 34) (x := .inl (fun _ => 0)) (mc := 0) (ms := 0) c_S_init_15 rfl ac_int rfl (fun g cA => by rfl) (by decide) rfl (by decide) rfl ?_
  show PW _ _ _ 17 [some (.ref 32), some (.ref 6), some (.ref 22)] [.ref 34, .ref 32] cw_39
  refine PW_put (w2 := cw_40) c_S_init_17 fp_S_init_15 rfl ⟨_, rfl, Nat.le_of_ble_eq_true rfl, rfl⟩ ?_
  refine PW_aload_n c_S_init_20 rfl ?_
  refine PW_aload_n c_S_init_21 rfl ?_
  refine PW_put (w2 := cw_41) c_S_init_22 fp_S_init_18 rfl ⟨_, rfl, Nat.le_of_ble_eq_true rfl, rfl⟩ ?_
  refine PW_aload_n c_S_init_25 rfl ?_
  refine PW_aload_n c_S_init_26 rfl ?_
  refine PW_put (w2 := cw_42) c_S_init_27 fp_S_init_22 rfl ⟨_, rfl, Nat.le_of_ble_eq_true rfl, rfl⟩ ?_
  refine PW_vreturn c_S_init_30 rfl ?_
  show PW _ _ _ 64 [some (.ref 5), some (.ref 6), some (.ref 22), none, none] [.ref 32, .ref 5] cw_42
  refine PW_put (w2 := cw_43) c_G_init_64 fp_G_init_42 rfl ⟨_, rfl, Nat.le_of_ble_eq_true rfl, rfl⟩ ?_
  refine PW_aload_n c_G_init_67 rfl ?_
  refine PW_new (a := 35) (mc := 34) (ms := 735) c_G_init_68 nl_G_init_46 rfl rfl ?_
  show PW _ _ _ 71 [some (.ref 5), some (.ref 6), some (.ref 22), none, none] [.ref 35, .ref 5] cw_44
  refine PW_dup c_G_init_71 rfl ?_
  refine PW_aload_n c_G_init_72 rfl ?_
  refine PW_aload_n c_G_init_73 rfl ?_
  refine PW_Ic (d2 := 98) (mc2 := 8) (ms2 := 62) (mc := 26) (ms := 673) (st := [.ref 35, .ref 5]) [.ref 6, .ref 22] c_G_init_74 lk_G_init_48 rfl rfl rfl (Nat.le_of_ble_eq_true rfl) (by decide) (by decide) ?_
  show PW _ _ _ 0 [some (.ref 35), some (.ref 6), some (.ref 22)] [] cw_44
  refine PW_aload_n c_P_init_0 rfl ?_
  refine PW_objInit c_P_init_1 ol_P_3 ol_i ol_c (by decide) (by decide) ?_
  refine PW_aload_n c_P_init_4 rfl ?_
  refine PW_iconst (v := 2) c_P_init_5 (by decide) ?_
  refine PW_bipush (v := 12) c_P_init_6 (by decide) ?_
  refine PW_mna (N := 2) (K := 12) (a := 36) (mc := 5) (ms := 36) c_P_init_8 cl_P (by decide) (by decide) rfl rfl (by decide) (by decide) rfl ?_
  show PW _ _ _ 12 [some (.ref 35), some (.ref 6), some (.ref 22)] [.ref 36, .ref 35] cw_45
  refine PW_put (w2 := cw_46) c_P_init_12 fp_P_init_11 rfl ⟨_, rfl, Nat.le_of_ble_eq_true rfl, rfl⟩ ?_
  refine PW_aload_n c_P_init_15 rfl ?_
  refine PW_iconst (v := 2) c_P_init_16 (by decide) ?_
  refine PW_bipush (v := 12) c_P_init_17 (by decide) ?_
  refine PW_mna (N := 2) (K := 12) (a := 39) (mc := 2) (ms := 10) c_P_init_19 cl_P (by decide) (by decide) rfl rfl (by decide) (by decide) rfl ?_
  show PW _ _ _ 23 [some (.ref 35), some (.ref 6), some (.ref 22)] [.ref 39, .ref 35] cw_47
  refine PW_put (w2 := cw_48) c_P_init_23 fp_P_init_16 rfl ⟨_, rfl, Nat.le_of_ble_eq_true rfl, rfl⟩ ?_
  refine PW_aload_n c_P_init_26 rfl ?_
  refine PW_aload_n c_P_init_27 rfl ?_
  refine PW_put (w2 := cw_49) c_P_init_28 fp_P_init_19 rfl ⟨_, rfl, Nat.le_of_ble_eq_true rfl, rfl⟩ ?_
  refine PW_aload_n c_P_init_31 rfl ?_
  refine PW_new (a := 42) (mc := 1) (ms := 5) c_P_init_32 nl_P_init_23 rfl rfl ?_
  show PW _ _ _ 35 [some (.ref 35), some (.ref 6), some (.ref 22)] [.ref 42, .ref 35] cw_50
  refine PW_dup c_P_init_35 rfl ?_
  refine PW_aload_n c_P_init_36 rfl ?_
  refine PW_aload_n c_P_init_37 rfl ?_
  refine PW_Ic (d2 := 97) (mc2 := 0) (ms2 := 0) (mc := 1) (ms := 5) (st := [.ref 42, .ref 35]) [.ref 6, .ref 22] c_P_init_38 lk_P_init_25 rfl rfl rfl (Nat.le_of_ble_eq_true rfl) (by decide) (by decide) ?_
  show PW _ _ _ 0 [some (.ref 42), some (.ref 6), some (.ref 22)] [] cw_50
  refine PW_aload_n c_V_init_0 rfl ?_
  refine PW_objInit c_V_init_1 ol_V_3 ol_i ol_c (by decide) (by decide) ?_
  refine PW_aload_n c_V_init_4 rfl ?_
  refine PW_aload_n c_V_init_5 rfl ?_
  refine PW_put (w2 := cw_51) c_V_init_6 fp_V_init_9 rfl ⟨_, rfl, Nat.le_of_ble_eq_true rfl, rfl⟩ ?_
  refine PW_aload_n c_V_init_9 rfl ?_
  refine PW_aload_n c_V_init_10 rfl ?_
  refine PW_put (w2 := cw_52) c_V_init_11 fp_V_init_15 rfl ⟨_, rfl, Nat.le_of_ble_eq_true rfl, rfl⟩ ?_
  refine PW_vreturn c_V_init_14 rfl ?_
  show PW _ _ _ 41 [some (.ref 35), some (.ref 6), some (.ref 22)] [.ref 42, .ref 35] cw_52
  refine PW_put (w2 := cw_53) c_P_init_41 fp_P_init_28 rfl ⟨_, rfl, Nat.le_of_ble_eq_true rfl, rfl⟩ ?_
  refine PW_aload_n c_P_init_44 rfl ?_
  refine PW_new (a := 43) (mc := 0) (ms := 0) c_P_init_45 nl_P_init_23 rfl rfl ?_
  show PW _ _ _ 48 [some (.ref 35), some (.ref 6), some (.ref 22)] [.ref 43, .ref 35] cw_54
  refine PW_dup c_P_init_48 rfl ?_
  refine PW_aload_n c_P_init_49 rfl ?_
  refine PW_aload_n c_P_init_50 rfl ?_
  refine PW_Ic (d2 := 97) (mc2 := 0) (ms2 := 0) (mc := 0) (ms := 0) (st := [.ref 43, .ref 35]) [.ref 6, .ref 22] c_P_init_51 lk_P_init_25 rfl rfl rfl (Nat.le_of_ble_eq_true rfl) (by decide) (by decide) ?_
  show PW _ _ _ 0 [some (.ref 43), some (.ref 6), some (.ref 22)] [] cw_54
  refine PW_aload_n c_V_init_0 rfl ?_
  refine PW_objInit c_V_init_1 ol_V_3 ol_i ol_c (by decide) (by decide) ?_
  refine PW_aload_n c_V_init_4 rfl ?_
  refine PW_aload_n c_V_init_5 rfl ?_
  refine PW_put (w2 := cw_55) c_V_init_6 fp_V_init_9 rfl ⟨_, rfl, Nat.le_of_ble_eq_true rfl, rfl⟩ ?_
  refine PW_aload_n c_V_init_9 rfl ?_
  refine PW_aload_n c_V_init_10 rfl ?_
  refine PW_put (w2 := cw_56) c_V_init_11 fp_V_init_15 rfl ⟨_, rfl, Nat.le_of_ble_eq_true rfl, rfl⟩ ?_
  refine PW_vreturn c_V_init_14 rfl ?_
  show PW _ _ _ 54 [some (.ref 35), some (.ref 6), some (.ref 22)] [.ref 43, .ref 35] cw_56
  refine PW_put (w2 := cw_57) c_P_init_54 fp_P_init_32 rfl ⟨_, rfl, Nat.le_of_ble_eq_true rfl, rfl⟩ ?_
  refine PW_vreturn c_P_init_57 rfl ?_
  show PW _ _ _ 77 [some (.ref 5), some (.ref 6), some (.ref 22), none, none] [.ref 35, .ref 5] cw_57
  refine PW_put (w2 := cw_58) c_G_init_77 fp_G_init_49 rfl ⟨_, rfl, Nat.le_of_ble_eq_true rfl, rfl⟩ ?_
  refine PW_aload_n c_G_init_80 rfl ?_
  refine PW_new (a := 44) (mc := 25) (ms := 670) c_G_init_81 nl_G_init_53 rfl rfl ?_
  show PW _ _ _ 84 [some (.ref 5), some (.ref 6), some (.ref 22), none, none] [.ref 44, .ref 5] cw_59
  refine PW_dup c_G_init_84 rfl ?_
  refine PW_aload_n c_G_init_85 rfl ?_
  refine PW_Ic (d2 := 98) (mc2 := 1) (ms2 := 11) (mc := 24) (ms := 659) (st := [.ref 44, .ref 5]) [.ref 6] c_G_init_86 lk_G_init_55 rfl rfl rfl (Nat.le_of_ble_eq_true rfl) (by decide) (by decide) ?_
  show PW _ _ _ 0 [some (.ref 44), some (.ref 6)] [] cw_59
  refine PW_aload_n c_Y_init_0 rfl ?_
  refine PW_objInit c_Y_init_1 ol_Y_3 ol_i ol_c (by decide) (by decide) ?_
  refine PW_aload_n c_Y_init_4 rfl ?_
  refine PW_bipush (v := 11) c_Y_init_5 (by decide) ?_
  refine PW_newa (ty := .int) (t0 := 0) (N := 11) (a := 45) (x := .inl (fun _ => 0)) (mc := 0) (ms := 0) c_Y_init_7 rfl ac_int rfl (fun g cA => by rfl) (by decide) rfl (by decide) rfl ?_
  show PW _ _ _ 9 [some (.ref 44), some (.ref 6)] [.ref 45, .ref 44] cw_60
  refine PW_put (w2 := cw_61) c_Y_init_9 fp_Y_init_11 rfl ⟨_, rfl, Nat.le_of_ble_eq_true rfl, rfl⟩ ?_
  refine PW_aload_n c_Y_init_12 rfl ?_
  refine PW_aload_n c_Y_init_13 rfl ?_
  refine PW_put (w2 := cw_62) c_Y_init_14 fp_Y_init_17 rfl ⟨_, rfl, Nat.le_of_ble_eq_true rfl, rfl⟩ ?_
  refine PW_vreturn c_Y_init_17 rfl ?_
  show PW _ _ _ 89 [some (.ref 5), some (.ref 6), some (.ref 22), none, none] [.ref 44, .ref 5] cw_62
  refine PW_put (w2 := cw_63) c_G_init_89 fp_G_init_58 rfl ⟨_, rfl, Nat.le_of_ble_eq_true rfl, rfl⟩ ?_
  refine PW_aload_n c_G_init_92 rfl ?_
  refine PW_new (a := 46) (mc := 23) (ms := 652) c_G_init_93 nl_G_init_62 rfl rfl ?_
  show PW _ _ _ 96 [some (.ref 5), some (.ref 6), some (.ref 22), none, none] [.ref 46, .ref 5] cw_64
  refine PW_dup c_G_init_96 rfl ?_
  refine PW_aload_n c_G_init_97 rfl ?_
  refine PW_aload_n c_G_init_98 rfl ?_
  refine PW_Ic (d2 := 98) (mc2 := 2) (ms2 := 11) (mc := 21) (ms := 641) (st := [.ref 46, .ref 5]) [.ref 6, .ref 22] c_G_init_99 lk_G_init_64 rfl rfl rfl (Nat.le_of_ble_eq_true rfl) (by decide) (by decide) ?_
  show PW _ _ _ 0 [some (.ref 46), some (.ref 6), some (.ref 22)] [] cw_64
  refine PW_aload_n c_E_init_0 rfl ?_
  refine PW_objInit c_E_init_1 ol_E_3 ol_i ol_c (by decide) (by decide) ?_
  refine PW_aload_n c_E_init_4 rfl ?_
  refine PW_bipush (v := 6) c_E_init_5 (by decide) ?_
  refine PW_newa (ty := .int) (t0 := 0) (N := 6) (a := 47) (x := .inl (fun _ => 0)) (mc := 1) (ms := 5) c_E_init_7 rfl ac_int rfl (fun g cA => by rfl) (by decide) rfl (by decide) rfl ?_
  show PW _ _ _ 9 [some (.ref 46), some (.ref 6), some (.ref 22)] [.ref 47, .ref 46] cw_65
  refine PW_put (w2 := cw_66) c_E_init_9 fp_E_init_11 rfl ⟨_, rfl, Nat.le_of_ble_eq_true rfl, rfl⟩ ?_
  refine PW_aload_n c_E_init_12 rfl ?_
  refine PW_aload_n c_E_init_13 rfl ?_
  refine PW_put (w2 := cw_67) c_E_init_14 fp_E_init_15 rfl ⟨_, rfl, Nat.le_of_ble_eq_true rfl, rfl⟩ ?_
  refine PW_aload_n c_E_init_17 rfl ?_
  refine PW_new (a := 48) (mc := 0) (ms := 0) c_E_init_18 nl_E_init_19 rfl rfl ?_
  show PW _ _ _ 21 [some (.ref 46), some (.ref 6), some (.ref 22)] [.ref 48, .ref 46] cw_68
  refine PW_dup c_E_init_21 rfl ?_
  refine PW_aload_n c_E_init_22 rfl ?_
  refine PW_aload_n c_E_init_23 rfl ?_
  refine PW_Ic (d2 := 97) (mc2 := 0) (ms2 := 0) (mc := 0) (ms := 0) (st := [.ref 48, .ref 46]) [.ref 6, .ref 22] c_E_init_24 lk_E_init_21 rfl rfl rfl (Nat.le_of_ble_eq_true rfl) (by decide) (by decide) ?_
  show PW _ _ _ 0 [some (.ref 48), some (.ref 6), some (.ref 22)] [] cw_68
  refine PW_aload_n c_V_init_0 rfl ?_
  refine PW_objInit c_V_init_1 ol_V_3 ol_i ol_c (by decide) (by decide) ?_
  refine PW_aload_n c_V_init_4 rfl ?_
  refine PW_aload_n c_V_init_5 rfl ?_
  refine PW_put (w2 := cw_69) c_V_init_6 fp_V_init_9 rfl ⟨_, rfl, Nat.le_of_ble_eq_true rfl, rfl⟩ ?_
  refine PW_aload_n c_V_init_9 rfl ?_
  refine PW_aload_n c_V_init_10 rfl ?_
  refine PW_put (w2 := cw_70) c_V_init_11 fp_V_init_15 rfl ⟨_, rfl, Nat.le_of_ble_eq_true rfl, rfl⟩ ?_
  refine PW_vreturn c_V_init_14 rfl ?_
  show PW _ _ _ 27 [some (.ref 46), some (.ref 6), some (.ref 22)] [.ref 48, .ref 46] cw_70
  refine PW_put (w2 := cw_71) c_E_init_27 fp_E_init_24 rfl ⟨_, rfl, Nat.le_of_ble_eq_true rfl, rfl⟩ ?_
  refine PW_vreturn c_E_init_30 rfl ?_
  show PW _ _ _ 102 [some (.ref 5), some (.ref 6), some (.ref 22), none, none] [.ref 46, .ref 5] cw_71
  refine PW_put (w2 := cw_72) c_G_init_102 fp_G_init_65 rfl ⟨_, rfl, Nat.le_of_ble_eq_true rfl, rfl⟩ ?_
  refine PW_aload_n c_G_init_105 rfl ?_
  refine PW_new (a := 49) (mc := 20) (ms := 634) c_G_init_106 nl_G_init_69 rfl rfl ?_
  show PW _ _ _ 109 [some (.ref 5), some (.ref 6), some (.ref 22), none, none] [.ref 49, .ref 5] cw_73
  refine PW_dup c_G_init_109 rfl ?_
  refine PW_aload_n c_G_init_110 rfl ?_
  refine PW_Ic (d2 := 98) (mc2 := 4) (ms2 := 160) (mc := 16) (ms := 474) (st := [.ref 49, .ref 5]) [.ref 6] c_G_init_111 lk_G_init_71 rfl rfl rfl (Nat.le_of_ble_eq_true rfl) (by decide) (by decide) ?_
  show PW _ _ _ 0 [some (.ref 49), some (.ref 6)] [] cw_73
  refine PW_aload_n c_C_init_0 rfl ?_
  refine PW_objInit c_C_init_1 ol_C_1 ol_i ol_c (by decide) (by decide) ?_
  refine PW_aload_n c_C_init_4 rfl ?_
  refine PW_bipush (v := 40) c_C_init_5 (by decide) ?_
  refine PW_newa (ty := .int) (t0 := 0) (N := 40) (a := 50) (x := .inl (fun _ => 0)) (mc := 3) (ms := 120) c_C_init_7 rfl ac_int rfl (fun g cA => by rfl) (by decide) rfl (by decide) rfl ?_
  show PW _ _ _ 9 [some (.ref 49), some (.ref 6)] [.ref 50, .ref 49] cw_74
  refine PW_put (w2 := cw_75) c_C_init_9 fp_C_init_9 rfl ⟨_, rfl, Nat.le_of_ble_eq_true rfl, rfl⟩ ?_
  refine PW_aload_n c_C_init_12 rfl ?_
  refine PW_bipush (v := 40) c_C_init_13 (by decide) ?_
  refine PW_newa (ty := .int) (t0 := 0) (N := 40) (a := 51) (x := .inl (fun _ => 0)) (mc := 2) (ms := 80) c_C_init_15 rfl ac_int rfl (fun g cA => by rfl) (by decide) rfl (by decide) rfl ?_
  show PW _ _ _ 17 [some (.ref 49), some (.ref 6)] [.ref 51, .ref 49] cw_76
  refine PW_put (w2 := cw_77) c_C_init_17 fp_C_init_13 rfl ⟨_, rfl, Nat.le_of_ble_eq_true rfl, rfl⟩ ?_
  refine PW_aload_n c_C_init_20 rfl ?_
  refine PW_bipush (v := 40) c_C_init_21 (by decide) ?_
  refine PW_newa (ty := .int) (t0 := 0) (N := 40) (a := 52) (x := .inl (fun _ => 0)) (mc := 1) (ms := 40) c_C_init_23 rfl ac_int rfl (fun g cA => by rfl) (by decide) rfl (by decide) rfl ?_
  show PW _ _ _ 25 [some (.ref 49), some (.ref 6)] [.ref 52, .ref 49] cw_78
  refine PW_put (w2 := cw_79) c_C_init_25 fp_C_init_16 rfl ⟨_, rfl, Nat.le_of_ble_eq_true rfl, rfl⟩ ?_
  refine PW_aload_n c_C_init_28 rfl ?_
  refine PW_bipush (v := 40) c_C_init_29 (by decide) ?_
  refine PW_newa (ty := .int) (t0 := 0) (N := 40) (a := 53) (x := .inl (fun _ => 0)) (mc := 0) (ms := 0) c_C_init_31 rfl ac_int rfl (fun g cA => by rfl) (by decide) rfl (by decide) rfl ?_
  show PW _ _ _ 33 [some (.ref 49), some (.ref 6)] [.ref 53, .ref 49] cw_80
  refine PW_put (w2 := cw_81) c_C_init_33 fp_C_init_19 rfl ⟨_, rfl, Nat.le_of_ble_eq_true rfl, rfl⟩ ?_
  refine PW_aload_n c_C_init_36 rfl ?_
  refine PW_aload_n c_C_init_37 rfl ?_
  refine PW_put (w2 := cw_82) c_C_init_38 fp_C_init_22 rfl ⟨_, rfl, Nat.le_of_ble_eq_true rfl, rfl⟩ ?_
  refine PW_vreturn c_C_init_41 rfl ?_
  show PW _ _ _ 114 [some (.ref 5), some (.ref 6), some (.ref 22), none, none] [.ref 49, .ref 5] cw_82
  refine PW_put (w2 := cw_83) c_G_init_114 fp_G_init_72 rfl ⟨_, rfl, Nat.le_of_ble_eq_true rfl, rfl⟩ ?_
  refine PW_aload_n c_G_init_117 rfl ?_
  refine PW_new (a := 54) (mc := 15) (ms := 470) c_G_init_118 nl_G_init_76 rfl rfl ?_
  show PW _ _ _ 121 [some (.ref 5), some (.ref 6), some (.ref 22), none, none] [.ref 54, .ref 5] cw_84
  refine PW_dup c_G_init_121 rfl ?_
  refine PW_Ic (d2 := 98) (mc2 := 2) (ms2 := 74) (mc := 13) (ms := 396) (st := [.ref 54, .ref 5]) [] c_G_init_122 lk_G_init_78 rfl rfl rfl (Nat.le_of_ble_eq_true rfl) (by decide) (by decide) ?_
  show PW _ _ _ 0 [some (.ref 54)] [] cw_84
  refine PW_aload_n c_B_init_0 rfl ?_
  refine PW_objInit c_B_init_1 ol_B_3 ol_i ol_c (by decide) (by decide) ?_
  refine PW_aload_n c_B_init_4 rfl ?_
  refine PW_bipush (v := 50) c_B_init_5 (by decide) ?_
  refine PW_newa (ty := .int) (t0 := 0) (N := 50) (a := 55) (x := .inl (fun _ => 0)) (mc := 1) (ms := 24) c_B_init_7 rfl ac_int rfl (fun g cA => by rfl) (by decide) rfl (by decide) rfl ?_
  show PW _ _ _ 9 [some (.ref 54)] [.ref 55, .ref 54] cw_85
  refine PW_put (w2 := cw_86) c_B_init_9 fp_B_init_11 rfl ⟨_, rfl, Nat.le_of_ble_eq_true rfl, rfl⟩ ?_
  refine PW_aload_n c_B_init_12 rfl ?_
  refine PW_bipush (v := 24) c_B_init_13 (by decide) ?_
  refine PW_newa (ty := .int) (t0 := 0) (N := 24) (a := 56) (x := .inl (fun _ => 0)) (mc := 0) (ms := 0) c_B_init_15 rfl ac_int rfl (fun g cA => by rfl) (by decide) rfl (by decide) rfl ?_
  show PW _ _ _ 17 [some (.ref 54)] [.ref 56, .ref 54] cw_87
  refine PW_put (w2 := cw_88) c_B_init_17 fp_B_init_15 rfl ⟨_, rfl, Nat.le_of_ble_eq_true rfl, rfl⟩ ?_
  refine PW_vreturn c_B_init_20 rfl ?_
  show PW _ _ _ 125 [some (.ref 5), some (.ref 6), some (.ref 22), none, none] [.ref 54, .ref 5] cw_88
  refine PW_put (w2 := cw_89) c_G_init_125 fp_G_init_79 rfl ⟨_, rfl, Nat.le_of_ble_eq_true rfl, rfl⟩ ?_
  refine PW_bipush (v := 6) c_G_init_128 (by decide) ?_
  refine PW_newq (N := 6) (a := 57) (mc := 12) (ms := 390) c_G_init_130 cl_shelf (by decide) rfl (by decide) rfl ?_
  show PW _ _ _ 133 [some (.ref 5), some (.ref 6), some (.ref 22), none, none] [.ref 57] cw_90
  refine PW_astore_n (i := 3) (L2 := [some (.ref 5), some (.ref 6), some (.ref 22), some (.ref 57), none]) c_G_init_133 rfl (Nat.le_of_ble_eq_true rfl) rfl rfl ?_
  refine PW_iconst (v := 0) c_G_init_134 (by decide) ?_
  refine PW_istore (i := 4) (L2 := [some (.ref 5), some (.ref 6), some (.ref 22), some (.ref 57), some (.int 0)]) c_G_init_135 (Nat.le_of_ble_eq_true rfl) rfl rfl ?_
  refine PW_iload c_G_init_137 rfl ?_
  refine PW_aload_n c_G_init_139 rfl ?_
  refine PW_alen (v := 6) c_G_init_140 rfl (t0 := 4) rfl (by decide) ?_
  refine PW_icmp_ge c_G_init_141 (fun q => absurd q (by decide)) (fun _ => ?_)
  refine PW_aload_n c_G_init_144 rfl ?_
  refine PW_iload c_G_init_145 rfl ?_
  refine PW_new (a := 58) (mc := 11) (ms := 385) c_G_init_147 nl_G_init_83 rfl rfl ?_
  show PW _ _ _ 150 [some (.ref 5), some (.ref 6), some (.ref 22), some (.ref 57), some (.int 0)] [.ref 58, .int 0, .ref 57] cw_91
  refine PW_dup c_G_init_150 rfl ?_
  refine PW_Ic (d2 := 98) (mc2 := 1) (ms2 := 60) (mc := 10) (ms := 325) (st := [.ref 58, .int 0, .ref 57]) [] c_G_init_151 lk_G_init_85 rfl rfl rfl (Nat.le_of_ble_eq_true rfl) (by decide) (by decide) ?_
  show PW _ _ _ 0 [some (.ref 58)] [] cw_91
  refine PW_aload_n c_F_init_0 rfl ?_
  refine PW_objInit c_F_init_1 ol_F_3 ol_i ol_c (by decide) (by decide) ?_
  refine PW_aload_n c_F_init_4 rfl ?_
  refine PW_bipush (v := 60) c_F_init_5 (by decide) ?_
  refine PW_newa (ty := .long) (t0 := 1) (N := 60) (a := 59) (x := .inr (.inl (fun _ => 0))) (mc := 0) (ms := 0) c_F_init_7 rfl ac_long rfl (fun g cA => by rfl) (by decide) rfl (by decide) rfl ?_
  show PW _ _ _ 9 [some (.ref 58)] [.ref 59, .ref 58] cw_92
  refine PW_put (w2 := cw_93) c_F_init_9 fp_F_init_11 rfl ⟨_, rfl, Nat.le_of_ble_eq_true rfl, rfl⟩ ?_
  refine PW_aload_n c_F_init_12 rfl ?_
  refine PW_iconst (v := 0) c_F_init_13 (by decide) ?_
  refine PW_put (w2 := cw_94) c_F_init_14 fp_F_init_15 rfl ⟨_, rfl, Nat.le_of_ble_eq_true rfl, rfl⟩ ?_
  refine PW_vreturn c_F_init_17 rfl ?_
  show PW _ _ _ 154 [some (.ref 5), some (.ref 6), some (.ref 22), some (.ref 57), some (.int 0)] [.ref 58, .int 0, .ref 57] cw_94
  refine PW_astq (r := (R_Shelf, F_Shelf, 5)) (t0 := 4) (j := 0) (w2 := cw_95) c_G_init_154 rfl rfl rfl rfl (vp_in_iff.mpr (by decide)) rfl rfl ?_
  refine PW_iinc (i := 4) (v := 1) (L2 := [some (.ref 5), some (.ref 6), some (.ref 22), some (.ref 57), some (.int 1)]) c_G_init_155 rfl (by decide) (Nat.le_of_ble_eq_true rfl) rfl rfl ?_
  refine PW_goto c_G_init_158 ?_
  refine PW_iload c_G_init_137 rfl ?_
  refine PW_aload_n c_G_init_139 rfl ?_
  refine PW_alen (v := 6) c_G_init_140 rfl (t0 := 4) rfl (by decide) ?_
  refine PW_icmp_ge c_G_init_141 (fun q => absurd q (by decide)) (fun _ => ?_)
  refine PW_aload_n c_G_init_144 rfl ?_
  refine PW_iload c_G_init_145 rfl ?_
  refine PW_new (a := 60) (mc := 9) (ms := 320) c_G_init_147 nl_G_init_83 rfl rfl ?_
  show PW _ _ _ 150 [some (.ref 5), some (.ref 6), some (.ref 22), some (.ref 57), some (.int 1)] [.ref 60, .int 1, .ref 57] cw_96
  refine PW_dup c_G_init_150 rfl ?_
  refine PW_Ic (d2 := 98) (mc2 := 1) (ms2 := 60) (mc := 8) (ms := 260) (st := [.ref 60, .int 1, .ref 57]) [] c_G_init_151 lk_G_init_85 rfl rfl rfl (Nat.le_of_ble_eq_true rfl) (by decide) (by decide) ?_
  show PW _ _ _ 0 [some (.ref 60)] [] cw_96
  refine PW_aload_n c_F_init_0 rfl ?_
  refine PW_objInit c_F_init_1 ol_F_3 ol_i ol_c (by decide) (by decide) ?_
  refine PW_aload_n c_F_init_4 rfl ?_
  refine PW_bipush (v := 60) c_F_init_5 (by decide) ?_
  refine PW_newa (ty := .long) (t0 := 1) (N := 60) (a := 61) (x := .inr (.inl (fun _ => 0))) (mc := 0) (ms := 0) c_F_init_7 rfl ac_long rfl (fun g cA => by rfl) (by decide) rfl (by decide) rfl ?_
  show PW _ _ _ 9 [some (.ref 60)] [.ref 61, .ref 60] cw_97
  refine PW_put (w2 := cw_98) c_F_init_9 fp_F_init_11 rfl ⟨_, rfl, Nat.le_of_ble_eq_true rfl, rfl⟩ ?_
  refine PW_aload_n c_F_init_12 rfl ?_
  refine PW_iconst (v := 0) c_F_init_13 (by decide) ?_
  refine PW_put (w2 := cw_99) c_F_init_14 fp_F_init_15 rfl ⟨_, rfl, Nat.le_of_ble_eq_true rfl, rfl⟩ ?_
  refine PW_vreturn c_F_init_17 rfl ?_
  show PW _ _ _ 154 [some (.ref 5), some (.ref 6), some (.ref 22), some (.ref 57), some (.int 1)] [.ref 60, .int 1, .ref 57] cw_99
  refine PW_astq (r := (R_Shelf, F_Shelf, 5)) (t0 := 4) (j := 1) (w2 := cw_100) c_G_init_154 rfl rfl rfl rfl (vp_in_iff.mpr (by decide)) rfl rfl ?_
  refine PW_iinc (i := 4) (v := 2) (L2 := [some (.ref 5), some (.ref 6), some (.ref 22), some (.ref 57), some (.int 2)]) c_G_init_155 rfl (by decide) (Nat.le_of_ble_eq_true rfl) rfl rfl ?_
  refine PW_goto c_G_init_158 ?_
  refine PW_iload c_G_init_137 rfl ?_
  refine PW_aload_n c_G_init_139 rfl ?_
  refine PW_alen (v := 6) c_G_init_140 rfl (t0 := 4) rfl (by decide) ?_
  refine PW_icmp_ge c_G_init_141 (fun q => absurd q (by decide)) (fun _ => ?_)
  refine PW_aload_n c_G_init_144 rfl ?_
  refine PW_iload c_G_init_145 rfl ?_
  refine PW_new (a := 62) (mc := 7) (ms := 255) c_G_init_147 nl_G_init_83 rfl rfl ?_
  show PW _ _ _ 150 [some (.ref 5), some (.ref 6), some (.ref 22), some (.ref 57), some (.int 2)] [.ref 62, .int 2, .ref 57] cw_101
  refine PW_dup c_G_init_150 rfl ?_
  refine PW_Ic (d2 := 98) (mc2 := 1) (ms2 := 60) (mc := 6) (ms := 195) (st := [.ref 62, .int 2, .ref 57]) [] c_G_init_151 lk_G_init_85 rfl rfl rfl (Nat.le_of_ble_eq_true rfl) (by decide) (by decide) ?_
  show PW _ _ _ 0 [some (.ref 62)] [] cw_101
  refine PW_aload_n c_F_init_0 rfl ?_
  refine PW_objInit c_F_init_1 ol_F_3 ol_i ol_c (by decide) (by decide) ?_
  refine PW_aload_n c_F_init_4 rfl ?_
  refine PW_bipush (v := 60) c_F_init_5 (by decide) ?_
  refine PW_newa (ty := .long) (t0 := 1) (N := 60) (a := 63) (x := .inr (.inl (fun _ => 0))) (mc := 0) (ms := 0) c_F_init_7 rfl ac_long rfl (fun g cA => by rfl) (by decide) rfl (by decide) rfl ?_
  show PW _ _ _ 9 [some (.ref 62)] [.ref 63, .ref 62] cw_102
  refine PW_put (w2 := cw_103) c_F_init_9 fp_F_init_11 rfl ⟨_, rfl, Nat.le_of_ble_eq_true rfl, rfl⟩ ?_
  refine PW_aload_n c_F_init_12 rfl ?_
  refine PW_iconst (v := 0) c_F_init_13 (by decide) ?_
  refine PW_put (w2 := cw_104) c_F_init_14 fp_F_init_15 rfl ⟨_, rfl, Nat.le_of_ble_eq_true rfl, rfl⟩ ?_
  refine PW_vreturn c_F_init_17 rfl ?_
  show PW _ _ _ 154 [some (.ref 5), some (.ref 6), some (.ref 22), some (.ref 57), some (.int 2)] [.ref 62, .int 2, .ref 57] cw_104
  refine PW_astq (r := (R_Shelf, F_Shelf, 5)) (t0 := 4) (j := 2) (w2 := cw_105) c_G_init_154 rfl rfl rfl rfl (vp_in_iff.mpr (by decide)) rfl rfl ?_
  refine PW_iinc (i := 4) (v := 3) (L2 := [some (.ref 5), some (.ref 6), some (.ref 22), some (.ref 57), some (.int 3)]) c_G_init_155 rfl (by decide) (Nat.le_of_ble_eq_true rfl) rfl rfl ?_
  refine PW_goto c_G_init_158 ?_
  refine PW_iload c_G_init_137 rfl ?_
  refine PW_aload_n c_G_init_139 rfl ?_
  refine PW_alen (v := 6) c_G_init_140 rfl (t0 := 4) rfl (by decide) ?_
  refine PW_icmp_ge c_G_init_141 (fun q => absurd q (by decide)) (fun _ => ?_)
  refine PW_aload_n c_G_init_144 rfl ?_
  refine PW_iload c_G_init_145 rfl ?_
  refine PW_new (a := 64) (mc := 5) (ms := 190) c_G_init_147 nl_G_init_83 rfl rfl ?_
  show PW _ _ _ 150 [some (.ref 5), some (.ref 6), some (.ref 22), some (.ref 57), some (.int 3)] [.ref 64, .int 3, .ref 57] cw_106
  refine PW_dup c_G_init_150 rfl ?_
  refine PW_Ic (d2 := 98) (mc2 := 1) (ms2 := 60) (mc := 4) (ms := 130) (st := [.ref 64, .int 3, .ref 57]) [] c_G_init_151 lk_G_init_85 rfl rfl rfl (Nat.le_of_ble_eq_true rfl) (by decide) (by decide) ?_
  show PW _ _ _ 0 [some (.ref 64)] [] cw_106
  refine PW_aload_n c_F_init_0 rfl ?_
  refine PW_objInit c_F_init_1 ol_F_3 ol_i ol_c (by decide) (by decide) ?_
  refine PW_aload_n c_F_init_4 rfl ?_
  refine PW_bipush (v := 60) c_F_init_5 (by decide) ?_
  refine PW_newa (ty := .long) (t0 := 1) (N := 60) (a := 65) (x := .inr (.inl (fun _ => 0))) (mc := 0) (ms := 0) c_F_init_7 rfl ac_long rfl (fun g cA => by rfl) (by decide) rfl (by decide) rfl ?_
  show PW _ _ _ 9 [some (.ref 64)] [.ref 65, .ref 64] cw_107
  refine PW_put (w2 := cw_108) c_F_init_9 fp_F_init_11 rfl ⟨_, rfl, Nat.le_of_ble_eq_true rfl, rfl⟩ ?_
  refine PW_aload_n c_F_init_12 rfl ?_
  refine PW_iconst (v := 0) c_F_init_13 (by decide) ?_
  refine PW_put (w2 := cw_109) c_F_init_14 fp_F_init_15 rfl ⟨_, rfl, Nat.le_of_ble_eq_true rfl, rfl⟩ ?_
  refine PW_vreturn c_F_init_17 rfl ?_
  show PW _ _ _ 154 [some (.ref 5), some (.ref 6), some (.ref 22), some (.ref 57), some (.int 3)] [.ref 64, .int 3, .ref 57] cw_109
  refine PW_astq (r := (R_Shelf, F_Shelf, 5)) (t0 := 4) (j := 3) (w2 := cw_110) c_G_init_154 rfl rfl rfl rfl (vp_in_iff.mpr (by decide)) rfl rfl ?_
  refine PW_iinc (i := 4) (v := 4) (L2 := [some (.ref 5), some (.ref 6), some (.ref 22), some (.ref 57), some (.int 4)]) c_G_init_155 rfl (by decide) (Nat.le_of_ble_eq_true rfl) rfl rfl ?_
  refine PW_goto c_G_init_158 ?_
  refine PW_iload c_G_init_137 rfl ?_
  refine PW_aload_n c_G_init_139 rfl ?_
  refine PW_alen (v := 6) c_G_init_140 rfl (t0 := 4) rfl (by decide) ?_
  refine PW_icmp_ge c_G_init_141 (fun q => absurd q (by decide)) (fun _ => ?_)
  refine PW_aload_n c_G_init_144 rfl ?_
  refine PW_iload c_G_init_145 rfl ?_
  refine PW_new (a := 66) (mc := 3) (ms := 125) c_G_init_147 nl_G_init_83 rfl rfl ?_
  show PW _ _ _ 150 [some (.ref 5), some (.ref 6), some (.ref 22), some (.ref 57), some (.int 4)] [.ref 66, .int 4, .ref 57] cw_111
  refine PW_dup c_G_init_150 rfl ?_
  refine PW_Ic (d2 := 98) (mc2 := 1) (ms2 := 60) (mc := 2) (ms := 65) (st := [.ref 66, .int 4, .ref 57]) [] c_G_init_151 lk_G_init_85 rfl rfl rfl (Nat.le_of_ble_eq_true rfl) (by decide) (by decide) ?_
  show PW _ _ _ 0 [some (.ref 66)] [] cw_111
  refine PW_aload_n c_F_init_0 rfl ?_
  refine PW_objInit c_F_init_1 ol_F_3 ol_i ol_c (by decide) (by decide) ?_
  refine PW_aload_n c_F_init_4 rfl ?_
  refine PW_bipush (v := 60) c_F_init_5 (by decide) ?_
  refine PW_newa (ty := .long) (t0 := 1) (N := 60) (a := 67) (x := .inr (.inl (fun _ => 0))) (mc := 0) (ms := 0) c_F_init_7 rfl ac_long rfl (fun g cA => by rfl) (by decide) rfl (by decide) rfl ?_
  show PW _ _ _ 9 [some (.ref 66)] [.ref 67, .ref 66] cw_112
  refine PW_put (w2 := cw_113) c_F_init_9 fp_F_init_11 rfl ⟨_, rfl, Nat.le_of_ble_eq_true rfl, rfl⟩ ?_
  refine PW_aload_n c_F_init_12 rfl ?_
  refine PW_iconst (v := 0) c_F_init_13 (by decide) ?_
  refine PW_put (w2 := cw_114) c_F_init_14 fp_F_init_15 rfl ⟨_, rfl, Nat.le_of_ble_eq_true rfl, rfl⟩ ?_
  refine PW_vreturn c_F_init_17 rfl ?_
  show PW _ _ _ 154 [some (.ref 5), some (.ref 6), some (.ref 22), some (.ref 57), some (.int 4)] [.ref 66, .int 4, .ref 57] cw_114
  refine PW_astq (r := (R_Shelf, F_Shelf, 5)) (t0 := 4) (j := 4) (w2 := cw_115) c_G_init_154 rfl rfl rfl rfl (vp_in_iff.mpr (by decide)) rfl rfl ?_
  refine PW_iinc (i := 4) (v := 5) (L2 := [some (.ref 5), some (.ref 6), some (.ref 22), some (.ref 57), some (.int 5)]) c_G_init_155 rfl (by decide) (Nat.le_of_ble_eq_true rfl) rfl rfl ?_
  refine PW_goto c_G_init_158 ?_
  refine PW_iload c_G_init_137 rfl ?_
  refine PW_aload_n c_G_init_139 rfl ?_
  refine PW_alen (v := 6) c_G_init_140 rfl (t0 := 4) rfl (by decide) ?_
  refine PW_icmp_ge c_G_init_141 (fun q => absurd q (by decide)) (fun _ => ?_)
  refine PW_aload_n c_G_init_144 rfl ?_
  refine PW_iload c_G_init_145 rfl ?_
  refine PW_new (a := 68) (mc := 1) (ms := 60) c_G_init_147 nl_G_init_83 rfl rfl ?_
  show PW _ _ _ 150 [some (.ref 5), some (.ref 6), some (.ref 22), some (.ref 57), some (.int 5)] [.ref 68, .int 5, .ref 57] cw_116
  refine PW_dup c_G_init_150 rfl ?_
  refine PW_Ic (d2 := 98) (mc2 := 1) (ms2 := 60) (mc := 0) (ms := 0) (st := [.ref 68, .int 5, .ref 57]) [] c_G_init_151 lk_G_init_85 rfl rfl rfl (Nat.le_of_ble_eq_true rfl) (by decide) (by decide) ?_
  show PW _ _ _ 0 [some (.ref 68)] [] cw_116
  refine PW_aload_n c_F_init_0 rfl ?_
  refine PW_objInit c_F_init_1 ol_F_3 ol_i ol_c (by decide) (by decide) ?_
  refine PW_aload_n c_F_init_4 rfl ?_
  refine PW_bipush (v := 60) c_F_init_5 (by decide) ?_
  refine PW_newa (ty := .long) (t0 := 1) (N := 60) (a := 69) (x := .inr (.inl (fun _ => 0))) (mc := 0) (ms := 0) c_F_init_7 rfl ac_long rfl (fun g cA => by rfl) (by decide) rfl (by decide) rfl ?_
  show PW _ _ _ 9 [some (.ref 68)] [.ref 69, .ref 68] cw_117
  refine PW_put (w2 := cw_118) c_F_init_9 fp_F_init_11 rfl ⟨_, rfl, Nat.le_of_ble_eq_true rfl, rfl⟩ ?_
  refine PW_aload_n c_F_init_12 rfl ?_
  refine PW_iconst (v := 0) c_F_init_13 (by decide) ?_
  refine PW_put (w2 := cw_119) c_F_init_14 fp_F_init_15 rfl ⟨_, rfl, Nat.le_of_ble_eq_true rfl, rfl⟩ ?_
  refine PW_vreturn c_F_init_17 rfl ?_
  show PW _ _ _ 154 [some (.ref 5), some (.ref 6), some (.ref 22), some (.ref 57), some (.int 5)] [.ref 68, .int 5, .ref 57] cw_119
  refine PW_astq (r := (R_Shelf, F_Shelf, 5)) (t0 := 4) (j := 5) (w2 := cw_120) c_G_init_154 rfl rfl rfl rfl (vp_in_iff.mpr (by decide)) rfl rfl ?_
  refine PW_iinc (i := 4) (v := 6) (L2 := [some (.ref 5), some (.ref 6), some (.ref 22), some (.ref 57), some (.int 6)]) c_G_init_155 rfl (by decide) (Nat.le_of_ble_eq_true rfl) rfl rfl ?_
  refine PW_goto c_G_init_158 ?_
  refine PW_iload c_G_init_137 rfl ?_
  refine PW_aload_n c_G_init_139 rfl ?_
  refine PW_alen (v := 6) c_G_init_140 rfl (t0 := 4) rfl (by decide) ?_
  refine PW_icmp_ge c_G_init_141 (fun _ => ?_) (fun q => absurd (by decide) q)
  refine PW_aload_n c_G_init_161 rfl ?_
  refine PW_aload_n c_G_init_162 rfl ?_
  refine PW_put (w2 := cw_121) c_G_init_163 fp_G_init_86 rfl ⟨_, rfl, Nat.le_of_ble_eq_true rfl, rfl⟩ ?_
  refine PW_vreturn c_G_init_166 rfl ?_
  show PW _ _ _ 7 [some (.ref 4), none, none, none] [.ref 5] cw_121
  refine PW_astore_n (i := 1) (L2 := [some (.ref 4), some (.ref 5), none, none]) c_W_law_7 rfl (Nat.le_of_ble_eq_true rfl) rfl rfl ?_
  refine PW_new (a := 70) (mc := 134) (ms := 17157) c_W_law_8 nl_W_law_10 rfl rfl ?_
  show PW _ _ _ 11 [some (.ref 4), some (.ref 5), none, none] [.ref 70] cw_122
  refine PW_dup c_W_law_11 rfl ?_
  refine PW_Ic (d2 := 99) (mc2 := 37) (ms2 := 1903) (mc := 97) (ms := 15254) (st := [.ref 70]) [] c_W_law_12 lk_W_law_12 rfl rfl rfl (Nat.le_of_ble_eq_true rfl) (by decide) (by decide) ?_
  show PW _ _ _ 0 [some (.ref 70)] [] cw_122
  refine PW_aload_n c_M_init_0 rfl ?_
  refine PW_objInit c_M_init_1 ol_M_1 ol_i ol_c (by decide) (by decide) ?_
  refine PW_aload_n c_M_init_4 rfl ?_
  refine PW_bipush (v := 10) c_M_init_5 (by decide) ?_
  refine PW_newa (ty := .int) (t0 := 0) (N := 10) (a := 71) (x := .inl (fun _ => 0)) (mc := 36) (ms := 1893) c_M_init_7 rfl ac_int rfl (fun g cA => by rfl) (by decide) rfl (by decide) rfl ?_
  show PW _ _ _ 9 [some (.ref 70)] [.ref 71, .ref 70] cw_123
  refine PW_put (w2 := cw_124) c_M_init_9 fp_M_init_7 rfl ⟨_, rfl, Nat.le_of_ble_eq_true rfl, rfl⟩ ?_
  refine PW_aload_n c_M_init_12 rfl ?_
  refine PW_bipush (v := 10) c_M_init_13 (by decide) ?_
  refine PW_newa (ty := .int) (t0 := 0) (N := 10) (a := 72) (x := .inl (fun _ => 0)) (mc := 35) (ms := 1883) c_M_init_15 rfl ac_int rfl (fun g cA => by rfl) (by decide) rfl (by decide) rfl ?_
  show PW _ _ _ 17 [some (.ref 70)] [.ref 72, .ref 70] cw_125
  refine PW_put (w2 := cw_126) c_M_init_17 fp_M_init_13 rfl ⟨_, rfl, Nat.le_of_ble_eq_true rfl, rfl⟩ ?_
  refine PW_aload_n c_M_init_20 rfl ?_
  refine PW_bipush (v := 10) c_M_init_21 (by decide) ?_
  refine PW_newa (ty := .int) (t0 := 0) (N := 10) (a := 73) (x := .inl (fun _ => 0)) (mc := 34) (ms := 1873) c_M_init_23 rfl ac_int rfl (fun g cA => by rfl) (by decide) rfl (by decide) rfl ?_
  show PW _ _ _ 25 [some (.ref 70)] [.ref 73, .ref 70] cw_127
  refine PW_put (w2 := cw_128) c_M_init_25 fp_M_init_16 rfl ⟨_, rfl, Nat.le_of_ble_eq_true rfl, rfl⟩ ?_
  refine PW_aload_n c_M_init_28 rfl ?_
  refine PW_bipush (v := 10) c_M_init_29 (by decide) ?_
  refine PW_newa (ty := .int) (t0 := 0) (N := 10) (a := 74) (x := .inl (fun _ => 0)) (mc := 33) (ms := 1863) c_M_init_31 rfl ac_int rfl (fun g cA => by rfl) (by decide) rfl (by decide) rfl ?_
  show PW _ _ _ 33 [some (.ref 70)] [.ref 74, .ref 70] cw_129
  refine PW_put (w2 := cw_130) c_M_init_33 fp_M_init_19 rfl ⟨_, rfl, Nat.le_of_ble_eq_true rfl, rfl⟩ ?_
  refine PW_aload_n c_M_init_36 rfl ?_
  refine PW_bipush (v := 10) c_M_init_37 (by decide) ?_
  refine PW_newa (ty := .int) (t0 := 0) (N := 10) (a := 75) (x := .inl (fun _ => 0)) (mc := 32) (ms := 1853) c_M_init_39 rfl ac_int rfl (fun g cA => by rfl) (by decide) rfl (by decide) rfl ?_
  show PW _ _ _ 41 [some (.ref 70)] [.ref 75, .ref 70] cw_131
  refine PW_put (w2 := cw_132) c_M_init_41 fp_M_init_22 rfl ⟨_, rfl, Nat.le_of_ble_eq_true rfl, rfl⟩ ?_
  refine PW_aload_n c_M_init_44 rfl ?_
  refine PW_bipush (v := 10) c_M_init_45 (by decide) ?_
  refine PW_newa (ty := .int) (t0 := 0) (N := 10) (a := 76) (x := .inl (fun _ => 0)) (mc := 31) (ms := 1843) c_M_init_47 rfl ac_int rfl (fun g cA => by rfl) (by decide) rfl (by decide) rfl ?_
  show PW _ _ _ 49 [some (.ref 70)] [.ref 76, .ref 70] cw_133
  refine PW_put (w2 := cw_134) c_M_init_49 fp_M_init_25 rfl ⟨_, rfl, Nat.le_of_ble_eq_true rfl, rfl⟩ ?_
  refine PW_aload_n c_M_init_52 rfl ?_
  refine PW_bipush (v := 10) c_M_init_53 (by decide) ?_
  refine PW_newa (ty := .int) (t0 := 0) (N := 10) (a := 77) (x := .inl (fun _ => 0)) (mc := 30) (ms := 1833) c_M_init_55 rfl ac_int rfl (fun g cA => by rfl) (by decide) rfl (by decide) rfl ?_
  show PW _ _ _ 57 [some (.ref 70)] [.ref 77, .ref 70] cw_135
  refine PW_put (w2 := cw_136) c_M_init_57 fp_M_init_28 rfl ⟨_, rfl, Nat.le_of_ble_eq_true rfl, rfl⟩ ?_
  refine PW_aload_n c_M_init_60 rfl ?_
  refine PW_iconst (v := 4) c_M_init_61 (by decide) ?_
  refine PW_newa (ty := .int) (t0 := 0) (N := 4) (a := 78) (x := .inl (fun _ => 0)) (mc := 29) (ms := 1829) c_M_init_62 rfl ac_int rfl (fun g cA => by rfl) (by decide) rfl (by decide) rfl ?_
  show PW _ _ _ 64 [some (.ref 70)] [.ref 78, .ref 70] cw_137
  refine PW_dup c_M_init_64 rfl ?_
  refine PW_iconst (v := 0) c_M_init_65 (by decide) ?_
  refine PW_iconst (v := 1) c_M_init_66 (by decide) ?_
  refine PW_iast (j := 0) (w2 := cw_138) c_M_init_67 rfl (vp_in_iff.mpr (by decide)) rfl rfl ?_
  refine PW_dup c_M_init_68 rfl ?_
  refine PW_iconst (v := 1) c_M_init_69 (by decide) ?_
  refine PW_iconst (v := 1) c_M_init_70 (by decide) ?_
  refine PW_iast (j := 1) (w2 := cw_139) c_M_init_71 rfl (vp_in_iff.mpr (by decide)) rfl rfl ?_
  refine PW_dup c_M_init_72 rfl ?_
  refine PW_iconst (v := 2) c_M_init_73 (by decide) ?_
  refine PW_iconst (v := 1) c_M_init_74 (by decide) ?_
  refine PW_iast (j := 2) (w2 := cw_140) c_M_init_75 rfl (vp_in_iff.mpr (by decide)) rfl rfl ?_
  refine PW_dup c_M_init_76 rfl ?_
  refine PW_iconst (v := 3) c_M_init_77 (by decide) ?_
  refine PW_iconst (v := 1) c_M_init_78 (by decide) ?_
  refine PW_iast (j := 3) (w2 := cw_141) c_M_init_79 rfl (vp_in_iff.mpr (by decide)) rfl rfl ?_
  refine PW_put (w2 := cw_142) c_M_init_80 fp_M_init_31 rfl ⟨_, rfl, Nat.le_of_ble_eq_true rfl, rfl⟩ ?_
  refine PW_aload_n c_M_init_83 rfl ?_
  refine PW_bipush (v := 40) c_M_init_84 (by decide) ?_
  refine PW_newa (ty := .int) (t0 := 0) (N := 40) (a := 79) (x := .inl (fun _ => 0)) (mc := 28) (ms := 1789) c_M_init_86 rfl ac_int rfl (fun g cA => by rfl) (by decide) rfl (by decide) rfl ?_
  show PW _ _ _ 88 [some (.ref 70)] [.ref 79, .ref 70] cw_143
  refine PW_put (w2 := cw_144) c_M_init_88 fp_M_init_34 rfl ⟨_, rfl, Nat.le_of_ble_eq_true rfl, rfl⟩ ?_
  refine PW_aload_n c_M_init_91 rfl ?_
  refine PW_bipush (v := 40) c_M_init_92 (by decide) ?_
  refine PW_newa (ty := .int) (t0 := 0) (N := 40) (a := 80) (x := .inl (fun _ => 0)) (mc := 27) (ms := 1749) c_M_init_94 rfl ac_int rfl (fun g cA => by rfl) (by decide) rfl (by decide) rfl ?_
  show PW _ _ _ 96 [some (.ref 70)] [.ref 80, .ref 70] cw_145
  refine PW_put (w2 := cw_146) c_M_init_96 fp_M_init_37 rfl ⟨_, rfl, Nat.le_of_ble_eq_true rfl, rfl⟩ ?_
  refine PW_aload_n c_M_init_99 rfl ?_
  refine PW_bipush (v := 40) c_M_init_100 (by decide) ?_
  refine PW_newa (ty := .int) (t0 := 0) (N := 40) (a := 81) (x := .inl (fun _ => 0)) (mc := 26) (ms := 1709) c_M_init_102 rfl ac_int rfl (fun g cA => by rfl) (by decide) rfl (by decide) rfl ?_
  show PW _ _ _ 104 [some (.ref 70)] [.ref 81, .ref 70] cw_147
  refine PW_put (w2 := cw_148) c_M_init_104 fp_M_init_40 rfl ⟨_, rfl, Nat.le_of_ble_eq_true rfl, rfl⟩ ?_
  refine PW_aload_n c_M_init_107 rfl ?_
  refine PW_bipush (v := 40) c_M_init_108 (by decide) ?_
  refine PW_newa (ty := .int) (t0 := 0) (N := 40) (a := 82) (x := .inl (fun _ => 0)) (mc := 25) (ms := 1669) c_M_init_110 rfl ac_int rfl (fun g cA => by rfl) (by decide) rfl (by decide) rfl ?_
  show PW _ _ _ 112 [some (.ref 70)] [.ref 82, .ref 70] cw_149
  refine PW_put (w2 := cw_150) c_M_init_112 fp_M_init_43 rfl ⟨_, rfl, Nat.le_of_ble_eq_true rfl, rfl⟩ ?_
  refine PW_aload_n c_M_init_115 rfl ?_
  refine PW_bipush (v := 120) c_M_init_116 (by decide) ?_
  refine PW_newa (ty := .byte) (t0 := 2) (N := 120) (a := 83) (x := .inl (fun _ => 0)) (mc := 24) (ms := 1549) c_M_init_118 rfl ac_byte rfl (fun g cA => by rfl) (by decide) rfl (by decide) rfl ?_
  show PW _ _ _ 120 [some (.ref 70)] [.ref 83, .ref 70] cw_151
  refine PW_put (w2 := cw_152) c_M_init_120 fp_M_init_46 rfl ⟨_, rfl, Nat.le_of_ble_eq_true rfl, rfl⟩ ?_
  refine PW_aload_n c_M_init_123 rfl ?_
  refine PW_sipush (v := 260) c_M_init_124 (by decide) ?_
  refine PW_newa (ty := .byte) (t0 := 2) (N := 260) (a := 84) (x := .inl (fun _ => 0)) (mc := 23) (ms := 1289) c_M_init_127 rfl ac_byte rfl (fun g cA => by rfl) (by decide) rfl (by decide) rfl ?_
  show PW _ _ _ 129 [some (.ref 70)] [.ref 84, .ref 70] cw_153
  refine PW_put (w2 := cw_154) c_M_init_129 fp_M_init_50 rfl ⟨_, rfl, Nat.le_of_ble_eq_true rfl, rfl⟩ ?_
  refine PW_aload_n c_M_init_132 rfl ?_
  refine PW_sipush (v := 260) c_M_init_133 (by decide) ?_
  refine PW_newa (ty := .int) (t0 := 0) (N := 260) (a := 85) (x := .inl (fun _ => 0)) (mc := 22) (ms := 1029) c_M_init_136 rfl ac_int rfl (fun g cA => by rfl) (by decide) rfl (by decide) rfl ?_
  show PW _ _ _ 138 [some (.ref 70)] [.ref 85, .ref 70] cw_155
  refine PW_put (w2 := cw_156) c_M_init_138 fp_M_init_53 rfl ⟨_, rfl, Nat.le_of_ble_eq_true rfl, rfl⟩ ?_
  refine PW_aload_n c_M_init_141 rfl ?_
  refine PW_iconst (v := 2) c_M_init_142 (by decide) ?_
  refine PW_newa (ty := .int) (t0 := 0) (N := 2) (a := 86) (x := .inl (fun _ => 0)) (mc := 21) (ms := 1027) c_M_init_143 rfl ac_int rfl (fun g cA => by rfl) (by decide) rfl (by decide) rfl ?_
  show PW _ _ _ 145 [some (.ref 70)] [.ref 86, .ref 70] cw_157
  refine PW_put (w2 := cw_158) c_M_init_145 fp_M_init_56 rfl ⟨_, rfl, Nat.le_of_ble_eq_true rfl, rfl⟩ ?_
  refine PW_aload_n c_M_init_148 rfl ?_
  refine PW_bipush (v := 122) c_M_init_149 (by decide) ?_
  refine PW_newa (ty := .short) (t0 := 3) (N := 122) (a := 87) (x := .inl (fun _ => 0)) (mc := 20) (ms := 905) c_M_init_151 rfl ac_short rfl (fun g cA => by rfl) (by decide) rfl (by decide) rfl ?_
  show PW _ _ _ 153 [some (.ref 70)] [.ref 87, .ref 70] cw_159
  refine PW_put (w2 := cw_160) c_M_init_153 fp_M_init_59 rfl ⟨_, rfl, Nat.le_of_ble_eq_true rfl, rfl⟩ ?_
  refine PW_aload_n c_M_init_156 rfl ?_
  refine PW_bipush (v := 122) c_M_init_157 (by decide) ?_
  refine PW_newa (ty := .short) (t0 := 3) (N := 122) (a := 88) (x := .inl (fun _ => 0)) (mc := 19) (ms := 783) c_M_init_159 rfl ac_short rfl (fun g cA => by rfl) (by decide) rfl (by decide) rfl ?_
  show PW _ _ _ 161 [some (.ref 70)] [.ref 88, .ref 70] cw_161
  refine PW_put (w2 := cw_162) c_M_init_161 fp_M_init_63 rfl ⟨_, rfl, Nat.le_of_ble_eq_true rfl, rfl⟩ ?_
  refine PW_aload_n c_M_init_164 rfl ?_
  refine PW_iconst (v := 5) c_M_init_165 (by decide) ?_
  refine PW_newa (ty := .int) (t0 := 0) (N := 5) (a := 89) (x := .inl (fun _ => 0)) (mc := 18) (ms := 778) c_M_init_166 rfl ac_int rfl (fun g cA => by rfl) (by decide) rfl (by decide) rfl ?_
  show PW _ _ _ 168 [some (.ref 70)] [.ref 89, .ref 70] cw_163
  refine PW_put (w2 := cw_164) c_M_init_168 fp_M_init_66 rfl ⟨_, rfl, Nat.le_of_ble_eq_true rfl, rfl⟩ ?_
  refine PW_aload_n c_M_init_171 rfl ?_
  refine PW_sipush (v := 130) c_M_init_172 (by decide) ?_
  refine PW_newa (ty := .int) (t0 := 0) (N := 130) (a := 90) (x := .inl (fun _ => 0)) (mc := 17) (ms := 648) c_M_init_175 rfl ac_int rfl (fun g cA => by rfl) (by decide) rfl (by decide) rfl ?_
  show PW _ _ _ 177 [some (.ref 70)] [.ref 90, .ref 70] cw_165
  refine PW_put (w2 := cw_166) c_M_init_177 fp_M_init_69 rfl ⟨_, rfl, Nat.le_of_ble_eq_true rfl, rfl⟩ ?_
  refine PW_aload_n c_M_init_180 rfl ?_
  refine PW_bipush (v := 7) c_M_init_181 (by decide) ?_
  refine PW_newa (ty := .int) (t0 := 0) (N := 7) (a := 91) (x := .inl (fun _ => 0)) (mc := 16) (ms := 641) c_M_init_183 rfl ac_int rfl (fun g cA => by rfl) (by decide) rfl (by decide) rfl ?_
  show PW _ _ _ 185 [some (.ref 70)] [.ref 91, .ref 70] cw_167
  refine PW_put (w2 := cw_168) c_M_init_185 fp_M_init_72 rfl ⟨_, rfl, Nat.le_of_ble_eq_true rfl, rfl⟩ ?_
  refine PW_aload_n c_M_init_188 rfl ?_
  refine PW_bipush (v := 7) c_M_init_189 (by decide) ?_
  refine PW_newa (ty := .int) (t0 := 0) (N := 7) (a := 92) (x := .inl (fun _ => 0)) (mc := 15) (ms := 634) c_M_init_191 rfl ac_int rfl (fun g cA => by rfl) (by decide) rfl (by decide) rfl ?_
  show PW _ _ _ 193 [some (.ref 70)] [.ref 92, .ref 70] cw_169
  refine PW_put (w2 := cw_170) c_M_init_193 fp_M_init_75 rfl ⟨_, rfl, Nat.le_of_ble_eq_true rfl, rfl⟩ ?_
  refine PW_aload_n c_M_init_196 rfl ?_
  refine PW_iconst (v := 2) c_M_init_197 (by decide) ?_
  refine PW_newa (ty := .int) (t0 := 0) (N := 2) (a := 93) (x := .inl (fun _ => 0)) (mc := 14) (ms := 632) c_M_init_198 rfl ac_int rfl (fun g cA => by rfl) (by decide) rfl (by decide) rfl ?_
  show PW _ _ _ 200 [some (.ref 70)] [.ref 93, .ref 70] cw_171
  refine PW_put (w2 := cw_172) c_M_init_200 fp_M_init_78 rfl ⟨_, rfl, Nat.le_of_ble_eq_true rfl, rfl⟩ ?_
  refine PW_aload_n c_M_init_203 rfl ?_
  refine PW_iconst (v := 2) c_M_init_204 (by decide) ?_
  refine PW_newa (ty := .int) (t0 := 0) (N := 2) (a := 94) (x := .inl (fun _ => 0)) (mc := 13) (ms := 630) c_M_init_205 rfl ac_int rfl (fun g cA => by rfl) (by decide) rfl (by decide) rfl ?_
  show PW _ _ _ 207 [some (.ref 70)] [.ref 94, .ref 70] cw_173
  refine PW_put (w2 := cw_174) c_M_init_207 fp_M_init_81 rfl ⟨_, rfl, Nat.le_of_ble_eq_true rfl, rfl⟩ ?_
  refine PW_aload_n c_M_init_210 rfl ?_
  refine PW_iconst (v := 2) c_M_init_211 (by decide) ?_
  refine PW_newa (ty := .int) (t0 := 0) (N := 2) (a := 95) (x := .inl (fun _ => 0)) (mc := 12) (ms := 628) c_M_init_212 rfl ac_int rfl (fun g cA => by rfl) (by decide) rfl (by decide) rfl ?_
  show PW _ _ _ 214 [some (.ref 70)] [.ref 95, .ref 70] cw_175
  refine PW_put (w2 := cw_176) c_M_init_214 fp_M_init_84 rfl ⟨_, rfl, Nat.le_of_ble_eq_true rfl, rfl⟩ ?_
  refine PW_aload_n c_M_init_217 rfl ?_
  refine PW_iconst (v := 2) c_M_init_218 (by decide) ?_
  refine PW_newa (ty := .int) (t0 := 0) (N := 2) (a := 96) (x := .inl (fun _ => 0)) (mc := 11) (ms := 626) c_M_init_219 rfl ac_int rfl (fun g cA => by rfl) (by decide) rfl (by decide) rfl ?_
  show PW _ _ _ 221 [some (.ref 70)] [.ref 96, .ref 70] cw_177
  refine PW_put (w2 := cw_178) c_M_init_221 fp_M_init_87 rfl ⟨_, rfl, Nat.le_of_ble_eq_true rfl, rfl⟩ ?_
  refine PW_aload_n c_M_init_224 rfl ?_
  refine PW_bipush (v := 24) c_M_init_225 (by decide) ?_
  refine PW_newa (ty := .int) (t0 := 0) (N := 24) (a := 97) (x := .inl (fun _ => 0)) (mc := 10) (ms := 602) c_M_init_227 rfl ac_int rfl (fun g cA => by rfl) (by decide) rfl (by decide) rfl ?_
  show PW _ _ _ 229 [some (.ref 70)] [.ref 97, .ref 70] cw_179
  refine PW_put (w2 := cw_180) c_M_init_229 fp_M_init_90 rfl ⟨_, rfl, Nat.le_of_ble_eq_true rfl, rfl⟩ ?_
  refine PW_aload_n c_M_init_232 rfl ?_
  refine PW_bipush (v := 24) c_M_init_233 (by decide) ?_
  refine PW_newa (ty := .int) (t0 := 0) (N := 24) (a := 98) (x := .inl (fun _ => 0)) (mc := 9) (ms := 578) c_M_init_235 rfl ac_int rfl (fun g cA => by rfl) (by decide) rfl (by decide) rfl ?_
  show PW _ _ _ 237 [some (.ref 70)] [.ref 98, .ref 70] cw_181
  refine PW_put (w2 := cw_182) c_M_init_237 fp_M_init_93 rfl ⟨_, rfl, Nat.le_of_ble_eq_true rfl, rfl⟩ ?_
  refine PW_aload_n c_M_init_240 rfl ?_
  refine PW_bipush (v := 60) c_M_init_241 (by decide) ?_
  refine PW_newa (ty := .int) (t0 := 0) (N := 60) (a := 99) (x := .inl (fun _ => 0)) (mc := 8) (ms := 518) c_M_init_243 rfl ac_int rfl (fun g cA => by rfl) (by decide) rfl (by decide) rfl ?_
  show PW _ _ _ 245 [some (.ref 70)] [.ref 99, .ref 70] cw_183
  refine PW_put (w2 := cw_184) c_M_init_245 fp_M_init_96 rfl ⟨_, rfl, Nat.le_of_ble_eq_true rfl, rfl⟩ ?_
  refine PW_aload_n c_M_init_248 rfl ?_
  refine PW_bipush (v := 6) c_M_init_249 (by decide) ?_
  refine PW_newa (ty := .int) (t0 := 0) (N := 6) (a := 100) (x := .inl (fun _ => 0)) (mc := 7) (ms := 512) c_M_init_251 rfl ac_int rfl (fun g cA => by rfl) (by decide) rfl (by decide) rfl ?_
  show PW _ _ _ 253 [some (.ref 70)] [.ref 100, .ref 70] cw_185
  refine PW_put (w2 := cw_186) c_M_init_253 fp_M_init_99 rfl ⟨_, rfl, Nat.le_of_ble_eq_true rfl, rfl⟩ ?_
  refine PW_aload_n c_M_init_256 rfl ?_
  refine PW_bipush (v := 6) c_M_init_257 (by decide) ?_
  refine PW_newa (ty := .int) (t0 := 0) (N := 6) (a := 101) (x := .inl (fun _ => 0)) (mc := 6) (ms := 506) c_M_init_259 rfl ac_int rfl (fun g cA => by rfl) (by decide) rfl (by decide) rfl ?_
  show PW _ _ _ 261 [some (.ref 70)] [.ref 101, .ref 70] cw_187
  refine PW_put (w2 := cw_188) c_M_init_261 fp_M_init_102 rfl ⟨_, rfl, Nat.le_of_ble_eq_true rfl, rfl⟩ ?_
  refine PW_aload_n c_M_init_264 rfl ?_
  refine PW_bipush (v := 50) c_M_init_265 (by decide) ?_
  refine PW_newa (ty := .int) (t0 := 0) (N := 50) (a := 102) (x := .inl (fun _ => 0)) (mc := 5) (ms := 456) c_M_init_267 rfl ac_int rfl (fun g cA => by rfl) (by decide) rfl (by decide) rfl ?_
  show PW _ _ _ 269 [some (.ref 70)] [.ref 102, .ref 70] cw_189
  refine PW_put (w2 := cw_190) c_M_init_269 fp_M_init_105 rfl ⟨_, rfl, Nat.le_of_ble_eq_true rfl, rfl⟩ ?_
  refine PW_aload_n c_M_init_272 rfl ?_
  refine PW_bipush (v := 24) c_M_init_273 (by decide) ?_
  refine PW_newa (ty := .int) (t0 := 0) (N := 24) (a := 103) (x := .inl (fun _ => 0)) (mc := 4) (ms := 432) c_M_init_275 rfl ac_int rfl (fun g cA => by rfl) (by decide) rfl (by decide) rfl ?_
  show PW _ _ _ 277 [some (.ref 70)] [.ref 103, .ref 70] cw_191
  refine PW_put (w2 := cw_192) c_M_init_277 fp_M_init_108 rfl ⟨_, rfl, Nat.le_of_ble_eq_true rfl, rfl⟩ ?_
  refine PW_aload_n c_M_init_280 rfl ?_
  refine PW_bipush (v := 6) c_M_init_281 (by decide) ?_
  refine PW_newa (ty := .int) (t0 := 0) (N := 6) (a := 104) (x := .inl (fun _ => 0)) (mc := 3) (ms := 426) c_M_init_283 rfl ac_int rfl (fun g cA => by rfl) (by decide) rfl (by decide) rfl ?_
  show PW _ _ _ 285 [some (.ref 70)] [.ref 104, .ref 70] cw_193
  refine PW_dup c_M_init_285 rfl ?_
  refine PW_iconst (v := 0) c_M_init_286 (by decide) ?_
  refine PW_iconst (v := -1) c_M_init_287 (by decide) ?_
  refine PW_iast (j := 0) (w2 := cw_194) c_M_init_288 rfl (vp_in_iff.mpr (by decide)) rfl rfl ?_
  refine PW_dup c_M_init_289 rfl ?_
  refine PW_iconst (v := 1) c_M_init_290 (by decide) ?_
  refine PW_iconst (v := -1) c_M_init_291 (by decide) ?_
  refine PW_iast (j := 1) (w2 := cw_195) c_M_init_292 rfl (vp_in_iff.mpr (by decide)) rfl rfl ?_
  refine PW_dup c_M_init_293 rfl ?_
  refine PW_iconst (v := 2) c_M_init_294 (by decide) ?_
  refine PW_iconst (v := -1) c_M_init_295 (by decide) ?_
  refine PW_iast (j := 2) (w2 := cw_196) c_M_init_296 rfl (vp_in_iff.mpr (by decide)) rfl rfl ?_
  refine PW_dup c_M_init_297 rfl ?_
  refine PW_iconst (v := 3) c_M_init_298 (by decide) ?_
  refine PW_iconst (v := -1) c_M_init_299 (by decide) ?_
  refine PW_iast (j := 3) (w2 := cw_197) c_M_init_300 rfl (vp_in_iff.mpr (by decide)) rfl rfl ?_
  refine PW_dup c_M_init_301 rfl ?_
  refine PW_iconst (v := 4) c_M_init_302 (by decide) ?_
  refine PW_iconst (v := -1) c_M_init_303 (by decide) ?_
  refine PW_iast (j := 4) (w2 := cw_198) c_M_init_304 rfl (vp_in_iff.mpr (by decide)) rfl rfl ?_
  refine PW_dup c_M_init_305 rfl ?_
  refine PW_iconst (v := 5) c_M_init_306 (by decide) ?_
  refine PW_iconst (v := -1) c_M_init_307 (by decide) ?_
  refine PW_iast (j := 5) (w2 := cw_199) c_M_init_308 rfl (vp_in_iff.mpr (by decide)) rfl rfl ?_
  refine PW_put (w2 := cw_200) c_M_init_309 fp_M_init_111 rfl ⟨_, rfl, Nat.le_of_ble_eq_true rfl, rfl⟩ ?_
  refine PW_aload_n c_M_init_312 rfl ?_
  refine PW_bipush (v := 6) c_M_init_313 (by decide) ?_
  refine PW_newa (ty := .int) (t0 := 0) (N := 6) (a := 105) (x := .inl (fun _ => 0)) (mc := 2) (ms := 420) c_M_init_315 rfl ac_int rfl (fun g cA => by rfl) (by decide) rfl (by decide) rfl ?_
  show PW _ _ _ 317 [some (.ref 70)] [.ref 105, .ref 70] cw_201
  refine PW_put (w2 := cw_202) c_M_init_317 fp_M_init_114 rfl ⟨_, rfl, Nat.le_of_ble_eq_true rfl, rfl⟩ ?_
  refine PW_aload_n c_M_init_320 rfl ?_
  refine PW_sipush (v := 360) c_M_init_321 (by decide) ?_
  refine PW_newa (ty := .long) (t0 := 1) (N := 360) (a := 106) (x := .inr (.inl (fun _ => 0))) (mc := 1) (ms := 60) c_M_init_324 rfl ac_long rfl (fun g cA => by rfl) (by decide) rfl (by decide) rfl ?_
  show PW _ _ _ 326 [some (.ref 70)] [.ref 106, .ref 70] cw_203
  refine PW_put (w2 := cw_204) c_M_init_326 fp_M_init_117 rfl ⟨_, rfl, Nat.le_of_ble_eq_true rfl, rfl⟩ ?_
  refine PW_aload_n c_M_init_329 rfl ?_
  refine PW_bipush (v := 60) c_M_init_330 (by decide) ?_
  refine PW_newa (ty := .long) (t0 := 1) (N := 60) (a := 107) (x := .inr (.inl (fun _ => 0))) (mc := 0) (ms := 0) c_M_init_332 rfl ac_long rfl (fun g cA => by rfl) (by decide) rfl (by decide) rfl ?_
  show PW _ _ _ 334 [some (.ref 70)] [.ref 107, .ref 70] cw_205
  refine PW_put (w2 := cw_206) c_M_init_334 fp_M_init_121 rfl ⟨_, rfl, Nat.le_of_ble_eq_true rfl, rfl⟩ ?_
  refine PW_vreturn c_M_init_337 rfl ?_
  show PW _ _ _ 15 [some (.ref 4), some (.ref 5), none, none] [.ref 70] cw_206
  refine PW_astore_n (i := 2) (L2 := [some (.ref 4), some (.ref 5), some (.ref 70), none]) c_W_law_15 rfl (Nat.le_of_ble_eq_true rfl) rfl rfl ?_
  refine PW_iconst (v := 0) c_W_law_16 (by decide) ?_
  refine PW_istore_n (i := 3) (L2 := [some (.ref 4), some (.ref 5), some (.ref 70), some (.int 0)]) c_W_law_17 rfl (Nat.le_of_ble_eq_true rfl) rfl rfl ?_
  exact h
def x00 : XS := (fun _ => 0, fun a => if a = 15 then upd (upd (upd (upd (fun _ => 0) 0 1) 1 1) 2 1) 3 1 else fun _ => 0, fun _ _ => 0)
def y00 : XS := (fun _ => 0, fun a => if a = 78 then upd (upd (upd (upd (fun _ => 0) 0 1) 1 1) 2 1) 3 1 else if a = 104 then (upd (upd (upd (upd (upd (upd (fun _ => 0) 0 (-1)) 1 (-1)) 2 (-1)) 3 (-1)) 4 (-1)) 5 (-1)) else fun _ => 0, fun _ _ => 0)
theorem cw_shelves : ((va_up (va_up (va_up (va_up (va_up (va_up (fun _ => none) 0 (some 58)) 1 (some 60)) 2 (some 62)) 3 (some 64)) 4 (some 66)) 5 (some 68)) : Nat → Option Nat) = fun i => if i < 6 then some (58 + 2 * i) else none := by
  funext i
  match i with
  | 0 => rfl
  | 1 => rfl
  | 2 => rfl
  | 3 => rfl
  | 4 => rfl
  | 5 => rfl
  | n + 6 => simp [va_up]
set_option maxRecDepth 100000 in
set_option maxHeartbeats 4000000 in
theorem cw_E : cw_206 = E x00 y00 := by
  have e : E x00 y00 = (E x00 y00).set 52 (.inl (.object "GoodbyeAll$Shelf", 6, .inr (.inr (.inr (.inr (fun i => if i < 6 then some (58 + 2 * i) else none)))))) := rfl
  rw [e, ← cw_shelves]
  rfl
