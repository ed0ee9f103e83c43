/-! THE HEAP BEHIND THE CONSTRUCTORS: its cells by their numbers (ly), with the numbers that S holds (hp S) -/
def go_items (j : Nat) : Option Nat := if j < 27 then some (58 + 2 * j) else none
def ly : go_H := [
  .inr (8, [.ref 1, .ref 12, .ref 23, .ref 34, .ref 36, .ref 40, .ref 44, .ref 51, .ref 53, .ref 55, .ref 112, .int 0, .int 0]),
  .inr (0, [.int 0, .int 0, .ref 2, .ref 3, .ref 4, .ref 5, .ref 6, .ref 7, .ref 8, .ref 9, .ref 10, .ref 11]),
  .inl (.int, 24, .inl (fun _ => 0)),
  .inl (.int, 24, .inl (fun _ => 0)),
  .inl (.int, 24, .inl (fun _ => 0)),
  .inl (.int, 24, .inl (fun _ => 0)),
  .inl (.int, 24, .inl (fun _ => 0)),
  .inl (.boolean, 24, .inl (fun _ => 0)),
  .inl (.int, 24, .inl (fun _ => 0)),
  .inl (.int, 24, .inl (fun _ => 0)),
  .inl (.int, 24, .inl (fun _ => 0)),
  .inl (.int, 24, .inl (fun _ => 0)),
  .inr (0, [.int 0, .int 0, .ref 13, .ref 14, .ref 15, .ref 16, .ref 17, .ref 18, .ref 19, .ref 20, .ref 21, .ref 22]),
  .inl (.int, 24, .inl (fun _ => 0)),
  .inl (.int, 24, .inl (fun _ => 0)),
  .inl (.int, 24, .inl (fun _ => 0)),
  .inl (.int, 24, .inl (fun _ => 0)),
  .inl (.int, 24, .inl (fun _ => 0)),
  .inl (.boolean, 24, .inl (fun _ => 0)),
  .inl (.int, 24, .inl (fun _ => 0)),
  .inl (.int, 24, .inl (fun _ => 0)),
  .inl (.int, 24, .inl (fun _ => 0)),
  .inl (.int, 24, .inl (fun _ => 0)),
  .inr (0, [.int 0, .int 0, .ref 24, .ref 25, .ref 26, .ref 27, .ref 28, .ref 29, .ref 30, .ref 31, .ref 32, .ref 33]),
  .inl (.int, 24, .inl (fun _ => 0)),
  .inl (.int, 24, .inl (fun _ => 0)),
  .inl (.int, 24, .inl (fun _ => 0)),
  .inl (.int, 24, .inl (fun _ => 0)),
  .inl (.int, 24, .inl (fun _ => 0)),
  .inl (.boolean, 24, .inl (fun _ => 0)),
  .inl (.int, 24, .inl (fun _ => 0)),
  .inl (.int, 24, .inl (fun _ => 0)),
  .inl (.int, 24, .inl (fun _ => 0)),
  .inl (.int, 24, .inl (fun _ => 0)),
  .inr (2, [.int 0, .ref 35]),
  .inl (.int, 3, .inl (fun _ => 0)),
  .inr (4, [.ref 37, .ref 38, .ref 39, .int 0]),
  .inl (.int, 24, .inl (fun _ => 0)),
  .inl (.int, 24, .inl (fun _ => 0)),
  .inl (.int, 24, .inl (fun _ => 0)),
  .inr (7, [.ref 41, .ref 42, .ref 43, .int 0]),
  .inl (.int, 24, .inl (fun _ => 0)),
  .inl (.int, 24, .inl (fun _ => 0)),
  .inl (.boolean, 24, .inl (fun _ => 0)),
  .inr (6, [.int 0, .ref 45, .ref 46, .ref 47, .ref 48, .ref 49, .ref 50]),
  .inl (.int, 24, .inl (fun _ => 0)),
  .inl (.int, 24, .inl (fun _ => 0)),
  .inl (.int, 24, .inl (fun _ => 0)),
  .inl (.int, 24, .inl (fun _ => 0)),
  .inl (.int, 24, .inl (fun _ => 0)),
  .inl (.int, 24, .inl (fun _ => 0)),
  .inr (3, [.ref 52]),
  .inl (.int, 24, .inl (fun _ => 0)),
  .inr (3, [.ref 54]),
  .inl (.int, 24, .inl (fun _ => 0)),
  .inr (5, [.int 0, .int 0, .int 0, .ref 56, .ref 57]),
  .inl (.char, 80, .inl (fun _ => 0)),
  .inl (.object RX2, 27, .inr (.inr (.inr (.inr go_items)))),
  .inr (2, [.int 0, .ref 59]),
  .inl (.int, 3, .inl (fun _ => 0)),
  .inr (2, [.int 0, .ref 61]),
  .inl (.int, 3, .inl (fun _ => 0)),
  .inr (2, [.int 0, .ref 63]),
  .inl (.int, 3, .inl (fun _ => 0)),
  .inr (2, [.int 0, .ref 65]),
  .inl (.int, 3, .inl (fun _ => 0)),
  .inr (2, [.int 0, .ref 67]),
  .inl (.int, 3, .inl (fun _ => 0)),
  .inr (2, [.int 0, .ref 69]),
  .inl (.int, 3, .inl (fun _ => 0)),
  .inr (2, [.int 0, .ref 71]),
  .inl (.int, 3, .inl (fun _ => 0)),
  .inr (2, [.int 0, .ref 73]),
  .inl (.int, 3, .inl (fun _ => 0)),
  .inr (2, [.int 0, .ref 75]),
  .inl (.int, 3, .inl (fun _ => 0)),
  .inr (2, [.int 0, .ref 77]),
  .inl (.int, 3, .inl (fun _ => 0)),
  .inr (2, [.int 0, .ref 79]),
  .inl (.int, 3, .inl (fun _ => 0)),
  .inr (2, [.int 0, .ref 81]),
  .inl (.int, 3, .inl (fun _ => 0)),
  .inr (2, [.int 0, .ref 83]),
  .inl (.int, 3, .inl (fun _ => 0)),
  .inr (2, [.int 0, .ref 85]),
  .inl (.int, 3, .inl (fun _ => 0)),
  .inr (2, [.int 0, .ref 87]),
  .inl (.int, 3, .inl (fun _ => 0)),
  .inr (2, [.int 0, .ref 89]),
  .inl (.int, 3, .inl (fun _ => 0)),
  .inr (2, [.int 0, .ref 91]),
  .inl (.int, 3, .inl (fun _ => 0)),
  .inr (2, [.int 0, .ref 93]),
  .inl (.int, 3, .inl (fun _ => 0)),
  .inr (2, [.int 0, .ref 95]),
  .inl (.int, 3, .inl (fun _ => 0)),
  .inr (2, [.int 0, .ref 97]),
  .inl (.int, 3, .inl (fun _ => 0)),
  .inr (2, [.int 0, .ref 99]),
  .inl (.int, 3, .inl (fun _ => 0)),
  .inr (2, [.int 0, .ref 101]),
  .inl (.int, 3, .inl (fun _ => 0)),
  .inr (2, [.int 0, .ref 103]),
  .inl (.int, 3, .inl (fun _ => 0)),
  .inr (2, [.int 0, .ref 105]),
  .inl (.int, 3, .inl (fun _ => 0)),
  .inr (2, [.int 0, .ref 107]),
  .inl (.int, 3, .inl (fun _ => 0)),
  .inr (2, [.int 0, .ref 109]),
  .inl (.int, 3, .inl (fun _ => 0)),
  .inr (2, [.int 0, .ref 111]),
  .inl (.int, 3, .inl (fun _ => 0)),
  .inr (1, [.int 0, .ref 113, .ref 114]),
  .inl (.int, 3, .inl (fun _ => 0)),
  .inl (.int, 3, .inl (fun _ => 0)),
  .inr (9, [.int 0, .ref 116, .ref 117, .ref 118, .ref 119, .ref 120, .ref 121, .ref 122, .ref 123, .ref 124, .int 0, .int 0, .ref 125, .ref 126, .int 0, .int 0, .long 0, .long 0, .ref 127, .ref 128, .ref 129, .ref 130, .ref 131, .ref 132, .ref 133, .ref 134, .int 0, .ref 135, .ref 136, .ref 137, .ref 138, .ref 139, .ref 140, .ref 141, .int 0, .int 0, .int 0, .ref 142, .ref 143, .int 0, .int 0, .ref 144, .int 0, .int 0, .int 0]),
  .inl (.int, 24, .inl (fun _ => 0)),
  .inl (.int, 24, .inl (fun _ => 0)),
  .inl (.int, 24, .inl (fun _ => 0)),
  .inl (.int, 24, .inl (fun _ => 0)),
  .inl (.int, 24, .inl (fun _ => 0)),
  .inl (.int, 24, .inl (fun _ => 0)),
  .inl (.int, 24, .inl (fun _ => 0)),
  .inl (.int, 24, .inl (fun _ => 0)),
  .inl (.int, 24, .inl (fun _ => 0)),
  .inl (.long, 24, .inr (.inl (fun _ => 0))),
  .inl (.long, 24, .inr (.inl (fun _ => 0))),
  .inl (.int, 24, .inl (fun _ => 0)),
  .inl (.int, 24, .inl (fun _ => 0)),
  .inl (.int, 24, .inl (fun _ => 0)),
  .inl (.int, 24, .inl (fun _ => 0)),
  .inl (.int, 24, .inl (fun _ => 0)),
  .inl (.int, 24, .inl (fun _ => 0)),
  .inl (.int, 24, .inl (fun _ => 0)),
  .inl (.int, 24, .inl (fun _ => 0)),
  .inl (.int, 24, .inl (fun _ => 0)),
  .inl (.int, 24, .inl (fun _ => 0)),
  .inl (.int, 80, .inl (fun _ => 0)),
  .inl (.int, 40, .inl (fun _ => 0)),
  .inl (.int, 40, .inl (fun _ => 0)),
  .inl (.int, 40, .inl (fun _ => 0)),
  .inl (.int, 40, .inl (fun _ => 0)),
  .inl (.int, 3, .inl (fun _ => 0)),
  .inl (.int, 3, .inl (fun _ => 0)),
  .inl (.int, 440, .inl (fun _ => 0)),
  .inl (.long, 1, .inr (.inl (fun _ => 0))),
  .inl (.double, 1, .inr (.inr (.inr (.inl (fun _ => 0)))))]
theorem ly_0 : ly[0]? = some (.inr (8, [.ref 1, .ref 12, .ref 23, .ref 34, .ref 36, .ref 40, .ref 44, .ref 51, .ref 53, .ref 55, .ref 112, .int 0, .int 0])) := rfl
theorem ly_1 : ly[1]? = some (.inr (0, [.int 0, .int 0, .ref 2, .ref 3, .ref 4, .ref 5, .ref 6, .ref 7, .ref 8, .ref 9, .ref 10, .ref 11])) := rfl
theorem ly_2 : ly[2]? = some (.inl (.int, 24, .inl (fun _ => 0))) := rfl
theorem ly_3 : ly[3]? = some (.inl (.int, 24, .inl (fun _ => 0))) := rfl
theorem ly_4 : ly[4]? = some (.inl (.int, 24, .inl (fun _ => 0))) := rfl
theorem ly_5 : ly[5]? = some (.inl (.int, 24, .inl (fun _ => 0))) := rfl
theorem ly_6 : ly[6]? = some (.inl (.int, 24, .inl (fun _ => 0))) := rfl
theorem ly_7 : ly[7]? = some (.inl (.boolean, 24, .inl (fun _ => 0))) := rfl
theorem ly_8 : ly[8]? = some (.inl (.int, 24, .inl (fun _ => 0))) := rfl
theorem ly_9 : ly[9]? = some (.inl (.int, 24, .inl (fun _ => 0))) := rfl
theorem ly_10 : ly[10]? = some (.inl (.int, 24, .inl (fun _ => 0))) := rfl
theorem ly_11 : ly[11]? = some (.inl (.int, 24, .inl (fun _ => 0))) := rfl
theorem ly_12 : ly[12]? = some (.inr (0, [.int 0, .int 0, .ref 13, .ref 14, .ref 15, .ref 16, .ref 17, .ref 18, .ref 19, .ref 20, .ref 21, .ref 22])) := rfl
theorem ly_13 : ly[13]? = some (.inl (.int, 24, .inl (fun _ => 0))) := rfl
theorem ly_14 : ly[14]? = some (.inl (.int, 24, .inl (fun _ => 0))) := rfl
theorem ly_15 : ly[15]? = some (.inl (.int, 24, .inl (fun _ => 0))) := rfl
theorem ly_16 : ly[16]? = some (.inl (.int, 24, .inl (fun _ => 0))) := rfl
theorem ly_17 : ly[17]? = some (.inl (.int, 24, .inl (fun _ => 0))) := rfl
theorem ly_18 : ly[18]? = some (.inl (.boolean, 24, .inl (fun _ => 0))) := rfl
theorem ly_19 : ly[19]? = some (.inl (.int, 24, .inl (fun _ => 0))) := rfl
theorem ly_20 : ly[20]? = some (.inl (.int, 24, .inl (fun _ => 0))) := rfl
theorem ly_21 : ly[21]? = some (.inl (.int, 24, .inl (fun _ => 0))) := rfl
theorem ly_22 : ly[22]? = some (.inl (.int, 24, .inl (fun _ => 0))) := rfl
theorem ly_23 : ly[23]? = some (.inr (0, [.int 0, .int 0, .ref 24, .ref 25, .ref 26, .ref 27, .ref 28, .ref 29, .ref 30, .ref 31, .ref 32, .ref 33])) := rfl
theorem ly_24 : ly[24]? = some (.inl (.int, 24, .inl (fun _ => 0))) := rfl
theorem ly_25 : ly[25]? = some (.inl (.int, 24, .inl (fun _ => 0))) := rfl
theorem ly_26 : ly[26]? = some (.inl (.int, 24, .inl (fun _ => 0))) := rfl
theorem ly_27 : ly[27]? = some (.inl (.int, 24, .inl (fun _ => 0))) := rfl
theorem ly_28 : ly[28]? = some (.inl (.int, 24, .inl (fun _ => 0))) := rfl
theorem ly_29 : ly[29]? = some (.inl (.boolean, 24, .inl (fun _ => 0))) := rfl
theorem ly_30 : ly[30]? = some (.inl (.int, 24, .inl (fun _ => 0))) := rfl
theorem ly_31 : ly[31]? = some (.inl (.int, 24, .inl (fun _ => 0))) := rfl
theorem ly_32 : ly[32]? = some (.inl (.int, 24, .inl (fun _ => 0))) := rfl
theorem ly_33 : ly[33]? = some (.inl (.int, 24, .inl (fun _ => 0))) := rfl
theorem ly_34 : ly[34]? = some (.inr (2, [.int 0, .ref 35])) := rfl
theorem ly_35 : ly[35]? = some (.inl (.int, 3, .inl (fun _ => 0))) := rfl
theorem ly_36 : ly[36]? = some (.inr (4, [.ref 37, .ref 38, .ref 39, .int 0])) := rfl
theorem ly_37 : ly[37]? = some (.inl (.int, 24, .inl (fun _ => 0))) := rfl
theorem ly_38 : ly[38]? = some (.inl (.int, 24, .inl (fun _ => 0))) := rfl
theorem ly_39 : ly[39]? = some (.inl (.int, 24, .inl (fun _ => 0))) := rfl
theorem ly_40 : ly[40]? = some (.inr (7, [.ref 41, .ref 42, .ref 43, .int 0])) := rfl
theorem ly_41 : ly[41]? = some (.inl (.int, 24, .inl (fun _ => 0))) := rfl
theorem ly_42 : ly[42]? = some (.inl (.int, 24, .inl (fun _ => 0))) := rfl
theorem ly_43 : ly[43]? = some (.inl (.boolean, 24, .inl (fun _ => 0))) := rfl
theorem ly_44 : ly[44]? = some (.inr (6, [.int 0, .ref 45, .ref 46, .ref 47, .ref 48, .ref 49, .ref 50])) := rfl
theorem ly_45 : ly[45]? = some (.inl (.int, 24, .inl (fun _ => 0))) := rfl
theorem ly_46 : ly[46]? = some (.inl (.int, 24, .inl (fun _ => 0))) := rfl
theorem ly_47 : ly[47]? = some (.inl (.int, 24, .inl (fun _ => 0))) := rfl
theorem ly_48 : ly[48]? = some (.inl (.int, 24, .inl (fun _ => 0))) := rfl
theorem ly_49 : ly[49]? = some (.inl (.int, 24, .inl (fun _ => 0))) := rfl
theorem ly_50 : ly[50]? = some (.inl (.int, 24, .inl (fun _ => 0))) := rfl
theorem ly_51 : ly[51]? = some (.inr (3, [.ref 52])) := rfl
theorem ly_52 : ly[52]? = some (.inl (.int, 24, .inl (fun _ => 0))) := rfl
theorem ly_53 : ly[53]? = some (.inr (3, [.ref 54])) := rfl
theorem ly_54 : ly[54]? = some (.inl (.int, 24, .inl (fun _ => 0))) := rfl
theorem ly_55 : ly[55]? = some (.inr (5, [.int 0, .int 0, .int 0, .ref 56, .ref 57])) := rfl
theorem ly_56 : ly[56]? = some (.inl (.char, 80, .inl (fun _ => 0))) := rfl
theorem ly_57 : ly[57]? = some (.inl (.object RX2, 27, .inr (.inr (.inr (.inr go_items))))) := rfl
theorem ly_58 : ly[58]? = some (.inr (2, [.int 0, .ref 59])) := rfl
theorem ly_59 : ly[59]? = some (.inl (.int, 3, .inl (fun _ => 0))) := rfl
theorem ly_60 : ly[60]? = some (.inr (2, [.int 0, .ref 61])) := rfl
theorem ly_61 : ly[61]? = some (.inl (.int, 3, .inl (fun _ => 0))) := rfl
theorem ly_62 : ly[62]? = some (.inr (2, [.int 0, .ref 63])) := rfl
theorem ly_63 : ly[63]? = some (.inl (.int, 3, .inl (fun _ => 0))) := rfl
theorem ly_64 : ly[64]? = some (.inr (2, [.int 0, .ref 65])) := rfl
theorem ly_65 : ly[65]? = some (.inl (.int, 3, .inl (fun _ => 0))) := rfl
theorem ly_66 : ly[66]? = some (.inr (2, [.int 0, .ref 67])) := rfl
theorem ly_67 : ly[67]? = some (.inl (.int, 3, .inl (fun _ => 0))) := rfl
theorem ly_68 : ly[68]? = some (.inr (2, [.int 0, .ref 69])) := rfl
theorem ly_69 : ly[69]? = some (.inl (.int, 3, .inl (fun _ => 0))) := rfl
theorem ly_70 : ly[70]? = some (.inr (2, [.int 0, .ref 71])) := rfl
theorem ly_71 : ly[71]? = some (.inl (.int, 3, .inl (fun _ => 0))) := rfl
theorem ly_72 : ly[72]? = some (.inr (2, [.int 0, .ref 73])) := rfl
theorem ly_73 : ly[73]? = some (.inl (.int, 3, .inl (fun _ => 0))) := rfl
theorem ly_74 : ly[74]? = some (.inr (2, [.int 0, .ref 75])) := rfl
theorem ly_75 : ly[75]? = some (.inl (.int, 3, .inl (fun _ => 0))) := rfl
theorem ly_76 : ly[76]? = some (.inr (2, [.int 0, .ref 77])) := rfl
theorem ly_77 : ly[77]? = some (.inl (.int, 3, .inl (fun _ => 0))) := rfl
theorem ly_78 : ly[78]? = some (.inr (2, [.int 0, .ref 79])) := rfl
theorem ly_79 : ly[79]? = some (.inl (.int, 3, .inl (fun _ => 0))) := rfl
theorem ly_80 : ly[80]? = some (.inr (2, [.int 0, .ref 81])) := rfl
theorem ly_81 : ly[81]? = some (.inl (.int, 3, .inl (fun _ => 0))) := rfl
theorem ly_82 : ly[82]? = some (.inr (2, [.int 0, .ref 83])) := rfl
theorem ly_83 : ly[83]? = some (.inl (.int, 3, .inl (fun _ => 0))) := rfl
theorem ly_84 : ly[84]? = some (.inr (2, [.int 0, .ref 85])) := rfl
theorem ly_85 : ly[85]? = some (.inl (.int, 3, .inl (fun _ => 0))) := rfl
theorem ly_86 : ly[86]? = some (.inr (2, [.int 0, .ref 87])) := rfl
theorem ly_87 : ly[87]? = some (.inl (.int, 3, .inl (fun _ => 0))) := rfl
theorem ly_88 : ly[88]? = some (.inr (2, [.int 0, .ref 89])) := rfl
theorem ly_89 : ly[89]? = some (.inl (.int, 3, .inl (fun _ => 0))) := rfl
theorem ly_90 : ly[90]? = some (.inr (2, [.int 0, .ref 91])) := rfl
theorem ly_91 : ly[91]? = some (.inl (.int, 3, .inl (fun _ => 0))) := rfl
theorem ly_92 : ly[92]? = some (.inr (2, [.int 0, .ref 93])) := rfl
theorem ly_93 : ly[93]? = some (.inl (.int, 3, .inl (fun _ => 0))) := rfl
theorem ly_94 : ly[94]? = some (.inr (2, [.int 0, .ref 95])) := rfl
theorem ly_95 : ly[95]? = some (.inl (.int, 3, .inl (fun _ => 0))) := rfl
theorem ly_96 : ly[96]? = some (.inr (2, [.int 0, .ref 97])) := rfl
theorem ly_97 : ly[97]? = some (.inl (.int, 3, .inl (fun _ => 0))) := rfl
theorem ly_98 : ly[98]? = some (.inr (2, [.int 0, .ref 99])) := rfl
theorem ly_99 : ly[99]? = some (.inl (.int, 3, .inl (fun _ => 0))) := rfl
theorem ly_100 : ly[100]? = some (.inr (2, [.int 0, .ref 101])) := rfl
theorem ly_101 : ly[101]? = some (.inl (.int, 3, .inl (fun _ => 0))) := rfl
theorem ly_102 : ly[102]? = some (.inr (2, [.int 0, .ref 103])) := rfl
theorem ly_103 : ly[103]? = some (.inl (.int, 3, .inl (fun _ => 0))) := rfl
theorem ly_104 : ly[104]? = some (.inr (2, [.int 0, .ref 105])) := rfl
theorem ly_105 : ly[105]? = some (.inl (.int, 3, .inl (fun _ => 0))) := rfl
theorem ly_106 : ly[106]? = some (.inr (2, [.int 0, .ref 107])) := rfl
theorem ly_107 : ly[107]? = some (.inl (.int, 3, .inl (fun _ => 0))) := rfl
theorem ly_108 : ly[108]? = some (.inr (2, [.int 0, .ref 109])) := rfl
theorem ly_109 : ly[109]? = some (.inl (.int, 3, .inl (fun _ => 0))) := rfl
theorem ly_110 : ly[110]? = some (.inr (2, [.int 0, .ref 111])) := rfl
theorem ly_111 : ly[111]? = some (.inl (.int, 3, .inl (fun _ => 0))) := rfl
theorem ly_112 : ly[112]? = some (.inr (1, [.int 0, .ref 113, .ref 114])) := rfl
theorem ly_113 : ly[113]? = some (.inl (.int, 3, .inl (fun _ => 0))) := rfl
theorem ly_114 : ly[114]? = some (.inl (.int, 3, .inl (fun _ => 0))) := rfl
theorem ly_115 : ly[115]? = some (.inr (9, [.int 0, .ref 116, .ref 117, .ref 118, .ref 119, .ref 120, .ref 121, .ref 122, .ref 123, .ref 124, .int 0, .int 0, .ref 125, .ref 126, .int 0, .int 0, .long 0, .long 0, .ref 127, .ref 128, .ref 129, .ref 130, .ref 131, .ref 132, .ref 133, .ref 134, .int 0, .ref 135, .ref 136, .ref 137, .ref 138, .ref 139, .ref 140, .ref 141, .int 0, .int 0, .int 0, .ref 142, .ref 143, .int 0, .int 0, .ref 144, .int 0, .int 0, .int 0])) := rfl
theorem ly_116 : ly[116]? = some (.inl (.int, 24, .inl (fun _ => 0))) := rfl
theorem ly_117 : ly[117]? = some (.inl (.int, 24, .inl (fun _ => 0))) := rfl
theorem ly_118 : ly[118]? = some (.inl (.int, 24, .inl (fun _ => 0))) := rfl
theorem ly_119 : ly[119]? = some (.inl (.int, 24, .inl (fun _ => 0))) := rfl
theorem ly_120 : ly[120]? = some (.inl (.int, 24, .inl (fun _ => 0))) := rfl
theorem ly_121 : ly[121]? = some (.inl (.int, 24, .inl (fun _ => 0))) := rfl
theorem ly_122 : ly[122]? = some (.inl (.int, 24, .inl (fun _ => 0))) := rfl
theorem ly_123 : ly[123]? = some (.inl (.int, 24, .inl (fun _ => 0))) := rfl
theorem ly_124 : ly[124]? = some (.inl (.int, 24, .inl (fun _ => 0))) := rfl
theorem ly_125 : ly[125]? = some (.inl (.long, 24, .inr (.inl (fun _ => 0)))) := rfl
theorem ly_126 : ly[126]? = some (.inl (.long, 24, .inr (.inl (fun _ => 0)))) := rfl
theorem ly_127 : ly[127]? = some (.inl (.int, 24, .inl (fun _ => 0))) := rfl
theorem ly_128 : ly[128]? = some (.inl (.int, 24, .inl (fun _ => 0))) := rfl
theorem ly_129 : ly[129]? = some (.inl (.int, 24, .inl (fun _ => 0))) := rfl
theorem ly_130 : ly[130]? = some (.inl (.int, 24, .inl (fun _ => 0))) := rfl
theorem ly_131 : ly[131]? = some (.inl (.int, 24, .inl (fun _ => 0))) := rfl
theorem ly_132 : ly[132]? = some (.inl (.int, 24, .inl (fun _ => 0))) := rfl
theorem ly_133 : ly[133]? = some (.inl (.int, 24, .inl (fun _ => 0))) := rfl
theorem ly_134 : ly[134]? = some (.inl (.int, 24, .inl (fun _ => 0))) := rfl
theorem ly_135 : ly[135]? = some (.inl (.int, 24, .inl (fun _ => 0))) := rfl
theorem ly_136 : ly[136]? = some (.inl (.int, 24, .inl (fun _ => 0))) := rfl
theorem ly_137 : ly[137]? = some (.inl (.int, 80, .inl (fun _ => 0))) := rfl
theorem ly_138 : ly[138]? = some (.inl (.int, 40, .inl (fun _ => 0))) := rfl
theorem ly_139 : ly[139]? = some (.inl (.int, 40, .inl (fun _ => 0))) := rfl
theorem ly_140 : ly[140]? = some (.inl (.int, 40, .inl (fun _ => 0))) := rfl
theorem ly_141 : ly[141]? = some (.inl (.int, 40, .inl (fun _ => 0))) := rfl
theorem ly_142 : ly[142]? = some (.inl (.int, 3, .inl (fun _ => 0))) := rfl
theorem ly_143 : ly[143]? = some (.inl (.int, 3, .inl (fun _ => 0))) := rfl
theorem ly_144 : ly[144]? = some (.inl (.int, 440, .inl (fun _ => 0))) := rfl
theorem ly_145 : ly[145]? = some (.inl (.long, 1, .inr (.inl (fun _ => 0)))) := rfl
theorem ly_146 : ly[146]? = some (.inl (.double, 1, .inr (.inr (.inr (.inl (fun _ => 0)))))) := rfl

abbrev gS : Type := (Nat → Nat → Int32) × (Nat → Nat → Int64) × (Nat → Nat → UInt64)
def rI (S : gS) (k j : Nat) : Int32 := S.1 k j
def rL (S : gS) (k j : Nat) : Int64 := S.2.1 k j
def rD (S : gS) (k j : Nat) : UInt64 := S.2.2 k j
def wI (S : gS) (k j : Nat) (v : Int32) : gS := (fun a c => if a = k ∧ c = j then v else S.1 a c, S.2.1, S.2.2)
def wL (S : gS) (k j : Nat) (v : Int64) : gS := (S.1, fun a c => if a = k ∧ c = j then v else S.2.1 a c, S.2.2)
def wD (S : gS) (k j : Nat) (v : UInt64) : gS := (S.1, S.2.1, fun a c => if a = k ∧ c = j then v else S.2.2 a c)
/-- a whole row -/
def wR (S : gS) (k : Nat) (f : Nat → Int32) : gS := (fun a c => if a = k then f c else S.1 a c, S.2.1, S.2.2)
theorem rI_wI (S : gS) (k j : Nat) (v : Int32) (a c : Nat) : rI (wI S k j v) a c = if a = k ∧ c = j then v else rI S a c := rfl
theorem rI_wL (S : gS) (k j : Nat) (v : Int64) (a c : Nat) : rI (wL S k j v) a c = rI S a c := rfl
theorem rI_wD (S : gS) (k j : Nat) (v : UInt64) (a c : Nat) : rI (wD S k j v) a c = rI S a c := rfl
theorem rI_wR (S : gS) (k : Nat) (f : Nat → Int32) (a c : Nat) : rI (wR S k f) a c = if a = k then f c else rI S a c := rfl
theorem rL_wI (S : gS) (k j : Nat) (v : Int32) (a c : Nat) : rL (wI S k j v) a c = rL S a c := rfl
theorem rL_wL (S : gS) (k j : Nat) (v : Int64) (a c : Nat) : rL (wL S k j v) a c = if a = k ∧ c = j then v else rL S a c := rfl
theorem rL_wD (S : gS) (k j : Nat) (v : UInt64) (a c : Nat) : rL (wD S k j v) a c = rL S a c := rfl
theorem rL_wR (S : gS) (k : Nat) (f : Nat → Int32) (a c : Nat) : rL (wR S k f) a c = rL S a c := rfl
theorem rD_wI (S : gS) (k j : Nat) (v : Int32) (a c : Nat) : rD (wI S k j v) a c = rD S a c := rfl
theorem rD_wL (S : gS) (k j : Nat) (v : Int64) (a c : Nat) : rD (wL S k j v) a c = rD S a c := rfl
theorem rD_wD (S : gS) (k j : Nat) (v : UInt64) (a c : Nat) : rD (wD S k j v) a c = if a = k ∧ c = j then v else rD S a c := rfl
theorem rD_wR (S : gS) (k : Nat) (f : Nat → Int32) (a c : Nat) : rD (wR S k f) a c = rD S a c := rfl
/-- two states are one if they read alike -/
theorem gS_ext {S T : gS} (h1 : ∀ a c, rI S a c = rI T a c) (h2 : ∀ a c, rL S a c = rL T a c) (h3 : ∀ a c, rD S a c = rD T a c) : S = T := by
  obtain ⟨s1, s2, s3⟩ := S
  obtain ⟨t1, t2, t3⟩ := T
  have e1 : s1 = t1 := funext fun a => funext fun c => h1 a c
  have e2 : s2 = t2 := funext fun a => funext fun c => h2 a c
  have e3 : s3 = t3 := funext fun a => funext fun c => h3 a c
  rw [e1, e2, e3]
/-- what the cell number k holds in S -/
def rf (S : gS) (k j : Nat) (v : Value) : Value := match v with
  | .int _ => .int (S.1 k j)
  | .long _ => .long (S.2.1 k j)
  | .float z => .float z
  | .double z => .double z
  | .null => .null
  | .ref z => .ref z
  | .retAddr z => .retAddr z
def ra (S : gS) (k : Nat) (q : vp_A) : vp_A := (q.1, match q.2 with
  | .inl _ => .inl (S.1 k)
  | .inr (.inl _) => .inr (.inl (S.2.1 k))
  | .inr (.inr (.inl f)) => .inr (.inr (.inl f))
  | .inr (.inr (.inr (.inl _))) => .inr (.inr (.inr (.inl (S.2.2 k))))
  | .inr (.inr (.inr (.inr f))) => .inr (.inr (.inr (.inr f))))
def rc (S : gS) (k : Nat) (c : go_C) : go_C := match c with
  | .inl q => .inl (q.1, ra S k q.2)
  | .inr q => .inr (q.1, q.2.mapIdx (fun j v => rf S k j v))
def hp0 (S : gS) : go_H := ly.mapIdx (fun k c => rc S k c)
theorem hp_ex : ∃ f : gS → go_H, f = hp0 := ⟨hp0, rfl⟩
/-- the heap of the state S; a name that doesn't unfold -/
noncomputable def hp : gS → go_H := Classical.choose hp_ex
theorem hp_eq (S : gS) : hp S = hp0 S := congrFun (Classical.choose_spec hp_ex) S
theorem hp_at {S : gS} {k : Nat} {c : go_C} (hk : ly[k]? = some c) : (hp S)[k]? = some (rc S k c) := by
  rw [hp_eq]
  unfold hp0
  rw [List.getElem?_mapIdx, hk]
  rfl
theorem hp_set {S T : gS} {k : Nat} {c : go_C} (hk : ly[k]? = some c) (c9 : go_C) (h1 : rc T k c = c9) (h2 : ∀ i d, i ≠ k → ly[i]? = some d → rc T i d = rc S i d) : (hp S).set k c9 = hp T := by
  rw [hp_eq, hp_eq]
  unfold hp0
  apply List.ext_getElem?
  intro i
  rw [List.getElem?_set, List.getElem?_mapIdx, List.getElem?_mapIdx, List.length_mapIdx]
  have hlt : k < ly.length := (List.getElem?_eq_some_iff.mp hk).1
  by_cases hik : k = i
  · subst hik
    rw [if_pos rfl, if_pos hlt, hk]
    show some c9 = some (rc T k c)
    rw [h1]
  · rw [if_neg hik]
    cases hd : ly[i]? with
    | none => rfl
    | some d =>
      show some (rc S i d) = some (rc T i d)
      rw [h2 i d (fun q => hik q.symm) hd]
theorem rc_congr {S T : gS} {k : Nat} (h1 : ∀ j, S.1 k j = T.1 k j) (h2 : ∀ j, S.2.1 k j = T.2.1 k j) (h3 : ∀ j, S.2.2 k j = T.2.2 k j) (c : go_C) : rc S k c = rc T k c := by
  have e1 : S.1 k = T.1 k := funext h1
  have e2 : S.2.1 k = T.2.1 k := funext h2
  have e3 : S.2.2 k = T.2.2 k := funext h3
  have e4 : ∀ j v, rf S k j v = rf T k j v := by
    intro j v
    cases v <;> simp [rf, h1, h2]
  have e5 : ∀ q, ra S k q = ra T k q := by
    intro q
    unfold ra
    rw [e1, e2, e3]
  cases c with
  | inl q => simp only [rc, e5]
  | inr q => simp only [rc, e4]
theorem wI_ne {S : gS} {k j : Nat} {v : Int32} {i : Nat} (hi : i ≠ k) (c : go_C) : rc (wI S k j v) i c = rc S i c := rc_congr (S := wI S k j v) (T := S) (fun a => by simp [wI, hi]) (fun a => rfl) (fun a => rfl) c
theorem wL_ne {S : gS} {k j : Nat} {v : Int64} {i : Nat} (hi : i ≠ k) (c : go_C) : rc (wL S k j v) i c = rc S i c := rc_congr (S := wL S k j v) (T := S) (fun a => rfl) (fun a => by simp [wL, hi]) (fun a => rfl) c
theorem wD_ne {S : gS} {k j : Nat} {v : UInt64} {i : Nat} (hi : i ≠ k) (c : go_C) : rc (wD S k j v) i c = rc S i c := rc_congr (S := wD S k j v) (T := S) (fun a => rfl) (fun a => rfl) (fun a => by simp [wD, hi]) c
theorem wR_ne {S : gS} {k : Nat} {f : Nat → Int32} {i : Nat} (hi : i ≠ k) (c : go_C) : rc (wR S k f) i c = rc S i c := rc_congr (S := wR S k f) (T := S) (fun a => by simp [wR, hi]) (fun a => rfl) (fun a => rfl) c
section GL
variable {M : go_M} {x : Bool} {Q : go_Q} {cl sl pc : Nat} {ls : List (Nat × Value)} {st : List Value} {S : gS}
theorem g_getI (n : Nat) {idx k ci j : Nat} {fs : List Value} {z : Int32} (hd : decode M.code pc = .ok (.getfield idx, 3)) (hn : pc + 3 = n) (hF : go_F M.own idx ci j) (hk : ly[k]? = some (.inr (ci, fs))) (hj : fs[j]? = some (.int z)) (k9 : Go M x Q cl sl n ls (.int (rI S k j) :: st) (hp S)) : Go M x Q cl sl pc ls (.ref k :: st) (hp S) :=
  go_get n hd hn hF (hp_at hk) (v := .int (rI S k j)) (by rw [List.getElem?_mapIdx, hj]; rfl) k9
theorem g_getJ (n : Nat) {idx k ci j : Nat} {fs : List Value} {z : Int64} (hd : decode M.code pc = .ok (.getfield idx, 3)) (hn : pc + 3 = n) (hF : go_F M.own idx ci j) (hk : ly[k]? = some (.inr (ci, fs))) (hj : fs[j]? = some (.long z)) (k9 : Go M x Q cl sl n ls (.long (rL S k j) :: st) (hp S)) : Go M x Q cl sl pc ls (.ref k :: st) (hp S) :=
  go_get n hd hn hF (hp_at hk) (v := .long (rL S k j)) (by rw [List.getElem?_mapIdx, hj]; rfl) k9
theorem g_getR (n : Nat) {idx k ci j r : Nat} {fs : List Value} (hd : decode M.code pc = .ok (.getfield idx, 3)) (hn : pc + 3 = n) (hF : go_F M.own idx ci j) (hk : ly[k]? = some (.inr (ci, fs))) (hj : fs[j]? = some (.ref r)) (k9 : Go M x Q cl sl n ls (.ref r :: st) (hp S)) : Go M x Q cl sl pc ls (.ref k :: st) (hp S) :=
  go_get n hd hn hF (hp_at hk) (v := .ref r) (by rw [List.getElem?_mapIdx, hj]; rfl) k9
theorem g_set_f {k j : Nat} {fs : List Value} {v : Int32} {z : Int32} (hj : fs[j]? = some (.int z)) : (fs.mapIdx (fun i w => rf (wI S k j v) k i w)) = (fs.mapIdx (fun i w => rf S k i w)).set j (.int v) := by
  apply List.ext_getElem?
  intro i
  have hlt : j < fs.length := (List.getElem?_eq_some_iff.mp hj).1
  rw [List.getElem?_set, List.getElem?_mapIdx, List.getElem?_mapIdx, List.length_mapIdx]
  by_cases hij : j = i
  · subst hij
    rw [if_pos rfl, if_pos hlt, hj]
    simp [rf, wI]
  · rw [if_neg hij]
    have hji : ¬ i = j := fun q => hij q.symm
    cases hfi : fs[i]? with
    | none => rfl
    | some w => cases w <;> simp [rf, wI, hji]
theorem g_set_l {k j : Nat} {fs : List Value} {v : Int64} {z : Int64} (hj : fs[j]? = some (.long z)) : (fs.mapIdx (fun i w => rf (wL S k j v) k i w)) = (fs.mapIdx (fun i w => rf S k i w)).set j (.long v) := by
  apply List.ext_getElem?
  intro i
  have hlt : j < fs.length := (List.getElem?_eq_some_iff.mp hj).1
  rw [List.getElem?_set, List.getElem?_mapIdx, List.getElem?_mapIdx, List.length_mapIdx]
  by_cases hij : j = i
  · subst hij
    rw [if_pos rfl, if_pos hlt, hj]
    simp [rf, wL]
  · rw [if_neg hij]
    have hji : ¬ i = j := fun q => hij q.symm
    cases hfi : fs[i]? with
    | none => rfl
    | some w => cases w <;> simp [rf, wL, hji]
theorem g_putI (n : Nat) {idx k ci j : Nat} {fs : List Value} {z v : Int32} (hd : decode M.code pc = .ok (.putfield idx, 3)) (hn : pc + 3 = n) (hF : go_F M.own idx ci j) (hk : ly[k]? = some (.inr (ci, fs))) (hj : fs[j]? = some (.int z)) (hfin : ∀ q : vw_C, go_cl[ci]? = some q → (q.2.1 j).2.2.2 = false) (hna : narrow (go_tyOf ci j) (.int v) = .int v) (hfi : fits (go_tyOf ci j) (.int v) = true) (k9 : Go M x Q cl sl n ls st (hp (wI S k j v))) : Go M x Q cl sl pc ls (.int v :: .ref k :: st) (hp S) := by
  have hlt : j < fs.length := (List.getElem?_eq_some_iff.mp hj).1
  refine go_put n hd hn hF (hp_at hk) (by rw [List.length_mapIdx]; exact hlt) hfin hna hfi (fun _ => rfl) ?_
  rw [hp_set (T := wI S k j v) hk]
  · exact k9
  · show Sum.inr (ci, _) = Sum.inr (ci, _)
    rw [g_set_f hj]
  · intro i d hi _
    exact wI_ne hi d
theorem g_putJ (n : Nat) {idx k ci j : Nat} {fs : List Value} {z v : Int64} (hd : decode M.code pc = .ok (.putfield idx, 3)) (hn : pc + 3 = n) (hF : go_F M.own idx ci j) (hk : ly[k]? = some (.inr (ci, fs))) (hj : fs[j]? = some (.long z)) (hfin : ∀ q : vw_C, go_cl[ci]? = some q → (q.2.1 j).2.2.2 = false) (hty : go_tyOf ci j = .long) (k9 : Go M x Q cl sl n ls st (hp (wL S k j v))) : Go M x Q cl sl pc ls (.long v :: .ref k :: st) (hp S) := by
  have hlt : j < fs.length := (List.getElem?_eq_some_iff.mp hj).1
  refine go_put n hd hn hF (hp_at hk) (by rw [List.length_mapIdx]; exact hlt) hfin (by rw [hty]; rfl) (by rw [hty]; rfl) (fun _ => rfl) ?_
  rw [hp_set (T := wL S k j v) hk]
  · exact k9
  · show Sum.inr (ci, _) = Sum.inr (ci, _)
    rw [g_set_l hj]
  · intro i d hi _
    exact wL_ne hi d
theorem g_iald (n : Nat) {k N : Nat} {f0 : Nat → Int32} {i : Int32} (hd : decode M.code pc = .ok (.iaload, 1)) (hn : pc + 1 = n) (hk : ly[k]? = some (.inl (.int, N, .inl f0))) (hi : vp_in i N) (k9 : Go M x Q cl sl n ls (.int (rI S k i.toNatClampNeg) :: st) (hp S)) : Go M x Q cl sl pc ls (.int i :: .ref k :: st) (hp S) :=
  go_iald n hd hn (hp_at hk) hi k9
theorem g_iast (n : Nat) {k N : Nat} {f0 : Nat → Int32} {i : Int32} {v : Int32} (hd : decode M.code pc = .ok (.iastore, 1)) (hn : pc + 1 = n) (hk : ly[k]? = some (.inl (.int, N, .inl f0))) (hi : vp_in i N) (k9 : Go M false Q cl sl n ls st (hp (wI S k i.toNatClampNeg v))) : Go M false Q cl sl pc ls (.int v :: .int i :: .ref k :: st) (hp S) := by
  refine go_iast n hd hn (hp_at hk) hi ?_
  rw [hp_set (T := wI S k i.toNatClampNeg v) hk]
  · exact k9
  · have e9 : (wI S k i.toNatClampNeg v).1 k = upd (S.1 k) i.toNatClampNeg v := by
      funext q
      by_cases hq : q = i.toNatClampNeg <;> simp [wI, upd, hq]
    show Sum.inl (FieldType.int, N, _) = Sum.inl (FieldType.int, N, _)
    rw [← e9]
  · intro a d ha _
    exact wI_ne ha d
theorem g_zald (n : Nat) {k N : Nat} {f0 : Nat → Int32} {i : Int32} (hd : decode M.code pc = .ok (.baload, 1)) (hn : pc + 1 = n) (hk : ly[k]? = some (.inl (.boolean, N, .inl f0))) (hi : vp_in i N) (k9 : Go M x Q cl sl n ls (.int (rI S k i.toNatClampNeg) :: st) (hp S)) : Go M x Q cl sl pc ls (.int i :: .ref k :: st) (hp S) :=
  go_zald n hd hn (hp_at hk) hi k9
theorem g_zast (n : Nat) {k N : Nat} {f0 : Nat → Int32} {i : Int32} {v : Int32} (hd : decode M.code pc = .ok (.bastore, 1)) (hn : pc + 1 = n) (hk : ly[k]? = some (.inl (.boolean, N, .inl f0))) (hi : vp_in i N) (k9 : Go M false Q cl sl n ls st (hp (wI S k i.toNatClampNeg (vp_nar .boolean v)))) : Go M false Q cl sl pc ls (.int v :: .int i :: .ref k :: st) (hp S) := by
  refine go_zast n hd hn (hp_at hk) hi ?_
  rw [hp_set (T := wI S k i.toNatClampNeg (vp_nar .boolean v)) hk]
  · exact k9
  · have e9 : (wI S k i.toNatClampNeg (vp_nar .boolean v)).1 k = upd (S.1 k) i.toNatClampNeg (vp_nar .boolean v) := by
      funext q
      by_cases hq : q = i.toNatClampNeg <;> simp [wI, upd, hq]
    show Sum.inl (FieldType.boolean, N, _) = Sum.inl (FieldType.boolean, N, _)
    rw [← e9]
  · intro a d ha _
    exact wI_ne ha d
theorem g_cald (n : Nat) {k N : Nat} {f0 : Nat → Int32} {i : Int32} (hd : decode M.code pc = .ok (.caload, 1)) (hn : pc + 1 = n) (hk : ly[k]? = some (.inl (.char, N, .inl f0))) (hi : vp_in i N) (k9 : Go M x Q cl sl n ls (.int (rI S k i.toNatClampNeg) :: st) (hp S)) : Go M x Q cl sl pc ls (.int i :: .ref k :: st) (hp S) :=
  go_cald n hd hn (hp_at hk) hi k9
theorem g_cast (n : Nat) {k N : Nat} {f0 : Nat → Int32} {i : Int32} {v : Int32} (hd : decode M.code pc = .ok (.castore, 1)) (hn : pc + 1 = n) (hk : ly[k]? = some (.inl (.char, N, .inl f0))) (hi : vp_in i N) (k9 : Go M false Q cl sl n ls st (hp (wI S k i.toNatClampNeg (vp_nar .char v)))) : Go M false Q cl sl pc ls (.int v :: .int i :: .ref k :: st) (hp S) := by
  refine go_cast n hd hn (hp_at hk) hi ?_
  rw [hp_set (T := wI S k i.toNatClampNeg (vp_nar .char v)) hk]
  · exact k9
  · have e9 : (wI S k i.toNatClampNeg (vp_nar .char v)).1 k = upd (S.1 k) i.toNatClampNeg (vp_nar .char v) := by
      funext q
      by_cases hq : q = i.toNatClampNeg <;> simp [wI, upd, hq]
    show Sum.inl (FieldType.char, N, _) = Sum.inl (FieldType.char, N, _)
    rw [← e9]
  · intro a d ha _
    exact wI_ne ha d
theorem g_lald (n : Nat) {k N : Nat} {f0 : Nat → Int64} {i : Int32} (hd : decode M.code pc = .ok (.laload, 1)) (hn : pc + 1 = n) (hk : ly[k]? = some (.inl (.long, N, .inr (.inl f0)))) (hi : vp_in i N) (k9 : Go M x Q cl sl n ls (.long (rL S k i.toNatClampNeg) :: st) (hp S)) : Go M x Q cl sl pc ls (.int i :: .ref k :: st) (hp S) :=
  go_lald n hd hn (hp_at hk) hi k9
theorem g_last (n : Nat) {k N : Nat} {f0 : Nat → Int64} {i : Int32} {v : Int64} (hd : decode M.code pc = .ok (.lastore, 1)) (hn : pc + 1 = n) (hk : ly[k]? = some (.inl (.long, N, .inr (.inl f0)))) (hi : vp_in i N) (k9 : Go M false Q cl sl n ls st (hp (wL S k i.toNatClampNeg v))) : Go M false Q cl sl pc ls (.long v :: .int i :: .ref k :: st) (hp S) := by
  refine go_last n hd hn (hp_at hk) hi ?_
  rw [hp_set (T := wL S k i.toNatClampNeg v) hk]
  · exact k9
  · have e9 : (wL S k i.toNatClampNeg v).2.1 k = vp_updL (S.2.1 k) i.toNatClampNeg v := by
      funext q
      by_cases hq : q = i.toNatClampNeg <;> simp [wL, vp_updL, hq]
    show Sum.inl (FieldType.long, N, _) = Sum.inl (FieldType.long, N, _)
    rw [← e9]
  · intro a d ha _
    exact wL_ne ha d
theorem g_dald (n : Nat) {k N : Nat} {f0 : Nat → UInt64} {i : Int32} (hd : decode M.code pc = .ok (.daload, 1)) (hn : pc + 1 = n) (hk : ly[k]? = some (.inl (.double, N, .inr (.inr (.inr (.inl f0)))))) (hi : vp_in i N) (k9 : Go M x Q cl sl n ls (.double (rD S k i.toNatClampNeg) :: st) (hp S)) : Go M x Q cl sl pc ls (.int i :: .ref k :: st) (hp S) :=
  go_dald n hd hn (hp_at hk) hi k9
theorem g_dast (n : Nat) {k N : Nat} {f0 : Nat → UInt64} {i : Int32} {v : UInt64} (hd : decode M.code pc = .ok (.dastore, 1)) (hn : pc + 1 = n) (hk : ly[k]? = some (.inl (.double, N, .inr (.inr (.inr (.inl f0)))))) (hi : vp_in i N) (k9 : Go M false Q cl sl n ls st (hp (wD S k i.toNatClampNeg v))) : Go M false Q cl sl pc ls (.double v :: .int i :: .ref k :: st) (hp S) := by
  refine go_dast n hd hn (hp_at hk) hi ?_
  rw [hp_set (T := wD S k i.toNatClampNeg v) hk]
  · exact k9
  · have e9 : (wD S k i.toNatClampNeg v).2.2 k = vf_upd (S.2.2 k) i.toNatClampNeg v := by
      funext q
      by_cases hq : q = i.toNatClampNeg <;> simp [wD, vf_upd, hq]
    show Sum.inl (FieldType.double, N, _) = Sum.inl (FieldType.double, N, _)
    rw [← e9]
  · intro a d ha _
    exact wD_ne ha d
theorem g_copy (n : Nat) {idx k0 k1 N : Nat} {f0 f1 : Nat → Int32} {n9 : Int32} (hd : decode M.code pc = .ok (.invokestatic idx, 3)) (hn : pc + 3 = n) (w1 : Cond.methodLink M.own idx arraycopyName ∈ go_gw) (hk0 : ly[k0]? = some (.inl (.int, N, .inl f0))) (hk1 : ly[k1]? = some (.inl (.int, N, .inl f1))) (h3 : ¬ n9 < 0) (h4 : n9.toNatClampNeg = N) (h6 : 1 ≤ M.rm.frames) (h7 : (st.map fun v => v.category).sum + (nativeFrameWords "java/lang/System" "arraycopy" 5 + 11) ≤ M.rm.locals) (k9 : Go M false Q cl sl n ls st (hp (wR S k1 (fun j => if j < N then rI S k0 j else rI S k1 j)))) : Go M false Q cl sl pc ls (.int n9 :: .int 0 :: .ref k1 :: .int 0 :: .ref k0 :: st) (hp S) := by
  subst h4
  refine go_copy n hd hn w1 wN_copy wT_copy wI_System (hp_at hk0) (hp_at hk1) (by decide) (by decide) h3 (by show (0 : Int32).toNatClampNeg + _ ≤ _; simp) (by show (0 : Int32).toNatClampNeg + _ ≤ _; simp) h6 h7 ?_
  rw [hp_set (T := wR S k1 (fun j => if j < n9.toNatClampNeg then rI S k0 j else rI S k1 j)) hk1]
  · exact k9
  · show Sum.inl (FieldType.int, _, _) = Sum.inl (FieldType.int, _, _)
    have e9 : (wR S k1 (fun j => if j < n9.toNatClampNeg then rI S k0 j else rI S k1 j)).1 k1 = va_cpy (S.1 k0) (S.1 k1) (0 : Int32).toNatClampNeg (0 : Int32).toNatClampNeg n9.toNatClampNeg := by
      funext q
      simp [wR, va_cpy, rI]
    rw [← e9]
  · intro a d ha _
    exact wR_ne ha d
end GL
/-- a contract over the steady heap: the answer, the new state -/
def gF (M : go_M) (a : List Value) (S : gS) (r : Option Value) (T : gS) : Prop := go_Cn M false a (hp S) (fun v h => v = r ∧ h = hp T)
def bi (p : Prop) [Decidable p] : Int32 := if p then 1 else 0
theorem bi0 {p : Prop} [Decidable p] : bi p = 0 ↔ ¬ p := by unfold bi; split <;> simp_all
theorem bi1 {p : Prop} [Decidable p] : ¬ bi p = 0 ↔ p := by unfold bi; split <;> simp_all
theorem bi_t {p : Prop} [Decidable p] (h : p) : bi p = 1 := by unfold bi; rw [if_pos h]
theorem bi_f {p : Prop} [Decidable p] (h : ¬ p) : bi p = 0 := by unfold bi; rw [if_neg h]
theorem bi_nar {p : Prop} [Decidable p] : narrow .boolean (.int (bi p)) = .int (bi p) := by unfold bi; split <;> rfl
