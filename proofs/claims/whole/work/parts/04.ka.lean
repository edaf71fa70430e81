set_option maxRecDepth 20000 in
theorem k_0 : cdOk 0 cd0 (byY 0) = true := by decide +kernel
set_option maxRecDepth 20000 in
theorem k_1 : cdOk 1 cd1 (byY 1) = true := by decide +kernel
set_option maxRecDepth 20000 in
theorem k_2 : cdOk 2 cd2 (byY 2) = true := by decide +kernel
set_option maxRecDepth 20000 in
theorem k_3 : cdOk 3 cd3 (byY 3) = true := by decide +kernel
set_option maxRecDepth 20000 in
theorem k_4 : cdOk 4 cd4 (byY 4) = true := by decide +kernel
set_option maxRecDepth 20000 in
theorem k_5 : cdOk 5 cd5 (byY 5) = true := by decide +kernel
set_option maxRecDepth 20000 in
theorem k_6 : cdOk 6 cd6 (byY 6) = true := by decide +kernel
set_option maxRecDepth 20000 in
theorem k_7 : cdOk 7 cd7 (byY 7) = true := by decide +kernel
set_option maxRecDepth 20000 in
theorem k_8 : cdOk 8 cd8 (byY 8) = true := by decide +kernel
set_option maxRecDepth 20000 in
theorem k_9 : cdOk 9 cd9 (byY 9) = true := by decide +kernel
set_option maxRecDepth 20000 in
theorem k_10 : cdOk 10 cd10 (byY 10) = true := by decide +kernel
set_option maxRecDepth 20000 in
theorem k_11 : cdOk 11 cd11 (byY 11) = true := by decide +kernel
set_option maxRecDepth 20000 in
theorem k_12 : cdOk 12 cd12 (byY 12) = true := by decide +kernel
set_option maxRecDepth 20000 in
theorem k_13 : cdOk 13 cd13 (byY 13) = true := by decide +kernel
set_option maxRecDepth 20000 in
theorem k_14 : cdOk 14 cd14 (byY 14) = true := by decide +kernel
set_option maxRecDepth 20000 in
theorem k_15 : cdOk 15 cd15 (byY 15) = true := by decide +kernel
set_option maxRecDepth 20000 in
theorem k_16 : cdOk 16 cd16 (byY 16) = true := by decide +kernel
set_option maxRecDepth 20000 in
theorem k_17 : cdOk 17 cd17 (byY 17) = true := by decide +kernel
set_option maxRecDepth 20000 in
theorem k_18 : cdOk 18 cd18 (byY 18) = true := by decide +kernel
set_option maxRecDepth 20000 in
theorem k_19 : cdOk 19 cd19 (byY 19) = true := by decide +kernel
set_option maxRecDepth 20000 in
theorem k_20 : cdOk 20 cd20 (byY 20) = true := by decide +kernel
set_option maxRecDepth 20000 in
theorem k_21 : cdOk 21 cd21 (byY 21) = true := by decide +kernel
set_option maxRecDepth 20000 in
theorem k_22 : cdOk 22 cd22 (byY 22) = true := by decide +kernel
set_option maxRecDepth 20000 in
theorem k_23 : cdOk 23 cd23 (byY 23) = true := by decide +kernel
set_option maxRecDepth 20000 in
theorem k_24 : cdOk 24 cd24 (byY 24) = true := by decide +kernel
set_option maxRecDepth 20000 in
theorem k_25 : cdOk 25 cd25 (byY 25) = true := by decide +kernel
set_option maxRecDepth 20000 in
theorem k_26 : cdOk 26 cd26 (byY 26) = true := by decide +kernel
set_option maxRecDepth 20000 in
theorem k_27 : cdOk 27 cd27 (byY 27) = true := by decide +kernel
set_option maxRecDepth 20000 in
theorem k_28 : cdOk 28 cd28 (byY 28) = true := by decide +kernel
set_option maxRecDepth 20000 in
theorem k_29 : cdOk 29 cd29 (byY 29) = true := by decide +kernel
set_option maxRecDepth 20000 in
theorem k_30 : cdOk 30 cd30 (byY 30) = true := by decide +kernel
set_option maxRecDepth 20000 in
theorem k_31 : cdOk 31 cd31 (byY 31) = true := by decide +kernel
set_option maxRecDepth 20000 in
theorem k_32 : cdOk 32 cd32 (byY 32) = true := by decide +kernel
set_option maxRecDepth 20000 in
theorem k_33 : cdOk 33 cd33 (byY 33) = true := by decide +kernel
set_option maxRecDepth 20000 in
theorem k_34 : cdOk 34 cd34 (byY 34) = true := by decide +kernel
set_option maxRecDepth 20000 in
theorem k_35 : cdOk 35 cd35 (byY 35) = true := by decide +kernel
set_option maxRecDepth 20000 in
theorem k_36 : cdOk 36 cd36 (byY 36) = true := by decide +kernel
set_option maxRecDepth 20000 in
theorem k_37 : cdOk 37 cd37 (byY 37) = true := by decide +kernel
set_option maxRecDepth 20000 in
theorem k_38 : cdOk 38 cd38 (byY 38) = true := by decide +kernel
set_option maxRecDepth 20000 in
theorem k_39 : cdOk 39 cd39 (byY 39) = true := by decide +kernel
set_option maxRecDepth 20000 in
theorem k_40 : cdOk 40 cd40 (byY 40) = true := by decide +kernel
set_option maxRecDepth 20000 in
theorem k_41 : cdOk 41 cd41 (byY 41) = true := by decide +kernel
set_option maxRecDepth 20000 in
theorem k_42 : cdOk 42 cd42 (byY 42) = true := by decide +kernel
set_option maxRecDepth 20000 in
theorem k_43 : cdOk 43 cd43 (byY 43) = true := by decide +kernel
set_option maxRecDepth 20000 in
theorem k_44 : cdOk 44 cd44 (byY 44) = true := by decide +kernel
set_option maxRecDepth 20000 in
theorem k_45 : cdOk 45 cd45 (byY 45) = true := by decide +kernel
set_option maxRecDepth 20000 in
theorem k_46 : cdOk 46 cd46 (byY 46) = true := by decide +kernel
set_option maxRecDepth 20000 in
theorem k_47 : cdOk 47 cd47 (byY 47) = true := by decide +kernel
set_option maxRecDepth 20000 in
theorem k_48 : cdOk 48 cd48 (byY 48) = true := by decide +kernel
set_option maxRecDepth 20000 in
theorem k_49 : cdOk 49 cd49 (byY 49) = true := by decide +kernel
set_option maxRecDepth 20000 in
theorem k_50 : cdOk 50 cd50 (byY 50) = true := by decide +kernel
set_option maxRecDepth 20000 in
theorem k_51 : cdOk 51 cd51 (byY 51) = true := by decide +kernel
set_option maxRecDepth 20000 in
theorem k_52 : cdOk 52 cd52 (byY 52) = true := by decide +kernel
set_option maxRecDepth 20000 in
theorem k_53 : cdOk 53 cd53 (byY 53) = true := by decide +kernel
set_option maxRecDepth 20000 in
theorem k_54 : cdOk 54 cd54 (byY 54) = true := by decide +kernel
set_option maxRecDepth 20000 in
theorem k_55 : cdOk 55 cd55 (byY 55) = true := by decide +kernel
set_option maxRecDepth 20000 in
theorem k_56 : cdOk 56 cd56 (byY 56) = true := by decide +kernel
set_option maxRecDepth 20000 in
theorem k_57 : cdOk 57 cd57 (byY 57) = true := by decide +kernel
set_option maxRecDepth 20000 in
theorem k_58 : cdOk 58 cd58 (byY 58) = true := by decide +kernel
set_option maxRecDepth 20000 in
theorem k_59 : cdOk 59 cd59 (byY 59) = true := by decide +kernel
set_option maxRecDepth 20000 in
theorem k_60 : cdOk 60 cd60 (byY 60) = true := by decide +kernel
set_option maxRecDepth 20000 in
theorem k_61 : cdOk 61 cd61 (byY 61) = true := by decide +kernel
set_option maxRecDepth 20000 in
theorem k_62 : cdOk 62 cd62 (byY 62) = true := by decide +kernel
set_option maxRecDepth 20000 in
theorem k_63 : cdOk 63 cd63 (byY 63) = true := by decide +kernel
set_option maxRecDepth 20000 in
theorem k_64 : cdOk 64 cd64 (byY 64) = true := by decide +kernel
set_option maxRecDepth 20000 in
theorem k_65 : cdOk 65 cd65 (byY 65) = true := by decide +kernel
set_option maxRecDepth 20000 in
theorem k_66 : cdOk 66 cd66 (byY 66) = true := by decide +kernel
set_option maxRecDepth 20000 in
theorem k_67 : cdOk 67 cd67 (byY 67) = true := by decide +kernel
set_option maxRecDepth 20000 in
theorem k_68 : cdOk 68 cd68 (byY 68) = true := by decide +kernel
set_option maxRecDepth 20000 in
theorem k_69 : cdOk 69 cd69 (byY 69) = true := by decide +kernel
set_option maxRecDepth 20000 in
theorem k_70 : cdOk 70 cd70 (byY 70) = true := by decide +kernel
set_option maxRecDepth 20000 in
theorem k_71 : cdOk 71 cd71 (byY 71) = true := by decide +kernel
set_option maxRecDepth 20000 in
theorem k_72 : cdOk 72 cd72 (byY 72) = true := by decide +kernel
set_option maxRecDepth 20000 in
theorem k_73 : cdOk 73 cd73 (byY 73) = true := by decide +kernel
set_option maxRecDepth 20000 in
theorem k_74 : cdOk 74 cd74 (byY 74) = true := by decide +kernel
set_option maxRecDepth 20000 in
theorem k_75 : cdOk 75 cd75 (byY 75) = true := by decide +kernel
set_option maxRecDepth 20000 in
theorem k_76 : cdOk 76 cd76 (byY 76) = true := by decide +kernel
set_option maxRecDepth 20000 in
theorem k_77 : cdOk 77 cd77 (byY 77) = true := by decide +kernel
set_option maxRecDepth 20000 in
theorem k_78 : cdOk 78 cd78 (byY 78) = true := by decide +kernel
set_option maxRecDepth 20000 in
theorem k_79 : cdOk 79 cd79 (byY 79) = true := by decide +kernel
set_option maxRecDepth 20000 in
theorem k_80 : cdOk 80 cd80 (byY 80) = true := by decide +kernel
set_option maxRecDepth 20000 in
theorem k_81 : cdOk 81 cd81 (byY 81) = true := by decide +kernel
set_option maxRecDepth 20000 in
theorem k_82 : cdOk 82 cd82 (byY 82) = true := by decide +kernel
set_option maxRecDepth 20000 in
theorem k_83 : cdOk 83 cd83 (byY 83) = true := by decide +kernel
set_option maxRecDepth 20000 in
theorem k_84 : cdOk 84 cd84 (byY 84) = true := by decide +kernel
set_option maxRecDepth 20000 in
theorem k_85 : cdOk 85 cd85 (byY 85) = true := by decide +kernel
set_option maxRecDepth 20000 in
theorem k_86 : cdOk 86 cd86 (byY 86) = true := by decide +kernel
set_option maxRecDepth 20000 in
theorem k_87 : cdOk 87 cd87 (byY 87) = true := by decide +kernel
set_option maxRecDepth 20000 in
theorem k_88 : cdOk 88 cd88 (byY 88) = true := by decide +kernel
set_option maxRecDepth 20000 in
theorem k_89 : cdOk 89 cd89 (byY 89) = true := by decide +kernel
set_option maxRecDepth 20000 in
theorem k_90 : cdOk 90 cd90 (byY 90) = true := by decide +kernel
set_option maxRecDepth 20000 in
theorem k_91 : cdOk 91 cd91 (byY 91) = true := by decide +kernel
set_option maxRecDepth 20000 in
theorem k_92 : cdOk 92 cd92 (byY 92) = true := by decide +kernel
set_option maxRecDepth 20000 in
theorem k_93 : cdOk 93 cd93 (byY 93) = true := by decide +kernel
set_option maxRecDepth 20000 in
theorem k_94 : cdOk 94 cd94 (byY 94) = true := by decide +kernel
set_option maxRecDepth 20000 in
theorem k_95 : cdOk 95 cd95 (byY 95) = true := by decide +kernel
set_option maxRecDepth 20000 in
theorem k_96 : cdOk 96 cd96 (byY 96) = true := by decide +kernel
set_option maxRecDepth 20000 in
theorem k_97 : cdOk 97 cd97 (byY 97) = true := by decide +kernel
set_option maxRecDepth 20000 in
theorem k_98 : cdOk 98 cd98 (byY 98) = true := by decide +kernel
set_option maxRecDepth 20000 in
theorem k_99 : cdOk 99 cd99 (byY 99) = true := by decide +kernel
set_option maxRecDepth 20000 in
theorem k_100 : cdOk 100 cd100 (byY 100) = true := by decide +kernel
set_option maxRecDepth 20000 in
theorem k_101 : cdOk 101 cd101 (byY 101) = true := by decide +kernel
set_option maxRecDepth 20000 in
theorem k_102 : cdOk 102 cd102 (byY 102) = true := by decide +kernel
set_option maxRecDepth 20000 in
theorem k_103 : cdOk 103 cd103 (byY 103) = true := by decide +kernel
set_option maxRecDepth 20000 in
theorem k_104 : cdOk 104 cd104 (byY 104) = true := by decide +kernel
set_option maxRecDepth 20000 in
theorem k_105 : cdOk 105 cd105 (byY 105) = true := by decide +kernel
set_option maxRecDepth 20000 in
theorem k_106 : cdOk 106 cd106 (byY 106) = true := by decide +kernel
set_option maxRecDepth 20000 in
theorem k_107 : cdOk 107 cd107 (byY 107) = true := by decide +kernel
set_option maxRecDepth 20000 in
theorem k_108 : cdOk 108 cd108 (byY 108) = true := by decide +kernel
set_option maxRecDepth 20000 in
theorem k_109 : cdOk 109 cd109 (byY 109) = true := by decide +kernel
set_option maxRecDepth 20000 in
theorem k_110 : cdOk 110 cd110 (byY 110) = true := by decide +kernel
set_option maxRecDepth 20000 in
theorem k_111 : cdOk 111 cd111 (byY 111) = true := by decide +kernel
set_option maxRecDepth 20000 in
theorem k_112 : cdOk 112 cd112 (byY 112) = true := by decide +kernel
set_option maxRecDepth 20000 in
theorem k_113 : cdOk 113 cd113 (byY 113) = true := by decide +kernel
set_option maxRecDepth 20000 in
theorem k_114 : cdOk 114 cd114 (byY 114) = true := by decide +kernel
set_option maxRecDepth 20000 in
theorem k_115 : cdOk 115 cd115 (byY 115) = true := by decide +kernel
set_option maxRecDepth 20000 in
theorem k_116 : cdOk 116 cd116 (byY 116) = true := by decide +kernel
set_option maxRecDepth 20000 in
theorem k_117 : cdOk 117 cd117 (byY 117) = true := by decide +kernel
set_option maxRecDepth 20000 in
theorem k_118 : cdOk 118 cd118 (byY 118) = true := by decide +kernel
set_option maxRecDepth 20000 in
theorem k_119 : cdOk 119 cd119 (byY 119) = true := by decide +kernel
set_option maxRecDepth 20000 in
theorem k_120 : cdOk 120 cd120 (byY 120) = true := by decide +kernel
set_option maxRecDepth 20000 in
theorem k_121 : cdOk 121 cd121 (byY 121) = true := by decide +kernel
set_option maxRecDepth 20000 in
theorem k_122 : cdOk 122 cd122 (byY 122) = true := by decide +kernel
set_option maxRecDepth 20000 in
theorem k_123 : cdOk 123 cd123 (byY 123) = true := by decide +kernel
set_option maxRecDepth 20000 in
theorem k_124 : cdOk 124 cd124 (byY 124) = true := by decide +kernel
set_option maxRecDepth 20000 in
theorem k_125 : cdOk 125 cd125 (byY 125) = true := by decide +kernel
set_option maxRecDepth 20000 in
theorem k_126 : cdOk 126 cd126 (byY 126) = true := by decide +kernel
set_option maxRecDepth 20000 in
theorem k_127 : cdOk 127 cd127 (byY 127) = true := by decide +kernel
set_option maxRecDepth 20000 in
theorem k_128 : cdOk 128 cd128 (byY 128) = true := by decide +kernel
set_option maxRecDepth 20000 in
theorem k_129 : cdOk 129 cd129 (byY 129) = true := by decide +kernel
set_option maxRecDepth 20000 in
theorem k_130 : cdOk 130 cd130 (byY 130) = true := by decide +kernel
set_option maxRecDepth 20000 in
theorem k_131 : cdOk 131 cd131 (byY 131) = true := by decide +kernel
set_option maxRecDepth 20000 in
theorem k_132 : cdOk 132 cd132 (byY 132) = true := by decide +kernel
set_option maxRecDepth 20000 in
theorem k_133 : cdOk 133 cd133 (byY 133) = true := by decide +kernel
set_option maxRecDepth 20000 in
theorem k_134 : cdOk 134 cd134 (byY 134) = true := by decide +kernel
set_option maxRecDepth 20000 in
theorem k_135 : cdOk 135 cd135 (byY 135) = true := by decide +kernel
set_option maxRecDepth 20000 in
theorem k_136 : cdOk 136 cd136 (byY 136) = true := by decide +kernel
set_option maxRecDepth 20000 in
theorem k_137 : cdOk 137 cd137 (byY 137) = true := by decide +kernel
set_option maxRecDepth 20000 in
theorem k_138 : cdOk 138 cd138 (byY 138) = true := by decide +kernel
set_option maxRecDepth 20000 in
theorem k_139 : cdOk 139 cd139 (byY 139) = true := by decide +kernel
set_option maxRecDepth 20000 in
theorem k_140 : cdOk 140 cd140 (byY 140) = true := by decide +kernel
set_option maxRecDepth 20000 in
theorem k_141 : cdOk 141 cd141 (byY 141) = true := by decide +kernel
set_option maxRecDepth 20000 in
theorem k_142 : cdOk 142 cd142 (byY 142) = true := by decide +kernel
set_option maxRecDepth 20000 in
theorem k_143 : cdOk 143 cd143 (byY 143) = true := by decide +kernel
set_option maxRecDepth 20000 in
theorem k_144 : cdOk 144 cd144 (byY 144) = true := by decide +kernel
set_option maxRecDepth 20000 in
theorem k_145 : cdOk 145 cd145 (byY 145) = true := by decide +kernel
set_option maxRecDepth 20000 in
theorem k_146 : cdOk 146 cd146 (byY 146) = true := by decide +kernel
set_option maxRecDepth 20000 in
theorem k_147 : cdOk 147 cd147 (byY 147) = true := by decide +kernel
set_option maxRecDepth 20000 in
theorem k_148 : cdOk 148 cd148 (byY 148) = true := by decide +kernel
set_option maxRecDepth 20000 in
theorem k_149 : cdOk 149 cd149 (byY 149) = true := by decide +kernel
