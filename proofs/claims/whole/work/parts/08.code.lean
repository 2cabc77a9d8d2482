theorem mc0 : lw_tbl[659]? = some (.code (mN 0) (mC 0) (mL 0) (mR 0)) := by decide +kernel
theorem mc1 : lw_tbl[664]? = some (.code (mN 1) (mC 1) (mL 1) (mR 1)) := by decide +kernel
theorem mc2 : lw_tbl[655]? = some (.code (mN 2) (mC 2) (mL 2) (mR 2)) := by decide +kernel
theorem mc3 : lw_tbl[670]? = some (.code (mN 3) (mC 3) (mL 3) (mR 3)) := by decide +kernel
theorem mc4 : lw_tbl[674]? = some (.code (mN 4) (mC 4) (mL 4) (mR 4)) := by decide +kernel
theorem mc5 : lw_tbl[277]? = some (.code (mN 5) (mC 5) (mL 5) (mR 5)) := by decide +kernel
theorem mc6 : lw_tbl[549]? = some (.code (mN 6) (mC 6) (mL 6) (mR 6)) := by decide +kernel
theorem mc7 : lw_tbl[321]? = some (.code (mN 7) (mC 7) (mL 7) (mR 7)) := by decide +kernel
theorem mc8 : lw_tbl[569]? = some (.code (mN 8) (mC 8) (mL 8) (mR 8)) := by decide +kernel
theorem mc9 : lw_tbl[306]? = some (.code (mN 9) (mC 9) (mL 9) (mR 9)) := by decide +kernel
theorem mc10 : lw_tbl[325]? = some (.code (mN 10) (mC 10) (mL 10) (mR 10)) := by decide +kernel
theorem mc11 : lw_tbl[579]? = some (.code (mN 11) (mC 11) (mL 11) (mR 11)) := by decide +kernel
theorem mc12 : lw_tbl[622]? = some (.code (mN 12) (mC 12) (mL 12) (mR 12)) := by decide +kernel
theorem mc13 : lw_tbl[644]? = some (.code (mN 13) (mC 13) (mL 13) (mR 13)) := by decide +kernel
theorem mc14 : lw_tbl[607]? = some (.code (mN 14) (mC 14) (mL 14) (mR 14)) := by decide +kernel
theorem mc15 : lw_tbl[313]? = some (.code (mN 15) (mC 15) (mL 15) (mR 15)) := by decide +kernel
theorem mc16 : lw_tbl[634]? = some (.code (mN 16) (mC 16) (mL 16) (mR 16)) := by decide +kernel
theorem mc17 : lw_tbl[512]? = some (.code (mN 17) (mC 17) (mL 17) (mR 17)) := by decide +kernel
theorem mc18 : lw_tbl[477]? = some (.code (mN 18) (mC 18) (mL 18) (mR 18)) := by decide +kernel
theorem mc19 : lw_tbl[329]? = some (.code (mN 19) (mC 19) (mL 19) (mR 19)) := by decide +kernel
theorem mc20 : lw_tbl[598]? = some (.code (mN 20) (mC 20) (mL 20) (mR 20)) := by decide +kernel
theorem mc21 : lw_tbl[333]? = some (.code (mN 21) (mC 21) (mL 21) (mR 21)) := by decide +kernel
theorem mc22 : lw_tbl[532]? = some (.code (mN 22) (mC 22) (mL 22) (mR 22)) := by decide +kernel
theorem mc23 : lw_tbl[545]? = some (.code (mN 23) (mC 23) (mL 23) (mR 23)) := by decide +kernel
theorem mc24 : lw_tbl[486]? = some (.code (mN 24) (mC 24) (mL 24) (mR 24)) := by decide +kernel
theorem mc25 : lw_tbl[541]? = some (.code (mN 25) (mC 25) (mL 25) (mR 25)) := by decide +kernel
theorem mc26 : lw_tbl[473]? = some (.code (mN 26) (mC 26) (mL 26) (mR 26)) := by decide +kernel
theorem mc27 : lw_tbl[888]? = some (.code (mN 27) (mC 27) (mL 27) (mR 27)) := by decide +kernel
theorem mc28 : lw_tbl[516]? = some (.code (mN 28) (mC 28) (mL 28) (mR 28)) := by decide +kernel
theorem mc29 : lw_tbl[508]? = some (.code (mN 29) (mC 29) (mL 29) (mR 29)) := by decide +kernel
theorem mc30 : lw_tbl[482]? = some (.code (mN 30) (mC 30) (mL 30) (mR 30)) := by decide +kernel
theorem mc31 : lw_tbl[490]? = some (.code (mN 31) (mC 31) (mL 31) (mR 31)) := by decide +kernel
theorem mc32 : lw_tbl[630]? = some (.code (mN 32) (mC 32) (mL 32) (mR 32)) := by decide +kernel
theorem mc33 : lw_tbl[503]? = some (.code (mN 33) (mC 33) (mL 33) (mR 33)) := by decide +kernel
theorem mc34 : lw_tbl[710]? = some (.code (mN 34) (mC 34) (mL 34) (mR 34)) := by decide +kernel
theorem mc35 : lw_tbl[284]? = some (.code (mN 35) (mC 35) (mL 35) (mR 35)) := by decide +kernel
theorem mc36 : lw_tbl[714]? = some (.code (mN 36) (mC 36) (mL 36) (mR 36)) := by decide +kernel
theorem mc37 : lw_tbl[719]? = some (.code (mN 37) (mC 37) (mL 37) (mR 37)) := by decide +kernel
theorem mc38 : lw_tbl[732]? = some (.code (mN 38) (mC 38) (mL 38) (mR 38)) := by decide +kernel
theorem mc39 : lw_tbl[559]? = some (.code (mN 39) (mC 39) (mL 39) (mR 39)) := by decide +kernel
theorem mc40 : lw_tbl[899]? = some (.code (mN 40) (mC 40) (mL 40) (mR 40)) := by decide +kernel
theorem mc41 : lw_tbl[341]? = some (.code (mN 41) (mC 41) (mL 41) (mR 41)) := by decide +kernel
theorem mc42 : lw_tbl[354]? = some (.code (mN 42) (mC 42) (mL 42) (mR 42)) := by decide +kernel
theorem mc43 : lw_tbl[438]? = some (.code (mN 43) (mC 43) (mL 43) (mR 43)) := by decide +kernel
theorem mc44 : lw_tbl[442]? = some (.code (mN 44) (mC 44) (mL 44) (mR 44)) := by decide +kernel
theorem mc45 : lw_tbl[447]? = some (.code (mN 45) (mC 45) (mL 45) (mR 45)) := by decide +kernel
theorem mc46 : lw_tbl[457]? = some (.code (mN 46) (mC 46) (mL 46) (mR 46)) := by decide +kernel
theorem mc47 : lw_tbl[463]? = some (.code (mN 47) (mC 47) (mL 47) (mR 47)) := by decide +kernel
theorem mc48 : lw_tbl[469]? = some (.code (mN 48) (mC 48) (mL 48) (mR 48)) := by decide +kernel
theorem mc49 : lw_tbl[537]? = some (.code (mN 49) (mC 49) (mL 49) (mR 49)) := by decide +kernel
theorem mc50 : lw_tbl[434]? = some (.code (mN 50) (mC 50) (mL 50) (mR 50)) := by decide +kernel
theorem mc51 : lw_tbl[451]? = some (.code (mN 51) (mC 51) (mL 51) (mR 51)) := by decide +kernel
theorem mc52 : lw_tbl[382]? = some (.code (mN 52) (mC 52) (mL 52) (mR 52)) := by decide +kernel
theorem mc53 : lw_tbl[358]? = some (.code (mN 53) (mC 53) (mL 53) (mR 53)) := by decide +kernel
theorem mc54 : lw_tbl[369]? = some (.code (mN 54) (mC 54) (mL 54) (mR 54)) := by decide +kernel
theorem mc55 : lw_tbl[377]? = some (.code (mN 55) (mC 55) (mL 55) (mR 55)) := by decide +kernel
theorem mc56 : lw_tbl[365]? = some (.code (mN 56) (mC 56) (mL 56) (mR 56)) := by decide +kernel
theorem mc57 : lw_tbl[373]? = some (.code (mN 57) (mC 57) (mL 57) (mR 57)) := by decide +kernel
theorem mc58 : lw_tbl[273]? = some (.code (mN 58) (mC 58) (mL 58) (mR 58)) := by decide +kernel
theorem mc59 : lw_tbl[288]? = some (.code (mN 59) (mC 59) (mL 59) (mR 59)) := by decide +kernel
theorem mc60 : lw_tbl[317]? = some (.code (mN 60) (mC 60) (mL 60) (mR 60)) := by decide +kernel
theorem mc61 : lw_tbl[337]? = some (.code (mN 61) (mC 61) (mL 61) (mR 61)) := by decide +kernel
theorem mc62 : lw_tbl[346]? = some (.code (mN 62) (mC 62) (mL 62) (mR 62)) := by decide +kernel
theorem mc63 : lw_tbl[350]? = some (.code (mN 63) (mC 63) (mL 63) (mR 63)) := by decide +kernel
theorem mc64 : lw_tbl[565]? = some (.code (mN 64) (mC 64) (mL 64) (mR 64)) := by decide +kernel
theorem mc65 : lw_tbl[585]? = some (.code (mN 65) (mC 65) (mL 65) (mR 65)) := by decide +kernel
theorem mc66 : lw_tbl[591]? = some (.code (mN 66) (mC 66) (mL 66) (mR 66)) := by decide +kernel
theorem mc67 : lw_tbl[603]? = some (.code (mN 67) (mC 67) (mL 67) (mR 67)) := by decide +kernel
theorem mc68 : lw_tbl[612]? = some (.code (mN 68) (mC 68) (mL 68) (mR 68)) := by decide +kernel
theorem mc69 : lw_tbl[618]? = some (.code (mN 69) (mC 69) (mL 69) (mR 69)) := by decide +kernel
theorem mc70 : lw_tbl[626]? = some (.code (mN 70) (mC 70) (mL 70) (mR 70)) := by decide +kernel
theorem mc71 : lw_tbl[640]? = some (.code (mN 71) (mC 71) (mL 71) (mR 71)) := by decide +kernel
theorem mc72 : lw_tbl[650]? = some (.code (mN 72) (mC 72) (mL 72) (mR 72)) := by decide +kernel
theorem mc73 : lw_tbl[678]? = some (.code (mN 73) (mC 73) (mL 73) (mR 73)) := by decide +kernel
theorem mc74 : lw_tbl[683]? = some (.code (mN 74) (mC 74) (mL 74) (mR 74)) := by decide +kernel
theorem mc75 : lw_tbl[689]? = some (.code (mN 75) (mC 75) (mL 75) (mR 75)) := by decide +kernel
theorem mc76 : lw_tbl[693]? = some (.code (mN 76) (mC 76) (mL 76) (mR 76)) := by decide +kernel
theorem mc77 : lw_tbl[699]? = some (.code (mN 77) (mC 77) (mL 77) (mR 77)) := by decide +kernel
theorem mc78 : lw_tbl[703]? = some (.code (mN 78) (mC 78) (mL 78) (mR 78)) := by decide +kernel
theorem mc79 : lw_tbl[724]? = some (.code (mN 79) (mC 79) (mL 79) (mR 79)) := by decide +kernel
theorem mc80 : lw_tbl[740]? = some (.code (mN 80) (mC 80) (mL 80) (mR 80)) := by decide +kernel
theorem mc81 : lw_tbl[728]? = some (.code (mN 81) (mC 81) (mL 81) (mR 81)) := by decide +kernel
theorem mc82 : lw_tbl[750]? = some (.code (mN 82) (mC 82) (mL 82) (mR 82)) := by decide +kernel
theorem mc83 : lw_tbl[754]? = some (.code (mN 83) (mC 83) (mL 83) (mR 83)) := by decide +kernel
theorem mc84 : lw_tbl[758]? = some (.code (mN 84) (mC 84) (mL 84) (mR 84)) := by decide +kernel
theorem mc85 : lw_tbl[763]? = some (.code (mN 85) (mC 85) (mL 85) (mR 85)) := by decide +kernel
theorem mc86 : lw_tbl[775]? = some (.code (mN 86) (mC 86) (mL 86) (mR 86)) := by decide +kernel
theorem mc87 : lw_tbl[767]? = some (.code (mN 87) (mC 87) (mL 87) (mR 87)) := by decide +kernel
theorem mc88 : lw_tbl[771]? = some (.code (mN 88) (mC 88) (mL 88) (mR 88)) := by decide +kernel
theorem mc89 : lw_tbl[779]? = some (.code (mN 89) (mC 89) (mL 89) (mR 89)) := by decide +kernel
theorem mc90 : lw_tbl[784]? = some (.code (mN 90) (mC 90) (mL 90) (mR 90)) := by decide +kernel
theorem mc91 : lw_tbl[790]? = some (.code (mN 91) (mC 91) (mL 91) (mR 91)) := by decide +kernel
theorem mc92 : lw_tbl[803]? = some (.code (mN 92) (mC 92) (mL 92) (mR 92)) := by decide +kernel
theorem mc93 : lw_tbl[794]? = some (.code (mN 93) (mC 93) (mL 93) (mR 93)) := by decide +kernel
theorem mc94 : lw_tbl[798]? = some (.code (mN 94) (mC 94) (mL 94) (mR 94)) := by decide +kernel
theorem mc95 : lw_tbl[808]? = some (.code (mN 95) (mC 95) (mL 95) (mR 95)) := by decide +kernel
theorem mc96 : lw_tbl[812]? = some (.code (mN 96) (mC 96) (mL 96) (mR 96)) := by decide +kernel
theorem mc97 : lw_tbl[816]? = some (.code (mN 97) (mC 97) (mL 97) (mR 97)) := by decide +kernel
theorem mc98 : lw_tbl[820]? = some (.code (mN 98) (mC 98) (mL 98) (mR 98)) := by decide +kernel
theorem mc99 : lw_tbl[824]? = some (.code (mN 99) (mC 99) (mL 99) (mR 99)) := by decide +kernel
theorem mc100 : lw_tbl[835]? = some (.code (mN 100) (mC 100) (mL 100) (mR 100)) := by decide +kernel
theorem mc101 : lw_tbl[840]? = some (.code (mN 101) (mC 101) (mL 101) (mR 101)) := by decide +kernel
theorem mc102 : lw_tbl[844]? = some (.code (mN 102) (mC 102) (mL 102) (mR 102)) := by decide +kernel
theorem mc103 : lw_tbl[828]? = some (.code (mN 103) (mC 103) (mL 103) (mR 103)) := by decide +kernel
theorem mc104 : lw_tbl[831]? = some (.code (mN 104) (mC 104) (mL 104) (mR 104)) := by decide +kernel
theorem mc105 : lw_tbl[848]? = some (.code (mN 105) (mC 105) (mL 105) (mR 105)) := by decide +kernel
theorem mc106 : lw_tbl[859]? = some (.code (mN 106) (mC 106) (mL 106) (mR 106)) := by decide +kernel
theorem mc107 : lw_tbl[864]? = some (.code (mN 107) (mC 107) (mL 107) (mR 107)) := by decide +kernel
theorem mc108 : lw_tbl[868]? = some (.code (mN 108) (mC 108) (mL 108) (mR 108)) := by decide +kernel
theorem mc109 : lw_tbl[872]? = some (.code (mN 109) (mC 109) (mL 109) (mR 109)) := by decide +kernel
theorem mc110 : lw_tbl[876]? = some (.code (mN 110) (mC 110) (mL 110) (mR 110)) := by decide +kernel
theorem mc111 : lw_tbl[880]? = some (.code (mN 111) (mC 111) (mL 111) (mR 111)) := by decide +kernel
theorem mc112 : lw_tbl[884]? = some (.code (mN 112) (mC 112) (mL 112) (mR 112)) := by decide +kernel
theorem mc113 : lw_tbl[893]? = some (.code (mN 113) (mC 113) (mL 113) (mR 113)) := by decide +kernel
theorem mc114 : lw_tbl[298]? = some (.code (mN 114) (mC 114) (mL 114) (mR 114)) := by decide +kernel
theorem mc115 : lw_tbl[575]? = some (.code (mN 115) (mC 115) (mL 115) (mR 115)) := by decide +kernel
theorem mc116 : lw_tbl[302]? = some (.code (mN 116) (mC 116) (mL 116) (mR 116)) := by decide +kernel
theorem mc117 : lw_tbl[291]? = some (.code (mN 117) (mC 117) (mL 117) (mR 117)) := by decide +kernel
theorem mc118 : lw_tbl[294]? = some (.code (mN 118) (mC 118) (mL 118) (mR 118)) := by decide +kernel
theorem mc119 : lw_tbl[594]? = some (.code (mN 119) (mC 119) (mL 119) (mR 119)) := by decide +kernel
theorem mc120 : lw_tbl[706]? = some (.code (mN 120) (mC 120) (mL 120) (mR 120)) := by decide +kernel
theorem mc121 : lw_tbl[361]? = some (.code (mN 121) (mC 121) (mL 121) (mR 121)) := by decide +kernel
theorem mc122 : lw_tbl[309]? = some (.code (mN 122) (mC 122) (mL 122) (mR 122)) := by decide +kernel
theorem mc123 : lw_tbl[552]? = some (.code (mN 123) (mC 123) (mL 123) (mR 123)) := by decide +kernel
theorem mc124 : lw_tbl[519]? = some (.code (mN 124) (mC 124) (mL 124) (mR 124)) := by decide +kernel
theorem mc125 : lw_tbl[522]? = some (.code (mN 125) (mC 125) (mL 125) (mR 125)) := by decide +kernel
theorem mc126 : lw_tbl[736]? = some (.code (mN 126) (mC 126) (mL 126) (mR 126)) := by decide +kernel
theorem mc127 : lw_tbl[525]? = some (.code (mN 127) (mC 127) (mL 127) (mR 127)) := by decide +kernel
theorem mc128 : lw_tbl[528]? = some (.code (mN 128) (mC 128) (mL 128) (mR 128)) := by decide +kernel
theorem mc129 : lw_tbl[493]? = some (.code (mN 129) (mC 129) (mL 129) (mR 129)) := by decide +kernel
theorem mc130 : lw_tbl[970]? = some (.code (mN 130) (mC 130) (mL 130) (mR 130)) := by decide +kernel
theorem mc131 : lw_tbl[1097]? = some (.code (mN 131) (mC 131) (mL 131) (mR 131)) := by decide +kernel
theorem mc132 : lw_tbl[975]? = some (.code (mN 132) (mC 132) (mL 132) (mR 132)) := by decide +kernel
theorem mc133 : lw_tbl[1125]? = some (.code (mN 133) (mC 133) (mL 133) (mR 133)) := by decide +kernel
theorem mc134 : lw_tbl[979]? = some (.code (mN 134) (mC 134) (mL 134) (mR 134)) := by decide +kernel
theorem mc135 : lw_tbl[1113]? = some (.code (mN 135) (mC 135) (mL 135) (mR 135)) := by decide +kernel
theorem mc136 : lw_tbl[962]? = some (.code (mN 136) (mC 136) (mL 136) (mR 136)) := by decide +kernel
theorem mc137 : lw_tbl[1121]? = some (.code (mN 137) (mC 137) (mL 137) (mR 137)) := by decide +kernel
theorem mc138 : lw_tbl[992]? = some (.code (mN 138) (mC 138) (mL 138) (mR 138)) := by decide +kernel
theorem mc139 : lw_tbl[1209]? = some (.code (mN 139) (mC 139) (mL 139) (mR 139)) := by decide +kernel
theorem mc140 : lw_tbl[1089]? = some (.code (mN 140) (mC 140) (mL 140) (mR 140)) := by decide +kernel
theorem mc141 : lw_tbl[1092]? = some (.code (mN 141) (mC 141) (mL 141) (mR 141)) := by decide +kernel
theorem mc142 : lw_tbl[1086]? = some (.code (mN 142) (mC 142) (mL 142) (mR 142)) := by decide +kernel
theorem mc143 : lw_tbl[1072]? = some (.code (mN 143) (mC 143) (mL 143) (mR 143)) := by decide +kernel
theorem mc144 : lw_tbl[1069]? = some (.code (mN 144) (mC 144) (mL 144) (mR 144)) := by decide +kernel
theorem mc145 : lw_tbl[1083]? = some (.code (mN 145) (mC 145) (mL 145) (mR 145)) := by decide +kernel
theorem mc146 : lw_tbl[1080]? = some (.code (mN 146) (mC 146) (mL 146) (mR 146)) := by decide +kernel
theorem mc147 : lw_tbl[1066]? = some (.code (mN 147) (mC 147) (mL 147) (mR 147)) := by decide +kernel
theorem mc148 : lw_tbl[958]? = some (.code (mN 148) (mC 148) (mL 148) (mR 148)) := by decide +kernel
theorem mc149 : lw_tbl[983]? = some (.code (mN 149) (mC 149) (mL 149) (mR 149)) := by decide +kernel
theorem mc150 : lw_tbl[966]? = some (.code (mN 150) (mC 150) (mL 150) (mR 150)) := by decide +kernel
theorem mc151 : lw_tbl[996]? = some (.code (mN 151) (mC 151) (mL 151) (mR 151)) := by decide +kernel
theorem mc152 : lw_tbl[987]? = some (.code (mN 152) (mC 152) (mL 152) (mR 152)) := by decide +kernel
theorem mc153 : lw_tbl[1000]? = some (.code (mN 153) (mC 153) (mL 153) (mR 153)) := by decide +kernel
theorem mc154 : lw_tbl[1005]? = some (.code (mN 154) (mC 154) (mL 154) (mR 154)) := by decide +kernel
theorem mc155 : lw_tbl[1017]? = some (.code (mN 155) (mC 155) (mL 155) (mR 155)) := by decide +kernel
theorem mc156 : lw_tbl[1013]? = some (.code (mN 156) (mC 156) (mL 156) (mR 156)) := by decide +kernel
theorem mc157 : lw_tbl[1025]? = some (.code (mN 157) (mC 157) (mL 157) (mR 157)) := by decide +kernel
theorem mc158 : lw_tbl[1035]? = some (.code (mN 158) (mC 158) (mL 158) (mR 158)) := by decide +kernel
theorem mc159 : lw_tbl[1039]? = some (.code (mN 159) (mC 159) (mL 159) (mR 159)) := by decide +kernel
theorem mc160 : lw_tbl[1031]? = some (.code (mN 160) (mC 160) (mL 160) (mR 160)) := by decide +kernel
theorem mc161 : lw_tbl[1047]? = some (.code (mN 161) (mC 161) (mL 161) (mR 161)) := by decide +kernel
theorem mc162 : lw_tbl[1109]? = some (.code (mN 162) (mC 162) (mL 162) (mR 162)) := by decide +kernel
theorem mc163 : lw_tbl[1043]? = some (.code (mN 163) (mC 163) (mL 163) (mR 163)) := by decide +kernel
theorem mc164 : lw_tbl[1054]? = some (.code (mN 164) (mC 164) (mL 164) (mR 164)) := by decide +kernel
theorem mc165 : lw_tbl[1058]? = some (.code (mN 165) (mC 165) (mL 165) (mR 165)) := by decide +kernel
theorem mc166 : lw_tbl[1062]? = some (.code (mN 166) (mC 166) (mL 166) (mR 166)) := by decide +kernel
theorem mc167 : lw_tbl[1101]? = some (.code (mN 167) (mC 167) (mL 167) (mR 167)) := by decide +kernel
theorem mc168 : lw_tbl[1021]? = some (.code (mN 168) (mC 168) (mL 168) (mR 168)) := by decide +kernel
theorem mc169 : lw_tbl[1009]? = some (.code (mN 169) (mC 169) (mL 169) (mR 169)) := by decide +kernel
theorem mc170 : lw_tbl[1076]? = some (.code (mN 170) (mC 170) (mL 170) (mR 170)) := by decide +kernel
theorem mc171 : lw_tbl[1105]? = some (.code (mN 171) (mC 171) (mL 171) (mR 171)) := by decide +kernel
theorem mc172 : lw_tbl[1129]? = some (.code (mN 172) (mC 172) (mL 172) (mR 172)) := by decide +kernel
theorem mc173 : lw_tbl[1117]? = some (.code (mN 173) (mC 173) (mL 173) (mR 173)) := by decide +kernel
theorem mc174 : lw_tbl[1133]? = some (.code (mN 174) (mC 174) (mL 174) (mR 174)) := by decide +kernel
theorem mc175 : lw_tbl[1137]? = some (.code (mN 175) (mC 175) (mL 175) (mR 175)) := by decide +kernel
theorem mc176 : lw_tbl[1141]? = some (.code (mN 176) (mC 176) (mL 176) (mR 176)) := by decide +kernel
theorem mc177 : lw_tbl[1145]? = some (.code (mN 177) (mC 177) (mL 177) (mR 177)) := by decide +kernel
theorem mc178 : lw_tbl[1150]? = some (.code (mN 178) (mC 178) (mL 178) (mR 178)) := by decide +kernel
theorem mc179 : lw_tbl[1154]? = some (.code (mN 179) (mC 179) (mL 179) (mR 179)) := by decide +kernel
theorem mc180 : lw_tbl[1158]? = some (.code (mN 180) (mC 180) (mL 180) (mR 180)) := by decide +kernel
theorem mc181 : lw_tbl[1162]? = some (.code (mN 181) (mC 181) (mL 181) (mR 181)) := by decide +kernel
theorem mc182 : lw_tbl[1174]? = some (.code (mN 182) (mC 182) (mL 182) (mR 182)) := by decide +kernel
theorem mc183 : lw_tbl[1179]? = some (.code (mN 183) (mC 183) (mL 183) (mR 183)) := by decide +kernel
theorem mc184 : lw_tbl[1182]? = some (.code (mN 184) (mC 184) (mL 184) (mR 184)) := by decide +kernel
theorem mc185 : lw_tbl[1170]? = some (.code (mN 185) (mC 185) (mL 185) (mR 185)) := by decide +kernel
theorem mc186 : lw_tbl[1166]? = some (.code (mN 186) (mC 186) (mL 186) (mR 186)) := by decide +kernel
theorem mc187 : lw_tbl[1186]? = some (.code (mN 187) (mC 187) (mL 187) (mR 187)) := by decide +kernel
theorem mc188 : lw_tbl[1190]? = some (.code (mN 188) (mC 188) (mL 188) (mR 188)) := by decide +kernel
theorem mc189 : lw_tbl[1194]? = some (.code (mN 189) (mC 189) (mL 189) (mR 189)) := by decide +kernel
theorem mc190 : lw_tbl[1202]? = some (.code (mN 190) (mC 190) (mL 190) (mR 190)) := by decide +kernel
theorem mc191 : lw_tbl[1198]? = some (.code (mN 191) (mC 191) (mL 191) (mR 191)) := by decide +kernel
theorem mc192 : lw_tbl[1206]? = some (.code (mN 192) (mC 192) (mL 192) (mR 192)) := by decide +kernel
theorem mc193 : lw_tbl[1222]? = some (.code (mN 193) (mC 193) (mL 193) (mR 193)) := by decide +kernel
theorem mc194 : lw_tbl[1218]? = some (.code (mN 194) (mC 194) (mL 194) (mR 194)) := by decide +kernel
theorem mc195 : lw_tbl[1214]? = some (.code (mN 195) (mC 195) (mL 195) (mR 195)) := by decide +kernel
theorem mc196 : lw_tbl[1226]? = some (.code (mN 196) (mC 196) (mL 196) (mR 196)) := by decide +kernel
theorem mc197 : lw_tbl[1230]? = some (.code (mN 197) (mC 197) (mL 197) (mR 197)) := by decide +kernel
theorem mc198 : lw_tbl[1234]? = some (.code (mN 198) (mC 198) (mL 198) (mR 198)) := by decide +kernel
theorem mc199 : lw_tbl[1238]? = some (.code (mN 199) (mC 199) (mL 199) (mR 199)) := by decide +kernel
theorem mc200 : lw_tbl[1250]? = some (.code (mN 200) (mC 200) (mL 200) (mR 200)) := by decide +kernel
theorem mc201 : lw_tbl[1246]? = some (.code (mN 201) (mC 201) (mL 201) (mR 201)) := by decide +kernel
theorem mc202 : lw_tbl[1242]? = some (.code (mN 202) (mC 202) (mL 202) (mR 202)) := by decide +kernel
theorem mc203 : lw_tbl[1254]? = some (.code (mN 203) (mC 203) (mL 203) (mR 203)) := by decide +kernel
theorem mc204 : lw_tbl[1266]? = some (.code (mN 204) (mC 204) (mL 204) (mR 204)) := by decide +kernel
theorem mc205 : lw_tbl[1262]? = some (.code (mN 205) (mC 205) (mL 205) (mR 205)) := by decide +kernel
theorem mc206 : lw_tbl[1258]? = some (.code (mN 206) (mC 206) (mL 206) (mR 206)) := by decide +kernel
theorem mc207 : lw_tbl[1270]? = some (.code (mN 207) (mC 207) (mL 207) (mR 207)) := by decide +kernel
theorem mc208 : lw_tbl[1277]? = some (.code (mN 208) (mC 208) (mL 208) (mR 208)) := by decide +kernel
theorem mc209 : lw_tbl[1274]? = some (.code (mN 209) (mC 209) (mL 209) (mR 209)) := by decide +kernel
theorem mc210 : lw_tbl[1286]? = some (.code (mN 210) (mC 210) (mL 210) (mR 210)) := by decide +kernel
theorem mc211 : lw_tbl[1281]? = some (.code (mN 211) (mC 211) (mL 211) (mR 211)) := by decide +kernel
theorem mc212 : lw_tbl[1290]? = some (.code (mN 212) (mC 212) (mL 212) (mR 212)) := by decide +kernel
theorem mc213 : lw_tbl[1301]? = some (.code (mN 213) (mC 213) (mL 213) (mR 213)) := by decide +kernel
theorem mc214 : lw_tbl[1305]? = some (.code (mN 214) (mC 214) (mL 214) (mR 214)) := by decide +kernel
theorem mc215 : lw_tbl[1309]? = some (.code (mN 215) (mC 215) (mL 215) (mR 215)) := by decide +kernel
theorem mc216 : lw_tbl[1313]? = some (.code (mN 216) (mC 216) (mL 216) (mR 216)) := by decide +kernel
theorem mc217 : lw_tbl[1325]? = some (.code (mN 217) (mC 217) (mL 217) (mR 217)) := by decide +kernel
theorem mc218 : lw_tbl[1321]? = some (.code (mN 218) (mC 218) (mL 218) (mR 218)) := by decide +kernel
theorem mc219 : lw_tbl[1317]? = some (.code (mN 219) (mC 219) (mL 219) (mR 219)) := by decide +kernel
theorem mc220 : lw_tbl[1334]? = some (.code (mN 220) (mC 220) (mL 220) (mR 220)) := by decide +kernel
theorem mc221 : lw_tbl[1339]? = some (.code (mN 221) (mC 221) (mL 221) (mR 221)) := by decide +kernel
theorem mc222 : lw_tbl[1329]? = some (.code (mN 222) (mC 222) (mL 222) (mR 222)) := by decide +kernel
theorem mc223 : lw_tbl[743]? = some (.code (mN 223) (mC 223) (mL 223) (mR 223)) := by decide +kernel
theorem mc224 : lw_tbl[280]? = some (.code (mN 224) (mC 224) (mL 224) (mR 224)) := by decide +kernel
theorem mc225 : lw_tbl[496]? = some (.code (mN 225) (mC 225) (mL 225) (mR 225)) := by decide +kernel
theorem mc226 : lw_tbl[499]? = some (.code (mN 226) (mC 226) (mL 226) (mR 226)) := by decide +kernel
theorem mc_all : ∀ y, y < 227 → ∃ i : Nat, lw_tbl[i]? = some (Jvm.Cond.code (mN y) (mC y) (mL y) (mR y)) := by
  intro y hy
  match y, hy with
  | 0, _ => exact ⟨659, mc0⟩
  | 1, _ => exact ⟨664, mc1⟩
  | 2, _ => exact ⟨655, mc2⟩
  | 3, _ => exact ⟨670, mc3⟩
  | 4, _ => exact ⟨674, mc4⟩
  | 5, _ => exact ⟨277, mc5⟩
  | 6, _ => exact ⟨549, mc6⟩
  | 7, _ => exact ⟨321, mc7⟩
  | 8, _ => exact ⟨569, mc8⟩
  | 9, _ => exact ⟨306, mc9⟩
  | 10, _ => exact ⟨325, mc10⟩
  | 11, _ => exact ⟨579, mc11⟩
  | 12, _ => exact ⟨622, mc12⟩
  | 13, _ => exact ⟨644, mc13⟩
  | 14, _ => exact ⟨607, mc14⟩
  | 15, _ => exact ⟨313, mc15⟩
  | 16, _ => exact ⟨634, mc16⟩
  | 17, _ => exact ⟨512, mc17⟩
  | 18, _ => exact ⟨477, mc18⟩
  | 19, _ => exact ⟨329, mc19⟩
  | 20, _ => exact ⟨598, mc20⟩
  | 21, _ => exact ⟨333, mc21⟩
  | 22, _ => exact ⟨532, mc22⟩
  | 23, _ => exact ⟨545, mc23⟩
  | 24, _ => exact ⟨486, mc24⟩
  | 25, _ => exact ⟨541, mc25⟩
  | 26, _ => exact ⟨473, mc26⟩
  | 27, _ => exact ⟨888, mc27⟩
  | 28, _ => exact ⟨516, mc28⟩
  | 29, _ => exact ⟨508, mc29⟩
  | 30, _ => exact ⟨482, mc30⟩
  | 31, _ => exact ⟨490, mc31⟩
  | 32, _ => exact ⟨630, mc32⟩
  | 33, _ => exact ⟨503, mc33⟩
  | 34, _ => exact ⟨710, mc34⟩
  | 35, _ => exact ⟨284, mc35⟩
  | 36, _ => exact ⟨714, mc36⟩
  | 37, _ => exact ⟨719, mc37⟩
  | 38, _ => exact ⟨732, mc38⟩
  | 39, _ => exact ⟨559, mc39⟩
  | 40, _ => exact ⟨899, mc40⟩
  | 41, _ => exact ⟨341, mc41⟩
  | 42, _ => exact ⟨354, mc42⟩
  | 43, _ => exact ⟨438, mc43⟩
  | 44, _ => exact ⟨442, mc44⟩
  | 45, _ => exact ⟨447, mc45⟩
  | 46, _ => exact ⟨457, mc46⟩
  | 47, _ => exact ⟨463, mc47⟩
  | 48, _ => exact ⟨469, mc48⟩
  | 49, _ => exact ⟨537, mc49⟩
  | 50, _ => exact ⟨434, mc50⟩
  | 51, _ => exact ⟨451, mc51⟩
  | 52, _ => exact ⟨382, mc52⟩
  | 53, _ => exact ⟨358, mc53⟩
  | 54, _ => exact ⟨369, mc54⟩
  | 55, _ => exact ⟨377, mc55⟩
  | 56, _ => exact ⟨365, mc56⟩
  | 57, _ => exact ⟨373, mc57⟩
  | 58, _ => exact ⟨273, mc58⟩
  | 59, _ => exact ⟨288, mc59⟩
  | 60, _ => exact ⟨317, mc60⟩
  | 61, _ => exact ⟨337, mc61⟩
  | 62, _ => exact ⟨346, mc62⟩
  | 63, _ => exact ⟨350, mc63⟩
  | 64, _ => exact ⟨565, mc64⟩
  | 65, _ => exact ⟨585, mc65⟩
  | 66, _ => exact ⟨591, mc66⟩
  | 67, _ => exact ⟨603, mc67⟩
  | 68, _ => exact ⟨612, mc68⟩
  | 69, _ => exact ⟨618, mc69⟩
  | 70, _ => exact ⟨626, mc70⟩
  | 71, _ => exact ⟨640, mc71⟩
  | 72, _ => exact ⟨650, mc72⟩
  | 73, _ => exact ⟨678, mc73⟩
  | 74, _ => exact ⟨683, mc74⟩
  | 75, _ => exact ⟨689, mc75⟩
  | 76, _ => exact ⟨693, mc76⟩
  | 77, _ => exact ⟨699, mc77⟩
  | 78, _ => exact ⟨703, mc78⟩
  | 79, _ => exact ⟨724, mc79⟩
  | 80, _ => exact ⟨740, mc80⟩
  | 81, _ => exact ⟨728, mc81⟩
  | 82, _ => exact ⟨750, mc82⟩
  | 83, _ => exact ⟨754, mc83⟩
  | 84, _ => exact ⟨758, mc84⟩
  | 85, _ => exact ⟨763, mc85⟩
  | 86, _ => exact ⟨775, mc86⟩
  | 87, _ => exact ⟨767, mc87⟩
  | 88, _ => exact ⟨771, mc88⟩
  | 89, _ => exact ⟨779, mc89⟩
  | 90, _ => exact ⟨784, mc90⟩
  | 91, _ => exact ⟨790, mc91⟩
  | 92, _ => exact ⟨803, mc92⟩
  | 93, _ => exact ⟨794, mc93⟩
  | 94, _ => exact ⟨798, mc94⟩
  | 95, _ => exact ⟨808, mc95⟩
  | 96, _ => exact ⟨812, mc96⟩
  | 97, _ => exact ⟨816, mc97⟩
  | 98, _ => exact ⟨820, mc98⟩
  | 99, _ => exact ⟨824, mc99⟩
  | 100, _ => exact ⟨835, mc100⟩
  | 101, _ => exact ⟨840, mc101⟩
  | 102, _ => exact ⟨844, mc102⟩
  | 103, _ => exact ⟨828, mc103⟩
  | 104, _ => exact ⟨831, mc104⟩
  | 105, _ => exact ⟨848, mc105⟩
  | 106, _ => exact ⟨859, mc106⟩
  | 107, _ => exact ⟨864, mc107⟩
  | 108, _ => exact ⟨868, mc108⟩
  | 109, _ => exact ⟨872, mc109⟩
  | 110, _ => exact ⟨876, mc110⟩
  | 111, _ => exact ⟨880, mc111⟩
  | 112, _ => exact ⟨884, mc112⟩
  | 113, _ => exact ⟨893, mc113⟩
  | 114, _ => exact ⟨298, mc114⟩
  | 115, _ => exact ⟨575, mc115⟩
  | 116, _ => exact ⟨302, mc116⟩
  | 117, _ => exact ⟨291, mc117⟩
  | 118, _ => exact ⟨294, mc118⟩
  | 119, _ => exact ⟨594, mc119⟩
  | 120, _ => exact ⟨706, mc120⟩
  | 121, _ => exact ⟨361, mc121⟩
  | 122, _ => exact ⟨309, mc122⟩
  | 123, _ => exact ⟨552, mc123⟩
  | 124, _ => exact ⟨519, mc124⟩
  | 125, _ => exact ⟨522, mc125⟩
  | 126, _ => exact ⟨736, mc126⟩
  | 127, _ => exact ⟨525, mc127⟩
  | 128, _ => exact ⟨528, mc128⟩
  | 129, _ => exact ⟨493, mc129⟩
  | 130, _ => exact ⟨970, mc130⟩
  | 131, _ => exact ⟨1097, mc131⟩
  | 132, _ => exact ⟨975, mc132⟩
  | 133, _ => exact ⟨1125, mc133⟩
  | 134, _ => exact ⟨979, mc134⟩
  | 135, _ => exact ⟨1113, mc135⟩
  | 136, _ => exact ⟨962, mc136⟩
  | 137, _ => exact ⟨1121, mc137⟩
  | 138, _ => exact ⟨992, mc138⟩
  | 139, _ => exact ⟨1209, mc139⟩
  | 140, _ => exact ⟨1089, mc140⟩
  | 141, _ => exact ⟨1092, mc141⟩
  | 142, _ => exact ⟨1086, mc142⟩
  | 143, _ => exact ⟨1072, mc143⟩
  | 144, _ => exact ⟨1069, mc144⟩
  | 145, _ => exact ⟨1083, mc145⟩
  | 146, _ => exact ⟨1080, mc146⟩
  | 147, _ => exact ⟨1066, mc147⟩
  | 148, _ => exact ⟨958, mc148⟩
  | 149, _ => exact ⟨983, mc149⟩
  | 150, _ => exact ⟨966, mc150⟩
  | 151, _ => exact ⟨996, mc151⟩
  | 152, _ => exact ⟨987, mc152⟩
  | 153, _ => exact ⟨1000, mc153⟩
  | 154, _ => exact ⟨1005, mc154⟩
  | 155, _ => exact ⟨1017, mc155⟩
  | 156, _ => exact ⟨1013, mc156⟩
  | 157, _ => exact ⟨1025, mc157⟩
  | 158, _ => exact ⟨1035, mc158⟩
  | 159, _ => exact ⟨1039, mc159⟩
  | 160, _ => exact ⟨1031, mc160⟩
  | 161, _ => exact ⟨1047, mc161⟩
  | 162, _ => exact ⟨1109, mc162⟩
  | 163, _ => exact ⟨1043, mc163⟩
  | 164, _ => exact ⟨1054, mc164⟩
  | 165, _ => exact ⟨1058, mc165⟩
  | 166, _ => exact ⟨1062, mc166⟩
  | 167, _ => exact ⟨1101, mc167⟩
  | 168, _ => exact ⟨1021, mc168⟩
  | 169, _ => exact ⟨1009, mc169⟩
  | 170, _ => exact ⟨1076, mc170⟩
  | 171, _ => exact ⟨1105, mc171⟩
  | 172, _ => exact ⟨1129, mc172⟩
  | 173, _ => exact ⟨1117, mc173⟩
  | 174, _ => exact ⟨1133, mc174⟩
  | 175, _ => exact ⟨1137, mc175⟩
  | 176, _ => exact ⟨1141, mc176⟩
  | 177, _ => exact ⟨1145, mc177⟩
  | 178, _ => exact ⟨1150, mc178⟩
  | 179, _ => exact ⟨1154, mc179⟩
  | 180, _ => exact ⟨1158, mc180⟩
  | 181, _ => exact ⟨1162, mc181⟩
  | 182, _ => exact ⟨1174, mc182⟩
  | 183, _ => exact ⟨1179, mc183⟩
  | 184, _ => exact ⟨1182, mc184⟩
  | 185, _ => exact ⟨1170, mc185⟩
  | 186, _ => exact ⟨1166, mc186⟩
  | 187, _ => exact ⟨1186, mc187⟩
  | 188, _ => exact ⟨1190, mc188⟩
  | 189, _ => exact ⟨1194, mc189⟩
  | 190, _ => exact ⟨1202, mc190⟩
  | 191, _ => exact ⟨1198, mc191⟩
  | 192, _ => exact ⟨1206, mc192⟩
  | 193, _ => exact ⟨1222, mc193⟩
  | 194, _ => exact ⟨1218, mc194⟩
  | 195, _ => exact ⟨1214, mc195⟩
  | 196, _ => exact ⟨1226, mc196⟩
  | 197, _ => exact ⟨1230, mc197⟩
  | 198, _ => exact ⟨1234, mc198⟩
  | 199, _ => exact ⟨1238, mc199⟩
  | 200, _ => exact ⟨1250, mc200⟩
  | 201, _ => exact ⟨1246, mc201⟩
  | 202, _ => exact ⟨1242, mc202⟩
  | 203, _ => exact ⟨1254, mc203⟩
  | 204, _ => exact ⟨1266, mc204⟩
  | 205, _ => exact ⟨1262, mc205⟩
  | 206, _ => exact ⟨1258, mc206⟩
  | 207, _ => exact ⟨1270, mc207⟩
  | 208, _ => exact ⟨1277, mc208⟩
  | 209, _ => exact ⟨1274, mc209⟩
  | 210, _ => exact ⟨1286, mc210⟩
  | 211, _ => exact ⟨1281, mc211⟩
  | 212, _ => exact ⟨1290, mc212⟩
  | 213, _ => exact ⟨1301, mc213⟩
  | 214, _ => exact ⟨1305, mc214⟩
  | 215, _ => exact ⟨1309, mc215⟩
  | 216, _ => exact ⟨1313, mc216⟩
  | 217, _ => exact ⟨1325, mc217⟩
  | 218, _ => exact ⟨1321, mc218⟩
  | 219, _ => exact ⟨1317, mc219⟩
  | 220, _ => exact ⟨1334, mc220⟩
  | 221, _ => exact ⟨1339, mc221⟩
  | 222, _ => exact ⟨1329, mc222⟩
  | 223, _ => exact ⟨743, mc223⟩
  | 224, _ => exact ⟨280, mc224⟩
  | 225, _ => exact ⟨496, mc225⟩
  | 226, _ => exact ⟨499, mc226⟩
  | y + 227, h => exact absurd h (by omega)
