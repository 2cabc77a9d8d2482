/-! THE LAW'S LOOP: its cases (written by wip/whole/gen90.py) -/
/-- the kind of a method's answer -/
def rk (t : Option FieldType) (r : Option PV) : Prop := match t with
  | some .int => ∃ z, r = some (.inl z)
  | some .long => ∃ z, r = some (.inr (.inl z))
  | _ => True
set_option maxHeartbeats 4000000 in
theorem stepI_ret {y pc : Nat} {i : Instr} {len : Nat} {L : Lc} {st : List PV} {M : Mm} {r : Option PV} (h : stepI y pc i len L st M = some (.inr (.inr r))) : rk (mR y) r := by
  cases i
  case ireturn =>
    simp only [stepI] at h
    split at h
    · split at h
      · rename_i hr; cases h; rw [hr]; exact ⟨_, rfl⟩
      · rename_i hr; rw [hr]; trivial
      · cases h
    · cases h
  case lreturn =>
    simp only [stepI] at h
    split at h
    · split at h
      · rename_i hr; cases h; rw [hr]; exact ⟨_, rfl⟩
      · cases h
    · cases h
  case return_ =>
    simp only [stepI] at h
    split at h
    · split at h
      · rename_i hr; rw [hr]; trivial
      · cases h
    · cases h
  all_goals (
    exfalso
    revert h
    simp only [stepI, nx, pI, pD, qI, qD, ld, sto, gfield, pfield, ald, ast, alen, acopy, calS, calV, stlen, stchr, cond_eq_ite]
    repeat' split
    all_goals (intro h; cases h))
theorem exec_ret : ∀ (n : Nat) {y pc : Nat} {L : Lc} {st : List PV} {M : Mm} {r : Option PV} {M' : Mm}, exec n y pc L st M = some (r, M') → rk (mR y) r
  | 0, _, _, _, _, _, _, _, h => by simp [exec] at h
  | n + 1, y, pc, L, st, M, r, M', h => by
    rw [exec] at h
    cases hs : step y pc L st M with
    | none => rw [hs] at h; cases h
    | some s =>
      rw [hs] at h
      rcases s with ⟨pc', L', st', M1⟩ | ⟨⟨t, as, pc', rest⟩ | r1⟩
      · exact exec_ret n h
      · cases hc : exec n t 0 (ent (mL t) as) [] M with
        | none => simp only [hc] at h; cases h
        | some q =>
          simp only [hc] at h
          exact exec_ret n h
      · cases h
        unfold step at hs
        cases hf : fetch y pc with
        | none => rw [hf] at hs; cases hs
        | some q =>
          rw [hf] at hs
          exact stepI_ret hs
/-- a case: its pc, how many arguments, the two pool indices, the two methods, the two words, is it a long -/
abbrev LcT : Type := Nat × Nat × Nat × Nat × Nat × Nat × Nat × Nat × Bool
def lawL : List LcT := [(200, 0, 13, 17, 58, 148, 270, 955, false), (213, 2, 18, 22, 59, 150, 285, 963, false), (246, 3, 23, 27, 60, 152, 314, 984, false), (289, 1, 28, 32, 61, 153, 334, 997, false), (312, 0, 33, 36, 62, 154, 343, 1002, false), (325, 0, 37, 40, 63, 169, 347, 1006, false), (338, 2, 41, 44, 64, 173, 562, 1114, false), (371, 1, 45, 48, 65, 174, 582, 1130, false), (394, 2, 49, 52, 66, 175, 588, 1134, false), (427, 2, 53, 56, 67, 176, 600, 1138, false), (460, 1, 57, 60, 68, 177, 609, 1142, false), (483, 0, 61, 64, 69, 178, 615, 1147, false), (496, 2, 65, 68, 70, 179, 623, 1151, false), (529, 2, 69, 72, 71, 181, 637, 1159, false), (562, 2, 73, 76, 72, 186, 647, 1163, false), (595, 0, 77, 80, 73, 187, 675, 1183, false), (608, 2, 81, 84, 74, 188, 680, 1187, false), (641, 2, 85, 88, 75, 189, 686, 1191, false), (674, 2, 89, 92, 77, 191, 696, 1195, false), (707, 4, 93, 97, 78, 192, 700, 1203, false), (760, 1, 98, 101, 79, 195, 721, 1211, false), (783, 1, 102, 105, 80, 196, 737, 1223, false), (806, 3, 106, 109, 82, 197, 747, 1227, false), (849, 5, 110, 114, 83, 198, 751, 1231, false), (912, 1, 115, 118, 84, 199, 755, 1235, false), (935, 1, 119, 122, 85, 202, 760, 1239, false), (958, 1, 123, 126, 86, 203, 772, 1251, false), (981, 1, 127, 130, 91, 206, 787, 1255, false), (1004, 1, 131, 134, 92, 207, 800, 1267, false), (1027, 2, 135, 138, 96, 209, 809, 1271, false), (1060, 3, 139, 142, 99, 211, 821, 1278, false), (1103, 2, 143, 146, 105, 212, 845, 1287, false), (1136, 1, 147, 151, 107, 213, 861, 1298, true), (1160, 1, 152, 155, 108, 214, 865, 1302, false), (1183, 1, 156, 159, 109, 215, 869, 1306, false), (1206, 1, 160, 163, 110, 216, 873, 1310, false), (1229, 1, 164, 167, 111, 219, 877, 1314, false), (1252, 0, 168, 172, 113, 222, 890, 1326, true)]
def argOk (p j : Nat) : Bool := decide (decode code p = .ok (.aload_n 0, 1)) && (decide (decode code (p + 1) = .ok (.iload_n 3, 1)) && (decide (decode code (p + 2) = .ok (.iconst ((j + 1 : Nat) : Int), 1)) && (decide (decode code (p + 3) = .ok (.iadd, 1)) && decide (decode code (p + 4) = .ok (.iaload, 1)))))
def endOk (lg : Bool) (p : Nat) : Bool := match lg with
  | false => decide (decode code p = .ok (.if_icmp .eq (1266 - (p : Int)), 3))
  | true => decide (decode code p = .ok (.lcmp, 1)) && decide (decode code (p + 1) = .ok (.ifCond .eq (1266 - ((p + 1 : Nat) : Int)), 3))
/-- a method called from the law -/
def mOkL (y k w A r0 : Nat) (lg : Bool) : Bool := Nat.blt y 227 && (decide (lw_tbl[w]? = some (.methodLink "StairStepsLaw" A (mN y))) && (decide ((parseMethodDescriptor (mN y).desc).map (fun d => d.parameters.length) = some k) && ((!mS y) && ((match shp r0 with | .inr (ci, _) => Nat.beq ci (mK y) | _ => false) && (decide (mD y + 1 ≤ room_1.frames ∧ 8 + (mL y + 11) + 40 * mD y ≤ room_1.locals) && (decide (mR y = if lg then some .long else some .int) && Nat.ble (k + 1) (mL y)))))))
def caseOk (q : LcT) : Bool := match q with
  | (p0, k, A, B, yc, yr, wA, wB, lg) => decide (decode code p0 = .ok (.aload_n 1, 1)) && ((List.range k).all (fun j => argOk (p0 + 1 + 5 * j) j) && (decide (decode code (p0 + 1 + 5 * k) = .ok (.invokevirtual A, 3)) && (decide (decode code (p0 + 4 + 5 * k) = .ok (.aload_n 2, 1)) && ((List.range k).all (fun j => argOk (p0 + 5 + 5 * k + 5 * j) j) && (decide (decode code (p0 + 5 + 10 * k) = .ok (.invokevirtual B, 3)) && (endOk lg (p0 + 8 + 10 * k) && (mOkL yc k wA A 0 lg && (mOkL yr k wB B 64 lg && Nat.ble k 5))))))))
theorem cm_0 : mOkL 58 0 270 13 0 false = true := by decide +kernel
theorem cn_0 : mOkL 148 0 955 17 64 false = true := by decide +kernel
theorem ce_0 : endOk false 208 = true := by decide +kernel
theorem ca_1_0 : argOk 214 0 = true := by decide +kernel
theorem ca_1_1 : argOk 219 1 = true := by decide +kernel
theorem ca_1_2 : argOk 228 0 = true := by decide +kernel
theorem ca_1_3 : argOk 233 1 = true := by decide +kernel
theorem cm_1 : mOkL 59 2 285 18 0 false = true := by decide +kernel
theorem cn_1 : mOkL 150 2 963 22 64 false = true := by decide +kernel
theorem ce_1 : endOk false 241 = true := by decide +kernel
theorem ca_2_0 : argOk 247 0 = true := by decide +kernel
theorem ca_2_1 : argOk 252 1 = true := by decide +kernel
theorem ca_2_2 : argOk 257 2 = true := by decide +kernel
theorem ca_2_3 : argOk 266 0 = true := by decide +kernel
theorem ca_2_4 : argOk 271 1 = true := by decide +kernel
theorem ca_2_5 : argOk 276 2 = true := by decide +kernel
theorem cm_2 : mOkL 60 3 314 23 0 false = true := by decide +kernel
theorem cn_2 : mOkL 152 3 984 27 64 false = true := by decide +kernel
theorem ce_2 : endOk false 284 = true := by decide +kernel
theorem ca_3_0 : argOk 290 0 = true := by decide +kernel
theorem ca_3_1 : argOk 299 0 = true := by decide +kernel
theorem cm_3 : mOkL 61 1 334 28 0 false = true := by decide +kernel
theorem cn_3 : mOkL 153 1 997 32 64 false = true := by decide +kernel
theorem ce_3 : endOk false 307 = true := by decide +kernel
theorem cm_4 : mOkL 62 0 343 33 0 false = true := by decide +kernel
theorem cn_4 : mOkL 154 0 1002 36 64 false = true := by decide +kernel
theorem ce_4 : endOk false 320 = true := by decide +kernel
theorem cm_5 : mOkL 63 0 347 37 0 false = true := by decide +kernel
theorem cn_5 : mOkL 169 0 1006 40 64 false = true := by decide +kernel
theorem ce_5 : endOk false 333 = true := by decide +kernel
theorem ca_6_0 : argOk 339 0 = true := by decide +kernel
theorem ca_6_1 : argOk 344 1 = true := by decide +kernel
theorem ca_6_2 : argOk 353 0 = true := by decide +kernel
theorem ca_6_3 : argOk 358 1 = true := by decide +kernel
theorem cm_6 : mOkL 64 2 562 41 0 false = true := by decide +kernel
theorem cn_6 : mOkL 173 2 1114 44 64 false = true := by decide +kernel
theorem ce_6 : endOk false 366 = true := by decide +kernel
theorem ca_7_0 : argOk 372 0 = true := by decide +kernel
theorem ca_7_1 : argOk 381 0 = true := by decide +kernel
theorem cm_7 : mOkL 65 1 582 45 0 false = true := by decide +kernel
theorem cn_7 : mOkL 174 1 1130 48 64 false = true := by decide +kernel
theorem ce_7 : endOk false 389 = true := by decide +kernel
theorem ca_8_0 : argOk 395 0 = true := by decide +kernel
theorem ca_8_1 : argOk 400 1 = true := by decide +kernel
theorem ca_8_2 : argOk 409 0 = true := by decide +kernel
theorem ca_8_3 : argOk 414 1 = true := by decide +kernel
theorem cm_8 : mOkL 66 2 588 49 0 false = true := by decide +kernel
theorem cn_8 : mOkL 175 2 1134 52 64 false = true := by decide +kernel
theorem ce_8 : endOk false 422 = true := by decide +kernel
theorem ca_9_0 : argOk 428 0 = true := by decide +kernel
theorem ca_9_1 : argOk 433 1 = true := by decide +kernel
theorem ca_9_2 : argOk 442 0 = true := by decide +kernel
theorem ca_9_3 : argOk 447 1 = true := by decide +kernel
theorem cm_9 : mOkL 67 2 600 53 0 false = true := by decide +kernel
theorem cn_9 : mOkL 176 2 1138 56 64 false = true := by decide +kernel
theorem ce_9 : endOk false 455 = true := by decide +kernel
theorem ca_10_0 : argOk 461 0 = true := by decide +kernel
theorem ca_10_1 : argOk 470 0 = true := by decide +kernel
theorem cm_10 : mOkL 68 1 609 57 0 false = true := by decide +kernel
theorem cn_10 : mOkL 177 1 1142 60 64 false = true := by decide +kernel
theorem ce_10 : endOk false 478 = true := by decide +kernel
theorem cm_11 : mOkL 69 0 615 61 0 false = true := by decide +kernel
theorem cn_11 : mOkL 178 0 1147 64 64 false = true := by decide +kernel
theorem ce_11 : endOk false 491 = true := by decide +kernel
theorem ca_12_0 : argOk 497 0 = true := by decide +kernel
theorem ca_12_1 : argOk 502 1 = true := by decide +kernel
theorem ca_12_2 : argOk 511 0 = true := by decide +kernel
theorem ca_12_3 : argOk 516 1 = true := by decide +kernel
theorem cm_12 : mOkL 70 2 623 65 0 false = true := by decide +kernel
theorem cn_12 : mOkL 179 2 1151 68 64 false = true := by decide +kernel
theorem ce_12 : endOk false 524 = true := by decide +kernel
theorem ca_13_0 : argOk 530 0 = true := by decide +kernel
theorem ca_13_1 : argOk 535 1 = true := by decide +kernel
theorem ca_13_2 : argOk 544 0 = true := by decide +kernel
theorem ca_13_3 : argOk 549 1 = true := by decide +kernel
theorem cm_13 : mOkL 71 2 637 69 0 false = true := by decide +kernel
theorem cn_13 : mOkL 181 2 1159 72 64 false = true := by decide +kernel
theorem ce_13 : endOk false 557 = true := by decide +kernel
theorem ca_14_0 : argOk 563 0 = true := by decide +kernel
theorem ca_14_1 : argOk 568 1 = true := by decide +kernel
theorem ca_14_2 : argOk 577 0 = true := by decide +kernel
theorem ca_14_3 : argOk 582 1 = true := by decide +kernel
theorem cm_14 : mOkL 72 2 647 73 0 false = true := by decide +kernel
theorem cn_14 : mOkL 186 2 1163 76 64 false = true := by decide +kernel
theorem ce_14 : endOk false 590 = true := by decide +kernel
theorem cm_15 : mOkL 73 0 675 77 0 false = true := by decide +kernel
theorem cn_15 : mOkL 187 0 1183 80 64 false = true := by decide +kernel
theorem ce_15 : endOk false 603 = true := by decide +kernel
theorem ca_16_0 : argOk 609 0 = true := by decide +kernel
theorem ca_16_1 : argOk 614 1 = true := by decide +kernel
theorem ca_16_2 : argOk 623 0 = true := by decide +kernel
theorem ca_16_3 : argOk 628 1 = true := by decide +kernel
theorem cm_16 : mOkL 74 2 680 81 0 false = true := by decide +kernel
theorem cn_16 : mOkL 188 2 1187 84 64 false = true := by decide +kernel
theorem ce_16 : endOk false 636 = true := by decide +kernel
theorem ca_17_0 : argOk 642 0 = true := by decide +kernel
theorem ca_17_1 : argOk 647 1 = true := by decide +kernel
theorem ca_17_2 : argOk 656 0 = true := by decide +kernel
theorem ca_17_3 : argOk 661 1 = true := by decide +kernel
theorem cm_17 : mOkL 75 2 686 85 0 false = true := by decide +kernel
theorem cn_17 : mOkL 189 2 1191 88 64 false = true := by decide +kernel
theorem ce_17 : endOk false 669 = true := by decide +kernel
theorem ca_18_0 : argOk 675 0 = true := by decide +kernel
theorem ca_18_1 : argOk 680 1 = true := by decide +kernel
theorem ca_18_2 : argOk 689 0 = true := by decide +kernel
theorem ca_18_3 : argOk 694 1 = true := by decide +kernel
theorem cm_18 : mOkL 77 2 696 89 0 false = true := by decide +kernel
theorem cn_18 : mOkL 191 2 1195 92 64 false = true := by decide +kernel
theorem ce_18 : endOk false 702 = true := by decide +kernel
theorem ca_19_0 : argOk 708 0 = true := by decide +kernel
theorem ca_19_1 : argOk 713 1 = true := by decide +kernel
theorem ca_19_2 : argOk 718 2 = true := by decide +kernel
theorem ca_19_3 : argOk 723 3 = true := by decide +kernel
theorem ca_19_4 : argOk 732 0 = true := by decide +kernel
theorem ca_19_5 : argOk 737 1 = true := by decide +kernel
theorem ca_19_6 : argOk 742 2 = true := by decide +kernel
theorem ca_19_7 : argOk 747 3 = true := by decide +kernel
theorem cm_19 : mOkL 78 4 700 93 0 false = true := by decide +kernel
theorem cn_19 : mOkL 192 4 1203 97 64 false = true := by decide +kernel
theorem ce_19 : endOk false 755 = true := by decide +kernel
theorem ca_20_0 : argOk 761 0 = true := by decide +kernel
theorem ca_20_1 : argOk 770 0 = true := by decide +kernel
theorem cm_20 : mOkL 79 1 721 98 0 false = true := by decide +kernel
theorem cn_20 : mOkL 195 1 1211 101 64 false = true := by decide +kernel
theorem ce_20 : endOk false 778 = true := by decide +kernel
theorem ca_21_0 : argOk 784 0 = true := by decide +kernel
theorem ca_21_1 : argOk 793 0 = true := by decide +kernel
theorem cm_21 : mOkL 80 1 737 102 0 false = true := by decide +kernel
theorem cn_21 : mOkL 196 1 1223 105 64 false = true := by decide +kernel
theorem ce_21 : endOk false 801 = true := by decide +kernel
theorem ca_22_0 : argOk 807 0 = true := by decide +kernel
theorem ca_22_1 : argOk 812 1 = true := by decide +kernel
theorem ca_22_2 : argOk 817 2 = true := by decide +kernel
theorem ca_22_3 : argOk 826 0 = true := by decide +kernel
theorem ca_22_4 : argOk 831 1 = true := by decide +kernel
theorem ca_22_5 : argOk 836 2 = true := by decide +kernel
theorem cm_22 : mOkL 82 3 747 106 0 false = true := by decide +kernel
theorem cn_22 : mOkL 197 3 1227 109 64 false = true := by decide +kernel
theorem ce_22 : endOk false 844 = true := by decide +kernel
theorem ca_23_0 : argOk 850 0 = true := by decide +kernel
theorem ca_23_1 : argOk 855 1 = true := by decide +kernel
theorem ca_23_2 : argOk 860 2 = true := by decide +kernel
theorem ca_23_3 : argOk 865 3 = true := by decide +kernel
theorem ca_23_4 : argOk 870 4 = true := by decide +kernel
theorem ca_23_5 : argOk 879 0 = true := by decide +kernel
theorem ca_23_6 : argOk 884 1 = true := by decide +kernel
theorem ca_23_7 : argOk 889 2 = true := by decide +kernel
theorem ca_23_8 : argOk 894 3 = true := by decide +kernel
theorem ca_23_9 : argOk 899 4 = true := by decide +kernel
theorem cm_23 : mOkL 83 5 751 110 0 false = true := by decide +kernel
theorem cn_23 : mOkL 198 5 1231 114 64 false = true := by decide +kernel
theorem ce_23 : endOk false 907 = true := by decide +kernel
theorem ca_24_0 : argOk 913 0 = true := by decide +kernel
theorem ca_24_1 : argOk 922 0 = true := by decide +kernel
theorem cm_24 : mOkL 84 1 755 115 0 false = true := by decide +kernel
theorem cn_24 : mOkL 199 1 1235 118 64 false = true := by decide +kernel
theorem ce_24 : endOk false 930 = true := by decide +kernel
theorem ca_25_0 : argOk 936 0 = true := by decide +kernel
theorem ca_25_1 : argOk 945 0 = true := by decide +kernel
theorem cm_25 : mOkL 85 1 760 119 0 false = true := by decide +kernel
theorem cn_25 : mOkL 202 1 1239 122 64 false = true := by decide +kernel
theorem ce_25 : endOk false 953 = true := by decide +kernel
theorem ca_26_0 : argOk 959 0 = true := by decide +kernel
theorem ca_26_1 : argOk 968 0 = true := by decide +kernel
theorem cm_26 : mOkL 86 1 772 123 0 false = true := by decide +kernel
theorem cn_26 : mOkL 203 1 1251 126 64 false = true := by decide +kernel
theorem ce_26 : endOk false 976 = true := by decide +kernel
theorem ca_27_0 : argOk 982 0 = true := by decide +kernel
theorem ca_27_1 : argOk 991 0 = true := by decide +kernel
theorem cm_27 : mOkL 91 1 787 127 0 false = true := by decide +kernel
theorem cn_27 : mOkL 206 1 1255 130 64 false = true := by decide +kernel
theorem ce_27 : endOk false 999 = true := by decide +kernel
theorem ca_28_0 : argOk 1005 0 = true := by decide +kernel
theorem ca_28_1 : argOk 1014 0 = true := by decide +kernel
theorem cm_28 : mOkL 92 1 800 131 0 false = true := by decide +kernel
theorem cn_28 : mOkL 207 1 1267 134 64 false = true := by decide +kernel
theorem ce_28 : endOk false 1022 = true := by decide +kernel
theorem ca_29_0 : argOk 1028 0 = true := by decide +kernel
theorem ca_29_1 : argOk 1033 1 = true := by decide +kernel
theorem ca_29_2 : argOk 1042 0 = true := by decide +kernel
theorem ca_29_3 : argOk 1047 1 = true := by decide +kernel
theorem cm_29 : mOkL 96 2 809 135 0 false = true := by decide +kernel
theorem cn_29 : mOkL 209 2 1271 138 64 false = true := by decide +kernel
theorem ce_29 : endOk false 1055 = true := by decide +kernel
theorem ca_30_0 : argOk 1061 0 = true := by decide +kernel
theorem ca_30_1 : argOk 1066 1 = true := by decide +kernel
theorem ca_30_2 : argOk 1071 2 = true := by decide +kernel
theorem ca_30_3 : argOk 1080 0 = true := by decide +kernel
theorem ca_30_4 : argOk 1085 1 = true := by decide +kernel
theorem ca_30_5 : argOk 1090 2 = true := by decide +kernel
theorem cm_30 : mOkL 99 3 821 139 0 false = true := by decide +kernel
theorem cn_30 : mOkL 211 3 1278 142 64 false = true := by decide +kernel
theorem ce_30 : endOk false 1098 = true := by decide +kernel
theorem ca_31_0 : argOk 1104 0 = true := by decide +kernel
theorem ca_31_1 : argOk 1109 1 = true := by decide +kernel
theorem ca_31_2 : argOk 1118 0 = true := by decide +kernel
theorem ca_31_3 : argOk 1123 1 = true := by decide +kernel
theorem cm_31 : mOkL 105 2 845 143 0 false = true := by decide +kernel
theorem cn_31 : mOkL 212 2 1287 146 64 false = true := by decide +kernel
theorem ce_31 : endOk false 1131 = true := by decide +kernel
theorem ca_32_0 : argOk 1137 0 = true := by decide +kernel
theorem ca_32_1 : argOk 1146 0 = true := by decide +kernel
theorem cm_32 : mOkL 107 1 861 147 0 true = true := by decide +kernel
theorem cn_32 : mOkL 213 1 1298 151 64 true = true := by decide +kernel
theorem ce_32 : endOk true 1154 = true := by decide +kernel
theorem ca_33_0 : argOk 1161 0 = true := by decide +kernel
theorem ca_33_1 : argOk 1170 0 = true := by decide +kernel
theorem cm_33 : mOkL 108 1 865 152 0 false = true := by decide +kernel
theorem cn_33 : mOkL 214 1 1302 155 64 false = true := by decide +kernel
theorem ce_33 : endOk false 1178 = true := by decide +kernel
theorem ca_34_0 : argOk 1184 0 = true := by decide +kernel
theorem ca_34_1 : argOk 1193 0 = true := by decide +kernel
theorem cm_34 : mOkL 109 1 869 156 0 false = true := by decide +kernel
theorem cn_34 : mOkL 215 1 1306 159 64 false = true := by decide +kernel
theorem ce_34 : endOk false 1201 = true := by decide +kernel
theorem ca_35_0 : argOk 1207 0 = true := by decide +kernel
theorem ca_35_1 : argOk 1216 0 = true := by decide +kernel
theorem cm_35 : mOkL 110 1 873 160 0 false = true := by decide +kernel
theorem cn_35 : mOkL 216 1 1310 163 64 false = true := by decide +kernel
theorem ce_35 : endOk false 1224 = true := by decide +kernel
theorem ca_36_0 : argOk 1230 0 = true := by decide +kernel
theorem ca_36_1 : argOk 1239 0 = true := by decide +kernel
theorem cm_36 : mOkL 111 1 877 164 0 false = true := by decide +kernel
theorem cn_36 : mOkL 219 1 1314 167 64 false = true := by decide +kernel
theorem ce_36 : endOk false 1247 = true := by decide +kernel
theorem cm_37 : mOkL 113 0 890 168 0 true = true := by decide +kernel
theorem cn_37 : mOkL 222 0 1326 172 64 true = true := by decide +kernel
theorem ce_37 : endOk true 1260 = true := by decide +kernel
theorem ca_ok : True := trivial
/-- the arguments of a call: k numbers of the script behind i -/
def av (xs : Nat → Int32) (i : Nat) : Nat → List PV
  | 0 => []
  | k + 1 => av xs i k ++ [.inl (xs (i + 1 + k)).toInt]
theorem av_len (xs : Nat → Int32) (i : Nat) : ∀ k, (av xs i k).length = k
  | 0 => rfl
  | k + 1 => by simp [av, av_len xs i k]
theorem av_ok (xs : Nat → Int32) (i : Nat) : ∀ k, okS (av xs i k)
  | 0 => fun v hv => by cases hv
  | k + 1 => fun v hv => by
    rcases List.mem_append.mp hv with h | h
    · exact av_ok xs i k v h
    · cases List.mem_singleton.mp h
      exact ok32_to _
theorem lok_int (g : List Nat) : ∀ (as : List PV) (o : Nat), (∀ v ∈ as, ∃ z, v = .inl z) → lok g o as = true
  | [], _, _ => rfl
  | v :: as, o, h => by
    obtain ⟨z, rfl⟩ := h v List.mem_cons_self
    exact lok_int g as (o + 1) (fun w hw => h w (List.mem_cons_of_mem _ hw))
theorem cs_int : ∀ (as : List PV), (∀ v ∈ as, ∃ z, v = .inl z) → cs as = as.length
  | [], _ => rfl
  | v :: as, h => by
    obtain ⟨z, rfl⟩ := h v List.mem_cons_self
    show cs as + 1 = as.length + 1
    rw [cs_int as (fun w hw => h w (List.mem_cons_of_mem _ hw))]
theorem av_int (xs : Nat → Int32) (i : Nat) : ∀ k, ∀ v ∈ av xs i k, ∃ z, v = .inl z
  | 0 => fun v hv => by cases hv
  | k + 1 => fun v hv => by
    rcases List.mem_append.mp hv with h | h
    · exact av_int xs i k v h
    · exact ⟨_, List.mem_singleton.mp h⟩
/-- what the law made: the cells that were not there at its entry -/
def A0 (s : State) (q : Nat) : Prop := s.heap.size ≤ q
def SokA (A : Nat → Prop) (ad adV : Nat → Nat) (U : State) (H : Heap) : Prop := vk_S 6 strL strY (fun i => ad (500 + i)) adV A U H ∧ (∀ i, i < 6 → vk_R "StairSteps$Reader" (strP.getD i 0) (strX.getD i "") (ad (500 + i)) U) ∧ va_Z "java/lang/String" "COMPACT_STRINGS" "Z" (.int 1) A U H ∧ va_Zq "jdk/internal/util/Preconditions" "SIOOBE_FORMATTER" "Ljava/util/function/BiFunction;" A U H
section LAW
variable {p : Program} {l : Launch} {e : Env} {R : Room} {s : State} {m : MethodId} {args : Array Value} {below : List Frame} {meth : Method} {c : Code} {Q : State → Prop} {D : va_G} {cI cZ : ClassId} {ad adV : Nat → Nat} {cc : ByteArray} {nL pc : Nat} {M : Mm} {H : Heap} {locs : List Loc} {cells slots : Nat} {ls : Array Slot}
theorem A0_of (hA : ∀ r, r < 73 → s.heap.size ≤ ad r) (q : Nat) (h : Ar ad q) : A0 s q := by
  obtain ⟨r, hr, rfl⟩ := h
  exact hA r hr
theorem Wl_law {t : State} (hA : ∀ r, r < 73 → s.heap.size ≤ ad r) (hP : va_P D cls (wd cI cZ ad M) H) (hS : va_S (A0 s) s.heap H locs) (hK : va_K D cls (tyw cI cZ) s) (hSt : SokA (A0 s) ad adV s s.heap) (hN : Nok s) (ht : t.heap = H) (hW : s.WarmedH t.vm) : Wl D cI cZ ad adV M t t.heap := by
  refine ⟨by rw [ht]; exact hP, va_K.moved hW.alike hK, ⟨?_, fun i hi => (hSt.2.1 i hi).warm hW, ?_⟩, fun q hq => va_Nw.warmM hW (hN q hq)⟩
  · rw [ht]
    exact ((hSt.1.moved hW.alike).kept hS.2.1).narrow (A0_of hA)
  · rw [ht]
    exact ⟨((hSt.2.2.1.moved hW.alike).kept hS.2.1).narrow (A0_of hA), ((hSt.2.2.2.moved hW.alike).kept hS.2.1).narrow (A0_of hA)⟩
theorem callOnL {r : Option PV} {M' : Mm} {a : Array Value} {st0 rest : List Value} (hA : ∀ r, r < 73 → s.heap.size ≤ ad r) (hr : va_Run p l e R s m args below meth c H locs cells slots 0 0 (F0 m pc ls st0) rest (QcY D cI cZ ad adV r M' a) (Ar ad)) (hS : va_S (A0 s) s.heap H locs)
    (kk : ∀ (H1 : Heap) (locs1 : List Loc), va_P D cls (wd cI cZ ad M') H1 → va_S (A0 s) s.heap H1 locs1 → okM M' → (∀ v, r = some v → okV v) → W p l e R s m args below meth c H1 locs1 cells slots Q (F0 m (pc + 3) ls ((r.map (toV ad)).toList ++ rest))) : W p l e R s m args below meth c H locs cells slots Q (F0 m pc ls st0) := by
  intro T hT X
  obtain ⟨v, st₀, t, T', LL, h0, X', hL, e1, e2, ⟨hv, hW, ⟨hz, hk⟩, hM', hok⟩, st⟩ := hr T hT X
  have hv2 : v = r.map (toV ad) := by injection hv
  subst hv2
  rw [h0] at hz hk
  obtain ⟨t2, a1, b1⟩ := kk T'.heap (locs ++ LL) (by rw [e1]; exact hW.1)
    ⟨Nat.le_trans hS.1 (by rw [e1]; exact hz), fun q h1 h2 => by rw [e1, hk q (Nat.lt_of_lt_of_le h1 hS.1) (fun h => h2 (A0_of hA q h))]; exact hS.2.1 q h1 h2, fun q hq => by
      rcases List.mem_append.mp hq with h | h
      · exact hS.2.2 q h
      · exact A0_of hA _ (hL q h)⟩ hM' hok T' rfl X'
  exact ⟨t2, st t2 a1, b1⟩
theorem l_call (hx : p.tables.exec = Jvm.exec) (hb : c.code = cc) (hml : c.maxLocals = nL) (hts : ∀ w ∈ gt, w.before args s = true) (hK : va_K D cls (tyw cI cZ) s) (hSt : SokA (A0 s) ad adV s s.heap) (hN : Nok s) (hA : ∀ r, r < 73 → s.heap.size ≤ ad r) (hown : s.vm.findClass "StairStepsLaw" = some m.cls)
    {y k w A r0 n : Nat} {lg : Bool} {as : List PV} {rest : List Value} {r : Option PV} {M' : Mm} (hq : mOkL y k w A r0 lg = true) (hsnd : SndP l D cI cZ ad adV n) (hex : exec n y 0 (ent (mL y) (.inr (.inr r0) :: as)) [] M = some (r, M')) (ho : okS as) (hi : ∀ v ∈ as, ∃ z, v = .inl z) (hn : as.length = k) (hM : okM M) (hcs : (rest.map fun v => v.category).sum ≤ 8) (hls : ls.size = nL)
    (hR : R = room_1) (hdc : decode cc pc = .ok (.invokevirtual A, 3)) (hP : va_P D cls (wd cI cZ ad M) H) (hS : va_S (A0 s) s.heap H locs) (hf : cells ≤ R.cells ∧ slots ≤ R.slots)
    (kk : ∀ (H1 : Heap) (locs1 : List Loc), va_P D cls (wd cI cZ ad M') H1 → va_S (A0 s) s.heap H1 locs1 → okM M' → (∀ v, r = some v → okV v) → W p l e R s m args below meth c H1 locs1 cells slots Q (F0 m (pc + 3) ls ((r.map (toV ad)).toList ++ rest))) : W p l e R s m args below meth c H locs cells slots Q (F0 m pc ls ((as.map (toV ad)).reverse ++ .ref (ad r0) :: rest)) := by
  simp only [mOkL, Bool.and_eq_true, decide_eq_true_eq] at hq
  obtain ⟨h1, h2, h3, h4, h5, h6, h7, h8⟩ := hq
  have hy : y < 227 := Nat.le_of_ble_eq_true h1
  have h4 : mS y = false := by simpa using h4
  obtain ⟨t1, t2, t3, t4, t5, t6, t7, t8⟩ := m_spec hy
  obtain ⟨u1, u2, u3⟩ := t7 h4
  obtain ⟨ks, hsh⟩ : ∃ ks, shp r0 = .inr (mK y, ks) := by
    split at h5
    · rename_i ci ks hsh
      cases Nat.eq_of_beq_eq_true h5
      exact ⟨ks, hsh⟩
    · cases h5
  have hoa : okS (.inr (.inr r0) :: as) := fun v hv => by
    rcases List.mem_cons.mp hv with rfl | hv
    · trivial
    · exact ho v hv
  have hmet := met_of hsnd hy hex hoa (lok_int (mG y) as 1 hi) (by show cs as + 1 ≤ mL y; rw [cs_int as hi, hn]; exact Nat.le_of_ble_eq_true h8) hM
  subst hR
  have wl : Jvm.Cond.methodLink "StairStepsLaw" A (mN y) ∈ gt := gt_of h2 rfl
  have hcw : CallW room_1 s args "StairStepsLaw" (mN y).cls A (mN y) (mC y) (mL y) (mR y) (wsm y) (rm y) 0 0 k := ⟨callB_of k hts (gt_GoodIn rfl t8) rfl rfl rfl (hts _ t5) (hts _ wl) ⟨t3.1, t3.2, h3⟩ h6, hts _ u1, hts _ u2⟩
  have hrun := va_runV (g := F0 m pc ls ((as.map (toV ad)).reverse ++ .ref (ad r0) :: rest)) (H := H) (locs := locs) (cells := cells) (slots := slots) (As := as.map (toV ad)) (b := ad r0) (rest := rest) (below := below) (e := e) (meth := meth) (nL := nL) ⟨hx, hb, hml, hown, hts⟩ hmet hcw
    ⟨PcY_blind, by
      have hg := wd_get (cI := cI) (cZ := cZ) (ad := ad) (M := M) (shp_lt hsh)
      rw [hsh] at hg
      have hv := va_recv hK hP (cls_get (sh_obj hsh).1) hg
      rw [u3]
      exact hv, fun U hU hW => ⟨rfl, Wl_law hA hP hS hK hSt hN hU hW⟩⟩ rfl (by rw [List.length_map]; exact hn) hls rfl (lv_room hcs) hdc hf
  exact callOnL hA hrun hS kk
/-- k numbers of the script, laid on the stack -/
theorem l_args (hx : p.tables.exec = Jvm.exec) (hb : c.code = code) {b L i q : Nat} {xs : Nat → Int32} (hX : va_X b L xs s s.heap) (hbl : b < s.heap.size) (hS : va_S (A0 s) s.heap H locs) (hi : i + 6 ≤ L) (hL : L ≤ 3072) (e0 : ls[0]? = some (.val (.ref b))) (e3 : ls[3]? = some (.val (.int (nI i)))) {st : List Value} :
    ∀ k : Nat, k ≤ 5 → (∀ j, j < k → argOk (q + 5 * j) j = true) → W p l e R s m args below meth c H locs cells slots Q (F0 m (q + 5 * k) ls (((av xs i k).map (toV ad)).reverse ++ st)) → W p l e R s m args below meth c H locs cells slots Q (F0 m q ls st)
  | 0, _, _, h => h
  | k + 1, hk, ha, h => by
    refine l_args hx hb hX hbl hS hi hL e0 e3 k (by omega) (fun j hj => ha j (by omega)) ?_
    have h0 := ha k (by omega)
    simp only [argOk, Bool.and_eq_true, decide_eq_true_eq] at h0
    obtain ⟨d0, d1, d2, d3, d4⟩ := h0
    have hbA : ¬ A0 s b := Nat.not_le.mpr hbl
    refine lv_aload_n hx hb d0 rfl e0 ?_
    refine lv_iload_n hx hb d1 rfl e3 ?_
    refine lv_iconst (v := nI (k + 1)) hx hb d2 Int32.ofInt_eq_ofNat ?_
    refine lv_iadd hx hb d3 ?_
    rw [nI_add]
    refine va_sld hx hb hX hbl hbA hS (vp_in_nI (by omega) (by omega)) d4 ?_
    rw [nI_clamp (by omega)]
    have e : ((av xs i (k + 1)).map (toV ad)).reverse ++ st = .int (xs (i + (k + 1))) :: (((av xs i k).map (toV ad)).reverse ++ st) := by
      simp only [av, List.map_append, List.map_cons, List.map_nil, List.reverse_append, List.reverse_cons, List.reverse_nil, List.nil_append, List.singleton_append, List.cons_append, toV]
      rw [show i + 1 + k = i + (k + 1) by omega, Int32.ofInt_toInt]
    rw [e] at h
    exact h
end LAW
