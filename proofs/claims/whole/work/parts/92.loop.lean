/-! THE LAW'S LOOP (written by wip/whole/gen92.py) -/
theorem dl_18 : decode code 18 = .ok (.iload_n 3, 1) := by decide +kernel
theorem dl_19 : decode code 19 = .ok (.aload_n 0, 1) := by decide +kernel
theorem dl_20 : decode code 20 = .ok (.arraylength, 1) := by decide +kernel
theorem dl_21 : decode code 21 = .ok (.bipush 6, 2) := by decide +kernel
theorem dl_23 : decode code 23 = .ok (.isub, 1) := by decide +kernel
theorem dl_24 : decode code 24 = .ok (.if_icmp .gt 1248, 3) := by decide +kernel
theorem dl_27 : decode code 27 = .ok (.aload_n 0, 1) := by decide +kernel
theorem dl_28 : decode code 28 = .ok (.iload_n 3, 1) := by decide +kernel
theorem dl_29 : decode code 29 = .ok (.iaload, 1) := by decide +kernel
theorem dl_30 : decode code 30 = .ok (.bipush 63, 2) := by decide +kernel
theorem dl_32 : decode code 32 = .ok (.iand, 1) := by decide +kernel
theorem dl_1266 : decode code 1266 = .ok (.iinc 3 6, 3) := by decide +kernel
theorem dl_1269 : decode code 1269 = .ok (.goto (-1251), 3) := by decide +kernel
theorem dl_33 : decode code 33 = .ok (.tableswitch 1233 0 37 #[167, 180, 213, 256, 279, 292, 305, 338, 361, 394, 427, 450, 463, 496, 529, 562, 575, 608, 641, 674, 727, 750, 773, 816, 879, 902, 925, 948, 971, 994, 1027, 1070, 1103, 1127, 1150, 1173, 1196, 1219], 167) := by decide +kernel
theorem cd_0_0 : decode code 200 = .ok (.aload_n 1, 1) := by decide +kernel
theorem cd_0_1 : decode code 201 = .ok (.invokevirtual 13, 3) := by decide +kernel
theorem cd_0_2 : decode code 204 = .ok (.aload_n 2, 1) := by decide +kernel
theorem cd_0_3 : decode code 205 = .ok (.invokevirtual 17, 3) := by decide +kernel
theorem cd_1_0 : decode code 213 = .ok (.aload_n 1, 1) := by decide +kernel
theorem cd_1_1 : decode code 224 = .ok (.invokevirtual 18, 3) := by decide +kernel
theorem cd_1_2 : decode code 227 = .ok (.aload_n 2, 1) := by decide +kernel
theorem cd_1_3 : decode code 238 = .ok (.invokevirtual 22, 3) := by decide +kernel
theorem cd_2_0 : decode code 246 = .ok (.aload_n 1, 1) := by decide +kernel
theorem cd_2_1 : decode code 262 = .ok (.invokevirtual 23, 3) := by decide +kernel
theorem cd_2_2 : decode code 265 = .ok (.aload_n 2, 1) := by decide +kernel
theorem cd_2_3 : decode code 281 = .ok (.invokevirtual 27, 3) := by decide +kernel
theorem cd_3_0 : decode code 289 = .ok (.aload_n 1, 1) := by decide +kernel
theorem cd_3_1 : decode code 295 = .ok (.invokevirtual 28, 3) := by decide +kernel
theorem cd_3_2 : decode code 298 = .ok (.aload_n 2, 1) := by decide +kernel
theorem cd_3_3 : decode code 304 = .ok (.invokevirtual 32, 3) := by decide +kernel
theorem cd_4_0 : decode code 312 = .ok (.aload_n 1, 1) := by decide +kernel
theorem cd_4_1 : decode code 313 = .ok (.invokevirtual 33, 3) := by decide +kernel
theorem cd_4_2 : decode code 316 = .ok (.aload_n 2, 1) := by decide +kernel
theorem cd_4_3 : decode code 317 = .ok (.invokevirtual 36, 3) := by decide +kernel
theorem cd_5_0 : decode code 325 = .ok (.aload_n 1, 1) := by decide +kernel
theorem cd_5_1 : decode code 326 = .ok (.invokevirtual 37, 3) := by decide +kernel
theorem cd_5_2 : decode code 329 = .ok (.aload_n 2, 1) := by decide +kernel
theorem cd_5_3 : decode code 330 = .ok (.invokevirtual 40, 3) := by decide +kernel
theorem cd_6_0 : decode code 338 = .ok (.aload_n 1, 1) := by decide +kernel
theorem cd_6_1 : decode code 349 = .ok (.invokevirtual 41, 3) := by decide +kernel
theorem cd_6_2 : decode code 352 = .ok (.aload_n 2, 1) := by decide +kernel
theorem cd_6_3 : decode code 363 = .ok (.invokevirtual 44, 3) := by decide +kernel
theorem cd_7_0 : decode code 371 = .ok (.aload_n 1, 1) := by decide +kernel
theorem cd_7_1 : decode code 377 = .ok (.invokevirtual 45, 3) := by decide +kernel
theorem cd_7_2 : decode code 380 = .ok (.aload_n 2, 1) := by decide +kernel
theorem cd_7_3 : decode code 386 = .ok (.invokevirtual 48, 3) := by decide +kernel
theorem cd_8_0 : decode code 394 = .ok (.aload_n 1, 1) := by decide +kernel
theorem cd_8_1 : decode code 405 = .ok (.invokevirtual 49, 3) := by decide +kernel
theorem cd_8_2 : decode code 408 = .ok (.aload_n 2, 1) := by decide +kernel
theorem cd_8_3 : decode code 419 = .ok (.invokevirtual 52, 3) := by decide +kernel
theorem cd_9_0 : decode code 427 = .ok (.aload_n 1, 1) := by decide +kernel
theorem cd_9_1 : decode code 438 = .ok (.invokevirtual 53, 3) := by decide +kernel
theorem cd_9_2 : decode code 441 = .ok (.aload_n 2, 1) := by decide +kernel
theorem cd_9_3 : decode code 452 = .ok (.invokevirtual 56, 3) := by decide +kernel
theorem cd_10_0 : decode code 460 = .ok (.aload_n 1, 1) := by decide +kernel
theorem cd_10_1 : decode code 466 = .ok (.invokevirtual 57, 3) := by decide +kernel
theorem cd_10_2 : decode code 469 = .ok (.aload_n 2, 1) := by decide +kernel
theorem cd_10_3 : decode code 475 = .ok (.invokevirtual 60, 3) := by decide +kernel
theorem cd_11_0 : decode code 483 = .ok (.aload_n 1, 1) := by decide +kernel
theorem cd_11_1 : decode code 484 = .ok (.invokevirtual 61, 3) := by decide +kernel
theorem cd_11_2 : decode code 487 = .ok (.aload_n 2, 1) := by decide +kernel
theorem cd_11_3 : decode code 488 = .ok (.invokevirtual 64, 3) := by decide +kernel
theorem cd_12_0 : decode code 496 = .ok (.aload_n 1, 1) := by decide +kernel
theorem cd_12_1 : decode code 507 = .ok (.invokevirtual 65, 3) := by decide +kernel
theorem cd_12_2 : decode code 510 = .ok (.aload_n 2, 1) := by decide +kernel
theorem cd_12_3 : decode code 521 = .ok (.invokevirtual 68, 3) := by decide +kernel
theorem cd_13_0 : decode code 529 = .ok (.aload_n 1, 1) := by decide +kernel
theorem cd_13_1 : decode code 540 = .ok (.invokevirtual 69, 3) := by decide +kernel
theorem cd_13_2 : decode code 543 = .ok (.aload_n 2, 1) := by decide +kernel
theorem cd_13_3 : decode code 554 = .ok (.invokevirtual 72, 3) := by decide +kernel
theorem cd_14_0 : decode code 562 = .ok (.aload_n 1, 1) := by decide +kernel
theorem cd_14_1 : decode code 573 = .ok (.invokevirtual 73, 3) := by decide +kernel
theorem cd_14_2 : decode code 576 = .ok (.aload_n 2, 1) := by decide +kernel
theorem cd_14_3 : decode code 587 = .ok (.invokevirtual 76, 3) := by decide +kernel
theorem cd_15_0 : decode code 595 = .ok (.aload_n 1, 1) := by decide +kernel
theorem cd_15_1 : decode code 596 = .ok (.invokevirtual 77, 3) := by decide +kernel
theorem cd_15_2 : decode code 599 = .ok (.aload_n 2, 1) := by decide +kernel
theorem cd_15_3 : decode code 600 = .ok (.invokevirtual 80, 3) := by decide +kernel
theorem cd_16_0 : decode code 608 = .ok (.aload_n 1, 1) := by decide +kernel
theorem cd_16_1 : decode code 619 = .ok (.invokevirtual 81, 3) := by decide +kernel
theorem cd_16_2 : decode code 622 = .ok (.aload_n 2, 1) := by decide +kernel
theorem cd_16_3 : decode code 633 = .ok (.invokevirtual 84, 3) := by decide +kernel
theorem cd_17_0 : decode code 641 = .ok (.aload_n 1, 1) := by decide +kernel
theorem cd_17_1 : decode code 652 = .ok (.invokevirtual 85, 3) := by decide +kernel
theorem cd_17_2 : decode code 655 = .ok (.aload_n 2, 1) := by decide +kernel
theorem cd_17_3 : decode code 666 = .ok (.invokevirtual 88, 3) := by decide +kernel
theorem cd_18_0 : decode code 674 = .ok (.aload_n 1, 1) := by decide +kernel
theorem cd_18_1 : decode code 685 = .ok (.invokevirtual 89, 3) := by decide +kernel
theorem cd_18_2 : decode code 688 = .ok (.aload_n 2, 1) := by decide +kernel
theorem cd_18_3 : decode code 699 = .ok (.invokevirtual 92, 3) := by decide +kernel
theorem cd_19_0 : decode code 707 = .ok (.aload_n 1, 1) := by decide +kernel
theorem cd_19_1 : decode code 728 = .ok (.invokevirtual 93, 3) := by decide +kernel
theorem cd_19_2 : decode code 731 = .ok (.aload_n 2, 1) := by decide +kernel
theorem cd_19_3 : decode code 752 = .ok (.invokevirtual 97, 3) := by decide +kernel
theorem cd_20_0 : decode code 760 = .ok (.aload_n 1, 1) := by decide +kernel
theorem cd_20_1 : decode code 766 = .ok (.invokevirtual 98, 3) := by decide +kernel
theorem cd_20_2 : decode code 769 = .ok (.aload_n 2, 1) := by decide +kernel
theorem cd_20_3 : decode code 775 = .ok (.invokevirtual 101, 3) := by decide +kernel
theorem cd_21_0 : decode code 783 = .ok (.aload_n 1, 1) := by decide +kernel
theorem cd_21_1 : decode code 789 = .ok (.invokevirtual 102, 3) := by decide +kernel
theorem cd_21_2 : decode code 792 = .ok (.aload_n 2, 1) := by decide +kernel
theorem cd_21_3 : decode code 798 = .ok (.invokevirtual 105, 3) := by decide +kernel
theorem cd_22_0 : decode code 806 = .ok (.aload_n 1, 1) := by decide +kernel
theorem cd_22_1 : decode code 822 = .ok (.invokevirtual 106, 3) := by decide +kernel
theorem cd_22_2 : decode code 825 = .ok (.aload_n 2, 1) := by decide +kernel
theorem cd_22_3 : decode code 841 = .ok (.invokevirtual 109, 3) := by decide +kernel
theorem cd_23_0 : decode code 849 = .ok (.aload_n 1, 1) := by decide +kernel
theorem cd_23_1 : decode code 875 = .ok (.invokevirtual 110, 3) := by decide +kernel
theorem cd_23_2 : decode code 878 = .ok (.aload_n 2, 1) := by decide +kernel
theorem cd_23_3 : decode code 904 = .ok (.invokevirtual 114, 3) := by decide +kernel
theorem cd_24_0 : decode code 912 = .ok (.aload_n 1, 1) := by decide +kernel
theorem cd_24_1 : decode code 918 = .ok (.invokevirtual 115, 3) := by decide +kernel
theorem cd_24_2 : decode code 921 = .ok (.aload_n 2, 1) := by decide +kernel
theorem cd_24_3 : decode code 927 = .ok (.invokevirtual 118, 3) := by decide +kernel
theorem cd_25_0 : decode code 935 = .ok (.aload_n 1, 1) := by decide +kernel
theorem cd_25_1 : decode code 941 = .ok (.invokevirtual 119, 3) := by decide +kernel
theorem cd_25_2 : decode code 944 = .ok (.aload_n 2, 1) := by decide +kernel
theorem cd_25_3 : decode code 950 = .ok (.invokevirtual 122, 3) := by decide +kernel
theorem cd_26_0 : decode code 958 = .ok (.aload_n 1, 1) := by decide +kernel
theorem cd_26_1 : decode code 964 = .ok (.invokevirtual 123, 3) := by decide +kernel
theorem cd_26_2 : decode code 967 = .ok (.aload_n 2, 1) := by decide +kernel
theorem cd_26_3 : decode code 973 = .ok (.invokevirtual 126, 3) := by decide +kernel
theorem cd_27_0 : decode code 981 = .ok (.aload_n 1, 1) := by decide +kernel
theorem cd_27_1 : decode code 987 = .ok (.invokevirtual 127, 3) := by decide +kernel
theorem cd_27_2 : decode code 990 = .ok (.aload_n 2, 1) := by decide +kernel
theorem cd_27_3 : decode code 996 = .ok (.invokevirtual 130, 3) := by decide +kernel
theorem cd_28_0 : decode code 1004 = .ok (.aload_n 1, 1) := by decide +kernel
theorem cd_28_1 : decode code 1010 = .ok (.invokevirtual 131, 3) := by decide +kernel
theorem cd_28_2 : decode code 1013 = .ok (.aload_n 2, 1) := by decide +kernel
theorem cd_28_3 : decode code 1019 = .ok (.invokevirtual 134, 3) := by decide +kernel
theorem cd_29_0 : decode code 1027 = .ok (.aload_n 1, 1) := by decide +kernel
theorem cd_29_1 : decode code 1038 = .ok (.invokevirtual 135, 3) := by decide +kernel
theorem cd_29_2 : decode code 1041 = .ok (.aload_n 2, 1) := by decide +kernel
theorem cd_29_3 : decode code 1052 = .ok (.invokevirtual 138, 3) := by decide +kernel
theorem cd_30_0 : decode code 1060 = .ok (.aload_n 1, 1) := by decide +kernel
theorem cd_30_1 : decode code 1076 = .ok (.invokevirtual 139, 3) := by decide +kernel
theorem cd_30_2 : decode code 1079 = .ok (.aload_n 2, 1) := by decide +kernel
theorem cd_30_3 : decode code 1095 = .ok (.invokevirtual 142, 3) := by decide +kernel
theorem cd_31_0 : decode code 1103 = .ok (.aload_n 1, 1) := by decide +kernel
theorem cd_31_1 : decode code 1114 = .ok (.invokevirtual 143, 3) := by decide +kernel
theorem cd_31_2 : decode code 1117 = .ok (.aload_n 2, 1) := by decide +kernel
theorem cd_31_3 : decode code 1128 = .ok (.invokevirtual 146, 3) := by decide +kernel
theorem cd_32_0 : decode code 1136 = .ok (.aload_n 1, 1) := by decide +kernel
theorem cd_32_1 : decode code 1142 = .ok (.invokevirtual 147, 3) := by decide +kernel
theorem cd_32_2 : decode code 1145 = .ok (.aload_n 2, 1) := by decide +kernel
theorem cd_32_3 : decode code 1151 = .ok (.invokevirtual 151, 3) := by decide +kernel
theorem cd_33_0 : decode code 1160 = .ok (.aload_n 1, 1) := by decide +kernel
theorem cd_33_1 : decode code 1166 = .ok (.invokevirtual 152, 3) := by decide +kernel
theorem cd_33_2 : decode code 1169 = .ok (.aload_n 2, 1) := by decide +kernel
theorem cd_33_3 : decode code 1175 = .ok (.invokevirtual 155, 3) := by decide +kernel
theorem cd_34_0 : decode code 1183 = .ok (.aload_n 1, 1) := by decide +kernel
theorem cd_34_1 : decode code 1189 = .ok (.invokevirtual 156, 3) := by decide +kernel
theorem cd_34_2 : decode code 1192 = .ok (.aload_n 2, 1) := by decide +kernel
theorem cd_34_3 : decode code 1198 = .ok (.invokevirtual 159, 3) := by decide +kernel
theorem cd_35_0 : decode code 1206 = .ok (.aload_n 1, 1) := by decide +kernel
theorem cd_35_1 : decode code 1212 = .ok (.invokevirtual 160, 3) := by decide +kernel
theorem cd_35_2 : decode code 1215 = .ok (.aload_n 2, 1) := by decide +kernel
theorem cd_35_3 : decode code 1221 = .ok (.invokevirtual 163, 3) := by decide +kernel
theorem cd_36_0 : decode code 1229 = .ok (.aload_n 1, 1) := by decide +kernel
theorem cd_36_1 : decode code 1235 = .ok (.invokevirtual 164, 3) := by decide +kernel
theorem cd_36_2 : decode code 1238 = .ok (.aload_n 2, 1) := by decide +kernel
theorem cd_36_3 : decode code 1244 = .ok (.invokevirtual 167, 3) := by decide +kernel
theorem cd_37_0 : decode code 1252 = .ok (.aload_n 1, 1) := by decide +kernel
theorem cd_37_1 : decode code 1253 = .ok (.invokevirtual 168, 3) := by decide +kernel
theorem cd_37_2 : decode code 1256 = .ok (.aload_n 2, 1) := by decide +kernel
theorem cd_37_3 : decode code 1257 = .ok (.invokevirtual 172, 3) := by decide +kernel
theorem six {L i : Nat} (hL : L ≤ 3072) (hi : i ≤ L) : (Int32.ofNat L - 6 < nI i) ↔ L < i + 6 := by
  have e1 : Int32.ofNat L - 6 = Int32.ofInt ((L : Int) - 6) := by
    rw [Int32.ofInt_sub, ← Int32.ofInt_eq_ofNat]; rfl
  have e2 : nI i = Int32.ofInt (i : Int) := (Int32.ofInt_eq_ofNat).symm
  rw [e1, e2, lt32 ⟨by omega, by omega⟩ ⟨by omega, by omega⟩]
  omega
section LOOP
variable {p : Program} {l : Launch} {e : Env} {s : State} {m : MethodId} {args : Array Value} {below : List Frame} {meth : Method} {c : Code} {Q : State → Prop} {D : va_G} {cI cZ : ClassId} {ad adV : Nat → Nat} {cells slots : Nat}
set_option maxHeartbeats 4000000 in
theorem law_loop {Rl' : Mm → Nat → Prop} (hj : inj ad) (hx : p.tables.exec = Jvm.exec) (hb : c.code = code) (hml : c.maxLocals = 4) (hts : ∀ w ∈ gt, w.before args s = true) (hK : va_K D cls (tyw cI cZ) s) (hSt : SokA (A0 s) ad adV s s.heap) (hN : Nok s) (hA : ∀ r, r < 73 → s.heap.size ≤ ad r) (hown : s.vm.findClass "StairStepsLaw" = some m.cls) (hf : cells ≤ room_1.cells ∧ slots ≤ room_1.slots)
    {b L : Nat} {xs : Nat → Int32} (hX : va_X b L xs s s.heap) (hbl : b < s.heap.size) (hL : L ≤ 3072)
    (h_tenement : ∀ (i : Nat) (M : Mm) (n : Nat), Rl' M n → n < 512 → Ct 58 (vr 0 :: av xs i 0) M (fun r1 M1 => Ct 148 (vr 64 :: av xs i 0) M1 (fun r2 M2 => r1 = r2 ∧ Rl' M2 (n + 1))))
    (h_flight : ∀ (i : Nat) (M : Mm) (n : Nat), Rl' M n → n < 512 → Ct 59 (vr 0 :: av xs i 2) M (fun r1 M1 => Ct 150 (vr 64 :: av xs i 2) M1 (fun r2 M2 => r1 = r2 ∧ Rl' M2 (n + 1))))
    (h_goer : ∀ (i : Nat) (M : Mm) (n : Nat), Rl' M n → n < 512 → Ct 60 (vr 0 :: av xs i 3) M (fun r1 M1 => Ct 152 (vr 64 :: av xs i 3) M1 (fun r2 M2 => r1 = r2 ∧ Rl' M2 (n + 1))))
    (h_type : ∀ (i : Nat) (M : Mm) (n : Nat), Rl' M n → n < 512 → Ct 61 (vr 0 :: av xs i 1) M (fun r1 M1 => Ct 153 (vr 64 :: av xs i 1) M1 (fun r2 M2 => r1 = r2 ∧ Rl' M2 (n + 1))))
    (h_clear : ∀ (i : Nat) (M : Mm) (n : Nat), Rl' M n → n < 512 → Ct 62 (vr 0 :: av xs i 0) M (fun r1 M1 => Ct 154 (vr 64 :: av xs i 0) M1 (fun r2 M2 => r1 = r2 ∧ Rl' M2 (n + 1))))
    (h_read : ∀ (i : Nat) (M : Mm) (n : Nat), Rl' M n → n < 512 → Ct 63 (vr 0 :: av xs i 0) M (fun r1 M1 => Ct 169 (vr 64 :: av xs i 0) M1 (fun r2 M2 => r1 = r2 ∧ Rl' M2 (n + 1))))
    (h_strides : ∀ (i : Nat) (M : Mm) (n : Nat), Rl' M n → n < 512 → Ct 64 (vr 0 :: av xs i 2) M (fun r1 M1 => Ct 173 (vr 64 :: av xs i 2) M1 (fun r2 M2 => r1 = r2 ∧ Rl' M2 (n + 1))))
    (h_begins : ∀ (i : Nat) (M : Mm) (n : Nat), Rl' M n → n < 512 → Ct 65 (vr 0 :: av xs i 1) M (fun r1 M1 => Ct 174 (vr 64 :: av xs i 1) M1 (fun r2 M2 => r1 = r2 ∧ Rl' M2 (n + 1))))
    (h_loads : ∀ (i : Nat) (M : Mm) (n : Nat), Rl' M n → n < 512 → Ct 66 (vr 0 :: av xs i 2) M (fun r1 M1 => Ct 175 (vr 64 :: av xs i 2) M1 (fun r2 M2 => r1 = r2 ∧ Rl' M2 (n + 1))))
    (h_sells : ∀ (i : Nat) (M : Mm) (n : Nat), Rl' M n → n < 512 → Ct 67 (vr 0 :: av xs i 2) M (fun r1 M1 => Ct 176 (vr 64 :: av xs i 2) M1 (fun r2 M2 => r1 = r2 ∧ Rl' M2 (n + 1))))
    (h_hours : ∀ (i : Nat) (M : Mm) (n : Nat), Rl' M n → n < 512 → Ct 68 (vr 0 :: av xs i 1) M (fun r1 M1 => Ct 177 (vr 64 :: av xs i 1) M1 (fun r2 M2 => r1 = r2 ∧ Rl' M2 (n + 1))))
    (h_undo : ∀ (i : Nat) (M : Mm) (n : Nat), Rl' M n → n < 512 → Ct 69 (vr 0 :: av xs i 0) M (fun r1 M1 => Ct 178 (vr 64 :: av xs i 0) M1 (fun r2 M2 => r1 = r2 ∧ Rl' M2 (n + 1))))
    (h_of : ∀ (i : Nat) (M : Mm) (n : Nat), Rl' M n → n < 512 → Ct 70 (vr 0 :: av xs i 2) M (fun r1 M1 => Ct 179 (vr 64 :: av xs i 2) M1 (fun r2 M2 => r1 = r2 ∧ Rl' M2 (n + 1))))
    (h_about : ∀ (i : Nat) (M : Mm) (n : Nat), Rl' M n → n < 512 → Ct 71 (vr 0 :: av xs i 2) M (fun r1 M1 => Ct 181 (vr 64 :: av xs i 2) M1 (fun r2 M2 => r1 = r2 ∧ Rl' M2 (n + 1))))
    (h_up : ∀ (i : Nat) (M : Mm) (n : Nat), Rl' M n → n < 512 → Ct 72 (vr 0 :: av xs i 2) M (fun r1 M1 => Ct 186 (vr 64 :: av xs i 2) M1 (fun r2 M2 => r1 = r2 ∧ Rl' M2 (n + 1))))
    (h_stuck : ∀ (i : Nat) (M : Mm) (n : Nat), Rl' M n → n < 512 → Ct 73 (vr 0 :: av xs i 0) M (fun r1 M1 => Ct 187 (vr 64 :: av xs i 0) M1 (fun r2 M2 => r1 = r2 ∧ Rl' M2 (n + 1))))
    (h_soon : ∀ (i : Nat) (M : Mm) (n : Nat), Rl' M n → n < 512 → Ct 74 (vr 0 :: av xs i 2) M (fun r1 M1 => Ct 188 (vr 64 :: av xs i 2) M1 (fun r2 M2 => r1 = r2 ∧ Rl' M2 (n + 1))))
    (h_site : ∀ (i : Nat) (M : Mm) (n : Nat), Rl' M n → n < 512 → Ct 75 (vr 0 :: av xs i 2) M (fun r1 M1 => Ct 189 (vr 64 :: av xs i 2) M1 (fun r2 M2 => r1 = r2 ∧ Rl' M2 (n + 1))))
    (h_meets : ∀ (i : Nat) (M : Mm) (n : Nat), Rl' M n → n < 512 → Ct 77 (vr 0 :: av xs i 2) M (fun r1 M1 => Ct 191 (vr 64 :: av xs i 2) M1 (fun r2 M2 => r1 = r2 ∧ Rl' M2 (n + 1))))
    (h_seen : ∀ (i : Nat) (M : Mm) (n : Nat), Rl' M n → n < 512 → Ct 78 (vr 0 :: av xs i 4) M (fun r1 M1 => Ct 192 (vr 64 :: av xs i 4) M1 (fun r2 M2 => r1 = r2 ∧ Rl' M2 (n + 1))))
    (h_whose : ∀ (i : Nat) (M : Mm) (n : Nat), Rl' M n → n < 512 → Ct 79 (vr 0 :: av xs i 1) M (fun r1 M1 => Ct 195 (vr 64 :: av xs i 1) M1 (fun r2 M2 => r1 = r2 ∧ Rl' M2 (n + 1))))
    (h_tell : ∀ (i : Nat) (M : Mm) (n : Nat), Rl' M n → n < 512 → Ct 80 (vr 0 :: av xs i 1) M (fun r1 M1 => Ct 196 (vr 64 :: av xs i 1) M1 (fun r2 M2 => r1 = r2 ∧ Rl' M2 (n + 1))))
    (h_note : ∀ (i : Nat) (M : Mm) (n : Nat), Rl' M n → n < 512 → Ct 82 (vr 0 :: av xs i 3) M (fun r1 M1 => Ct 197 (vr 64 :: av xs i 3) M1 (fun r2 M2 => r1 = r2 ∧ Rl' M2 (n + 1))))
    (h_mark : ∀ (i : Nat) (M : Mm) (n : Nat), Rl' M n → n < 512 → Ct 83 (vr 0 :: av xs i 5) M (fun r1 M1 => Ct 198 (vr 64 :: av xs i 5) M1 (fun r2 M2 => r1 = r2 ∧ Rl' M2 (n + 1))))
    (h_forget : ∀ (i : Nat) (M : Mm) (n : Nat), Rl' M n → n < 512 → Ct 84 (vr 0 :: av xs i 1) M (fun r1 M1 => Ct 199 (vr 64 :: av xs i 1) M1 (fun r2 M2 => r1 = r2 ∧ Rl' M2 (n + 1))))
    (h_is : ∀ (i : Nat) (M : Mm) (n : Nat), Rl' M n → n < 512 → Ct 85 (vr 0 :: av xs i 1) M (fun r1 M1 => Ct 202 (vr 64 :: av xs i 1) M1 (fun r2 M2 => r1 = r2 ∧ Rl' M2 (n + 1))))
    (h_look : ∀ (i : Nat) (M : Mm) (n : Nat), Rl' M n → n < 512 → Ct 86 (vr 0 :: av xs i 1) M (fun r1 M1 => Ct 203 (vr 64 :: av xs i 1) M1 (fun r2 M2 => r1 = r2 ∧ Rl' M2 (n + 1))))
    (h_kinds : ∀ (i : Nat) (M : Mm) (n : Nat), Rl' M n → n < 512 → Ct 91 (vr 0 :: av xs i 1) M (fun r1 M1 => Ct 206 (vr 64 :: av xs i 1) M1 (fun r2 M2 => r1 = r2 ∧ Rl' M2 (n + 1))))
    (h_ask : ∀ (i : Nat) (M : Mm) (n : Nat), Rl' M n → n < 512 → Ct 92 (vr 0 :: av xs i 1) M (fun r1 M1 => Ct 207 (vr 64 :: av xs i 1) M1 (fun r2 M2 => r1 = r2 ∧ Rl' M2 (n + 1))))
    (h_gap : ∀ (i : Nat) (M : Mm) (n : Nat), Rl' M n → n < 512 → Ct 96 (vr 0 :: av xs i 2) M (fun r1 M1 => Ct 209 (vr 64 :: av xs i 2) M1 (fun r2 M2 => r1 = r2 ∧ Rl' M2 (n + 1))))
    (h_dark : ∀ (i : Nat) (M : Mm) (n : Nat), Rl' M n → n < 512 → Ct 99 (vr 0 :: av xs i 3) M (fun r1 M1 => Ct 211 (vr 64 :: av xs i 3) M1 (fun r2 M2 => r1 = r2 ∧ Rl' M2 (n + 1))))
    (h_years : ∀ (i : Nat) (M : Mm) (n : Nat), Rl' M n → n < 512 → Ct 105 (vr 0 :: av xs i 2) M (fun r1 M1 => Ct 212 (vr 64 :: av xs i 2) M1 (fun r2 M2 => r1 = r2 ∧ Rl' M2 (n + 1))))
    (h_part : ∀ (i : Nat) (M : Mm) (n : Nat), Rl' M n → n < 512 → Ct 107 (vr 0 :: av xs i 1) M (fun r1 M1 => Ct 213 (vr 64 :: av xs i 1) M1 (fun r2 M2 => r1 = r2 ∧ Rl' M2 (n + 1))))
    (h_image : ∀ (i : Nat) (M : Mm) (n : Nat), Rl' M n → n < 512 → Ct 108 (vr 0 :: av xs i 1) M (fun r1 M1 => Ct 214 (vr 64 :: av xs i 1) M1 (fun r2 M2 => r1 = r2 ∧ Rl' M2 (n + 1))))
    (h_from : ∀ (i : Nat) (M : Mm) (n : Nat), Rl' M n → n < 512 → Ct 109 (vr 0 :: av xs i 1) M (fun r1 M1 => Ct 215 (vr 64 :: av xs i 1) M1 (fun r2 M2 => r1 = r2 ∧ Rl' M2 (n + 1))))
    (h_status : ∀ (i : Nat) (M : Mm) (n : Nat), Rl' M n → n < 512 → Ct 110 (vr 0 :: av xs i 1) M (fun r1 M1 => Ct 216 (vr 64 :: av xs i 1) M1 (fun r2 M2 => r1 = r2 ∧ Rl' M2 (n + 1))))
    (h_count : ∀ (i : Nat) (M : Mm) (n : Nat), Rl' M n → n < 512 → Ct 111 (vr 0 :: av xs i 1) M (fun r1 M1 => Ct 219 (vr 64 :: av xs i 1) M1 (fun r2 M2 => r1 = r2 ∧ Rl' M2 (n + 1))))
    (h_digest : ∀ (i : Nat) (M : Mm) (n : Nat), Rl' M n → n < 512 → Ct 113 (vr 0 :: av xs i 0) M (fun r1 M1 => Ct 222 (vr 64 :: av xs i 0) M1 (fun r2 M2 => r1 = r2 ∧ Rl' M2 (n + 1))))
    (hend : ∀ (H : Heap) (locs : List Loc) (ls : Array Slot), va_S (A0 s) s.heap H locs → W p l e room_1 s m args below meth c H locs cells slots Q (F0 m 1272 ls [])) :
    ∀ (f t n : Nat) (M : Mm) (H : Heap) (locs : List Loc) (ls : Array Slot), 6 * t ≤ L → L < 6 * t + 6 * f → n ≤ t → Rl' M n → okM M → va_P D cls (wd cI cZ ad M) H → va_S (A0 s) s.heap H locs → lv_has ls 4 [(0, .ref b), (1, .ref (ad 0)), (2, .ref (ad 64)), (3, .int (nI (6 * t)))] → W p l e room_1 s m args below meth c H locs cells slots Q (F0 m 18 ls []) := by
  intro f
  induction f with
  | zero => intro t n M H locs ls h1 h2; omega
  | succ f ih =>
  intro t n M H locs ls h1 h2 hnt hR hM hP hS hl
  have hbA : ¬ A0 s b := Nat.not_le.mpr hbl
  have e0 := lv_at hl 0 (i := 0) rfl
  have e1 := lv_at hl 1 (i := 1) rfl
  have e2 := lv_at hl 2 (i := 2) rfl
  have e3 := lv_at hl 3 (i := 3) rfl
  refine lv_iload_n hx hb dl_18 rfl e3 ?_
  refine lv_aload_n hx hb dl_19 rfl e0 ?_
  refine va_slen hx hb hX hbl hbA hS dl_20 ?_
  refine lv_bipush (v := 6) hx hb dl_21 (by decide) ?_
  refine lv_isub hx hb dl_23 ?_
  refine lv_icmp_gt (tgt := 1272) hx hb dl_24 (by decide) (fun _ => hend H locs ls hS) (fun hg => ?_)
  rw [six hL h1] at hg
  have hi : 6 * t + 6 ≤ L := by omega
  have hn : n < 512 := by omega
  have next : ∀ (n2 : Nat) (M2 : Mm) (H2 : Heap) (locs2 : List Loc), n2 ≤ t + 1 → Rl' M2 n2 → okM M2 → va_P D cls (wd cI cZ ad M2) H2 → va_S (A0 s) s.heap H2 locs2 → W p l e room_1 s m args below meth c H2 locs2 cells slots Q (F0 m 1266 ls []) := by
    intro n2 M2 H2 locs2 hn2 hR2 hM2 hP2 hS2
    refine lv_iinc (v := nI (6 * (t + 1))) (lv' := [(3, .int (nI (6 * (t + 1)))), (0, .ref b), (1, .ref (ad 0)), (2, .ref (ad 64))]) hx hb dl_1266 hl (k := 3) rfl (nI_add (6 * t) 6) (by decide) rfl (fun ls2 hl2 => ?_)
    refine lv_goto (tgt := 18) hx hb dl_1269 (by decide) ?_
    exact ih (t + 1) n2 M2 H2 locs2 ls2 (by omega) (by omega) hn2 hR2 hM2 hP2 hS2 (lv_sub hl2 [1, 2, 3, 0] rfl)
  refine lv_aload_n hx hb dl_27 rfl e0 ?_
  refine lv_iload_n hx hb dl_28 rfl e3 ?_
  refine va_sld hx hb hX hbl hbA hS (vp_in_nI (by omega) (by omega)) dl_29 ?_
  refine lv_bipush (v := 63) hx hb dl_30 (by decide) ?_
  refine lv_iand hx hb dl_32 ?_
  obtain ⟨v, hv1, hv2⟩ := pk_andE (xs (nI (6 * t)).toNatClampNeg) (m := 63) 6 (by decide)
  rw [hv2]
  have hv : (nI v).toInt = (v : Int) := by
    have e9 : nI v = Int32.ofInt (v : Int) := (Int32.ofInt_eq_ofNat).symm
    rw [e9]
    exact of32 ⟨by omega, by omega⟩
  by_cases hv3 : 37 < v
  · refine lv_tableOut (tgt := 1266) hx hb dl_33 (Or.inr (by rw [hv]; omega)) (by decide) ?_
    exact next n M H locs (by omega) hR hM hP hS
  rcases (show v = 0 ∨ v = 1 ∨ v = 2 ∨ v = 3 ∨ v = 4 ∨ v = 5 ∨ v = 6 ∨ v = 7 ∨ v = 8 ∨ v = 9 ∨ v = 10 ∨ v = 11 ∨ v = 12 ∨ v = 13 ∨ v = 14 ∨ v = 15 ∨ v = 16 ∨ v = 17 ∨ v = 18 ∨ v = 19 ∨ v = 20 ∨ v = 21 ∨ v = 22 ∨ v = 23 ∨ v = 24 ∨ v = 25 ∨ v = 26 ∨ v = 27 ∨ v = 28 ∨ v = 29 ∨ v = 30 ∨ v = 31 ∨ v = 32 ∨ v = 33 ∨ v = 34 ∨ v = 35 ∨ v = 36 ∨ v = 37 by omega) with rfl | rfl | rfl | rfl | rfl | rfl | rfl | rfl | rfl | rfl | rfl | rfl | rfl | rfl | rfl | rfl | rfl | rfl | rfl | rfl | rfl | rfl | rfl | rfl | rfl | rfl | rfl | rfl | rfl | rfl | rfl | rfl | rfl | rfl | rfl | rfl | rfl | rfl
  · refine lv_tableIn (off := 167) (tgt := 200) hx hb dl_33 (by rw [hv]; decide) (by rw [hv]; decide) (by rw [hv]; rfl) (by decide) ?_
    exact l_case (P := fun M2 => Rl' M2 (n + 1)) (p0 := 200) (k := 0) (A := 13) (B := 17) (yc := 58) (yr := 148) (wA := 270) (wB := 955) (lg := false) hj hx hb hml hts hK hSt hN hA hown hl.1 hf hX hbl hi hL e0 e1 e2 e3 (by decide) cm_0 cn_0 ce_0 cd_0_0 (fun j hj => absurd hj (Nat.not_lt_zero j)) cd_0_1 cd_0_2 (fun j hj => absurd hj (Nat.not_lt_zero j)) cd_0_3 (h_tenement (6 * t) M n hR hn) hP hS hM (fun M2 H2 locs2 hR2 hM2 hP2 hS2 => next (n + 1) M2 H2 locs2 (by omega) hR2 hM2 hP2 hS2)
  · refine lv_tableIn (off := 180) (tgt := 213) hx hb dl_33 (by rw [hv]; decide) (by rw [hv]; decide) (by rw [hv]; rfl) (by decide) ?_
    exact l_case (P := fun M2 => Rl' M2 (n + 1)) (p0 := 213) (k := 2) (A := 18) (B := 22) (yc := 59) (yr := 150) (wA := 285) (wB := 963) (lg := false) hj hx hb hml hts hK hSt hN hA hown hl.1 hf hX hbl hi hL e0 e1 e2 e3 (by decide) cm_1 cn_1 ce_1 cd_1_0 (fun j hj => by
      rcases (show j = 0 ∨ j = 1 by omega) with rfl | rfl
      · exact ca_1_0
      · exact ca_1_1) cd_1_1 cd_1_2 (fun j hj => by
      rcases (show j = 0 ∨ j = 1 by omega) with rfl | rfl
      · exact ca_1_2
      · exact ca_1_3) cd_1_3 (h_flight (6 * t) M n hR hn) hP hS hM (fun M2 H2 locs2 hR2 hM2 hP2 hS2 => next (n + 1) M2 H2 locs2 (by omega) hR2 hM2 hP2 hS2)
  · refine lv_tableIn (off := 213) (tgt := 246) hx hb dl_33 (by rw [hv]; decide) (by rw [hv]; decide) (by rw [hv]; rfl) (by decide) ?_
    exact l_case (P := fun M2 => Rl' M2 (n + 1)) (p0 := 246) (k := 3) (A := 23) (B := 27) (yc := 60) (yr := 152) (wA := 314) (wB := 984) (lg := false) hj hx hb hml hts hK hSt hN hA hown hl.1 hf hX hbl hi hL e0 e1 e2 e3 (by decide) cm_2 cn_2 ce_2 cd_2_0 (fun j hj => by
      rcases (show j = 0 ∨ j = 1 ∨ j = 2 by omega) with rfl | rfl | rfl
      · exact ca_2_0
      · exact ca_2_1
      · exact ca_2_2) cd_2_1 cd_2_2 (fun j hj => by
      rcases (show j = 0 ∨ j = 1 ∨ j = 2 by omega) with rfl | rfl | rfl
      · exact ca_2_3
      · exact ca_2_4
      · exact ca_2_5) cd_2_3 (h_goer (6 * t) M n hR hn) hP hS hM (fun M2 H2 locs2 hR2 hM2 hP2 hS2 => next (n + 1) M2 H2 locs2 (by omega) hR2 hM2 hP2 hS2)
  · refine lv_tableIn (off := 256) (tgt := 289) hx hb dl_33 (by rw [hv]; decide) (by rw [hv]; decide) (by rw [hv]; rfl) (by decide) ?_
    exact l_case (P := fun M2 => Rl' M2 (n + 1)) (p0 := 289) (k := 1) (A := 28) (B := 32) (yc := 61) (yr := 153) (wA := 334) (wB := 997) (lg := false) hj hx hb hml hts hK hSt hN hA hown hl.1 hf hX hbl hi hL e0 e1 e2 e3 (by decide) cm_3 cn_3 ce_3 cd_3_0 (fun j hj => by rcases (show j = 0 by omega) with rfl; exact ca_3_0) cd_3_1 cd_3_2 (fun j hj => by rcases (show j = 0 by omega) with rfl; exact ca_3_1) cd_3_3 (h_type (6 * t) M n hR hn) hP hS hM (fun M2 H2 locs2 hR2 hM2 hP2 hS2 => next (n + 1) M2 H2 locs2 (by omega) hR2 hM2 hP2 hS2)
  · refine lv_tableIn (off := 279) (tgt := 312) hx hb dl_33 (by rw [hv]; decide) (by rw [hv]; decide) (by rw [hv]; rfl) (by decide) ?_
    exact l_case (P := fun M2 => Rl' M2 (n + 1)) (p0 := 312) (k := 0) (A := 33) (B := 36) (yc := 62) (yr := 154) (wA := 343) (wB := 1002) (lg := false) hj hx hb hml hts hK hSt hN hA hown hl.1 hf hX hbl hi hL e0 e1 e2 e3 (by decide) cm_4 cn_4 ce_4 cd_4_0 (fun j hj => absurd hj (Nat.not_lt_zero j)) cd_4_1 cd_4_2 (fun j hj => absurd hj (Nat.not_lt_zero j)) cd_4_3 (h_clear (6 * t) M n hR hn) hP hS hM (fun M2 H2 locs2 hR2 hM2 hP2 hS2 => next (n + 1) M2 H2 locs2 (by omega) hR2 hM2 hP2 hS2)
  · refine lv_tableIn (off := 292) (tgt := 325) hx hb dl_33 (by rw [hv]; decide) (by rw [hv]; decide) (by rw [hv]; rfl) (by decide) ?_
    exact l_case (P := fun M2 => Rl' M2 (n + 1)) (p0 := 325) (k := 0) (A := 37) (B := 40) (yc := 63) (yr := 169) (wA := 347) (wB := 1006) (lg := false) hj hx hb hml hts hK hSt hN hA hown hl.1 hf hX hbl hi hL e0 e1 e2 e3 (by decide) cm_5 cn_5 ce_5 cd_5_0 (fun j hj => absurd hj (Nat.not_lt_zero j)) cd_5_1 cd_5_2 (fun j hj => absurd hj (Nat.not_lt_zero j)) cd_5_3 (h_read (6 * t) M n hR hn) hP hS hM (fun M2 H2 locs2 hR2 hM2 hP2 hS2 => next (n + 1) M2 H2 locs2 (by omega) hR2 hM2 hP2 hS2)
  · refine lv_tableIn (off := 305) (tgt := 338) hx hb dl_33 (by rw [hv]; decide) (by rw [hv]; decide) (by rw [hv]; rfl) (by decide) ?_
    exact l_case (P := fun M2 => Rl' M2 (n + 1)) (p0 := 338) (k := 2) (A := 41) (B := 44) (yc := 64) (yr := 173) (wA := 562) (wB := 1114) (lg := false) hj hx hb hml hts hK hSt hN hA hown hl.1 hf hX hbl hi hL e0 e1 e2 e3 (by decide) cm_6 cn_6 ce_6 cd_6_0 (fun j hj => by
      rcases (show j = 0 ∨ j = 1 by omega) with rfl | rfl
      · exact ca_6_0
      · exact ca_6_1) cd_6_1 cd_6_2 (fun j hj => by
      rcases (show j = 0 ∨ j = 1 by omega) with rfl | rfl
      · exact ca_6_2
      · exact ca_6_3) cd_6_3 (h_strides (6 * t) M n hR hn) hP hS hM (fun M2 H2 locs2 hR2 hM2 hP2 hS2 => next (n + 1) M2 H2 locs2 (by omega) hR2 hM2 hP2 hS2)
  · refine lv_tableIn (off := 338) (tgt := 371) hx hb dl_33 (by rw [hv]; decide) (by rw [hv]; decide) (by rw [hv]; rfl) (by decide) ?_
    exact l_case (P := fun M2 => Rl' M2 (n + 1)) (p0 := 371) (k := 1) (A := 45) (B := 48) (yc := 65) (yr := 174) (wA := 582) (wB := 1130) (lg := false) hj hx hb hml hts hK hSt hN hA hown hl.1 hf hX hbl hi hL e0 e1 e2 e3 (by decide) cm_7 cn_7 ce_7 cd_7_0 (fun j hj => by rcases (show j = 0 by omega) with rfl; exact ca_7_0) cd_7_1 cd_7_2 (fun j hj => by rcases (show j = 0 by omega) with rfl; exact ca_7_1) cd_7_3 (h_begins (6 * t) M n hR hn) hP hS hM (fun M2 H2 locs2 hR2 hM2 hP2 hS2 => next (n + 1) M2 H2 locs2 (by omega) hR2 hM2 hP2 hS2)
  · refine lv_tableIn (off := 361) (tgt := 394) hx hb dl_33 (by rw [hv]; decide) (by rw [hv]; decide) (by rw [hv]; rfl) (by decide) ?_
    exact l_case (P := fun M2 => Rl' M2 (n + 1)) (p0 := 394) (k := 2) (A := 49) (B := 52) (yc := 66) (yr := 175) (wA := 588) (wB := 1134) (lg := false) hj hx hb hml hts hK hSt hN hA hown hl.1 hf hX hbl hi hL e0 e1 e2 e3 (by decide) cm_8 cn_8 ce_8 cd_8_0 (fun j hj => by
      rcases (show j = 0 ∨ j = 1 by omega) with rfl | rfl
      · exact ca_8_0
      · exact ca_8_1) cd_8_1 cd_8_2 (fun j hj => by
      rcases (show j = 0 ∨ j = 1 by omega) with rfl | rfl
      · exact ca_8_2
      · exact ca_8_3) cd_8_3 (h_loads (6 * t) M n hR hn) hP hS hM (fun M2 H2 locs2 hR2 hM2 hP2 hS2 => next (n + 1) M2 H2 locs2 (by omega) hR2 hM2 hP2 hS2)
  · refine lv_tableIn (off := 394) (tgt := 427) hx hb dl_33 (by rw [hv]; decide) (by rw [hv]; decide) (by rw [hv]; rfl) (by decide) ?_
    exact l_case (P := fun M2 => Rl' M2 (n + 1)) (p0 := 427) (k := 2) (A := 53) (B := 56) (yc := 67) (yr := 176) (wA := 600) (wB := 1138) (lg := false) hj hx hb hml hts hK hSt hN hA hown hl.1 hf hX hbl hi hL e0 e1 e2 e3 (by decide) cm_9 cn_9 ce_9 cd_9_0 (fun j hj => by
      rcases (show j = 0 ∨ j = 1 by omega) with rfl | rfl
      · exact ca_9_0
      · exact ca_9_1) cd_9_1 cd_9_2 (fun j hj => by
      rcases (show j = 0 ∨ j = 1 by omega) with rfl | rfl
      · exact ca_9_2
      · exact ca_9_3) cd_9_3 (h_sells (6 * t) M n hR hn) hP hS hM (fun M2 H2 locs2 hR2 hM2 hP2 hS2 => next (n + 1) M2 H2 locs2 (by omega) hR2 hM2 hP2 hS2)
  · refine lv_tableIn (off := 427) (tgt := 460) hx hb dl_33 (by rw [hv]; decide) (by rw [hv]; decide) (by rw [hv]; rfl) (by decide) ?_
    exact l_case (P := fun M2 => Rl' M2 (n + 1)) (p0 := 460) (k := 1) (A := 57) (B := 60) (yc := 68) (yr := 177) (wA := 609) (wB := 1142) (lg := false) hj hx hb hml hts hK hSt hN hA hown hl.1 hf hX hbl hi hL e0 e1 e2 e3 (by decide) cm_10 cn_10 ce_10 cd_10_0 (fun j hj => by rcases (show j = 0 by omega) with rfl; exact ca_10_0) cd_10_1 cd_10_2 (fun j hj => by rcases (show j = 0 by omega) with rfl; exact ca_10_1) cd_10_3 (h_hours (6 * t) M n hR hn) hP hS hM (fun M2 H2 locs2 hR2 hM2 hP2 hS2 => next (n + 1) M2 H2 locs2 (by omega) hR2 hM2 hP2 hS2)
  · refine lv_tableIn (off := 450) (tgt := 483) hx hb dl_33 (by rw [hv]; decide) (by rw [hv]; decide) (by rw [hv]; rfl) (by decide) ?_
    exact l_case (P := fun M2 => Rl' M2 (n + 1)) (p0 := 483) (k := 0) (A := 61) (B := 64) (yc := 69) (yr := 178) (wA := 615) (wB := 1147) (lg := false) hj hx hb hml hts hK hSt hN hA hown hl.1 hf hX hbl hi hL e0 e1 e2 e3 (by decide) cm_11 cn_11 ce_11 cd_11_0 (fun j hj => absurd hj (Nat.not_lt_zero j)) cd_11_1 cd_11_2 (fun j hj => absurd hj (Nat.not_lt_zero j)) cd_11_3 (h_undo (6 * t) M n hR hn) hP hS hM (fun M2 H2 locs2 hR2 hM2 hP2 hS2 => next (n + 1) M2 H2 locs2 (by omega) hR2 hM2 hP2 hS2)
  · refine lv_tableIn (off := 463) (tgt := 496) hx hb dl_33 (by rw [hv]; decide) (by rw [hv]; decide) (by rw [hv]; rfl) (by decide) ?_
    exact l_case (P := fun M2 => Rl' M2 (n + 1)) (p0 := 496) (k := 2) (A := 65) (B := 68) (yc := 70) (yr := 179) (wA := 623) (wB := 1151) (lg := false) hj hx hb hml hts hK hSt hN hA hown hl.1 hf hX hbl hi hL e0 e1 e2 e3 (by decide) cm_12 cn_12 ce_12 cd_12_0 (fun j hj => by
      rcases (show j = 0 ∨ j = 1 by omega) with rfl | rfl
      · exact ca_12_0
      · exact ca_12_1) cd_12_1 cd_12_2 (fun j hj => by
      rcases (show j = 0 ∨ j = 1 by omega) with rfl | rfl
      · exact ca_12_2
      · exact ca_12_3) cd_12_3 (h_of (6 * t) M n hR hn) hP hS hM (fun M2 H2 locs2 hR2 hM2 hP2 hS2 => next (n + 1) M2 H2 locs2 (by omega) hR2 hM2 hP2 hS2)
  · refine lv_tableIn (off := 496) (tgt := 529) hx hb dl_33 (by rw [hv]; decide) (by rw [hv]; decide) (by rw [hv]; rfl) (by decide) ?_
    exact l_case (P := fun M2 => Rl' M2 (n + 1)) (p0 := 529) (k := 2) (A := 69) (B := 72) (yc := 71) (yr := 181) (wA := 637) (wB := 1159) (lg := false) hj hx hb hml hts hK hSt hN hA hown hl.1 hf hX hbl hi hL e0 e1 e2 e3 (by decide) cm_13 cn_13 ce_13 cd_13_0 (fun j hj => by
      rcases (show j = 0 ∨ j = 1 by omega) with rfl | rfl
      · exact ca_13_0
      · exact ca_13_1) cd_13_1 cd_13_2 (fun j hj => by
      rcases (show j = 0 ∨ j = 1 by omega) with rfl | rfl
      · exact ca_13_2
      · exact ca_13_3) cd_13_3 (h_about (6 * t) M n hR hn) hP hS hM (fun M2 H2 locs2 hR2 hM2 hP2 hS2 => next (n + 1) M2 H2 locs2 (by omega) hR2 hM2 hP2 hS2)
  · refine lv_tableIn (off := 529) (tgt := 562) hx hb dl_33 (by rw [hv]; decide) (by rw [hv]; decide) (by rw [hv]; rfl) (by decide) ?_
    exact l_case (P := fun M2 => Rl' M2 (n + 1)) (p0 := 562) (k := 2) (A := 73) (B := 76) (yc := 72) (yr := 186) (wA := 647) (wB := 1163) (lg := false) hj hx hb hml hts hK hSt hN hA hown hl.1 hf hX hbl hi hL e0 e1 e2 e3 (by decide) cm_14 cn_14 ce_14 cd_14_0 (fun j hj => by
      rcases (show j = 0 ∨ j = 1 by omega) with rfl | rfl
      · exact ca_14_0
      · exact ca_14_1) cd_14_1 cd_14_2 (fun j hj => by
      rcases (show j = 0 ∨ j = 1 by omega) with rfl | rfl
      · exact ca_14_2
      · exact ca_14_3) cd_14_3 (h_up (6 * t) M n hR hn) hP hS hM (fun M2 H2 locs2 hR2 hM2 hP2 hS2 => next (n + 1) M2 H2 locs2 (by omega) hR2 hM2 hP2 hS2)
  · refine lv_tableIn (off := 562) (tgt := 595) hx hb dl_33 (by rw [hv]; decide) (by rw [hv]; decide) (by rw [hv]; rfl) (by decide) ?_
    exact l_case (P := fun M2 => Rl' M2 (n + 1)) (p0 := 595) (k := 0) (A := 77) (B := 80) (yc := 73) (yr := 187) (wA := 675) (wB := 1183) (lg := false) hj hx hb hml hts hK hSt hN hA hown hl.1 hf hX hbl hi hL e0 e1 e2 e3 (by decide) cm_15 cn_15 ce_15 cd_15_0 (fun j hj => absurd hj (Nat.not_lt_zero j)) cd_15_1 cd_15_2 (fun j hj => absurd hj (Nat.not_lt_zero j)) cd_15_3 (h_stuck (6 * t) M n hR hn) hP hS hM (fun M2 H2 locs2 hR2 hM2 hP2 hS2 => next (n + 1) M2 H2 locs2 (by omega) hR2 hM2 hP2 hS2)
  · refine lv_tableIn (off := 575) (tgt := 608) hx hb dl_33 (by rw [hv]; decide) (by rw [hv]; decide) (by rw [hv]; rfl) (by decide) ?_
    exact l_case (P := fun M2 => Rl' M2 (n + 1)) (p0 := 608) (k := 2) (A := 81) (B := 84) (yc := 74) (yr := 188) (wA := 680) (wB := 1187) (lg := false) hj hx hb hml hts hK hSt hN hA hown hl.1 hf hX hbl hi hL e0 e1 e2 e3 (by decide) cm_16 cn_16 ce_16 cd_16_0 (fun j hj => by
      rcases (show j = 0 ∨ j = 1 by omega) with rfl | rfl
      · exact ca_16_0
      · exact ca_16_1) cd_16_1 cd_16_2 (fun j hj => by
      rcases (show j = 0 ∨ j = 1 by omega) with rfl | rfl
      · exact ca_16_2
      · exact ca_16_3) cd_16_3 (h_soon (6 * t) M n hR hn) hP hS hM (fun M2 H2 locs2 hR2 hM2 hP2 hS2 => next (n + 1) M2 H2 locs2 (by omega) hR2 hM2 hP2 hS2)
  · refine lv_tableIn (off := 608) (tgt := 641) hx hb dl_33 (by rw [hv]; decide) (by rw [hv]; decide) (by rw [hv]; rfl) (by decide) ?_
    exact l_case (P := fun M2 => Rl' M2 (n + 1)) (p0 := 641) (k := 2) (A := 85) (B := 88) (yc := 75) (yr := 189) (wA := 686) (wB := 1191) (lg := false) hj hx hb hml hts hK hSt hN hA hown hl.1 hf hX hbl hi hL e0 e1 e2 e3 (by decide) cm_17 cn_17 ce_17 cd_17_0 (fun j hj => by
      rcases (show j = 0 ∨ j = 1 by omega) with rfl | rfl
      · exact ca_17_0
      · exact ca_17_1) cd_17_1 cd_17_2 (fun j hj => by
      rcases (show j = 0 ∨ j = 1 by omega) with rfl | rfl
      · exact ca_17_2
      · exact ca_17_3) cd_17_3 (h_site (6 * t) M n hR hn) hP hS hM (fun M2 H2 locs2 hR2 hM2 hP2 hS2 => next (n + 1) M2 H2 locs2 (by omega) hR2 hM2 hP2 hS2)
  · refine lv_tableIn (off := 641) (tgt := 674) hx hb dl_33 (by rw [hv]; decide) (by rw [hv]; decide) (by rw [hv]; rfl) (by decide) ?_
    exact l_case (P := fun M2 => Rl' M2 (n + 1)) (p0 := 674) (k := 2) (A := 89) (B := 92) (yc := 77) (yr := 191) (wA := 696) (wB := 1195) (lg := false) hj hx hb hml hts hK hSt hN hA hown hl.1 hf hX hbl hi hL e0 e1 e2 e3 (by decide) cm_18 cn_18 ce_18 cd_18_0 (fun j hj => by
      rcases (show j = 0 ∨ j = 1 by omega) with rfl | rfl
      · exact ca_18_0
      · exact ca_18_1) cd_18_1 cd_18_2 (fun j hj => by
      rcases (show j = 0 ∨ j = 1 by omega) with rfl | rfl
      · exact ca_18_2
      · exact ca_18_3) cd_18_3 (h_meets (6 * t) M n hR hn) hP hS hM (fun M2 H2 locs2 hR2 hM2 hP2 hS2 => next (n + 1) M2 H2 locs2 (by omega) hR2 hM2 hP2 hS2)
  · refine lv_tableIn (off := 674) (tgt := 707) hx hb dl_33 (by rw [hv]; decide) (by rw [hv]; decide) (by rw [hv]; rfl) (by decide) ?_
    exact l_case (P := fun M2 => Rl' M2 (n + 1)) (p0 := 707) (k := 4) (A := 93) (B := 97) (yc := 78) (yr := 192) (wA := 700) (wB := 1203) (lg := false) hj hx hb hml hts hK hSt hN hA hown hl.1 hf hX hbl hi hL e0 e1 e2 e3 (by decide) cm_19 cn_19 ce_19 cd_19_0 (fun j hj => by
      rcases (show j = 0 ∨ j = 1 ∨ j = 2 ∨ j = 3 by omega) with rfl | rfl | rfl | rfl
      · exact ca_19_0
      · exact ca_19_1
      · exact ca_19_2
      · exact ca_19_3) cd_19_1 cd_19_2 (fun j hj => by
      rcases (show j = 0 ∨ j = 1 ∨ j = 2 ∨ j = 3 by omega) with rfl | rfl | rfl | rfl
      · exact ca_19_4
      · exact ca_19_5
      · exact ca_19_6
      · exact ca_19_7) cd_19_3 (h_seen (6 * t) M n hR hn) hP hS hM (fun M2 H2 locs2 hR2 hM2 hP2 hS2 => next (n + 1) M2 H2 locs2 (by omega) hR2 hM2 hP2 hS2)
  · refine lv_tableIn (off := 727) (tgt := 760) hx hb dl_33 (by rw [hv]; decide) (by rw [hv]; decide) (by rw [hv]; rfl) (by decide) ?_
    exact l_case (P := fun M2 => Rl' M2 (n + 1)) (p0 := 760) (k := 1) (A := 98) (B := 101) (yc := 79) (yr := 195) (wA := 721) (wB := 1211) (lg := false) hj hx hb hml hts hK hSt hN hA hown hl.1 hf hX hbl hi hL e0 e1 e2 e3 (by decide) cm_20 cn_20 ce_20 cd_20_0 (fun j hj => by rcases (show j = 0 by omega) with rfl; exact ca_20_0) cd_20_1 cd_20_2 (fun j hj => by rcases (show j = 0 by omega) with rfl; exact ca_20_1) cd_20_3 (h_whose (6 * t) M n hR hn) hP hS hM (fun M2 H2 locs2 hR2 hM2 hP2 hS2 => next (n + 1) M2 H2 locs2 (by omega) hR2 hM2 hP2 hS2)
  · refine lv_tableIn (off := 750) (tgt := 783) hx hb dl_33 (by rw [hv]; decide) (by rw [hv]; decide) (by rw [hv]; rfl) (by decide) ?_
    exact l_case (P := fun M2 => Rl' M2 (n + 1)) (p0 := 783) (k := 1) (A := 102) (B := 105) (yc := 80) (yr := 196) (wA := 737) (wB := 1223) (lg := false) hj hx hb hml hts hK hSt hN hA hown hl.1 hf hX hbl hi hL e0 e1 e2 e3 (by decide) cm_21 cn_21 ce_21 cd_21_0 (fun j hj => by rcases (show j = 0 by omega) with rfl; exact ca_21_0) cd_21_1 cd_21_2 (fun j hj => by rcases (show j = 0 by omega) with rfl; exact ca_21_1) cd_21_3 (h_tell (6 * t) M n hR hn) hP hS hM (fun M2 H2 locs2 hR2 hM2 hP2 hS2 => next (n + 1) M2 H2 locs2 (by omega) hR2 hM2 hP2 hS2)
  · refine lv_tableIn (off := 773) (tgt := 806) hx hb dl_33 (by rw [hv]; decide) (by rw [hv]; decide) (by rw [hv]; rfl) (by decide) ?_
    exact l_case (P := fun M2 => Rl' M2 (n + 1)) (p0 := 806) (k := 3) (A := 106) (B := 109) (yc := 82) (yr := 197) (wA := 747) (wB := 1227) (lg := false) hj hx hb hml hts hK hSt hN hA hown hl.1 hf hX hbl hi hL e0 e1 e2 e3 (by decide) cm_22 cn_22 ce_22 cd_22_0 (fun j hj => by
      rcases (show j = 0 ∨ j = 1 ∨ j = 2 by omega) with rfl | rfl | rfl
      · exact ca_22_0
      · exact ca_22_1
      · exact ca_22_2) cd_22_1 cd_22_2 (fun j hj => by
      rcases (show j = 0 ∨ j = 1 ∨ j = 2 by omega) with rfl | rfl | rfl
      · exact ca_22_3
      · exact ca_22_4
      · exact ca_22_5) cd_22_3 (h_note (6 * t) M n hR hn) hP hS hM (fun M2 H2 locs2 hR2 hM2 hP2 hS2 => next (n + 1) M2 H2 locs2 (by omega) hR2 hM2 hP2 hS2)
  · refine lv_tableIn (off := 816) (tgt := 849) hx hb dl_33 (by rw [hv]; decide) (by rw [hv]; decide) (by rw [hv]; rfl) (by decide) ?_
    exact l_case (P := fun M2 => Rl' M2 (n + 1)) (p0 := 849) (k := 5) (A := 110) (B := 114) (yc := 83) (yr := 198) (wA := 751) (wB := 1231) (lg := false) hj hx hb hml hts hK hSt hN hA hown hl.1 hf hX hbl hi hL e0 e1 e2 e3 (by decide) cm_23 cn_23 ce_23 cd_23_0 (fun j hj => by
      rcases (show j = 0 ∨ j = 1 ∨ j = 2 ∨ j = 3 ∨ j = 4 by omega) with rfl | rfl | rfl | rfl | rfl
      · exact ca_23_0
      · exact ca_23_1
      · exact ca_23_2
      · exact ca_23_3
      · exact ca_23_4) cd_23_1 cd_23_2 (fun j hj => by
      rcases (show j = 0 ∨ j = 1 ∨ j = 2 ∨ j = 3 ∨ j = 4 by omega) with rfl | rfl | rfl | rfl | rfl
      · exact ca_23_5
      · exact ca_23_6
      · exact ca_23_7
      · exact ca_23_8
      · exact ca_23_9) cd_23_3 (h_mark (6 * t) M n hR hn) hP hS hM (fun M2 H2 locs2 hR2 hM2 hP2 hS2 => next (n + 1) M2 H2 locs2 (by omega) hR2 hM2 hP2 hS2)
  · refine lv_tableIn (off := 879) (tgt := 912) hx hb dl_33 (by rw [hv]; decide) (by rw [hv]; decide) (by rw [hv]; rfl) (by decide) ?_
    exact l_case (P := fun M2 => Rl' M2 (n + 1)) (p0 := 912) (k := 1) (A := 115) (B := 118) (yc := 84) (yr := 199) (wA := 755) (wB := 1235) (lg := false) hj hx hb hml hts hK hSt hN hA hown hl.1 hf hX hbl hi hL e0 e1 e2 e3 (by decide) cm_24 cn_24 ce_24 cd_24_0 (fun j hj => by rcases (show j = 0 by omega) with rfl; exact ca_24_0) cd_24_1 cd_24_2 (fun j hj => by rcases (show j = 0 by omega) with rfl; exact ca_24_1) cd_24_3 (h_forget (6 * t) M n hR hn) hP hS hM (fun M2 H2 locs2 hR2 hM2 hP2 hS2 => next (n + 1) M2 H2 locs2 (by omega) hR2 hM2 hP2 hS2)
  · refine lv_tableIn (off := 902) (tgt := 935) hx hb dl_33 (by rw [hv]; decide) (by rw [hv]; decide) (by rw [hv]; rfl) (by decide) ?_
    exact l_case (P := fun M2 => Rl' M2 (n + 1)) (p0 := 935) (k := 1) (A := 119) (B := 122) (yc := 85) (yr := 202) (wA := 760) (wB := 1239) (lg := false) hj hx hb hml hts hK hSt hN hA hown hl.1 hf hX hbl hi hL e0 e1 e2 e3 (by decide) cm_25 cn_25 ce_25 cd_25_0 (fun j hj => by rcases (show j = 0 by omega) with rfl; exact ca_25_0) cd_25_1 cd_25_2 (fun j hj => by rcases (show j = 0 by omega) with rfl; exact ca_25_1) cd_25_3 (h_is (6 * t) M n hR hn) hP hS hM (fun M2 H2 locs2 hR2 hM2 hP2 hS2 => next (n + 1) M2 H2 locs2 (by omega) hR2 hM2 hP2 hS2)
  · refine lv_tableIn (off := 925) (tgt := 958) hx hb dl_33 (by rw [hv]; decide) (by rw [hv]; decide) (by rw [hv]; rfl) (by decide) ?_
    exact l_case (P := fun M2 => Rl' M2 (n + 1)) (p0 := 958) (k := 1) (A := 123) (B := 126) (yc := 86) (yr := 203) (wA := 772) (wB := 1251) (lg := false) hj hx hb hml hts hK hSt hN hA hown hl.1 hf hX hbl hi hL e0 e1 e2 e3 (by decide) cm_26 cn_26 ce_26 cd_26_0 (fun j hj => by rcases (show j = 0 by omega) with rfl; exact ca_26_0) cd_26_1 cd_26_2 (fun j hj => by rcases (show j = 0 by omega) with rfl; exact ca_26_1) cd_26_3 (h_look (6 * t) M n hR hn) hP hS hM (fun M2 H2 locs2 hR2 hM2 hP2 hS2 => next (n + 1) M2 H2 locs2 (by omega) hR2 hM2 hP2 hS2)
  · refine lv_tableIn (off := 948) (tgt := 981) hx hb dl_33 (by rw [hv]; decide) (by rw [hv]; decide) (by rw [hv]; rfl) (by decide) ?_
    exact l_case (P := fun M2 => Rl' M2 (n + 1)) (p0 := 981) (k := 1) (A := 127) (B := 130) (yc := 91) (yr := 206) (wA := 787) (wB := 1255) (lg := false) hj hx hb hml hts hK hSt hN hA hown hl.1 hf hX hbl hi hL e0 e1 e2 e3 (by decide) cm_27 cn_27 ce_27 cd_27_0 (fun j hj => by rcases (show j = 0 by omega) with rfl; exact ca_27_0) cd_27_1 cd_27_2 (fun j hj => by rcases (show j = 0 by omega) with rfl; exact ca_27_1) cd_27_3 (h_kinds (6 * t) M n hR hn) hP hS hM (fun M2 H2 locs2 hR2 hM2 hP2 hS2 => next (n + 1) M2 H2 locs2 (by omega) hR2 hM2 hP2 hS2)
  · refine lv_tableIn (off := 971) (tgt := 1004) hx hb dl_33 (by rw [hv]; decide) (by rw [hv]; decide) (by rw [hv]; rfl) (by decide) ?_
    exact l_case (P := fun M2 => Rl' M2 (n + 1)) (p0 := 1004) (k := 1) (A := 131) (B := 134) (yc := 92) (yr := 207) (wA := 800) (wB := 1267) (lg := false) hj hx hb hml hts hK hSt hN hA hown hl.1 hf hX hbl hi hL e0 e1 e2 e3 (by decide) cm_28 cn_28 ce_28 cd_28_0 (fun j hj => by rcases (show j = 0 by omega) with rfl; exact ca_28_0) cd_28_1 cd_28_2 (fun j hj => by rcases (show j = 0 by omega) with rfl; exact ca_28_1) cd_28_3 (h_ask (6 * t) M n hR hn) hP hS hM (fun M2 H2 locs2 hR2 hM2 hP2 hS2 => next (n + 1) M2 H2 locs2 (by omega) hR2 hM2 hP2 hS2)
  · refine lv_tableIn (off := 994) (tgt := 1027) hx hb dl_33 (by rw [hv]; decide) (by rw [hv]; decide) (by rw [hv]; rfl) (by decide) ?_
    exact l_case (P := fun M2 => Rl' M2 (n + 1)) (p0 := 1027) (k := 2) (A := 135) (B := 138) (yc := 96) (yr := 209) (wA := 809) (wB := 1271) (lg := false) hj hx hb hml hts hK hSt hN hA hown hl.1 hf hX hbl hi hL e0 e1 e2 e3 (by decide) cm_29 cn_29 ce_29 cd_29_0 (fun j hj => by
      rcases (show j = 0 ∨ j = 1 by omega) with rfl | rfl
      · exact ca_29_0
      · exact ca_29_1) cd_29_1 cd_29_2 (fun j hj => by
      rcases (show j = 0 ∨ j = 1 by omega) with rfl | rfl
      · exact ca_29_2
      · exact ca_29_3) cd_29_3 (h_gap (6 * t) M n hR hn) hP hS hM (fun M2 H2 locs2 hR2 hM2 hP2 hS2 => next (n + 1) M2 H2 locs2 (by omega) hR2 hM2 hP2 hS2)
  · refine lv_tableIn (off := 1027) (tgt := 1060) hx hb dl_33 (by rw [hv]; decide) (by rw [hv]; decide) (by rw [hv]; rfl) (by decide) ?_
    exact l_case (P := fun M2 => Rl' M2 (n + 1)) (p0 := 1060) (k := 3) (A := 139) (B := 142) (yc := 99) (yr := 211) (wA := 821) (wB := 1278) (lg := false) hj hx hb hml hts hK hSt hN hA hown hl.1 hf hX hbl hi hL e0 e1 e2 e3 (by decide) cm_30 cn_30 ce_30 cd_30_0 (fun j hj => by
      rcases (show j = 0 ∨ j = 1 ∨ j = 2 by omega) with rfl | rfl | rfl
      · exact ca_30_0
      · exact ca_30_1
      · exact ca_30_2) cd_30_1 cd_30_2 (fun j hj => by
      rcases (show j = 0 ∨ j = 1 ∨ j = 2 by omega) with rfl | rfl | rfl
      · exact ca_30_3
      · exact ca_30_4
      · exact ca_30_5) cd_30_3 (h_dark (6 * t) M n hR hn) hP hS hM (fun M2 H2 locs2 hR2 hM2 hP2 hS2 => next (n + 1) M2 H2 locs2 (by omega) hR2 hM2 hP2 hS2)
  · refine lv_tableIn (off := 1070) (tgt := 1103) hx hb dl_33 (by rw [hv]; decide) (by rw [hv]; decide) (by rw [hv]; rfl) (by decide) ?_
    exact l_case (P := fun M2 => Rl' M2 (n + 1)) (p0 := 1103) (k := 2) (A := 143) (B := 146) (yc := 105) (yr := 212) (wA := 845) (wB := 1287) (lg := false) hj hx hb hml hts hK hSt hN hA hown hl.1 hf hX hbl hi hL e0 e1 e2 e3 (by decide) cm_31 cn_31 ce_31 cd_31_0 (fun j hj => by
      rcases (show j = 0 ∨ j = 1 by omega) with rfl | rfl
      · exact ca_31_0
      · exact ca_31_1) cd_31_1 cd_31_2 (fun j hj => by
      rcases (show j = 0 ∨ j = 1 by omega) with rfl | rfl
      · exact ca_31_2
      · exact ca_31_3) cd_31_3 (h_years (6 * t) M n hR hn) hP hS hM (fun M2 H2 locs2 hR2 hM2 hP2 hS2 => next (n + 1) M2 H2 locs2 (by omega) hR2 hM2 hP2 hS2)
  · refine lv_tableIn (off := 1103) (tgt := 1136) hx hb dl_33 (by rw [hv]; decide) (by rw [hv]; decide) (by rw [hv]; rfl) (by decide) ?_
    exact l_case (P := fun M2 => Rl' M2 (n + 1)) (p0 := 1136) (k := 1) (A := 147) (B := 151) (yc := 107) (yr := 213) (wA := 861) (wB := 1298) (lg := true) hj hx hb hml hts hK hSt hN hA hown hl.1 hf hX hbl hi hL e0 e1 e2 e3 (by decide) cm_32 cn_32 ce_32 cd_32_0 (fun j hj => by rcases (show j = 0 by omega) with rfl; exact ca_32_0) cd_32_1 cd_32_2 (fun j hj => by rcases (show j = 0 by omega) with rfl; exact ca_32_1) cd_32_3 (h_part (6 * t) M n hR hn) hP hS hM (fun M2 H2 locs2 hR2 hM2 hP2 hS2 => next (n + 1) M2 H2 locs2 (by omega) hR2 hM2 hP2 hS2)
  · refine lv_tableIn (off := 1127) (tgt := 1160) hx hb dl_33 (by rw [hv]; decide) (by rw [hv]; decide) (by rw [hv]; rfl) (by decide) ?_
    exact l_case (P := fun M2 => Rl' M2 (n + 1)) (p0 := 1160) (k := 1) (A := 152) (B := 155) (yc := 108) (yr := 214) (wA := 865) (wB := 1302) (lg := false) hj hx hb hml hts hK hSt hN hA hown hl.1 hf hX hbl hi hL e0 e1 e2 e3 (by decide) cm_33 cn_33 ce_33 cd_33_0 (fun j hj => by rcases (show j = 0 by omega) with rfl; exact ca_33_0) cd_33_1 cd_33_2 (fun j hj => by rcases (show j = 0 by omega) with rfl; exact ca_33_1) cd_33_3 (h_image (6 * t) M n hR hn) hP hS hM (fun M2 H2 locs2 hR2 hM2 hP2 hS2 => next (n + 1) M2 H2 locs2 (by omega) hR2 hM2 hP2 hS2)
  · refine lv_tableIn (off := 1150) (tgt := 1183) hx hb dl_33 (by rw [hv]; decide) (by rw [hv]; decide) (by rw [hv]; rfl) (by decide) ?_
    exact l_case (P := fun M2 => Rl' M2 (n + 1)) (p0 := 1183) (k := 1) (A := 156) (B := 159) (yc := 109) (yr := 215) (wA := 869) (wB := 1306) (lg := false) hj hx hb hml hts hK hSt hN hA hown hl.1 hf hX hbl hi hL e0 e1 e2 e3 (by decide) cm_34 cn_34 ce_34 cd_34_0 (fun j hj => by rcases (show j = 0 by omega) with rfl; exact ca_34_0) cd_34_1 cd_34_2 (fun j hj => by rcases (show j = 0 by omega) with rfl; exact ca_34_1) cd_34_3 (h_from (6 * t) M n hR hn) hP hS hM (fun M2 H2 locs2 hR2 hM2 hP2 hS2 => next (n + 1) M2 H2 locs2 (by omega) hR2 hM2 hP2 hS2)
  · refine lv_tableIn (off := 1173) (tgt := 1206) hx hb dl_33 (by rw [hv]; decide) (by rw [hv]; decide) (by rw [hv]; rfl) (by decide) ?_
    exact l_case (P := fun M2 => Rl' M2 (n + 1)) (p0 := 1206) (k := 1) (A := 160) (B := 163) (yc := 110) (yr := 216) (wA := 873) (wB := 1310) (lg := false) hj hx hb hml hts hK hSt hN hA hown hl.1 hf hX hbl hi hL e0 e1 e2 e3 (by decide) cm_35 cn_35 ce_35 cd_35_0 (fun j hj => by rcases (show j = 0 by omega) with rfl; exact ca_35_0) cd_35_1 cd_35_2 (fun j hj => by rcases (show j = 0 by omega) with rfl; exact ca_35_1) cd_35_3 (h_status (6 * t) M n hR hn) hP hS hM (fun M2 H2 locs2 hR2 hM2 hP2 hS2 => next (n + 1) M2 H2 locs2 (by omega) hR2 hM2 hP2 hS2)
  · refine lv_tableIn (off := 1196) (tgt := 1229) hx hb dl_33 (by rw [hv]; decide) (by rw [hv]; decide) (by rw [hv]; rfl) (by decide) ?_
    exact l_case (P := fun M2 => Rl' M2 (n + 1)) (p0 := 1229) (k := 1) (A := 164) (B := 167) (yc := 111) (yr := 219) (wA := 877) (wB := 1314) (lg := false) hj hx hb hml hts hK hSt hN hA hown hl.1 hf hX hbl hi hL e0 e1 e2 e3 (by decide) cm_36 cn_36 ce_36 cd_36_0 (fun j hj => by rcases (show j = 0 by omega) with rfl; exact ca_36_0) cd_36_1 cd_36_2 (fun j hj => by rcases (show j = 0 by omega) with rfl; exact ca_36_1) cd_36_3 (h_count (6 * t) M n hR hn) hP hS hM (fun M2 H2 locs2 hR2 hM2 hP2 hS2 => next (n + 1) M2 H2 locs2 (by omega) hR2 hM2 hP2 hS2)
  · refine lv_tableIn (off := 1219) (tgt := 1252) hx hb dl_33 (by rw [hv]; decide) (by rw [hv]; decide) (by rw [hv]; rfl) (by decide) ?_
    exact l_case (P := fun M2 => Rl' M2 (n + 1)) (p0 := 1252) (k := 0) (A := 168) (B := 172) (yc := 113) (yr := 222) (wA := 890) (wB := 1326) (lg := true) hj hx hb hml hts hK hSt hN hA hown hl.1 hf hX hbl hi hL e0 e1 e2 e3 (by decide) cm_37 cn_37 ce_37 cd_37_0 (fun j hj => absurd hj (Nat.not_lt_zero j)) cd_37_1 cd_37_2 (fun j hj => absurd hj (Nat.not_lt_zero j)) cd_37_3 (h_digest (6 * t) M n hR hn) hP hS hM (fun M2 H2 locs2 hR2 hM2 hP2 hS2 => next (n + 1) M2 H2 locs2 (by omega) hR2 hM2 hP2 hS2)
end LOOP
