/-! CHECKS, decided by the kernel: the tables are the code, and what they name stands among the words of the claim -/
/-- what the tables say of an instruction, beside its bytes -/
def mst (y pc : Nat) (e : mE) : Bool := match e.1 with
  | .iconst n => (Int32.ofInt n == e.2.2.2.2) && Nat.beq e.2.1 (pc + 1)
  | .bipush n => ((Int8.ofInt n).toInt32 == e.2.2.2.2) && Nat.beq e.2.1 (pc + 2)
  | .sipush n => ((Int16.ofInt n).toInt32 == e.2.2.2.2) && Nat.beq e.2.1 (pc + 3)
  | .aconst_null => Nat.beq e.2.1 (pc + 1)
  | .iload_n _ => Nat.beq e.2.1 (pc + 1)
  | .iload _ => Nat.beq e.2.1 (pc + 2)
  | .aload_n _ => Nat.beq e.2.1 (pc + 1)
  | .aload _ => Nat.beq e.2.1 (pc + 2)
  | .istore_n _ => Nat.beq e.2.1 (pc + 1)
  | .istore _ => Nat.beq e.2.1 (pc + 2)
  | .astore_n _ => Nat.beq e.2.1 (pc + 1)
  | .astore _ => Nat.beq e.2.1 (pc + 2)
  | .iinc _ n => (Int32.ofInt n == e.2.2.2.2) && Nat.beq e.2.1 (pc + 3)
  | .iadd => Nat.beq e.2.1 (pc + 1)
  | .isub => Nat.beq e.2.1 (pc + 1)
  | .imul => Nat.beq e.2.1 (pc + 1)
  | .iand => Nat.beq e.2.1 (pc + 1)
  | .ior => Nat.beq e.2.1 (pc + 1)
  | .ixor => Nat.beq e.2.1 (pc + 1)
  | .ishl => Nat.beq e.2.1 (pc + 1)
  | .ishr => Nat.beq e.2.1 (pc + 1)
  | .iushr => Nat.beq e.2.1 (pc + 1)
  | .dup => Nat.beq e.2.1 (pc + 1)
  | .dup_x1 => Nat.beq e.2.1 (pc + 1)
  | .dup_x2 => Nat.beq e.2.1 (pc + 1)
  | .dup2 => Nat.beq e.2.1 (pc + 1)
  | .goto o => ((pc : Int) + o == (e.2.2.1 : Int)) && Nat.beq e.2.1 (pc + 3)
  | .ifCond _ o => ((pc : Int) + o == (e.2.2.1 : Int)) && Nat.beq e.2.1 (pc + 3)
  | .if_icmp _ o => ((pc : Int) + o == (e.2.2.1 : Int)) && Nat.beq e.2.1 (pc + 3)
  | .if_acmp _ o => ((pc : Int) + o == (e.2.2.1 : Int)) && Nat.beq e.2.1 (pc + 3)
  | .ifnull o => ((pc : Int) + o == (e.2.2.1 : Int)) && Nat.beq e.2.1 (pc + 3)
  | .ifnonnull o => ((pc : Int) + o == (e.2.2.1 : Int)) && Nat.beq e.2.1 (pc + 3)
  | .tableswitch df _ _ offs => decide (0 ≤ (pc : Int) + df) && offs.toList.all (fun o => decide (0 ≤ (pc : Int) + o))
  | .lookupswitch df ps => (decide (0 ≤ (pc : Int) + df) && ps.toList.all (fun o => decide (0 ≤ (pc : Int) + o.2))) && (ps.toList.zip (ps.toList.drop 1)).all (fun (a, next) => decide (a.1 < next.1))
  | .getfield i => mFr.contains (mOwn y, i, e.2.2.1, e.2.2.2.1) && Nat.beq e.2.1 (pc + 3)
  | .putfield i => mFr.contains (mOwn y, i, e.2.2.1, e.2.2.2.1) && Nat.beq e.2.1 (pc + 3) && (!(mT e.2.2.1 e.2.2.2.1).2.2.2 || (Nat.beq (mOwn y) e.2.2.1 && decide ((mName y).name = "<init>")))
  | .iaload => Nat.beq e.2.1 (pc + 1)
  | .baload => Nat.beq e.2.1 (pc + 1)
  | .aaload => Nat.beq e.2.1 (pc + 1)
  | .iastore => Nat.beq e.2.1 (pc + 1)
  | .bastore => Nat.beq e.2.1 (pc + 1)
  | .aastore => Nat.beq e.2.1 (pc + 1)
  | .arraylength => Nat.beq e.2.1 (pc + 1)
  | .new i => mCr.contains (mOwn y, i, e.2.2.1) && Nat.beq e.2.1 (pc + 3)
  | .newarray t => (match t with | .int => Nat.beq e.2.2.1 0 | .boolean => Nat.beq e.2.2.1 1 | _ => false) && Nat.beq e.2.1 (pc + 2)
  | .anewarray i => mCr.contains (mOwn y, i, mAc e.2.2.1) && (Nat.ble 2 e.2.2.1 && Nat.ble e.2.2.1 6) && Nat.beq e.2.1 (pc + 3)
  | .invokespecial i => (bif Nat.beq e.2.2.1 1000 then mOr.contains (mOwn y, i) else ((mMr.contains (mOwn y, i, e.2.2.1, 1) || mNr.contains (mOwn y, i, e.2.2.1, 1)) && Nat.beq (mArg e.2.2.1) e.2.2.2.1)) && Nat.beq e.2.1 (pc + 3)
  | .invokevirtual i => mMr.contains (mOwn y, i, e.2.2.1, 0) && Nat.beq (mArg e.2.2.1) e.2.2.2.1 && Nat.beq e.2.1 (pc + 3)
  | .invokestatic i => (bif Nat.beq e.2.2.1 1001 then (Nat.beq (mOwn y) 6 && Nat.beq i 61) else ((mMr.contains (mOwn y, i, e.2.2.1, 2) || mNr.contains (mOwn y, i, e.2.2.1, 2)) && Nat.beq (mArg e.2.2.1) e.2.2.2.1)) && Nat.beq e.2.1 (pc + 3)
  | .ireturn => (decide (mRet y = some .int) && Nat.beq e.2.2.1 0 || decide (mRet y = some .boolean) && Nat.beq e.2.2.1 1) && Nat.beq e.2.1 (pc + 1)
  | .areturn => (match mRet y with | some (.object _) => true | _ => false) && Nat.beq e.2.1 (pc + 1)
  | .return_ => (match mRet y with | none => true | _ => false) && Nat.beq e.2.1 (pc + 1)
  | _ => false
def mchk (y pc : Nat) : Bool := match mtree y pc with
  | none => true
  | some e => decide (decode (mCode y) pc = .ok (e.1, e.2.1 - pc)) && mst y pc e
theorem mck_0 : (List.range (mlast 0 + 1)).all (mchk 0) = true := by decide +kernel
theorem mck_1 : (List.range (mlast 1 + 1)).all (mchk 1) = true := by decide +kernel
theorem mck_2 : (List.range (mlast 2 + 1)).all (mchk 2) = true := by decide +kernel
theorem mck_3 : (List.range (mlast 3 + 1)).all (mchk 3) = true := by decide +kernel
theorem mck_4 : (List.range (mlast 4 + 1)).all (mchk 4) = true := by decide +kernel
theorem mck_5 : (List.range (mlast 5 + 1)).all (mchk 5) = true := by decide +kernel
theorem mck_6 : (List.range (mlast 6 + 1)).all (mchk 6) = true := by decide +kernel
theorem mck_7 : (List.range (mlast 7 + 1)).all (mchk 7) = true := by decide +kernel
theorem mck_8 : (List.range (mlast 8 + 1)).all (mchk 8) = true := by decide +kernel
theorem mck_9 : (List.range (mlast 9 + 1)).all (mchk 9) = true := by decide +kernel
theorem mck_10 : (List.range (mlast 10 + 1)).all (mchk 10) = true := by decide +kernel
theorem mck_11 : (List.range (mlast 11 + 1)).all (mchk 11) = true := by decide +kernel
theorem mck_12 : (List.range (mlast 12 + 1)).all (mchk 12) = true := by decide +kernel
theorem mck_13 : (List.range (mlast 13 + 1)).all (mchk 13) = true := by decide +kernel
theorem mck_14 : (List.range (mlast 14 + 1)).all (mchk 14) = true := by decide +kernel
theorem mck_15 : (List.range (mlast 15 + 1)).all (mchk 15) = true := by decide +kernel
theorem mck_16 : (List.range (mlast 16 + 1)).all (mchk 16) = true := by decide +kernel
theorem mck_17 : (List.range (mlast 17 + 1)).all (mchk 17) = true := by decide +kernel
theorem mck_18 : (List.range (mlast 18 + 1)).all (mchk 18) = true := by decide +kernel
theorem mck_19 : (List.range (mlast 19 + 1)).all (mchk 19) = true := by decide +kernel
theorem mck_20 : (List.range (mlast 20 + 1)).all (mchk 20) = true := by decide +kernel
theorem mck_21 : (List.range (mlast 21 + 1)).all (mchk 21) = true := by decide +kernel
theorem mck_22 : (List.range (mlast 22 + 1)).all (mchk 22) = true := by decide +kernel
theorem mck_23 : (List.range (mlast 23 + 1)).all (mchk 23) = true := by decide +kernel
theorem mck_24 : (List.range (mlast 24 + 1)).all (mchk 24) = true := by decide +kernel
theorem mck_25 : (List.range (mlast 25 + 1)).all (mchk 25) = true := by decide +kernel
theorem mck_26 : (List.range (mlast 26 + 1)).all (mchk 26) = true := by decide +kernel
theorem mck_27 : (List.range (mlast 27 + 1)).all (mchk 27) = true := by decide +kernel
theorem mck_28 : (List.range (mlast 28 + 1)).all (mchk 28) = true := by decide +kernel
theorem mck_29 : (List.range (mlast 29 + 1)).all (mchk 29) = true := by decide +kernel
theorem mck_30 : (List.range (mlast 30 + 1)).all (mchk 30) = true := by decide +kernel
theorem mck_31 : (List.range (mlast 31 + 1)).all (mchk 31) = true := by decide +kernel
theorem mck_32 : (List.range (mlast 32 + 1)).all (mchk 32) = true := by decide +kernel
theorem mck_33 : (List.range (mlast 33 + 1)).all (mchk 33) = true := by decide +kernel
theorem mck_34 : (List.range (mlast 34 + 1)).all (mchk 34) = true := by decide +kernel
theorem mck_35 : (List.range (mlast 35 + 1)).all (mchk 35) = true := by decide +kernel
theorem mck_36 : (List.range (mlast 36 + 1)).all (mchk 36) = true := by decide +kernel
theorem mck_37 : (List.range (mlast 37 + 1)).all (mchk 37) = true := by decide +kernel
theorem mck_38 : (List.range (mlast 38 + 1)).all (mchk 38) = true := by decide +kernel
theorem mck_39 : (List.range (mlast 39 + 1)).all (mchk 39) = true := by decide +kernel
theorem mck_40 : (List.range (mlast 40 + 1)).all (mchk 40) = true := by decide +kernel
theorem mck_41 : (List.range (mlast 41 + 1)).all (mchk 41) = true := by decide +kernel
theorem mck_42 : (List.range (mlast 42 + 1)).all (mchk 42) = true := by decide +kernel
theorem mck_43 : (List.range (mlast 43 + 1)).all (mchk 43) = true := by decide +kernel
theorem mck_44 : (List.range (mlast 44 + 1)).all (mchk 44) = true := by decide +kernel
theorem mck_45 : (List.range (mlast 45 + 1)).all (mchk 45) = true := by decide +kernel
theorem mck_46 : (List.range (mlast 46 + 1)).all (mchk 46) = true := by decide +kernel
theorem mck_47 : (List.range (mlast 47 + 1)).all (mchk 47) = true := by decide +kernel
theorem mck_48 : (List.range (mlast 48 + 1)).all (mchk 48) = true := by decide +kernel
theorem mck_49 : (List.range (mlast 49 + 1)).all (mchk 49) = true := by decide +kernel
theorem mck_50 : (List.range (mlast 50 + 1)).all (mchk 50) = true := by decide +kernel
theorem mck_51 : (List.range (mlast 51 + 1)).all (mchk 51) = true := by decide +kernel
theorem mck_52 : (List.range (mlast 52 + 1)).all (mchk 52) = true := by decide +kernel
theorem mck_53 : (List.range (mlast 53 + 1)).all (mchk 53) = true := by decide +kernel
theorem mck_54 : (List.range (mlast 54 + 1)).all (mchk 54) = true := by decide +kernel
theorem mck_55 : (List.range (mlast 55 + 1)).all (mchk 55) = true := by decide +kernel
theorem mck_56 : (List.range (mlast 56 + 1)).all (mchk 56) = true := by decide +kernel
theorem mck_57 : (List.range (mlast 57 + 1)).all (mchk 57) = true := by decide +kernel
theorem mck_58 : (List.range (mlast 58 + 1)).all (mchk 58) = true := by decide +kernel
theorem mck_59 : (List.range (mlast 59 + 1)).all (mchk 59) = true := by decide +kernel
theorem mck_60 : (List.range (mlast 60 + 1)).all (mchk 60) = true := by decide +kernel
theorem mck_61 : (List.range (mlast 61 + 1)).all (mchk 61) = true := by decide +kernel
theorem mck_62 : (List.range (mlast 62 + 1)).all (mchk 62) = true := by decide +kernel
theorem mck_63 : (List.range (mlast 63 + 1)).all (mchk 63) = true := by decide +kernel
theorem mck_64 : (List.range (mlast 64 + 1)).all (mchk 64) = true := by decide +kernel
theorem mck_65 : (List.range (mlast 65 + 1)).all (mchk 65) = true := by decide +kernel
theorem mck_66 : (List.range (mlast 66 + 1)).all (mchk 66) = true := by decide +kernel
theorem mck_67 : (List.range (mlast 67 + 1)).all (mchk 67) = true := by decide +kernel
theorem mck_68 : (List.range (mlast 68 + 1)).all (mchk 68) = true := by decide +kernel
theorem mck_69 : (List.range (mlast 69 + 1)).all (mchk 69) = true := by decide +kernel
theorem mck_70 : (List.range (mlast 70 + 1)).all (mchk 70) = true := by decide +kernel
theorem mck_71 : (List.range (mlast 71 + 1)).all (mchk 71) = true := by decide +kernel
theorem mck_72 : (List.range (mlast 72 + 1)).all (mchk 72) = true := by decide +kernel
theorem mck_73 : (List.range (mlast 73 + 1)).all (mchk 73) = true := by decide +kernel
theorem mck_74 : (List.range (mlast 74 + 1)).all (mchk 74) = true := by decide +kernel
theorem mck_75 : (List.range (mlast 75 + 1)).all (mchk 75) = true := by decide +kernel
theorem mck_76 : (List.range (mlast 76 + 1)).all (mchk 76) = true := by decide +kernel
theorem mck_77 : (List.range (mlast 77 + 1)).all (mchk 77) = true := by decide +kernel
theorem mck_78 : (List.range (mlast 78 + 1)).all (mchk 78) = true := by decide +kernel
theorem mck_79 : (List.range (mlast 79 + 1)).all (mchk 79) = true := by decide +kernel
theorem mck_80 : (List.range (mlast 80 + 1)).all (mchk 80) = true := by decide +kernel
theorem mck_81 : (List.range (mlast 81 + 1)).all (mchk 81) = true := by decide +kernel
theorem mck_82 : (List.range (mlast 82 + 1)).all (mchk 82) = true := by decide +kernel
theorem mck_83 : (List.range (mlast 83 + 1)).all (mchk 83) = true := by decide +kernel
theorem mck_84 : (List.range (mlast 84 + 1)).all (mchk 84) = true := by decide +kernel
theorem mck_85 : (List.range (mlast 85 + 1)).all (mchk 85) = true := by decide +kernel
theorem mck_86 : (List.range (mlast 86 + 1)).all (mchk 86) = true := by decide +kernel
theorem mck_87 : (List.range (mlast 87 + 1)).all (mchk 87) = true := by decide +kernel
theorem mck_88 : (List.range (mlast 88 + 1)).all (mchk 88) = true := by decide +kernel
theorem mck_89 : (List.range (mlast 89 + 1)).all (mchk 89) = true := by decide +kernel
theorem mck_90 : (List.range (mlast 90 + 1)).all (mchk 90) = true := by decide +kernel
theorem mck_91 : (List.range (mlast 91 + 1)).all (mchk 91) = true := by decide +kernel
theorem mck_92 : (List.range (mlast 92 + 1)).all (mchk 92) = true := by decide +kernel
theorem mck_93 : (List.range (mlast 93 + 1)).all (mchk 93) = true := by decide +kernel
theorem mck_94 : (List.range (mlast 94 + 1)).all (mchk 94) = true := by decide +kernel
theorem mck_95 : (List.range (mlast 95 + 1)).all (mchk 95) = true := by decide +kernel
theorem mck_96 : (List.range (mlast 96 + 1)).all (mchk 96) = true := by decide +kernel
theorem mck_97 : (List.range (mlast 97 + 1)).all (mchk 97) = true := by decide +kernel
theorem mck_98 : (List.range (mlast 98 + 1)).all (mchk 98) = true := by decide +kernel
theorem mck_99 : (List.range (mlast 99 + 1)).all (mchk 99) = true := by decide +kernel
theorem mck_100 : (List.range (mlast 100 + 1)).all (mchk 100) = true := by decide +kernel
theorem mck_101 : (List.range (mlast 101 + 1)).all (mchk 101) = true := by decide +kernel
theorem mck_102 : (List.range (mlast 102 + 1)).all (mchk 102) = true := by decide +kernel
theorem mck_103 : (List.range (mlast 103 + 1)).all (mchk 103) = true := by decide +kernel
theorem mck_104 : (List.range (mlast 104 + 1)).all (mchk 104) = true := by decide +kernel
theorem mck_105 : (List.range (mlast 105 + 1)).all (mchk 105) = true := by decide +kernel
theorem mck_106 : (List.range (mlast 106 + 1)).all (mchk 106) = true := by decide +kernel
theorem mck_107 : (List.range (mlast 107 + 1)).all (mchk 107) = true := by decide +kernel
theorem mck_108 : (List.range (mlast 108 + 1)).all (mchk 108) = true := by decide +kernel
theorem mck_109 : (List.range (mlast 109 + 1)).all (mchk 109) = true := by decide +kernel
theorem mck_110 : (List.range (mlast 110 + 1)).all (mchk 110) = true := by decide +kernel
theorem mck_111 : (List.range (mlast 111 + 1)).all (mchk 111) = true := by decide +kernel
theorem mck_112 : (List.range (mlast 112 + 1)).all (mchk 112) = true := by decide +kernel
theorem mck_113 : (List.range (mlast 113 + 1)).all (mchk 113) = true := by decide +kernel
theorem mck_114 : (List.range (mlast 114 + 1)).all (mchk 114) = true := by decide +kernel
theorem mck_115 : (List.range (mlast 115 + 1)).all (mchk 115) = true := by decide +kernel
theorem mck_116 : (List.range (mlast 116 + 1)).all (mchk 116) = true := by decide +kernel
theorem mck_117 : (List.range (mlast 117 + 1)).all (mchk 117) = true := by decide +kernel
theorem mck_118 : (List.range (mlast 118 + 1)).all (mchk 118) = true := by decide +kernel
theorem mck_119 : (List.range (mlast 119 + 1)).all (mchk 119) = true := by decide +kernel
theorem mck_120 : (List.range (mlast 120 + 1)).all (mchk 120) = true := by decide +kernel
theorem mck_121 : (List.range (mlast 121 + 1)).all (mchk 121) = true := by decide +kernel
theorem mck_122 : (List.range (mlast 122 + 1)).all (mchk 122) = true := by decide +kernel
theorem mck_123 : (List.range (mlast 123 + 1)).all (mchk 123) = true := by decide +kernel
theorem mck_124 : (List.range (mlast 124 + 1)).all (mchk 124) = true := by decide +kernel
theorem mck_125 : (List.range (mlast 125 + 1)).all (mchk 125) = true := by decide +kernel
theorem mck_126 : (List.range (mlast 126 + 1)).all (mchk 126) = true := by decide +kernel
theorem mck_127 : (List.range (mlast 127 + 1)).all (mchk 127) = true := by decide +kernel
theorem mck_128 : (List.range (mlast 128 + 1)).all (mchk 128) = true := by decide +kernel
theorem mck_129 : (List.range (mlast 129 + 1)).all (mchk 129) = true := by decide +kernel
theorem mck_130 : (List.range (mlast 130 + 1)).all (mchk 130) = true := by decide +kernel
theorem mck_131 : (List.range (mlast 131 + 1)).all (mchk 131) = true := by decide +kernel
theorem mck_132 : (List.range (mlast 132 + 1)).all (mchk 132) = true := by decide +kernel
theorem mck_133 : (List.range (mlast 133 + 1)).all (mchk 133) = true := by decide +kernel
theorem mck_134 : (List.range (mlast 134 + 1)).all (mchk 134) = true := by decide +kernel
theorem mck_135 : (List.range (mlast 135 + 1)).all (mchk 135) = true := by decide +kernel
theorem mck_136 : (List.range (mlast 136 + 1)).all (mchk 136) = true := by decide +kernel
theorem mck_137 : (List.range (mlast 137 + 1)).all (mchk 137) = true := by decide +kernel
theorem mck_138 : (List.range (mlast 138 + 1)).all (mchk 138) = true := by decide +kernel
theorem mck_139 : (List.range (mlast 139 + 1)).all (mchk 139) = true := by decide +kernel
theorem mck_140 : (List.range (mlast 140 + 1)).all (mchk 140) = true := by decide +kernel
theorem mck_141 : (List.range (mlast 141 + 1)).all (mchk 141) = true := by decide +kernel
theorem mck_142 : (List.range (mlast 142 + 1)).all (mchk 142) = true := by decide +kernel
theorem mck_143 : (List.range (mlast 143 + 1)).all (mchk 143) = true := by decide +kernel
theorem mck_144 : (List.range (mlast 144 + 1)).all (mchk 144) = true := by decide +kernel
theorem mck_145 : (List.range (mlast 145 + 1)).all (mchk 145) = true := by decide +kernel
theorem mck_146 : (List.range (mlast 146 + 1)).all (mchk 146) = true := by decide +kernel
