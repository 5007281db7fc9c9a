/-! all rows are checked -/
theorem mv_cr_out {y pc : Nat} (h : mv_cl y ≤ pc) : mv_cr y pc = true := by
  have e : Nat.blt pc (mv_cl y) = false := by
    cases q : Nat.blt pc (mv_cl y) with
    | false => rfl
    | true => have := Nat.le_of_ble_eq_true q; omega
  unfold mv_cr mv_code
  rw [e]
  rfl
theorem mv_cr_of {y : Nat} (h : mv_chk y = true) (pc : Nat) : mv_cr y pc = true := by
  by_cases c : pc < mv_cl y
  · unfold mv_chk at h
    exact List.all_eq_true.mp h pc (List.mem_range.mpr c)
  · exact mv_cr_out (by omega)
def mv_cP (n : Nat) : Prop := ∀ y, y < n → ∀ pc, mv_cr y pc = true
theorem mv_cP0 : mv_cP 0 := fun y h => absurd h (Nat.not_lt_zero y)
theorem mv_cPs {n : Nat} (h : mv_cP n) (k : ∀ pc, mv_cr n pc = true) : mv_cP (n + 1) := fun y hy => by
  by_cases c : y = n
  · rw [c]; exact k
  · exact h y (by omega)
def mv_mP (n : Nat) : Prop := ∀ y, y < n → mv_mk y = true
theorem mv_mP0 : mv_mP 0 := fun y h => absurd h (Nat.not_lt_zero y)
theorem mv_mPs {n : Nat} (h : mv_mP n) (k : mv_mk n = true) : mv_mP (n + 1) := fun y hy => by
  by_cases c : y = n
  · rw [c]; exact k
  · exact h y (by omega)
theorem mv_chr_of {y lo n : Nat} (h : mv_chr y lo n = true) (pc : Nat) (h1 : lo ≤ pc) (h2 : pc < lo + n) : mv_cr y pc = true := by
  unfold mv_chr at h
  have := List.all_eq_true.mp h (pc - lo) (List.mem_range.mpr (by omega))
  rw [show lo + (pc - lo) = pc by omega] at this
  exact this
theorem mv_cr208 (pc : Nat) : mv_cr 208 pc = true := by
  by_cases c : pc < 1400
  · by_cases c0 : pc < 70
    · exact mv_chr_of mv_q0 pc (by omega) (by omega)
    by_cases c1 : pc < 140
    · exact mv_chr_of mv_q1 pc (by omega) (by omega)
    by_cases c2 : pc < 210
    · exact mv_chr_of mv_q2 pc (by omega) (by omega)
    by_cases c3 : pc < 280
    · exact mv_chr_of mv_q3 pc (by omega) (by omega)
    by_cases c4 : pc < 350
    · exact mv_chr_of mv_q4 pc (by omega) (by omega)
    by_cases c5 : pc < 420
    · exact mv_chr_of mv_q5 pc (by omega) (by omega)
    by_cases c6 : pc < 490
    · exact mv_chr_of mv_q6 pc (by omega) (by omega)
    by_cases c7 : pc < 560
    · exact mv_chr_of mv_q7 pc (by omega) (by omega)
    by_cases c8 : pc < 630
    · exact mv_chr_of mv_q8 pc (by omega) (by omega)
    by_cases c9 : pc < 700
    · exact mv_chr_of mv_q9 pc (by omega) (by omega)
    by_cases c10 : pc < 770
    · exact mv_chr_of mv_q10 pc (by omega) (by omega)
    by_cases c11 : pc < 840
    · exact mv_chr_of mv_q11 pc (by omega) (by omega)
    by_cases c12 : pc < 910
    · exact mv_chr_of mv_q12 pc (by omega) (by omega)
    by_cases c13 : pc < 980
    · exact mv_chr_of mv_q13 pc (by omega) (by omega)
    by_cases c14 : pc < 1050
    · exact mv_chr_of mv_q14 pc (by omega) (by omega)
    by_cases c15 : pc < 1120
    · exact mv_chr_of mv_q15 pc (by omega) (by omega)
    by_cases c16 : pc < 1190
    · exact mv_chr_of mv_q16 pc (by omega) (by omega)
    by_cases c17 : pc < 1260
    · exact mv_chr_of mv_q17 pc (by omega) (by omega)
    by_cases c18 : pc < 1330
    · exact mv_chr_of mv_q18 pc (by omega) (by omega)
    by_cases c19 : pc < 1400
    · exact mv_chr_of mv_q19 pc (by omega) (by omega)
    exact absurd c (by omega)
  · exact mv_cr_out (Nat.le_trans (by decide +kernel : mv_cl 208 ≤ 1400) (by omega))
theorem mv_c_0 : mv_cP 0 := mv_cP0
theorem mv_m_0 : mv_mP 0 := mv_mP0
theorem mv_c_1 : mv_cP 1 := mv_cPs mv_c_0 (mv_cr_of mv_k0)
theorem mv_c_2 : mv_cP 2 := mv_cPs mv_c_1 (mv_cr_of mv_k1)
theorem mv_c_3 : mv_cP 3 := mv_cPs mv_c_2 (mv_cr_of mv_k2)
theorem mv_c_4 : mv_cP 4 := mv_cPs mv_c_3 (mv_cr_of mv_k3)
theorem mv_c_5 : mv_cP 5 := mv_cPs mv_c_4 (mv_cr_of mv_k4)
theorem mv_c_6 : mv_cP 6 := mv_cPs mv_c_5 (mv_cr_of mv_k5)
theorem mv_c_7 : mv_cP 7 := mv_cPs mv_c_6 (mv_cr_of mv_k6)
theorem mv_c_8 : mv_cP 8 := mv_cPs mv_c_7 (mv_cr_of mv_k7)
theorem mv_c_9 : mv_cP 9 := mv_cPs mv_c_8 (mv_cr_of mv_k8)
theorem mv_c_10 : mv_cP 10 := mv_cPs mv_c_9 (mv_cr_of mv_k9)
theorem mv_c_11 : mv_cP 11 := mv_cPs mv_c_10 (mv_cr_of mv_k10)
theorem mv_c_12 : mv_cP 12 := mv_cPs mv_c_11 (mv_cr_of mv_k11)
theorem mv_c_13 : mv_cP 13 := mv_cPs mv_c_12 (mv_cr_of mv_k12)
theorem mv_c_14 : mv_cP 14 := mv_cPs mv_c_13 (mv_cr_of mv_k13)
theorem mv_c_15 : mv_cP 15 := mv_cPs mv_c_14 (mv_cr_of mv_k14)
theorem mv_c_16 : mv_cP 16 := mv_cPs mv_c_15 (mv_cr_of mv_k15)
theorem mv_c_17 : mv_cP 17 := mv_cPs mv_c_16 (mv_cr_of mv_k16)
theorem mv_c_18 : mv_cP 18 := mv_cPs mv_c_17 (mv_cr_of mv_k17)
theorem mv_c_19 : mv_cP 19 := mv_cPs mv_c_18 (mv_cr_of mv_k18)
theorem mv_c_20 : mv_cP 20 := mv_cPs mv_c_19 (mv_cr_of mv_k19)
theorem mv_c_21 : mv_cP 21 := mv_cPs mv_c_20 (mv_cr_of mv_k20)
theorem mv_c_22 : mv_cP 22 := mv_cPs mv_c_21 (mv_cr_of mv_k21)
theorem mv_c_23 : mv_cP 23 := mv_cPs mv_c_22 (mv_cr_of mv_k22)
theorem mv_c_24 : mv_cP 24 := mv_cPs mv_c_23 (mv_cr_of mv_k23)
theorem mv_c_25 : mv_cP 25 := mv_cPs mv_c_24 (mv_cr_of mv_k24)
theorem mv_c_26 : mv_cP 26 := mv_cPs mv_c_25 (mv_cr_of mv_k25)
theorem mv_c_27 : mv_cP 27 := mv_cPs mv_c_26 (mv_cr_of mv_k26)
theorem mv_c_28 : mv_cP 28 := mv_cPs mv_c_27 (mv_cr_of mv_k27)
theorem mv_c_29 : mv_cP 29 := mv_cPs mv_c_28 (mv_cr_of mv_k28)
theorem mv_c_30 : mv_cP 30 := mv_cPs mv_c_29 (mv_cr_of mv_k29)
theorem mv_c_31 : mv_cP 31 := mv_cPs mv_c_30 (mv_cr_of mv_k30)
theorem mv_c_32 : mv_cP 32 := mv_cPs mv_c_31 (mv_cr_of mv_k31)
theorem mv_c_33 : mv_cP 33 := mv_cPs mv_c_32 (mv_cr_of mv_k32)
theorem mv_c_34 : mv_cP 34 := mv_cPs mv_c_33 (mv_cr_of mv_k33)
theorem mv_c_35 : mv_cP 35 := mv_cPs mv_c_34 (mv_cr_of mv_k34)
theorem mv_c_36 : mv_cP 36 := mv_cPs mv_c_35 (mv_cr_of mv_k35)
theorem mv_c_37 : mv_cP 37 := mv_cPs mv_c_36 (mv_cr_of mv_k36)
theorem mv_c_38 : mv_cP 38 := mv_cPs mv_c_37 (mv_cr_of mv_k37)
theorem mv_c_39 : mv_cP 39 := mv_cPs mv_c_38 (mv_cr_of mv_k38)
theorem mv_c_40 : mv_cP 40 := mv_cPs mv_c_39 (mv_cr_of mv_k39)
theorem mv_c_41 : mv_cP 41 := mv_cPs mv_c_40 (mv_cr_of mv_k40)
theorem mv_c_42 : mv_cP 42 := mv_cPs mv_c_41 (mv_cr_of mv_k41)
theorem mv_c_43 : mv_cP 43 := mv_cPs mv_c_42 (mv_cr_of mv_k42)
theorem mv_c_44 : mv_cP 44 := mv_cPs mv_c_43 (mv_cr_of mv_k43)
theorem mv_c_45 : mv_cP 45 := mv_cPs mv_c_44 (mv_cr_of mv_k44)
theorem mv_c_46 : mv_cP 46 := mv_cPs mv_c_45 (mv_cr_of mv_k45)
theorem mv_c_47 : mv_cP 47 := mv_cPs mv_c_46 (mv_cr_of mv_k46)
theorem mv_c_48 : mv_cP 48 := mv_cPs mv_c_47 (mv_cr_of mv_k47)
theorem mv_c_49 : mv_cP 49 := mv_cPs mv_c_48 (mv_cr_of mv_k48)
theorem mv_c_50 : mv_cP 50 := mv_cPs mv_c_49 (mv_cr_of mv_k49)
theorem mv_c_51 : mv_cP 51 := mv_cPs mv_c_50 (mv_cr_of mv_k50)
theorem mv_c_52 : mv_cP 52 := mv_cPs mv_c_51 (mv_cr_of mv_k51)
theorem mv_c_53 : mv_cP 53 := mv_cPs mv_c_52 (mv_cr_of mv_k52)
theorem mv_c_54 : mv_cP 54 := mv_cPs mv_c_53 (mv_cr_of mv_k53)
theorem mv_c_55 : mv_cP 55 := mv_cPs mv_c_54 (mv_cr_of mv_k54)
theorem mv_c_56 : mv_cP 56 := mv_cPs mv_c_55 (mv_cr_of mv_k55)
theorem mv_c_57 : mv_cP 57 := mv_cPs mv_c_56 (mv_cr_of mv_k56)
theorem mv_c_58 : mv_cP 58 := mv_cPs mv_c_57 (mv_cr_of mv_k57)
theorem mv_c_59 : mv_cP 59 := mv_cPs mv_c_58 (mv_cr_of mv_k58)
theorem mv_c_60 : mv_cP 60 := mv_cPs mv_c_59 (mv_cr_of mv_k59)
theorem mv_c_61 : mv_cP 61 := mv_cPs mv_c_60 (mv_cr_of mv_k60)
theorem mv_c_62 : mv_cP 62 := mv_cPs mv_c_61 (mv_cr_of mv_k61)
theorem mv_c_63 : mv_cP 63 := mv_cPs mv_c_62 (mv_cr_of mv_k62)
theorem mv_c_64 : mv_cP 64 := mv_cPs mv_c_63 (mv_cr_of mv_k63)
theorem mv_c_65 : mv_cP 65 := mv_cPs mv_c_64 (mv_cr_of mv_k64)
theorem mv_c_66 : mv_cP 66 := mv_cPs mv_c_65 (mv_cr_of mv_k65)
theorem mv_c_67 : mv_cP 67 := mv_cPs mv_c_66 (mv_cr_of mv_k66)
theorem mv_c_68 : mv_cP 68 := mv_cPs mv_c_67 (mv_cr_of mv_k67)
theorem mv_c_69 : mv_cP 69 := mv_cPs mv_c_68 (mv_cr_of mv_k68)
theorem mv_c_70 : mv_cP 70 := mv_cPs mv_c_69 (mv_cr_of mv_k69)
theorem mv_c_71 : mv_cP 71 := mv_cPs mv_c_70 (mv_cr_of mv_k70)
theorem mv_c_72 : mv_cP 72 := mv_cPs mv_c_71 (mv_cr_of mv_k71)
theorem mv_c_73 : mv_cP 73 := mv_cPs mv_c_72 (mv_cr_of mv_k72)
theorem mv_c_74 : mv_cP 74 := mv_cPs mv_c_73 (mv_cr_of mv_k73)
theorem mv_c_75 : mv_cP 75 := mv_cPs mv_c_74 (mv_cr_of mv_k74)
theorem mv_c_76 : mv_cP 76 := mv_cPs mv_c_75 (mv_cr_of mv_k75)
theorem mv_c_77 : mv_cP 77 := mv_cPs mv_c_76 (mv_cr_of mv_k76)
theorem mv_c_78 : mv_cP 78 := mv_cPs mv_c_77 (mv_cr_of mv_k77)
theorem mv_c_79 : mv_cP 79 := mv_cPs mv_c_78 (mv_cr_of mv_k78)
theorem mv_c_80 : mv_cP 80 := mv_cPs mv_c_79 (mv_cr_of mv_k79)
theorem mv_c_81 : mv_cP 81 := mv_cPs mv_c_80 (mv_cr_of mv_k80)
theorem mv_c_82 : mv_cP 82 := mv_cPs mv_c_81 (mv_cr_of mv_k81)
theorem mv_c_83 : mv_cP 83 := mv_cPs mv_c_82 (mv_cr_of mv_k82)
theorem mv_c_84 : mv_cP 84 := mv_cPs mv_c_83 (mv_cr_of mv_k83)
theorem mv_c_85 : mv_cP 85 := mv_cPs mv_c_84 (mv_cr_of mv_k84)
theorem mv_c_86 : mv_cP 86 := mv_cPs mv_c_85 (mv_cr_of mv_k85)
theorem mv_c_87 : mv_cP 87 := mv_cPs mv_c_86 (mv_cr_of mv_k86)
theorem mv_c_88 : mv_cP 88 := mv_cPs mv_c_87 (mv_cr_of mv_k87)
theorem mv_c_89 : mv_cP 89 := mv_cPs mv_c_88 (mv_cr_of mv_k88)
theorem mv_c_90 : mv_cP 90 := mv_cPs mv_c_89 (mv_cr_of mv_k89)
theorem mv_c_91 : mv_cP 91 := mv_cPs mv_c_90 (mv_cr_of mv_k90)
theorem mv_c_92 : mv_cP 92 := mv_cPs mv_c_91 (mv_cr_of mv_k91)
theorem mv_c_93 : mv_cP 93 := mv_cPs mv_c_92 (mv_cr_of mv_k92)
theorem mv_c_94 : mv_cP 94 := mv_cPs mv_c_93 (mv_cr_of mv_k93)
theorem mv_c_95 : mv_cP 95 := mv_cPs mv_c_94 (mv_cr_of mv_k94)
theorem mv_c_96 : mv_cP 96 := mv_cPs mv_c_95 (mv_cr_of mv_k95)
theorem mv_c_97 : mv_cP 97 := mv_cPs mv_c_96 (mv_cr_of mv_k96)
theorem mv_c_98 : mv_cP 98 := mv_cPs mv_c_97 (mv_cr_of mv_k97)
theorem mv_c_99 : mv_cP 99 := mv_cPs mv_c_98 (mv_cr_of mv_k98)
theorem mv_c_100 : mv_cP 100 := mv_cPs mv_c_99 (mv_cr_of mv_k99)
theorem mv_c_101 : mv_cP 101 := mv_cPs mv_c_100 (mv_cr_of mv_k100)
theorem mv_c_102 : mv_cP 102 := mv_cPs mv_c_101 (mv_cr_of mv_k101)
theorem mv_c_103 : mv_cP 103 := mv_cPs mv_c_102 (mv_cr_of mv_k102)
theorem mv_c_104 : mv_cP 104 := mv_cPs mv_c_103 (mv_cr_of mv_k103)
theorem mv_c_105 : mv_cP 105 := mv_cPs mv_c_104 (mv_cr_of mv_k104)
theorem mv_c_106 : mv_cP 106 := mv_cPs mv_c_105 (mv_cr_of mv_k105)
theorem mv_c_107 : mv_cP 107 := mv_cPs mv_c_106 (mv_cr_of mv_k106)
theorem mv_c_108 : mv_cP 108 := mv_cPs mv_c_107 (mv_cr_of mv_k107)
theorem mv_c_109 : mv_cP 109 := mv_cPs mv_c_108 (mv_cr_of mv_k108)
theorem mv_c_110 : mv_cP 110 := mv_cPs mv_c_109 (mv_cr_of mv_k109)
theorem mv_c_111 : mv_cP 111 := mv_cPs mv_c_110 (mv_cr_of mv_k110)
theorem mv_c_112 : mv_cP 112 := mv_cPs mv_c_111 (mv_cr_of mv_k111)
theorem mv_c_113 : mv_cP 113 := mv_cPs mv_c_112 (mv_cr_of mv_k112)
theorem mv_c_114 : mv_cP 114 := mv_cPs mv_c_113 (mv_cr_of mv_k113)
theorem mv_c_115 : mv_cP 115 := mv_cPs mv_c_114 (mv_cr_of mv_k114)
theorem mv_c_116 : mv_cP 116 := mv_cPs mv_c_115 (mv_cr_of mv_k115)
theorem mv_c_117 : mv_cP 117 := mv_cPs mv_c_116 (mv_cr_of mv_k116)
theorem mv_c_118 : mv_cP 118 := mv_cPs mv_c_117 (mv_cr_of mv_k117)
theorem mv_c_119 : mv_cP 119 := mv_cPs mv_c_118 (mv_cr_of mv_k118)
theorem mv_c_120 : mv_cP 120 := mv_cPs mv_c_119 (mv_cr_of mv_k119)
theorem mv_c_121 : mv_cP 121 := mv_cPs mv_c_120 (mv_cr_of mv_k120)
theorem mv_c_122 : mv_cP 122 := mv_cPs mv_c_121 (mv_cr_of mv_k121)
theorem mv_c_123 : mv_cP 123 := mv_cPs mv_c_122 (mv_cr_of mv_k122)
theorem mv_c_124 : mv_cP 124 := mv_cPs mv_c_123 (mv_cr_of mv_k123)
theorem mv_c_125 : mv_cP 125 := mv_cPs mv_c_124 (mv_cr_of mv_k124)
theorem mv_c_126 : mv_cP 126 := mv_cPs mv_c_125 (mv_cr_of mv_k125)
theorem mv_c_127 : mv_cP 127 := mv_cPs mv_c_126 (mv_cr_of mv_k126)
theorem mv_c_128 : mv_cP 128 := mv_cPs mv_c_127 (mv_cr_of mv_k127)
theorem mv_c_129 : mv_cP 129 := mv_cPs mv_c_128 (mv_cr_of mv_k128)
theorem mv_c_130 : mv_cP 130 := mv_cPs mv_c_129 (mv_cr_of mv_k129)
theorem mv_c_131 : mv_cP 131 := mv_cPs mv_c_130 (mv_cr_of mv_k130)
theorem mv_c_132 : mv_cP 132 := mv_cPs mv_c_131 (mv_cr_of mv_k131)
theorem mv_c_133 : mv_cP 133 := mv_cPs mv_c_132 (mv_cr_of mv_k132)
theorem mv_c_134 : mv_cP 134 := mv_cPs mv_c_133 (mv_cr_of mv_k133)
theorem mv_c_135 : mv_cP 135 := mv_cPs mv_c_134 (mv_cr_of mv_k134)
theorem mv_c_136 : mv_cP 136 := mv_cPs mv_c_135 (mv_cr_of mv_k135)
theorem mv_c_137 : mv_cP 137 := mv_cPs mv_c_136 (mv_cr_of mv_k136)
theorem mv_c_138 : mv_cP 138 := mv_cPs mv_c_137 (mv_cr_of mv_k137)
theorem mv_c_139 : mv_cP 139 := mv_cPs mv_c_138 (mv_cr_of mv_k138)
theorem mv_c_140 : mv_cP 140 := mv_cPs mv_c_139 (mv_cr_of mv_k139)
theorem mv_c_141 : mv_cP 141 := mv_cPs mv_c_140 (mv_cr_of mv_k140)
theorem mv_c_142 : mv_cP 142 := mv_cPs mv_c_141 (mv_cr_of mv_k141)
theorem mv_c_143 : mv_cP 143 := mv_cPs mv_c_142 (mv_cr_of mv_k142)
theorem mv_c_144 : mv_cP 144 := mv_cPs mv_c_143 (mv_cr_of mv_k143)
theorem mv_c_145 : mv_cP 145 := mv_cPs mv_c_144 (mv_cr_of mv_k144)
theorem mv_c_146 : mv_cP 146 := mv_cPs mv_c_145 (mv_cr_of mv_k145)
theorem mv_c_147 : mv_cP 147 := mv_cPs mv_c_146 (mv_cr_of mv_k146)
theorem mv_c_148 : mv_cP 148 := mv_cPs mv_c_147 (mv_cr_of mv_k147)
theorem mv_c_149 : mv_cP 149 := mv_cPs mv_c_148 (mv_cr_of mv_k148)
theorem mv_c_150 : mv_cP 150 := mv_cPs mv_c_149 (mv_cr_of mv_k149)
theorem mv_c_151 : mv_cP 151 := mv_cPs mv_c_150 (mv_cr_of mv_k150)
theorem mv_c_152 : mv_cP 152 := mv_cPs mv_c_151 (mv_cr_of mv_k151)
theorem mv_c_153 : mv_cP 153 := mv_cPs mv_c_152 (mv_cr_of mv_k152)
theorem mv_c_154 : mv_cP 154 := mv_cPs mv_c_153 (mv_cr_of mv_k153)
theorem mv_c_155 : mv_cP 155 := mv_cPs mv_c_154 (mv_cr_of mv_k154)
theorem mv_c_156 : mv_cP 156 := mv_cPs mv_c_155 (mv_cr_of mv_k155)
theorem mv_c_157 : mv_cP 157 := mv_cPs mv_c_156 (mv_cr_of mv_k156)
theorem mv_c_158 : mv_cP 158 := mv_cPs mv_c_157 (mv_cr_of mv_k157)
theorem mv_c_159 : mv_cP 159 := mv_cPs mv_c_158 (mv_cr_of mv_k158)
theorem mv_c_160 : mv_cP 160 := mv_cPs mv_c_159 (mv_cr_of mv_k159)
theorem mv_c_161 : mv_cP 161 := mv_cPs mv_c_160 (mv_cr_of mv_k160)
theorem mv_c_162 : mv_cP 162 := mv_cPs mv_c_161 (mv_cr_of mv_k161)
theorem mv_c_163 : mv_cP 163 := mv_cPs mv_c_162 (mv_cr_of mv_k162)
theorem mv_c_164 : mv_cP 164 := mv_cPs mv_c_163 (mv_cr_of mv_k163)
theorem mv_c_165 : mv_cP 165 := mv_cPs mv_c_164 (mv_cr_of mv_k164)
theorem mv_c_166 : mv_cP 166 := mv_cPs mv_c_165 (mv_cr_of mv_k165)
theorem mv_c_167 : mv_cP 167 := mv_cPs mv_c_166 (mv_cr_of mv_k166)
theorem mv_c_168 : mv_cP 168 := mv_cPs mv_c_167 (mv_cr_of mv_k167)
theorem mv_c_169 : mv_cP 169 := mv_cPs mv_c_168 (mv_cr_of mv_k168)
theorem mv_c_170 : mv_cP 170 := mv_cPs mv_c_169 (mv_cr_of mv_k169)
theorem mv_c_171 : mv_cP 171 := mv_cPs mv_c_170 (mv_cr_of mv_k170)
theorem mv_c_172 : mv_cP 172 := mv_cPs mv_c_171 (mv_cr_of mv_k171)
theorem mv_c_173 : mv_cP 173 := mv_cPs mv_c_172 (mv_cr_of mv_k172)
theorem mv_c_174 : mv_cP 174 := mv_cPs mv_c_173 (mv_cr_of mv_k173)
theorem mv_c_175 : mv_cP 175 := mv_cPs mv_c_174 (mv_cr_of mv_k174)
theorem mv_c_176 : mv_cP 176 := mv_cPs mv_c_175 (mv_cr_of mv_k175)
theorem mv_c_177 : mv_cP 177 := mv_cPs mv_c_176 (mv_cr_of mv_k176)
theorem mv_c_178 : mv_cP 178 := mv_cPs mv_c_177 (mv_cr_of mv_k177)
theorem mv_c_179 : mv_cP 179 := mv_cPs mv_c_178 (mv_cr_of mv_k178)
theorem mv_c_180 : mv_cP 180 := mv_cPs mv_c_179 (mv_cr_of mv_k179)
theorem mv_c_181 : mv_cP 181 := mv_cPs mv_c_180 (mv_cr_of mv_k180)
theorem mv_c_182 : mv_cP 182 := mv_cPs mv_c_181 (mv_cr_of mv_k181)
theorem mv_c_183 : mv_cP 183 := mv_cPs mv_c_182 (mv_cr_of mv_k182)
theorem mv_c_184 : mv_cP 184 := mv_cPs mv_c_183 (mv_cr_of mv_k183)
theorem mv_c_185 : mv_cP 185 := mv_cPs mv_c_184 (mv_cr_of mv_k184)
theorem mv_c_186 : mv_cP 186 := mv_cPs mv_c_185 (mv_cr_of mv_k185)
theorem mv_c_187 : mv_cP 187 := mv_cPs mv_c_186 (mv_cr_of mv_k186)
theorem mv_c_188 : mv_cP 188 := mv_cPs mv_c_187 (mv_cr_of mv_k187)
theorem mv_c_189 : mv_cP 189 := mv_cPs mv_c_188 (mv_cr_of mv_k188)
theorem mv_c_190 : mv_cP 190 := mv_cPs mv_c_189 (mv_cr_of mv_k189)
theorem mv_c_191 : mv_cP 191 := mv_cPs mv_c_190 (mv_cr_of mv_k190)
theorem mv_c_192 : mv_cP 192 := mv_cPs mv_c_191 (mv_cr_of mv_k191)
theorem mv_c_193 : mv_cP 193 := mv_cPs mv_c_192 (mv_cr_of mv_k192)
theorem mv_c_194 : mv_cP 194 := mv_cPs mv_c_193 (mv_cr_of mv_k193)
theorem mv_c_195 : mv_cP 195 := mv_cPs mv_c_194 (mv_cr_of mv_k194)
theorem mv_c_196 : mv_cP 196 := mv_cPs mv_c_195 (mv_cr_of mv_k195)
theorem mv_c_197 : mv_cP 197 := mv_cPs mv_c_196 (mv_cr_of mv_k196)
theorem mv_c_198 : mv_cP 198 := mv_cPs mv_c_197 (mv_cr_of mv_k197)
theorem mv_c_199 : mv_cP 199 := mv_cPs mv_c_198 (mv_cr_of mv_k198)
theorem mv_c_200 : mv_cP 200 := mv_cPs mv_c_199 (mv_cr_of mv_k199)
theorem mv_c_201 : mv_cP 201 := mv_cPs mv_c_200 (mv_cr_of mv_k200)
theorem mv_c_202 : mv_cP 202 := mv_cPs mv_c_201 (mv_cr_of mv_k201)
theorem mv_c_203 : mv_cP 203 := mv_cPs mv_c_202 (mv_cr_of mv_k202)
theorem mv_c_204 : mv_cP 204 := mv_cPs mv_c_203 (mv_cr_of mv_k203)
theorem mv_c_205 : mv_cP 205 := mv_cPs mv_c_204 (mv_cr_of mv_k204)
theorem mv_c_206 : mv_cP 206 := mv_cPs mv_c_205 (mv_cr_of mv_k205)
theorem mv_c_207 : mv_cP 207 := mv_cPs mv_c_206 (mv_cr_of mv_k206)
theorem mv_c_208 : mv_cP 208 := mv_cPs mv_c_207 (mv_cr_of mv_k207)
theorem mv_c_209 : mv_cP 209 := mv_cPs mv_c_208 mv_cr208
theorem mv_c_210 : mv_cP 210 := mv_cPs mv_c_209 (mv_cr_of mv_k209)
theorem mv_c_211 : mv_cP 211 := mv_cPs mv_c_210 (mv_cr_of mv_k210)
theorem mv_m_1 : mv_mP 1 := mv_mPs mv_m_0 mv_m0
theorem mv_m_2 : mv_mP 2 := mv_mPs mv_m_1 mv_m1
theorem mv_m_3 : mv_mP 3 := mv_mPs mv_m_2 mv_m2
theorem mv_m_4 : mv_mP 4 := mv_mPs mv_m_3 mv_m3
theorem mv_m_5 : mv_mP 5 := mv_mPs mv_m_4 mv_m4
theorem mv_m_6 : mv_mP 6 := mv_mPs mv_m_5 mv_m5
theorem mv_m_7 : mv_mP 7 := mv_mPs mv_m_6 mv_m6
theorem mv_m_8 : mv_mP 8 := mv_mPs mv_m_7 mv_m7
theorem mv_m_9 : mv_mP 9 := mv_mPs mv_m_8 mv_m8
theorem mv_m_10 : mv_mP 10 := mv_mPs mv_m_9 mv_m9
theorem mv_m_11 : mv_mP 11 := mv_mPs mv_m_10 mv_m10
theorem mv_m_12 : mv_mP 12 := mv_mPs mv_m_11 mv_m11
theorem mv_m_13 : mv_mP 13 := mv_mPs mv_m_12 mv_m12
theorem mv_m_14 : mv_mP 14 := mv_mPs mv_m_13 mv_m13
theorem mv_m_15 : mv_mP 15 := mv_mPs mv_m_14 mv_m14
theorem mv_m_16 : mv_mP 16 := mv_mPs mv_m_15 mv_m15
theorem mv_m_17 : mv_mP 17 := mv_mPs mv_m_16 mv_m16
theorem mv_m_18 : mv_mP 18 := mv_mPs mv_m_17 mv_m17
theorem mv_m_19 : mv_mP 19 := mv_mPs mv_m_18 mv_m18
theorem mv_m_20 : mv_mP 20 := mv_mPs mv_m_19 mv_m19
theorem mv_m_21 : mv_mP 21 := mv_mPs mv_m_20 mv_m20
theorem mv_m_22 : mv_mP 22 := mv_mPs mv_m_21 mv_m21
theorem mv_m_23 : mv_mP 23 := mv_mPs mv_m_22 mv_m22
theorem mv_m_24 : mv_mP 24 := mv_mPs mv_m_23 mv_m23
theorem mv_m_25 : mv_mP 25 := mv_mPs mv_m_24 mv_m24
theorem mv_m_26 : mv_mP 26 := mv_mPs mv_m_25 mv_m25
theorem mv_m_27 : mv_mP 27 := mv_mPs mv_m_26 mv_m26
theorem mv_m_28 : mv_mP 28 := mv_mPs mv_m_27 mv_m27
theorem mv_m_29 : mv_mP 29 := mv_mPs mv_m_28 mv_m28
theorem mv_m_30 : mv_mP 30 := mv_mPs mv_m_29 mv_m29
theorem mv_m_31 : mv_mP 31 := mv_mPs mv_m_30 mv_m30
theorem mv_m_32 : mv_mP 32 := mv_mPs mv_m_31 mv_m31
theorem mv_m_33 : mv_mP 33 := mv_mPs mv_m_32 mv_m32
theorem mv_m_34 : mv_mP 34 := mv_mPs mv_m_33 mv_m33
theorem mv_m_35 : mv_mP 35 := mv_mPs mv_m_34 mv_m34
theorem mv_m_36 : mv_mP 36 := mv_mPs mv_m_35 mv_m35
theorem mv_m_37 : mv_mP 37 := mv_mPs mv_m_36 mv_m36
theorem mv_m_38 : mv_mP 38 := mv_mPs mv_m_37 mv_m37
theorem mv_m_39 : mv_mP 39 := mv_mPs mv_m_38 mv_m38
theorem mv_m_40 : mv_mP 40 := mv_mPs mv_m_39 mv_m39
theorem mv_m_41 : mv_mP 41 := mv_mPs mv_m_40 mv_m40
theorem mv_m_42 : mv_mP 42 := mv_mPs mv_m_41 mv_m41
theorem mv_m_43 : mv_mP 43 := mv_mPs mv_m_42 mv_m42
theorem mv_m_44 : mv_mP 44 := mv_mPs mv_m_43 mv_m43
theorem mv_m_45 : mv_mP 45 := mv_mPs mv_m_44 mv_m44
theorem mv_m_46 : mv_mP 46 := mv_mPs mv_m_45 mv_m45
theorem mv_m_47 : mv_mP 47 := mv_mPs mv_m_46 mv_m46
theorem mv_m_48 : mv_mP 48 := mv_mPs mv_m_47 mv_m47
theorem mv_m_49 : mv_mP 49 := mv_mPs mv_m_48 mv_m48
theorem mv_m_50 : mv_mP 50 := mv_mPs mv_m_49 mv_m49
theorem mv_m_51 : mv_mP 51 := mv_mPs mv_m_50 mv_m50
theorem mv_m_52 : mv_mP 52 := mv_mPs mv_m_51 mv_m51
theorem mv_m_53 : mv_mP 53 := mv_mPs mv_m_52 mv_m52
theorem mv_m_54 : mv_mP 54 := mv_mPs mv_m_53 mv_m53
theorem mv_m_55 : mv_mP 55 := mv_mPs mv_m_54 mv_m54
theorem mv_m_56 : mv_mP 56 := mv_mPs mv_m_55 mv_m55
theorem mv_m_57 : mv_mP 57 := mv_mPs mv_m_56 mv_m56
theorem mv_m_58 : mv_mP 58 := mv_mPs mv_m_57 mv_m57
theorem mv_m_59 : mv_mP 59 := mv_mPs mv_m_58 mv_m58
theorem mv_m_60 : mv_mP 60 := mv_mPs mv_m_59 mv_m59
theorem mv_m_61 : mv_mP 61 := mv_mPs mv_m_60 mv_m60
theorem mv_m_62 : mv_mP 62 := mv_mPs mv_m_61 mv_m61
theorem mv_m_63 : mv_mP 63 := mv_mPs mv_m_62 mv_m62
theorem mv_m_64 : mv_mP 64 := mv_mPs mv_m_63 mv_m63
theorem mv_m_65 : mv_mP 65 := mv_mPs mv_m_64 mv_m64
theorem mv_m_66 : mv_mP 66 := mv_mPs mv_m_65 mv_m65
theorem mv_m_67 : mv_mP 67 := mv_mPs mv_m_66 mv_m66
theorem mv_m_68 : mv_mP 68 := mv_mPs mv_m_67 mv_m67
theorem mv_m_69 : mv_mP 69 := mv_mPs mv_m_68 mv_m68
theorem mv_m_70 : mv_mP 70 := mv_mPs mv_m_69 mv_m69
theorem mv_m_71 : mv_mP 71 := mv_mPs mv_m_70 mv_m70
theorem mv_m_72 : mv_mP 72 := mv_mPs mv_m_71 mv_m71
theorem mv_m_73 : mv_mP 73 := mv_mPs mv_m_72 mv_m72
theorem mv_m_74 : mv_mP 74 := mv_mPs mv_m_73 mv_m73
theorem mv_m_75 : mv_mP 75 := mv_mPs mv_m_74 mv_m74
theorem mv_m_76 : mv_mP 76 := mv_mPs mv_m_75 mv_m75
theorem mv_m_77 : mv_mP 77 := mv_mPs mv_m_76 mv_m76
theorem mv_m_78 : mv_mP 78 := mv_mPs mv_m_77 mv_m77
theorem mv_m_79 : mv_mP 79 := mv_mPs mv_m_78 mv_m78
theorem mv_m_80 : mv_mP 80 := mv_mPs mv_m_79 mv_m79
theorem mv_m_81 : mv_mP 81 := mv_mPs mv_m_80 mv_m80
theorem mv_m_82 : mv_mP 82 := mv_mPs mv_m_81 mv_m81
theorem mv_m_83 : mv_mP 83 := mv_mPs mv_m_82 mv_m82
theorem mv_m_84 : mv_mP 84 := mv_mPs mv_m_83 mv_m83
theorem mv_m_85 : mv_mP 85 := mv_mPs mv_m_84 mv_m84
theorem mv_m_86 : mv_mP 86 := mv_mPs mv_m_85 mv_m85
theorem mv_m_87 : mv_mP 87 := mv_mPs mv_m_86 mv_m86
theorem mv_m_88 : mv_mP 88 := mv_mPs mv_m_87 mv_m87
theorem mv_m_89 : mv_mP 89 := mv_mPs mv_m_88 mv_m88
theorem mv_m_90 : mv_mP 90 := mv_mPs mv_m_89 mv_m89
theorem mv_m_91 : mv_mP 91 := mv_mPs mv_m_90 mv_m90
theorem mv_m_92 : mv_mP 92 := mv_mPs mv_m_91 mv_m91
theorem mv_m_93 : mv_mP 93 := mv_mPs mv_m_92 mv_m92
theorem mv_m_94 : mv_mP 94 := mv_mPs mv_m_93 mv_m93
theorem mv_m_95 : mv_mP 95 := mv_mPs mv_m_94 mv_m94
theorem mv_m_96 : mv_mP 96 := mv_mPs mv_m_95 mv_m95
theorem mv_m_97 : mv_mP 97 := mv_mPs mv_m_96 mv_m96
theorem mv_m_98 : mv_mP 98 := mv_mPs mv_m_97 mv_m97
theorem mv_m_99 : mv_mP 99 := mv_mPs mv_m_98 mv_m98
theorem mv_m_100 : mv_mP 100 := mv_mPs mv_m_99 mv_m99
theorem mv_m_101 : mv_mP 101 := mv_mPs mv_m_100 mv_m100
theorem mv_m_102 : mv_mP 102 := mv_mPs mv_m_101 mv_m101
theorem mv_m_103 : mv_mP 103 := mv_mPs mv_m_102 mv_m102
theorem mv_m_104 : mv_mP 104 := mv_mPs mv_m_103 mv_m103
theorem mv_m_105 : mv_mP 105 := mv_mPs mv_m_104 mv_m104
theorem mv_m_106 : mv_mP 106 := mv_mPs mv_m_105 mv_m105
theorem mv_m_107 : mv_mP 107 := mv_mPs mv_m_106 mv_m106
theorem mv_m_108 : mv_mP 108 := mv_mPs mv_m_107 mv_m107
theorem mv_m_109 : mv_mP 109 := mv_mPs mv_m_108 mv_m108
theorem mv_m_110 : mv_mP 110 := mv_mPs mv_m_109 mv_m109
theorem mv_m_111 : mv_mP 111 := mv_mPs mv_m_110 mv_m110
theorem mv_m_112 : mv_mP 112 := mv_mPs mv_m_111 mv_m111
theorem mv_m_113 : mv_mP 113 := mv_mPs mv_m_112 mv_m112
theorem mv_m_114 : mv_mP 114 := mv_mPs mv_m_113 mv_m113
theorem mv_m_115 : mv_mP 115 := mv_mPs mv_m_114 mv_m114
theorem mv_m_116 : mv_mP 116 := mv_mPs mv_m_115 mv_m115
theorem mv_m_117 : mv_mP 117 := mv_mPs mv_m_116 mv_m116
theorem mv_m_118 : mv_mP 118 := mv_mPs mv_m_117 mv_m117
theorem mv_m_119 : mv_mP 119 := mv_mPs mv_m_118 mv_m118
theorem mv_m_120 : mv_mP 120 := mv_mPs mv_m_119 mv_m119
theorem mv_m_121 : mv_mP 121 := mv_mPs mv_m_120 mv_m120
theorem mv_m_122 : mv_mP 122 := mv_mPs mv_m_121 mv_m121
theorem mv_m_123 : mv_mP 123 := mv_mPs mv_m_122 mv_m122
theorem mv_m_124 : mv_mP 124 := mv_mPs mv_m_123 mv_m123
theorem mv_m_125 : mv_mP 125 := mv_mPs mv_m_124 mv_m124
theorem mv_m_126 : mv_mP 126 := mv_mPs mv_m_125 mv_m125
theorem mv_m_127 : mv_mP 127 := mv_mPs mv_m_126 mv_m126
theorem mv_m_128 : mv_mP 128 := mv_mPs mv_m_127 mv_m127
theorem mv_m_129 : mv_mP 129 := mv_mPs mv_m_128 mv_m128
theorem mv_m_130 : mv_mP 130 := mv_mPs mv_m_129 mv_m129
theorem mv_m_131 : mv_mP 131 := mv_mPs mv_m_130 mv_m130
theorem mv_m_132 : mv_mP 132 := mv_mPs mv_m_131 mv_m131
theorem mv_m_133 : mv_mP 133 := mv_mPs mv_m_132 mv_m132
theorem mv_m_134 : mv_mP 134 := mv_mPs mv_m_133 mv_m133
theorem mv_m_135 : mv_mP 135 := mv_mPs mv_m_134 mv_m134
theorem mv_m_136 : mv_mP 136 := mv_mPs mv_m_135 mv_m135
theorem mv_m_137 : mv_mP 137 := mv_mPs mv_m_136 mv_m136
theorem mv_m_138 : mv_mP 138 := mv_mPs mv_m_137 mv_m137
theorem mv_m_139 : mv_mP 139 := mv_mPs mv_m_138 mv_m138
theorem mv_m_140 : mv_mP 140 := mv_mPs mv_m_139 mv_m139
theorem mv_m_141 : mv_mP 141 := mv_mPs mv_m_140 mv_m140
theorem mv_m_142 : mv_mP 142 := mv_mPs mv_m_141 mv_m141
theorem mv_m_143 : mv_mP 143 := mv_mPs mv_m_142 mv_m142
theorem mv_m_144 : mv_mP 144 := mv_mPs mv_m_143 mv_m143
theorem mv_m_145 : mv_mP 145 := mv_mPs mv_m_144 mv_m144
theorem mv_m_146 : mv_mP 146 := mv_mPs mv_m_145 mv_m145
theorem mv_m_147 : mv_mP 147 := mv_mPs mv_m_146 mv_m146
theorem mv_m_148 : mv_mP 148 := mv_mPs mv_m_147 mv_m147
theorem mv_m_149 : mv_mP 149 := mv_mPs mv_m_148 mv_m148
theorem mv_m_150 : mv_mP 150 := mv_mPs mv_m_149 mv_m149
theorem mv_m_151 : mv_mP 151 := mv_mPs mv_m_150 mv_m150
theorem mv_m_152 : mv_mP 152 := mv_mPs mv_m_151 mv_m151
theorem mv_m_153 : mv_mP 153 := mv_mPs mv_m_152 mv_m152
theorem mv_m_154 : mv_mP 154 := mv_mPs mv_m_153 mv_m153
theorem mv_m_155 : mv_mP 155 := mv_mPs mv_m_154 mv_m154
theorem mv_m_156 : mv_mP 156 := mv_mPs mv_m_155 mv_m155
theorem mv_m_157 : mv_mP 157 := mv_mPs mv_m_156 mv_m156
theorem mv_m_158 : mv_mP 158 := mv_mPs mv_m_157 mv_m157
theorem mv_m_159 : mv_mP 159 := mv_mPs mv_m_158 mv_m158
theorem mv_m_160 : mv_mP 160 := mv_mPs mv_m_159 mv_m159
theorem mv_m_161 : mv_mP 161 := mv_mPs mv_m_160 mv_m160
theorem mv_m_162 : mv_mP 162 := mv_mPs mv_m_161 mv_m161
theorem mv_m_163 : mv_mP 163 := mv_mPs mv_m_162 mv_m162
theorem mv_m_164 : mv_mP 164 := mv_mPs mv_m_163 mv_m163
theorem mv_m_165 : mv_mP 165 := mv_mPs mv_m_164 mv_m164
theorem mv_m_166 : mv_mP 166 := mv_mPs mv_m_165 mv_m165
theorem mv_m_167 : mv_mP 167 := mv_mPs mv_m_166 mv_m166
theorem mv_m_168 : mv_mP 168 := mv_mPs mv_m_167 mv_m167
theorem mv_m_169 : mv_mP 169 := mv_mPs mv_m_168 mv_m168
theorem mv_m_170 : mv_mP 170 := mv_mPs mv_m_169 mv_m169
theorem mv_m_171 : mv_mP 171 := mv_mPs mv_m_170 mv_m170
theorem mv_m_172 : mv_mP 172 := mv_mPs mv_m_171 mv_m171
theorem mv_m_173 : mv_mP 173 := mv_mPs mv_m_172 mv_m172
theorem mv_m_174 : mv_mP 174 := mv_mPs mv_m_173 mv_m173
theorem mv_m_175 : mv_mP 175 := mv_mPs mv_m_174 mv_m174
theorem mv_m_176 : mv_mP 176 := mv_mPs mv_m_175 mv_m175
theorem mv_m_177 : mv_mP 177 := mv_mPs mv_m_176 mv_m176
theorem mv_m_178 : mv_mP 178 := mv_mPs mv_m_177 mv_m177
theorem mv_m_179 : mv_mP 179 := mv_mPs mv_m_178 mv_m178
theorem mv_m_180 : mv_mP 180 := mv_mPs mv_m_179 mv_m179
theorem mv_m_181 : mv_mP 181 := mv_mPs mv_m_180 mv_m180
theorem mv_m_182 : mv_mP 182 := mv_mPs mv_m_181 mv_m181
theorem mv_m_183 : mv_mP 183 := mv_mPs mv_m_182 mv_m182
theorem mv_m_184 : mv_mP 184 := mv_mPs mv_m_183 mv_m183
theorem mv_m_185 : mv_mP 185 := mv_mPs mv_m_184 mv_m184
theorem mv_m_186 : mv_mP 186 := mv_mPs mv_m_185 mv_m185
theorem mv_m_187 : mv_mP 187 := mv_mPs mv_m_186 mv_m186
theorem mv_m_188 : mv_mP 188 := mv_mPs mv_m_187 mv_m187
theorem mv_m_189 : mv_mP 189 := mv_mPs mv_m_188 mv_m188
theorem mv_m_190 : mv_mP 190 := mv_mPs mv_m_189 mv_m189
theorem mv_m_191 : mv_mP 191 := mv_mPs mv_m_190 mv_m190
theorem mv_m_192 : mv_mP 192 := mv_mPs mv_m_191 mv_m191
theorem mv_m_193 : mv_mP 193 := mv_mPs mv_m_192 mv_m192
theorem mv_m_194 : mv_mP 194 := mv_mPs mv_m_193 mv_m193
theorem mv_m_195 : mv_mP 195 := mv_mPs mv_m_194 mv_m194
theorem mv_m_196 : mv_mP 196 := mv_mPs mv_m_195 mv_m195
theorem mv_m_197 : mv_mP 197 := mv_mPs mv_m_196 mv_m196
theorem mv_m_198 : mv_mP 198 := mv_mPs mv_m_197 mv_m197
theorem mv_m_199 : mv_mP 199 := mv_mPs mv_m_198 mv_m198
theorem mv_m_200 : mv_mP 200 := mv_mPs mv_m_199 mv_m199
theorem mv_m_201 : mv_mP 201 := mv_mPs mv_m_200 mv_m200
theorem mv_m_202 : mv_mP 202 := mv_mPs mv_m_201 mv_m201
theorem mv_m_203 : mv_mP 203 := mv_mPs mv_m_202 mv_m202
theorem mv_m_204 : mv_mP 204 := mv_mPs mv_m_203 mv_m203
theorem mv_m_205 : mv_mP 205 := mv_mPs mv_m_204 mv_m204
theorem mv_m_206 : mv_mP 206 := mv_mPs mv_m_205 mv_m205
theorem mv_m_207 : mv_mP 207 := mv_mPs mv_m_206 mv_m206
theorem mv_m_208 : mv_mP 208 := mv_mPs mv_m_207 mv_m207
theorem mv_ckall : ∀ y pc, y < 211 → mv_cr y pc = true := fun y pc h => mv_c_211 y h pc
theorem mv_mkall : ∀ a, a < 208 → mv_mk a = true := fun a h => mv_m_208 a h
