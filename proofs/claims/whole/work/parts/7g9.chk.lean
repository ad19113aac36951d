theorem chk_all : ∀ k, k < nMeth → chkM k = true := by
  intro k hk
  unfold nMeth at hk
  by_cases h0_237 : k < 118
  · skip
    by_cases h0_118 : k < 59
    · skip
      by_cases h0_59 : k < 29
      · skip
        by_cases h0_29 : k < 14
        · skip
          by_cases h0_14 : k < 7
          · skip
            by_cases h0_7 : k < 3
            · skip
              by_cases h0_3 : k < 1
              · skip
                obtain rfl : k = 0 := by omega
                exact chk_0
              · skip
                by_cases h1_3 : k < 2
                · skip
                  obtain rfl : k = 1 := by omega
                  exact chk_1
                · skip
                  obtain rfl : k = 2 := by omega
                  exact chk_2
            · skip
              by_cases h3_7 : k < 5
              · skip
                by_cases h3_5 : k < 4
                · skip
                  obtain rfl : k = 3 := by omega
                  exact chk_3
                · skip
                  obtain rfl : k = 4 := by omega
                  exact chk_4
              · skip
                by_cases h5_7 : k < 6
                · skip
                  obtain rfl : k = 5 := by omega
                  exact chk_5
                · skip
                  obtain rfl : k = 6 := by omega
                  exact chk_6
          · skip
            by_cases h7_14 : k < 10
            · skip
              by_cases h7_10 : k < 8
              · skip
                obtain rfl : k = 7 := by omega
                exact chk_7
              · skip
                by_cases h8_10 : k < 9
                · skip
                  obtain rfl : k = 8 := by omega
                  exact chk_8
                · skip
                  obtain rfl : k = 9 := by omega
                  exact chk_9
            · skip
              by_cases h10_14 : k < 12
              · skip
                by_cases h10_12 : k < 11
                · skip
                  obtain rfl : k = 10 := by omega
                  exact chk_10
                · skip
                  obtain rfl : k = 11 := by omega
                  exact chk_11
              · skip
                by_cases h12_14 : k < 13
                · skip
                  obtain rfl : k = 12 := by omega
                  exact chk_12
                · skip
                  obtain rfl : k = 13 := by omega
                  exact chk_13
        · skip
          by_cases h14_29 : k < 21
          · skip
            by_cases h14_21 : k < 17
            · skip
              by_cases h14_17 : k < 15
              · skip
                obtain rfl : k = 14 := by omega
                exact chk_14
              · skip
                by_cases h15_17 : k < 16
                · skip
                  obtain rfl : k = 15 := by omega
                  exact chk_15
                · skip
                  obtain rfl : k = 16 := by omega
                  exact chk_16
            · skip
              by_cases h17_21 : k < 19
              · skip
                by_cases h17_19 : k < 18
                · skip
                  obtain rfl : k = 17 := by omega
                  exact chk_17
                · skip
                  obtain rfl : k = 18 := by omega
                  exact chk_18
              · skip
                by_cases h19_21 : k < 20
                · skip
                  obtain rfl : k = 19 := by omega
                  exact chk_19
                · skip
                  obtain rfl : k = 20 := by omega
                  exact chk_20
          · skip
            by_cases h21_29 : k < 25
            · skip
              by_cases h21_25 : k < 23
              · skip
                by_cases h21_23 : k < 22
                · skip
                  obtain rfl : k = 21 := by omega
                  exact chk_21
                · skip
                  obtain rfl : k = 22 := by omega
                  exact chk_22
              · skip
                by_cases h23_25 : k < 24
                · skip
                  obtain rfl : k = 23 := by omega
                  exact chk_23
                · skip
                  obtain rfl : k = 24 := by omega
                  exact chk_24
            · skip
              by_cases h25_29 : k < 27
              · skip
                by_cases h25_27 : k < 26
                · skip
                  obtain rfl : k = 25 := by omega
                  exact chk_25
                · skip
                  obtain rfl : k = 26 := by omega
                  exact chk_26
              · skip
                by_cases h27_29 : k < 28
                · skip
                  obtain rfl : k = 27 := by omega
                  exact chk_27
                · skip
                  obtain rfl : k = 28 := by omega
                  exact chk_28
      · skip
        by_cases h29_59 : k < 44
        · skip
          by_cases h29_44 : k < 36
          · skip
            by_cases h29_36 : k < 32
            · skip
              by_cases h29_32 : k < 30
              · skip
                obtain rfl : k = 29 := by omega
                exact chk_29
              · skip
                by_cases h30_32 : k < 31
                · skip
                  obtain rfl : k = 30 := by omega
                  exact chk_30
                · skip
                  obtain rfl : k = 31 := by omega
                  exact chk_31
            · skip
              by_cases h32_36 : k < 34
              · skip
                by_cases h32_34 : k < 33
                · skip
                  obtain rfl : k = 32 := by omega
                  exact chk_32
                · skip
                  obtain rfl : k = 33 := by omega
                  exact chk_33
              · skip
                by_cases h34_36 : k < 35
                · skip
                  obtain rfl : k = 34 := by omega
                  exact chk_34
                · skip
                  obtain rfl : k = 35 := by omega
                  exact chk_35
          · skip
            by_cases h36_44 : k < 40
            · skip
              by_cases h36_40 : k < 38
              · skip
                by_cases h36_38 : k < 37
                · skip
                  obtain rfl : k = 36 := by omega
                  exact chk_36
                · skip
                  obtain rfl : k = 37 := by omega
                  exact chk_37
              · skip
                by_cases h38_40 : k < 39
                · skip
                  obtain rfl : k = 38 := by omega
                  exact chk_38
                · skip
                  obtain rfl : k = 39 := by omega
                  exact chk_39
            · skip
              by_cases h40_44 : k < 42
              · skip
                by_cases h40_42 : k < 41
                · skip
                  obtain rfl : k = 40 := by omega
                  exact chk_40
                · skip
                  obtain rfl : k = 41 := by omega
                  exact chk_41
              · skip
                by_cases h42_44 : k < 43
                · skip
                  obtain rfl : k = 42 := by omega
                  exact chk_42
                · skip
                  obtain rfl : k = 43 := by omega
                  exact chk_43
        · skip
          by_cases h44_59 : k < 51
          · skip
            by_cases h44_51 : k < 47
            · skip
              by_cases h44_47 : k < 45
              · skip
                obtain rfl : k = 44 := by omega
                exact chk_44
              · skip
                by_cases h45_47 : k < 46
                · skip
                  obtain rfl : k = 45 := by omega
                  exact chk_45
                · skip
                  obtain rfl : k = 46 := by omega
                  exact chk_46
            · skip
              by_cases h47_51 : k < 49
              · skip
                by_cases h47_49 : k < 48
                · skip
                  obtain rfl : k = 47 := by omega
                  exact chk_47
                · skip
                  obtain rfl : k = 48 := by omega
                  exact chk_48
              · skip
                by_cases h49_51 : k < 50
                · skip
                  obtain rfl : k = 49 := by omega
                  exact chk_49
                · skip
                  obtain rfl : k = 50 := by omega
                  exact chk_50
          · skip
            by_cases h51_59 : k < 55
            · skip
              by_cases h51_55 : k < 53
              · skip
                by_cases h51_53 : k < 52
                · skip
                  obtain rfl : k = 51 := by omega
                  exact chk_51
                · skip
                  obtain rfl : k = 52 := by omega
                  exact chk_52
              · skip
                by_cases h53_55 : k < 54
                · skip
                  obtain rfl : k = 53 := by omega
                  exact chk_53
                · skip
                  obtain rfl : k = 54 := by omega
                  exact chk_54
            · skip
              by_cases h55_59 : k < 57
              · skip
                by_cases h55_57 : k < 56
                · skip
                  obtain rfl : k = 55 := by omega
                  exact chk_55
                · skip
                  obtain rfl : k = 56 := by omega
                  exact chk_56
              · skip
                by_cases h57_59 : k < 58
                · skip
                  obtain rfl : k = 57 := by omega
                  exact chk_57
                · skip
                  obtain rfl : k = 58 := by omega
                  exact chk_58
    · skip
      by_cases h59_118 : k < 88
      · skip
        by_cases h59_88 : k < 73
        · skip
          by_cases h59_73 : k < 66
          · skip
            by_cases h59_66 : k < 62
            · skip
              by_cases h59_62 : k < 60
              · skip
                obtain rfl : k = 59 := by omega
                exact chk_59
              · skip
                by_cases h60_62 : k < 61
                · skip
                  obtain rfl : k = 60 := by omega
                  exact chk_60
                · skip
                  obtain rfl : k = 61 := by omega
                  exact chk_61
            · skip
              by_cases h62_66 : k < 64
              · skip
                by_cases h62_64 : k < 63
                · skip
                  obtain rfl : k = 62 := by omega
                  exact chk_62
                · skip
                  obtain rfl : k = 63 := by omega
                  exact chk_63
              · skip
                by_cases h64_66 : k < 65
                · skip
                  obtain rfl : k = 64 := by omega
                  exact chk_64
                · skip
                  obtain rfl : k = 65 := by omega
                  exact chk_65
          · skip
            by_cases h66_73 : k < 69
            · skip
              by_cases h66_69 : k < 67
              · skip
                obtain rfl : k = 66 := by omega
                exact chk_66
              · skip
                by_cases h67_69 : k < 68
                · skip
                  obtain rfl : k = 67 := by omega
                  exact chk_67
                · skip
                  obtain rfl : k = 68 := by omega
                  exact chk_68
            · skip
              by_cases h69_73 : k < 71
              · skip
                by_cases h69_71 : k < 70
                · skip
                  obtain rfl : k = 69 := by omega
                  exact chk_69
                · skip
                  obtain rfl : k = 70 := by omega
                  exact chk_70
              · skip
                by_cases h71_73 : k < 72
                · skip
                  obtain rfl : k = 71 := by omega
                  exact chk_71
                · skip
                  obtain rfl : k = 72 := by omega
                  exact chk_72
        · skip
          by_cases h73_88 : k < 80
          · skip
            by_cases h73_80 : k < 76
            · skip
              by_cases h73_76 : k < 74
              · skip
                obtain rfl : k = 73 := by omega
                exact chk_73
              · skip
                by_cases h74_76 : k < 75
                · skip
                  obtain rfl : k = 74 := by omega
                  exact chk_74
                · skip
                  obtain rfl : k = 75 := by omega
                  exact chk_75
            · skip
              by_cases h76_80 : k < 78
              · skip
                by_cases h76_78 : k < 77
                · skip
                  obtain rfl : k = 76 := by omega
                  exact chk_76
                · skip
                  obtain rfl : k = 77 := by omega
                  exact chk_77
              · skip
                by_cases h78_80 : k < 79
                · skip
                  obtain rfl : k = 78 := by omega
                  exact chk_78
                · skip
                  obtain rfl : k = 79 := by omega
                  exact chk_79
          · skip
            by_cases h80_88 : k < 84
            · skip
              by_cases h80_84 : k < 82
              · skip
                by_cases h80_82 : k < 81
                · skip
                  obtain rfl : k = 80 := by omega
                  exact chk_80
                · skip
                  obtain rfl : k = 81 := by omega
                  exact chk_81
              · skip
                by_cases h82_84 : k < 83
                · skip
                  obtain rfl : k = 82 := by omega
                  exact chk_82
                · skip
                  obtain rfl : k = 83 := by omega
                  exact chk_83
            · skip
              by_cases h84_88 : k < 86
              · skip
                by_cases h84_86 : k < 85
                · skip
                  obtain rfl : k = 84 := by omega
                  exact chk_84
                · skip
                  obtain rfl : k = 85 := by omega
                  exact chk_85
              · skip
                by_cases h86_88 : k < 87
                · skip
                  obtain rfl : k = 86 := by omega
                  exact chk_86
                · skip
                  obtain rfl : k = 87 := by omega
                  exact chk_87
      · skip
        by_cases h88_118 : k < 103
        · skip
          by_cases h88_103 : k < 95
          · skip
            by_cases h88_95 : k < 91
            · skip
              by_cases h88_91 : k < 89
              · skip
                obtain rfl : k = 88 := by omega
                exact chk_88
              · skip
                by_cases h89_91 : k < 90
                · skip
                  obtain rfl : k = 89 := by omega
                  exact chk_89
                · skip
                  obtain rfl : k = 90 := by omega
                  exact chk_90
            · skip
              by_cases h91_95 : k < 93
              · skip
                by_cases h91_93 : k < 92
                · skip
                  obtain rfl : k = 91 := by omega
                  exact chk_91
                · skip
                  obtain rfl : k = 92 := by omega
                  exact chk_92
              · skip
                by_cases h93_95 : k < 94
                · skip
                  obtain rfl : k = 93 := by omega
                  exact chk_93
                · skip
                  obtain rfl : k = 94 := by omega
                  exact chk_94
          · skip
            by_cases h95_103 : k < 99
            · skip
              by_cases h95_99 : k < 97
              · skip
                by_cases h95_97 : k < 96
                · skip
                  obtain rfl : k = 95 := by omega
                  exact chk_95
                · skip
                  obtain rfl : k = 96 := by omega
                  exact chk_96
              · skip
                by_cases h97_99 : k < 98
                · skip
                  obtain rfl : k = 97 := by omega
                  exact chk_97
                · skip
                  obtain rfl : k = 98 := by omega
                  exact chk_98
            · skip
              by_cases h99_103 : k < 101
              · skip
                by_cases h99_101 : k < 100
                · skip
                  obtain rfl : k = 99 := by omega
                  exact chk_99
                · skip
                  obtain rfl : k = 100 := by omega
                  exact chk_100
              · skip
                by_cases h101_103 : k < 102
                · skip
                  obtain rfl : k = 101 := by omega
                  exact chk_101
                · skip
                  obtain rfl : k = 102 := by omega
                  exact chk_102
        · skip
          by_cases h103_118 : k < 110
          · skip
            by_cases h103_110 : k < 106
            · skip
              by_cases h103_106 : k < 104
              · skip
                obtain rfl : k = 103 := by omega
                exact chk_103
              · skip
                by_cases h104_106 : k < 105
                · skip
                  obtain rfl : k = 104 := by omega
                  exact chk_104
                · skip
                  obtain rfl : k = 105 := by omega
                  exact chk_105
            · skip
              by_cases h106_110 : k < 108
              · skip
                by_cases h106_108 : k < 107
                · skip
                  obtain rfl : k = 106 := by omega
                  exact chk_106
                · skip
                  obtain rfl : k = 107 := by omega
                  exact chk_107
              · skip
                by_cases h108_110 : k < 109
                · skip
                  obtain rfl : k = 108 := by omega
                  exact chk_108
                · skip
                  obtain rfl : k = 109 := by omega
                  exact chk_109
          · skip
            by_cases h110_118 : k < 114
            · skip
              by_cases h110_114 : k < 112
              · skip
                by_cases h110_112 : k < 111
                · skip
                  obtain rfl : k = 110 := by omega
                  exact chk_110
                · skip
                  obtain rfl : k = 111 := by omega
                  exact chk_111
              · skip
                by_cases h112_114 : k < 113
                · skip
                  obtain rfl : k = 112 := by omega
                  exact chk_112
                · skip
                  obtain rfl : k = 113 := by omega
                  exact chk_113
            · skip
              by_cases h114_118 : k < 116
              · skip
                by_cases h114_116 : k < 115
                · skip
                  obtain rfl : k = 114 := by omega
                  exact chk_114
                · skip
                  obtain rfl : k = 115 := by omega
                  exact chk_115
              · skip
                by_cases h116_118 : k < 117
                · skip
                  obtain rfl : k = 116 := by omega
                  exact chk_116
                · skip
                  obtain rfl : k = 117 := by omega
                  exact chk_117
  · skip
    by_cases h118_237 : k < 177
    · skip
      by_cases h118_177 : k < 147
      · skip
        by_cases h118_147 : k < 132
        · skip
          by_cases h118_132 : k < 125
          · skip
            by_cases h118_125 : k < 121
            · skip
              by_cases h118_121 : k < 119
              · skip
                obtain rfl : k = 118 := by omega
                exact chk_118
              · skip
                by_cases h119_121 : k < 120
                · skip
                  obtain rfl : k = 119 := by omega
                  exact chk_119
                · skip
                  obtain rfl : k = 120 := by omega
                  exact chk_120
            · skip
              by_cases h121_125 : k < 123
              · skip
                by_cases h121_123 : k < 122
                · skip
                  obtain rfl : k = 121 := by omega
                  exact chk_121
                · skip
                  obtain rfl : k = 122 := by omega
                  exact chk_122
              · skip
                by_cases h123_125 : k < 124
                · skip
                  obtain rfl : k = 123 := by omega
                  exact chk_123
                · skip
                  obtain rfl : k = 124 := by omega
                  exact chk_124
          · skip
            by_cases h125_132 : k < 128
            · skip
              by_cases h125_128 : k < 126
              · skip
                obtain rfl : k = 125 := by omega
                exact chk_125
              · skip
                by_cases h126_128 : k < 127
                · skip
                  obtain rfl : k = 126 := by omega
                  exact chk_126
                · skip
                  obtain rfl : k = 127 := by omega
                  exact chk_127
            · skip
              by_cases h128_132 : k < 130
              · skip
                by_cases h128_130 : k < 129
                · skip
                  obtain rfl : k = 128 := by omega
                  exact chk_128
                · skip
                  obtain rfl : k = 129 := by omega
                  exact chk_129
              · skip
                by_cases h130_132 : k < 131
                · skip
                  obtain rfl : k = 130 := by omega
                  exact chk_130
                · skip
                  obtain rfl : k = 131 := by omega
                  exact chk_131
        · skip
          by_cases h132_147 : k < 139
          · skip
            by_cases h132_139 : k < 135
            · skip
              by_cases h132_135 : k < 133
              · skip
                obtain rfl : k = 132 := by omega
                exact chk_132
              · skip
                by_cases h133_135 : k < 134
                · skip
                  obtain rfl : k = 133 := by omega
                  exact chk_133
                · skip
                  obtain rfl : k = 134 := by omega
                  exact chk_134
            · skip
              by_cases h135_139 : k < 137
              · skip
                by_cases h135_137 : k < 136
                · skip
                  obtain rfl : k = 135 := by omega
                  exact chk_135
                · skip
                  obtain rfl : k = 136 := by omega
                  exact chk_136
              · skip
                by_cases h137_139 : k < 138
                · skip
                  obtain rfl : k = 137 := by omega
                  exact chk_137
                · skip
                  obtain rfl : k = 138 := by omega
                  exact chk_138
          · skip
            by_cases h139_147 : k < 143
            · skip
              by_cases h139_143 : k < 141
              · skip
                by_cases h139_141 : k < 140
                · skip
                  obtain rfl : k = 139 := by omega
                  exact chk_139
                · skip
                  obtain rfl : k = 140 := by omega
                  exact chk_140
              · skip
                by_cases h141_143 : k < 142
                · skip
                  obtain rfl : k = 141 := by omega
                  exact chk_141
                · skip
                  obtain rfl : k = 142 := by omega
                  exact chk_142
            · skip
              by_cases h143_147 : k < 145
              · skip
                by_cases h143_145 : k < 144
                · skip
                  obtain rfl : k = 143 := by omega
                  exact chk_143
                · skip
                  obtain rfl : k = 144 := by omega
                  exact chk_144
              · skip
                by_cases h145_147 : k < 146
                · skip
                  obtain rfl : k = 145 := by omega
                  exact chk_145
                · skip
                  obtain rfl : k = 146 := by omega
                  exact chk_146
      · skip
        by_cases h147_177 : k < 162
        · skip
          by_cases h147_162 : k < 154
          · skip
            by_cases h147_154 : k < 150
            · skip
              by_cases h147_150 : k < 148
              · skip
                obtain rfl : k = 147 := by omega
                exact chk_147
              · skip
                by_cases h148_150 : k < 149
                · skip
                  obtain rfl : k = 148 := by omega
                  exact chk_148
                · skip
                  obtain rfl : k = 149 := by omega
                  exact chk_149
            · skip
              by_cases h150_154 : k < 152
              · skip
                by_cases h150_152 : k < 151
                · skip
                  obtain rfl : k = 150 := by omega
                  exact chk_150
                · skip
                  obtain rfl : k = 151 := by omega
                  exact chk_151
              · skip
                by_cases h152_154 : k < 153
                · skip
                  obtain rfl : k = 152 := by omega
                  exact chk_152
                · skip
                  obtain rfl : k = 153 := by omega
                  exact chk_153
          · skip
            by_cases h154_162 : k < 158
            · skip
              by_cases h154_158 : k < 156
              · skip
                by_cases h154_156 : k < 155
                · skip
                  obtain rfl : k = 154 := by omega
                  exact chk_154
                · skip
                  obtain rfl : k = 155 := by omega
                  exact chk_155
              · skip
                by_cases h156_158 : k < 157
                · skip
                  obtain rfl : k = 156 := by omega
                  exact chk_156
                · skip
                  obtain rfl : k = 157 := by omega
                  exact chk_157
            · skip
              by_cases h158_162 : k < 160
              · skip
                by_cases h158_160 : k < 159
                · skip
                  obtain rfl : k = 158 := by omega
                  exact chk_158
                · skip
                  obtain rfl : k = 159 := by omega
                  exact chk_159
              · skip
                by_cases h160_162 : k < 161
                · skip
                  obtain rfl : k = 160 := by omega
                  exact chk_160
                · skip
                  obtain rfl : k = 161 := by omega
                  exact chk_161
        · skip
          by_cases h162_177 : k < 169
          · skip
            by_cases h162_169 : k < 165
            · skip
              by_cases h162_165 : k < 163
              · skip
                obtain rfl : k = 162 := by omega
                exact chk_162
              · skip
                by_cases h163_165 : k < 164
                · skip
                  obtain rfl : k = 163 := by omega
                  exact chk_163
                · skip
                  obtain rfl : k = 164 := by omega
                  exact chk_164
            · skip
              by_cases h165_169 : k < 167
              · skip
                by_cases h165_167 : k < 166
                · skip
                  obtain rfl : k = 165 := by omega
                  exact chk_165
                · skip
                  obtain rfl : k = 166 := by omega
                  exact chk_166
              · skip
                by_cases h167_169 : k < 168
                · skip
                  obtain rfl : k = 167 := by omega
                  exact chk_167
                · skip
                  obtain rfl : k = 168 := by omega
                  exact chk_168
          · skip
            by_cases h169_177 : k < 173
            · skip
              by_cases h169_173 : k < 171
              · skip
                by_cases h169_171 : k < 170
                · skip
                  obtain rfl : k = 169 := by omega
                  exact chk_169
                · skip
                  obtain rfl : k = 170 := by omega
                  exact chk_170
              · skip
                by_cases h171_173 : k < 172
                · skip
                  obtain rfl : k = 171 := by omega
                  exact chk_171
                · skip
                  obtain rfl : k = 172 := by omega
                  exact chk_172
            · skip
              by_cases h173_177 : k < 175
              · skip
                by_cases h173_175 : k < 174
                · skip
                  obtain rfl : k = 173 := by omega
                  exact chk_173
                · skip
                  obtain rfl : k = 174 := by omega
                  exact chk_174
              · skip
                by_cases h175_177 : k < 176
                · skip
                  obtain rfl : k = 175 := by omega
                  exact chk_175
                · skip
                  obtain rfl : k = 176 := by omega
                  exact chk_176
    · skip
      by_cases h177_237 : k < 207
      · skip
        by_cases h177_207 : k < 192
        · skip
          by_cases h177_192 : k < 184
          · skip
            by_cases h177_184 : k < 180
            · skip
              by_cases h177_180 : k < 178
              · skip
                obtain rfl : k = 177 := by omega
                exact chk_177
              · skip
                by_cases h178_180 : k < 179
                · skip
                  obtain rfl : k = 178 := by omega
                  exact chk_178
                · skip
                  obtain rfl : k = 179 := by omega
                  exact chk_179
            · skip
              by_cases h180_184 : k < 182
              · skip
                by_cases h180_182 : k < 181
                · skip
                  obtain rfl : k = 180 := by omega
                  exact chk_180
                · skip
                  obtain rfl : k = 181 := by omega
                  exact chk_181
              · skip
                by_cases h182_184 : k < 183
                · skip
                  obtain rfl : k = 182 := by omega
                  exact chk_182
                · skip
                  obtain rfl : k = 183 := by omega
                  exact chk_183
          · skip
            by_cases h184_192 : k < 188
            · skip
              by_cases h184_188 : k < 186
              · skip
                by_cases h184_186 : k < 185
                · skip
                  obtain rfl : k = 184 := by omega
                  exact chk_184
                · skip
                  obtain rfl : k = 185 := by omega
                  exact chk_185
              · skip
                by_cases h186_188 : k < 187
                · skip
                  obtain rfl : k = 186 := by omega
                  exact chk_186
                · skip
                  obtain rfl : k = 187 := by omega
                  exact chk_187
            · skip
              by_cases h188_192 : k < 190
              · skip
                by_cases h188_190 : k < 189
                · skip
                  obtain rfl : k = 188 := by omega
                  exact chk_188
                · skip
                  obtain rfl : k = 189 := by omega
                  exact chk_189
              · skip
                by_cases h190_192 : k < 191
                · skip
                  obtain rfl : k = 190 := by omega
                  exact chk_190
                · skip
                  obtain rfl : k = 191 := by omega
                  exact chk_191
        · skip
          by_cases h192_207 : k < 199
          · skip
            by_cases h192_199 : k < 195
            · skip
              by_cases h192_195 : k < 193
              · skip
                obtain rfl : k = 192 := by omega
                exact chk_192
              · skip
                by_cases h193_195 : k < 194
                · skip
                  obtain rfl : k = 193 := by omega
                  exact chk_193
                · skip
                  obtain rfl : k = 194 := by omega
                  exact chk_194
            · skip
              by_cases h195_199 : k < 197
              · skip
                by_cases h195_197 : k < 196
                · skip
                  obtain rfl : k = 195 := by omega
                  exact chk_195
                · skip
                  obtain rfl : k = 196 := by omega
                  exact chk_196
              · skip
                by_cases h197_199 : k < 198
                · skip
                  obtain rfl : k = 197 := by omega
                  exact chk_197
                · skip
                  obtain rfl : k = 198 := by omega
                  exact chk_198
          · skip
            by_cases h199_207 : k < 203
            · skip
              by_cases h199_203 : k < 201
              · skip
                by_cases h199_201 : k < 200
                · skip
                  obtain rfl : k = 199 := by omega
                  exact chk_199
                · skip
                  obtain rfl : k = 200 := by omega
                  exact chk_200
              · skip
                by_cases h201_203 : k < 202
                · skip
                  obtain rfl : k = 201 := by omega
                  exact chk_201
                · skip
                  obtain rfl : k = 202 := by omega
                  exact chk_202
            · skip
              by_cases h203_207 : k < 205
              · skip
                by_cases h203_205 : k < 204
                · skip
                  obtain rfl : k = 203 := by omega
                  exact chk_203
                · skip
                  obtain rfl : k = 204 := by omega
                  exact chk_204
              · skip
                by_cases h205_207 : k < 206
                · skip
                  obtain rfl : k = 205 := by omega
                  exact chk_205
                · skip
                  obtain rfl : k = 206 := by omega
                  exact chk_206
      · skip
        by_cases h207_237 : k < 222
        · skip
          by_cases h207_222 : k < 214
          · skip
            by_cases h207_214 : k < 210
            · skip
              by_cases h207_210 : k < 208
              · skip
                obtain rfl : k = 207 := by omega
                exact chk_207
              · skip
                by_cases h208_210 : k < 209
                · skip
                  obtain rfl : k = 208 := by omega
                  exact chk_208
                · skip
                  obtain rfl : k = 209 := by omega
                  exact chk_209
            · skip
              by_cases h210_214 : k < 212
              · skip
                by_cases h210_212 : k < 211
                · skip
                  obtain rfl : k = 210 := by omega
                  exact chk_210
                · skip
                  obtain rfl : k = 211 := by omega
                  exact chk_211
              · skip
                by_cases h212_214 : k < 213
                · skip
                  obtain rfl : k = 212 := by omega
                  exact chk_212
                · skip
                  obtain rfl : k = 213 := by omega
                  exact chk_213
          · skip
            by_cases h214_222 : k < 218
            · skip
              by_cases h214_218 : k < 216
              · skip
                by_cases h214_216 : k < 215
                · skip
                  obtain rfl : k = 214 := by omega
                  exact chk_214
                · skip
                  obtain rfl : k = 215 := by omega
                  exact chk_215
              · skip
                by_cases h216_218 : k < 217
                · skip
                  obtain rfl : k = 216 := by omega
                  exact chk_216
                · skip
                  obtain rfl : k = 217 := by omega
                  exact chk_217
            · skip
              by_cases h218_222 : k < 220
              · skip
                by_cases h218_220 : k < 219
                · skip
                  obtain rfl : k = 218 := by omega
                  exact chk_218
                · skip
                  obtain rfl : k = 219 := by omega
                  exact chk_219
              · skip
                by_cases h220_222 : k < 221
                · skip
                  obtain rfl : k = 220 := by omega
                  exact chk_220
                · skip
                  obtain rfl : k = 221 := by omega
                  exact chk_221
        · skip
          by_cases h222_237 : k < 229
          · skip
            by_cases h222_229 : k < 225
            · skip
              by_cases h222_225 : k < 223
              · skip
                obtain rfl : k = 222 := by omega
                exact chk_222
              · skip
                by_cases h223_225 : k < 224
                · skip
                  obtain rfl : k = 223 := by omega
                  exact chk_223
                · skip
                  obtain rfl : k = 224 := by omega
                  exact chk_224
            · skip
              by_cases h225_229 : k < 227
              · skip
                by_cases h225_227 : k < 226
                · skip
                  obtain rfl : k = 225 := by omega
                  exact chk_225
                · skip
                  obtain rfl : k = 226 := by omega
                  exact chk_226
              · skip
                by_cases h227_229 : k < 228
                · skip
                  obtain rfl : k = 227 := by omega
                  exact chk_227
                · skip
                  obtain rfl : k = 228 := by omega
                  exact chk_228
          · skip
            by_cases h229_237 : k < 233
            · skip
              by_cases h229_233 : k < 231
              · skip
                by_cases h229_231 : k < 230
                · skip
                  obtain rfl : k = 229 := by omega
                  exact chk_229
                · skip
                  obtain rfl : k = 230 := by omega
                  exact chk_230
              · skip
                by_cases h231_233 : k < 232
                · skip
                  obtain rfl : k = 231 := by omega
                  exact chk_231
                · skip
                  obtain rfl : k = 232 := by omega
                  exact chk_232
            · skip
              by_cases h233_237 : k < 235
              · skip
                by_cases h233_235 : k < 234
                · skip
                  obtain rfl : k = 233 := by omega
                  exact chk_233
                · skip
                  obtain rfl : k = 234 := by omega
                  exact chk_234
              · skip
                by_cases h235_237 : k < 236
                · skip
                  obtain rfl : k = 235 := by omega
                  exact chk_235
                · skip
                  obtain rfl : k = 236 := by omega
                  exact chk_236
