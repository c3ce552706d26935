theorem ltp {w : Cond} (h : w ∈ k2_sels lw_privs) : w ∈ lw_tbl := List.mem_append_left _ h
theorem ltt {w : Cond} (h : w ∈ tables_1) : w ∈ lw_tbl := List.mem_append_right _ h
theorem lt1 {w : Cond} (h : w ∈ tables_1_1) : w ∈ lw_tbl := ltt (List.mem_append_left _ h)
theorem lt2 {w : Cond} (h : w ∈ tables_1_2) : w ∈ lw_tbl := ltt (List.mem_append_right _ (List.mem_append_left _ h))
theorem lt3 {w : Cond} (h : w ∈ tables_1_3) : w ∈ lw_tbl := ltt (List.mem_append_right _ (List.mem_append_right _ (List.mem_append_left _ h)))
theorem lt4 {w : Cond} (h : w ∈ tables_1_4) : w ∈ lw_tbl := ltt (List.mem_append_right _ (List.mem_append_right _ (List.mem_append_right _ (List.mem_append_left _ h))))
theorem lt5 {w : Cond} (h : w ∈ tables_1_5) : w ∈ lw_tbl := ltt (List.mem_append_right _ (List.mem_append_right _ (List.mem_append_right _ (List.mem_append_right _ (List.mem_append_left _ h)))))
theorem lt6 {w : Cond} (h : w ∈ tables_1_6) : w ∈ lw_tbl := ltt (List.mem_append_right _ (List.mem_append_right _ (List.mem_append_right _ (List.mem_append_right _ (List.mem_append_right _ (List.mem_append_left _ h))))))
theorem lt7 {w : Cond} (h : w ∈ tables_1_7) : w ∈ lw_tbl := ltt (List.mem_append_right _ (List.mem_append_right _ (List.mem_append_right _ (List.mem_append_right _ (List.mem_append_right _ (List.mem_append_right _ (List.mem_append_left _ h)))))))
theorem lt8 {w : Cond} (h : w ∈ tables_1_8) : w ∈ lw_tbl := ltt (List.mem_append_right _ (List.mem_append_right _ (List.mem_append_right _ (List.mem_append_right _ (List.mem_append_right _ (List.mem_append_right _ (List.mem_append_right _ (List.mem_append_left _ h))))))))
theorem lt9 {w : Cond} (h : w ∈ tables_1_9) : w ∈ lw_tbl := ltt (List.mem_append_right _ (List.mem_append_right _ (List.mem_append_right _ (List.mem_append_right _ (List.mem_append_right _ (List.mem_append_right _ (List.mem_append_right _ (List.mem_append_right _ (h)))))))))
theorem sh_0 : sh 0 = (10, 13) := by decide +kernel
theorem sh_1 : sh 1 = (8, 2) := by decide +kernel
theorem sh_2 : sh 2 = (20, 900) := by decide +kernel
theorem sh_3 : sh 3 = (4, 19) := by decide +kernel
theorem sh_4 : sh 4 = (23, 7) := by decide +kernel
theorem sh_5 : sh 5 = (20, 5) := by decide +kernel
theorem sh_6 : sh 6 = (20, 5) := by decide +kernel
theorem sh_7 : sh 7 = (20, 5) := by decide +kernel
theorem sh_8 : sh 8 = (20, 5) := by decide +kernel
theorem sh_9 : sh 9 = (20, 5) := by decide +kernel
theorem sh_10 : sh 10 = (20, 5) := by decide +kernel
theorem sh_11 : sh 11 = (20, 5) := by decide +kernel
theorem sh_12 : sh 12 = (23, 14) := by decide +kernel
theorem sh_13 : sh 13 = (20, 7) := by decide +kernel
theorem sh_14 : sh 14 = (20, 7) := by decide +kernel
theorem sh_15 : sh 15 = (20, 7) := by decide +kernel
theorem sh_16 : sh 16 = (20, 7) := by decide +kernel
theorem sh_17 : sh 17 = (20, 7) := by decide +kernel
theorem sh_18 : sh 18 = (20, 7) := by decide +kernel
theorem sh_19 : sh 19 = (20, 7) := by decide +kernel
theorem sh_20 : sh 20 = (20, 7) := by decide +kernel
theorem sh_21 : sh 21 = (20, 7) := by decide +kernel
theorem sh_22 : sh 22 = (20, 7) := by decide +kernel
theorem sh_23 : sh 23 = (20, 7) := by decide +kernel
theorem sh_24 : sh 24 = (20, 7) := by decide +kernel
theorem sh_25 : sh 25 = (20, 7) := by decide +kernel
theorem sh_26 : sh 26 = (20, 7) := by decide +kernel
theorem sh_27 : sh 27 = (23, 7) := by decide +kernel
theorem sh_28 : sh 28 = (20, 3) := by decide +kernel
theorem sh_29 : sh 29 = (20, 3) := by decide +kernel
theorem sh_30 : sh 30 = (20, 3) := by decide +kernel
theorem sh_31 : sh 31 = (20, 3) := by decide +kernel
theorem sh_32 : sh 32 = (20, 3) := by decide +kernel
theorem sh_33 : sh 33 = (20, 3) := by decide +kernel
theorem sh_34 : sh 34 = (20, 3) := by decide +kernel
theorem sh_35 : sh 35 = (20, 5) := by decide +kernel
theorem sh_36 : sh 36 = (20, 5) := by decide +kernel
theorem sh_37 : sh 37 = (20, 7) := by decide +kernel
theorem sh_38 : sh 38 = (20, 120) := by decide +kernel
theorem sh_39 : sh 39 = (4, 19) := by decide +kernel
theorem sh_40 : sh 40 = (23, 7) := by decide +kernel
theorem sh_41 : sh 41 = (20, 5) := by decide +kernel
theorem sh_42 : sh 42 = (20, 5) := by decide +kernel
theorem sh_43 : sh 43 = (20, 5) := by decide +kernel
theorem sh_44 : sh 44 = (20, 5) := by decide +kernel
theorem sh_45 : sh 45 = (20, 5) := by decide +kernel
theorem sh_46 : sh 46 = (20, 5) := by decide +kernel
theorem sh_47 : sh 47 = (20, 5) := by decide +kernel
theorem sh_48 : sh 48 = (23, 14) := by decide +kernel
theorem sh_49 : sh 49 = (20, 7) := by decide +kernel
theorem sh_50 : sh 50 = (20, 7) := by decide +kernel
theorem sh_51 : sh 51 = (20, 7) := by decide +kernel
theorem sh_52 : sh 52 = (20, 7) := by decide +kernel
theorem sh_53 : sh 53 = (20, 7) := by decide +kernel
theorem sh_54 : sh 54 = (20, 7) := by decide +kernel
theorem sh_55 : sh 55 = (20, 7) := by decide +kernel
theorem sh_56 : sh 56 = (20, 7) := by decide +kernel
theorem sh_57 : sh 57 = (20, 7) := by decide +kernel
theorem sh_58 : sh 58 = (20, 7) := by decide +kernel
theorem sh_59 : sh 59 = (20, 7) := by decide +kernel
theorem sh_60 : sh 60 = (20, 7) := by decide +kernel
theorem sh_61 : sh 61 = (20, 7) := by decide +kernel
theorem sh_62 : sh 62 = (20, 7) := by decide +kernel
theorem sh_63 : sh 63 = (23, 7) := by decide +kernel
theorem sh_64 : sh 64 = (20, 3) := by decide +kernel
theorem sh_65 : sh 65 = (20, 3) := by decide +kernel
theorem sh_66 : sh 66 = (20, 3) := by decide +kernel
theorem sh_67 : sh 67 = (20, 3) := by decide +kernel
theorem sh_68 : sh 68 = (20, 3) := by decide +kernel
theorem sh_69 : sh 69 = (20, 3) := by decide +kernel
theorem sh_70 : sh 70 = (20, 3) := by decide +kernel
theorem sh_71 : sh 71 = (20, 5) := by decide +kernel
theorem sh_72 : sh 72 = (20, 5) := by decide +kernel
theorem sh_73 : sh 73 = (20, 7) := by decide +kernel
theorem sh_74 : sh 74 = (20, 120) := by decide +kernel
theorem sh_75 : sh 75 = (5, 8) := by decide +kernel
theorem sh_76 : sh 76 = (21, 7) := by decide +kernel
theorem sh_77 : sh 77 = (21, 5) := by decide +kernel
theorem sh_78 : sh 78 = (20, 8) := by decide +kernel
theorem sh_79 : sh 79 = (9, 7) := by decide +kernel
theorem sh_80 : sh 80 = (2, 3) := by decide +kernel
theorem sh_81 : sh 81 = (0, 6) := by decide +kernel
theorem sh_82 : sh 82 = (21, 12) := by decide +kernel
theorem sh_83 : sh 83 = (21, 12) := by decide +kernel
theorem sh_84 : sh 84 = (21, 3) := by decide +kernel
theorem sh_85 : sh 85 = (3, 13) := by decide +kernel
theorem sh_86 : sh 86 = (20, 128) := by decide +kernel
theorem sh_87 : sh 87 = (23, 14) := by decide +kernel
theorem sh_88 : sh 88 = (20, 14) := by decide +kernel
theorem sh_89 : sh 89 = (20, 14) := by decide +kernel
theorem sh_90 : sh 90 = (20, 14) := by decide +kernel
theorem sh_91 : sh 91 = (20, 14) := by decide +kernel
theorem sh_92 : sh 92 = (20, 14) := by decide +kernel
theorem sh_93 : sh 93 = (20, 14) := by decide +kernel
theorem sh_94 : sh 94 = (20, 14) := by decide +kernel
theorem sh_95 : sh 95 = (20, 14) := by decide +kernel
theorem sh_96 : sh 96 = (20, 14) := by decide +kernel
theorem sh_97 : sh 97 = (20, 14) := by decide +kernel
theorem sh_98 : sh 98 = (20, 14) := by decide +kernel
theorem sh_99 : sh 99 = (20, 14) := by decide +kernel
theorem sh_100 : sh 100 = (20, 14) := by decide +kernel
theorem sh_101 : sh 101 = (20, 14) := by decide +kernel
theorem sh_102 : sh 102 = (20, 14) := by decide +kernel
theorem sh_103 : sh 103 = (20, 5) := by decide +kernel
theorem sh_104 : sh 104 = (20, 14) := by decide +kernel
theorem sh_105 : sh 105 = (20, 14) := by decide +kernel
theorem sh_106 : sh 106 = (20, 14) := by decide +kernel
theorem sh_107 : sh 107 = (1, 8) := by decide +kernel
theorem sh_108 : sh 108 = (20, 7) := by decide +kernel
theorem sh_109 : sh 109 = (20, 7) := by decide +kernel
theorem sh_110 : sh 110 = (20, 128) := by decide +kernel
theorem sh_111 : sh 111 = (6, 6) := by decide +kernel
theorem sh_112 : sh 112 = (20, 120) := by decide +kernel
theorem sh_113 : sh 113 = (3, 13) := by decide +kernel
theorem sh_114 : sh 114 = (20, 128) := by decide +kernel
theorem sh_115 : sh 115 = (23, 14) := by decide +kernel
theorem sh_116 : sh 116 = (20, 14) := by decide +kernel
theorem sh_117 : sh 117 = (20, 14) := by decide +kernel
theorem sh_118 : sh 118 = (20, 14) := by decide +kernel
theorem sh_119 : sh 119 = (20, 14) := by decide +kernel
theorem sh_120 : sh 120 = (20, 14) := by decide +kernel
theorem sh_121 : sh 121 = (20, 14) := by decide +kernel
theorem sh_122 : sh 122 = (20, 14) := by decide +kernel
theorem sh_123 : sh 123 = (20, 14) := by decide +kernel
theorem sh_124 : sh 124 = (20, 14) := by decide +kernel
theorem sh_125 : sh 125 = (20, 14) := by decide +kernel
theorem sh_126 : sh 126 = (20, 14) := by decide +kernel
theorem sh_127 : sh 127 = (20, 14) := by decide +kernel
theorem sh_128 : sh 128 = (20, 14) := by decide +kernel
theorem sh_129 : sh 129 = (20, 14) := by decide +kernel
theorem sh_130 : sh 130 = (20, 14) := by decide +kernel
theorem sh_131 : sh 131 = (20, 5) := by decide +kernel
theorem sh_132 : sh 132 = (20, 14) := by decide +kernel
theorem sh_133 : sh 133 = (20, 14) := by decide +kernel
theorem sh_134 : sh 134 = (20, 14) := by decide +kernel
theorem sh_135 : sh 135 = (7, 3) := by decide +kernel
theorem sh_136 : sh 136 = (20, 128) := by decide +kernel
theorem sh_137 : sh 137 = (20, 7) := by decide +kernel
theorem sh_138 : sh 138 = (11, 38) := by decide +kernel
theorem sh_139 : sh 139 = (20, 900) := by decide +kernel
theorem sh_140 : sh 140 = (20, 8) := by decide +kernel
theorem sh_141 : sh 141 = (20, 281) := by decide +kernel
theorem sh_142 : sh 142 = (20, 281) := by decide +kernel
theorem sh_143 : sh 143 = (20, 13) := by decide +kernel
theorem sh_144 : sh 144 = (20, 13) := by decide +kernel
theorem sh_145 : sh 145 = (20, 156) := by decide +kernel
theorem sh_146 : sh 146 = (20, 156) := by decide +kernel
theorem sh_147 : sh 147 = (20, 39) := by decide +kernel
theorem sh_148 : sh 148 = (20, 5) := by decide +kernel
theorem sh_149 : sh 149 = (20, 5) := by decide +kernel
theorem sh_150 : sh 150 = (20, 14) := by decide +kernel
theorem sh_151 : sh 151 = (20, 14) := by decide +kernel
theorem sh_152 : sh 152 = (20, 14) := by decide +kernel
theorem sh_153 : sh 153 = (22, 128) := by decide +kernel
theorem sh_154 : sh 154 = (20, 128) := by decide +kernel
theorem sh_155 : sh 155 = (20, 7) := by decide +kernel
theorem sh_156 : sh 156 = (20, 7) := by decide +kernel
theorem sh_157 : sh 157 = (20, 5) := by decide +kernel
theorem sh_158 : sh 158 = (20, 3125) := by decide +kernel
theorem sh_159 : sh 159 = (20, 120) := by decide +kernel
theorem sh_160 : sh 160 = (21, 1) := by decide +kernel
theorem inX0 : ∀ w ∈ wsX00, w ∈ TB := by decide +kernel
theorem inX1 : ∀ w ∈ wsX10, w ∈ TB := by decide +kernel
theorem inX2 : ∀ w ∈ wsX20, w ∈ TB := by decide +kernel
theorem inX4 : ∀ w ∈ wsX40, w ∈ TB := by decide +kernel
theorem inX5 : ∀ w ∈ wsX50, w ∈ TB := by decide +kernel
theorem inX6 : ∀ w ∈ wsX60, w ∈ TB := by decide +kernel
theorem inX7 : ∀ w ∈ wsX70, w ∈ TB := by decide +kernel
theorem inX8 : ∀ w ∈ wsX80, w ∈ TB := by decide +kernel
theorem inX9 : ∀ w ∈ wsX90, w ∈ TB := by decide +kernel
theorem inX10 : ∀ w ∈ wsX100, w ∈ TB := by decide +kernel
theorem inX11 : ∀ w ∈ wsX110, w ∈ TB := by decide +kernel
theorem fl_X11_10 : FL RX11 10 10 13 0 0 (.object "OnePlays$Tape") true := ⟨RX11, TX11, rfl, by decide, inX11, TB_of (lt2 (List.mem_of_getElem? (i := 156) (by decide +kernel))) rfl, rfl, tyX11_ok, nmX11, rfl, rfl, by decide⟩
theorem fl_X11_19 : FL RX11 19 10 13 2 2 (.object "OnePlays$Piece") false := ⟨RX11, TX11, rfl, by decide, inX11, TB_of (lt2 (List.mem_of_getElem? (i := 158) (by decide +kernel))) rfl, rfl, tyX11_ok, nmX11, rfl, rfl, by decide⟩
theorem fl_X11_23 : FL RX11 23 10 13 3 3 (.object "OnePlays$Piece") false := ⟨RX11, TX11, rfl, by decide, inX11, TB_of (lt2 (List.mem_of_getElem? (i := 159) (by decide +kernel))) rfl, rfl, tyX11_ok, nmX11, rfl, rfl, by decide⟩
theorem fl_X11_31 : FL RX11 31 10 13 1 1 (.object "OnePlays$Reader") true := ⟨RX11, TX11, rfl, by decide, inX11, TB_of (lt2 (List.mem_of_getElem? (i := 157) (by decide +kernel))) rfl, rfl, tyX11_ok, nmX11, rfl, rfl, by decide⟩
theorem fl_X11_38 : FL RX11 38 10 13 4 4 (.object "OnePlays$Evening") true := ⟨RX11, TX11, rfl, by decide, inX11, TB_of (lt2 (List.mem_of_getElem? (i := 160) (by decide +kernel))) rfl, rfl, tyX11_ok, nmX11, rfl, rfl, by decide⟩
theorem fl_X11_45 : FL RX11 45 10 13 5 5 (.object "OnePlays$Acts") true := ⟨RX11, TX11, rfl, by decide, inX11, TB_of (lt2 (List.mem_of_getElem? (i := 161) (by decide +kernel))) rfl, rfl, tyX11_ok, nmX11, rfl, rfl, by decide⟩
theorem fl_X11_54 : FL RX11 54 10 13 6 6 (.object "OnePlays$Night") true := ⟨RX11, TX11, rfl, by decide, inX11, TB_of (lt2 (List.mem_of_getElem? (i := 162) (by decide +kernel))) rfl, rfl, tyX11_ok, nmX11, rfl, rfl, by decide⟩
theorem fl_X11_63 : FL RX11 63 10 13 7 7 (.object "OnePlays$Casting") true := ⟨RX11, TX11, rfl, by decide, inX11, TB_of (lt2 (List.mem_of_getElem? (i := 163) (by decide +kernel))) rfl, rfl, tyX11_ok, nmX11, rfl, rfl, by decide⟩
theorem fl_X11_70 : FL RX11 70 10 13 8 8 (.object "OnePlays$Search") true := ⟨RX11, TX11, rfl, by decide, inX11, TB_of (lt2 (List.mem_of_getElem? (i := 164) (by decide +kernel))) rfl, rfl, tyX11_ok, nmX11, rfl, rfl, by decide⟩
theorem fl_X11_77 : FL RX11 77 10 13 9 9 (.object "OnePlays$Sightings") true := ⟨RX11, TX11, rfl, by decide, inX11, TB_of (lt2 (List.mem_of_getElem? (i := 165) (by decide +kernel))) rfl, rfl, tyX11_ok, nmX11, rfl, rfl, by decide⟩
theorem fl_X11_81 : FL RX11 81 10 13 10 10 .int false := ⟨RX11, TX11, rfl, by decide, inX11, TB_of (lt2 (List.mem_of_getElem? (i := 166) (by decide +kernel))) rfl, rfl, tyX11_ok, nmX11, rfl, rfl, by decide⟩
theorem fl_X11_85 : FL RX11 85 10 13 11 11 .int false := ⟨RX11, TX11, rfl, by decide, inX11, TB_of (lt2 (List.mem_of_getElem? (i := 167) (by decide +kernel))) rfl, rfl, tyX11_ok, nmX11, rfl, rfl, by decide⟩
theorem fl_X11_88 : FL RX11 88 10 13 12 12 .int false := ⟨RX11, TX11, rfl, by decide, inX11, TB_of (lt2 (List.mem_of_getElem? (i := 168) (by decide +kernel))) rfl, rfl, tyX11_ok, nmX11, rfl, rfl, by decide⟩
theorem fl_X11_99 : FL RX11 99 8 2 1 1 .int false := ⟨RX9, TX9, rfl, by decide, inX9, TB_of (lt1 (List.mem_of_getElem? (i := 41) (by decide +kernel))) rfl, rfl, tyX9_ok, nmX9, rfl, rfl, by decide⟩
theorem fl_X11_110 : FL RX11 110 5 8 7 7 .int false := ⟨RX6, TX6, rfl, by decide, inX6, TB_of (lt1 (List.mem_of_getElem? (i := 202) (by decide +kernel))) rfl, rfl, tyX6_ok, nmX6, rfl, rfl, by decide⟩
theorem fl_X11_116 : FL RX11 116 4 19 6 6 .int false := ⟨RX5, TX5, rfl, by decide, inX5, TB_of (lt1 (List.mem_of_getElem? (i := 82) (by decide +kernel))) rfl, rfl, tyX5_ok, nmX5, rfl, rfl, by decide⟩
theorem fl_X11_125 : FL RX11 125 4 19 18 18 (.array .int) true := ⟨RX5, TX5, rfl, by decide, inX5, TB_of (lt1 (List.mem_of_getElem? (i := 115) (by decide +kernel))) rfl, rfl, tyX5_ok, nmX5, rfl, rfl, by decide⟩
theorem fl_X11_142 : FL RX11 142 4 19 3 3 .int false := ⟨RX5, TX5, rfl, by decide, inX5, TB_of (lt1 (List.mem_of_getElem? (i := 70) (by decide +kernel))) rfl, rfl, tyX5_ok, nmX5, rfl, rfl, by decide⟩
theorem fl_X11_145 : FL RX11 145 4 19 4 4 .int false := ⟨RX5, TX5, rfl, by decide, inX5, TB_of (lt1 (List.mem_of_getElem? (i := 76) (by decide +kernel))) rfl, rfl, tyX5_ok, nmX5, rfl, rfl, by decide⟩
theorem fl_X11_148 : FL RX11 148 4 19 7 7 .int false := ⟨RX5, TX5, rfl, by decide, inX5, TB_of (lt1 (List.mem_of_getElem? (i := 87) (by decide +kernel))) rfl, rfl, tyX5_ok, nmX5, rfl, rfl, by decide⟩
theorem fl_X11_155 : FL RX11 155 2 3 0 0 .int false := ⟨RX2, TX2, rfl, by decide, inX2, TB_of (lt1 (List.mem_of_getElem? (i := 227) (by decide +kernel))) rfl, rfl, tyX2_ok, nmX2, rfl, rfl, by decide⟩
theorem fl_X11_158 : FL RX11 158 4 19 1 1 .int false := ⟨RX5, TX5, rfl, by decide, inX5, TB_of (lt1 (List.mem_of_getElem? (i := 62) (by decide +kernel))) rfl, rfl, tyX5_ok, nmX5, rfl, rfl, by decide⟩
theorem fl_X11_161 : FL RX11 161 2 3 2 2 .int false := ⟨RX2, TX2, rfl, by decide, inX2, TB_of (lt1 (List.mem_of_getElem? (i := 230) (by decide +kernel))) rfl, rfl, tyX2_ok, nmX2, rfl, rfl, by decide⟩
theorem fl_X11_175 : FL RX11 175 4 19 8 8 .int false := ⟨RX5, TX5, rfl, by decide, inX5, TB_of (lt1 (List.mem_of_getElem? (i := 90) (by decide +kernel))) rfl, rfl, tyX5_ok, nmX5, rfl, rfl, by decide⟩
theorem fl_X11_188 : FL RX11 188 3 13 4 4 (.array .int) true := ⟨RX4, TX4, rfl, by decide, inX4, TB_of (lt2 (List.mem_of_getElem? (i := 41) (by decide +kernel))) rfl, rfl, tyX4_ok, nmX4, rfl, rfl, by decide⟩
theorem fl_X11_191 : FL RX11 191 4 19 15 15 (.array .int) true := ⟨RX5, TX5, rfl, by decide, inX5, TB_of (lt1 (List.mem_of_getElem? (i := 109) (by decide +kernel))) rfl, rfl, tyX5_ok, nmX5, rfl, rfl, by decide⟩
theorem fl_X11_197 : FL RX11 197 3 13 6 6 (.array .int) true := ⟨RX4, TX4, rfl, by decide, inX4, TB_of (lt2 (List.mem_of_getElem? (i := 45) (by decide +kernel))) rfl, rfl, tyX4_ok, nmX4, rfl, rfl, by decide⟩
theorem fl_X11_200 : FL RX11 200 3 13 5 5 (.array .int) true := ⟨RX4, TX4, rfl, by decide, inX4, TB_of (lt2 (List.mem_of_getElem? (i := 43) (by decide +kernel))) rfl, rfl, tyX4_ok, nmX4, rfl, rfl, by decide⟩
theorem fl_X11_243 : FL RX11 243 3 13 7 7 (.array .int) true := ⟨RX4, TX4, rfl, by decide, inX4, TB_of (lt2 (List.mem_of_getElem? (i := 47) (by decide +kernel))) rfl, rfl, tyX4_ok, nmX4, rfl, rfl, by decide⟩
theorem fl_X11_249 : FL RX11 249 4 19 13 13 (.array (.array .int)) true := ⟨RX5, TX5, rfl, by decide, inX5, TB_of (lt1 (List.mem_of_getElem? (i := 103) (by decide +kernel))) rfl, rfl, tyX5_ok, nmX5, rfl, rfl, by decide⟩
theorem fl_X11_262 : FL RX11 262 4 19 9 9 .int false := ⟨RX5, TX5, rfl, by decide, inX5, TB_of (lt1 (List.mem_of_getElem? (i := 93) (by decide +kernel))) rfl, rfl, tyX5_ok, nmX5, rfl, rfl, by decide⟩
theorem fl_X11_265 : FL RX11 265 4 19 10 10 .int false := ⟨RX5, TX5, rfl, by decide, inX5, TB_of (lt1 (List.mem_of_getElem? (i := 96) (by decide +kernel))) rfl, rfl, tyX5_ok, nmX5, rfl, rfl, by decide⟩
theorem fl_X11_278 : FL RX11 278 6 6 5 5 .int false := ⟨RX7, TX7, rfl, by decide, inX7, TB_of (lt2 (List.mem_of_getElem? (i := 128) (by decide +kernel))) rfl, rfl, tyX7_ok, nmX7, rfl, rfl, by decide⟩
theorem fl_X11_281 : FL RX11 281 4 19 2 2 .int false := ⟨RX5, TX5, rfl, by decide, inX5, TB_of (lt1 (List.mem_of_getElem? (i := 67) (by decide +kernel))) rfl, rfl, tyX5_ok, nmX5, rfl, rfl, by decide⟩
theorem fl_X11_334 : FL RX11 334 0 6 1 1 .int false := ⟨RX0, TX0, rfl, by decide, inX0, TB_of (lt2 (List.mem_of_getElem? (i := 6) (by decide +kernel))) rfl, rfl, tyX0_ok, nmX0, rfl, rfl, by decide⟩
theorem fl_X11_344 : FL RX11 344 0 6 3 3 .int false := ⟨RX0, TX0, rfl, by decide, inX0, TB_of (lt2 (List.mem_of_getElem? (i := 9) (by decide +kernel))) rfl, rfl, tyX0_ok, nmX0, rfl, rfl, by decide⟩
theorem fl_X11_350 : FL RX11 350 0 6 5 5 .int false := ⟨RX0, TX0, rfl, by decide, inX0, TB_of (lt2 (List.mem_of_getElem? (i := 13) (by decide +kernel))) rfl, rfl, tyX0_ok, nmX0, rfl, rfl, by decide⟩
theorem fl_X11_357 : FL RX11 357 0 6 4 4 (.array .long) true := ⟨RX0, TX0, rfl, by decide, inX0, TB_of (lt2 (List.mem_of_getElem? (i := 11) (by decide +kernel))) rfl, rfl, tyX0_ok, nmX0, rfl, rfl, by decide⟩
theorem fl_X11_364 : FL RX11 364 4 19 12 12 (.array (.array .int)) true := ⟨RX5, TX5, rfl, by decide, inX5, TB_of (lt1 (List.mem_of_getElem? (i := 100) (by decide +kernel))) rfl, rfl, tyX5_ok, nmX5, rfl, rfl, by decide⟩
theorem fl_X11_373 : FL RX11 373 4 19 5 5 .int false := ⟨RX5, TX5, rfl, by decide, inX5, TB_of (lt1 (List.mem_of_getElem? (i := 79) (by decide +kernel))) rfl, rfl, tyX5_ok, nmX5, rfl, rfl, by decide⟩
theorem fl_X12_7 : FL RX12 7 11 38 1 1 (.array .int) true := ⟨RX12, TX12, rfl, by decide, inX12, TB_of (lt6 (List.mem_of_getElem? (i := 108) (by decide +kernel))) rfl, rfl, tyX12_ok, nmX12, rfl, rfl, by decide⟩
theorem fl_X12_13 : FL RX12 13 11 38 10 10 .int false := ⟨RX12, TX12, rfl, by decide, inX12, TB_of (lt6 (List.mem_of_getElem? (i := 117) (by decide +kernel))) rfl, rfl, tyX12_ok, nmX12, rfl, rfl, by decide⟩
theorem fl_X12_17 : FL RX12 17 11 38 12 12 (.array .int) true := ⟨RX12, TX12, rfl, by decide, inX12, TB_of (lt6 (List.mem_of_getElem? (i := 119) (by decide +kernel))) rfl, rfl, tyX12_ok, nmX12, rfl, rfl, by decide⟩
theorem fl_X12_20 : FL RX12 20 11 38 15 15 (.array .int) true := ⟨RX12, TX12, rfl, by decide, inX12, TB_of (lt6 (List.mem_of_getElem? (i := 122) (by decide +kernel))) rfl, rfl, tyX12_ok, nmX12, rfl, rfl, by decide⟩
theorem fl_X12_23 : FL RX12 23 11 38 16 16 (.array .int) true := ⟨RX12, TX12, rfl, by decide, inX12, TB_of (lt6 (List.mem_of_getElem? (i := 123) (by decide +kernel))) rfl, rfl, tyX12_ok, nmX12, rfl, rfl, by decide⟩
theorem fl_X12_26 : FL RX12 26 11 38 17 17 (.array .int) true := ⟨RX12, TX12, rfl, by decide, inX12, TB_of (lt6 (List.mem_of_getElem? (i := 124) (by decide +kernel))) rfl, rfl, tyX12_ok, nmX12, rfl, rfl, by decide⟩
theorem fl_X12_29 : FL RX12 29 11 38 18 18 (.array .int) true := ⟨RX12, TX12, rfl, by decide, inX12, TB_of (lt6 (List.mem_of_getElem? (i := 125) (by decide +kernel))) rfl, rfl, tyX12_ok, nmX12, rfl, rfl, by decide⟩
theorem fl_X12_32 : FL RX12 32 11 38 19 19 (.array .int) true := ⟨RX12, TX12, rfl, by decide, inX12, TB_of (lt6 (List.mem_of_getElem? (i := 126) (by decide +kernel))) rfl, rfl, tyX12_ok, nmX12, rfl, rfl, by decide⟩
theorem fl_X12_35 : FL RX12 35 11 38 20 20 (.array .int) true := ⟨RX12, TX12, rfl, by decide, inX12, TB_of (lt6 (List.mem_of_getElem? (i := 127) (by decide +kernel))) rfl, rfl, tyX12_ok, nmX12, rfl, rfl, by decide⟩
theorem fl_X12_38 : FL RX12 38 11 38 21 21 (.array .int) true := ⟨RX12, TX12, rfl, by decide, inX12, TB_of (lt6 (List.mem_of_getElem? (i := 128) (by decide +kernel))) rfl, rfl, tyX12_ok, nmX12, rfl, rfl, by decide⟩
theorem fl_X12_41 : FL RX12 41 11 38 25 25 (.array .int) true := ⟨RX12, TX12, rfl, by decide, inX12, TB_of (lt6 (List.mem_of_getElem? (i := 132) (by decide +kernel))) rfl, rfl, tyX12_ok, nmX12, rfl, rfl, by decide⟩
theorem fl_X12_44 : FL RX12 44 11 38 26 26 (.array .int) true := ⟨RX12, TX12, rfl, by decide, inX12, TB_of (lt6 (List.mem_of_getElem? (i := 133) (by decide +kernel))) rfl, rfl, tyX12_ok, nmX12, rfl, rfl, by decide⟩
theorem fl_X12_47 : FL RX12 47 11 38 27 27 (.array .int) true := ⟨RX12, TX12, rfl, by decide, inX12, TB_of (lt6 (List.mem_of_getElem? (i := 134) (by decide +kernel))) rfl, rfl, tyX12_ok, nmX12, rfl, rfl, by decide⟩
theorem fl_X12_50 : FL RX12 50 11 38 28 28 (.array .int) true := ⟨RX12, TX12, rfl, by decide, inX12, TB_of (lt6 (List.mem_of_getElem? (i := 135) (by decide +kernel))) rfl, rfl, tyX12_ok, nmX12, rfl, rfl, by decide⟩
theorem fl_X12_53 : FL RX12 53 11 38 29 29 (.array .int) true := ⟨RX12, TX12, rfl, by decide, inX12, TB_of (lt6 (List.mem_of_getElem? (i := 136) (by decide +kernel))) rfl, rfl, tyX12_ok, nmX12, rfl, rfl, by decide⟩
theorem fl_X12_56 : FL RX12 56 11 38 30 30 .int false := ⟨RX12, TX12, rfl, by decide, inX12, TB_of (lt6 (List.mem_of_getElem? (i := 137) (by decide +kernel))) rfl, rfl, tyX12_ok, nmX12, rfl, rfl, by decide⟩
theorem fl_X12_59 : FL RX12 59 11 38 31 31 (.array .boolean) true := ⟨RX12, TX12, rfl, by decide, inX12, TB_of (lt6 (List.mem_of_getElem? (i := 138) (by decide +kernel))) rfl, rfl, tyX12_ok, nmX12, rfl, rfl, by decide⟩
theorem fl_X12_63 : FL RX12 63 11 38 32 32 (.array .int) true := ⟨RX12, TX12, rfl, by decide, inX12, TB_of (lt6 (List.mem_of_getElem? (i := 139) (by decide +kernel))) rfl, rfl, tyX12_ok, nmX12, rfl, rfl, by decide⟩
theorem fl_X12_66 : FL RX12 66 11 38 33 33 (.array .int) true := ⟨RX12, TX12, rfl, by decide, inX12, TB_of (lt6 (List.mem_of_getElem? (i := 140) (by decide +kernel))) rfl, rfl, tyX12_ok, nmX12, rfl, rfl, by decide⟩
theorem fl_X12_69 : FL RX12 69 11 38 34 34 (.array .int) true := ⟨RX12, TX12, rfl, by decide, inX12, TB_of (lt6 (List.mem_of_getElem? (i := 141) (by decide +kernel))) rfl, rfl, tyX12_ok, nmX12, rfl, rfl, by decide⟩
theorem fl_X12_72 : FL RX12 72 11 38 35 35 (.array .int) true := ⟨RX12, TX12, rfl, by decide, inX12, TB_of (lt6 (List.mem_of_getElem? (i := 142) (by decide +kernel))) rfl, rfl, tyX12_ok, nmX12, rfl, rfl, by decide⟩
theorem fl_X12_75 : FL RX12 75 11 38 36 36 (.array .int) true := ⟨RX12, TX12, rfl, by decide, inX12, TB_of (lt6 (List.mem_of_getElem? (i := 143) (by decide +kernel))) rfl, rfl, tyX12_ok, nmX12, rfl, rfl, by decide⟩
theorem fl_X12_78 : FL RX12 78 11 38 37 37 (.array .int) true := ⟨RX12, TX12, rfl, by decide, inX12, TB_of (lt6 (List.mem_of_getElem? (i := 144) (by decide +kernel))) rfl, rfl, tyX12_ok, nmX12, rfl, rfl, by decide⟩
theorem fl_X12_81 : FL RX12 81 11 38 0 0 .int false := ⟨RX12, TX12, rfl, by decide, inX12, TB_of (lt6 (List.mem_of_getElem? (i := 107) (by decide +kernel))) rfl, rfl, tyX12_ok, nmX12, rfl, rfl, by decide⟩
theorem fl_X12_84 : FL RX12 84 11 38 11 11 .int false := ⟨RX12, TX12, rfl, by decide, inX12, TB_of (lt6 (List.mem_of_getElem? (i := 118) (by decide +kernel))) rfl, rfl, tyX12_ok, nmX12, rfl, rfl, by decide⟩
theorem fl_X12_87 : FL RX12 87 11 38 2 2 .int false := ⟨RX12, TX12, rfl, by decide, inX12, TB_of (lt6 (List.mem_of_getElem? (i := 109) (by decide +kernel))) rfl, rfl, tyX12_ok, nmX12, rfl, rfl, by decide⟩
theorem fl_X12_90 : FL RX12 90 11 38 3 3 .int false := ⟨RX12, TX12, rfl, by decide, inX12, TB_of (lt6 (List.mem_of_getElem? (i := 110) (by decide +kernel))) rfl, rfl, tyX12_ok, nmX12, rfl, rfl, by decide⟩
theorem fl_X12_93 : FL RX12 93 11 38 5 5 .int false := ⟨RX12, TX12, rfl, by decide, inX12, TB_of (lt6 (List.mem_of_getElem? (i := 112) (by decide +kernel))) rfl, rfl, tyX12_ok, nmX12, rfl, rfl, by decide⟩
theorem fl_X12_100 : FL RX12 100 11 38 4 4 .int false := ⟨RX12, TX12, rfl, by decide, inX12, TB_of (lt6 (List.mem_of_getElem? (i := 111) (by decide +kernel))) rfl, rfl, tyX12_ok, nmX12, rfl, rfl, by decide⟩
theorem fl_X12_103 : FL RX12 103 11 38 8 8 .int false := ⟨RX12, TX12, rfl, by decide, inX12, TB_of (lt6 (List.mem_of_getElem? (i := 115) (by decide +kernel))) rfl, rfl, tyX12_ok, nmX12, rfl, rfl, by decide⟩
theorem fl_X12_106 : FL RX12 106 11 38 7 7 .int false := ⟨RX12, TX12, rfl, by decide, inX12, TB_of (lt6 (List.mem_of_getElem? (i := 114) (by decide +kernel))) rfl, rfl, tyX12_ok, nmX12, rfl, rfl, by decide⟩
theorem fl_X12_109 : FL RX12 109 11 38 6 6 .int false := ⟨RX12, TX12, rfl, by decide, inX12, TB_of (lt6 (List.mem_of_getElem? (i := 113) (by decide +kernel))) rfl, rfl, tyX12_ok, nmX12, rfl, rfl, by decide⟩
theorem fl_X12_119 : FL RX12 119 11 38 13 13 .boolean false := ⟨RX12, TX12, rfl, by decide, inX12, TB_of (lt6 (List.mem_of_getElem? (i := 120) (by decide +kernel))) rfl, rfl, tyX12_ok, nmX12, rfl, rfl, by decide⟩
theorem fl_X12_123 : FL RX12 123 11 38 9 9 .int false := ⟨RX12, TX12, rfl, by decide, inX12, TB_of (lt6 (List.mem_of_getElem? (i := 116) (by decide +kernel))) rfl, rfl, tyX12_ok, nmX12, rfl, rfl, by decide⟩
theorem fl_X12_203 : FL RX12 203 11 38 14 14 .boolean false := ⟨RX12, TX12, rfl, by decide, inX12, TB_of (lt6 (List.mem_of_getElem? (i := 121) (by decide +kernel))) rfl, rfl, tyX12_ok, nmX12, rfl, rfl, by decide⟩
theorem fl_X12_206 : FL RX12 206 11 38 22 22 .int false := ⟨RX12, TX12, rfl, by decide, inX12, TB_of (lt6 (List.mem_of_getElem? (i := 129) (by decide +kernel))) rfl, rfl, tyX12_ok, nmX12, rfl, rfl, by decide⟩
theorem fl_X12_209 : FL RX12 209 11 38 23 23 .int false := ⟨RX12, TX12, rfl, by decide, inX12, TB_of (lt6 (List.mem_of_getElem? (i := 130) (by decide +kernel))) rfl, rfl, tyX12_ok, nmX12, rfl, rfl, by decide⟩
theorem fl_X12_212 : FL RX12 212 11 38 24 24 .int false := ⟨RX12, TX12, rfl, by decide, inX12, TB_of (lt6 (List.mem_of_getElem? (i := 131) (by decide +kernel))) rfl, rfl, tyX12_ok, nmX12, rfl, rfl, by decide⟩
theorem fl_X0_9 : FL RX0 9 0 6 0 0 (.array .long) true := ⟨RX0, TX0, rfl, by decide, inX0, TB_of (lt2 (List.mem_of_getElem? (i := 4) (by decide +kernel))) rfl, rfl, tyX0_ok, nmX0, rfl, rfl, by decide⟩
theorem fl_X0_15 : FL RX0 15 0 6 1 1 .int false := ⟨RX0, TX0, rfl, by decide, inX0, TB_of (lt2 (List.mem_of_getElem? (i := 5) (by decide +kernel))) rfl, rfl, tyX0_ok, nmX0, rfl, rfl, by decide⟩
theorem fl_X0_19 : FL RX0 19 0 6 2 2 (.array .long) true := ⟨RX0, TX0, rfl, by decide, inX0, TB_of (lt2 (List.mem_of_getElem? (i := 7) (by decide +kernel))) rfl, rfl, tyX0_ok, nmX0, rfl, rfl, by decide⟩
theorem fl_X0_22 : FL RX0 22 0 6 3 3 .int false := ⟨RX0, TX0, rfl, by decide, inX0, TB_of (lt2 (List.mem_of_getElem? (i := 8) (by decide +kernel))) rfl, rfl, tyX0_ok, nmX0, rfl, rfl, by decide⟩
theorem fl_X0_25 : FL RX0 25 0 6 4 4 (.array .long) true := ⟨RX0, TX0, rfl, by decide, inX0, TB_of (lt2 (List.mem_of_getElem? (i := 10) (by decide +kernel))) rfl, rfl, tyX0_ok, nmX0, rfl, rfl, by decide⟩
theorem fl_X0_28 : FL RX0 28 0 6 5 5 .int false := ⟨RX0, TX0, rfl, by decide, inX0, TB_of (lt2 (List.mem_of_getElem? (i := 12) (by decide +kernel))) rfl, rfl, tyX0_ok, nmX0, rfl, rfl, by decide⟩
theorem fl_X1_11 : FL RX1 11 1 8 1 1 (.array .int) true := ⟨RX1, TX1, rfl, by decide, inX1, TB_of (lt2 (List.mem_of_getElem? (i := 90) (by decide +kernel))) rfl, rfl, tyX1_ok, nmX1, rfl, rfl, by decide⟩
theorem fl_X1_15 : FL RX1 15 1 8 2 2 (.array .int) true := ⟨RX1, TX1, rfl, by decide, inX1, TB_of (lt2 (List.mem_of_getElem? (i := 91) (by decide +kernel))) rfl, rfl, tyX1_ok, nmX1, rfl, rfl, by decide⟩
theorem fl_X1_18 : FL RX1 18 1 8 3 3 .int false := ⟨RX1, TX1, rfl, by decide, inX1, TB_of (lt2 (List.mem_of_getElem? (i := 92) (by decide +kernel))) rfl, rfl, tyX1_ok, nmX1, rfl, rfl, by decide⟩
theorem fl_X1_22 : FL RX1 22 1 8 4 4 .boolean false := ⟨RX1, TX1, rfl, by decide, inX1, TB_of (lt2 (List.mem_of_getElem? (i := 93) (by decide +kernel))) rfl, rfl, tyX1_ok, nmX1, rfl, rfl, by decide⟩
theorem fl_X1_26 : FL RX1 26 1 8 5 5 (.array .int) true := ⟨RX1, TX1, rfl, by decide, inX1, TB_of (lt2 (List.mem_of_getElem? (i := 94) (by decide +kernel))) rfl, rfl, tyX1_ok, nmX1, rfl, rfl, by decide⟩
theorem fl_X1_29 : FL RX1 29 1 8 6 6 .int false := ⟨RX1, TX1, rfl, by decide, inX1, TB_of (lt2 (List.mem_of_getElem? (i := 95) (by decide +kernel))) rfl, rfl, tyX1_ok, nmX1, rfl, rfl, by decide⟩
theorem fl_X1_33 : FL RX1 33 1 8 7 7 .int false := ⟨RX1, TX1, rfl, by decide, inX1, TB_of (lt2 (List.mem_of_getElem? (i := 96) (by decide +kernel))) rfl, rfl, tyX1_ok, nmX1, rfl, rfl, by decide⟩
theorem fl_X1_36 : FL RX1 36 1 8 0 0 (.object "OnePlays$Night") true := ⟨RX1, TX1, rfl, by decide, inX1, TB_of (lt2 (List.mem_of_getElem? (i := 89) (by decide +kernel))) rfl, rfl, tyX1_ok, nmX1, rfl, rfl, by decide⟩
theorem fl_X1_40 : FL RX1 40 3 13 12 12 .int false := ⟨RX4, TX4, rfl, by decide, inX4, TB_of (lt2 (List.mem_of_getElem? (i := 53) (by decide +kernel))) rfl, rfl, tyX4_ok, nmX4, rfl, rfl, by decide⟩
theorem fl_X2_7 : FL RX2 7 2 3 0 0 .int false := ⟨RX2, TX2, rfl, by decide, inX2, TB_of (lt1 (List.mem_of_getElem? (i := 226) (by decide +kernel))) rfl, rfl, tyX2_ok, nmX2, rfl, rfl, by decide⟩
theorem fl_X2_13 : FL RX2 13 2 3 1 1 .int false := ⟨RX2, TX2, rfl, by decide, inX2, TB_of (lt1 (List.mem_of_getElem? (i := 228) (by decide +kernel))) rfl, rfl, tyX2_ok, nmX2, rfl, rfl, by decide⟩
theorem fl_X2_16 : FL RX2 16 2 3 2 2 .int false := ⟨RX2, TX2, rfl, by decide, inX2, TB_of (lt1 (List.mem_of_getElem? (i := 229) (by decide +kernel))) rfl, rfl, tyX2_ok, nmX2, rfl, rfl, by decide⟩
theorem fl_X3_9_3 : FL RX3 9 3 13 0 0 (.array .int) true := ⟨RX4, TX4, rfl, by decide, inX4, TB_of (lt2 (List.mem_of_getElem? (i := 54) (by decide +kernel))) rfl, rfl, tyX4_ok, nmX4, rfl, rfl, by decide⟩
theorem fl_X3_9_7 : FL RX3 9 7 3 0 0 (.array .int) true := ⟨RX8, TX8, rfl, by decide, inX8, TB_of (lt2 (List.mem_of_getElem? (i := 54) (by decide +kernel))) rfl, rfl, tyX8_ok, nmX8, rfl, rfl, by decide⟩
theorem fl_X4_11 : FL RX4 11 3 13 2 2 (.array (.array .int)) true := ⟨RX4, TX4, rfl, by decide, inX4, TB_of (lt2 (List.mem_of_getElem? (i := 38) (by decide +kernel))) rfl, rfl, tyX4_ok, nmX4, rfl, rfl, by decide⟩
theorem fl_X4_16 : FL RX4 16 3 13 3 3 (.array .int) true := ⟨RX4, TX4, rfl, by decide, inX4, TB_of (lt2 (List.mem_of_getElem? (i := 39) (by decide +kernel))) rfl, rfl, tyX4_ok, nmX4, rfl, rfl, by decide⟩
theorem fl_X4_20 : FL RX4 20 3 13 4 4 (.array .int) true := ⟨RX4, TX4, rfl, by decide, inX4, TB_of (lt2 (List.mem_of_getElem? (i := 40) (by decide +kernel))) rfl, rfl, tyX4_ok, nmX4, rfl, rfl, by decide⟩
theorem fl_X4_23 : FL RX4 23 3 13 5 5 (.array .int) true := ⟨RX4, TX4, rfl, by decide, inX4, TB_of (lt2 (List.mem_of_getElem? (i := 42) (by decide +kernel))) rfl, rfl, tyX4_ok, nmX4, rfl, rfl, by decide⟩
theorem fl_X4_26 : FL RX4 26 3 13 6 6 (.array .int) true := ⟨RX4, TX4, rfl, by decide, inX4, TB_of (lt2 (List.mem_of_getElem? (i := 44) (by decide +kernel))) rfl, rfl, tyX4_ok, nmX4, rfl, rfl, by decide⟩
theorem fl_X4_29 : FL RX4 29 3 13 7 7 (.array .int) true := ⟨RX4, TX4, rfl, by decide, inX4, TB_of (lt2 (List.mem_of_getElem? (i := 46) (by decide +kernel))) rfl, rfl, tyX4_ok, nmX4, rfl, rfl, by decide⟩
theorem fl_X4_32 : FL RX4 32 3 13 8 8 .boolean false := ⟨RX4, TX4, rfl, by decide, inX4, TB_of (lt2 (List.mem_of_getElem? (i := 48) (by decide +kernel))) rfl, rfl, tyX4_ok, nmX4, rfl, rfl, by decide⟩
theorem fl_X4_36 : FL RX4 36 3 13 9 9 .int false := ⟨RX4, TX4, rfl, by decide, inX4, TB_of (lt2 (List.mem_of_getElem? (i := 49) (by decide +kernel))) rfl, rfl, tyX4_ok, nmX4, rfl, rfl, by decide⟩
theorem fl_X4_40 : FL RX4 40 3 13 10 10 .int false := ⟨RX4, TX4, rfl, by decide, inX4, TB_of (lt2 (List.mem_of_getElem? (i := 50) (by decide +kernel))) rfl, rfl, tyX4_ok, nmX4, rfl, rfl, by decide⟩
theorem fl_X4_43 : FL RX4 43 3 13 11 11 .int false := ⟨RX4, TX4, rfl, by decide, inX4, TB_of (lt2 (List.mem_of_getElem? (i := 51) (by decide +kernel))) rfl, rfl, tyX4_ok, nmX4, rfl, rfl, by decide⟩
theorem fl_X4_46 : FL RX4 46 3 13 12 12 .int false := ⟨RX4, TX4, rfl, by decide, inX4, TB_of (lt2 (List.mem_of_getElem? (i := 52) (by decide +kernel))) rfl, rfl, tyX4_ok, nmX4, rfl, rfl, by decide⟩
theorem fl_X4_49 : FL RX4 49 3 13 1 1 (.object "OnePlays$Piece") false := ⟨RX4, TX4, rfl, by decide, inX4, TB_of (lt2 (List.mem_of_getElem? (i := 37) (by decide +kernel))) rfl, rfl, tyX4_ok, nmX4, rfl, rfl, by decide⟩
theorem fl_X4_53 : FL RX4 53 4 19 6 6 .int false := ⟨RX5, TX5, rfl, by decide, inX5, TB_of (lt1 (List.mem_of_getElem? (i := 80) (by decide +kernel))) rfl, rfl, tyX5_ok, nmX5, rfl, rfl, by decide⟩
theorem fl_X4_74 : FL RX4 74 4 19 4 4 .int false := ⟨RX5, TX5, rfl, by decide, inX5, TB_of (lt1 (List.mem_of_getElem? (i := 74) (by decide +kernel))) rfl, rfl, tyX5_ok, nmX5, rfl, rfl, by decide⟩
theorem fl_X4_81 : FL RX4 81 4 19 15 15 (.array .int) true := ⟨RX5, TX5, rfl, by decide, inX5, TB_of (lt1 (List.mem_of_getElem? (i := 107) (by decide +kernel))) rfl, rfl, tyX5_ok, nmX5, rfl, rfl, by decide⟩
theorem fl_X4_84 : FL RX4 84 4 19 13 13 (.array (.array .int)) true := ⟨RX5, TX5, rfl, by decide, inX5, TB_of (lt1 (List.mem_of_getElem? (i := 102) (by decide +kernel))) rfl, rfl, tyX5_ok, nmX5, rfl, rfl, by decide⟩
theorem fl_X4_97 : FL RX4 97 4 19 9 9 .int false := ⟨RX5, TX5, rfl, by decide, inX5, TB_of (lt1 (List.mem_of_getElem? (i := 92) (by decide +kernel))) rfl, rfl, tyX5_ok, nmX5, rfl, rfl, by decide⟩
theorem fl_X4_100 : FL RX4 100 4 19 10 10 .int false := ⟨RX5, TX5, rfl, by decide, inX5, TB_of (lt1 (List.mem_of_getElem? (i := 95) (by decide +kernel))) rfl, rfl, tyX5_ok, nmX5, rfl, rfl, by decide⟩
theorem fl_X4_103 : FL RX4 103 4 19 11 11 .int false := ⟨RX5, TX5, rfl, by decide, inX5, TB_of (lt1 (List.mem_of_getElem? (i := 98) (by decide +kernel))) rfl, rfl, tyX5_ok, nmX5, rfl, rfl, by decide⟩
theorem fl_X4_106 : FL RX4 106 4 19 17 17 (.array .int) true := ⟨RX5, TX5, rfl, by decide, inX5, TB_of (lt1 (List.mem_of_getElem? (i := 112) (by decide +kernel))) rfl, rfl, tyX5_ok, nmX5, rfl, rfl, by decide⟩
theorem fl_X4_144 : FL RX4 144 4 19 3 3 .int false := ⟨RX5, TX5, rfl, by decide, inX5, TB_of (lt1 (List.mem_of_getElem? (i := 71) (by decide +kernel))) rfl, rfl, tyX5_ok, nmX5, rfl, rfl, by decide⟩
theorem fl_X4_147 : FL RX4 147 4 19 2 2 .int false := ⟨RX5, TX5, rfl, by decide, inX5, TB_of (lt1 (List.mem_of_getElem? (i := 66) (by decide +kernel))) rfl, rfl, tyX5_ok, nmX5, rfl, rfl, by decide⟩
theorem fl_X5_11 : FL RX5 11 4 19 12 12 (.array (.array .int)) true := ⟨RX5, TX5, rfl, by decide, inX5, TB_of (lt1 (List.mem_of_getElem? (i := 99) (by decide +kernel))) rfl, rfl, tyX5_ok, nmX5, rfl, rfl, by decide⟩
theorem fl_X5_16 : FL RX5 16 4 19 13 13 (.array (.array .int)) true := ⟨RX5, TX5, rfl, by decide, inX5, TB_of (lt1 (List.mem_of_getElem? (i := 101) (by decide +kernel))) rfl, rfl, tyX5_ok, nmX5, rfl, rfl, by decide⟩
theorem fl_X5_19 : FL RX5 19 4 19 14 14 (.array (.array .int)) true := ⟨RX5, TX5, rfl, by decide, inX5, TB_of (lt1 (List.mem_of_getElem? (i := 104) (by decide +kernel))) rfl, rfl, tyX5_ok, nmX5, rfl, rfl, by decide⟩
theorem fl_X5_22 : FL RX5 22 4 19 15 15 (.array .int) true := ⟨RX5, TX5, rfl, by decide, inX5, TB_of (lt1 (List.mem_of_getElem? (i := 106) (by decide +kernel))) rfl, rfl, tyX5_ok, nmX5, rfl, rfl, by decide⟩
theorem fl_X5_26 : FL RX5 26 4 19 16 16 (.array .int) true := ⟨RX5, TX5, rfl, by decide, inX5, TB_of (lt1 (List.mem_of_getElem? (i := 110) (by decide +kernel))) rfl, rfl, tyX5_ok, nmX5, rfl, rfl, by decide⟩
theorem fl_X5_29 : FL RX5 29 4 19 17 17 (.array .int) true := ⟨RX5, TX5, rfl, by decide, inX5, TB_of (lt1 (List.mem_of_getElem? (i := 111) (by decide +kernel))) rfl, rfl, tyX5_ok, nmX5, rfl, rfl, by decide⟩
theorem fl_X5_32 : FL RX5 32 4 19 18 18 (.array .int) true := ⟨RX5, TX5, rfl, by decide, inX5, TB_of (lt1 (List.mem_of_getElem? (i := 113) (by decide +kernel))) rfl, rfl, tyX5_ok, nmX5, rfl, rfl, by decide⟩
theorem fl_X5_35 : FL RX5 35 4 19 0 0 .int false := ⟨RX5, TX5, rfl, by decide, inX5, TB_of (lt1 (List.mem_of_getElem? (i := 56) (by decide +kernel))) rfl, rfl, tyX5_ok, nmX5, rfl, rfl, by decide⟩
theorem fl_X5_39 : FL RX5 39 4 19 1 1 .int false := ⟨RX5, TX5, rfl, by decide, inX5, TB_of (lt1 (List.mem_of_getElem? (i := 59) (by decide +kernel))) rfl, rfl, tyX5_ok, nmX5, rfl, rfl, by decide⟩
theorem fl_X5_42 : FL RX5 42 4 19 2 2 .int false := ⟨RX5, TX5, rfl, by decide, inX5, TB_of (lt1 (List.mem_of_getElem? (i := 63) (by decide +kernel))) rfl, rfl, tyX5_ok, nmX5, rfl, rfl, by decide⟩
theorem fl_X5_45 : FL RX5 45 4 19 3 3 .int false := ⟨RX5, TX5, rfl, by decide, inX5, TB_of (lt1 (List.mem_of_getElem? (i := 68) (by decide +kernel))) rfl, rfl, tyX5_ok, nmX5, rfl, rfl, by decide⟩
theorem fl_X5_48 : FL RX5 48 4 19 4 4 .int false := ⟨RX5, TX5, rfl, by decide, inX5, TB_of (lt1 (List.mem_of_getElem? (i := 72) (by decide +kernel))) rfl, rfl, tyX5_ok, nmX5, rfl, rfl, by decide⟩
theorem fl_X5_51 : FL RX5 51 4 19 5 5 .int false := ⟨RX5, TX5, rfl, by decide, inX5, TB_of (lt1 (List.mem_of_getElem? (i := 77) (by decide +kernel))) rfl, rfl, tyX5_ok, nmX5, rfl, rfl, by decide⟩
theorem fl_X5_54 : FL RX5 54 4 19 6 6 .int false := ⟨RX5, TX5, rfl, by decide, inX5, TB_of (lt1 (List.mem_of_getElem? (i := 81) (by decide +kernel))) rfl, rfl, tyX5_ok, nmX5, rfl, rfl, by decide⟩
theorem fl_X5_57 : FL RX5 57 4 19 7 7 .int false := ⟨RX5, TX5, rfl, by decide, inX5, TB_of (lt1 (List.mem_of_getElem? (i := 85) (by decide +kernel))) rfl, rfl, tyX5_ok, nmX5, rfl, rfl, by decide⟩
theorem fl_X5_60 : FL RX5 60 4 19 8 8 .int false := ⟨RX5, TX5, rfl, by decide, inX5, TB_of (lt1 (List.mem_of_getElem? (i := 88) (by decide +kernel))) rfl, rfl, tyX5_ok, nmX5, rfl, rfl, by decide⟩
theorem fl_X5_63 : FL RX5 63 4 19 9 9 .int false := ⟨RX5, TX5, rfl, by decide, inX5, TB_of (lt1 (List.mem_of_getElem? (i := 91) (by decide +kernel))) rfl, rfl, tyX5_ok, nmX5, rfl, rfl, by decide⟩
theorem fl_X5_66 : FL RX5 66 4 19 10 10 .int false := ⟨RX5, TX5, rfl, by decide, inX5, TB_of (lt1 (List.mem_of_getElem? (i := 94) (by decide +kernel))) rfl, rfl, tyX5_ok, nmX5, rfl, rfl, by decide⟩
theorem fl_X5_69 : FL RX5 69 4 19 11 11 .int false := ⟨RX5, TX5, rfl, by decide, inX5, TB_of (lt1 (List.mem_of_getElem? (i := 97) (by decide +kernel))) rfl, rfl, tyX5_ok, nmX5, rfl, rfl, by decide⟩
theorem fl_X6_9 : FL RX6 9 5 8 1 1 (.array .long) true := ⟨RX6, TX6, rfl, by decide, inX6, TB_of (lt1 (List.mem_of_getElem? (i := 195) (by decide +kernel))) rfl, rfl, tyX6_ok, nmX6, rfl, rfl, by decide⟩
theorem fl_X6_15 : FL RX6 15 5 8 2 2 (.array .long) true := ⟨RX6, TX6, rfl, by decide, inX6, TB_of (lt1 (List.mem_of_getElem? (i := 196) (by decide +kernel))) rfl, rfl, tyX6_ok, nmX6, rfl, rfl, by decide⟩
theorem fl_X6_18 : FL RX6 18 5 8 3 3 (.array .int) true := ⟨RX6, TX6, rfl, by decide, inX6, TB_of (lt1 (List.mem_of_getElem? (i := 197) (by decide +kernel))) rfl, rfl, tyX6_ok, nmX6, rfl, rfl, by decide⟩
theorem fl_X6_27 : FL RX6 27 5 8 0 0 (.object "OnePlays$Tokens") true := ⟨RX6, TX6, rfl, by decide, inX6, TB_of (lt1 (List.mem_of_getElem? (i := 194) (by decide +kernel))) rfl, rfl, tyX6_ok, nmX6, rfl, rfl, by decide⟩
theorem fl_X6_31 : FL RX6 31 5 8 5 5 (.object "OnePlays$Piece") false := ⟨RX6, TX6, rfl, by decide, inX6, TB_of (lt1 (List.mem_of_getElem? (i := 199) (by decide +kernel))) rfl, rfl, tyX6_ok, nmX6, rfl, rfl, by decide⟩
theorem fl_X6_40 : FL RX6 40 5 8 6 6 .int false := ⟨RX6, TX6, rfl, by decide, inX6, TB_of (lt1 (List.mem_of_getElem? (i := 200) (by decide +kernel))) rfl, rfl, tyX6_ok, nmX6, rfl, rfl, by decide⟩
theorem fl_X6_44 : FL RX6 44 5 8 7 7 .int false := ⟨RX6, TX6, rfl, by decide, inX6, TB_of (lt1 (List.mem_of_getElem? (i := 201) (by decide +kernel))) rfl, rfl, tyX6_ok, nmX6, rfl, rfl, by decide⟩
theorem fl_X6_55 : FL RX6 55 9 7 3 3 .int false := ⟨RX10, TX10, rfl, by decide, inX10, TB_of (lt1 (List.mem_of_getElem? (i := 170) (by decide +kernel))) rfl, rfl, tyX10_ok, nmX10, rfl, rfl, by decide⟩
theorem fl_X6_68 : FL RX6 68 4 19 2 2 .int false := ⟨RX5, TX5, rfl, by decide, inX5, TB_of (lt1 (List.mem_of_getElem? (i := 64) (by decide +kernel))) rfl, rfl, tyX5_ok, nmX5, rfl, rfl, by decide⟩
theorem fl_X6_71 : FL RX6 71 4 19 3 3 .int false := ⟨RX5, TX5, rfl, by decide, inX5, TB_of (lt1 (List.mem_of_getElem? (i := 69) (by decide +kernel))) rfl, rfl, tyX5_ok, nmX5, rfl, rfl, by decide⟩
theorem fl_X6_74 : FL RX6 74 4 19 4 4 .int false := ⟨RX5, TX5, rfl, by decide, inX5, TB_of (lt1 (List.mem_of_getElem? (i := 73) (by decide +kernel))) rfl, rfl, tyX5_ok, nmX5, rfl, rfl, by decide⟩
theorem fl_X6_77 : FL RX6 77 9 7 4 4 .int false := ⟨RX10, TX10, rfl, by decide, inX10, TB_of (lt1 (List.mem_of_getElem? (i := 173) (by decide +kernel))) rfl, rfl, tyX10_ok, nmX10, rfl, rfl, by decide⟩
theorem fl_X6_78 : FL RX6 78 5 8 4 4 .int false := ⟨RX6, TX6, rfl, by decide, inX6, TB_of (lt1 (List.mem_of_getElem? (i := 198) (by decide +kernel))) rfl, rfl, tyX6_ok, nmX6, rfl, rfl, by decide⟩
theorem fl_X6_101 : FL RX6 101 4 19 5 5 .int false := ⟨RX5, TX5, rfl, by decide, inX5, TB_of (lt1 (List.mem_of_getElem? (i := 78) (by decide +kernel))) rfl, rfl, tyX5_ok, nmX5, rfl, rfl, by decide⟩
theorem fl_X6_109 : FL RX6 109 4 19 6 6 .int false := ⟨RX5, TX5, rfl, by decide, inX5, TB_of (lt1 (List.mem_of_getElem? (i := 83) (by decide +kernel))) rfl, rfl, tyX5_ok, nmX5, rfl, rfl, by decide⟩
theorem fl_X6_117 : FL RX6 117 4 19 7 7 .int false := ⟨RX5, TX5, rfl, by decide, inX5, TB_of (lt1 (List.mem_of_getElem? (i := 86) (by decide +kernel))) rfl, rfl, tyX5_ok, nmX5, rfl, rfl, by decide⟩
theorem fl_X6_136 : FL RX6 136 4 19 0 0 .int false := ⟨RX5, TX5, rfl, by decide, inX5, TB_of (lt1 (List.mem_of_getElem? (i := 58) (by decide +kernel))) rfl, rfl, tyX5_ok, nmX5, rfl, rfl, by decide⟩
theorem fl_X6_138 : FL RX6 138 4 19 1 1 .int false := ⟨RX5, TX5, rfl, by decide, inX5, TB_of (lt1 (List.mem_of_getElem? (i := 61) (by decide +kernel))) rfl, rfl, tyX5_ok, nmX5, rfl, rfl, by decide⟩
theorem fl_X6_141 : FL RX6 141 9 7 5 5 .long false := ⟨RX10, TX10, rfl, by decide, inX10, TB_of (lt1 (List.mem_of_getElem? (i := 175) (by decide +kernel))) rfl, rfl, tyX10_ok, nmX10, rfl, rfl, by decide⟩
theorem fl_X6_174 : FL RX6 174 4 19 15 15 (.array .int) true := ⟨RX5, TX5, rfl, by decide, inX5, TB_of (lt1 (List.mem_of_getElem? (i := 108) (by decide +kernel))) rfl, rfl, tyX5_ok, nmX5, rfl, rfl, by decide⟩
theorem fl_X6_211 : FL RX6 211 9 7 6 6 .int false := ⟨RX10, TX10, rfl, by decide, inX10, TB_of (lt1 (List.mem_of_getElem? (i := 177) (by decide +kernel))) rfl, rfl, tyX10_ok, nmX10, rfl, rfl, by decide⟩
theorem fl_X7_9 : FL RX7 9 6 6 2 2 (.array .int) true := ⟨RX7, TX7, rfl, by decide, inX7, TB_of (lt2 (List.mem_of_getElem? (i := 124) (by decide +kernel))) rfl, rfl, tyX7_ok, nmX7, rfl, rfl, by decide⟩
theorem fl_X7_15 : FL RX7 15 6 6 3 3 .int false := ⟨RX7, TX7, rfl, by decide, inX7, TB_of (lt2 (List.mem_of_getElem? (i := 125) (by decide +kernel))) rfl, rfl, tyX7_ok, nmX7, rfl, rfl, by decide⟩
theorem fl_X7_19 : FL RX7 19 6 6 4 4 .int false := ⟨RX7, TX7, rfl, by decide, inX7, TB_of (lt2 (List.mem_of_getElem? (i := 126) (by decide +kernel))) rfl, rfl, tyX7_ok, nmX7, rfl, rfl, by decide⟩
theorem fl_X7_22 : FL RX7 22 6 6 5 5 .int false := ⟨RX7, TX7, rfl, by decide, inX7, TB_of (lt2 (List.mem_of_getElem? (i := 127) (by decide +kernel))) rfl, rfl, tyX7_ok, nmX7, rfl, rfl, by decide⟩
theorem fl_X7_25 : FL RX7 25 6 6 0 0 (.object "OnePlays$Piece") false := ⟨RX7, TX7, rfl, by decide, inX7, TB_of (lt2 (List.mem_of_getElem? (i := 122) (by decide +kernel))) rfl, rfl, tyX7_ok, nmX7, rfl, rfl, by decide⟩
theorem fl_X7_34 : FL RX7 34 6 6 1 1 (.object "OnePlays$Night") true := ⟨RX7, TX7, rfl, by decide, inX7, TB_of (lt2 (List.mem_of_getElem? (i := 123) (by decide +kernel))) rfl, rfl, tyX7_ok, nmX7, rfl, rfl, by decide⟩
theorem fl_X7_42 : FL RX7 42 4 19 8 8 .int false := ⟨RX5, TX5, rfl, by decide, inX5, TB_of (lt1 (List.mem_of_getElem? (i := 89) (by decide +kernel))) rfl, rfl, tyX5_ok, nmX5, rfl, rfl, by decide⟩
theorem fl_X7_47 : FL RX7 47 4 19 18 18 (.array .int) true := ⟨RX5, TX5, rfl, by decide, inX5, TB_of (lt1 (List.mem_of_getElem? (i := 114) (by decide +kernel))) rfl, rfl, tyX5_ok, nmX5, rfl, rfl, by decide⟩
theorem fl_X7_50 : FL RX7 50 4 19 1 1 .int false := ⟨RX5, TX5, rfl, by decide, inX5, TB_of (lt1 (List.mem_of_getElem? (i := 60) (by decide +kernel))) rfl, rfl, tyX5_ok, nmX5, rfl, rfl, by decide⟩
theorem fl_X7_71 : FL RX7 71 4 19 2 2 .int false := ⟨RX5, TX5, rfl, by decide, inX5, TB_of (lt1 (List.mem_of_getElem? (i := 65) (by decide +kernel))) rfl, rfl, tyX5_ok, nmX5, rfl, rfl, by decide⟩
theorem fl_X7_86 : FL RX7 86 4 19 4 4 .int false := ⟨RX5, TX5, rfl, by decide, inX5, TB_of (lt1 (List.mem_of_getElem? (i := 75) (by decide +kernel))) rfl, rfl, tyX5_ok, nmX5, rfl, rfl, by decide⟩
theorem fl_X8_9 : FL RX8 9 7 3 2 2 (.array .int) true := ⟨RX8, TX8, rfl, by decide, inX8, TB_of (lt2 (List.mem_of_getElem? (i := 149) (by decide +kernel))) rfl, rfl, tyX8_ok, nmX8, rfl, rfl, by decide⟩
theorem fl_X8_15 : FL RX8 15 7 3 1 1 (.object "OnePlays$Piece") false := ⟨RX8, TX8, rfl, by decide, inX8, TB_of (lt2 (List.mem_of_getElem? (i := 148) (by decide +kernel))) rfl, rfl, tyX8_ok, nmX8, rfl, rfl, by decide⟩
theorem fl_X8_22 : FL RX8 22 4 19 7 7 .int false := ⟨RX5, TX5, rfl, by decide, inX5, TB_of (lt1 (List.mem_of_getElem? (i := 84) (by decide +kernel))) rfl, rfl, tyX5_ok, nmX5, rfl, rfl, by decide⟩
theorem fl_X8_32 : FL RX8 32 4 19 14 14 (.array (.array .int)) true := ⟨RX5, TX5, rfl, by decide, inX5, TB_of (lt1 (List.mem_of_getElem? (i := 105) (by decide +kernel))) rfl, rfl, tyX5_ok, nmX5, rfl, rfl, by decide⟩
theorem fl_X8_44 : FL RX8 44 4 19 0 0 .int false := ⟨RX5, TX5, rfl, by decide, inX5, TB_of (lt1 (List.mem_of_getElem? (i := 57) (by decide +kernel))) rfl, rfl, tyX5_ok, nmX5, rfl, rfl, by decide⟩
theorem fl_X9_9 : FL RX9 9 8 2 0 0 (.array .int) true := ⟨RX9, TX9, rfl, by decide, inX9, TB_of (lt1 (List.mem_of_getElem? (i := 39) (by decide +kernel))) rfl, rfl, tyX9_ok, nmX9, rfl, rfl, by decide⟩
theorem fl_X9_15 : FL RX9 15 8 2 1 1 .int false := ⟨RX9, TX9, rfl, by decide, inX9, TB_of (lt1 (List.mem_of_getElem? (i := 40) (by decide +kernel))) rfl, rfl, tyX9_ok, nmX9, rfl, rfl, by decide⟩
theorem fl_X10_7 : FL RX10 7 9 7 0 0 (.object "OnePlays$Tape") true := ⟨RX10, TX10, rfl, by decide, inX10, TB_of (lt1 (List.mem_of_getElem? (i := 167) (by decide +kernel))) rfl, rfl, tyX10_ok, nmX10, rfl, rfl, by decide⟩
theorem fl_X10_13 : FL RX10 13 9 7 1 1 .int false := ⟨RX10, TX10, rfl, by decide, inX10, TB_of (lt1 (List.mem_of_getElem? (i := 168) (by decide +kernel))) rfl, rfl, tyX10_ok, nmX10, rfl, rfl, by decide⟩
theorem fl_X10_17 : FL RX10 17 9 7 2 2 .int false := ⟨RX10, TX10, rfl, by decide, inX10, TB_of (lt1 (List.mem_of_getElem? (i := 169) (by decide +kernel))) rfl, rfl, tyX10_ok, nmX10, rfl, rfl, by decide⟩
theorem fl_X10_29 : FL RX10 29 9 7 4 4 .int false := ⟨RX10, TX10, rfl, by decide, inX10, TB_of (lt1 (List.mem_of_getElem? (i := 172) (by decide +kernel))) rfl, rfl, tyX10_ok, nmX10, rfl, rfl, by decide⟩
theorem fl_X10_32 : FL RX10 32 9 7 3 3 .int false := ⟨RX10, TX10, rfl, by decide, inX10, TB_of (lt1 (List.mem_of_getElem? (i := 171) (by decide +kernel))) rfl, rfl, tyX10_ok, nmX10, rfl, rfl, by decide⟩
theorem fl_X10_48 : FL RX10 48 9 7 5 5 .long false := ⟨RX10, TX10, rfl, by decide, inX10, TB_of (lt1 (List.mem_of_getElem? (i := 174) (by decide +kernel))) rfl, rfl, tyX10_ok, nmX10, rfl, rfl, by decide⟩
theorem fl_X10_52 : FL RX10 52 9 7 6 6 .int false := ⟨RX10, TX10, rfl, by decide, inX10, TB_of (lt1 (List.mem_of_getElem? (i := 176) (by decide +kernel))) rfl, rfl, tyX10_ok, nmX10, rfl, rfl, by decide⟩
abbrev M_X0_init (n : Nat) : MT := (cX0_init, RX0, 1, 1, none, true, 3, 27, n + 3)
abbrev M_X0_clear : MT := (cX0_clear, RX0, 1, 1, none, false, 0, 0, 161)
abbrev M_X0_forgetSteps : MT := (cX0_forgetSteps, RX0, 0, 1, none, false, 0, 0, 161)
abbrev M_X0_keep : MT := (cX0_keep, RX0, 2, 3, none, false, 0, 0, 161)
abbrev M_X0_stepBack : MT := (cX0_stepBack, RX0, 0, 3, (some .long), false, 0, 0, 161)
abbrev M_X0_stepOn : MT := (cX0_stepOn, RX0, 0, 3, (some .long), false, 0, 0, 161)
abbrev M_X0_addImage : MT := (cX0_addImage, RX0, 0, 3, (some .int), false, 0, 0, 161)
abbrev M_X1_init (n : Nat) : MT := (cX1_init, RX1, 1, 2, none, true, 3, 142, n + 3)
abbrev M_X1_playerOf : MT := (cX1_playerOf, RX1, 15, 3, (some .int), false, 0, 0, 161)
abbrev M_X1_gives (d : Nat) : MT := (cX1_gives, RX1, 5 + d, 5, (some .boolean), false, 0, 0, 161)
abbrev M_X1_allGood : MT := (cX1_allGood, RX1, 4, 3, (some .boolean), false, 0, 0, 161)
abbrev M_X1_castsFor : MT := (cX1_castsFor, RX1, 9, 2, (some .int), false, 0, 0, 161)
abbrev M_X1_ways (d : Nat) : MT := (cX1_ways, RX1, 4 + d, 5, (some .int), false, 0, 0, 161)
abbrev M_X1_fewestCuts : MT := (cX1_fewestCuts, RX1, 11, 1, (some .int), false, 0, 0, 161)
abbrev M_X1_cutBits : MT := (cX1_cutBits, RX1, 11, 1, (some .int), false, 0, 0, 161)
abbrev M_X1_findCuts : MT := (cX1_findCuts, RX1, 10, 3, none, false, 0, 0, 161)
abbrev M_X1_addCuts : MT := (cX1_addCuts, RX1, 9, 5, none, false, 0, 0, 161)
abbrev M_X1_cheapest (d : Nat) : MT := (cX1_cheapest, RX1, 2 + d, 8, (some .int), false, 0, 0, 161)
abbrev M_X2_init (n : Nat) : MT := (cX2_init, RX2, 1, 1, none, true, 0, 0, n + 0)
abbrev M_X2_start : MT := (cX2_start, RX2, 0, 2, none, false, 0, 0, 161)
abbrev M_X2_playerOf : MT := (cX2_playerOf, RX2, 0, 2, (some .int), false, 0, 0, 161)
abbrev M_X2_give : MT := (cX2_give, RX2, 1, 3, none, false, 0, 0, 161)
abbrev M_X2_partsOf : MT := (cX2_partsOf, RX2, 1, 5, (some .int), false, 0, 0, 161)
abbrev M_X2_isCut : MT := (cX2_isCut, RX2, 0, 2, (some .boolean), false, 0, 0, 161)
abbrev M_X2_packed : MT := (cX2_packed, RX2, 0, 1, (some .long), false, 0, 0, 161)
abbrev M_X2_unpack : MT := (cX2_unpack, RX2, 0, 3, none, false, 0, 0, 161)
abbrev M_X3_init (n : Nat) : MT := (cX3_init, RX3, 1, 1, none, true, 1, 128, n + 1)
abbrev M_X3_forget : MT := (cX3_forget, RX3, 2, 1, none, false, 0, 0, 161)
abbrev M_X3_good : MT := (cX3_good, RX3, 3, 2, (some .boolean), false, 0, 0, 161)
abbrev M_X3_fewestFor : MT := (cX3_fewestFor, RX3, 14, 3, (some .int), false, 0, 0, 161)
abbrev M_X3_splits (d : Nat) : MT := (cX3_splits, RX3, 4 + d, 6, (some .boolean), false, 0, 0, 161)
abbrev M_X4_init (n : Nat) : MT := (cX4_init, RX4, 2, 2, none, true, 21, 399, n + 21)
abbrev M_X4_take : MT := (cX4_take, RX4, 2, 5, none, false, 0, 0, 161)
abbrev M_X4_set : MT := (cX4_set, RX4, 3, 4, none, false, 0, 0, 161)
abbrev M_X4_setTimes : MT := (cX4_setTimes, RX4, 2, 4, none, false, 0, 0, 161)
abbrev M_X4_sortRow : MT := (cX4_sortRow, RX4, 0, 3, none, false, 0, 0, 161)
abbrev M_X4_findMeetings : MT := (cX4_findMeetings, RX4, 2, 3, none, false, 0, 0, 161)
abbrev M_X4_doMeet : MT := (cX4_doMeet, RX4, 0, 3, (some .boolean), false, 0, 0, 161)
abbrev M_X4_bodilyOf : MT := (cX4_bodilyOf, RX4, 0, 6, (some .int), false, 0, 0, 161)
abbrev M_X4_canBe : MT := (cX4_canBe, RX4, 1, 9, (some .boolean), false, 0, 0, 161)
abbrev M_X4_spare : MT := (cX4_spare, RX4, 0, 3, (some .int), false, 0, 0, 161)
abbrev M_X4_fits : MT := (cX4_fits, RX4, 2, 2, (some .boolean), false, 0, 0, 161)
abbrev M_X4_slackOf : MT := (cX4_slackOf, RX4, 2, 9, (some .int), false, 0, 0, 161)
abbrev M_X4_changesOf : MT := (cX4_changesOf, RX4, 2, 8, (some .int), false, 0, 0, 161)
abbrev M_X4_changeOf : MT := (cX4_changeOf, RX4, 1, 6, (some .int), false, 0, 0, 161)
abbrev M_X4_seconds : MT := (cX4_seconds, RX4, 0, 4, (some .int), false, 0, 0, 161)
abbrev M_X4_inRow : MT := (cX4_inRow, RX4, 0, 6, (some .int), false, 0, 0, 161)
abbrev M_X4_leastCut : MT := (cX4_leastCut, RX4, 8, 3, (some .int), false, 0, 0, 161)
abbrev M_X4_without (d : Nat) : MT := (cX4_without, RX4, 2 + d, 6, (some .int), false, 0, 0, 161)
abbrev M_X4_allParts : MT := (cX4_allParts, RX4, 1, 1, (some .int), false, 0, 0, 161)
abbrev M_X4_partCount : MT := (cX4_partCount, RX4, 0, 1, (some .int), false, 0, 0, 161)
abbrev M_X4_playersTold : MT := (cX4_playersTold, RX4, 0, 1, (some .int), false, 0, 0, 161)
abbrev M_X5_init (n : Nat) : MT := (cX5_init, RX5, 1, 1, none, true, 35, 319, n + 35)
abbrev M_X5_clear : MT := (cX5_clear, RX5, 2, 1, none, false, 0, 0, 161)
abbrev M_X5_addPart : MT := (cX5_addPart, RX5, 0, 3, none, false, 0, 0, 161)
abbrev M_X5_addAfter : MT := (cX5_addAfter, RX5, 0, 3, none, false, 0, 0, 161)
abbrev M_X5_addOn : MT := (cX5_addOn, RX5, 0, 6, none, false, 0, 0, 161)
abbrev M_X5_addSaw : MT := (cX5_addSaw, RX5, 0, 3, none, false, 0, 0, 161)
abbrev M_X5_allParts : MT := (cX5_allParts, RX5, 0, 1, (some .int), false, 0, 0, 161)
abbrev M_X5_allOns : MT := (cX5_allOns, RX5, 0, 1, (some .int), false, 0, 0, 161)
abbrev M_X5_onsOfParts : MT := (cX5_onsOfParts, RX5, 0, 4, (some .int), false, 0, 0, 161)
abbrev M_X5_changeTime : MT := (cX5_changeTime, RX5, 0, 7, (some .int), false, 0, 0, 161)
abbrev M_X5_doesWalk : MT := (cX5_doesWalk, RX5, 0, 3, (some .boolean), false, 0, 0, 161)
abbrev M_X5_needTime : MT := (cX5_needTime, RX5, 1, 5, (some .int), false, 0, 0, 161)
abbrev M_X5_hasOrder : MT := (cX5_hasOrder, RX5, 0, 4, (some .boolean), false, 0, 0, 161)
abbrev M_X5_isOrder : MT := (cX5_isOrder, RX5, 2, 5, (some .boolean), false, 0, 0, 161)
abbrev M_X5_listOrders : MT := (cX5_listOrders, RX5, 9, 1, none, false, 0, 0, 161)
abbrev M_X5_placeScenes (d : Nat) : MT := (cX5_placeScenes, RX5, 1 + d, 5, none, false, 0, 0, 161)
abbrev M_X6_init (n : Nat) : MT := (cX6_init, RX6, 2, 3, none, true, 4, 27, n + 4)
abbrev M_X6_read : MT := (cX6_read, RX6, 12, 5, (some .int), false, 0, 0, 161)
abbrev M_X6_checkEnd : MT := (cX6_checkEnd, RX6, 1, 1, none, false, 0, 0, 161)
abbrev M_X6_fail : MT := (cX6_fail, RX6, 0, 2, (some .boolean), false, 0, 0, 161)
abbrev M_X6_line : MT := (cX6_line, RX6, 11, 1, (some .boolean), false, 0, 0, 161)
abbrev M_X6_pieceLine : MT := (cX6_pieceLine, RX6, 9, 2, (some .boolean), false, 0, 0, 161)
abbrev M_X6_partLine : MT := (cX6_partLine, RX6, 10, 4, (some .boolean), false, 0, 0, 161)
abbrev M_X6_kind : MT := (cX6_kind, RX6, 8, 2, (some .boolean), false, 0, 0, 161)
abbrev M_X6_sceneLine : MT := (cX6_sceneLine, RX6, 10, 4, (some .boolean), false, 0, 0, 161)
abbrev M_X6_afterLine : MT := (cX6_afterLine, RX6, 10, 1, (some .boolean), false, 0, 0, 161)
abbrev M_X6_secondScene : MT := (cX6_secondScene, RX6, 9, 3, (some .boolean), false, 0, 0, 161)
abbrev M_X6_onLine : MT := (cX6_onLine, RX6, 10, 4, (some .boolean), false, 0, 0, 161)
abbrev M_X6_sawLine : MT := (cX6_sawLine, RX6, 10, 2, (some .boolean), false, 0, 0, 161)
abbrev M_X6_tell : MT := (cX6_tell, RX6, 0, 2, (some .boolean), false, 0, 0, 161)
abbrev M_X6_word : MT := (cX6_word, RX6, 8, 2, (some .boolean), false, 0, 0, 161)
abbrev M_X6_whole : MT := (cX6_whole, RX6, 3, 4, (some .boolean), false, 0, 0, 161)
abbrev M_X6_side : MT := (cX6_side, RX6, 8, 2, (some .boolean), false, 0, 0, 161)
abbrev M_X6_newName : MT := (cX6_newName, RX6, 9, 1, (some .boolean), false, 0, 0, 161)
abbrev M_X6_oldName : MT := (cX6_oldName, RX6, 9, 4, (some .boolean), false, 0, 0, 161)
abbrev M_X6_find : MT := (cX6_find, RX6, 0, 4, (some .int), false, 0, 0, 161)
abbrev M_X7_init (n : Nat) : MT := (cX7_init, RX7, 3, 2, none, true, 23, 532, n + 23)
abbrev M_X7_take : MT := (cX7_take, RX7, 3, 2, none, false, 0, 0, 161)
abbrev M_X7_bestOfAll : MT := (cX7_bestOfAll, RX7, 14, 6, (some .int), false, 0, 0, 161)
abbrev M_X7_fewestIfReady : MT := (cX7_fewestIfReady, RX7, 15, 5, (some .int), false, 0, 0, 161)
abbrev M_X7_goes : MT := (cX7_goes, RX7, 14, 4, (some .boolean), false, 0, 0, 161)
abbrev M_X7_leastGap : MT := (cX7_leastGap, RX7, 15, 6, (some .int), false, 0, 0, 161)
abbrev M_X7_fewestSwaps : MT := (cX7_fewestSwaps, RX7, 15, 5, (some .int), false, 0, 0, 161)
abbrev M_X7_reachMore : MT := (cX7_reachMore, RX7, 3, 5, (some .boolean), false, 0, 0, 161)
abbrev M_X7_isOneSwap : MT := (cX7_isOneSwap, RX7, 2, 5, (some .boolean), false, 0, 0, 161)
abbrev M_X8_init (n : Nat) : MT := (cX8_init, RX8, 2, 2, none, true, 2, 135, n + 2)
abbrev M_X8_take : MT := (cX8_take, RX8, 3, 4, none, false, 0, 0, 161)
abbrev M_X8_timeOf : MT := (cX8_timeOf, RX8, 0, 2, (some .int), false, 0, 0, 161)
abbrev M_X8_fits : MT := (cX8_fits, RX8, 2, 5, (some .boolean), false, 0, 0, 161)
abbrev M_X8_between : MT := (cX8_between, RX8, 1, 6, (some .int), false, 0, 0, 161)
abbrev M_X9_init (n : Nat) : MT := (cX9_init, RX9, 1, 1, none, true, 1, 900, n + 1)
abbrev M_X9_hasRoom : MT := (cX9_hasRoom, RX9, 0, 2, (some .boolean), false, 0, 0, 161)
abbrev M_X9_add : MT := (cX9_add, RX9, 0, 3, none, false, 0, 0, 161)
abbrev M_X9_at : MT := (cX9_at, RX9, 0, 2, (some .int), false, 0, 0, 161)
abbrev M_X10_init (n : Nat) : MT := (cX10_init, RX10, 1, 2, none, true, 0, 0, n + 0)
abbrev M_X10_start : MT := (cX10_start, RX10, 3, 2, none, false, 0, 0, 161)
abbrev M_X10_move : MT := (cX10_move, RX10, 2, 1, none, false, 0, 0, 161)
abbrev M_X10_takeWord : MT := (cX10_takeWord, RX10, 1, 1, none, false, 0, 0, 161)
abbrev M_X10_takeWhole : MT := (cX10_takeWhole, RX10, 1, 1, none, false, 0, 0, 161)
abbrev M_X10_isWord : MT := (cX10_isWord, RX10, 7, 5, (some .boolean), false, 0, 0, 161)
abbrev M_X10_isName : MT := (cX10_isName, RX10, 8, 1, (some .boolean), false, 0, 0, 161)
abbrev M_X10_isLetter : MT := (cX10_isLetter, RX10, 0, 1, (some .boolean), false, 0, 0, 161)
abbrev M_X10_isDigit : MT := (cX10_isDigit, RX10, 0, 1, (some .boolean), false, 0, 0, 161)
abbrev M_X11_init (n : Nat) : MT := (cX11_init, RX11, 4, 1, none, true, 137, 2887, n + 137)
abbrev M_X11_feed : MT := (cX11_feed, RX11, 1, 6, (some .int), false, 0, 0, 161)
abbrev M_X11_piece : MT := (cX11_piece, RX11, 13, 3, (some .int), false, 0, 0, 161)
abbrev M_X11_startAnew : MT := (cX11_startAnew, RX11, 10, 1, none, false, 0, 0, 161)
abbrev M_X11_fault : MT := (cX11_fault, RX11, 0, 1, (some .int), false, 0, 0, 161)
abbrev M_X11_where : MT := (cX11_where, RX11, 0, 1, (some .int), false, 0, 0, 161)
abbrev M_X11_refuse : MT := (cX11_refuse, RX11, 0, 2, (some .int), false, 0, 0, 161)
abbrev M_X11_fine : MT := (cX11_fine, RX11, 0, 2, (some .int), false, 0, 0, 161)
abbrev M_X11_fineIf : MT := (cX11_fineIf, RX11, 1, 2, (some .int), false, 0, 0, 161)
abbrev M_X11_denied : MT := (cX11_denied, RX11, 0, 2, (some .boolean), false, 0, 0, 161)
abbrev M_X11_noPiece : MT := (cX11_noPiece, RX11, 0, 1, (some .boolean), false, 0, 0, 161)
abbrev M_X11_isPart : MT := (cX11_isPart, RX11, 0, 2, (some .boolean), false, 0, 0, 161)
abbrev M_X11_isScene : MT := (cX11_isScene, RX11, 0, 2, (some .boolean), false, 0, 0, 161)
abbrev M_X11_isOn : MT := (cX11_isOn, RX11, 0, 2, (some .boolean), false, 0, 0, 161)
abbrev M_X11_isSaw : MT := (cX11_isSaw, RX11, 0, 2, (some .boolean), false, 0, 0, 161)
abbrev M_X11_isPlayer : MT := (cX11_isPlayer, RX11, 1, 2, (some .boolean), false, 0, 0, 161)
abbrev M_X11_tonight : MT := (cX11_tonight, RX11, 4, 1, (some (.object "OnePlays$Night")), false, 0, 0, 161)
abbrev M_X11_onsOf : MT := (cX11_onsOf, RX11, 2, 2, (some .int), false, 0, 0, 161)
abbrev M_X11_orders : MT := (cX11_orders, RX11, 1, 1, (some .int), false, 0, 0, 161)
abbrev M_X11_scene : MT := (cX11_scene, RX11, 2, 2, (some .int), false, 0, 0, 161)
abbrev M_X11_begins : MT := (cX11_begins, RX11, 5, 4, (some .int), false, 0, 0, 161)
abbrev M_X11_seen : MT := (cX11_seen, RX11, 5, 4, (some .int), false, 0, 0, 161)
abbrev M_X11_change : MT := (cX11_change, RX11, 1, 3, (some .int), false, 0, 0, 161)
abbrev M_X11_need : MT := (cX11_need, RX11, 2, 3, (some .int), false, 0, 0, 161)
abbrev M_X11_meet : MT := (cX11_meet, RX11, 5, 3, (some .int), false, 0, 0, 161)
abbrev M_X11_bodily : MT := (cX11_bodily, RX11, 5, 3, (some .int), false, 0, 0, 161)
abbrev M_X11_can : MT := (cX11_can, RX11, 5, 2, (some .int), false, 0, 0, 161)
abbrev M_X11_could : MT := (cX11_could, RX11, 5, 2, (some .int), false, 0, 0, 161)
abbrev M_X11_troubled : MT := (cX11_troubled, RX11, 5, 6, (some .int), false, 0, 0, 161)
abbrev M_X11_slack : MT := (cX11_slack, RX11, 5, 2, (some .int), false, 0, 0, 161)
abbrev M_X11_sweat : MT := (cX11_sweat, RX11, 5, 5, (some .int), false, 0, 0, 161)
abbrev M_X11_fewest : MT := (cX11_fewest, RX11, 15, 1, (some .int), false, 0, 0, 161)
abbrev M_X11_player : MT := (cX11_player, RX11, 16, 2, (some .int), false, 0, 0, 161)
abbrev M_X11_fewestOfAll : MT := (cX11_fewestOfAll, RX11, 15, 1, (some .int), false, 0, 0, 161)
abbrev M_X11_sceneOfAll : MT := (cX11_sceneOfAll, RX11, 15, 2, (some .int), false, 0, 0, 161)
abbrev M_X11_enough : MT := (cX11_enough, RX11, 15, 2, (some .int), false, 0, 0, 161)
abbrev M_X11_cuts : MT := (cX11_cuts, RX11, 12, 1, (some .int), false, 0, 0, 161)
abbrev M_X11_cutsBy : MT := (cX11_cutsBy, RX11, 12, 1, (some .int), false, 0, 0, 161)
abbrev M_X11_ready : MT := (cX11_ready, RX11, 16, 3, (some .int), false, 0, 0, 161)
abbrev M_X11_lent : MT := (cX11_lent, RX11, 16, 2, (some .int), false, 0, 0, 161)
abbrev M_X11_fewestWithout : MT := (cX11_fewestWithout, RX11, 15, 2, (some .int), false, 0, 0, 161)
abbrev M_X11_lend : MT := (cX11_lend, RX11, 16, 5, (some .int), false, 0, 0, 161)
abbrev M_X11_gap : MT := (cX11_gap, RX11, 16, 1, (some .int), false, 0, 0, 161)
abbrev M_X11_swaps : MT := (cX11_swaps, RX11, 16, 1, (some .int), false, 0, 0, 161)
abbrev M_X11_who : MT := (cX11_who, RX11, 10, 2, (some .int), false, 0, 0, 161)
abbrev M_X11_same : MT := (cX11_same, RX11, 4, 3, (some .int), false, 0, 0, 161)
abbrev M_X11_must : MT := (cX11_must, RX11, 15, 1, (some .int), false, 0, 0, 161)
abbrev M_X11_betrayed : MT := (cX11_betrayed, RX11, 4, 3, (some .int), false, 0, 0, 161)
abbrev M_X11_swap : MT := (cX11_swap, RX11, 3, 4, (some .boolean), false, 0, 0, 161)
abbrev M_X11_cast : MT := (cX11_cast, RX11, 3, 3, (some .boolean), false, 0, 0, 161)
abbrev M_X11_cut : MT := (cX11_cut, RX11, 3, 3, (some .boolean), false, 0, 0, 161)
abbrev M_X11_done : MT := (cX11_done, RX11, 0, 1, (some .boolean), false, 0, 0, 161)
abbrev M_X11_undo : MT := (cX11_undo, RX11, 1, 1, (some .boolean), false, 0, 0, 161)
abbrev M_X11_redo : MT := (cX11_redo, RX11, 1, 1, (some .boolean), false, 0, 0, 161)
abbrev M_X11_image : MT := (cX11_image, RX11, 1, 1, (some .int), false, 0, 0, 161)
abbrev M_X11_back : MT := (cX11_back, RX11, 1, 2, (some .boolean), false, 0, 0, 161)
abbrev M_X11_part : MT := (cX11_part, RX11, 1, 3, (some .int), false, 0, 0, 161)
abbrev M_X11_on : MT := (cX11_on, RX11, 2, 3, (some .int), false, 0, 0, 161)
abbrev M_X11_led : MT := (cX11_led, RX11, 9, 4, (some .int), false, 0, 0, 161)
abbrev M_X11_size : MT := (cX11_size, RX11, 0, 2, (some .int), false, 0, 0, 161)
abbrev M_X11_trouble : MT := (cX11_trouble, RX11, 0, 1, (some .int), false, 0, 0, 161)
abbrev M_X11_shiftAt : MT := (cX11_shiftAt, RX11, 0, 1, (some .int), false, 0, 0, 161)
abbrev M_X11_sceneAt : MT := (cX11_sceneAt, RX11, 1, 2, (some .int), false, 0, 0, 161)
abbrev M_X11_swapped : MT := (cX11_swapped, RX11, 2, 4, (some .int), false, 0, 0, 161)
abbrev M_X12_init (n : Nat) : MT := (cX12_init, RX12, 1, 1, none, true, 21, 5419, n + 21)
abbrev M_X12_thrown : MT := (cX12_thrown, RX12, 0, 1, (some .int), false, 0, 0, 161)
abbrev M_X12_good : MT := (cX12_good, RX12, 0, 1, none, false, 0, 0, 161)
abbrev M_X12_no : MT := (cX12_no, RX12, 0, 2, (some .int), false, 0, 0, 161)
abbrev M_X12_isNot : MT := (cX12_isNot, RX12, 0, 2, (some .boolean), false, 0, 0, 161)
abbrev M_X12_within : MT := (cX12_within, RX12, 0, 3, (some .boolean), false, 0, 0, 161)
abbrev M_X12_has : MT := (cX12_has, RX12, 0, 2, (some .boolean), false, 0, 0, 161)
abbrev M_X12_bits : MT := (cX12_bits, RX12, 0, 3, (some .int), false, 0, 0, 161)
abbrev M_X12_copy : MT := (cX12_copy, RX12, 0, 6, none, false, 0, 0, 161)
abbrev M_X12_feed : MT := (cX12_feed, RX12, 0, 8, (some .int), false, 0, 0, 161)
abbrev M_X12_look : MT := (cX12_look, RX12, 0, 2, (some .int), false, 0, 0, 161)
abbrev M_X12_isSmall : MT := (cX12_isSmall, RX12, 0, 1, (some .boolean), false, 0, 0, 161)
abbrev M_X12_isDigit : MT := (cX12_isDigit, RX12, 0, 1, (some .boolean), false, 0, 0, 161)
abbrev M_X12_next : MT := (cX12_next, RX12, 1, 4, none, false, 0, 0, 161)
abbrev M_X12_wrong : MT := (cX12_wrong, RX12, 0, 3, none, false, 0, 0, 161)
abbrev M_X12_isWord : MT := (cX12_isWord, RX12, 7, 4, (some .boolean), false, 0, 0, 161)
abbrev M_X12_takes : MT := (cX12_takes, RX12, 8, 2, (some .boolean), false, 0, 0, 161)
abbrev M_X12_must : MT := (cX12_must, RX12, 9, 2, none, false, 0, 0, 161)
abbrev M_X12_mustName : MT := (cX12_mustName, RX12, 8, 2, none, false, 0, 0, 161)
abbrev M_X12_find : MT := (cX12_find, RX12, 0, 4, (some .int), false, 0, 0, 161)
abbrev M_X12_newName : MT := (cX12_newName, RX12, 9, 3, none, false, 0, 0, 161)
abbrev M_X12_named : MT := (cX12_named, RX12, 9, 3, (some .int), false, 0, 0, 161)
abbrev M_X12_passed : MT := (cX12_passed, RX12, 10, 3, (some .int), false, 0, 0, 161)
abbrev M_X12_number : MT := (cX12_number, RX12, 2, 4, (some .int), false, 0, 0, 161)
abbrev M_X12_told : MT := (cX12_told, RX12, 10, 4, (some .int), false, 0, 0, 161)
abbrev M_X12_side : MT := (cX12_side, RX12, 10, 1, (some .int), false, 0, 0, 161)
abbrev M_X12_piece : MT := (cX12_piece, RX12, 13, 3, (some .int), false, 0, 0, 161)
abbrev M_X12_begins : MT := (cX12_begins, RX12, 8, 4, (some .boolean), false, 0, 0, 161)
abbrev M_X12_readLine : MT := (cX12_readLine, RX12, 12, 1, none, false, 0, 0, 161)
abbrev M_X12_pieceLine : MT := (cX12_pieceLine, RX12, 11, 1, none, false, 0, 0, 161)
abbrev M_X12_partLine : MT := (cX12_partLine, RX12, 11, 2, none, false, 0, 0, 161)
abbrev M_X12_sceneLine : MT := (cX12_sceneLine, RX12, 11, 2, none, false, 0, 0, 161)
abbrev M_X12_afterLine : MT := (cX12_afterLine, RX12, 11, 3, none, false, 0, 0, 161)
abbrev M_X12_comesBefore : MT := (cX12_comesBefore, RX12, 1, 6, (some .boolean), false, 0, 0, 161)
abbrev M_X12_onLine : MT := (cX12_onLine, RX12, 11, 9, none, false, 0, 0, 161)
abbrev M_X12_sawLine : MT := (cX12_sawLine, RX12, 11, 2, none, false, 0, 0, 161)
abbrev M_X12_fault : MT := (cX12_fault, RX12, 0, 1, (some .int), false, 0, 0, 161)
abbrev M_X12_where : MT := (cX12_where, RX12, 0, 1, (some .int), false, 0, 0, 161)
abbrev M_X12_isPart : MT := (cX12_isPart, RX12, 1, 2, (some .boolean), false, 0, 0, 161)
abbrev M_X12_isScene : MT := (cX12_isScene, RX12, 1, 2, (some .boolean), false, 0, 0, 161)
abbrev M_X12_isOn : MT := (cX12_isOn, RX12, 1, 2, (some .boolean), false, 0, 0, 161)
abbrev M_X12_isPlayer : MT := (cX12_isPlayer, RX12, 1, 2, (some .boolean), false, 0, 0, 161)
abbrev M_X12_isSaw : MT := (cX12_isSaw, RX12, 1, 2, (some .boolean), false, 0, 0, 161)
abbrev M_X12_onOf : MT := (cX12_onOf, RX12, 0, 3, (some .int), false, 0, 0, 161)
abbrev M_X12_isOrder : MT := (cX12_isOrder, RX12, 0, 4, (some .boolean), false, 0, 0, 161)
abbrev M_X12_firstOrder : MT := (cX12_firstOrder, RX12, 3, 2, (some .boolean), false, 0, 0, 161)
abbrev M_X12_nextOrder : MT := (cX12_nextOrder, RX12, 2, 2, (some .boolean), false, 0, 0, 161)
abbrev M_X12_nextRow : MT := (cX12_nextRow, RX12, 1, 6, (some .boolean), false, 0, 0, 161)
abbrev M_X12_turn : MT := (cX12_turn, RX12, 0, 4, none, false, 0, 0, 161)
abbrev M_X12_orders : MT := (cX12_orders, RX12, 4, 3, (some .int), false, 0, 0, 161)
abbrev M_X12_scene : MT := (cX12_scene, RX12, 2, 2, (some .int), false, 0, 0, 161)
abbrev M_X12_layTime : MT := (cX12_layTime, RX12, 1, 5, none, false, 0, 0, 161)
abbrev M_X12_begins_ : MT := (cX12_begins_, RX12, 2, 3, (some .int), false, 0, 0, 161)
abbrev M_X12_seen : MT := (cX12_seen, RX12, 2, 3, (some .int), false, 0, 0, 161)
abbrev M_X12_timeOf : MT := (cX12_timeOf, RX12, 0, 3, (some .int), false, 0, 0, 161)
abbrev M_X12_changeOf : MT := (cX12_changeOf, RX12, 1, 5, (some .int), false, 0, 0, 161)
abbrev M_X12_needOf : MT := (cX12_needOf, RX12, 2, 3, (some .int), false, 0, 0, 161)
abbrev M_X12_change : MT := (cX12_change, RX12, 2, 3, (some .int), false, 0, 0, 161)
abbrev M_X12_need : MT := (cX12_need, RX12, 3, 3, (some .int), false, 0, 0, 161)
abbrev M_X12_doMeet : MT := (cX12_doMeet, RX12, 0, 3, (some .boolean), false, 0, 0, 161)
abbrev M_X12_meet : MT := (cX12_meet, RX12, 2, 3, (some .int), false, 0, 0, 161)
abbrev M_X12_onsOf : MT := (cX12_onsOf, RX12, 1, 5, (some .int), false, 0, 0, 161)
abbrev M_X12_bodilyOf : MT := (cX12_bodilyOf, RX12, 1, 7, (some .int), false, 0, 0, 161)
abbrev M_X12_behindOf : MT := (cX12_behindOf, RX12, 1, 4, (some .int), false, 0, 0, 161)
abbrev M_X12_puppetsOf : MT := (cX12_puppetsOf, RX12, 1, 4, (some .int), false, 0, 0, 161)
abbrev M_X12_doMeetSets : MT := (cX12_doMeetSets, RX12, 1, 6, (some .boolean), false, 0, 0, 161)
abbrev M_X12_canHave : MT := (cX12_canHave, RX12, 3, 8, (some .boolean), false, 0, 0, 161)
abbrev M_X12_partsOf : MT := (cX12_partsOf, RX12, 0, 4, (some .int), false, 0, 0, 161)
abbrev M_X12_onsOfPlayer : MT := (cX12_onsOfPlayer, RX12, 2, 2, (some .int), false, 0, 0, 161)
abbrev M_X12_bodily : MT := (cX12_bodily, RX12, 3, 2, (some .int), false, 0, 0, 161)
abbrev M_X12_can : MT := (cX12_can, RX12, 4, 2, (some .int), false, 0, 0, 161)
abbrev M_X12_allParts : MT := (cX12_allParts, RX12, 0, 1, (some .int), false, 0, 0, 161)
abbrev M_X12_could : MT := (cX12_could, RX12, 4, 2, (some .int), false, 0, 0, 161)
abbrev M_X12_troubled : MT := (cX12_troubled, RX12, 4, 4, (some .int), false, 0, 0, 161)
abbrev M_X12_slack : MT := (cX12_slack, RX12, 3, 9, (some .int), false, 0, 0, 161)
abbrev M_X12_secondsOf : MT := (cX12_secondsOf, RX12, 1, 4, (some .int), false, 0, 0, 161)
abbrev M_X12_sweat : MT := (cX12_sweat, RX12, 3, 9, (some .int), false, 0, 0, 161)
abbrev M_X12_layMay : MT := (cX12_layMay, RX12, 4, 3, none, false, 0, 0, 161)
abbrev M_X12_fewestBy : MT := (cX12_fewestBy, RX12, 5, 7, (some .int), false, 0, 0, 161)
abbrev M_X12_playersOf : MT := (cX12_playersOf, RX12, 0, 3, (some .int), false, 0, 0, 161)
abbrev M_X12_doAllCan : MT := (cX12_doAllCan, RX12, 0, 6, (some .boolean), false, 0, 0, 161)
abbrev M_X12_nextCast : MT := (cX12_nextCast, RX12, 0, 4, (some .boolean), false, 0, 0, 161)
abbrev M_X12_fewest : MT := (cX12_fewest, RX12, 6, 1, (some .int), false, 0, 0, 161)
abbrev M_X12_player : MT := (cX12_player, RX12, 6, 2, (some .int), false, 0, 0, 161)
abbrev M_X12_fewestOverAll : MT := (cX12_fewestOverAll, RX12, 6, 4, (some .int), false, 0, 0, 161)
abbrev M_X12_fewestOfAll : MT := (cX12_fewestOfAll, RX12, 7, 1, (some .int), false, 0, 0, 161)
abbrev M_X12_sceneOfAll : MT := (cX12_sceneOfAll, RX12, 7, 2, (some .int), false, 0, 0, 161)
abbrev M_X12_enough : MT := (cX12_enough, RX12, 7, 2, (some .int), false, 0, 0, 161)
abbrev M_X12_cutsOf : MT := (cX12_cutsOf, RX12, 6, 5, (some .int), false, 0, 0, 161)
abbrev M_X12_cuts : MT := (cX12_cuts, RX12, 7, 2, (some .int), false, 0, 0, 161)
abbrev M_X12_cutsBy : MT := (cX12_cutsBy, RX12, 7, 1, (some .int), false, 0, 0, 161)
abbrev M_X12_ready : MT := (cX12_ready, RX12, 6, 4, (some .int), false, 0, 0, 161)
abbrev M_X12_fewestOf : MT := (cX12_fewestOf, RX12, 0, 5, (some .int), false, 0, 0, 161)
abbrev M_X12_lentOf : MT := (cX12_lentOf, RX12, 5, 2, (some .int), false, 0, 0, 161)
abbrev M_X12_lent : MT := (cX12_lent, RX12, 6, 2, (some .int), false, 0, 0, 161)
abbrev M_X12_lend : MT := (cX12_lend, RX12, 6, 5, (some .int), false, 0, 0, 161)
abbrev M_X12_doTold : MT := (cX12_doTold, RX12, 6, 3, (some .boolean), false, 0, 0, 161)
abbrev M_X12_gap : MT := (cX12_gap, RX12, 7, 4, (some .int), false, 0, 0, 161)
abbrev M_X12_codeOf : MT := (cX12_codeOf, RX12, 0, 4, (some .int), false, 0, 0, 161)
abbrev M_X12_layRow : MT := (cX12_layRow, RX12, 0, 4, none, false, 0, 0, 161)
abbrev M_X12_swaps : MT := (cX12_swaps, RX12, 7, 7, (some .int), false, 0, 0, 161)
abbrev M_X12_who : MT := (cX12_who, RX12, 5, 7, (some .int), false, 0, 0, 161)
abbrev M_X12_sawOf : MT := (cX12_sawOf, RX12, 0, 3, (some .int), false, 0, 0, 161)
abbrev M_X12_isEarlier : MT := (cX12_isEarlier, RX12, 1, 3, (some .boolean), false, 0, 0, 161)
abbrev M_X12_canBeThen : MT := (cX12_canBeThen, RX12, 2, 3, (some .boolean), false, 0, 0, 161)
abbrev M_X12_canBeBoth : MT := (cX12_canBeBoth, RX12, 3, 3, (some .boolean), false, 0, 0, 161)
abbrev M_X12_canBeAll : MT := (cX12_canBeAll, RX12, 3, 6, (some .boolean), false, 0, 0, 161)
abbrev M_X12_same : MT := (cX12_same, RX12, 4, 3, (some .int), false, 0, 0, 161)
abbrev M_X12_must_ : MT := (cX12_must_, RX12, 4, 5, (some .int), false, 0, 0, 161)
abbrev M_X12_betrayed : MT := (cX12_betrayed, RX12, 4, 3, (some .int), false, 0, 0, 161)
abbrev M_X12_keep : MT := (cX12_keep, RX12, 1, 5, (some .int), false, 0, 0, 161)
abbrev M_X12_did : MT := (cX12_did, RX12, 2, 1, (some .boolean), false, 0, 0, 161)
abbrev M_X12_swap : MT := (cX12_swap, RX12, 3, 3, (some .boolean), false, 0, 0, 161)
abbrev M_X12_cast : MT := (cX12_cast, RX12, 3, 3, (some .boolean), false, 0, 0, 161)
abbrev M_X12_cut : MT := (cX12_cut, RX12, 3, 3, (some .boolean), false, 0, 0, 161)
abbrev M_X12_undo : MT := (cX12_undo, RX12, 2, 1, (some .boolean), false, 0, 0, 161)
abbrev M_X12_redo : MT := (cX12_redo, RX12, 2, 1, (some .boolean), false, 0, 0, 161)
abbrev M_X12_image : MT := (cX12_image, RX12, 1, 1, (some .int), false, 0, 0, 161)
abbrev M_X12_back : MT := (cX12_back, RX12, 1, 2, (some .boolean), false, 0, 0, 161)
abbrev M_X12_part : MT := (cX12_part, RX12, 2, 3, (some .int), false, 0, 0, 161)
abbrev M_X12_on : MT := (cX12_on, RX12, 2, 3, (some .int), false, 0, 0, 161)
abbrev M_X12_led : MT := (cX12_led, RX12, 3, 6, (some .int), false, 0, 0, 161)
abbrev M_X12_size : MT := (cX12_size, RX12, 1, 2, (some .int), false, 0, 0, 161)
abbrev M_X12_trouble : MT := (cX12_trouble, RX12, 0, 1, (some .int), false, 0, 0, 161)
abbrev M_J9_max_7cf53 : MT := (cJ9_max_7cf53, RJ9, 0, 2, (some .int), false, 0, 0, 161)
abbrev M_J9_min_7cf53 : MT := (cJ9_min_7cf53, RJ9, 0, 2, (some .int), false, 0, 0, 161)
abbrev M_J0_length_8abf5 : MT := (cJ0_length_8abf5, RJ0, 1, 1, (some .int), false, 0, 0, 161)
abbrev M_J0_charAt_5068e : MT := (cJ0_charAt_5068e, RJ0, 5, 2, (some .char), false, 0, 0, 161)
abbrev M_J0_coder_7d493 : MT := (cJ0_coder_7d493, RJ0, 0, 1, (some .byte), false, 0, 0, 161)
abbrev M_J0_isLatin1_aae02 : MT := (cJ0_isLatin1_aae02, RJ0, 0, 1, (some .boolean), false, 0, 0, 161)
abbrev M_J0_checkIndex_df160 : MT := (cJ0_checkIndex_df160, RJ0, 2, 2, none, false, 0, 0, 161)
abbrev M_J1_charAt_3b067 : MT := (cJ1_charAt_3b067, RJ1, 4, 2, (some .char), false, 0, 0, 161)
abbrev M_J7_fill_53178 : MT := (cJ7_fill_53178, RJ7, 0, 4, none, false, 0, 0, 161)
abbrev M_J3_checkIndex_8e157 : MT := (cJ3_checkIndex_8e157, RJ3, 1, 3, (some .int), false, 0, 0, 161)
