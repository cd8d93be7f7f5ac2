/-! ===== the law: its cases ===== -/
theorem cv_L_13 : gCV RL 13 yX7_note cX7_note 4 (some .int) 3 7 := ⟨TX7, 8, rfl, (gm_2 7 rfl rfl), (gm_2 8 rfl rfl), (gm_2 9 rfl rfl), (gm_1 1 rfl rfl), (gm_2 10 rfl rfl), ⟨by decide, by decide, by decide +kernel⟩, by decide⟩
theorem cv_L_17 : gCV RL 17 yX8_note cX8_note 4 (some .int) 3 8 := ⟨TX8, 34, rfl, (gm_3 142 rfl rfl), (gm_3 143 rfl rfl), (gm_3 144 rfl rfl), (gm_1 9 rfl rfl), (gm_3 145 rfl rfl), ⟨by decide, by decide, by decide +kernel⟩, by decide⟩
theorem cv_L_18 : gCV RL 18 yX7_record cX7_record 3 (some .int) 2 7 := ⟨TX7, 8, rfl, (gm_2 22 rfl rfl), (gm_2 23 rfl rfl), (gm_2 24 rfl rfl), (gm_1 1 rfl rfl), (gm_2 25 rfl rfl), ⟨by decide, by decide, by decide +kernel⟩, by decide⟩
theorem cv_L_22 : gCV RL 22 yX8_record cX8_record 4 (some .int) 2 8 := ⟨TX8, 34, rfl, (gm_3 149 rfl rfl), (gm_3 150 rfl rfl), (gm_3 151 rfl rfl), (gm_1 9 rfl rfl), (gm_3 152 rfl rfl), ⟨by decide, by decide, by decide +kernel⟩, by decide⟩
theorem cv_L_23 : gCV RL 23 yX7_read cX7_read 4 (some .int) 3 7 := ⟨TX7, 8, rfl, (gm_2 30 rfl rfl), (gm_2 31 rfl rfl), (gm_2 32 rfl rfl), (gm_1 1 rfl rfl), (gm_2 33 rfl rfl), ⟨by decide, by decide, by decide +kernel⟩, by decide⟩
theorem cv_L_26 : gCV RL 26 yX8_read cX8_read 5 (some .int) 3 8 := ⟨TX8, 34, rfl, (gm_3 156 rfl rfl), (gm_3 157 rfl rfl), (gm_3 158 rfl rfl), (gm_1 9 rfl rfl), (gm_3 159 rfl rfl), ⟨by decide, by decide, by decide +kernel⟩, by decide⟩
theorem cv_L_27 : gCV RL 27 yX7_rules cX7_rules 6 (some .boolean) 5 7 := ⟨TX7, 8, rfl, (gm_2 38 rfl rfl), (gm_2 39 rfl rfl), (gm_2 40 rfl rfl), (gm_1 1 rfl rfl), (gm_2 41 rfl rfl), ⟨by decide, by decide, by decide +kernel⟩, by decide⟩
theorem cv_L_31 : gCV RL 31 yX8_rules cX8_rules 6 (some .boolean) 5 8 := ⟨TX8, 34, rfl, (gm_3 160 rfl rfl), (gm_3 161 rfl rfl), (gm_3 162 rfl rfl), (gm_1 9 rfl rfl), (gm_3 163 rfl rfl), ⟨by decide, by decide, by decide +kernel⟩, by decide⟩
theorem cv_L_32 : gCV RL 32 yX7_lay cX7_lay 2 (some .int) 1 7 := ⟨TX7, 8, rfl, (gm_2 46 rfl rfl), (gm_2 47 rfl rfl), (gm_2 48 rfl rfl), (gm_1 1 rfl rfl), (gm_2 49 rfl rfl), ⟨by decide, by decide, by decide +kernel⟩, by decide⟩
theorem cv_L_36 : gCV RL 36 yX8_lay cX8_lay 2 (some .int) 1 8 := ⟨TX8, 34, rfl, (gm_3 164 rfl rfl), (gm_3 165 rfl rfl), (gm_3 166 rfl rfl), (gm_1 9 rfl rfl), (gm_3 167 rfl rfl), ⟨by decide, by decide, by decide +kernel⟩, by decide⟩
theorem cv_L_37 : gCV RL 37 yX7_laid cX7_laid 4 (some .int) 3 7 := ⟨TX7, 8, rfl, (gm_2 112 rfl rfl), (gm_2 113 rfl rfl), (gm_2 114 rfl rfl), (gm_1 1 rfl rfl), (gm_2 115 rfl rfl), ⟨by decide, by decide, by decide +kernel⟩, by decide⟩
theorem cv_L_40 : gCV RL 40 yX8_laid cX8_laid 4 (some .int) 3 8 := ⟨TX8, 34, rfl, (gm_3 192 rfl rfl), (gm_3 193 rfl rfl), (gm_3 194 rfl rfl), (gm_1 9 rfl rfl), (gm_3 195 rfl rfl), ⟨by decide, by decide, by decide +kernel⟩, by decide⟩
theorem cv_L_41 : gCV RL 41 yX7_off cX7_off 3 (some .int) 2 7 := ⟨TX7, 8, rfl, (gm_2 116 rfl rfl), (gm_2 117 rfl rfl), (gm_2 118 rfl rfl), (gm_1 1 rfl rfl), (gm_2 119 rfl rfl), ⟨by decide, by decide, by decide +kernel⟩, by decide⟩
theorem cv_L_44 : gCV RL 44 yX8_off cX8_off 3 (some .int) 2 8 := ⟨TX8, 34, rfl, (gm_3 204 rfl rfl), (gm_3 205 rfl rfl), (gm_3 206 rfl rfl), (gm_1 9 rfl rfl), (gm_3 207 rfl rfl), ⟨by decide, by decide, by decide +kernel⟩, by decide⟩
theorem cv_L_45 : gCV RL 45 yX7_told cX7_told 3 (some .int) 2 7 := ⟨TX7, 8, rfl, (gm_2 121 rfl rfl), (gm_2 122 rfl rfl), (gm_2 123 rfl rfl), (gm_1 1 rfl rfl), (gm_2 124 rfl rfl), ⟨by decide, by decide, by decide +kernel⟩, by decide⟩
theorem cv_L_48 : gCV RL 48 yX8_told cX8_told 8 (some .int) 2 8 := ⟨TX8, 34, rfl, (gm_3 209 rfl rfl), (gm_3 210 rfl rfl), (gm_3 211 rfl rfl), (gm_1 9 rfl rfl), (gm_3 212 rfl rfl), ⟨by decide, by decide, by decide +kernel⟩, by decide⟩
theorem cv_L_49 : gCV RL 49 yX7_sing cX7_sing 2 (some .int) 1 7 := ⟨TX7, 8, rfl, (gm_2 125 rfl rfl), (gm_2 126 rfl rfl), (gm_2 127 rfl rfl), (gm_1 1 rfl rfl), (gm_2 128 rfl rfl), ⟨by decide, by decide, by decide +kernel⟩, by decide⟩
theorem cv_L_52 : gCV RL 52 yX8_sing cX8_sing 2 (some .int) 1 8 := ⟨TX8, 34, rfl, (gm_3 213 rfl rfl), (gm_3 214 rfl rfl), (gm_3 215 rfl rfl), (gm_1 9 rfl rfl), (gm_3 216 rfl rfl), ⟨by decide, by decide, by decide +kernel⟩, by decide⟩
theorem cv_L_55 : gCV RL 55 yX7_judge cX7_judge 5 (some .boolean) 3 7 := ⟨TX7, 8, rfl, (gm_2 135 rfl rfl), (gm_2 136 rfl rfl), (gm_2 137 rfl rfl), (gm_1 1 rfl rfl), (gm_2 138 rfl rfl), ⟨by decide, by decide, by decide +kernel⟩, by decide⟩
theorem cv_L_59 : gCV RL 59 yX8_judge cX8_judge 8 (some .boolean) 3 8 := ⟨TX8, 34, rfl, (gm_3 220 rfl rfl), (gm_3 221 rfl rfl), (gm_3 222 rfl rfl), (gm_1 9 rfl rfl), (gm_3 223 rfl rfl), ⟨by decide, by decide, by decide +kernel⟩, by decide⟩
theorem cv_L_60 : gCV RL 60 yX7_judges cX7_judges 1 (some .int) 0 7 := ⟨TX7, 8, rfl, (gm_2 146 rfl rfl), (gm_2 147 rfl rfl), (gm_2 148 rfl rfl), (gm_1 1 rfl rfl), (gm_2 149 rfl rfl), ⟨by decide, by decide, by decide +kernel⟩, by decide⟩
theorem cv_L_64 : gCV RL 64 yX8_judges cX8_judges 3 (some .int) 0 8 := ⟨TX8, 34, rfl, (gm_3 225 rfl rfl), (gm_3 226 rfl rfl), (gm_3 227 rfl rfl), (gm_1 9 rfl rfl), (gm_3 228 rfl rfl), ⟨by decide, by decide, by decide +kernel⟩, by decide⟩
theorem cv_L_65 : gCV RL 65 yX7_place cX7_place 2 (some .int) 1 7 := ⟨TX7, 8, rfl, (gm_2 158 rfl rfl), (gm_2 159 rfl rfl), (gm_2 160 rfl rfl), (gm_1 1 rfl rfl), (gm_2 161 rfl rfl), ⟨by decide, by decide, by decide +kernel⟩, by decide⟩
theorem cv_L_68 : gCV RL 68 yX8_place_ cX8_place_ 2 (some .int) 1 8 := ⟨TX8, 34, rfl, (gm_3 233 rfl rfl), (gm_3 234 rfl rfl), (gm_3 235 rfl rfl), (gm_1 9 rfl rfl), (gm_3 236 rfl rfl), ⟨by decide, by decide, by decide +kernel⟩, by decide⟩
theorem cv_L_69 : gCV RL 69 yX7_ranks cX7_ranks 3 (some .int) 2 7 := ⟨TX7, 8, rfl, (gm_2 189 rfl rfl), (gm_2 190 rfl rfl), (gm_2 191 rfl rfl), (gm_1 1 rfl rfl), (gm_2 192 rfl rfl), ⟨by decide, by decide, by decide +kernel⟩, by decide⟩
theorem cv_L_72 : gCV RL 72 yX8_ranks cX8_ranks 3 (some .int) 2 8 := ⟨TX8, 34, rfl, (gm_4 14 rfl rfl), (gm_4 15 rfl rfl), (gm_4 16 rfl rfl), (gm_1 9 rfl rfl), (gm_4 17 rfl rfl), ⟨by decide, by decide, by decide +kernel⟩, by decide⟩
theorem cv_L_73 : gCV RL 73 yX7_member cX7_member 5 (some .int) 4 7 := ⟨TX7, 8, rfl, (gm_2 194 rfl rfl), (gm_2 195 rfl rfl), (gm_2 196 rfl rfl), (gm_1 1 rfl rfl), (gm_2 197 rfl rfl), ⟨by decide, by decide, by decide +kernel⟩, by decide⟩
theorem cv_L_77 : gCV RL 77 yX8_member cX8_member 5 (some .int) 4 8 := ⟨TX8, 34, rfl, (gm_4 18 rfl rfl), (gm_4 19 rfl rfl), (gm_4 20 rfl rfl), (gm_1 9 rfl rfl), (gm_4 21 rfl rfl), ⟨by decide, by decide, by decide +kernel⟩, by decide⟩
theorem cv_L_78 : gCV RL 78 yX7_may cX7_may 4 (some .int) 3 7 := ⟨TX7, 8, rfl, (gm_2 205 rfl rfl), (gm_2 206 rfl rfl), (gm_2 207 rfl rfl), (gm_1 1 rfl rfl), (gm_2 208 rfl rfl), ⟨by decide, by decide, by decide +kernel⟩, by decide⟩
theorem cv_L_81 : gCV RL 81 yX8_may cX8_may 4 (some .int) 3 8 := ⟨TX8, 34, rfl, (gm_4 26 rfl rfl), (gm_4 27 rfl rfl), (gm_4 28 rfl rfl), (gm_1 9 rfl rfl), (gm_4 29 rfl rfl), ⟨by decide, by decide, by decide +kernel⟩, by decide⟩
theorem cv_L_82 : gCV RL 82 yX7_singers cX7_singers 3 (some .int) 2 7 := ⟨TX7, 8, rfl, (gm_2 214 rfl rfl), (gm_2 215 rfl rfl), (gm_2 216 rfl rfl), (gm_1 1 rfl rfl), (gm_2 217 rfl rfl), ⟨by decide, by decide, by decide +kernel⟩, by decide⟩
theorem cv_L_85 : gCV RL 85 yX8_singers cX8_singers 5 (some .int) 2 8 := ⟨TX8, 34, rfl, (gm_4 22 rfl rfl), (gm_4 23 rfl rfl), (gm_4 24 rfl rfl), (gm_1 9 rfl rfl), (gm_4 25 rfl rfl), ⟨by decide, by decide, by decide +kernel⟩, by decide⟩
theorem cv_L_86 : gCV RL 86 yX7_perform cX7_perform 2 (some .int) 1 7 := ⟨TX7, 8, rfl, (gm_2 218 rfl rfl), (gm_2 219 rfl rfl), (gm_2 220 rfl rfl), (gm_1 1 rfl rfl), (gm_2 221 rfl rfl), ⟨by decide, by decide, by decide +kernel⟩, by decide⟩
theorem cv_L_89 : gCV RL 89 yX8_perform cX8_perform 2 (some .int) 1 8 := ⟨TX8, 34, rfl, (gm_4 31 rfl rfl), (gm_4 32 rfl rfl), (gm_4 33 rfl rfl), (gm_1 9 rfl rfl), (gm_4 34 rfl rfl), ⟨by decide, by decide, by decide +kernel⟩, by decide⟩
theorem cv_L_90 : gCV RL 90 yX7_clear cX7_clear 2 (some .int) 0 7 := ⟨TX7, 8, rfl, (gm_2 226 rfl rfl), (gm_2 227 rfl rfl), (gm_2 228 rfl rfl), (gm_1 1 rfl rfl), (gm_2 229 rfl rfl), ⟨by decide, by decide, by decide +kernel⟩, by decide⟩
theorem cv_L_93 : gCV RL 93 yX8_clear cX8_clear 2 (some .int) 0 8 := ⟨TX8, 34, rfl, (gm_4 35 rfl rfl), (gm_4 36 rfl rfl), (gm_4 37 rfl rfl), (gm_1 9 rfl rfl), (gm_4 38 rfl rfl), ⟨by decide, by decide, by decide +kernel⟩, by decide⟩
theorem cv_L_94 : gCV RL 94 yX7_halls cX7_halls 3 (some .int) 1 7 := ⟨TX7, 8, rfl, (gm_2 230 rfl rfl), (gm_2 231 rfl rfl), (gm_2 232 rfl rfl), (gm_1 1 rfl rfl), (gm_2 233 rfl rfl), ⟨by decide, by decide, by decide +kernel⟩, by decide⟩
theorem cv_L_97 : gCV RL 97 yX8_halls cX8_halls 3 (some .int) 1 8 := ⟨TX8, 34, rfl, (gm_4 39 rfl rfl), (gm_4 40 rfl rfl), (gm_4 41 rfl rfl), (gm_1 9 rfl rfl), (gm_4 42 rfl rfl), ⟨by decide, by decide, by decide +kernel⟩, by decide⟩
theorem cv_L_98 : gCV RL 98 yX7_hours cX7_hours 2 (some .int) 1 7 := ⟨TX7, 8, rfl, (gm_2 234 rfl rfl), (gm_2 235 rfl rfl), (gm_2 236 rfl rfl), (gm_1 1 rfl rfl), (gm_2 237 rfl rfl), ⟨by decide, by decide, by decide +kernel⟩, by decide⟩
theorem cv_L_101 : gCV RL 101 yX8_hours cX8_hours 4 (some .int) 1 8 := ⟨TX8, 34, rfl, (gm_4 43 rfl rfl), (gm_4 44 rfl rfl), (gm_4 45 rfl rfl), (gm_1 9 rfl rfl), (gm_4 46 rfl rfl), ⟨by decide, by decide, by decide +kernel⟩, by decide⟩
theorem cv_L_102 : gCV RL 102 yX7_hour cX7_hour 2 (some .int) 1 7 := ⟨TX7, 8, rfl, (gm_3 19 rfl rfl), (gm_3 20 rfl rfl), (gm_3 21 rfl rfl), (gm_1 1 rfl rfl), (gm_3 22 rfl rfl), ⟨by decide, by decide, by decide +kernel⟩, by decide⟩
theorem cv_L_105 : gCV RL 105 yX8_hour cX8_hour 2 (some .int) 1 8 := ⟨TX8, 34, rfl, (gm_4 55 rfl rfl), (gm_4 56 rfl rfl), (gm_4 57 rfl rfl), (gm_1 9 rfl rfl), (gm_4 58 rfl rfl), ⟨by decide, by decide, by decide +kernel⟩, by decide⟩
theorem cv_L_106 : gCV RL 106 yX7_draw cX7_draw 4 (some .int) 3 7 := ⟨TX7, 8, rfl, (gm_3 23 rfl rfl), (gm_3 24 rfl rfl), (gm_3 25 rfl rfl), (gm_1 1 rfl rfl), (gm_3 26 rfl rfl), ⟨by decide, by decide, by decide +kernel⟩, by decide⟩
theorem cv_L_109 : gCV RL 109 yX8_draw cX8_draw 8 (some .int) 3 8 := ⟨TX8, 34, rfl, (gm_4 59 rfl rfl), (gm_4 60 rfl rfl), (gm_4 61 rfl rfl), (gm_1 9 rfl rfl), (gm_4 62 rfl rfl), ⟨by decide, by decide, by decide +kernel⟩, by decide⟩
set_option maxRecDepth 100000 in
set_option maxHeartbeats 4000000 in
theorem lc_0 {X : gX} {G : gG} (hX : gOk X G code 4 RL ret 18) {b L : Nat} {xs : Nat → Int32} (hS : gSc X b L xs) (hL : L ≤ 3072) (i : Int) (i0 : 0 ≤ i) (i1 : i + 6 ≤ L) (s : gS) (hi : iv s) (next : ∀ s1 : gS, iv s1 → gWL X G s1 892 [(3, vi i), (2, gR G 400), (1, gR G 0), (0, .ref b)] []) : gWL X G s 136 [(3, vi i), (2, gR G 400), (1, gR G 0), (0, .ref b)] [] := by
  refine g_aload_n (x := 0) hX dL_law_136 2 rfl ?_
  refine l_aload hX dL_law_137 3 rfl ?_
  refine g_iload_n hX dL_law_138 0 rfl ?_
  refine g_iconst (n := 1) hX dL_law_139 ?_
  refine g_iadd hX dL_law_140 ?_
  refine l_iald hX hS (by omega) (by omega) dL_law_141 ?_
  refine l_aload hX dL_law_142 3 rfl ?_
  refine g_iload_n hX dL_law_143 0 rfl ?_
  refine g_iconst (n := 2) hX dL_law_144 ?_
  refine g_iadd hX dL_law_145 ?_
  refine l_iald hX hS (by omega) (by omega) dL_law_146 ?_
  refine l_aload hX dL_law_147 3 rfl ?_
  refine g_iload_n hX dL_law_148 0 rfl ?_
  refine g_iconst (n := 3) hX dL_law_149 ?_
  refine g_iadd hX dL_law_150 ?_
  refine l_iald hX hS (by omega) (by omega) dL_law_151 ?_
  refine g_cVr (As := [vi (gx xs (i + 1)), vi (gx xs (i + 2)), vi (gx xs (i + 3))]) hX (fun l => c_X7_note l hX.inj s (gx xs (i + 1)) (gx xs (i + 2)) (gx xs (i + 3)) hi.1 (gx_rng _ _) (gx_rng _ _) (gx_rng _ _) (fun p a b => (hi.2.1.1.2.1 p a b).1)) sh_0 cv_L_13 (by decide) rfl (Nat.le_of_ble_eq_true rfl) dL_law_152 rfl (fun v1 s1 q1 => ?_)
  refine g_aload_n (x := 400) hX dL_law_155 1 rfl ?_
  refine l_aload hX dL_law_156 3 rfl ?_
  refine g_iload_n hX dL_law_157 0 rfl ?_
  refine g_iconst (n := 1) hX dL_law_158 ?_
  refine g_iadd hX dL_law_159 ?_
  refine l_iald hX hS (by omega) (by omega) dL_law_160 ?_
  refine l_aload hX dL_law_161 3 rfl ?_
  refine g_iload_n hX dL_law_162 0 rfl ?_
  refine g_iconst (n := 2) hX dL_law_163 ?_
  refine g_iadd hX dL_law_164 ?_
  refine l_iald hX hS (by omega) (by omega) dL_law_165 ?_
  refine l_aload hX dL_law_166 3 rfl ?_
  refine g_iload_n hX dL_law_167 0 rfl ?_
  refine g_iconst (n := 3) hX dL_law_168 ?_
  refine g_iadd hX dL_law_169 ?_
  refine l_iald hX hS (by omega) (by omega) dL_law_170 ?_
  refine g_cVr (As := [vi (gx xs (i + 1)), vi (gx xs (i + 2)), vi (gx xs (i + 3))]) hX (fun l => c_X8_note l hX.inj s1 (gx xs (i + 1)) (gx xs (i + 2)) (gx xs (i + 3)) q1.2 (gx_rng _ _) (gx_rng _ _) (gx_rng _ _) (pr_note hi q1.1)) sh_400 cv_L_17 (by decide) rfl (Nat.le_of_ble_eq_true rfl) dL_law_171 rfl (fun v2 s2 q2 => ?_)
  obtain ⟨e, hi2⟩ := sim_note hi q2.2 q1.1 q2.1
  exact l_eq hX e dL_law_174 rfl (next _ hi2)
set_option maxRecDepth 100000 in
set_option maxHeartbeats 4000000 in
theorem lc_1 {X : gX} {G : gG} (hX : gOk X G code 4 RL ret 18) {b L : Nat} {xs : Nat → Int32} (hS : gSc X b L xs) (hL : L ≤ 3072) (i : Int) (i0 : 0 ≤ i) (i1 : i + 6 ≤ L) (s : gS) (hi : iv s) (next : ∀ s1 : gS, iv s1 → gWL X G s1 892 [(3, vi i), (2, gR G 400), (1, gR G 0), (0, .ref b)] []) : gWL X G s 179 [(3, vi i), (2, gR G 400), (1, gR G 0), (0, .ref b)] [] := by
  refine g_aload_n (x := 0) hX dL_law_179 2 rfl ?_
  refine l_aload hX dL_law_180 3 rfl ?_
  refine g_iload_n hX dL_law_181 0 rfl ?_
  refine g_iconst (n := 1) hX dL_law_182 ?_
  refine g_iadd hX dL_law_183 ?_
  refine l_iald hX hS (by omega) (by omega) dL_law_184 ?_
  refine l_aload hX dL_law_185 3 rfl ?_
  refine g_iload_n hX dL_law_186 0 rfl ?_
  refine g_iconst (n := 2) hX dL_law_187 ?_
  refine g_iadd hX dL_law_188 ?_
  refine l_iald hX hS (by omega) (by omega) dL_law_189 ?_
  refine g_cVr (As := [vi (gx xs (i + 1)), vi (gx xs (i + 2))]) hX (fun l => c_X7_record l hX.inj s (gx xs (i + 1)) (gx xs (i + 2)) hi.1 (gx_rng _ _) (gx_rng _ _)) sh_0 cv_L_18 (by decide) rfl (Nat.le_of_ble_eq_true rfl) dL_law_190 rfl (fun v1 s1 q1 => ?_)
  refine g_aload_n (x := 400) hX dL_law_193 1 rfl ?_
  refine l_aload hX dL_law_194 3 rfl ?_
  refine g_iload_n hX dL_law_195 0 rfl ?_
  refine g_iconst (n := 1) hX dL_law_196 ?_
  refine g_iadd hX dL_law_197 ?_
  refine l_iald hX hS (by omega) (by omega) dL_law_198 ?_
  refine l_aload hX dL_law_199 3 rfl ?_
  refine g_iload_n hX dL_law_200 0 rfl ?_
  refine g_iconst (n := 2) hX dL_law_201 ?_
  refine g_iadd hX dL_law_202 ?_
  refine l_iald hX hS (by omega) (by omega) dL_law_203 ?_
  refine g_cVr (As := [vi (gx xs (i + 1)), vi (gx xs (i + 2))]) hX (fun l => c_X8_record l hX.inj s1 (gx xs (i + 1)) (gx xs (i + 2)) q1.2 (gx_rng _ _) (gx_rng _ _)) sh_400 cv_L_22 (by decide) rfl (Nat.le_of_ble_eq_true rfl) dL_law_204 rfl (fun v2 s2 q2 => ?_)
  obtain ⟨e, hi2⟩ := sim_record hi q2.2 q1.1 q2.1
  exact l_eq hX e dL_law_207 rfl (next _ hi2)
set_option maxRecDepth 100000 in
set_option maxHeartbeats 4000000 in
theorem lc_2 {X : gX} {G : gG} (hX : gOk X G code 4 RL ret 18) {b L : Nat} {xs : Nat → Int32} (hS : gSc X b L xs) (hL : L ≤ 3072) (i : Int) (i0 : 0 ≤ i) (i1 : i + 6 ≤ L) (s : gS) (hi : iv s) (next : ∀ s1 : gS, iv s1 → gWL X G s1 892 [(3, vi i), (2, gR G 400), (1, gR G 0), (0, .ref b)] []) : gWL X G s 212 [(3, vi i), (2, gR G 400), (1, gR G 0), (0, .ref b)] [] := by
  refine g_aload_n (x := 0) hX dL_law_212 2 rfl ?_
  refine l_aload hX dL_law_213 3 rfl ?_
  refine g_iload_n hX dL_law_214 0 rfl ?_
  refine g_iconst (n := 1) hX dL_law_215 ?_
  refine g_iadd hX dL_law_216 ?_
  refine l_iald hX hS (by omega) (by omega) dL_law_217 ?_
  refine l_aload hX dL_law_218 3 rfl ?_
  refine g_iload_n hX dL_law_219 0 rfl ?_
  refine g_iconst (n := 2) hX dL_law_220 ?_
  refine g_iadd hX dL_law_221 ?_
  refine l_iald hX hS (by omega) (by omega) dL_law_222 ?_
  refine l_aload hX dL_law_223 3 rfl ?_
  refine g_iload_n hX dL_law_224 0 rfl ?_
  refine g_iconst (n := 3) hX dL_law_225 ?_
  refine g_iadd hX dL_law_226 ?_
  refine l_iald hX hS (by omega) (by omega) dL_law_227 ?_
  refine g_cVr (As := [vi (gx xs (i + 1)), vi (gx xs (i + 2)), vi (gx xs (i + 3))]) hX (fun l => c_X7_read l hX.inj s (gx xs (i + 1)) (gx xs (i + 2)) (gx xs (i + 3)) hi.1 (gx_rng _ _) (gx_rng _ _) (gx_rng _ _) (fun r a b => (hi.2.1.1.2.2 r a b).1.1)) sh_0 cv_L_23 (by decide) rfl (Nat.le_of_ble_eq_true rfl) dL_law_228 rfl (fun v1 s1 q1 => ?_)
  refine g_aload_n (x := 400) hX dL_law_231 1 rfl ?_
  refine l_aload hX dL_law_232 3 rfl ?_
  refine g_iload_n hX dL_law_233 0 rfl ?_
  refine g_iconst (n := 1) hX dL_law_234 ?_
  refine g_iadd hX dL_law_235 ?_
  refine l_iald hX hS (by omega) (by omega) dL_law_236 ?_
  refine l_aload hX dL_law_237 3 rfl ?_
  refine g_iload_n hX dL_law_238 0 rfl ?_
  refine g_iconst (n := 2) hX dL_law_239 ?_
  refine g_iadd hX dL_law_240 ?_
  refine l_iald hX hS (by omega) (by omega) dL_law_241 ?_
  refine l_aload hX dL_law_242 3 rfl ?_
  refine g_iload_n hX dL_law_243 0 rfl ?_
  refine g_iconst (n := 3) hX dL_law_244 ?_
  refine g_iadd hX dL_law_245 ?_
  refine l_iald hX hS (by omega) (by omega) dL_law_246 ?_
  refine g_cVr (As := [vi (gx xs (i + 1)), vi (gx xs (i + 2)), vi (gx xs (i + 3))]) hX (fun l => c_X8_read l hX.inj s1 (gx xs (i + 1)) (gx xs (i + 2)) (gx xs (i + 3)) q1.2 (gx_rng _ _) (gx_rng _ _) (gx_rng _ _) (pr_read hi q1.1)) sh_400 cv_L_26 (by decide) rfl (Nat.le_of_ble_eq_true rfl) dL_law_247 rfl (fun v2 s2 q2 => ?_)
  obtain ⟨e, hi2⟩ := sim_read hi q2.2 q1.1 q2.1
  exact l_eq hX e dL_law_250 rfl (next _ hi2)
set_option maxRecDepth 100000 in
set_option maxHeartbeats 4000000 in
theorem lc_3 {X : gX} {G : gG} (hX : gOk X G code 4 RL ret 18) {b L : Nat} {xs : Nat → Int32} (hS : gSc X b L xs) (hL : L ≤ 3072) (i : Int) (i0 : 0 ≤ i) (i1 : i + 6 ≤ L) (s : gS) (hi : iv s) (next : ∀ s1 : gS, iv s1 → gWL X G s1 892 [(3, vi i), (2, gR G 400), (1, gR G 0), (0, .ref b)] []) : gWL X G s 255 [(3, vi i), (2, gR G 400), (1, gR G 0), (0, .ref b)] [] := by
  refine g_aload_n (x := 0) hX dL_law_255 2 rfl ?_
  refine l_aload hX dL_law_256 3 rfl ?_
  refine g_iload_n hX dL_law_257 0 rfl ?_
  refine g_iconst (n := 1) hX dL_law_258 ?_
  refine g_iadd hX dL_law_259 ?_
  refine l_iald hX hS (by omega) (by omega) dL_law_260 ?_
  refine l_aload hX dL_law_261 3 rfl ?_
  refine g_iload_n hX dL_law_262 0 rfl ?_
  refine g_iconst (n := 2) hX dL_law_263 ?_
  refine g_iadd hX dL_law_264 ?_
  refine l_iald hX hS (by omega) (by omega) dL_law_265 ?_
  refine l_aload hX dL_law_266 3 rfl ?_
  refine g_iload_n hX dL_law_267 0 rfl ?_
  refine g_iconst (n := 3) hX dL_law_268 ?_
  refine g_iadd hX dL_law_269 ?_
  refine l_iald hX hS (by omega) (by omega) dL_law_270 ?_
  refine l_aload hX dL_law_271 3 rfl ?_
  refine g_iload_n hX dL_law_272 0 rfl ?_
  refine g_iconst (n := 4) hX dL_law_273 ?_
  refine g_iadd hX dL_law_274 ?_
  refine l_iald hX hS (by omega) (by omega) dL_law_275 ?_
  refine l_aload hX dL_law_276 3 rfl ?_
  refine g_iload_n hX dL_law_277 0 rfl ?_
  refine g_iconst (n := 5) hX dL_law_278 ?_
  refine g_iadd hX dL_law_279 ?_
  refine l_iald hX hS (by omega) (by omega) dL_law_280 ?_
  refine g_cVr (As := [vi (gx xs (i + 1)), vi (gx xs (i + 2)), vi (gx xs (i + 3)), vi (gx xs (i + 4)), vi (gx xs (i + 5))]) hX (fun l => c_X7_rules l hX.inj s (gx xs (i + 1)) (gx xs (i + 2)) (gx xs (i + 3)) (gx xs (i + 4)) (gx xs (i + 5)) hi.1 (gx_rng _ _) (gx_rng _ _) (gx_rng _ _) (gx_rng _ _) (gx_rng _ _)) sh_0 cv_L_27 (by decide) rfl (Nat.le_of_ble_eq_true rfl) dL_law_281 rfl (fun v1 s1 q1 => ?_)
  refine g_aload_n (x := 400) hX dL_law_284 1 rfl ?_
  refine l_aload hX dL_law_285 3 rfl ?_
  refine g_iload_n hX dL_law_286 0 rfl ?_
  refine g_iconst (n := 1) hX dL_law_287 ?_
  refine g_iadd hX dL_law_288 ?_
  refine l_iald hX hS (by omega) (by omega) dL_law_289 ?_
  refine l_aload hX dL_law_290 3 rfl ?_
  refine g_iload_n hX dL_law_291 0 rfl ?_
  refine g_iconst (n := 2) hX dL_law_292 ?_
  refine g_iadd hX dL_law_293 ?_
  refine l_iald hX hS (by omega) (by omega) dL_law_294 ?_
  refine l_aload hX dL_law_295 3 rfl ?_
  refine g_iload_n hX dL_law_296 0 rfl ?_
  refine g_iconst (n := 3) hX dL_law_297 ?_
  refine g_iadd hX dL_law_298 ?_
  refine l_iald hX hS (by omega) (by omega) dL_law_299 ?_
  refine l_aload hX dL_law_300 3 rfl ?_
  refine g_iload_n hX dL_law_301 0 rfl ?_
  refine g_iconst (n := 4) hX dL_law_302 ?_
  refine g_iadd hX dL_law_303 ?_
  refine l_iald hX hS (by omega) (by omega) dL_law_304 ?_
  refine l_aload hX dL_law_305 3 rfl ?_
  refine g_iload_n hX dL_law_306 0 rfl ?_
  refine g_iconst (n := 5) hX dL_law_307 ?_
  refine g_iadd hX dL_law_308 ?_
  refine l_iald hX hS (by omega) (by omega) dL_law_309 ?_
  refine g_cVr (As := [vi (gx xs (i + 1)), vi (gx xs (i + 2)), vi (gx xs (i + 3)), vi (gx xs (i + 4)), vi (gx xs (i + 5))]) hX (fun l => c_X8_rules l hX.inj s1 (gx xs (i + 1)) (gx xs (i + 2)) (gx xs (i + 3)) (gx xs (i + 4)) (gx xs (i + 5)) q1.2 (gx_rng _ _) (gx_rng _ _) (gx_rng _ _) (gx_rng _ _) (gx_rng _ _)) sh_400 cv_L_31 (by decide) rfl (Nat.le_of_ble_eq_true rfl) dL_law_310 rfl (fun v2 s2 q2 => ?_)
  obtain ⟨e, hi2⟩ := sim_rules hi q2.2 q1.1 q2.1
  exact l_eq hX e dL_law_313 rfl (next _ hi2)
set_option maxRecDepth 100000 in
set_option maxHeartbeats 4000000 in
theorem lc_4 {X : gX} {G : gG} (hX : gOk X G code 4 RL ret 18) {b L : Nat} {xs : Nat → Int32} (hS : gSc X b L xs) (hL : L ≤ 3072) (i : Int) (i0 : 0 ≤ i) (i1 : i + 6 ≤ L) (s : gS) (hi : iv s) (next : ∀ s1 : gS, iv s1 → gWL X G s1 892 [(3, vi i), (2, gR G 400), (1, gR G 0), (0, .ref b)] []) : gWL X G s 318 [(3, vi i), (2, gR G 400), (1, gR G 0), (0, .ref b)] [] := by
  refine g_aload_n (x := 0) hX dL_law_318 2 rfl ?_
  refine l_aload hX dL_law_319 3 rfl ?_
  refine g_iload_n hX dL_law_320 0 rfl ?_
  refine g_iconst (n := 1) hX dL_law_321 ?_
  refine g_iadd hX dL_law_322 ?_
  refine l_iald hX hS (by omega) (by omega) dL_law_323 ?_
  refine g_cVr (As := [vi (gx xs (i + 1))]) hX (fun l => c_X7_lay l hX.inj s (gx xs (i + 1)) hi.1 (gx_rng _ _) hi.2.1.1 hi.2.1.2.1) sh_0 cv_L_32 (by decide) rfl (Nat.le_of_ble_eq_true rfl) dL_law_324 rfl (fun v1 s1 q1 => ?_)
  refine g_aload_n (x := 400) hX dL_law_327 1 rfl ?_
  refine l_aload hX dL_law_328 3 rfl ?_
  refine g_iload_n hX dL_law_329 0 rfl ?_
  refine g_iconst (n := 1) hX dL_law_330 ?_
  refine g_iadd hX dL_law_331 ?_
  refine l_iald hX hS (by omega) (by omega) dL_law_332 ?_
  refine g_cVr (As := [vi (gx xs (i + 1))]) hX (fun l => c_X8_lay l hX.inj s1 (gx xs (i + 1)) q1.2 (gx_rng _ _) (pr_lay _ hi q1.2 (fun z => ⟨z.1, (q1.1.1 z).2⟩) (fun z => (q1.1.2 z).2))) sh_400 cv_L_36 (by decide) rfl (Nat.le_of_ble_eq_true rfl) dL_law_333 rfl (fun v2 s2 q2 => ?_)
  obtain ⟨e, hi2⟩ := sim_lay hi q1.2 q2.2 q1.1 q2.1
  exact l_eq hX e dL_law_336 rfl (next _ hi2)
set_option maxRecDepth 100000 in
set_option maxHeartbeats 4000000 in
theorem lc_5 {X : gX} {G : gG} (hX : gOk X G code 4 RL ret 18) {b L : Nat} {xs : Nat → Int32} (hS : gSc X b L xs) (hL : L ≤ 3072) (i : Int) (i0 : 0 ≤ i) (i1 : i + 6 ≤ L) (s : gS) (hi : iv s) (next : ∀ s1 : gS, iv s1 → gWL X G s1 892 [(3, vi i), (2, gR G 400), (1, gR G 0), (0, .ref b)] []) : gWL X G s 341 [(3, vi i), (2, gR G 400), (1, gR G 0), (0, .ref b)] [] := by
  refine g_aload_n (x := 0) hX dL_law_341 2 rfl ?_
  refine l_aload hX dL_law_342 3 rfl ?_
  refine g_iload_n hX dL_law_343 0 rfl ?_
  refine g_iconst (n := 1) hX dL_law_344 ?_
  refine g_iadd hX dL_law_345 ?_
  refine l_iald hX hS (by omega) (by omega) dL_law_346 ?_
  refine l_aload hX dL_law_347 3 rfl ?_
  refine g_iload_n hX dL_law_348 0 rfl ?_
  refine g_iconst (n := 2) hX dL_law_349 ?_
  refine g_iadd hX dL_law_350 ?_
  refine l_iald hX hS (by omega) (by omega) dL_law_351 ?_
  refine l_aload hX dL_law_352 3 rfl ?_
  refine g_iload_n hX dL_law_353 0 rfl ?_
  refine g_iconst (n := 3) hX dL_law_354 ?_
  refine g_iadd hX dL_law_355 ?_
  refine l_iald hX hS (by omega) (by omega) dL_law_356 ?_
  refine g_cVr (As := [vi (gx xs (i + 1)), vi (gx xs (i + 2)), vi (gx xs (i + 3))]) hX (fun l => c_X7_laid l hX.inj s (gx xs (i + 1)) (gx xs (i + 2)) (gx xs (i + 3)) hi.1 (gx_rng _ _) (gx_rng _ _) (gx_rng _ _) hi.2.1.1 hi.2.1.2.1) sh_0 cv_L_37 (by decide) rfl (Nat.le_of_ble_eq_true rfl) dL_law_357 rfl (fun v1 s1 q1 => ?_)
  refine g_aload_n (x := 400) hX dL_law_360 1 rfl ?_
  refine l_aload hX dL_law_361 3 rfl ?_
  refine g_iload_n hX dL_law_362 0 rfl ?_
  refine g_iconst (n := 1) hX dL_law_363 ?_
  refine g_iadd hX dL_law_364 ?_
  refine l_iald hX hS (by omega) (by omega) dL_law_365 ?_
  refine l_aload hX dL_law_366 3 rfl ?_
  refine g_iload_n hX dL_law_367 0 rfl ?_
  refine g_iconst (n := 2) hX dL_law_368 ?_
  refine g_iadd hX dL_law_369 ?_
  refine l_iald hX hS (by omega) (by omega) dL_law_370 ?_
  refine l_aload hX dL_law_371 3 rfl ?_
  refine g_iload_n hX dL_law_372 0 rfl ?_
  refine g_iconst (n := 3) hX dL_law_373 ?_
  refine g_iadd hX dL_law_374 ?_
  refine l_iald hX hS (by omega) (by omega) dL_law_375 ?_
  refine g_cVr (As := [vi (gx xs (i + 1)), vi (gx xs (i + 2)), vi (gx xs (i + 3))]) hX (fun l => c_X8_laid l hX.inj s1 (gx xs (i + 1)) (gx xs (i + 2)) (gx xs (i + 3)) q1.2 (gx_rng _ _) (gx_rng _ _) (gx_rng _ _) (pr_lay _ hi q1.2 (fun z => ⟨z.1, (q1.1.1 z).1⟩) (fun z => (q1.1.2 z).2))) sh_400 cv_L_40 (by decide) rfl (Nat.le_of_ble_eq_true rfl) dL_law_376 rfl (fun v2 s2 q2 => ?_)
  obtain ⟨e, hi2⟩ := sim_laid hi q1.2 q2.2 q1.1 q2.1
  exact l_eq hX e dL_law_379 rfl (next _ hi2)
set_option maxRecDepth 100000 in
set_option maxHeartbeats 4000000 in
theorem lc_6 {X : gX} {G : gG} (hX : gOk X G code 4 RL ret 18) {b L : Nat} {xs : Nat → Int32} (hS : gSc X b L xs) (hL : L ≤ 3072) (i : Int) (i0 : 0 ≤ i) (i1 : i + 6 ≤ L) (s : gS) (hi : iv s) (next : ∀ s1 : gS, iv s1 → gWL X G s1 892 [(3, vi i), (2, gR G 400), (1, gR G 0), (0, .ref b)] []) : gWL X G s 384 [(3, vi i), (2, gR G 400), (1, gR G 0), (0, .ref b)] [] := by
  refine g_aload_n (x := 0) hX dL_law_384 2 rfl ?_
  refine l_aload hX dL_law_385 3 rfl ?_
  refine g_iload_n hX dL_law_386 0 rfl ?_
  refine g_iconst (n := 1) hX dL_law_387 ?_
  refine g_iadd hX dL_law_388 ?_
  refine l_iald hX hS (by omega) (by omega) dL_law_389 ?_
  refine l_aload hX dL_law_390 3 rfl ?_
  refine g_iload_n hX dL_law_391 0 rfl ?_
  refine g_iconst (n := 2) hX dL_law_392 ?_
  refine g_iadd hX dL_law_393 ?_
  refine l_iald hX hS (by omega) (by omega) dL_law_394 ?_
  refine g_cVr (As := [vi (gx xs (i + 1)), vi (gx xs (i + 2))]) hX (fun l => c_X7_off l hX.inj s (gx xs (i + 1)) (gx xs (i + 2)) hi.1 (gx_rng _ _) (gx_rng _ _) hi.2.1.1 hi.2.1.2.1) sh_0 cv_L_41 (by decide) rfl (Nat.le_of_ble_eq_true rfl) dL_law_395 rfl (fun v1 s1 q1 => ?_)
  refine g_aload_n (x := 400) hX dL_law_398 1 rfl ?_
  refine l_aload hX dL_law_399 3 rfl ?_
  refine g_iload_n hX dL_law_400 0 rfl ?_
  refine g_iconst (n := 1) hX dL_law_401 ?_
  refine g_iadd hX dL_law_402 ?_
  refine l_iald hX hS (by omega) (by omega) dL_law_403 ?_
  refine l_aload hX dL_law_404 3 rfl ?_
  refine g_iload_n hX dL_law_405 0 rfl ?_
  refine g_iconst (n := 2) hX dL_law_406 ?_
  refine g_iadd hX dL_law_407 ?_
  refine l_iald hX hS (by omega) (by omega) dL_law_408 ?_
  refine g_cVr (As := [vi (gx xs (i + 1)), vi (gx xs (i + 2))]) hX (fun l => c_X8_off l hX.inj s1 (gx xs (i + 1)) (gx xs (i + 2)) q1.2 (gx_rng _ _) (gx_rng _ _) (pr_lay _ hi q1.2 (fun z => ⟨z.1, (q1.1.1 z).1⟩) (fun z => (q1.1.2 z).2))) sh_400 cv_L_44 (by decide) rfl (Nat.le_of_ble_eq_true rfl) dL_law_409 rfl (fun v2 s2 q2 => ?_)
  obtain ⟨e, hi2⟩ := sim_off hi q1.2 q2.2 q1.1 q2.1
  exact l_eq hX e dL_law_412 rfl (next _ hi2)
set_option maxRecDepth 100000 in
set_option maxHeartbeats 4000000 in
theorem lc_7 {X : gX} {G : gG} (hX : gOk X G code 4 RL ret 18) {b L : Nat} {xs : Nat → Int32} (hS : gSc X b L xs) (hL : L ≤ 3072) (i : Int) (i0 : 0 ≤ i) (i1 : i + 6 ≤ L) (s : gS) (hi : iv s) (next : ∀ s1 : gS, iv s1 → gWL X G s1 892 [(3, vi i), (2, gR G 400), (1, gR G 0), (0, .ref b)] []) : gWL X G s 417 [(3, vi i), (2, gR G 400), (1, gR G 0), (0, .ref b)] [] := by
  refine g_aload_n (x := 0) hX dL_law_417 2 rfl ?_
  refine l_aload hX dL_law_418 3 rfl ?_
  refine g_iload_n hX dL_law_419 0 rfl ?_
  refine g_iconst (n := 1) hX dL_law_420 ?_
  refine g_iadd hX dL_law_421 ?_
  refine l_iald hX hS (by omega) (by omega) dL_law_422 ?_
  refine l_aload hX dL_law_423 3 rfl ?_
  refine g_iload_n hX dL_law_424 0 rfl ?_
  refine g_iconst (n := 2) hX dL_law_425 ?_
  refine g_iadd hX dL_law_426 ?_
  refine l_iald hX hS (by omega) (by omega) dL_law_427 ?_
  refine g_cVr (As := [vi (gx xs (i + 1)), vi (gx xs (i + 2))]) hX (fun l => c_X7_told l hX.inj s (gx xs (i + 1)) (gx xs (i + 2)) hi.1 (gx_rng _ _) (gx_rng _ _) hi.2.1.1 hi.2.1.2.1) sh_0 cv_L_45 (by decide) rfl (Nat.le_of_ble_eq_true rfl) dL_law_428 rfl (fun v1 s1 q1 => ?_)
  refine g_aload_n (x := 400) hX dL_law_431 1 rfl ?_
  refine l_aload hX dL_law_432 3 rfl ?_
  refine g_iload_n hX dL_law_433 0 rfl ?_
  refine g_iconst (n := 1) hX dL_law_434 ?_
  refine g_iadd hX dL_law_435 ?_
  refine l_iald hX hS (by omega) (by omega) dL_law_436 ?_
  refine l_aload hX dL_law_437 3 rfl ?_
  refine g_iload_n hX dL_law_438 0 rfl ?_
  refine g_iconst (n := 2) hX dL_law_439 ?_
  refine g_iadd hX dL_law_440 ?_
  refine l_iald hX hS (by omega) (by omega) dL_law_441 ?_
  refine g_cVr (As := [vi (gx xs (i + 1)), vi (gx xs (i + 2))]) hX (fun l => c_X8_told l hX.inj s1 (gx xs (i + 1)) (gx xs (i + 2)) q1.2 (gx_rng _ _) (gx_rng _ _) (pr_lay _ hi q1.2 (fun z => ⟨z.1.1, (q1.1.1 z).1⟩) (fun z => (q1.1.2 z).2))) sh_400 cv_L_48 (by decide) rfl (Nat.le_of_ble_eq_true rfl) dL_law_442 rfl (fun v2 s2 q2 => ?_)
  obtain ⟨e, hi2⟩ := sim_told hi q1.2 q2.2 q1.1 q2.1
  exact l_eq hX e dL_law_445 rfl (next _ hi2)
set_option maxRecDepth 100000 in
set_option maxHeartbeats 4000000 in
theorem lc_8 {X : gX} {G : gG} (hX : gOk X G code 4 RL ret 18) {b L : Nat} {xs : Nat → Int32} (hS : gSc X b L xs) (hL : L ≤ 3072) (i : Int) (i0 : 0 ≤ i) (i1 : i + 6 ≤ L) (s : gS) (hi : iv s) (next : ∀ s1 : gS, iv s1 → gWL X G s1 892 [(3, vi i), (2, gR G 400), (1, gR G 0), (0, .ref b)] []) : gWL X G s 450 [(3, vi i), (2, gR G 400), (1, gR G 0), (0, .ref b)] [] := by
  refine g_aload_n (x := 0) hX dL_law_450 2 rfl ?_
  refine l_aload hX dL_law_451 3 rfl ?_
  refine g_iload_n hX dL_law_452 0 rfl ?_
  refine g_iconst (n := 1) hX dL_law_453 ?_
  refine g_iadd hX dL_law_454 ?_
  refine l_iald hX hS (by omega) (by omega) dL_law_455 ?_
  refine g_cVr (As := [vi (gx xs (i + 1))]) hX (fun l => c_X7_sing l hX.inj s (gx xs (i + 1)) hi.1 (gx_rng _ _)) sh_0 cv_L_49 (by decide) rfl (Nat.le_of_ble_eq_true rfl) dL_law_456 rfl (fun v1 s1 q1 => ?_)
  refine g_aload_n (x := 400) hX dL_law_459 1 rfl ?_
  refine l_aload hX dL_law_460 3 rfl ?_
  refine g_iload_n hX dL_law_461 0 rfl ?_
  refine g_iconst (n := 1) hX dL_law_462 ?_
  refine g_iadd hX dL_law_463 ?_
  refine l_iald hX hS (by omega) (by omega) dL_law_464 ?_
  refine g_cVr (As := [vi (gx xs (i + 1))]) hX (fun l => c_X8_sing l hX.inj s1 (gx xs (i + 1)) q1.2 (gx_rng _ _)) sh_400 cv_L_52 (by decide) rfl (Nat.le_of_ble_eq_true rfl) dL_law_465 rfl (fun v2 s2 q2 => ?_)
  obtain ⟨e, hi2⟩ := sim_sing hi q1.1 q2.1 q2.2
  exact l_eq hX e dL_law_468 rfl (next _ hi2)
set_option maxRecDepth 100000 in
set_option maxHeartbeats 4000000 in
theorem lc_9 {X : gX} {G : gG} (hX : gOk X G code 4 RL ret 18) {b L : Nat} {xs : Nat → Int32} (hS : gSc X b L xs) (hL : L ≤ 3072) (i : Int) (i0 : 0 ≤ i) (i1 : i + 6 ≤ L) (s : gS) (hi : iv s) (next : ∀ s1 : gS, iv s1 → gWL X G s1 892 [(3, vi i), (2, gR G 400), (1, gR G 0), (0, .ref b)] []) : gWL X G s 473 [(3, vi i), (2, gR G 400), (1, gR G 0), (0, .ref b)] [] := by
  refine g_aload_n (x := 0) hX dL_law_473 2 rfl ?_
  refine l_aload hX dL_law_474 3 rfl ?_
  refine g_iload_n hX dL_law_475 0 rfl ?_
  refine g_iconst (n := 1) hX dL_law_476 ?_
  refine g_iadd hX dL_law_477 ?_
  refine l_iald hX hS (by omega) (by omega) dL_law_478 ?_
  refine l_aload hX dL_law_479 3 rfl ?_
  refine g_iload_n hX dL_law_480 0 rfl ?_
  refine g_iconst (n := 2) hX dL_law_481 ?_
  refine g_iadd hX dL_law_482 ?_
  refine l_iald hX hS (by omega) (by omega) dL_law_483 ?_
  refine l_aload hX dL_law_484 3 rfl ?_
  refine g_iload_n hX dL_law_485 0 rfl ?_
  refine g_iconst (n := 3) hX dL_law_486 ?_
  refine g_iadd hX dL_law_487 ?_
  refine l_iald hX hS (by omega) (by omega) dL_law_488 ?_
  refine g_i2l hX dL_law_489 ?_
  refine g_bipush (n := 32) hX dL_law_490 (by decide) ?_
  refine g_lshl hX dL_law_492 ?_
  refine l_aload hX dL_law_493 3 rfl ?_
  refine g_iload_n hX dL_law_494 0 rfl ?_
  refine g_iconst (n := 4) hX dL_law_495 ?_
  refine g_iadd hX dL_law_496 ?_
  refine l_iald hX hS (by omega) (by omega) dL_law_497 ?_
  refine g_i2l hX dL_law_498 ?_
  refine g_ldc2 hX (gm_4 64 rfl rfl) dL_law_499 ?_
  refine g_land hX dL_law_502 ?_
  refine g_lor hX dL_law_503 ?_
  refine g_cVr (As := [vi (gx xs (i + 1)), vi (gx xs (i + 2)), Value.long ((glshl (gi2l (gx xs (i + 3))) 32) ||| ((gi2l (gx xs (i + 4))) &&& _))]) hX (fun l => c_X7_judge l hX.inj s (gx xs (i + 1)) (gx xs (i + 2)) ((glshl (gi2l (gx xs (i + 3))) 32) ||| ((gi2l (gx xs (i + 4))) &&& _)) hi.1 (gx_rng _ _) (gx_rng _ _)) sh_0 cv_L_55 (by decide) rfl (Nat.le_of_ble_eq_true rfl) dL_law_504 rfl (fun v1 s1 q1 => ?_)
  refine g_aload_n (x := 400) hX dL_law_507 1 rfl ?_
  refine l_aload hX dL_law_508 3 rfl ?_
  refine g_iload_n hX dL_law_509 0 rfl ?_
  refine g_iconst (n := 1) hX dL_law_510 ?_
  refine g_iadd hX dL_law_511 ?_
  refine l_iald hX hS (by omega) (by omega) dL_law_512 ?_
  refine l_aload hX dL_law_513 3 rfl ?_
  refine g_iload_n hX dL_law_514 0 rfl ?_
  refine g_iconst (n := 2) hX dL_law_515 ?_
  refine g_iadd hX dL_law_516 ?_
  refine l_iald hX hS (by omega) (by omega) dL_law_517 ?_
  refine l_aload hX dL_law_518 3 rfl ?_
  refine g_iload_n hX dL_law_519 0 rfl ?_
  refine g_iconst (n := 3) hX dL_law_520 ?_
  refine g_iadd hX dL_law_521 ?_
  refine l_iald hX hS (by omega) (by omega) dL_law_522 ?_
  refine g_i2l hX dL_law_523 ?_
  refine g_bipush (n := 32) hX dL_law_524 (by decide) ?_
  refine g_lshl hX dL_law_526 ?_
  refine l_aload hX dL_law_527 3 rfl ?_
  refine g_iload_n hX dL_law_528 0 rfl ?_
  refine g_iconst (n := 4) hX dL_law_529 ?_
  refine g_iadd hX dL_law_530 ?_
  refine l_iald hX hS (by omega) (by omega) dL_law_531 ?_
  refine g_i2l hX dL_law_532 ?_
  refine g_ldc2 hX (gm_4 64 rfl rfl) dL_law_533 ?_
  refine g_land hX dL_law_536 ?_
  refine g_lor hX dL_law_537 ?_
  refine g_cVr (As := [vi (gx xs (i + 1)), vi (gx xs (i + 2)), Value.long ((glshl (gi2l (gx xs (i + 3))) 32) ||| ((gi2l (gx xs (i + 4))) &&& _))]) hX (fun l => c_X8_judge l hX.inj s1 (gx xs (i + 1)) (gx xs (i + 2)) ((glshl (gi2l (gx xs (i + 3))) 32) ||| ((gi2l (gx xs (i + 4))) &&& _)) q1.2 (gx_rng _ _) (gx_rng _ _)) sh_400 cv_L_59 (by decide) rfl (Nat.le_of_ble_eq_true rfl) dL_law_538 rfl (fun v2 s2 q2 => ?_)
  obtain ⟨e, hi2⟩ := sim_judge hi q1.1 q2.1 q2.2
  exact l_eq hX e dL_law_541 rfl (next _ hi2)
set_option maxRecDepth 100000 in
set_option maxHeartbeats 4000000 in
theorem lc_10 {X : gX} {G : gG} (hX : gOk X G code 4 RL ret 18) {b L : Nat} {xs : Nat → Int32} (hS : gSc X b L xs) (hL : L ≤ 3072) (i : Int) (i0 : 0 ≤ i) (i1 : i + 6 ≤ L) (s : gS) (hi : iv s) (next : ∀ s1 : gS, iv s1 → gWL X G s1 892 [(3, vi i), (2, gR G 400), (1, gR G 0), (0, .ref b)] []) : gWL X G s 546 [(3, vi i), (2, gR G 400), (1, gR G 0), (0, .ref b)] [] := by
  refine g_aload_n (x := 0) hX dL_law_546 2 rfl ?_
  refine g_cVf (As := []) hX (fun l => c_X7_judges l hX.inj s  hi.1 ) sh_0 cv_L_60 (by decide) rfl (Nat.le_of_ble_eq_true rfl) dL_law_547 rfl (fun _ => ?_)
  refine g_aload_n (x := 400) hX dL_law_550 1 rfl ?_
  refine g_cVf (As := []) hX (fun l => c_X8_judges l hX.inj s  hi.1 ) sh_400 cv_L_64 (by decide) rfl (Nat.le_of_ble_eq_true rfl) dL_law_551 rfl (fun _ => ?_)
  exact l_eq hX (sim_judges hi ) dL_law_554 rfl (next _ hi)
set_option maxRecDepth 100000 in
set_option maxHeartbeats 4000000 in
theorem lc_11 {X : gX} {G : gG} (hX : gOk X G code 4 RL ret 18) {b L : Nat} {xs : Nat → Int32} (hS : gSc X b L xs) (hL : L ≤ 3072) (i : Int) (i0 : 0 ≤ i) (i1 : i + 6 ≤ L) (s : gS) (hi : iv s) (next : ∀ s1 : gS, iv s1 → gWL X G s1 892 [(3, vi i), (2, gR G 400), (1, gR G 0), (0, .ref b)] []) : gWL X G s 559 [(3, vi i), (2, gR G 400), (1, gR G 0), (0, .ref b)] [] := by
  refine g_aload_n (x := 0) hX dL_law_559 2 rfl ?_
  refine l_aload hX dL_law_560 3 rfl ?_
  refine g_iload_n hX dL_law_561 0 rfl ?_
  refine g_iconst (n := 1) hX dL_law_562 ?_
  refine g_iadd hX dL_law_563 ?_
  refine l_iald hX hS (by omega) (by omega) dL_law_564 ?_
  refine g_cVf (As := [vi (gx xs (i + 1))]) hX (fun l => c_X7_place l hX.inj s (gx xs (i + 1)) hi.1 (gx_rng _ _) (iJ_gRk hi.2.2.1)) sh_0 cv_L_65 (by decide) rfl (Nat.le_of_ble_eq_true rfl) dL_law_565 rfl (fun _ => ?_)
  refine g_aload_n (x := 400) hX dL_law_568 1 rfl ?_
  refine l_aload hX dL_law_569 3 rfl ?_
  refine g_iload_n hX dL_law_570 0 rfl ?_
  refine g_iconst (n := 1) hX dL_law_571 ?_
  refine g_iadd hX dL_law_572 ?_
  refine l_iald hX hS (by omega) (by omega) dL_law_573 ?_
  refine g_cVr (As := [vi (gx xs (i + 1))]) hX (fun l => c_X8_place_ l hX.inj s (gx xs (i + 1)) hi.1 (gx_rng _ _) (iJ_mRk hi.2.2.1) (pr_m hi).2.2) sh_400 cv_L_68 (by decide) rfl (Nat.le_of_ble_eq_true rfl) dL_law_574 rfl (fun v2 s2 q2 => ?_)
  obtain ⟨e, hi2⟩ := sim_place hi q2.1 q2.2
  exact l_eq hX e dL_law_577 rfl (next _ hi2)
set_option maxRecDepth 100000 in
set_option maxHeartbeats 4000000 in
theorem lc_12 {X : gX} {G : gG} (hX : gOk X G code 4 RL ret 18) {b L : Nat} {xs : Nat → Int32} (hS : gSc X b L xs) (hL : L ≤ 3072) (i : Int) (i0 : 0 ≤ i) (i1 : i + 6 ≤ L) (s : gS) (hi : iv s) (next : ∀ s1 : gS, iv s1 → gWL X G s1 892 [(3, vi i), (2, gR G 400), (1, gR G 0), (0, .ref b)] []) : gWL X G s 582 [(3, vi i), (2, gR G 400), (1, gR G 0), (0, .ref b)] [] := by
  refine g_aload_n (x := 0) hX dL_law_582 2 rfl ?_
  refine l_aload hX dL_law_583 3 rfl ?_
  refine g_iload_n hX dL_law_584 0 rfl ?_
  refine g_iconst (n := 1) hX dL_law_585 ?_
  refine g_iadd hX dL_law_586 ?_
  refine l_iald hX hS (by omega) (by omega) dL_law_587 ?_
  refine l_aload hX dL_law_588 3 rfl ?_
  refine g_iload_n hX dL_law_589 0 rfl ?_
  refine g_iconst (n := 2) hX dL_law_590 ?_
  refine g_iadd hX dL_law_591 ?_
  refine l_iald hX hS (by omega) (by omega) dL_law_592 ?_
  refine g_cVf (As := [vi (gx xs (i + 1)), vi (gx xs (i + 2))]) hX (fun l => c_X7_ranks l hX.inj s (gx xs (i + 1)) (gx xs (i + 2)) hi.1 (gx_rng _ _) (gx_rng _ _)) sh_0 cv_L_69 (by decide) rfl (Nat.le_of_ble_eq_true rfl) dL_law_593 rfl (fun _ => ?_)
  refine g_aload_n (x := 400) hX dL_law_596 1 rfl ?_
  refine l_aload hX dL_law_597 3 rfl ?_
  refine g_iload_n hX dL_law_598 0 rfl ?_
  refine g_iconst (n := 1) hX dL_law_599 ?_
  refine g_iadd hX dL_law_600 ?_
  refine l_iald hX hS (by omega) (by omega) dL_law_601 ?_
  refine l_aload hX dL_law_602 3 rfl ?_
  refine g_iload_n hX dL_law_603 0 rfl ?_
  refine g_iconst (n := 2) hX dL_law_604 ?_
  refine g_iadd hX dL_law_605 ?_
  refine l_iald hX hS (by omega) (by omega) dL_law_606 ?_
  refine g_cVf (As := [vi (gx xs (i + 1)), vi (gx xs (i + 2))]) hX (fun l => c_X8_ranks l hX.inj s (gx xs (i + 1)) (gx xs (i + 2)) hi.1 (gx_rng _ _) (gx_rng _ _)) sh_400 cv_L_72 (by decide) rfl (Nat.le_of_ble_eq_true rfl) dL_law_607 rfl (fun _ => ?_)
  exact l_eq hX (sim_ranks hi (gx xs (i + 1)) (gx xs (i + 2))) dL_law_610 rfl (next _ hi)
set_option maxRecDepth 100000 in
set_option maxHeartbeats 4000000 in
theorem lc_13 {X : gX} {G : gG} (hX : gOk X G code 4 RL ret 18) {b L : Nat} {xs : Nat → Int32} (hS : gSc X b L xs) (hL : L ≤ 3072) (i : Int) (i0 : 0 ≤ i) (i1 : i + 6 ≤ L) (s : gS) (hi : iv s) (next : ∀ s1 : gS, iv s1 → gWL X G s1 892 [(3, vi i), (2, gR G 400), (1, gR G 0), (0, .ref b)] []) : gWL X G s 615 [(3, vi i), (2, gR G 400), (1, gR G 0), (0, .ref b)] [] := by
  refine g_aload_n (x := 0) hX dL_law_615 2 rfl ?_
  refine l_aload hX dL_law_616 3 rfl ?_
  refine g_iload_n hX dL_law_617 0 rfl ?_
  refine g_iconst (n := 1) hX dL_law_618 ?_
  refine g_iadd hX dL_law_619 ?_
  refine l_iald hX hS (by omega) (by omega) dL_law_620 ?_
  refine l_aload hX dL_law_621 3 rfl ?_
  refine g_iload_n hX dL_law_622 0 rfl ?_
  refine g_iconst (n := 2) hX dL_law_623 ?_
  refine g_iadd hX dL_law_624 ?_
  refine l_iald hX hS (by omega) (by omega) dL_law_625 ?_
  refine l_aload hX dL_law_626 3 rfl ?_
  refine g_iload_n hX dL_law_627 0 rfl ?_
  refine g_iconst (n := 3) hX dL_law_628 ?_
  refine g_iadd hX dL_law_629 ?_
  refine l_iald hX hS (by omega) (by omega) dL_law_630 ?_
  refine l_aload hX dL_law_631 3 rfl ?_
  refine g_iload_n hX dL_law_632 0 rfl ?_
  refine g_iconst (n := 4) hX dL_law_633 ?_
  refine g_iadd hX dL_law_634 ?_
  refine l_iald hX hS (by omega) (by omega) dL_law_635 ?_
  refine g_cVr (As := [vi (gx xs (i + 1)), vi (gx xs (i + 2)), vi (gx xs (i + 3)), vi (gx xs (i + 4))]) hX (fun l => c_X7_member l hX.inj s (gx xs (i + 1)) (gx xs (i + 2)) (gx xs (i + 3)) (gx xs (i + 4)) hi.1 (gx_rng _ _) (gx_rng _ _) (gx_rng _ _) (gx_rng _ _) hi.2.2.2.1.1) sh_0 cv_L_73 (by decide) rfl (Nat.le_of_ble_eq_true rfl) dL_law_636 rfl (fun v1 s1 q1 => ?_)
  refine g_aload_n (x := 400) hX dL_law_639 1 rfl ?_
  refine l_aload hX dL_law_640 3 rfl ?_
  refine g_iload_n hX dL_law_641 0 rfl ?_
  refine g_iconst (n := 1) hX dL_law_642 ?_
  refine g_iadd hX dL_law_643 ?_
  refine l_iald hX hS (by omega) (by omega) dL_law_644 ?_
  refine l_aload hX dL_law_645 3 rfl ?_
  refine g_iload_n hX dL_law_646 0 rfl ?_
  refine g_iconst (n := 2) hX dL_law_647 ?_
  refine g_iadd hX dL_law_648 ?_
  refine l_iald hX hS (by omega) (by omega) dL_law_649 ?_
  refine l_aload hX dL_law_650 3 rfl ?_
  refine g_iload_n hX dL_law_651 0 rfl ?_
  refine g_iconst (n := 3) hX dL_law_652 ?_
  refine g_iadd hX dL_law_653 ?_
  refine l_iald hX hS (by omega) (by omega) dL_law_654 ?_
  refine l_aload hX dL_law_655 3 rfl ?_
  refine g_iload_n hX dL_law_656 0 rfl ?_
  refine g_iconst (n := 4) hX dL_law_657 ?_
  refine g_iadd hX dL_law_658 ?_
  refine l_iald hX hS (by omega) (by omega) dL_law_659 ?_
  refine g_cVr (As := [vi (gx xs (i + 1)), vi (gx xs (i + 2)), vi (gx xs (i + 3)), vi (gx xs (i + 4))]) hX (fun l => c_X8_member l hX.inj s1 (gx xs (i + 1)) (gx xs (i + 2)) (gx xs (i + 3)) (gx xs (i + 4)) q1.2 (gx_rng _ _) (gx_rng _ _) (gx_rng _ _) (gx_rng _ _) (pr_member hi q1.1)) sh_400 cv_L_77 (by decide) rfl (Nat.le_of_ble_eq_true rfl) dL_law_660 rfl (fun v2 s2 q2 => ?_)
  obtain ⟨e, hi2⟩ := sim_member hi q1.1 q2.1 q2.2
  exact l_eq hX e dL_law_663 rfl (next _ hi2)
set_option maxRecDepth 100000 in
set_option maxHeartbeats 4000000 in
theorem lc_14 {X : gX} {G : gG} (hX : gOk X G code 4 RL ret 18) {b L : Nat} {xs : Nat → Int32} (hS : gSc X b L xs) (hL : L ≤ 3072) (i : Int) (i0 : 0 ≤ i) (i1 : i + 6 ≤ L) (s : gS) (hi : iv s) (next : ∀ s1 : gS, iv s1 → gWL X G s1 892 [(3, vi i), (2, gR G 400), (1, gR G 0), (0, .ref b)] []) : gWL X G s 668 [(3, vi i), (2, gR G 400), (1, gR G 0), (0, .ref b)] [] := by
  refine g_aload_n (x := 0) hX dL_law_668 2 rfl ?_
  refine l_aload hX dL_law_669 3 rfl ?_
  refine g_iload_n hX dL_law_670 0 rfl ?_
  refine g_iconst (n := 1) hX dL_law_671 ?_
  refine g_iadd hX dL_law_672 ?_
  refine l_iald hX hS (by omega) (by omega) dL_law_673 ?_
  refine l_aload hX dL_law_674 3 rfl ?_
  refine g_iload_n hX dL_law_675 0 rfl ?_
  refine g_iconst (n := 2) hX dL_law_676 ?_
  refine g_iadd hX dL_law_677 ?_
  refine l_iald hX hS (by omega) (by omega) dL_law_678 ?_
  refine l_aload hX dL_law_679 3 rfl ?_
  refine g_iload_n hX dL_law_680 0 rfl ?_
  refine g_iconst (n := 3) hX dL_law_681 ?_
  refine g_iadd hX dL_law_682 ?_
  refine l_iald hX hS (by omega) (by omega) dL_law_683 ?_
  refine g_cVf (As := [vi (gx xs (i + 1)), vi (gx xs (i + 2)), vi (gx xs (i + 3))]) hX (fun l => c_X7_may l hX.inj s (gx xs (i + 1)) (gx xs (i + 2)) (gx xs (i + 3)) hi.1 (gx_rng _ _) (gx_rng _ _) (gx_rng _ _) hi.2.2.2.1.1) sh_0 cv_L_78 (by decide) rfl (Nat.le_of_ble_eq_true rfl) dL_law_684 rfl (fun _ => ?_)
  refine g_aload_n (x := 400) hX dL_law_687 1 rfl ?_
  refine l_aload hX dL_law_688 3 rfl ?_
  refine g_iload_n hX dL_law_689 0 rfl ?_
  refine g_iconst (n := 1) hX dL_law_690 ?_
  refine g_iadd hX dL_law_691 ?_
  refine l_iald hX hS (by omega) (by omega) dL_law_692 ?_
  refine l_aload hX dL_law_693 3 rfl ?_
  refine g_iload_n hX dL_law_694 0 rfl ?_
  refine g_iconst (n := 2) hX dL_law_695 ?_
  refine g_iadd hX dL_law_696 ?_
  refine l_iald hX hS (by omega) (by omega) dL_law_697 ?_
  refine l_aload hX dL_law_698 3 rfl ?_
  refine g_iload_n hX dL_law_699 0 rfl ?_
  refine g_iconst (n := 3) hX dL_law_700 ?_
  refine g_iadd hX dL_law_701 ?_
  refine l_iald hX hS (by omega) (by omega) dL_law_702 ?_
  refine g_cVf (As := [vi (gx xs (i + 1)), vi (gx xs (i + 2)), vi (gx xs (i + 3))]) hX (fun l => c_X8_may l hX.inj s (gx xs (i + 1)) (gx xs (i + 2)) (gx xs (i + 3)) hi.1 (gx_rng _ _) (gx_rng _ _) (gx_rng _ _) (pr_m hi).1) sh_400 cv_L_81 (by decide) rfl (Nat.le_of_ble_eq_true rfl) dL_law_703 rfl (fun _ => ?_)
  exact l_eq hX (sim_may hi (gx xs (i + 1)) (gx xs (i + 2)) (gx xs (i + 3))) dL_law_706 rfl (next _ hi)
set_option maxRecDepth 100000 in
set_option maxHeartbeats 4000000 in
theorem lc_15 {X : gX} {G : gG} (hX : gOk X G code 4 RL ret 18) {b L : Nat} {xs : Nat → Int32} (hS : gSc X b L xs) (hL : L ≤ 3072) (i : Int) (i0 : 0 ≤ i) (i1 : i + 6 ≤ L) (s : gS) (hi : iv s) (next : ∀ s1 : gS, iv s1 → gWL X G s1 892 [(3, vi i), (2, gR G 400), (1, gR G 0), (0, .ref b)] []) : gWL X G s 711 [(3, vi i), (2, gR G 400), (1, gR G 0), (0, .ref b)] [] := by
  refine g_aload_n (x := 0) hX dL_law_711 2 rfl ?_
  refine l_aload hX dL_law_712 3 rfl ?_
  refine g_iload_n hX dL_law_713 0 rfl ?_
  refine g_iconst (n := 1) hX dL_law_714 ?_
  refine g_iadd hX dL_law_715 ?_
  refine l_iald hX hS (by omega) (by omega) dL_law_716 ?_
  refine l_aload hX dL_law_717 3 rfl ?_
  refine g_iload_n hX dL_law_718 0 rfl ?_
  refine g_iconst (n := 2) hX dL_law_719 ?_
  refine g_iadd hX dL_law_720 ?_
  refine l_iald hX hS (by omega) (by omega) dL_law_721 ?_
  refine g_cVf (As := [vi (gx xs (i + 1)), vi (gx xs (i + 2))]) hX (fun l => c_X7_singers l hX.inj s (gx xs (i + 1)) (gx xs (i + 2)) hi.1 (gx_rng _ _) (gx_rng _ _) hi.2.2.2.1.1) sh_0 cv_L_82 (by decide) rfl (Nat.le_of_ble_eq_true rfl) dL_law_722 rfl (fun _ => ?_)
  refine g_aload_n (x := 400) hX dL_law_725 1 rfl ?_
  refine l_aload hX dL_law_726 3 rfl ?_
  refine g_iload_n hX dL_law_727 0 rfl ?_
  refine g_iconst (n := 1) hX dL_law_728 ?_
  refine g_iadd hX dL_law_729 ?_
  refine l_iald hX hS (by omega) (by omega) dL_law_730 ?_
  refine l_aload hX dL_law_731 3 rfl ?_
  refine g_iload_n hX dL_law_732 0 rfl ?_
  refine g_iconst (n := 2) hX dL_law_733 ?_
  refine g_iadd hX dL_law_734 ?_
  refine l_iald hX hS (by omega) (by omega) dL_law_735 ?_
  refine g_cVf (As := [vi (gx xs (i + 1)), vi (gx xs (i + 2))]) hX (fun l => c_X8_singers l hX.inj s (gx xs (i + 1)) (gx xs (i + 2)) hi.1 (gx_rng _ _) (gx_rng _ _) (pr_m hi).1) sh_400 cv_L_85 (by decide) rfl (Nat.le_of_ble_eq_true rfl) dL_law_736 rfl (fun _ => ?_)
  exact l_eq hX (sim_singers hi (gx xs (i + 1)) (gx xs (i + 2))) dL_law_739 rfl (next _ hi)
set_option maxRecDepth 100000 in
set_option maxHeartbeats 4000000 in
theorem lc_16 {X : gX} {G : gG} (hX : gOk X G code 4 RL ret 18) {b L : Nat} {xs : Nat → Int32} (hS : gSc X b L xs) (hL : L ≤ 3072) (i : Int) (i0 : 0 ≤ i) (i1 : i + 6 ≤ L) (s : gS) (hi : iv s) (next : ∀ s1 : gS, iv s1 → gWL X G s1 892 [(3, vi i), (2, gR G 400), (1, gR G 0), (0, .ref b)] []) : gWL X G s 744 [(3, vi i), (2, gR G 400), (1, gR G 0), (0, .ref b)] [] := by
  refine g_aload_n (x := 0) hX dL_law_744 2 rfl ?_
  refine l_aload hX dL_law_745 3 rfl ?_
  refine g_iload_n hX dL_law_746 0 rfl ?_
  refine g_iconst (n := 1) hX dL_law_747 ?_
  refine g_iadd hX dL_law_748 ?_
  refine l_iald hX hS (by omega) (by omega) dL_law_749 ?_
  refine g_cVr (As := [vi (gx xs (i + 1))]) hX (fun l => c_X7_perform l hX.inj s (gx xs (i + 1)) hi.1 (gx_rng _ _) hi.2.2.2.2.1.1) sh_0 cv_L_86 (by decide) rfl (Nat.le_of_ble_eq_true rfl) dL_law_750 rfl (fun v1 s1 q1 => ?_)
  refine g_aload_n (x := 400) hX dL_law_753 1 rfl ?_
  refine l_aload hX dL_law_754 3 rfl ?_
  refine g_iload_n hX dL_law_755 0 rfl ?_
  refine g_iconst (n := 1) hX dL_law_756 ?_
  refine g_iadd hX dL_law_757 ?_
  refine l_iald hX hS (by omega) (by omega) dL_law_758 ?_
  refine g_cVr (As := [vi (gx xs (i + 1))]) hX (fun l => c_X8_perform l hX.inj s1 (gx xs (i + 1)) q1.2 (gx_rng _ _) (pr_perform hi q1.1)) sh_400 cv_L_89 (by decide) rfl (Nat.le_of_ble_eq_true rfl) dL_law_759 rfl (fun v2 s2 q2 => ?_)
  obtain ⟨e, hi2⟩ := sim_perform hi q1.1 q2.1 q2.2
  exact l_eq hX e dL_law_762 rfl (next _ hi2)
set_option maxRecDepth 100000 in
set_option maxHeartbeats 4000000 in
theorem lc_17 {X : gX} {G : gG} (hX : gOk X G code 4 RL ret 18) {b L : Nat} {xs : Nat → Int32} (hS : gSc X b L xs) (hL : L ≤ 3072) (i : Int) (i0 : 0 ≤ i) (i1 : i + 6 ≤ L) (s : gS) (hi : iv s) (next : ∀ s1 : gS, iv s1 → gWL X G s1 892 [(3, vi i), (2, gR G 400), (1, gR G 0), (0, .ref b)] []) : gWL X G s 767 [(3, vi i), (2, gR G 400), (1, gR G 0), (0, .ref b)] [] := by
  refine g_aload_n (x := 0) hX dL_law_767 2 rfl ?_
  refine g_cVr (As := []) hX (fun l => c_X7_clear l hX.inj s  hi.1 ) sh_0 cv_L_90 (by decide) rfl (Nat.le_of_ble_eq_true rfl) dL_law_768 rfl (fun v1 s1 q1 => ?_)
  refine g_aload_n (x := 400) hX dL_law_771 1 rfl ?_
  refine g_cVr (As := []) hX (fun l => c_X8_clear l hX.inj s1  q1.2 ) sh_400 cv_L_93 (by decide) rfl (Nat.le_of_ble_eq_true rfl) dL_law_772 rfl (fun v2 s2 q2 => ?_)
  obtain ⟨e, hi2⟩ := sim_clear hi q1.1 q2.1 q2.2
  exact l_eq hX e dL_law_775 rfl (next _ hi2)
set_option maxRecDepth 100000 in
set_option maxHeartbeats 4000000 in
theorem lc_18 {X : gX} {G : gG} (hX : gOk X G code 4 RL ret 18) {b L : Nat} {xs : Nat → Int32} (hS : gSc X b L xs) (hL : L ≤ 3072) (i : Int) (i0 : 0 ≤ i) (i1 : i + 6 ≤ L) (s : gS) (hi : iv s) (next : ∀ s1 : gS, iv s1 → gWL X G s1 892 [(3, vi i), (2, gR G 400), (1, gR G 0), (0, .ref b)] []) : gWL X G s 780 [(3, vi i), (2, gR G 400), (1, gR G 0), (0, .ref b)] [] := by
  refine g_aload_n (x := 0) hX dL_law_780 2 rfl ?_
  refine l_aload hX dL_law_781 3 rfl ?_
  refine g_iload_n hX dL_law_782 0 rfl ?_
  refine g_iconst (n := 1) hX dL_law_783 ?_
  refine g_iadd hX dL_law_784 ?_
  refine l_iald hX hS (by omega) (by omega) dL_law_785 ?_
  refine g_cVr (As := [vi (gx xs (i + 1))]) hX (fun l => c_X7_halls l hX.inj s (gx xs (i + 1)) hi.1 (gx_rng _ _)) sh_0 cv_L_94 (by decide) rfl (Nat.le_of_ble_eq_true rfl) dL_law_786 rfl (fun v1 s1 q1 => ?_)
  refine g_aload_n (x := 400) hX dL_law_789 1 rfl ?_
  refine l_aload hX dL_law_790 3 rfl ?_
  refine g_iload_n hX dL_law_791 0 rfl ?_
  refine g_iconst (n := 1) hX dL_law_792 ?_
  refine g_iadd hX dL_law_793 ?_
  refine l_iald hX hS (by omega) (by omega) dL_law_794 ?_
  refine g_cVr (As := [vi (gx xs (i + 1))]) hX (fun l => c_X8_halls l hX.inj s1 (gx xs (i + 1)) q1.2 (gx_rng _ _)) sh_400 cv_L_97 (by decide) rfl (Nat.le_of_ble_eq_true rfl) dL_law_795 rfl (fun v2 s2 q2 => ?_)
  obtain ⟨e, hi2⟩ := sim_halls hi q1.1 q2.1 q2.2
  exact l_eq hX e dL_law_798 rfl (next _ hi2)
set_option maxRecDepth 100000 in
set_option maxHeartbeats 4000000 in
theorem lc_19 {X : gX} {G : gG} (hX : gOk X G code 4 RL ret 18) {b L : Nat} {xs : Nat → Int32} (hS : gSc X b L xs) (hL : L ≤ 3072) (i : Int) (i0 : 0 ≤ i) (i1 : i + 6 ≤ L) (s : gS) (hi : iv s) (next : ∀ s1 : gS, iv s1 → gWL X G s1 892 [(3, vi i), (2, gR G 400), (1, gR G 0), (0, .ref b)] []) : gWL X G s 803 [(3, vi i), (2, gR G 400), (1, gR G 0), (0, .ref b)] [] := by
  refine g_aload_n (x := 0) hX dL_law_803 2 rfl ?_
  refine l_aload hX dL_law_804 3 rfl ?_
  refine g_iload_n hX dL_law_805 0 rfl ?_
  refine g_iconst (n := 1) hX dL_law_806 ?_
  refine g_iadd hX dL_law_807 ?_
  refine l_iald hX hS (by omega) (by omega) dL_law_808 ?_
  refine g_cVr (As := [vi (gx xs (i + 1))]) hX (fun l => c_X7_hours l hX.inj s (gx xs (i + 1)) hi.1 (gx_rng _ _) hi.2.2.2.2.1 hi.2.2.2.1.1) sh_0 cv_L_98 (by decide) rfl (Nat.le_of_ble_eq_true rfl) dL_law_809 rfl (fun v1 s1 q1 => ?_)
  refine g_aload_n (x := 400) hX dL_law_812 1 rfl ?_
  refine l_aload hX dL_law_813 3 rfl ?_
  refine g_iload_n hX dL_law_814 0 rfl ?_
  refine g_iconst (n := 1) hX dL_law_815 ?_
  refine g_iadd hX dL_law_816 ?_
  refine l_iald hX hS (by omega) (by omega) dL_law_817 ?_
  refine g_cVr (As := [vi (gx xs (i + 1))]) hX (fun l => c_X8_hours l hX.inj s1 (gx xs (i + 1)) q1.2 (gx_rng _ _) (pr_hours hi q1.1).1 (pr_hours hi q1.1).2.1 (pr_hours hi q1.1).2.2) sh_400 cv_L_101 (by decide) rfl (Nat.le_of_ble_eq_true rfl) dL_law_818 rfl (fun v2 s2 q2 => ?_)
  obtain ⟨e, hi2⟩ := sim_hours hi q1.1 q2.1 q2.2
  exact l_eq hX e dL_law_821 rfl (next _ hi2)
set_option maxRecDepth 100000 in
set_option maxHeartbeats 4000000 in
theorem lc_20 {X : gX} {G : gG} (hX : gOk X G code 4 RL ret 18) {b L : Nat} {xs : Nat → Int32} (hS : gSc X b L xs) (hL : L ≤ 3072) (i : Int) (i0 : 0 ≤ i) (i1 : i + 6 ≤ L) (s : gS) (hi : iv s) (next : ∀ s1 : gS, iv s1 → gWL X G s1 892 [(3, vi i), (2, gR G 400), (1, gR G 0), (0, .ref b)] []) : gWL X G s 826 [(3, vi i), (2, gR G 400), (1, gR G 0), (0, .ref b)] [] := by
  refine g_aload_n (x := 0) hX dL_law_826 2 rfl ?_
  refine l_aload hX dL_law_827 3 rfl ?_
  refine g_iload_n hX dL_law_828 0 rfl ?_
  refine g_iconst (n := 1) hX dL_law_829 ?_
  refine g_iadd hX dL_law_830 ?_
  refine l_iald hX hS (by omega) (by omega) dL_law_831 ?_
  refine g_cVf (As := [vi (gx xs (i + 1))]) hX (fun l => c_X7_hour l hX.inj s (gx xs (i + 1)) hi.1 (gx_rng _ _) hi.2.2.2.2.2.1) sh_0 cv_L_102 (by decide) rfl (Nat.le_of_ble_eq_true rfl) dL_law_832 rfl (fun _ => ?_)
  refine g_aload_n (x := 400) hX dL_law_835 1 rfl ?_
  refine l_aload hX dL_law_836 3 rfl ?_
  refine g_iload_n hX dL_law_837 0 rfl ?_
  refine g_iconst (n := 1) hX dL_law_838 ?_
  refine g_iadd hX dL_law_839 ?_
  refine l_iald hX hS (by omega) (by omega) dL_law_840 ?_
  refine g_cVf (As := [vi (gx xs (i + 1))]) hX (fun l => c_X8_hour l hX.inj s (gx xs (i + 1)) hi.1 (gx_rng _ _) (pr_m hi).2.1) sh_400 cv_L_105 (by decide) rfl (Nat.le_of_ble_eq_true rfl) dL_law_841 rfl (fun _ => ?_)
  exact l_eq hX (sim_hour hi (gx xs (i + 1))) dL_law_844 rfl (next _ hi)
set_option maxRecDepth 100000 in
set_option maxHeartbeats 4000000 in
theorem lc_21 {X : gX} {G : gG} (hX : gOk X G code 4 RL ret 18) {b L : Nat} {xs : Nat → Int32} (hS : gSc X b L xs) (hL : L ≤ 3072) (i : Int) (i0 : 0 ≤ i) (i1 : i + 6 ≤ L) (s : gS) (hi : iv s) (next : ∀ s1 : gS, iv s1 → gWL X G s1 892 [(3, vi i), (2, gR G 400), (1, gR G 0), (0, .ref b)] []) : gWL X G s 849 [(3, vi i), (2, gR G 400), (1, gR G 0), (0, .ref b)] [] := by
  refine g_aload_n (x := 0) hX dL_law_849 2 rfl ?_
  refine l_aload hX dL_law_850 3 rfl ?_
  refine g_iload_n hX dL_law_851 0 rfl ?_
  refine g_iconst (n := 1) hX dL_law_852 ?_
  refine g_iadd hX dL_law_853 ?_
  refine l_iald hX hS (by omega) (by omega) dL_law_854 ?_
  refine l_aload hX dL_law_855 3 rfl ?_
  refine g_iload_n hX dL_law_856 0 rfl ?_
  refine g_iconst (n := 2) hX dL_law_857 ?_
  refine g_iadd hX dL_law_858 ?_
  refine l_iald hX hS (by omega) (by omega) dL_law_859 ?_
  refine l_aload hX dL_law_860 3 rfl ?_
  refine g_iload_n hX dL_law_861 0 rfl ?_
  refine g_iconst (n := 3) hX dL_law_862 ?_
  refine g_iadd hX dL_law_863 ?_
  refine l_iald hX hS (by omega) (by omega) dL_law_864 ?_
  refine g_cVr (As := [vi (gx xs (i + 1)), vi (gx xs (i + 2)), vi (gx xs (i + 3))]) hX (fun l => c_X7_draw l hX.inj s (gx xs (i + 1)) (gx xs (i + 2)) (gx xs (i + 3)) hi.1 (gx_rng _ _) (gx_rng _ _)) sh_0 cv_L_106 (by decide) rfl (Nat.le_of_ble_eq_true rfl) dL_law_865 rfl (fun v1 s1 q1 => ?_)
  refine g_aload_n (x := 400) hX dL_law_868 1 rfl ?_
  refine l_aload hX dL_law_869 3 rfl ?_
  refine g_iload_n hX dL_law_870 0 rfl ?_
  refine g_iconst (n := 1) hX dL_law_871 ?_
  refine g_iadd hX dL_law_872 ?_
  refine l_iald hX hS (by omega) (by omega) dL_law_873 ?_
  refine l_aload hX dL_law_874 3 rfl ?_
  refine g_iload_n hX dL_law_875 0 rfl ?_
  refine g_iconst (n := 2) hX dL_law_876 ?_
  refine g_iadd hX dL_law_877 ?_
  refine l_iald hX hS (by omega) (by omega) dL_law_878 ?_
  refine l_aload hX dL_law_879 3 rfl ?_
  refine g_iload_n hX dL_law_880 0 rfl ?_
  refine g_iconst (n := 3) hX dL_law_881 ?_
  refine g_iadd hX dL_law_882 ?_
  refine l_iald hX hS (by omega) (by omega) dL_law_883 ?_
  refine g_cVr (As := [vi (gx xs (i + 1)), vi (gx xs (i + 2)), vi (gx xs (i + 3))]) hX (fun l => c_X8_draw l hX.inj s1 (gx xs (i + 1)) (gx xs (i + 2)) (gx xs (i + 3)) q1.2 (gx_rng _ _) (gx_rng _ _)) sh_400 cv_L_109 (by decide) rfl (Nat.le_of_ble_eq_true rfl) dL_law_884 rfl (fun v2 s2 q2 => ?_)
  obtain ⟨e, hi2⟩ := sim_draw hi q1.1 q2.1 q2.2
  exact l_eq hX e dL_law_887 rfl (next _ hi2)

