theorem wf1_g {b : Bool} {Y : Nat → Option Nat} {g : Nat → Int32} (hE : ∀ j : Nat, j < 16 → g j = if j = 3 then 2 else 0) (j : Nat) : gm Y (wf1 b j) (.int (g j)) := by
  unfold wf1
  by_cases h : j < 16
  · rw [if_pos h, hE j h]
    by_cases h3 : j = 3
    · rw [if_pos h3, if_pos h3]
      cases b
      · exact ⟨2, rfl, iv_w (iv_c (x := (2 : Int32)) (k := 2) (by decide)) (by decide)⟩
      · exact ⟨2, rfl, iv_w (iv_c (x := (2 : Int32)) (k := 2) (by decide)) (by decide)⟩
    · rw [if_neg h3, if_neg h3]
      exact ⟨0, rfl, iv_w (iv_c (x := (0 : Int32)) (k := 0) (by decide)) (by decide)⟩
  · rw [if_neg h]
    exact ⟨_, rfl, iv_top _⟩
theorem wf1_0 {Y : Nat → Option Nat} (j : Nat) : gm Y (wf1 true j) (.int 0) := by
  unfold wf1
  by_cases h : j < 16
  · rw [if_pos h]
    by_cases h3 : j = 3
    · rw [if_pos h3]
      exact ⟨0, rfl, iv_w (iv_c (x := (0 : Int32)) (k := 0) (by decide)) (by decide)⟩
    · rw [if_neg h3]
      exact ⟨0, rfl, iv_w (iv_c (x := (0 : Int32)) (k := 0) (by decide)) (by decide)⟩
  · rw [if_neg h]
    exact ⟨_, rfl, iv_top _⟩
def ro_six : List Nat := [9, 6, 26, 20, 20, 20, 21, 3, 3, 3, 3, 3, 3, 3, 3, 7, 1, 22, 0, 20, 20, 20, 21, 3, 3, 3, 3, 3, 3, 3, 3, 7, 1, 22, 0, 23, 24, 25, 20, 20, 20, 21, 3, 3, 3, 3, 3, 3, 3, 3, 7, 1, 22, 0, 20, 20, 20, 21, 3, 3, 3, 3, 3, 3, 3, 3, 7, 1, 22, 0, 20, 20, 20, 21, 3, 3, 3, 3, 3, 3, 3, 3, 7, 1, 22, 0, 5, 27, 5, 27, 5, 27, 5, 27]
set_option maxHeartbeats 8000000 in
set_option maxRecDepth 100000 in
theorem ty_six {D : va_G} {c0 : Nat → ClassId} {H : Heap} {A : Nat → Prop} {h0 : Nat} {q5_0 : Nat} {q8_0_9_1 : Nat} {q14_1_9_2 : Nat} {q5_0_18_2_9_3 : Nat} {q16_1_18_3_9_4 : Nat} {q7_0_20_2_18_4_9_5 : Nat} {q15_1_20_3_18_5_9_6 : Nat} {q23_2_20_4_18_6_9_7 : Nat} {q29_5_18_7_9_8 : Nat} {q38_6_18_8_9_9 : Nat} {q56_7_18_9_9_10 : Nat} {q56_8_18_10_9_11 : Nat} {q56_9_18_11_9_12 : Nat} {q56_10_18_12_9_13 : Nat} {q56_11_18_13_9_14 : Nat} {q56_12_18_14_9_15 : Nat} {q56_13_18_15_9_16 : Nat} {q56_14_18_16_9_17 : Nat} {g_71_15_18_17_9_18 : Nat → Int32} {q16_19 : Nat} {q5_0_20_20 : Nat} {q16_1_20_21 : Nat} {q7_0_20_2_20_22 : Nat} {q15_1_20_3_20_23 : Nat} {q23_2_20_4_20_24 : Nat} {q29_5_20_25 : Nat} {q38_6_20_26 : Nat} {q56_7_20_27 : Nat} {q56_8_20_28 : Nat} {q56_9_20_29 : Nat} {q56_10_20_30 : Nat} {q56_11_20_31 : Nat} {q56_12_20_32 : Nat} {q56_13_20_33 : Nat} {q56_14_20_34 : Nat} {g_71_15_20_35 : Nat → Int32} {q28_36 : Nat} {q36_37 : Nat} {q44_38 : Nat} {q51_39 : Nat} {q58_40 : Nat} {q69_43 : Nat} {q80_48 : Nat} {q93_58 : Nat} {q100_59 : Nat} {q143_111 : Nat} {q5_0_147_112 : Nat} {q16_1_147_113 : Nat} {q7_0_20_2_147_114 : Nat} {q15_1_20_3_147_115 : Nat} {q23_2_20_4_147_116 : Nat} {q29_5_147_117 : Nat} {q38_6_147_118 : Nat} {q56_7_147_119 : Nat} {q56_8_147_120 : Nat} {q56_9_147_121 : Nat} {q56_10_147_122 : Nat} {q56_11_147_123 : Nat} {q56_12_147_124 : Nat} {q56_13_147_125 : Nat} {q56_14_147_126 : Nat} {g_71_15_147_127 : Nat → Int32} {q143_128 : Nat} {q5_0_147_129 : Nat} {q16_1_147_130 : Nat} {q7_0_20_2_147_131 : Nat} {q15_1_20_3_147_132 : Nat} {q23_2_20_4_147_133 : Nat} {q29_5_147_134 : Nat} {q38_6_147_135 : Nat} {q56_7_147_136 : Nat} {q56_8_147_137 : Nat} {q56_9_147_138 : Nat} {q56_10_147_139 : Nat} {q56_11_147_140 : Nat} {q56_12_147_141 : Nat} {q56_13_147_142 : Nat} {q56_14_147_143 : Nat} {g_71_15_147_144 : Nat → Int32} {q143_145 : Nat} {q5_0_147_146 : Nat} {q16_1_147_147 : Nat} {q7_0_20_2_147_148 : Nat} {q15_1_20_3_147_149 : Nat} {q23_2_20_4_147_150 : Nat} {q29_5_147_151 : Nat} {q38_6_147_152 : Nat} {q56_7_147_153 : Nat} {q56_8_147_154 : Nat} {q56_9_147_155 : Nat} {q56_10_147_156 : Nat} {q56_11_147_157 : Nat} {q56_12_147_158 : Nat} {q56_13_147_159 : Nat} {q56_14_147_160 : Nat} {g_71_15_147_161 : Nat → Int32} {q169_162 : Nat} {q7_0_173_163 : Nat} {q169_164 : Nat} {q7_0_173_165 : Nat} {q169_166 : Nat} {q7_0_173_167 : Nat} {q169_168 : Nat} {q7_0_173_169 : Nat} (hP : va_P D vwCl [(h0, .inr (9, [.ref q5_0, .ref q16_19, .ref q28_36, .ref q36_37, .ref q44_38, .ref q51_39, .ref q58_40, .ref q69_43, .ref q80_48, .ref q93_58, .ref q100_59])), (q5_0, .inr (6, [.ref q8_0_9_1, .int 0, .ref q14_1_9_2, .int 0, .int 0, .int 0, .int 0, .int 0, .int 0, .int 0, .int 0, .int (-1)])), (q8_0_9_1, .inl (c0 1, 1600, .inl (fun _ => 0))), (q7_0_20_2_18_4_9_5, .inl (c0 0, 6, .inl (fun _ => 0))), (q15_1_20_3_18_5_9_6, .inl (c0 0, 6, .inl (fun _ => 0))), (q23_2_20_4_18_6_9_7, .inl (c0 0, 6, .inl (fun _ => 0))), (q29_5_18_7_9_8, .inl (c0 6, 8, .inr (.inr (.inr (.inr (va_up (va_up (va_up (va_up (va_up (va_up (va_up (va_up (fun _ => none) 0 (some q56_7_18_9_9_10)) 1 (some q56_8_18_10_9_11)) 2 (some q56_9_18_11_9_12)) 3 (some q56_10_18_12_9_13)) 4 (some q56_11_18_13_9_14)) 5 (some q56_12_18_14_9_15)) 6 (some q56_13_18_15_9_16)) 7 (some q56_14_18_16_9_17))))))), (q56_7_18_9_9_10, .inr (3, [.int 0, .int 0, .int 0, .int 0, .int 0, .int 0, .int 0, .int 0, .int 0, .int 0])), (q56_8_18_10_9_11, .inr (3, [.int 0, .int 0, .int 0, .int 0, .int 0, .int 0, .int 0, .int 0, .int 0, .int 0])), (q56_9_18_11_9_12, .inr (3, [.int 0, .int 0, .int 0, .int 0, .int 0, .int 0, .int 0, .int 0, .int 0, .int 0])), (q56_10_18_12_9_13, .inr (3, [.int 0, .int 0, .int 0, .int 0, .int 0, .int 0, .int 0, .int 0, .int 0, .int 0])), (q56_11_18_13_9_14, .inr (3, [.int 0, .int 0, .int 0, .int 0, .int 0, .int 0, .int 0, .int 0, .int 0, .int 0])), (q56_12_18_14_9_15, .inr (3, [.int 0, .int 0, .int 0, .int 0, .int 0, .int 0, .int 0, .int 0, .int 0, .int 0])), (q56_13_18_15_9_16, .inr (3, [.int 0, .int 0, .int 0, .int 0, .int 0, .int 0, .int 0, .int 0, .int 0, .int 0])), (q56_14_18_16_9_17, .inr (3, [.int 0, .int 0, .int 0, .int 0, .int 0, .int 0, .int 0, .int 0, .int 0, .int 0])), (q14_1_9_2, .inr (7, [.int 0, .int 0, .int 0, .int 0, .int 0, .long 0, .ref q5_0_18_2_9_3, .ref q16_1_18_3_9_4, .ref q29_5_18_7_9_8, .ref q38_6_18_8_9_9])), (q16_1_18_3_9_4, .inr (1, [.int 0, .ref q7_0_20_2_18_4_9_5, .ref q15_1_20_3_18_5_9_6, .ref q23_2_20_4_18_6_9_7])), (q38_6_18_8_9_9, .inl (c0 0, 64, .inl g_71_15_18_17_9_18)), (q5_0_18_2_9_3, .inr (0, [.int 0, .int 2, .int 0, .int 0, .int 0])), (q7_0_20_2_20_22, .inl (c0 0, 6, .inl (fun _ => 0))), (q15_1_20_3_20_23, .inl (c0 0, 6, .inl (fun _ => 0))), (q23_2_20_4_20_24, .inl (c0 0, 6, .inl (fun _ => 0))), (q29_5_20_25, .inl (c0 6, 8, .inr (.inr (.inr (.inr (va_up (va_up (va_up (va_up (va_up (va_up (va_up (va_up (fun _ => none) 0 (some q56_7_20_27)) 1 (some q56_8_20_28)) 2 (some q56_9_20_29)) 3 (some q56_10_20_30)) 4 (some q56_11_20_31)) 5 (some q56_12_20_32)) 6 (some q56_13_20_33)) 7 (some q56_14_20_34))))))), (q56_7_20_27, .inr (3, [.int 0, .int 0, .int 0, .int 0, .int 0, .int 0, .int 0, .int 0, .int 0, .int 0])), (q56_8_20_28, .inr (3, [.int 0, .int 0, .int 0, .int 0, .int 0, .int 0, .int 0, .int 0, .int 0, .int 0])), (q56_9_20_29, .inr (3, [.int 0, .int 0, .int 0, .int 0, .int 0, .int 0, .int 0, .int 0, .int 0, .int 0])), (q56_10_20_30, .inr (3, [.int 0, .int 0, .int 0, .int 0, .int 0, .int 0, .int 0, .int 0, .int 0, .int 0])), (q56_11_20_31, .inr (3, [.int 0, .int 0, .int 0, .int 0, .int 0, .int 0, .int 0, .int 0, .int 0, .int 0])), (q56_12_20_32, .inr (3, [.int 0, .int 0, .int 0, .int 0, .int 0, .int 0, .int 0, .int 0, .int 0, .int 0])), (q56_13_20_33, .inr (3, [.int 0, .int 0, .int 0, .int 0, .int 0, .int 0, .int 0, .int 0, .int 0, .int 0])), (q56_14_20_34, .inr (3, [.int 0, .int 0, .int 0, .int 0, .int 0, .int 0, .int 0, .int 0, .int 0, .int 0])), (q16_19, .inr (7, [.int 0, .int 0, .int 0, .int 0, .int 0, .long 0, .ref q5_0_20_20, .ref q16_1_20_21, .ref q29_5_20_25, .ref q38_6_20_26])), (q16_1_20_21, .inr (1, [.int 0, .ref q7_0_20_2_20_22, .ref q15_1_20_3_20_23, .ref q23_2_20_4_20_24])), (q38_6_20_26, .inl (c0 0, 64, .inl g_71_15_20_35)), (q5_0_20_20, .inr (0, [.int 0, .int 2, .int 0, .int 0, .int 0])), (q36_37, .inl (c0 4, 3, .inr (.inr (.inr (.inr (va_up (va_up (va_up (fun _ => none) 0 (some q143_111)) 1 (some q143_128)) 2 (some q143_145))))))), (q44_38, .inl (c0 2, 3, .inl (fun _ => 0))), (q51_39, .inl (c0 5, 4, .inr (.inr (.inr (.inr (va_up (va_up (va_up (va_up (fun _ => none) 0 (some q169_162)) 1 (some q169_164)) 2 (some q169_166)) 3 (some q169_168))))))), (q7_0_20_2_147_114, .inl (c0 0, 6, .inl (fun _ => 0))), (q15_1_20_3_147_115, .inl (c0 0, 6, .inl (fun _ => 0))), (q23_2_20_4_147_116, .inl (c0 0, 6, .inl (fun _ => 0))), (q29_5_147_117, .inl (c0 6, 8, .inr (.inr (.inr (.inr (va_up (va_up (va_up (va_up (va_up (va_up (va_up (va_up (fun _ => none) 0 (some q56_7_147_119)) 1 (some q56_8_147_120)) 2 (some q56_9_147_121)) 3 (some q56_10_147_122)) 4 (some q56_11_147_123)) 5 (some q56_12_147_124)) 6 (some q56_13_147_125)) 7 (some q56_14_147_126))))))), (q56_7_147_119, .inr (3, [.int 0, .int 0, .int 0, .int 0, .int 0, .int 0, .int 0, .int 0, .int 0, .int 0])), (q56_8_147_120, .inr (3, [.int 0, .int 0, .int 0, .int 0, .int 0, .int 0, .int 0, .int 0, .int 0, .int 0])), (q56_9_147_121, .inr (3, [.int 0, .int 0, .int 0, .int 0, .int 0, .int 0, .int 0, .int 0, .int 0, .int 0])), (q56_10_147_122, .inr (3, [.int 0, .int 0, .int 0, .int 0, .int 0, .int 0, .int 0, .int 0, .int 0, .int 0])), (q56_11_147_123, .inr (3, [.int 0, .int 0, .int 0, .int 0, .int 0, .int 0, .int 0, .int 0, .int 0, .int 0])), (q56_12_147_124, .inr (3, [.int 0, .int 0, .int 0, .int 0, .int 0, .int 0, .int 0, .int 0, .int 0, .int 0])), (q56_13_147_125, .inr (3, [.int 0, .int 0, .int 0, .int 0, .int 0, .int 0, .int 0, .int 0, .int 0, .int 0])), (q56_14_147_126, .inr (3, [.int 0, .int 0, .int 0, .int 0, .int 0, .int 0, .int 0, .int 0, .int 0, .int 0])), (q143_111, .inr (7, [.int 0, .int 0, .int 0, .int 0, .int 0, .long 0, .ref q5_0_147_112, .ref q16_1_147_113, .ref q29_5_147_117, .ref q38_6_147_118])), (q16_1_147_113, .inr (1, [.int 0, .ref q7_0_20_2_147_114, .ref q15_1_20_3_147_115, .ref q23_2_20_4_147_116])), (q38_6_147_118, .inl (c0 0, 64, .inl g_71_15_147_127)), (q5_0_147_112, .inr (0, [.int 0, .int 2, .int 0, .int 0, .int 0])), (q7_0_20_2_147_131, .inl (c0 0, 6, .inl (fun _ => 0))), (q15_1_20_3_147_132, .inl (c0 0, 6, .inl (fun _ => 0))), (q23_2_20_4_147_133, .inl (c0 0, 6, .inl (fun _ => 0))), (q29_5_147_134, .inl (c0 6, 8, .inr (.inr (.inr (.inr (va_up (va_up (va_up (va_up (va_up (va_up (va_up (va_up (fun _ => none) 0 (some q56_7_147_136)) 1 (some q56_8_147_137)) 2 (some q56_9_147_138)) 3 (some q56_10_147_139)) 4 (some q56_11_147_140)) 5 (some q56_12_147_141)) 6 (some q56_13_147_142)) 7 (some q56_14_147_143))))))), (q56_7_147_136, .inr (3, [.int 0, .int 0, .int 0, .int 0, .int 0, .int 0, .int 0, .int 0, .int 0, .int 0])), (q56_8_147_137, .inr (3, [.int 0, .int 0, .int 0, .int 0, .int 0, .int 0, .int 0, .int 0, .int 0, .int 0])), (q56_9_147_138, .inr (3, [.int 0, .int 0, .int 0, .int 0, .int 0, .int 0, .int 0, .int 0, .int 0, .int 0])), (q56_10_147_139, .inr (3, [.int 0, .int 0, .int 0, .int 0, .int 0, .int 0, .int 0, .int 0, .int 0, .int 0])), (q56_11_147_140, .inr (3, [.int 0, .int 0, .int 0, .int 0, .int 0, .int 0, .int 0, .int 0, .int 0, .int 0])), (q56_12_147_141, .inr (3, [.int 0, .int 0, .int 0, .int 0, .int 0, .int 0, .int 0, .int 0, .int 0, .int 0])), (q56_13_147_142, .inr (3, [.int 0, .int 0, .int 0, .int 0, .int 0, .int 0, .int 0, .int 0, .int 0, .int 0])), (q56_14_147_143, .inr (3, [.int 0, .int 0, .int 0, .int 0, .int 0, .int 0, .int 0, .int 0, .int 0, .int 0])), (q143_128, .inr (7, [.int 0, .int 0, .int 0, .int 0, .int 0, .long 0, .ref q5_0_147_129, .ref q16_1_147_130, .ref q29_5_147_134, .ref q38_6_147_135])), (q16_1_147_130, .inr (1, [.int 0, .ref q7_0_20_2_147_131, .ref q15_1_20_3_147_132, .ref q23_2_20_4_147_133])), (q38_6_147_135, .inl (c0 0, 64, .inl g_71_15_147_144)), (q5_0_147_129, .inr (0, [.int 0, .int 2, .int 0, .int 0, .int 0])), (q7_0_20_2_147_148, .inl (c0 0, 6, .inl (fun _ => 0))), (q15_1_20_3_147_149, .inl (c0 0, 6, .inl (fun _ => 0))), (q23_2_20_4_147_150, .inl (c0 0, 6, .inl (fun _ => 0))), (q29_5_147_151, .inl (c0 6, 8, .inr (.inr (.inr (.inr (va_up (va_up (va_up (va_up (va_up (va_up (va_up (va_up (fun _ => none) 0 (some q56_7_147_153)) 1 (some q56_8_147_154)) 2 (some q56_9_147_155)) 3 (some q56_10_147_156)) 4 (some q56_11_147_157)) 5 (some q56_12_147_158)) 6 (some q56_13_147_159)) 7 (some q56_14_147_160))))))), (q56_7_147_153, .inr (3, [.int 0, .int 0, .int 0, .int 0, .int 0, .int 0, .int 0, .int 0, .int 0, .int 0])), (q56_8_147_154, .inr (3, [.int 0, .int 0, .int 0, .int 0, .int 0, .int 0, .int 0, .int 0, .int 0, .int 0])), (q56_9_147_155, .inr (3, [.int 0, .int 0, .int 0, .int 0, .int 0, .int 0, .int 0, .int 0, .int 0, .int 0])), (q56_10_147_156, .inr (3, [.int 0, .int 0, .int 0, .int 0, .int 0, .int 0, .int 0, .int 0, .int 0, .int 0])), (q56_11_147_157, .inr (3, [.int 0, .int 0, .int 0, .int 0, .int 0, .int 0, .int 0, .int 0, .int 0, .int 0])), (q56_12_147_158, .inr (3, [.int 0, .int 0, .int 0, .int 0, .int 0, .int 0, .int 0, .int 0, .int 0, .int 0])), (q56_13_147_159, .inr (3, [.int 0, .int 0, .int 0, .int 0, .int 0, .int 0, .int 0, .int 0, .int 0, .int 0])), (q56_14_147_160, .inr (3, [.int 0, .int 0, .int 0, .int 0, .int 0, .int 0, .int 0, .int 0, .int 0, .int 0])), (q143_145, .inr (7, [.int 0, .int 0, .int 0, .int 0, .int 0, .long 0, .ref q5_0_147_146, .ref q16_1_147_147, .ref q29_5_147_151, .ref q38_6_147_152])), (q16_1_147_147, .inr (1, [.int 0, .ref q7_0_20_2_147_148, .ref q15_1_20_3_147_149, .ref q23_2_20_4_147_150])), (q38_6_147_152, .inl (c0 0, 64, .inl g_71_15_147_161)), (q5_0_147_146, .inr (0, [.int 0, .int 2, .int 0, .int 0, .int 0])), (q169_162, .inr (5, [.int 0, .int 0, .int 0, .ref q7_0_173_163])), (q7_0_173_163, .inl (c0 3, 60, .inr (.inl (fun _ => 0)))), (q169_164, .inr (5, [.int 0, .int 0, .int 0, .ref q7_0_173_165])), (q7_0_173_165, .inl (c0 3, 60, .inr (.inl (fun _ => 0)))), (q169_166, .inr (5, [.int 0, .int 0, .int 0, .ref q7_0_173_167])), (q7_0_173_167, .inl (c0 3, 60, .inr (.inl (fun _ => 0)))), (q169_168, .inr (5, [.int 0, .int 0, .int 0, .ref q7_0_173_169])), (q7_0_173_169, .inl (c0 3, 60, .inr (.inl (fun _ => 0))))] H) (hD : va_D A [(h0, .inr (9, [.ref q5_0, .ref q16_19, .ref q28_36, .ref q36_37, .ref q44_38, .ref q51_39, .ref q58_40, .ref q69_43, .ref q80_48, .ref q93_58, .ref q100_59])), (q5_0, .inr (6, [.ref q8_0_9_1, .int 0, .ref q14_1_9_2, .int 0, .int 0, .int 0, .int 0, .int 0, .int 0, .int 0, .int 0, .int (-1)])), (q8_0_9_1, .inl (c0 1, 1600, .inl (fun _ => 0))), (q7_0_20_2_18_4_9_5, .inl (c0 0, 6, .inl (fun _ => 0))), (q15_1_20_3_18_5_9_6, .inl (c0 0, 6, .inl (fun _ => 0))), (q23_2_20_4_18_6_9_7, .inl (c0 0, 6, .inl (fun _ => 0))), (q29_5_18_7_9_8, .inl (c0 6, 8, .inr (.inr (.inr (.inr (va_up (va_up (va_up (va_up (va_up (va_up (va_up (va_up (fun _ => none) 0 (some q56_7_18_9_9_10)) 1 (some q56_8_18_10_9_11)) 2 (some q56_9_18_11_9_12)) 3 (some q56_10_18_12_9_13)) 4 (some q56_11_18_13_9_14)) 5 (some q56_12_18_14_9_15)) 6 (some q56_13_18_15_9_16)) 7 (some q56_14_18_16_9_17))))))), (q56_7_18_9_9_10, .inr (3, [.int 0, .int 0, .int 0, .int 0, .int 0, .int 0, .int 0, .int 0, .int 0, .int 0])), (q56_8_18_10_9_11, .inr (3, [.int 0, .int 0, .int 0, .int 0, .int 0, .int 0, .int 0, .int 0, .int 0, .int 0])), (q56_9_18_11_9_12, .inr (3, [.int 0, .int 0, .int 0, .int 0, .int 0, .int 0, .int 0, .int 0, .int 0, .int 0])), (q56_10_18_12_9_13, .inr (3, [.int 0, .int 0, .int 0, .int 0, .int 0, .int 0, .int 0, .int 0, .int 0, .int 0])), (q56_11_18_13_9_14, .inr (3, [.int 0, .int 0, .int 0, .int 0, .int 0, .int 0, .int 0, .int 0, .int 0, .int 0])), (q56_12_18_14_9_15, .inr (3, [.int 0, .int 0, .int 0, .int 0, .int 0, .int 0, .int 0, .int 0, .int 0, .int 0])), (q56_13_18_15_9_16, .inr (3, [.int 0, .int 0, .int 0, .int 0, .int 0, .int 0, .int 0, .int 0, .int 0, .int 0])), (q56_14_18_16_9_17, .inr (3, [.int 0, .int 0, .int 0, .int 0, .int 0, .int 0, .int 0, .int 0, .int 0, .int 0])), (q14_1_9_2, .inr (7, [.int 0, .int 0, .int 0, .int 0, .int 0, .long 0, .ref q5_0_18_2_9_3, .ref q16_1_18_3_9_4, .ref q29_5_18_7_9_8, .ref q38_6_18_8_9_9])), (q16_1_18_3_9_4, .inr (1, [.int 0, .ref q7_0_20_2_18_4_9_5, .ref q15_1_20_3_18_5_9_6, .ref q23_2_20_4_18_6_9_7])), (q38_6_18_8_9_9, .inl (c0 0, 64, .inl g_71_15_18_17_9_18)), (q5_0_18_2_9_3, .inr (0, [.int 0, .int 2, .int 0, .int 0, .int 0])), (q7_0_20_2_20_22, .inl (c0 0, 6, .inl (fun _ => 0))), (q15_1_20_3_20_23, .inl (c0 0, 6, .inl (fun _ => 0))), (q23_2_20_4_20_24, .inl (c0 0, 6, .inl (fun _ => 0))), (q29_5_20_25, .inl (c0 6, 8, .inr (.inr (.inr (.inr (va_up (va_up (va_up (va_up (va_up (va_up (va_up (va_up (fun _ => none) 0 (some q56_7_20_27)) 1 (some q56_8_20_28)) 2 (some q56_9_20_29)) 3 (some q56_10_20_30)) 4 (some q56_11_20_31)) 5 (some q56_12_20_32)) 6 (some q56_13_20_33)) 7 (some q56_14_20_34))))))), (q56_7_20_27, .inr (3, [.int 0, .int 0, .int 0, .int 0, .int 0, .int 0, .int 0, .int 0, .int 0, .int 0])), (q56_8_20_28, .inr (3, [.int 0, .int 0, .int 0, .int 0, .int 0, .int 0, .int 0, .int 0, .int 0, .int 0])), (q56_9_20_29, .inr (3, [.int 0, .int 0, .int 0, .int 0, .int 0, .int 0, .int 0, .int 0, .int 0, .int 0])), (q56_10_20_30, .inr (3, [.int 0, .int 0, .int 0, .int 0, .int 0, .int 0, .int 0, .int 0, .int 0, .int 0])), (q56_11_20_31, .inr (3, [.int 0, .int 0, .int 0, .int 0, .int 0, .int 0, .int 0, .int 0, .int 0, .int 0])), (q56_12_20_32, .inr (3, [.int 0, .int 0, .int 0, .int 0, .int 0, .int 0, .int 0, .int 0, .int 0, .int 0])), (q56_13_20_33, .inr (3, [.int 0, .int 0, .int 0, .int 0, .int 0, .int 0, .int 0, .int 0, .int 0, .int 0])), (q56_14_20_34, .inr (3, [.int 0, .int 0, .int 0, .int 0, .int 0, .int 0, .int 0, .int 0, .int 0, .int 0])), (q16_19, .inr (7, [.int 0, .int 0, .int 0, .int 0, .int 0, .long 0, .ref q5_0_20_20, .ref q16_1_20_21, .ref q29_5_20_25, .ref q38_6_20_26])), (q16_1_20_21, .inr (1, [.int 0, .ref q7_0_20_2_20_22, .ref q15_1_20_3_20_23, .ref q23_2_20_4_20_24])), (q38_6_20_26, .inl (c0 0, 64, .inl g_71_15_20_35)), (q5_0_20_20, .inr (0, [.int 0, .int 2, .int 0, .int 0, .int 0])), (q36_37, .inl (c0 4, 3, .inr (.inr (.inr (.inr (va_up (va_up (va_up (fun _ => none) 0 (some q143_111)) 1 (some q143_128)) 2 (some q143_145))))))), (q44_38, .inl (c0 2, 3, .inl (fun _ => 0))), (q51_39, .inl (c0 5, 4, .inr (.inr (.inr (.inr (va_up (va_up (va_up (va_up (fun _ => none) 0 (some q169_162)) 1 (some q169_164)) 2 (some q169_166)) 3 (some q169_168))))))), (q7_0_20_2_147_114, .inl (c0 0, 6, .inl (fun _ => 0))), (q15_1_20_3_147_115, .inl (c0 0, 6, .inl (fun _ => 0))), (q23_2_20_4_147_116, .inl (c0 0, 6, .inl (fun _ => 0))), (q29_5_147_117, .inl (c0 6, 8, .inr (.inr (.inr (.inr (va_up (va_up (va_up (va_up (va_up (va_up (va_up (va_up (fun _ => none) 0 (some q56_7_147_119)) 1 (some q56_8_147_120)) 2 (some q56_9_147_121)) 3 (some q56_10_147_122)) 4 (some q56_11_147_123)) 5 (some q56_12_147_124)) 6 (some q56_13_147_125)) 7 (some q56_14_147_126))))))), (q56_7_147_119, .inr (3, [.int 0, .int 0, .int 0, .int 0, .int 0, .int 0, .int 0, .int 0, .int 0, .int 0])), (q56_8_147_120, .inr (3, [.int 0, .int 0, .int 0, .int 0, .int 0, .int 0, .int 0, .int 0, .int 0, .int 0])), (q56_9_147_121, .inr (3, [.int 0, .int 0, .int 0, .int 0, .int 0, .int 0, .int 0, .int 0, .int 0, .int 0])), (q56_10_147_122, .inr (3, [.int 0, .int 0, .int 0, .int 0, .int 0, .int 0, .int 0, .int 0, .int 0, .int 0])), (q56_11_147_123, .inr (3, [.int 0, .int 0, .int 0, .int 0, .int 0, .int 0, .int 0, .int 0, .int 0, .int 0])), (q56_12_147_124, .inr (3, [.int 0, .int 0, .int 0, .int 0, .int 0, .int 0, .int 0, .int 0, .int 0, .int 0])), (q56_13_147_125, .inr (3, [.int 0, .int 0, .int 0, .int 0, .int 0, .int 0, .int 0, .int 0, .int 0, .int 0])), (q56_14_147_126, .inr (3, [.int 0, .int 0, .int 0, .int 0, .int 0, .int 0, .int 0, .int 0, .int 0, .int 0])), (q143_111, .inr (7, [.int 0, .int 0, .int 0, .int 0, .int 0, .long 0, .ref q5_0_147_112, .ref q16_1_147_113, .ref q29_5_147_117, .ref q38_6_147_118])), (q16_1_147_113, .inr (1, [.int 0, .ref q7_0_20_2_147_114, .ref q15_1_20_3_147_115, .ref q23_2_20_4_147_116])), (q38_6_147_118, .inl (c0 0, 64, .inl g_71_15_147_127)), (q5_0_147_112, .inr (0, [.int 0, .int 2, .int 0, .int 0, .int 0])), (q7_0_20_2_147_131, .inl (c0 0, 6, .inl (fun _ => 0))), (q15_1_20_3_147_132, .inl (c0 0, 6, .inl (fun _ => 0))), (q23_2_20_4_147_133, .inl (c0 0, 6, .inl (fun _ => 0))), (q29_5_147_134, .inl (c0 6, 8, .inr (.inr (.inr (.inr (va_up (va_up (va_up (va_up (va_up (va_up (va_up (va_up (fun _ => none) 0 (some q56_7_147_136)) 1 (some q56_8_147_137)) 2 (some q56_9_147_138)) 3 (some q56_10_147_139)) 4 (some q56_11_147_140)) 5 (some q56_12_147_141)) 6 (some q56_13_147_142)) 7 (some q56_14_147_143))))))), (q56_7_147_136, .inr (3, [.int 0, .int 0, .int 0, .int 0, .int 0, .int 0, .int 0, .int 0, .int 0, .int 0])), (q56_8_147_137, .inr (3, [.int 0, .int 0, .int 0, .int 0, .int 0, .int 0, .int 0, .int 0, .int 0, .int 0])), (q56_9_147_138, .inr (3, [.int 0, .int 0, .int 0, .int 0, .int 0, .int 0, .int 0, .int 0, .int 0, .int 0])), (q56_10_147_139, .inr (3, [.int 0, .int 0, .int 0, .int 0, .int 0, .int 0, .int 0, .int 0, .int 0, .int 0])), (q56_11_147_140, .inr (3, [.int 0, .int 0, .int 0, .int 0, .int 0, .int 0, .int 0, .int 0, .int 0, .int 0])), (q56_12_147_141, .inr (3, [.int 0, .int 0, .int 0, .int 0, .int 0, .int 0, .int 0, .int 0, .int 0, .int 0])), (q56_13_147_142, .inr (3, [.int 0, .int 0, .int 0, .int 0, .int 0, .int 0, .int 0, .int 0, .int 0, .int 0])), (q56_14_147_143, .inr (3, [.int 0, .int 0, .int 0, .int 0, .int 0, .int 0, .int 0, .int 0, .int 0, .int 0])), (q143_128, .inr (7, [.int 0, .int 0, .int 0, .int 0, .int 0, .long 0, .ref q5_0_147_129, .ref q16_1_147_130, .ref q29_5_147_134, .ref q38_6_147_135])), (q16_1_147_130, .inr (1, [.int 0, .ref q7_0_20_2_147_131, .ref q15_1_20_3_147_132, .ref q23_2_20_4_147_133])), (q38_6_147_135, .inl (c0 0, 64, .inl g_71_15_147_144)), (q5_0_147_129, .inr (0, [.int 0, .int 2, .int 0, .int 0, .int 0])), (q7_0_20_2_147_148, .inl (c0 0, 6, .inl (fun _ => 0))), (q15_1_20_3_147_149, .inl (c0 0, 6, .inl (fun _ => 0))), (q23_2_20_4_147_150, .inl (c0 0, 6, .inl (fun _ => 0))), (q29_5_147_151, .inl (c0 6, 8, .inr (.inr (.inr (.inr (va_up (va_up (va_up (va_up (va_up (va_up (va_up (va_up (fun _ => none) 0 (some q56_7_147_153)) 1 (some q56_8_147_154)) 2 (some q56_9_147_155)) 3 (some q56_10_147_156)) 4 (some q56_11_147_157)) 5 (some q56_12_147_158)) 6 (some q56_13_147_159)) 7 (some q56_14_147_160))))))), (q56_7_147_153, .inr (3, [.int 0, .int 0, .int 0, .int 0, .int 0, .int 0, .int 0, .int 0, .int 0, .int 0])), (q56_8_147_154, .inr (3, [.int 0, .int 0, .int 0, .int 0, .int 0, .int 0, .int 0, .int 0, .int 0, .int 0])), (q56_9_147_155, .inr (3, [.int 0, .int 0, .int 0, .int 0, .int 0, .int 0, .int 0, .int 0, .int 0, .int 0])), (q56_10_147_156, .inr (3, [.int 0, .int 0, .int 0, .int 0, .int 0, .int 0, .int 0, .int 0, .int 0, .int 0])), (q56_11_147_157, .inr (3, [.int 0, .int 0, .int 0, .int 0, .int 0, .int 0, .int 0, .int 0, .int 0, .int 0])), (q56_12_147_158, .inr (3, [.int 0, .int 0, .int 0, .int 0, .int 0, .int 0, .int 0, .int 0, .int 0, .int 0])), (q56_13_147_159, .inr (3, [.int 0, .int 0, .int 0, .int 0, .int 0, .int 0, .int 0, .int 0, .int 0, .int 0])), (q56_14_147_160, .inr (3, [.int 0, .int 0, .int 0, .int 0, .int 0, .int 0, .int 0, .int 0, .int 0, .int 0])), (q143_145, .inr (7, [.int 0, .int 0, .int 0, .int 0, .int 0, .long 0, .ref q5_0_147_146, .ref q16_1_147_147, .ref q29_5_147_151, .ref q38_6_147_152])), (q16_1_147_147, .inr (1, [.int 0, .ref q7_0_20_2_147_148, .ref q15_1_20_3_147_149, .ref q23_2_20_4_147_150])), (q38_6_147_152, .inl (c0 0, 64, .inl g_71_15_147_161)), (q5_0_147_146, .inr (0, [.int 0, .int 2, .int 0, .int 0, .int 0])), (q169_162, .inr (5, [.int 0, .int 0, .int 0, .ref q7_0_173_163])), (q7_0_173_163, .inl (c0 3, 60, .inr (.inl (fun _ => 0)))), (q169_164, .inr (5, [.int 0, .int 0, .int 0, .ref q7_0_173_165])), (q7_0_173_165, .inl (c0 3, 60, .inr (.inl (fun _ => 0)))), (q169_166, .inr (5, [.int 0, .int 0, .int 0, .ref q7_0_173_167])), (q7_0_173_167, .inl (c0 3, 60, .inr (.inl (fun _ => 0)))), (q169_168, .inr (5, [.int 0, .int 0, .int 0, .ref q7_0_173_169])), (q7_0_173_169, .inl (c0 3, 60, .inr (.inl (fun _ => 0))))]) : TI D vwCl (tysOf c0) (RT1 false) (yl [(h0, .inr (9, [.ref q5_0, .ref q16_19, .ref q28_36, .ref q36_37, .ref q44_38, .ref q51_39, .ref q58_40, .ref q69_43, .ref q80_48, .ref q93_58, .ref q100_59])), (q5_0, .inr (6, [.ref q8_0_9_1, .int 0, .ref q14_1_9_2, .int 0, .int 0, .int 0, .int 0, .int 0, .int 0, .int 0, .int 0, .int (-1)])), (q8_0_9_1, .inl (c0 1, 1600, .inl (fun _ => 0))), (q7_0_20_2_18_4_9_5, .inl (c0 0, 6, .inl (fun _ => 0))), (q15_1_20_3_18_5_9_6, .inl (c0 0, 6, .inl (fun _ => 0))), (q23_2_20_4_18_6_9_7, .inl (c0 0, 6, .inl (fun _ => 0))), (q29_5_18_7_9_8, .inl (c0 6, 8, .inr (.inr (.inr (.inr (va_up (va_up (va_up (va_up (va_up (va_up (va_up (va_up (fun _ => none) 0 (some q56_7_18_9_9_10)) 1 (some q56_8_18_10_9_11)) 2 (some q56_9_18_11_9_12)) 3 (some q56_10_18_12_9_13)) 4 (some q56_11_18_13_9_14)) 5 (some q56_12_18_14_9_15)) 6 (some q56_13_18_15_9_16)) 7 (some q56_14_18_16_9_17))))))), (q56_7_18_9_9_10, .inr (3, [.int 0, .int 0, .int 0, .int 0, .int 0, .int 0, .int 0, .int 0, .int 0, .int 0])), (q56_8_18_10_9_11, .inr (3, [.int 0, .int 0, .int 0, .int 0, .int 0, .int 0, .int 0, .int 0, .int 0, .int 0])), (q56_9_18_11_9_12, .inr (3, [.int 0, .int 0, .int 0, .int 0, .int 0, .int 0, .int 0, .int 0, .int 0, .int 0])), (q56_10_18_12_9_13, .inr (3, [.int 0, .int 0, .int 0, .int 0, .int 0, .int 0, .int 0, .int 0, .int 0, .int 0])), (q56_11_18_13_9_14, .inr (3, [.int 0, .int 0, .int 0, .int 0, .int 0, .int 0, .int 0, .int 0, .int 0, .int 0])), (q56_12_18_14_9_15, .inr (3, [.int 0, .int 0, .int 0, .int 0, .int 0, .int 0, .int 0, .int 0, .int 0, .int 0])), (q56_13_18_15_9_16, .inr (3, [.int 0, .int 0, .int 0, .int 0, .int 0, .int 0, .int 0, .int 0, .int 0, .int 0])), (q56_14_18_16_9_17, .inr (3, [.int 0, .int 0, .int 0, .int 0, .int 0, .int 0, .int 0, .int 0, .int 0, .int 0])), (q14_1_9_2, .inr (7, [.int 0, .int 0, .int 0, .int 0, .int 0, .long 0, .ref q5_0_18_2_9_3, .ref q16_1_18_3_9_4, .ref q29_5_18_7_9_8, .ref q38_6_18_8_9_9])), (q16_1_18_3_9_4, .inr (1, [.int 0, .ref q7_0_20_2_18_4_9_5, .ref q15_1_20_3_18_5_9_6, .ref q23_2_20_4_18_6_9_7])), (q38_6_18_8_9_9, .inl (c0 0, 64, .inl g_71_15_18_17_9_18)), (q5_0_18_2_9_3, .inr (0, [.int 0, .int 2, .int 0, .int 0, .int 0])), (q7_0_20_2_20_22, .inl (c0 0, 6, .inl (fun _ => 0))), (q15_1_20_3_20_23, .inl (c0 0, 6, .inl (fun _ => 0))), (q23_2_20_4_20_24, .inl (c0 0, 6, .inl (fun _ => 0))), (q29_5_20_25, .inl (c0 6, 8, .inr (.inr (.inr (.inr (va_up (va_up (va_up (va_up (va_up (va_up (va_up (va_up (fun _ => none) 0 (some q56_7_20_27)) 1 (some q56_8_20_28)) 2 (some q56_9_20_29)) 3 (some q56_10_20_30)) 4 (some q56_11_20_31)) 5 (some q56_12_20_32)) 6 (some q56_13_20_33)) 7 (some q56_14_20_34))))))), (q56_7_20_27, .inr (3, [.int 0, .int 0, .int 0, .int 0, .int 0, .int 0, .int 0, .int 0, .int 0, .int 0])), (q56_8_20_28, .inr (3, [.int 0, .int 0, .int 0, .int 0, .int 0, .int 0, .int 0, .int 0, .int 0, .int 0])), (q56_9_20_29, .inr (3, [.int 0, .int 0, .int 0, .int 0, .int 0, .int 0, .int 0, .int 0, .int 0, .int 0])), (q56_10_20_30, .inr (3, [.int 0, .int 0, .int 0, .int 0, .int 0, .int 0, .int 0, .int 0, .int 0, .int 0])), (q56_11_20_31, .inr (3, [.int 0, .int 0, .int 0, .int 0, .int 0, .int 0, .int 0, .int 0, .int 0, .int 0])), (q56_12_20_32, .inr (3, [.int 0, .int 0, .int 0, .int 0, .int 0, .int 0, .int 0, .int 0, .int 0, .int 0])), (q56_13_20_33, .inr (3, [.int 0, .int 0, .int 0, .int 0, .int 0, .int 0, .int 0, .int 0, .int 0, .int 0])), (q56_14_20_34, .inr (3, [.int 0, .int 0, .int 0, .int 0, .int 0, .int 0, .int 0, .int 0, .int 0, .int 0])), (q16_19, .inr (7, [.int 0, .int 0, .int 0, .int 0, .int 0, .long 0, .ref q5_0_20_20, .ref q16_1_20_21, .ref q29_5_20_25, .ref q38_6_20_26])), (q16_1_20_21, .inr (1, [.int 0, .ref q7_0_20_2_20_22, .ref q15_1_20_3_20_23, .ref q23_2_20_4_20_24])), (q38_6_20_26, .inl (c0 0, 64, .inl g_71_15_20_35)), (q5_0_20_20, .inr (0, [.int 0, .int 2, .int 0, .int 0, .int 0])), (q36_37, .inl (c0 4, 3, .inr (.inr (.inr (.inr (va_up (va_up (va_up (fun _ => none) 0 (some q143_111)) 1 (some q143_128)) 2 (some q143_145))))))), (q44_38, .inl (c0 2, 3, .inl (fun _ => 0))), (q51_39, .inl (c0 5, 4, .inr (.inr (.inr (.inr (va_up (va_up (va_up (va_up (fun _ => none) 0 (some q169_162)) 1 (some q169_164)) 2 (some q169_166)) 3 (some q169_168))))))), (q7_0_20_2_147_114, .inl (c0 0, 6, .inl (fun _ => 0))), (q15_1_20_3_147_115, .inl (c0 0, 6, .inl (fun _ => 0))), (q23_2_20_4_147_116, .inl (c0 0, 6, .inl (fun _ => 0))), (q29_5_147_117, .inl (c0 6, 8, .inr (.inr (.inr (.inr (va_up (va_up (va_up (va_up (va_up (va_up (va_up (va_up (fun _ => none) 0 (some q56_7_147_119)) 1 (some q56_8_147_120)) 2 (some q56_9_147_121)) 3 (some q56_10_147_122)) 4 (some q56_11_147_123)) 5 (some q56_12_147_124)) 6 (some q56_13_147_125)) 7 (some q56_14_147_126))))))), (q56_7_147_119, .inr (3, [.int 0, .int 0, .int 0, .int 0, .int 0, .int 0, .int 0, .int 0, .int 0, .int 0])), (q56_8_147_120, .inr (3, [.int 0, .int 0, .int 0, .int 0, .int 0, .int 0, .int 0, .int 0, .int 0, .int 0])), (q56_9_147_121, .inr (3, [.int 0, .int 0, .int 0, .int 0, .int 0, .int 0, .int 0, .int 0, .int 0, .int 0])), (q56_10_147_122, .inr (3, [.int 0, .int 0, .int 0, .int 0, .int 0, .int 0, .int 0, .int 0, .int 0, .int 0])), (q56_11_147_123, .inr (3, [.int 0, .int 0, .int 0, .int 0, .int 0, .int 0, .int 0, .int 0, .int 0, .int 0])), (q56_12_147_124, .inr (3, [.int 0, .int 0, .int 0, .int 0, .int 0, .int 0, .int 0, .int 0, .int 0, .int 0])), (q56_13_147_125, .inr (3, [.int 0, .int 0, .int 0, .int 0, .int 0, .int 0, .int 0, .int 0, .int 0, .int 0])), (q56_14_147_126, .inr (3, [.int 0, .int 0, .int 0, .int 0, .int 0, .int 0, .int 0, .int 0, .int 0, .int 0])), (q143_111, .inr (7, [.int 0, .int 0, .int 0, .int 0, .int 0, .long 0, .ref q5_0_147_112, .ref q16_1_147_113, .ref q29_5_147_117, .ref q38_6_147_118])), (q16_1_147_113, .inr (1, [.int 0, .ref q7_0_20_2_147_114, .ref q15_1_20_3_147_115, .ref q23_2_20_4_147_116])), (q38_6_147_118, .inl (c0 0, 64, .inl g_71_15_147_127)), (q5_0_147_112, .inr (0, [.int 0, .int 2, .int 0, .int 0, .int 0])), (q7_0_20_2_147_131, .inl (c0 0, 6, .inl (fun _ => 0))), (q15_1_20_3_147_132, .inl (c0 0, 6, .inl (fun _ => 0))), (q23_2_20_4_147_133, .inl (c0 0, 6, .inl (fun _ => 0))), (q29_5_147_134, .inl (c0 6, 8, .inr (.inr (.inr (.inr (va_up (va_up (va_up (va_up (va_up (va_up (va_up (va_up (fun _ => none) 0 (some q56_7_147_136)) 1 (some q56_8_147_137)) 2 (some q56_9_147_138)) 3 (some q56_10_147_139)) 4 (some q56_11_147_140)) 5 (some q56_12_147_141)) 6 (some q56_13_147_142)) 7 (some q56_14_147_143))))))), (q56_7_147_136, .inr (3, [.int 0, .int 0, .int 0, .int 0, .int 0, .int 0, .int 0, .int 0, .int 0, .int 0])), (q56_8_147_137, .inr (3, [.int 0, .int 0, .int 0, .int 0, .int 0, .int 0, .int 0, .int 0, .int 0, .int 0])), (q56_9_147_138, .inr (3, [.int 0, .int 0, .int 0, .int 0, .int 0, .int 0, .int 0, .int 0, .int 0, .int 0])), (q56_10_147_139, .inr (3, [.int 0, .int 0, .int 0, .int 0, .int 0, .int 0, .int 0, .int 0, .int 0, .int 0])), (q56_11_147_140, .inr (3, [.int 0, .int 0, .int 0, .int 0, .int 0, .int 0, .int 0, .int 0, .int 0, .int 0])), (q56_12_147_141, .inr (3, [.int 0, .int 0, .int 0, .int 0, .int 0, .int 0, .int 0, .int 0, .int 0, .int 0])), (q56_13_147_142, .inr (3, [.int 0, .int 0, .int 0, .int 0, .int 0, .int 0, .int 0, .int 0, .int 0, .int 0])), (q56_14_147_143, .inr (3, [.int 0, .int 0, .int 0, .int 0, .int 0, .int 0, .int 0, .int 0, .int 0, .int 0])), (q143_128, .inr (7, [.int 0, .int 0, .int 0, .int 0, .int 0, .long 0, .ref q5_0_147_129, .ref q16_1_147_130, .ref q29_5_147_134, .ref q38_6_147_135])), (q16_1_147_130, .inr (1, [.int 0, .ref q7_0_20_2_147_131, .ref q15_1_20_3_147_132, .ref q23_2_20_4_147_133])), (q38_6_147_135, .inl (c0 0, 64, .inl g_71_15_147_144)), (q5_0_147_129, .inr (0, [.int 0, .int 2, .int 0, .int 0, .int 0])), (q7_0_20_2_147_148, .inl (c0 0, 6, .inl (fun _ => 0))), (q15_1_20_3_147_149, .inl (c0 0, 6, .inl (fun _ => 0))), (q23_2_20_4_147_150, .inl (c0 0, 6, .inl (fun _ => 0))), (q29_5_147_151, .inl (c0 6, 8, .inr (.inr (.inr (.inr (va_up (va_up (va_up (va_up (va_up (va_up (va_up (va_up (fun _ => none) 0 (some q56_7_147_153)) 1 (some q56_8_147_154)) 2 (some q56_9_147_155)) 3 (some q56_10_147_156)) 4 (some q56_11_147_157)) 5 (some q56_12_147_158)) 6 (some q56_13_147_159)) 7 (some q56_14_147_160))))))), (q56_7_147_153, .inr (3, [.int 0, .int 0, .int 0, .int 0, .int 0, .int 0, .int 0, .int 0, .int 0, .int 0])), (q56_8_147_154, .inr (3, [.int 0, .int 0, .int 0, .int 0, .int 0, .int 0, .int 0, .int 0, .int 0, .int 0])), (q56_9_147_155, .inr (3, [.int 0, .int 0, .int 0, .int 0, .int 0, .int 0, .int 0, .int 0, .int 0, .int 0])), (q56_10_147_156, .inr (3, [.int 0, .int 0, .int 0, .int 0, .int 0, .int 0, .int 0, .int 0, .int 0, .int 0])), (q56_11_147_157, .inr (3, [.int 0, .int 0, .int 0, .int 0, .int 0, .int 0, .int 0, .int 0, .int 0, .int 0])), (q56_12_147_158, .inr (3, [.int 0, .int 0, .int 0, .int 0, .int 0, .int 0, .int 0, .int 0, .int 0, .int 0])), (q56_13_147_159, .inr (3, [.int 0, .int 0, .int 0, .int 0, .int 0, .int 0, .int 0, .int 0, .int 0, .int 0])), (q56_14_147_160, .inr (3, [.int 0, .int 0, .int 0, .int 0, .int 0, .int 0, .int 0, .int 0, .int 0, .int 0])), (q143_145, .inr (7, [.int 0, .int 0, .int 0, .int 0, .int 0, .long 0, .ref q5_0_147_146, .ref q16_1_147_147, .ref q29_5_147_151, .ref q38_6_147_152])), (q16_1_147_147, .inr (1, [.int 0, .ref q7_0_20_2_147_148, .ref q15_1_20_3_147_149, .ref q23_2_20_4_147_150])), (q38_6_147_152, .inl (c0 0, 64, .inl g_71_15_147_161)), (q5_0_147_146, .inr (0, [.int 0, .int 2, .int 0, .int 0, .int 0])), (q169_162, .inr (5, [.int 0, .int 0, .int 0, .ref q7_0_173_163])), (q7_0_173_163, .inl (c0 3, 60, .inr (.inl (fun _ => 0)))), (q169_164, .inr (5, [.int 0, .int 0, .int 0, .ref q7_0_173_165])), (q7_0_173_165, .inl (c0 3, 60, .inr (.inl (fun _ => 0)))), (q169_166, .inr (5, [.int 0, .int 0, .int 0, .ref q7_0_173_167])), (q7_0_173_167, .inl (c0 3, 60, .inr (.inl (fun _ => 0)))), (q169_168, .inr (5, [.int 0, .int 0, .int 0, .ref q7_0_173_169])), (q7_0_173_169, .inl (c0 3, 60, .inr (.inl (fun _ => 0))))] ro_six) H ∧ yl [(h0, .inr (9, [.ref q5_0, .ref q16_19, .ref q28_36, .ref q36_37, .ref q44_38, .ref q51_39, .ref q58_40, .ref q69_43, .ref q80_48, .ref q93_58, .ref q100_59])), (q5_0, .inr (6, [.ref q8_0_9_1, .int 0, .ref q14_1_9_2, .int 0, .int 0, .int 0, .int 0, .int 0, .int 0, .int 0, .int 0, .int (-1)])), (q8_0_9_1, .inl (c0 1, 1600, .inl (fun _ => 0))), (q7_0_20_2_18_4_9_5, .inl (c0 0, 6, .inl (fun _ => 0))), (q15_1_20_3_18_5_9_6, .inl (c0 0, 6, .inl (fun _ => 0))), (q23_2_20_4_18_6_9_7, .inl (c0 0, 6, .inl (fun _ => 0))), (q29_5_18_7_9_8, .inl (c0 6, 8, .inr (.inr (.inr (.inr (va_up (va_up (va_up (va_up (va_up (va_up (va_up (va_up (fun _ => none) 0 (some q56_7_18_9_9_10)) 1 (some q56_8_18_10_9_11)) 2 (some q56_9_18_11_9_12)) 3 (some q56_10_18_12_9_13)) 4 (some q56_11_18_13_9_14)) 5 (some q56_12_18_14_9_15)) 6 (some q56_13_18_15_9_16)) 7 (some q56_14_18_16_9_17))))))), (q56_7_18_9_9_10, .inr (3, [.int 0, .int 0, .int 0, .int 0, .int 0, .int 0, .int 0, .int 0, .int 0, .int 0])), (q56_8_18_10_9_11, .inr (3, [.int 0, .int 0, .int 0, .int 0, .int 0, .int 0, .int 0, .int 0, .int 0, .int 0])), (q56_9_18_11_9_12, .inr (3, [.int 0, .int 0, .int 0, .int 0, .int 0, .int 0, .int 0, .int 0, .int 0, .int 0])), (q56_10_18_12_9_13, .inr (3, [.int 0, .int 0, .int 0, .int 0, .int 0, .int 0, .int 0, .int 0, .int 0, .int 0])), (q56_11_18_13_9_14, .inr (3, [.int 0, .int 0, .int 0, .int 0, .int 0, .int 0, .int 0, .int 0, .int 0, .int 0])), (q56_12_18_14_9_15, .inr (3, [.int 0, .int 0, .int 0, .int 0, .int 0, .int 0, .int 0, .int 0, .int 0, .int 0])), (q56_13_18_15_9_16, .inr (3, [.int 0, .int 0, .int 0, .int 0, .int 0, .int 0, .int 0, .int 0, .int 0, .int 0])), (q56_14_18_16_9_17, .inr (3, [.int 0, .int 0, .int 0, .int 0, .int 0, .int 0, .int 0, .int 0, .int 0, .int 0])), (q14_1_9_2, .inr (7, [.int 0, .int 0, .int 0, .int 0, .int 0, .long 0, .ref q5_0_18_2_9_3, .ref q16_1_18_3_9_4, .ref q29_5_18_7_9_8, .ref q38_6_18_8_9_9])), (q16_1_18_3_9_4, .inr (1, [.int 0, .ref q7_0_20_2_18_4_9_5, .ref q15_1_20_3_18_5_9_6, .ref q23_2_20_4_18_6_9_7])), (q38_6_18_8_9_9, .inl (c0 0, 64, .inl g_71_15_18_17_9_18)), (q5_0_18_2_9_3, .inr (0, [.int 0, .int 2, .int 0, .int 0, .int 0])), (q7_0_20_2_20_22, .inl (c0 0, 6, .inl (fun _ => 0))), (q15_1_20_3_20_23, .inl (c0 0, 6, .inl (fun _ => 0))), (q23_2_20_4_20_24, .inl (c0 0, 6, .inl (fun _ => 0))), (q29_5_20_25, .inl (c0 6, 8, .inr (.inr (.inr (.inr (va_up (va_up (va_up (va_up (va_up (va_up (va_up (va_up (fun _ => none) 0 (some q56_7_20_27)) 1 (some q56_8_20_28)) 2 (some q56_9_20_29)) 3 (some q56_10_20_30)) 4 (some q56_11_20_31)) 5 (some q56_12_20_32)) 6 (some q56_13_20_33)) 7 (some q56_14_20_34))))))), (q56_7_20_27, .inr (3, [.int 0, .int 0, .int 0, .int 0, .int 0, .int 0, .int 0, .int 0, .int 0, .int 0])), (q56_8_20_28, .inr (3, [.int 0, .int 0, .int 0, .int 0, .int 0, .int 0, .int 0, .int 0, .int 0, .int 0])), (q56_9_20_29, .inr (3, [.int 0, .int 0, .int 0, .int 0, .int 0, .int 0, .int 0, .int 0, .int 0, .int 0])), (q56_10_20_30, .inr (3, [.int 0, .int 0, .int 0, .int 0, .int 0, .int 0, .int 0, .int 0, .int 0, .int 0])), (q56_11_20_31, .inr (3, [.int 0, .int 0, .int 0, .int 0, .int 0, .int 0, .int 0, .int 0, .int 0, .int 0])), (q56_12_20_32, .inr (3, [.int 0, .int 0, .int 0, .int 0, .int 0, .int 0, .int 0, .int 0, .int 0, .int 0])), (q56_13_20_33, .inr (3, [.int 0, .int 0, .int 0, .int 0, .int 0, .int 0, .int 0, .int 0, .int 0, .int 0])), (q56_14_20_34, .inr (3, [.int 0, .int 0, .int 0, .int 0, .int 0, .int 0, .int 0, .int 0, .int 0, .int 0])), (q16_19, .inr (7, [.int 0, .int 0, .int 0, .int 0, .int 0, .long 0, .ref q5_0_20_20, .ref q16_1_20_21, .ref q29_5_20_25, .ref q38_6_20_26])), (q16_1_20_21, .inr (1, [.int 0, .ref q7_0_20_2_20_22, .ref q15_1_20_3_20_23, .ref q23_2_20_4_20_24])), (q38_6_20_26, .inl (c0 0, 64, .inl g_71_15_20_35)), (q5_0_20_20, .inr (0, [.int 0, .int 2, .int 0, .int 0, .int 0])), (q36_37, .inl (c0 4, 3, .inr (.inr (.inr (.inr (va_up (va_up (va_up (fun _ => none) 0 (some q143_111)) 1 (some q143_128)) 2 (some q143_145))))))), (q44_38, .inl (c0 2, 3, .inl (fun _ => 0))), (q51_39, .inl (c0 5, 4, .inr (.inr (.inr (.inr (va_up (va_up (va_up (va_up (fun _ => none) 0 (some q169_162)) 1 (some q169_164)) 2 (some q169_166)) 3 (some q169_168))))))), (q7_0_20_2_147_114, .inl (c0 0, 6, .inl (fun _ => 0))), (q15_1_20_3_147_115, .inl (c0 0, 6, .inl (fun _ => 0))), (q23_2_20_4_147_116, .inl (c0 0, 6, .inl (fun _ => 0))), (q29_5_147_117, .inl (c0 6, 8, .inr (.inr (.inr (.inr (va_up (va_up (va_up (va_up (va_up (va_up (va_up (va_up (fun _ => none) 0 (some q56_7_147_119)) 1 (some q56_8_147_120)) 2 (some q56_9_147_121)) 3 (some q56_10_147_122)) 4 (some q56_11_147_123)) 5 (some q56_12_147_124)) 6 (some q56_13_147_125)) 7 (some q56_14_147_126))))))), (q56_7_147_119, .inr (3, [.int 0, .int 0, .int 0, .int 0, .int 0, .int 0, .int 0, .int 0, .int 0, .int 0])), (q56_8_147_120, .inr (3, [.int 0, .int 0, .int 0, .int 0, .int 0, .int 0, .int 0, .int 0, .int 0, .int 0])), (q56_9_147_121, .inr (3, [.int 0, .int 0, .int 0, .int 0, .int 0, .int 0, .int 0, .int 0, .int 0, .int 0])), (q56_10_147_122, .inr (3, [.int 0, .int 0, .int 0, .int 0, .int 0, .int 0, .int 0, .int 0, .int 0, .int 0])), (q56_11_147_123, .inr (3, [.int 0, .int 0, .int 0, .int 0, .int 0, .int 0, .int 0, .int 0, .int 0, .int 0])), (q56_12_147_124, .inr (3, [.int 0, .int 0, .int 0, .int 0, .int 0, .int 0, .int 0, .int 0, .int 0, .int 0])), (q56_13_147_125, .inr (3, [.int 0, .int 0, .int 0, .int 0, .int 0, .int 0, .int 0, .int 0, .int 0, .int 0])), (q56_14_147_126, .inr (3, [.int 0, .int 0, .int 0, .int 0, .int 0, .int 0, .int 0, .int 0, .int 0, .int 0])), (q143_111, .inr (7, [.int 0, .int 0, .int 0, .int 0, .int 0, .long 0, .ref q5_0_147_112, .ref q16_1_147_113, .ref q29_5_147_117, .ref q38_6_147_118])), (q16_1_147_113, .inr (1, [.int 0, .ref q7_0_20_2_147_114, .ref q15_1_20_3_147_115, .ref q23_2_20_4_147_116])), (q38_6_147_118, .inl (c0 0, 64, .inl g_71_15_147_127)), (q5_0_147_112, .inr (0, [.int 0, .int 2, .int 0, .int 0, .int 0])), (q7_0_20_2_147_131, .inl (c0 0, 6, .inl (fun _ => 0))), (q15_1_20_3_147_132, .inl (c0 0, 6, .inl (fun _ => 0))), (q23_2_20_4_147_133, .inl (c0 0, 6, .inl (fun _ => 0))), (q29_5_147_134, .inl (c0 6, 8, .inr (.inr (.inr (.inr (va_up (va_up (va_up (va_up (va_up (va_up (va_up (va_up (fun _ => none) 0 (some q56_7_147_136)) 1 (some q56_8_147_137)) 2 (some q56_9_147_138)) 3 (some q56_10_147_139)) 4 (some q56_11_147_140)) 5 (some q56_12_147_141)) 6 (some q56_13_147_142)) 7 (some q56_14_147_143))))))), (q56_7_147_136, .inr (3, [.int 0, .int 0, .int 0, .int 0, .int 0, .int 0, .int 0, .int 0, .int 0, .int 0])), (q56_8_147_137, .inr (3, [.int 0, .int 0, .int 0, .int 0, .int 0, .int 0, .int 0, .int 0, .int 0, .int 0])), (q56_9_147_138, .inr (3, [.int 0, .int 0, .int 0, .int 0, .int 0, .int 0, .int 0, .int 0, .int 0, .int 0])), (q56_10_147_139, .inr (3, [.int 0, .int 0, .int 0, .int 0, .int 0, .int 0, .int 0, .int 0, .int 0, .int 0])), (q56_11_147_140, .inr (3, [.int 0, .int 0, .int 0, .int 0, .int 0, .int 0, .int 0, .int 0, .int 0, .int 0])), (q56_12_147_141, .inr (3, [.int 0, .int 0, .int 0, .int 0, .int 0, .int 0, .int 0, .int 0, .int 0, .int 0])), (q56_13_147_142, .inr (3, [.int 0, .int 0, .int 0, .int 0, .int 0, .int 0, .int 0, .int 0, .int 0, .int 0])), (q56_14_147_143, .inr (3, [.int 0, .int 0, .int 0, .int 0, .int 0, .int 0, .int 0, .int 0, .int 0, .int 0])), (q143_128, .inr (7, [.int 0, .int 0, .int 0, .int 0, .int 0, .long 0, .ref q5_0_147_129, .ref q16_1_147_130, .ref q29_5_147_134, .ref q38_6_147_135])), (q16_1_147_130, .inr (1, [.int 0, .ref q7_0_20_2_147_131, .ref q15_1_20_3_147_132, .ref q23_2_20_4_147_133])), (q38_6_147_135, .inl (c0 0, 64, .inl g_71_15_147_144)), (q5_0_147_129, .inr (0, [.int 0, .int 2, .int 0, .int 0, .int 0])), (q7_0_20_2_147_148, .inl (c0 0, 6, .inl (fun _ => 0))), (q15_1_20_3_147_149, .inl (c0 0, 6, .inl (fun _ => 0))), (q23_2_20_4_147_150, .inl (c0 0, 6, .inl (fun _ => 0))), (q29_5_147_151, .inl (c0 6, 8, .inr (.inr (.inr (.inr (va_up (va_up (va_up (va_up (va_up (va_up (va_up (va_up (fun _ => none) 0 (some q56_7_147_153)) 1 (some q56_8_147_154)) 2 (some q56_9_147_155)) 3 (some q56_10_147_156)) 4 (some q56_11_147_157)) 5 (some q56_12_147_158)) 6 (some q56_13_147_159)) 7 (some q56_14_147_160))))))), (q56_7_147_153, .inr (3, [.int 0, .int 0, .int 0, .int 0, .int 0, .int 0, .int 0, .int 0, .int 0, .int 0])), (q56_8_147_154, .inr (3, [.int 0, .int 0, .int 0, .int 0, .int 0, .int 0, .int 0, .int 0, .int 0, .int 0])), (q56_9_147_155, .inr (3, [.int 0, .int 0, .int 0, .int 0, .int 0, .int 0, .int 0, .int 0, .int 0, .int 0])), (q56_10_147_156, .inr (3, [.int 0, .int 0, .int 0, .int 0, .int 0, .int 0, .int 0, .int 0, .int 0, .int 0])), (q56_11_147_157, .inr (3, [.int 0, .int 0, .int 0, .int 0, .int 0, .int 0, .int 0, .int 0, .int 0, .int 0])), (q56_12_147_158, .inr (3, [.int 0, .int 0, .int 0, .int 0, .int 0, .int 0, .int 0, .int 0, .int 0, .int 0])), (q56_13_147_159, .inr (3, [.int 0, .int 0, .int 0, .int 0, .int 0, .int 0, .int 0, .int 0, .int 0, .int 0])), (q56_14_147_160, .inr (3, [.int 0, .int 0, .int 0, .int 0, .int 0, .int 0, .int 0, .int 0, .int 0, .int 0])), (q143_145, .inr (7, [.int 0, .int 0, .int 0, .int 0, .int 0, .long 0, .ref q5_0_147_146, .ref q16_1_147_147, .ref q29_5_147_151, .ref q38_6_147_152])), (q16_1_147_147, .inr (1, [.int 0, .ref q7_0_20_2_147_148, .ref q15_1_20_3_147_149, .ref q23_2_20_4_147_150])), (q38_6_147_152, .inl (c0 0, 64, .inl g_71_15_147_161)), (q5_0_147_146, .inr (0, [.int 0, .int 2, .int 0, .int 0, .int 0])), (q169_162, .inr (5, [.int 0, .int 0, .int 0, .ref q7_0_173_163])), (q7_0_173_163, .inl (c0 3, 60, .inr (.inl (fun _ => 0)))), (q169_164, .inr (5, [.int 0, .int 0, .int 0, .ref q7_0_173_165])), (q7_0_173_165, .inl (c0 3, 60, .inr (.inl (fun _ => 0)))), (q169_166, .inr (5, [.int 0, .int 0, .int 0, .ref q7_0_173_167])), (q7_0_173_167, .inl (c0 3, 60, .inr (.inl (fun _ => 0)))), (q169_168, .inr (5, [.int 0, .int 0, .int 0, .ref q7_0_173_169])), (q7_0_173_169, .inl (c0 3, 60, .inr (.inl (fun _ => 0))))] ro_six h0 = some 9 ∧ ∀ q, pA (yl [(h0, .inr (9, [.ref q5_0, .ref q16_19, .ref q28_36, .ref q36_37, .ref q44_38, .ref q51_39, .ref q58_40, .ref q69_43, .ref q80_48, .ref q93_58, .ref q100_59])), (q5_0, .inr (6, [.ref q8_0_9_1, .int 0, .ref q14_1_9_2, .int 0, .int 0, .int 0, .int 0, .int 0, .int 0, .int 0, .int 0, .int (-1)])), (q8_0_9_1, .inl (c0 1, 1600, .inl (fun _ => 0))), (q7_0_20_2_18_4_9_5, .inl (c0 0, 6, .inl (fun _ => 0))), (q15_1_20_3_18_5_9_6, .inl (c0 0, 6, .inl (fun _ => 0))), (q23_2_20_4_18_6_9_7, .inl (c0 0, 6, .inl (fun _ => 0))), (q29_5_18_7_9_8, .inl (c0 6, 8, .inr (.inr (.inr (.inr (va_up (va_up (va_up (va_up (va_up (va_up (va_up (va_up (fun _ => none) 0 (some q56_7_18_9_9_10)) 1 (some q56_8_18_10_9_11)) 2 (some q56_9_18_11_9_12)) 3 (some q56_10_18_12_9_13)) 4 (some q56_11_18_13_9_14)) 5 (some q56_12_18_14_9_15)) 6 (some q56_13_18_15_9_16)) 7 (some q56_14_18_16_9_17))))))), (q56_7_18_9_9_10, .inr (3, [.int 0, .int 0, .int 0, .int 0, .int 0, .int 0, .int 0, .int 0, .int 0, .int 0])), (q56_8_18_10_9_11, .inr (3, [.int 0, .int 0, .int 0, .int 0, .int 0, .int 0, .int 0, .int 0, .int 0, .int 0])), (q56_9_18_11_9_12, .inr (3, [.int 0, .int 0, .int 0, .int 0, .int 0, .int 0, .int 0, .int 0, .int 0, .int 0])), (q56_10_18_12_9_13, .inr (3, [.int 0, .int 0, .int 0, .int 0, .int 0, .int 0, .int 0, .int 0, .int 0, .int 0])), (q56_11_18_13_9_14, .inr (3, [.int 0, .int 0, .int 0, .int 0, .int 0, .int 0, .int 0, .int 0, .int 0, .int 0])), (q56_12_18_14_9_15, .inr (3, [.int 0, .int 0, .int 0, .int 0, .int 0, .int 0, .int 0, .int 0, .int 0, .int 0])), (q56_13_18_15_9_16, .inr (3, [.int 0, .int 0, .int 0, .int 0, .int 0, .int 0, .int 0, .int 0, .int 0, .int 0])), (q56_14_18_16_9_17, .inr (3, [.int 0, .int 0, .int 0, .int 0, .int 0, .int 0, .int 0, .int 0, .int 0, .int 0])), (q14_1_9_2, .inr (7, [.int 0, .int 0, .int 0, .int 0, .int 0, .long 0, .ref q5_0_18_2_9_3, .ref q16_1_18_3_9_4, .ref q29_5_18_7_9_8, .ref q38_6_18_8_9_9])), (q16_1_18_3_9_4, .inr (1, [.int 0, .ref q7_0_20_2_18_4_9_5, .ref q15_1_20_3_18_5_9_6, .ref q23_2_20_4_18_6_9_7])), (q38_6_18_8_9_9, .inl (c0 0, 64, .inl g_71_15_18_17_9_18)), (q5_0_18_2_9_3, .inr (0, [.int 0, .int 2, .int 0, .int 0, .int 0])), (q7_0_20_2_20_22, .inl (c0 0, 6, .inl (fun _ => 0))), (q15_1_20_3_20_23, .inl (c0 0, 6, .inl (fun _ => 0))), (q23_2_20_4_20_24, .inl (c0 0, 6, .inl (fun _ => 0))), (q29_5_20_25, .inl (c0 6, 8, .inr (.inr (.inr (.inr (va_up (va_up (va_up (va_up (va_up (va_up (va_up (va_up (fun _ => none) 0 (some q56_7_20_27)) 1 (some q56_8_20_28)) 2 (some q56_9_20_29)) 3 (some q56_10_20_30)) 4 (some q56_11_20_31)) 5 (some q56_12_20_32)) 6 (some q56_13_20_33)) 7 (some q56_14_20_34))))))), (q56_7_20_27, .inr (3, [.int 0, .int 0, .int 0, .int 0, .int 0, .int 0, .int 0, .int 0, .int 0, .int 0])), (q56_8_20_28, .inr (3, [.int 0, .int 0, .int 0, .int 0, .int 0, .int 0, .int 0, .int 0, .int 0, .int 0])), (q56_9_20_29, .inr (3, [.int 0, .int 0, .int 0, .int 0, .int 0, .int 0, .int 0, .int 0, .int 0, .int 0])), (q56_10_20_30, .inr (3, [.int 0, .int 0, .int 0, .int 0, .int 0, .int 0, .int 0, .int 0, .int 0, .int 0])), (q56_11_20_31, .inr (3, [.int 0, .int 0, .int 0, .int 0, .int 0, .int 0, .int 0, .int 0, .int 0, .int 0])), (q56_12_20_32, .inr (3, [.int 0, .int 0, .int 0, .int 0, .int 0, .int 0, .int 0, .int 0, .int 0, .int 0])), (q56_13_20_33, .inr (3, [.int 0, .int 0, .int 0, .int 0, .int 0, .int 0, .int 0, .int 0, .int 0, .int 0])), (q56_14_20_34, .inr (3, [.int 0, .int 0, .int 0, .int 0, .int 0, .int 0, .int 0, .int 0, .int 0, .int 0])), (q16_19, .inr (7, [.int 0, .int 0, .int 0, .int 0, .int 0, .long 0, .ref q5_0_20_20, .ref q16_1_20_21, .ref q29_5_20_25, .ref q38_6_20_26])), (q16_1_20_21, .inr (1, [.int 0, .ref q7_0_20_2_20_22, .ref q15_1_20_3_20_23, .ref q23_2_20_4_20_24])), (q38_6_20_26, .inl (c0 0, 64, .inl g_71_15_20_35)), (q5_0_20_20, .inr (0, [.int 0, .int 2, .int 0, .int 0, .int 0])), (q36_37, .inl (c0 4, 3, .inr (.inr (.inr (.inr (va_up (va_up (va_up (fun _ => none) 0 (some q143_111)) 1 (some q143_128)) 2 (some q143_145))))))), (q44_38, .inl (c0 2, 3, .inl (fun _ => 0))), (q51_39, .inl (c0 5, 4, .inr (.inr (.inr (.inr (va_up (va_up (va_up (va_up (fun _ => none) 0 (some q169_162)) 1 (some q169_164)) 2 (some q169_166)) 3 (some q169_168))))))), (q7_0_20_2_147_114, .inl (c0 0, 6, .inl (fun _ => 0))), (q15_1_20_3_147_115, .inl (c0 0, 6, .inl (fun _ => 0))), (q23_2_20_4_147_116, .inl (c0 0, 6, .inl (fun _ => 0))), (q29_5_147_117, .inl (c0 6, 8, .inr (.inr (.inr (.inr (va_up (va_up (va_up (va_up (va_up (va_up (va_up (va_up (fun _ => none) 0 (some q56_7_147_119)) 1 (some q56_8_147_120)) 2 (some q56_9_147_121)) 3 (some q56_10_147_122)) 4 (some q56_11_147_123)) 5 (some q56_12_147_124)) 6 (some q56_13_147_125)) 7 (some q56_14_147_126))))))), (q56_7_147_119, .inr (3, [.int 0, .int 0, .int 0, .int 0, .int 0, .int 0, .int 0, .int 0, .int 0, .int 0])), (q56_8_147_120, .inr (3, [.int 0, .int 0, .int 0, .int 0, .int 0, .int 0, .int 0, .int 0, .int 0, .int 0])), (q56_9_147_121, .inr (3, [.int 0, .int 0, .int 0, .int 0, .int 0, .int 0, .int 0, .int 0, .int 0, .int 0])), (q56_10_147_122, .inr (3, [.int 0, .int 0, .int 0, .int 0, .int 0, .int 0, .int 0, .int 0, .int 0, .int 0])), (q56_11_147_123, .inr (3, [.int 0, .int 0, .int 0, .int 0, .int 0, .int 0, .int 0, .int 0, .int 0, .int 0])), (q56_12_147_124, .inr (3, [.int 0, .int 0, .int 0, .int 0, .int 0, .int 0, .int 0, .int 0, .int 0, .int 0])), (q56_13_147_125, .inr (3, [.int 0, .int 0, .int 0, .int 0, .int 0, .int 0, .int 0, .int 0, .int 0, .int 0])), (q56_14_147_126, .inr (3, [.int 0, .int 0, .int 0, .int 0, .int 0, .int 0, .int 0, .int 0, .int 0, .int 0])), (q143_111, .inr (7, [.int 0, .int 0, .int 0, .int 0, .int 0, .long 0, .ref q5_0_147_112, .ref q16_1_147_113, .ref q29_5_147_117, .ref q38_6_147_118])), (q16_1_147_113, .inr (1, [.int 0, .ref q7_0_20_2_147_114, .ref q15_1_20_3_147_115, .ref q23_2_20_4_147_116])), (q38_6_147_118, .inl (c0 0, 64, .inl g_71_15_147_127)), (q5_0_147_112, .inr (0, [.int 0, .int 2, .int 0, .int 0, .int 0])), (q7_0_20_2_147_131, .inl (c0 0, 6, .inl (fun _ => 0))), (q15_1_20_3_147_132, .inl (c0 0, 6, .inl (fun _ => 0))), (q23_2_20_4_147_133, .inl (c0 0, 6, .inl (fun _ => 0))), (q29_5_147_134, .inl (c0 6, 8, .inr (.inr (.inr (.inr (va_up (va_up (va_up (va_up (va_up (va_up (va_up (va_up (fun _ => none) 0 (some q56_7_147_136)) 1 (some q56_8_147_137)) 2 (some q56_9_147_138)) 3 (some q56_10_147_139)) 4 (some q56_11_147_140)) 5 (some q56_12_147_141)) 6 (some q56_13_147_142)) 7 (some q56_14_147_143))))))), (q56_7_147_136, .inr (3, [.int 0, .int 0, .int 0, .int 0, .int 0, .int 0, .int 0, .int 0, .int 0, .int 0])), (q56_8_147_137, .inr (3, [.int 0, .int 0, .int 0, .int 0, .int 0, .int 0, .int 0, .int 0, .int 0, .int 0])), (q56_9_147_138, .inr (3, [.int 0, .int 0, .int 0, .int 0, .int 0, .int 0, .int 0, .int 0, .int 0, .int 0])), (q56_10_147_139, .inr (3, [.int 0, .int 0, .int 0, .int 0, .int 0, .int 0, .int 0, .int 0, .int 0, .int 0])), (q56_11_147_140, .inr (3, [.int 0, .int 0, .int 0, .int 0, .int 0, .int 0, .int 0, .int 0, .int 0, .int 0])), (q56_12_147_141, .inr (3, [.int 0, .int 0, .int 0, .int 0, .int 0, .int 0, .int 0, .int 0, .int 0, .int 0])), (q56_13_147_142, .inr (3, [.int 0, .int 0, .int 0, .int 0, .int 0, .int 0, .int 0, .int 0, .int 0, .int 0])), (q56_14_147_143, .inr (3, [.int 0, .int 0, .int 0, .int 0, .int 0, .int 0, .int 0, .int 0, .int 0, .int 0])), (q143_128, .inr (7, [.int 0, .int 0, .int 0, .int 0, .int 0, .long 0, .ref q5_0_147_129, .ref q16_1_147_130, .ref q29_5_147_134, .ref q38_6_147_135])), (q16_1_147_130, .inr (1, [.int 0, .ref q7_0_20_2_147_131, .ref q15_1_20_3_147_132, .ref q23_2_20_4_147_133])), (q38_6_147_135, .inl (c0 0, 64, .inl g_71_15_147_144)), (q5_0_147_129, .inr (0, [.int 0, .int 2, .int 0, .int 0, .int 0])), (q7_0_20_2_147_148, .inl (c0 0, 6, .inl (fun _ => 0))), (q15_1_20_3_147_149, .inl (c0 0, 6, .inl (fun _ => 0))), (q23_2_20_4_147_150, .inl (c0 0, 6, .inl (fun _ => 0))), (q29_5_147_151, .inl (c0 6, 8, .inr (.inr (.inr (.inr (va_up (va_up (va_up (va_up (va_up (va_up (va_up (va_up (fun _ => none) 0 (some q56_7_147_153)) 1 (some q56_8_147_154)) 2 (some q56_9_147_155)) 3 (some q56_10_147_156)) 4 (some q56_11_147_157)) 5 (some q56_12_147_158)) 6 (some q56_13_147_159)) 7 (some q56_14_147_160))))))), (q56_7_147_153, .inr (3, [.int 0, .int 0, .int 0, .int 0, .int 0, .int 0, .int 0, .int 0, .int 0, .int 0])), (q56_8_147_154, .inr (3, [.int 0, .int 0, .int 0, .int 0, .int 0, .int 0, .int 0, .int 0, .int 0, .int 0])), (q56_9_147_155, .inr (3, [.int 0, .int 0, .int 0, .int 0, .int 0, .int 0, .int 0, .int 0, .int 0, .int 0])), (q56_10_147_156, .inr (3, [.int 0, .int 0, .int 0, .int 0, .int 0, .int 0, .int 0, .int 0, .int 0, .int 0])), (q56_11_147_157, .inr (3, [.int 0, .int 0, .int 0, .int 0, .int 0, .int 0, .int 0, .int 0, .int 0, .int 0])), (q56_12_147_158, .inr (3, [.int 0, .int 0, .int 0, .int 0, .int 0, .int 0, .int 0, .int 0, .int 0, .int 0])), (q56_13_147_159, .inr (3, [.int 0, .int 0, .int 0, .int 0, .int 0, .int 0, .int 0, .int 0, .int 0, .int 0])), (q56_14_147_160, .inr (3, [.int 0, .int 0, .int 0, .int 0, .int 0, .int 0, .int 0, .int 0, .int 0, .int 0])), (q143_145, .inr (7, [.int 0, .int 0, .int 0, .int 0, .int 0, .long 0, .ref q5_0_147_146, .ref q16_1_147_147, .ref q29_5_147_151, .ref q38_6_147_152])), (q16_1_147_147, .inr (1, [.int 0, .ref q7_0_20_2_147_148, .ref q15_1_20_3_147_149, .ref q23_2_20_4_147_150])), (q38_6_147_152, .inl (c0 0, 64, .inl g_71_15_147_161)), (q5_0_147_146, .inr (0, [.int 0, .int 2, .int 0, .int 0, .int 0])), (q169_162, .inr (5, [.int 0, .int 0, .int 0, .ref q7_0_173_163])), (q7_0_173_163, .inl (c0 3, 60, .inr (.inl (fun _ => 0)))), (q169_164, .inr (5, [.int 0, .int 0, .int 0, .ref q7_0_173_165])), (q7_0_173_165, .inl (c0 3, 60, .inr (.inl (fun _ => 0)))), (q169_166, .inr (5, [.int 0, .int 0, .int 0, .ref q7_0_173_167])), (q7_0_173_167, .inl (c0 3, 60, .inr (.inl (fun _ => 0)))), (q169_168, .inr (5, [.int 0, .int 0, .int 0, .ref q7_0_173_169])), (q7_0_173_169, .inl (c0 3, 60, .inr (.inl (fun _ => 0))))] ro_six) q → A q := by
  refine ⟨yl_TI (yl_all (P := fun q r => ti_c D vwCl (tysOf c0) (yl [(h0, .inr (9, [.ref q5_0, .ref q16_19, .ref q28_36, .ref q36_37, .ref q44_38, .ref q51_39, .ref q58_40, .ref q69_43, .ref q80_48, .ref q93_58, .ref q100_59])), (q5_0, .inr (6, [.ref q8_0_9_1, .int 0, .ref q14_1_9_2, .int 0, .int 0, .int 0, .int 0, .int 0, .int 0, .int 0, .int 0, .int (-1)])), (q8_0_9_1, .inl (c0 1, 1600, .inl (fun _ => 0))), (q7_0_20_2_18_4_9_5, .inl (c0 0, 6, .inl (fun _ => 0))), (q15_1_20_3_18_5_9_6, .inl (c0 0, 6, .inl (fun _ => 0))), (q23_2_20_4_18_6_9_7, .inl (c0 0, 6, .inl (fun _ => 0))), (q29_5_18_7_9_8, .inl (c0 6, 8, .inr (.inr (.inr (.inr (va_up (va_up (va_up (va_up (va_up (va_up (va_up (va_up (fun _ => none) 0 (some q56_7_18_9_9_10)) 1 (some q56_8_18_10_9_11)) 2 (some q56_9_18_11_9_12)) 3 (some q56_10_18_12_9_13)) 4 (some q56_11_18_13_9_14)) 5 (some q56_12_18_14_9_15)) 6 (some q56_13_18_15_9_16)) 7 (some q56_14_18_16_9_17))))))), (q56_7_18_9_9_10, .inr (3, [.int 0, .int 0, .int 0, .int 0, .int 0, .int 0, .int 0, .int 0, .int 0, .int 0])), (q56_8_18_10_9_11, .inr (3, [.int 0, .int 0, .int 0, .int 0, .int 0, .int 0, .int 0, .int 0, .int 0, .int 0])), (q56_9_18_11_9_12, .inr (3, [.int 0, .int 0, .int 0, .int 0, .int 0, .int 0, .int 0, .int 0, .int 0, .int 0])), (q56_10_18_12_9_13, .inr (3, [.int 0, .int 0, .int 0, .int 0, .int 0, .int 0, .int 0, .int 0, .int 0, .int 0])), (q56_11_18_13_9_14, .inr (3, [.int 0, .int 0, .int 0, .int 0, .int 0, .int 0, .int 0, .int 0, .int 0, .int 0])), (q56_12_18_14_9_15, .inr (3, [.int 0, .int 0, .int 0, .int 0, .int 0, .int 0, .int 0, .int 0, .int 0, .int 0])), (q56_13_18_15_9_16, .inr (3, [.int 0, .int 0, .int 0, .int 0, .int 0, .int 0, .int 0, .int 0, .int 0, .int 0])), (q56_14_18_16_9_17, .inr (3, [.int 0, .int 0, .int 0, .int 0, .int 0, .int 0, .int 0, .int 0, .int 0, .int 0])), (q14_1_9_2, .inr (7, [.int 0, .int 0, .int 0, .int 0, .int 0, .long 0, .ref q5_0_18_2_9_3, .ref q16_1_18_3_9_4, .ref q29_5_18_7_9_8, .ref q38_6_18_8_9_9])), (q16_1_18_3_9_4, .inr (1, [.int 0, .ref q7_0_20_2_18_4_9_5, .ref q15_1_20_3_18_5_9_6, .ref q23_2_20_4_18_6_9_7])), (q38_6_18_8_9_9, .inl (c0 0, 64, .inl g_71_15_18_17_9_18)), (q5_0_18_2_9_3, .inr (0, [.int 0, .int 2, .int 0, .int 0, .int 0])), (q7_0_20_2_20_22, .inl (c0 0, 6, .inl (fun _ => 0))), (q15_1_20_3_20_23, .inl (c0 0, 6, .inl (fun _ => 0))), (q23_2_20_4_20_24, .inl (c0 0, 6, .inl (fun _ => 0))), (q29_5_20_25, .inl (c0 6, 8, .inr (.inr (.inr (.inr (va_up (va_up (va_up (va_up (va_up (va_up (va_up (va_up (fun _ => none) 0 (some q56_7_20_27)) 1 (some q56_8_20_28)) 2 (some q56_9_20_29)) 3 (some q56_10_20_30)) 4 (some q56_11_20_31)) 5 (some q56_12_20_32)) 6 (some q56_13_20_33)) 7 (some q56_14_20_34))))))), (q56_7_20_27, .inr (3, [.int 0, .int 0, .int 0, .int 0, .int 0, .int 0, .int 0, .int 0, .int 0, .int 0])), (q56_8_20_28, .inr (3, [.int 0, .int 0, .int 0, .int 0, .int 0, .int 0, .int 0, .int 0, .int 0, .int 0])), (q56_9_20_29, .inr (3, [.int 0, .int 0, .int 0, .int 0, .int 0, .int 0, .int 0, .int 0, .int 0, .int 0])), (q56_10_20_30, .inr (3, [.int 0, .int 0, .int 0, .int 0, .int 0, .int 0, .int 0, .int 0, .int 0, .int 0])), (q56_11_20_31, .inr (3, [.int 0, .int 0, .int 0, .int 0, .int 0, .int 0, .int 0, .int 0, .int 0, .int 0])), (q56_12_20_32, .inr (3, [.int 0, .int 0, .int 0, .int 0, .int 0, .int 0, .int 0, .int 0, .int 0, .int 0])), (q56_13_20_33, .inr (3, [.int 0, .int 0, .int 0, .int 0, .int 0, .int 0, .int 0, .int 0, .int 0, .int 0])), (q56_14_20_34, .inr (3, [.int 0, .int 0, .int 0, .int 0, .int 0, .int 0, .int 0, .int 0, .int 0, .int 0])), (q16_19, .inr (7, [.int 0, .int 0, .int 0, .int 0, .int 0, .long 0, .ref q5_0_20_20, .ref q16_1_20_21, .ref q29_5_20_25, .ref q38_6_20_26])), (q16_1_20_21, .inr (1, [.int 0, .ref q7_0_20_2_20_22, .ref q15_1_20_3_20_23, .ref q23_2_20_4_20_24])), (q38_6_20_26, .inl (c0 0, 64, .inl g_71_15_20_35)), (q5_0_20_20, .inr (0, [.int 0, .int 2, .int 0, .int 0, .int 0])), (q36_37, .inl (c0 4, 3, .inr (.inr (.inr (.inr (va_up (va_up (va_up (fun _ => none) 0 (some q143_111)) 1 (some q143_128)) 2 (some q143_145))))))), (q44_38, .inl (c0 2, 3, .inl (fun _ => 0))), (q51_39, .inl (c0 5, 4, .inr (.inr (.inr (.inr (va_up (va_up (va_up (va_up (fun _ => none) 0 (some q169_162)) 1 (some q169_164)) 2 (some q169_166)) 3 (some q169_168))))))), (q7_0_20_2_147_114, .inl (c0 0, 6, .inl (fun _ => 0))), (q15_1_20_3_147_115, .inl (c0 0, 6, .inl (fun _ => 0))), (q23_2_20_4_147_116, .inl (c0 0, 6, .inl (fun _ => 0))), (q29_5_147_117, .inl (c0 6, 8, .inr (.inr (.inr (.inr (va_up (va_up (va_up (va_up (va_up (va_up (va_up (va_up (fun _ => none) 0 (some q56_7_147_119)) 1 (some q56_8_147_120)) 2 (some q56_9_147_121)) 3 (some q56_10_147_122)) 4 (some q56_11_147_123)) 5 (some q56_12_147_124)) 6 (some q56_13_147_125)) 7 (some q56_14_147_126))))))), (q56_7_147_119, .inr (3, [.int 0, .int 0, .int 0, .int 0, .int 0, .int 0, .int 0, .int 0, .int 0, .int 0])), (q56_8_147_120, .inr (3, [.int 0, .int 0, .int 0, .int 0, .int 0, .int 0, .int 0, .int 0, .int 0, .int 0])), (q56_9_147_121, .inr (3, [.int 0, .int 0, .int 0, .int 0, .int 0, .int 0, .int 0, .int 0, .int 0, .int 0])), (q56_10_147_122, .inr (3, [.int 0, .int 0, .int 0, .int 0, .int 0, .int 0, .int 0, .int 0, .int 0, .int 0])), (q56_11_147_123, .inr (3, [.int 0, .int 0, .int 0, .int 0, .int 0, .int 0, .int 0, .int 0, .int 0, .int 0])), (q56_12_147_124, .inr (3, [.int 0, .int 0, .int 0, .int 0, .int 0, .int 0, .int 0, .int 0, .int 0, .int 0])), (q56_13_147_125, .inr (3, [.int 0, .int 0, .int 0, .int 0, .int 0, .int 0, .int 0, .int 0, .int 0, .int 0])), (q56_14_147_126, .inr (3, [.int 0, .int 0, .int 0, .int 0, .int 0, .int 0, .int 0, .int 0, .int 0, .int 0])), (q143_111, .inr (7, [.int 0, .int 0, .int 0, .int 0, .int 0, .long 0, .ref q5_0_147_112, .ref q16_1_147_113, .ref q29_5_147_117, .ref q38_6_147_118])), (q16_1_147_113, .inr (1, [.int 0, .ref q7_0_20_2_147_114, .ref q15_1_20_3_147_115, .ref q23_2_20_4_147_116])), (q38_6_147_118, .inl (c0 0, 64, .inl g_71_15_147_127)), (q5_0_147_112, .inr (0, [.int 0, .int 2, .int 0, .int 0, .int 0])), (q7_0_20_2_147_131, .inl (c0 0, 6, .inl (fun _ => 0))), (q15_1_20_3_147_132, .inl (c0 0, 6, .inl (fun _ => 0))), (q23_2_20_4_147_133, .inl (c0 0, 6, .inl (fun _ => 0))), (q29_5_147_134, .inl (c0 6, 8, .inr (.inr (.inr (.inr (va_up (va_up (va_up (va_up (va_up (va_up (va_up (va_up (fun _ => none) 0 (some q56_7_147_136)) 1 (some q56_8_147_137)) 2 (some q56_9_147_138)) 3 (some q56_10_147_139)) 4 (some q56_11_147_140)) 5 (some q56_12_147_141)) 6 (some q56_13_147_142)) 7 (some q56_14_147_143))))))), (q56_7_147_136, .inr (3, [.int 0, .int 0, .int 0, .int 0, .int 0, .int 0, .int 0, .int 0, .int 0, .int 0])), (q56_8_147_137, .inr (3, [.int 0, .int 0, .int 0, .int 0, .int 0, .int 0, .int 0, .int 0, .int 0, .int 0])), (q56_9_147_138, .inr (3, [.int 0, .int 0, .int 0, .int 0, .int 0, .int 0, .int 0, .int 0, .int 0, .int 0])), (q56_10_147_139, .inr (3, [.int 0, .int 0, .int 0, .int 0, .int 0, .int 0, .int 0, .int 0, .int 0, .int 0])), (q56_11_147_140, .inr (3, [.int 0, .int 0, .int 0, .int 0, .int 0, .int 0, .int 0, .int 0, .int 0, .int 0])), (q56_12_147_141, .inr (3, [.int 0, .int 0, .int 0, .int 0, .int 0, .int 0, .int 0, .int 0, .int 0, .int 0])), (q56_13_147_142, .inr (3, [.int 0, .int 0, .int 0, .int 0, .int 0, .int 0, .int 0, .int 0, .int 0, .int 0])), (q56_14_147_143, .inr (3, [.int 0, .int 0, .int 0, .int 0, .int 0, .int 0, .int 0, .int 0, .int 0, .int 0])), (q143_128, .inr (7, [.int 0, .int 0, .int 0, .int 0, .int 0, .long 0, .ref q5_0_147_129, .ref q16_1_147_130, .ref q29_5_147_134, .ref q38_6_147_135])), (q16_1_147_130, .inr (1, [.int 0, .ref q7_0_20_2_147_131, .ref q15_1_20_3_147_132, .ref q23_2_20_4_147_133])), (q38_6_147_135, .inl (c0 0, 64, .inl g_71_15_147_144)), (q5_0_147_129, .inr (0, [.int 0, .int 2, .int 0, .int 0, .int 0])), (q7_0_20_2_147_148, .inl (c0 0, 6, .inl (fun _ => 0))), (q15_1_20_3_147_149, .inl (c0 0, 6, .inl (fun _ => 0))), (q23_2_20_4_147_150, .inl (c0 0, 6, .inl (fun _ => 0))), (q29_5_147_151, .inl (c0 6, 8, .inr (.inr (.inr (.inr (va_up (va_up (va_up (va_up (va_up (va_up (va_up (va_up (fun _ => none) 0 (some q56_7_147_153)) 1 (some q56_8_147_154)) 2 (some q56_9_147_155)) 3 (some q56_10_147_156)) 4 (some q56_11_147_157)) 5 (some q56_12_147_158)) 6 (some q56_13_147_159)) 7 (some q56_14_147_160))))))), (q56_7_147_153, .inr (3, [.int 0, .int 0, .int 0, .int 0, .int 0, .int 0, .int 0, .int 0, .int 0, .int 0])), (q56_8_147_154, .inr (3, [.int 0, .int 0, .int 0, .int 0, .int 0, .int 0, .int 0, .int 0, .int 0, .int 0])), (q56_9_147_155, .inr (3, [.int 0, .int 0, .int 0, .int 0, .int 0, .int 0, .int 0, .int 0, .int 0, .int 0])), (q56_10_147_156, .inr (3, [.int 0, .int 0, .int 0, .int 0, .int 0, .int 0, .int 0, .int 0, .int 0, .int 0])), (q56_11_147_157, .inr (3, [.int 0, .int 0, .int 0, .int 0, .int 0, .int 0, .int 0, .int 0, .int 0, .int 0])), (q56_12_147_158, .inr (3, [.int 0, .int 0, .int 0, .int 0, .int 0, .int 0, .int 0, .int 0, .int 0, .int 0])), (q56_13_147_159, .inr (3, [.int 0, .int 0, .int 0, .int 0, .int 0, .int 0, .int 0, .int 0, .int 0, .int 0])), (q56_14_147_160, .inr (3, [.int 0, .int 0, .int 0, .int 0, .int 0, .int 0, .int 0, .int 0, .int 0, .int 0])), (q143_145, .inr (7, [.int 0, .int 0, .int 0, .int 0, .int 0, .long 0, .ref q5_0_147_146, .ref q16_1_147_147, .ref q29_5_147_151, .ref q38_6_147_152])), (q16_1_147_147, .inr (1, [.int 0, .ref q7_0_20_2_147_148, .ref q15_1_20_3_147_149, .ref q23_2_20_4_147_150])), (q38_6_147_152, .inl (c0 0, 64, .inl g_71_15_147_161)), (q5_0_147_146, .inr (0, [.int 0, .int 2, .int 0, .int 0, .int 0])), (q169_162, .inr (5, [.int 0, .int 0, .int 0, .ref q7_0_173_163])), (q7_0_173_163, .inl (c0 3, 60, .inr (.inl (fun _ => 0)))), (q169_164, .inr (5, [.int 0, .int 0, .int 0, .ref q7_0_173_165])), (q7_0_173_165, .inl (c0 3, 60, .inr (.inl (fun _ => 0)))), (q169_166, .inr (5, [.int 0, .int 0, .int 0, .ref q7_0_173_167])), (q7_0_173_167, .inl (c0 3, 60, .inr (.inl (fun _ => 0)))), (q169_168, .inr (5, [.int 0, .int 0, .int 0, .ref q7_0_173_169])), (q7_0_173_169, .inl (c0 3, 60, .inr (.inl (fun _ => 0))))] ro_six) (RT1 false r) q H) _ _ ?_), yl_get hD 0 rfl rfl, fun q h => ?_⟩
  · refine List.forall_mem_cons.mpr ⟨⟨_, hP 0 _ rfl, rfl, fun k t hk => match k, hk with
      | 0, h => by cases h; exact ⟨_, rfl, ⟨q5_0, rfl, yl_get hD 1 rfl rfl⟩⟩
      | 1, h => by cases h; exact ⟨_, rfl, ⟨q16_19, rfl, yl_get hD 31 rfl rfl⟩⟩
      | 2, h => by cases h; exact ⟨_, rfl, trivial⟩
      | 3, h => by cases h; exact ⟨_, rfl, ⟨q36_37, rfl, yl_get hD 35 rfl rfl⟩⟩
      | 4, h => by cases h; exact ⟨_, rfl, ⟨q44_38, rfl, yl_get hD 36 rfl rfl⟩⟩
      | 5, h => by cases h; exact ⟨_, rfl, ⟨q51_39, rfl, yl_get hD 37 rfl rfl⟩⟩
      | 6, h => by cases h; exact ⟨_, rfl, trivial⟩
      | 7, h => by cases h; exact ⟨_, rfl, trivial⟩
      | 8, h => by cases h; exact ⟨_, rfl, trivial⟩
      | 9, h => by cases h; exact ⟨_, rfl, trivial⟩
      | 10, h => by cases h; exact ⟨_, rfl, trivial⟩
      | k + 11, h => by simp [RT1] at h⟩, ?_⟩
    refine List.forall_mem_cons.mpr ⟨⟨_, hP 1 _ rfl, rfl, fun k t hk => match k, hk with
      | 0, h => by cases h; exact ⟨_, rfl, ⟨q8_0_9_1, rfl, yl_get hD 2 rfl rfl⟩⟩
      | 1, h => by cases h; exact ⟨_, rfl, ⟨0, rfl, iv_w (iv_c (x := (0 : Int32)) (k := 0) (by decide)) (by decide)⟩⟩
      | 2, h => by cases h; exact ⟨_, rfl, ⟨q14_1_9_2, rfl, yl_get hD 15 rfl rfl⟩⟩
      | 3, h => by cases h; exact ⟨_, rfl, ⟨0, rfl, iv_w (iv_c (x := (0 : Int32)) (k := 0) (by decide)) (by decide)⟩⟩
      | 4, h => by cases h; exact ⟨_, rfl, ⟨0, rfl, iv_w (iv_c (x := (0 : Int32)) (k := 0) (by decide)) (by decide)⟩⟩
      | 5, h => by cases h; exact ⟨_, rfl, ⟨0, rfl, iv_w (iv_c (x := (0 : Int32)) (k := 0) (by decide)) (by decide)⟩⟩
      | 6, h => by cases h; exact ⟨_, rfl, ⟨0, rfl, iv_w (iv_c (x := (0 : Int32)) (k := 0) (by decide)) (by decide)⟩⟩
      | 7, h => by cases h; exact ⟨_, rfl, ⟨0, rfl, iv_w (iv_c (x := (0 : Int32)) (k := 0) (by decide)) (by decide)⟩⟩
      | 8, h => by cases h; exact ⟨_, rfl, ⟨0, rfl, iv_w (iv_c (x := (0 : Int32)) (k := 0) (by decide)) (by decide)⟩⟩
      | 9, h => by cases h; exact ⟨_, rfl, ⟨0, rfl, iv_w (iv_c (x := (0 : Int32)) (k := 0) (by decide)) (by decide)⟩⟩
      | 10, h => by cases h; exact ⟨_, rfl, ⟨0, rfl, iv_w (iv_c (x := (0 : Int32)) (k := 0) (by decide)) (by decide)⟩⟩
      | 11, h => by cases h; exact ⟨_, rfl, ⟨(-1), rfl, iv_w (iv_c (x := ((-1) : Int32)) (k := (-1)) (by decide)) (by decide)⟩⟩
      | k + 12, h => by simp [RT1] at h⟩, ?_⟩
    refine List.forall_mem_cons.mpr ⟨⟨_, .byte, _, rfl, hP 2 _ rfl, (fun _ _ => ⟨0, rfl, iv_w (iv_c (x := (0 : Int32)) (k := 0) (by decide)) (by decide)⟩)⟩, ?_⟩
    refine List.forall_mem_cons.mpr ⟨⟨_, .int, _, rfl, hP 3 _ rfl, (fun _ _ => ⟨_, rfl, iv_top _⟩)⟩, ?_⟩
    refine List.forall_mem_cons.mpr ⟨⟨_, .int, _, rfl, hP 4 _ rfl, (fun _ _ => ⟨_, rfl, iv_top _⟩)⟩, ?_⟩
    refine List.forall_mem_cons.mpr ⟨⟨_, .int, _, rfl, hP 5 _ rfl, (fun _ _ => ⟨_, rfl, iv_top _⟩)⟩, ?_⟩
    refine List.forall_mem_cons.mpr ⟨⟨_, (.object "SixStroke$Person"), _, rfl, hP 6 _ rfl, (fun j hj => match j, hj with
      | 0, _ => ⟨q56_7_18_9_9_10, rfl, yl_get hD 7 rfl rfl⟩
      | 1, _ => ⟨q56_8_18_10_9_11, rfl, yl_get hD 8 rfl rfl⟩
      | 2, _ => ⟨q56_9_18_11_9_12, rfl, yl_get hD 9 rfl rfl⟩
      | 3, _ => ⟨q56_10_18_12_9_13, rfl, yl_get hD 10 rfl rfl⟩
      | 4, _ => ⟨q56_11_18_13_9_14, rfl, yl_get hD 11 rfl rfl⟩
      | 5, _ => ⟨q56_12_18_14_9_15, rfl, yl_get hD 12 rfl rfl⟩
      | 6, _ => ⟨q56_13_18_15_9_16, rfl, yl_get hD 13 rfl rfl⟩
      | 7, _ => ⟨q56_14_18_16_9_17, rfl, yl_get hD 14 rfl rfl⟩
      | k + 8, h => absurd (show k + 8 < 8 from h) (by omega))⟩, ?_⟩
    refine List.forall_mem_cons.mpr ⟨⟨_, hP 7 _ rfl, rfl, fun k t hk => match k, hk with
      | 0, h => by cases h; exact ⟨_, rfl, ⟨0, rfl, iv_w (iv_c (x := (0 : Int32)) (k := 0) (by decide)) (by decide)⟩⟩
      | 1, h => by cases h; exact ⟨_, rfl, ⟨0, rfl, iv_w (iv_c (x := (0 : Int32)) (k := 0) (by decide)) (by decide)⟩⟩
      | 2, h => by cases h; exact ⟨_, rfl, ⟨0, rfl, iv_w (iv_c (x := (0 : Int32)) (k := 0) (by decide)) (by decide)⟩⟩
      | 3, h => by cases h; exact ⟨_, rfl, ⟨0, rfl, iv_w (iv_c (x := (0 : Int32)) (k := 0) (by decide)) (by decide)⟩⟩
      | 4, h => by cases h; exact ⟨_, rfl, ⟨0, rfl, iv_w (iv_c (x := (0 : Int32)) (k := 0) (by decide)) (by decide)⟩⟩
      | 5, h => by cases h; exact ⟨_, rfl, ⟨0, rfl, iv_w (iv_c (x := (0 : Int32)) (k := 0) (by decide)) (by decide)⟩⟩
      | 6, h => by cases h; exact ⟨_, rfl, ⟨0, rfl, iv_w (iv_c (x := (0 : Int32)) (k := 0) (by decide)) (by decide)⟩⟩
      | 7, h => by cases h; exact ⟨_, rfl, ⟨0, rfl, iv_w (iv_c (x := (0 : Int32)) (k := 0) (by decide)) (by decide)⟩⟩
      | 8, h => by cases h; exact ⟨_, rfl, ⟨0, rfl, iv_w (iv_c (x := (0 : Int32)) (k := 0) (by decide)) (by decide)⟩⟩
      | 9, h => by cases h; exact ⟨_, rfl, ⟨0, rfl, iv_w (iv_c (x := (0 : Int32)) (k := 0) (by decide)) (by decide)⟩⟩
      | k + 10, h => by simp [RT1] at h⟩, ?_⟩
    refine List.forall_mem_cons.mpr ⟨⟨_, hP 8 _ rfl, rfl, fun k t hk => match k, hk with
      | 0, h => by cases h; exact ⟨_, rfl, ⟨0, rfl, iv_w (iv_c (x := (0 : Int32)) (k := 0) (by decide)) (by decide)⟩⟩
      | 1, h => by cases h; exact ⟨_, rfl, ⟨0, rfl, iv_w (iv_c (x := (0 : Int32)) (k := 0) (by decide)) (by decide)⟩⟩
      | 2, h => by cases h; exact ⟨_, rfl, ⟨0, rfl, iv_w (iv_c (x := (0 : Int32)) (k := 0) (by decide)) (by decide)⟩⟩
      | 3, h => by cases h; exact ⟨_, rfl, ⟨0, rfl, iv_w (iv_c (x := (0 : Int32)) (k := 0) (by decide)) (by decide)⟩⟩
      | 4, h => by cases h; exact ⟨_, rfl, ⟨0, rfl, iv_w (iv_c (x := (0 : Int32)) (k := 0) (by decide)) (by decide)⟩⟩
      | 5, h => by cases h; exact ⟨_, rfl, ⟨0, rfl, iv_w (iv_c (x := (0 : Int32)) (k := 0) (by decide)) (by decide)⟩⟩
      | 6, h => by cases h; exact ⟨_, rfl, ⟨0, rfl, iv_w (iv_c (x := (0 : Int32)) (k := 0) (by decide)) (by decide)⟩⟩
      | 7, h => by cases h; exact ⟨_, rfl, ⟨0, rfl, iv_w (iv_c (x := (0 : Int32)) (k := 0) (by decide)) (by decide)⟩⟩
      | 8, h => by cases h; exact ⟨_, rfl, ⟨0, rfl, iv_w (iv_c (x := (0 : Int32)) (k := 0) (by decide)) (by decide)⟩⟩
      | 9, h => by cases h; exact ⟨_, rfl, ⟨0, rfl, iv_w (iv_c (x := (0 : Int32)) (k := 0) (by decide)) (by decide)⟩⟩
      | k + 10, h => by simp [RT1] at h⟩, ?_⟩
    refine List.forall_mem_cons.mpr ⟨⟨_, hP 9 _ rfl, rfl, fun k t hk => match k, hk with
      | 0, h => by cases h; exact ⟨_, rfl, ⟨0, rfl, iv_w (iv_c (x := (0 : Int32)) (k := 0) (by decide)) (by decide)⟩⟩
      | 1, h => by cases h; exact ⟨_, rfl, ⟨0, rfl, iv_w (iv_c (x := (0 : Int32)) (k := 0) (by decide)) (by decide)⟩⟩
      | 2, h => by cases h; exact ⟨_, rfl, ⟨0, rfl, iv_w (iv_c (x := (0 : Int32)) (k := 0) (by decide)) (by decide)⟩⟩
      | 3, h => by cases h; exact ⟨_, rfl, ⟨0, rfl, iv_w (iv_c (x := (0 : Int32)) (k := 0) (by decide)) (by decide)⟩⟩
      | 4, h => by cases h; exact ⟨_, rfl, ⟨0, rfl, iv_w (iv_c (x := (0 : Int32)) (k := 0) (by decide)) (by decide)⟩⟩
      | 5, h => by cases h; exact ⟨_, rfl, ⟨0, rfl, iv_w (iv_c (x := (0 : Int32)) (k := 0) (by decide)) (by decide)⟩⟩
      | 6, h => by cases h; exact ⟨_, rfl, ⟨0, rfl, iv_w (iv_c (x := (0 : Int32)) (k := 0) (by decide)) (by decide)⟩⟩
      | 7, h => by cases h; exact ⟨_, rfl, ⟨0, rfl, iv_w (iv_c (x := (0 : Int32)) (k := 0) (by decide)) (by decide)⟩⟩
      | 8, h => by cases h; exact ⟨_, rfl, ⟨0, rfl, iv_w (iv_c (x := (0 : Int32)) (k := 0) (by decide)) (by decide)⟩⟩
      | 9, h => by cases h; exact ⟨_, rfl, ⟨0, rfl, iv_w (iv_c (x := (0 : Int32)) (k := 0) (by decide)) (by decide)⟩⟩
      | k + 10, h => by simp [RT1] at h⟩, ?_⟩
    refine List.forall_mem_cons.mpr ⟨⟨_, hP 10 _ rfl, rfl, fun k t hk => match k, hk with
      | 0, h => by cases h; exact ⟨_, rfl, ⟨0, rfl, iv_w (iv_c (x := (0 : Int32)) (k := 0) (by decide)) (by decide)⟩⟩
      | 1, h => by cases h; exact ⟨_, rfl, ⟨0, rfl, iv_w (iv_c (x := (0 : Int32)) (k := 0) (by decide)) (by decide)⟩⟩
      | 2, h => by cases h; exact ⟨_, rfl, ⟨0, rfl, iv_w (iv_c (x := (0 : Int32)) (k := 0) (by decide)) (by decide)⟩⟩
      | 3, h => by cases h; exact ⟨_, rfl, ⟨0, rfl, iv_w (iv_c (x := (0 : Int32)) (k := 0) (by decide)) (by decide)⟩⟩
      | 4, h => by cases h; exact ⟨_, rfl, ⟨0, rfl, iv_w (iv_c (x := (0 : Int32)) (k := 0) (by decide)) (by decide)⟩⟩
      | 5, h => by cases h; exact ⟨_, rfl, ⟨0, rfl, iv_w (iv_c (x := (0 : Int32)) (k := 0) (by decide)) (by decide)⟩⟩
      | 6, h => by cases h; exact ⟨_, rfl, ⟨0, rfl, iv_w (iv_c (x := (0 : Int32)) (k := 0) (by decide)) (by decide)⟩⟩
      | 7, h => by cases h; exact ⟨_, rfl, ⟨0, rfl, iv_w (iv_c (x := (0 : Int32)) (k := 0) (by decide)) (by decide)⟩⟩
      | 8, h => by cases h; exact ⟨_, rfl, ⟨0, rfl, iv_w (iv_c (x := (0 : Int32)) (k := 0) (by decide)) (by decide)⟩⟩
      | 9, h => by cases h; exact ⟨_, rfl, ⟨0, rfl, iv_w (iv_c (x := (0 : Int32)) (k := 0) (by decide)) (by decide)⟩⟩
      | k + 10, h => by simp [RT1] at h⟩, ?_⟩
    refine List.forall_mem_cons.mpr ⟨⟨_, hP 11 _ rfl, rfl, fun k t hk => match k, hk with
      | 0, h => by cases h; exact ⟨_, rfl, ⟨0, rfl, iv_w (iv_c (x := (0 : Int32)) (k := 0) (by decide)) (by decide)⟩⟩
      | 1, h => by cases h; exact ⟨_, rfl, ⟨0, rfl, iv_w (iv_c (x := (0 : Int32)) (k := 0) (by decide)) (by decide)⟩⟩
      | 2, h => by cases h; exact ⟨_, rfl, ⟨0, rfl, iv_w (iv_c (x := (0 : Int32)) (k := 0) (by decide)) (by decide)⟩⟩
      | 3, h => by cases h; exact ⟨_, rfl, ⟨0, rfl, iv_w (iv_c (x := (0 : Int32)) (k := 0) (by decide)) (by decide)⟩⟩
      | 4, h => by cases h; exact ⟨_, rfl, ⟨0, rfl, iv_w (iv_c (x := (0 : Int32)) (k := 0) (by decide)) (by decide)⟩⟩
      | 5, h => by cases h; exact ⟨_, rfl, ⟨0, rfl, iv_w (iv_c (x := (0 : Int32)) (k := 0) (by decide)) (by decide)⟩⟩
      | 6, h => by cases h; exact ⟨_, rfl, ⟨0, rfl, iv_w (iv_c (x := (0 : Int32)) (k := 0) (by decide)) (by decide)⟩⟩
      | 7, h => by cases h; exact ⟨_, rfl, ⟨0, rfl, iv_w (iv_c (x := (0 : Int32)) (k := 0) (by decide)) (by decide)⟩⟩
      | 8, h => by cases h; exact ⟨_, rfl, ⟨0, rfl, iv_w (iv_c (x := (0 : Int32)) (k := 0) (by decide)) (by decide)⟩⟩
      | 9, h => by cases h; exact ⟨_, rfl, ⟨0, rfl, iv_w (iv_c (x := (0 : Int32)) (k := 0) (by decide)) (by decide)⟩⟩
      | k + 10, h => by simp [RT1] at h⟩, ?_⟩
    refine List.forall_mem_cons.mpr ⟨⟨_, hP 12 _ rfl, rfl, fun k t hk => match k, hk with
      | 0, h => by cases h; exact ⟨_, rfl, ⟨0, rfl, iv_w (iv_c (x := (0 : Int32)) (k := 0) (by decide)) (by decide)⟩⟩
      | 1, h => by cases h; exact ⟨_, rfl, ⟨0, rfl, iv_w (iv_c (x := (0 : Int32)) (k := 0) (by decide)) (by decide)⟩⟩
      | 2, h => by cases h; exact ⟨_, rfl, ⟨0, rfl, iv_w (iv_c (x := (0 : Int32)) (k := 0) (by decide)) (by decide)⟩⟩
      | 3, h => by cases h; exact ⟨_, rfl, ⟨0, rfl, iv_w (iv_c (x := (0 : Int32)) (k := 0) (by decide)) (by decide)⟩⟩
      | 4, h => by cases h; exact ⟨_, rfl, ⟨0, rfl, iv_w (iv_c (x := (0 : Int32)) (k := 0) (by decide)) (by decide)⟩⟩
      | 5, h => by cases h; exact ⟨_, rfl, ⟨0, rfl, iv_w (iv_c (x := (0 : Int32)) (k := 0) (by decide)) (by decide)⟩⟩
      | 6, h => by cases h; exact ⟨_, rfl, ⟨0, rfl, iv_w (iv_c (x := (0 : Int32)) (k := 0) (by decide)) (by decide)⟩⟩
      | 7, h => by cases h; exact ⟨_, rfl, ⟨0, rfl, iv_w (iv_c (x := (0 : Int32)) (k := 0) (by decide)) (by decide)⟩⟩
      | 8, h => by cases h; exact ⟨_, rfl, ⟨0, rfl, iv_w (iv_c (x := (0 : Int32)) (k := 0) (by decide)) (by decide)⟩⟩
      | 9, h => by cases h; exact ⟨_, rfl, ⟨0, rfl, iv_w (iv_c (x := (0 : Int32)) (k := 0) (by decide)) (by decide)⟩⟩
      | k + 10, h => by simp [RT1] at h⟩, ?_⟩
    refine List.forall_mem_cons.mpr ⟨⟨_, hP 13 _ rfl, rfl, fun k t hk => match k, hk with
      | 0, h => by cases h; exact ⟨_, rfl, ⟨0, rfl, iv_w (iv_c (x := (0 : Int32)) (k := 0) (by decide)) (by decide)⟩⟩
      | 1, h => by cases h; exact ⟨_, rfl, ⟨0, rfl, iv_w (iv_c (x := (0 : Int32)) (k := 0) (by decide)) (by decide)⟩⟩
      | 2, h => by cases h; exact ⟨_, rfl, ⟨0, rfl, iv_w (iv_c (x := (0 : Int32)) (k := 0) (by decide)) (by decide)⟩⟩
      | 3, h => by cases h; exact ⟨_, rfl, ⟨0, rfl, iv_w (iv_c (x := (0 : Int32)) (k := 0) (by decide)) (by decide)⟩⟩
      | 4, h => by cases h; exact ⟨_, rfl, ⟨0, rfl, iv_w (iv_c (x := (0 : Int32)) (k := 0) (by decide)) (by decide)⟩⟩
      | 5, h => by cases h; exact ⟨_, rfl, ⟨0, rfl, iv_w (iv_c (x := (0 : Int32)) (k := 0) (by decide)) (by decide)⟩⟩
      | 6, h => by cases h; exact ⟨_, rfl, ⟨0, rfl, iv_w (iv_c (x := (0 : Int32)) (k := 0) (by decide)) (by decide)⟩⟩
      | 7, h => by cases h; exact ⟨_, rfl, ⟨0, rfl, iv_w (iv_c (x := (0 : Int32)) (k := 0) (by decide)) (by decide)⟩⟩
      | 8, h => by cases h; exact ⟨_, rfl, ⟨0, rfl, iv_w (iv_c (x := (0 : Int32)) (k := 0) (by decide)) (by decide)⟩⟩
      | 9, h => by cases h; exact ⟨_, rfl, ⟨0, rfl, iv_w (iv_c (x := (0 : Int32)) (k := 0) (by decide)) (by decide)⟩⟩
      | k + 10, h => by simp [RT1] at h⟩, ?_⟩
    refine List.forall_mem_cons.mpr ⟨⟨_, hP 14 _ rfl, rfl, fun k t hk => match k, hk with
      | 0, h => by cases h; exact ⟨_, rfl, ⟨0, rfl, iv_w (iv_c (x := (0 : Int32)) (k := 0) (by decide)) (by decide)⟩⟩
      | 1, h => by cases h; exact ⟨_, rfl, ⟨0, rfl, iv_w (iv_c (x := (0 : Int32)) (k := 0) (by decide)) (by decide)⟩⟩
      | 2, h => by cases h; exact ⟨_, rfl, ⟨0, rfl, iv_w (iv_c (x := (0 : Int32)) (k := 0) (by decide)) (by decide)⟩⟩
      | 3, h => by cases h; exact ⟨_, rfl, ⟨0, rfl, iv_w (iv_c (x := (0 : Int32)) (k := 0) (by decide)) (by decide)⟩⟩
      | 4, h => by cases h; exact ⟨_, rfl, ⟨0, rfl, iv_w (iv_c (x := (0 : Int32)) (k := 0) (by decide)) (by decide)⟩⟩
      | 5, h => by cases h; exact ⟨_, rfl, ⟨0, rfl, iv_w (iv_c (x := (0 : Int32)) (k := 0) (by decide)) (by decide)⟩⟩
      | 6, h => by cases h; exact ⟨_, rfl, ⟨0, rfl, iv_w (iv_c (x := (0 : Int32)) (k := 0) (by decide)) (by decide)⟩⟩
      | 7, h => by cases h; exact ⟨_, rfl, ⟨0, rfl, iv_w (iv_c (x := (0 : Int32)) (k := 0) (by decide)) (by decide)⟩⟩
      | 8, h => by cases h; exact ⟨_, rfl, ⟨0, rfl, iv_w (iv_c (x := (0 : Int32)) (k := 0) (by decide)) (by decide)⟩⟩
      | 9, h => by cases h; exact ⟨_, rfl, ⟨0, rfl, iv_w (iv_c (x := (0 : Int32)) (k := 0) (by decide)) (by decide)⟩⟩
      | k + 10, h => by simp [RT1] at h⟩, ?_⟩
    refine List.forall_mem_cons.mpr ⟨⟨_, hP 15 _ rfl, rfl, fun k t hk => match k, hk with
      | 0, h => by cases h; exact ⟨_, rfl, ⟨0, rfl, iv_w (iv_c (x := (0 : Int32)) (k := 0) (by decide)) (by decide)⟩⟩
      | 1, h => by cases h; exact ⟨_, rfl, ⟨0, rfl, iv_w (iv_c (x := (0 : Int32)) (k := 0) (by decide)) (by decide)⟩⟩
      | 2, h => by cases h; exact ⟨_, rfl, ⟨0, rfl, iv_w (iv_c (x := (0 : Int32)) (k := 0) (by decide)) (by decide)⟩⟩
      | 3, h => by cases h; exact ⟨_, rfl, ⟨0, rfl, iv_w (iv_c (x := (0 : Int32)) (k := 0) (by decide)) (by decide)⟩⟩
      | 4, h => by cases h; exact ⟨_, rfl, ⟨0, rfl, iv_w (iv_c (x := (0 : Int32)) (k := 0) (by decide)) (by decide)⟩⟩
      | 5, h => by cases h; exact ⟨_, rfl, ⟨_, rfl⟩⟩
      | 6, h => by cases h; exact ⟨_, rfl, ⟨q5_0_18_2_9_3, rfl, yl_get hD 18 rfl rfl⟩⟩
      | 7, h => by cases h; exact ⟨_, rfl, ⟨q16_1_18_3_9_4, rfl, yl_get hD 16 rfl rfl⟩⟩
      | 8, h => by cases h; exact ⟨_, rfl, ⟨q29_5_18_7_9_8, rfl, yl_get hD 6 rfl rfl⟩⟩
      | 9, h => by cases h; exact ⟨_, rfl, ⟨q38_6_18_8_9_9, rfl, yl_get hD 17 rfl rfl⟩⟩
      | k + 10, h => by simp [RT1] at h⟩, ?_⟩
    refine List.forall_mem_cons.mpr ⟨⟨_, hP 16 _ rfl, rfl, fun k t hk => match k, hk with
      | 0, h => by cases h; exact ⟨_, rfl, ⟨0, rfl, iv_w (iv_c (x := (0 : Int32)) (k := 0) (by decide)) (by decide)⟩⟩
      | 1, h => by cases h; exact ⟨_, rfl, ⟨q7_0_20_2_18_4_9_5, rfl, yl_get hD 3 rfl rfl⟩⟩
      | 2, h => by cases h; exact ⟨_, rfl, ⟨q15_1_20_3_18_5_9_6, rfl, yl_get hD 4 rfl rfl⟩⟩
      | 3, h => by cases h; exact ⟨_, rfl, ⟨q23_2_20_4_18_6_9_7, rfl, yl_get hD 5 rfl rfl⟩⟩
      | k + 4, h => by simp [RT1] at h⟩, ?_⟩
    refine List.forall_mem_cons.mpr ⟨⟨_, .int, _, rfl, hP 17 _ rfl, (fun _ _ => ⟨_, rfl, iv_top _⟩)⟩, ?_⟩
    refine List.forall_mem_cons.mpr ⟨⟨_, hP 18 _ rfl, rfl, fun k t hk => match k, hk with
      | 0, h => by cases h; exact ⟨_, rfl, ⟨0, rfl, iv_w (iv_c (x := (0 : Int32)) (k := 0) (by decide)) (by decide)⟩⟩
      | 1, h => by cases h; exact ⟨_, rfl, ⟨2, rfl, iv_w (iv_c (x := (2 : Int32)) (k := 2) (by decide)) (by decide)⟩⟩
      | 2, h => by cases h; exact ⟨_, rfl, ⟨0, rfl, iv_w (iv_c (x := (0 : Int32)) (k := 0) (by decide)) (by decide)⟩⟩
      | 3, h => by cases h; exact ⟨_, rfl, ⟨0, rfl, iv_w (iv_c (x := (0 : Int32)) (k := 0) (by decide)) (by decide)⟩⟩
      | 4, h => by cases h; exact ⟨_, rfl, ⟨0, rfl, iv_w (iv_c (x := (0 : Int32)) (k := 0) (by decide)) (by decide)⟩⟩
      | k + 5, h => by simp [RT1] at h⟩, ?_⟩
    refine List.forall_mem_cons.mpr ⟨⟨_, .int, _, rfl, hP 19 _ rfl, (fun _ _ => ⟨_, rfl, iv_top _⟩)⟩, ?_⟩
    refine List.forall_mem_cons.mpr ⟨⟨_, .int, _, rfl, hP 20 _ rfl, (fun _ _ => ⟨_, rfl, iv_top _⟩)⟩, ?_⟩
    refine List.forall_mem_cons.mpr ⟨⟨_, .int, _, rfl, hP 21 _ rfl, (fun _ _ => ⟨_, rfl, iv_top _⟩)⟩, ?_⟩
    refine List.forall_mem_cons.mpr ⟨⟨_, (.object "SixStroke$Person"), _, rfl, hP 22 _ rfl, (fun j hj => match j, hj with
      | 0, _ => ⟨q56_7_20_27, rfl, yl_get hD 23 rfl rfl⟩
      | 1, _ => ⟨q56_8_20_28, rfl, yl_get hD 24 rfl rfl⟩
      | 2, _ => ⟨q56_9_20_29, rfl, yl_get hD 25 rfl rfl⟩
      | 3, _ => ⟨q56_10_20_30, rfl, yl_get hD 26 rfl rfl⟩
      | 4, _ => ⟨q56_11_20_31, rfl, yl_get hD 27 rfl rfl⟩
      | 5, _ => ⟨q56_12_20_32, rfl, yl_get hD 28 rfl rfl⟩
      | 6, _ => ⟨q56_13_20_33, rfl, yl_get hD 29 rfl rfl⟩
      | 7, _ => ⟨q56_14_20_34, rfl, yl_get hD 30 rfl rfl⟩
      | k + 8, h => absurd (show k + 8 < 8 from h) (by omega))⟩, ?_⟩
    refine List.forall_mem_cons.mpr ⟨⟨_, hP 23 _ rfl, rfl, fun k t hk => match k, hk with
      | 0, h => by cases h; exact ⟨_, rfl, ⟨0, rfl, iv_w (iv_c (x := (0 : Int32)) (k := 0) (by decide)) (by decide)⟩⟩
      | 1, h => by cases h; exact ⟨_, rfl, ⟨0, rfl, iv_w (iv_c (x := (0 : Int32)) (k := 0) (by decide)) (by decide)⟩⟩
      | 2, h => by cases h; exact ⟨_, rfl, ⟨0, rfl, iv_w (iv_c (x := (0 : Int32)) (k := 0) (by decide)) (by decide)⟩⟩
      | 3, h => by cases h; exact ⟨_, rfl, ⟨0, rfl, iv_w (iv_c (x := (0 : Int32)) (k := 0) (by decide)) (by decide)⟩⟩
      | 4, h => by cases h; exact ⟨_, rfl, ⟨0, rfl, iv_w (iv_c (x := (0 : Int32)) (k := 0) (by decide)) (by decide)⟩⟩
      | 5, h => by cases h; exact ⟨_, rfl, ⟨0, rfl, iv_w (iv_c (x := (0 : Int32)) (k := 0) (by decide)) (by decide)⟩⟩
      | 6, h => by cases h; exact ⟨_, rfl, ⟨0, rfl, iv_w (iv_c (x := (0 : Int32)) (k := 0) (by decide)) (by decide)⟩⟩
      | 7, h => by cases h; exact ⟨_, rfl, ⟨0, rfl, iv_w (iv_c (x := (0 : Int32)) (k := 0) (by decide)) (by decide)⟩⟩
      | 8, h => by cases h; exact ⟨_, rfl, ⟨0, rfl, iv_w (iv_c (x := (0 : Int32)) (k := 0) (by decide)) (by decide)⟩⟩
      | 9, h => by cases h; exact ⟨_, rfl, ⟨0, rfl, iv_w (iv_c (x := (0 : Int32)) (k := 0) (by decide)) (by decide)⟩⟩
      | k + 10, h => by simp [RT1] at h⟩, ?_⟩
    refine List.forall_mem_cons.mpr ⟨⟨_, hP 24 _ rfl, rfl, fun k t hk => match k, hk with
      | 0, h => by cases h; exact ⟨_, rfl, ⟨0, rfl, iv_w (iv_c (x := (0 : Int32)) (k := 0) (by decide)) (by decide)⟩⟩
      | 1, h => by cases h; exact ⟨_, rfl, ⟨0, rfl, iv_w (iv_c (x := (0 : Int32)) (k := 0) (by decide)) (by decide)⟩⟩
      | 2, h => by cases h; exact ⟨_, rfl, ⟨0, rfl, iv_w (iv_c (x := (0 : Int32)) (k := 0) (by decide)) (by decide)⟩⟩
      | 3, h => by cases h; exact ⟨_, rfl, ⟨0, rfl, iv_w (iv_c (x := (0 : Int32)) (k := 0) (by decide)) (by decide)⟩⟩
      | 4, h => by cases h; exact ⟨_, rfl, ⟨0, rfl, iv_w (iv_c (x := (0 : Int32)) (k := 0) (by decide)) (by decide)⟩⟩
      | 5, h => by cases h; exact ⟨_, rfl, ⟨0, rfl, iv_w (iv_c (x := (0 : Int32)) (k := 0) (by decide)) (by decide)⟩⟩
      | 6, h => by cases h; exact ⟨_, rfl, ⟨0, rfl, iv_w (iv_c (x := (0 : Int32)) (k := 0) (by decide)) (by decide)⟩⟩
      | 7, h => by cases h; exact ⟨_, rfl, ⟨0, rfl, iv_w (iv_c (x := (0 : Int32)) (k := 0) (by decide)) (by decide)⟩⟩
      | 8, h => by cases h; exact ⟨_, rfl, ⟨0, rfl, iv_w (iv_c (x := (0 : Int32)) (k := 0) (by decide)) (by decide)⟩⟩
      | 9, h => by cases h; exact ⟨_, rfl, ⟨0, rfl, iv_w (iv_c (x := (0 : Int32)) (k := 0) (by decide)) (by decide)⟩⟩
      | k + 10, h => by simp [RT1] at h⟩, ?_⟩
    refine List.forall_mem_cons.mpr ⟨⟨_, hP 25 _ rfl, rfl, fun k t hk => match k, hk with
      | 0, h => by cases h; exact ⟨_, rfl, ⟨0, rfl, iv_w (iv_c (x := (0 : Int32)) (k := 0) (by decide)) (by decide)⟩⟩
      | 1, h => by cases h; exact ⟨_, rfl, ⟨0, rfl, iv_w (iv_c (x := (0 : Int32)) (k := 0) (by decide)) (by decide)⟩⟩
      | 2, h => by cases h; exact ⟨_, rfl, ⟨0, rfl, iv_w (iv_c (x := (0 : Int32)) (k := 0) (by decide)) (by decide)⟩⟩
      | 3, h => by cases h; exact ⟨_, rfl, ⟨0, rfl, iv_w (iv_c (x := (0 : Int32)) (k := 0) (by decide)) (by decide)⟩⟩
      | 4, h => by cases h; exact ⟨_, rfl, ⟨0, rfl, iv_w (iv_c (x := (0 : Int32)) (k := 0) (by decide)) (by decide)⟩⟩
      | 5, h => by cases h; exact ⟨_, rfl, ⟨0, rfl, iv_w (iv_c (x := (0 : Int32)) (k := 0) (by decide)) (by decide)⟩⟩
      | 6, h => by cases h; exact ⟨_, rfl, ⟨0, rfl, iv_w (iv_c (x := (0 : Int32)) (k := 0) (by decide)) (by decide)⟩⟩
      | 7, h => by cases h; exact ⟨_, rfl, ⟨0, rfl, iv_w (iv_c (x := (0 : Int32)) (k := 0) (by decide)) (by decide)⟩⟩
      | 8, h => by cases h; exact ⟨_, rfl, ⟨0, rfl, iv_w (iv_c (x := (0 : Int32)) (k := 0) (by decide)) (by decide)⟩⟩
      | 9, h => by cases h; exact ⟨_, rfl, ⟨0, rfl, iv_w (iv_c (x := (0 : Int32)) (k := 0) (by decide)) (by decide)⟩⟩
      | k + 10, h => by simp [RT1] at h⟩, ?_⟩
    refine List.forall_mem_cons.mpr ⟨⟨_, hP 26 _ rfl, rfl, fun k t hk => match k, hk with
      | 0, h => by cases h; exact ⟨_, rfl, ⟨0, rfl, iv_w (iv_c (x := (0 : Int32)) (k := 0) (by decide)) (by decide)⟩⟩
      | 1, h => by cases h; exact ⟨_, rfl, ⟨0, rfl, iv_w (iv_c (x := (0 : Int32)) (k := 0) (by decide)) (by decide)⟩⟩
      | 2, h => by cases h; exact ⟨_, rfl, ⟨0, rfl, iv_w (iv_c (x := (0 : Int32)) (k := 0) (by decide)) (by decide)⟩⟩
      | 3, h => by cases h; exact ⟨_, rfl, ⟨0, rfl, iv_w (iv_c (x := (0 : Int32)) (k := 0) (by decide)) (by decide)⟩⟩
      | 4, h => by cases h; exact ⟨_, rfl, ⟨0, rfl, iv_w (iv_c (x := (0 : Int32)) (k := 0) (by decide)) (by decide)⟩⟩
      | 5, h => by cases h; exact ⟨_, rfl, ⟨0, rfl, iv_w (iv_c (x := (0 : Int32)) (k := 0) (by decide)) (by decide)⟩⟩
      | 6, h => by cases h; exact ⟨_, rfl, ⟨0, rfl, iv_w (iv_c (x := (0 : Int32)) (k := 0) (by decide)) (by decide)⟩⟩
      | 7, h => by cases h; exact ⟨_, rfl, ⟨0, rfl, iv_w (iv_c (x := (0 : Int32)) (k := 0) (by decide)) (by decide)⟩⟩
      | 8, h => by cases h; exact ⟨_, rfl, ⟨0, rfl, iv_w (iv_c (x := (0 : Int32)) (k := 0) (by decide)) (by decide)⟩⟩
      | 9, h => by cases h; exact ⟨_, rfl, ⟨0, rfl, iv_w (iv_c (x := (0 : Int32)) (k := 0) (by decide)) (by decide)⟩⟩
      | k + 10, h => by simp [RT1] at h⟩, ?_⟩
    refine List.forall_mem_cons.mpr ⟨⟨_, hP 27 _ rfl, rfl, fun k t hk => match k, hk with
      | 0, h => by cases h; exact ⟨_, rfl, ⟨0, rfl, iv_w (iv_c (x := (0 : Int32)) (k := 0) (by decide)) (by decide)⟩⟩
      | 1, h => by cases h; exact ⟨_, rfl, ⟨0, rfl, iv_w (iv_c (x := (0 : Int32)) (k := 0) (by decide)) (by decide)⟩⟩
      | 2, h => by cases h; exact ⟨_, rfl, ⟨0, rfl, iv_w (iv_c (x := (0 : Int32)) (k := 0) (by decide)) (by decide)⟩⟩
      | 3, h => by cases h; exact ⟨_, rfl, ⟨0, rfl, iv_w (iv_c (x := (0 : Int32)) (k := 0) (by decide)) (by decide)⟩⟩
      | 4, h => by cases h; exact ⟨_, rfl, ⟨0, rfl, iv_w (iv_c (x := (0 : Int32)) (k := 0) (by decide)) (by decide)⟩⟩
      | 5, h => by cases h; exact ⟨_, rfl, ⟨0, rfl, iv_w (iv_c (x := (0 : Int32)) (k := 0) (by decide)) (by decide)⟩⟩
      | 6, h => by cases h; exact ⟨_, rfl, ⟨0, rfl, iv_w (iv_c (x := (0 : Int32)) (k := 0) (by decide)) (by decide)⟩⟩
      | 7, h => by cases h; exact ⟨_, rfl, ⟨0, rfl, iv_w (iv_c (x := (0 : Int32)) (k := 0) (by decide)) (by decide)⟩⟩
      | 8, h => by cases h; exact ⟨_, rfl, ⟨0, rfl, iv_w (iv_c (x := (0 : Int32)) (k := 0) (by decide)) (by decide)⟩⟩
      | 9, h => by cases h; exact ⟨_, rfl, ⟨0, rfl, iv_w (iv_c (x := (0 : Int32)) (k := 0) (by decide)) (by decide)⟩⟩
      | k + 10, h => by simp [RT1] at h⟩, ?_⟩
    refine List.forall_mem_cons.mpr ⟨⟨_, hP 28 _ rfl, rfl, fun k t hk => match k, hk with
      | 0, h => by cases h; exact ⟨_, rfl, ⟨0, rfl, iv_w (iv_c (x := (0 : Int32)) (k := 0) (by decide)) (by decide)⟩⟩
      | 1, h => by cases h; exact ⟨_, rfl, ⟨0, rfl, iv_w (iv_c (x := (0 : Int32)) (k := 0) (by decide)) (by decide)⟩⟩
      | 2, h => by cases h; exact ⟨_, rfl, ⟨0, rfl, iv_w (iv_c (x := (0 : Int32)) (k := 0) (by decide)) (by decide)⟩⟩
      | 3, h => by cases h; exact ⟨_, rfl, ⟨0, rfl, iv_w (iv_c (x := (0 : Int32)) (k := 0) (by decide)) (by decide)⟩⟩
      | 4, h => by cases h; exact ⟨_, rfl, ⟨0, rfl, iv_w (iv_c (x := (0 : Int32)) (k := 0) (by decide)) (by decide)⟩⟩
      | 5, h => by cases h; exact ⟨_, rfl, ⟨0, rfl, iv_w (iv_c (x := (0 : Int32)) (k := 0) (by decide)) (by decide)⟩⟩
      | 6, h => by cases h; exact ⟨_, rfl, ⟨0, rfl, iv_w (iv_c (x := (0 : Int32)) (k := 0) (by decide)) (by decide)⟩⟩
      | 7, h => by cases h; exact ⟨_, rfl, ⟨0, rfl, iv_w (iv_c (x := (0 : Int32)) (k := 0) (by decide)) (by decide)⟩⟩
      | 8, h => by cases h; exact ⟨_, rfl, ⟨0, rfl, iv_w (iv_c (x := (0 : Int32)) (k := 0) (by decide)) (by decide)⟩⟩
      | 9, h => by cases h; exact ⟨_, rfl, ⟨0, rfl, iv_w (iv_c (x := (0 : Int32)) (k := 0) (by decide)) (by decide)⟩⟩
      | k + 10, h => by simp [RT1] at h⟩, ?_⟩
    refine List.forall_mem_cons.mpr ⟨⟨_, hP 29 _ rfl, rfl, fun k t hk => match k, hk with
      | 0, h => by cases h; exact ⟨_, rfl, ⟨0, rfl, iv_w (iv_c (x := (0 : Int32)) (k := 0) (by decide)) (by decide)⟩⟩
      | 1, h => by cases h; exact ⟨_, rfl, ⟨0, rfl, iv_w (iv_c (x := (0 : Int32)) (k := 0) (by decide)) (by decide)⟩⟩
      | 2, h => by cases h; exact ⟨_, rfl, ⟨0, rfl, iv_w (iv_c (x := (0 : Int32)) (k := 0) (by decide)) (by decide)⟩⟩
      | 3, h => by cases h; exact ⟨_, rfl, ⟨0, rfl, iv_w (iv_c (x := (0 : Int32)) (k := 0) (by decide)) (by decide)⟩⟩
      | 4, h => by cases h; exact ⟨_, rfl, ⟨0, rfl, iv_w (iv_c (x := (0 : Int32)) (k := 0) (by decide)) (by decide)⟩⟩
      | 5, h => by cases h; exact ⟨_, rfl, ⟨0, rfl, iv_w (iv_c (x := (0 : Int32)) (k := 0) (by decide)) (by decide)⟩⟩
      | 6, h => by cases h; exact ⟨_, rfl, ⟨0, rfl, iv_w (iv_c (x := (0 : Int32)) (k := 0) (by decide)) (by decide)⟩⟩
      | 7, h => by cases h; exact ⟨_, rfl, ⟨0, rfl, iv_w (iv_c (x := (0 : Int32)) (k := 0) (by decide)) (by decide)⟩⟩
      | 8, h => by cases h; exact ⟨_, rfl, ⟨0, rfl, iv_w (iv_c (x := (0 : Int32)) (k := 0) (by decide)) (by decide)⟩⟩
      | 9, h => by cases h; exact ⟨_, rfl, ⟨0, rfl, iv_w (iv_c (x := (0 : Int32)) (k := 0) (by decide)) (by decide)⟩⟩
      | k + 10, h => by simp [RT1] at h⟩, ?_⟩
    refine List.forall_mem_cons.mpr ⟨⟨_, hP 30 _ rfl, rfl, fun k t hk => match k, hk with
      | 0, h => by cases h; exact ⟨_, rfl, ⟨0, rfl, iv_w (iv_c (x := (0 : Int32)) (k := 0) (by decide)) (by decide)⟩⟩
      | 1, h => by cases h; exact ⟨_, rfl, ⟨0, rfl, iv_w (iv_c (x := (0 : Int32)) (k := 0) (by decide)) (by decide)⟩⟩
      | 2, h => by cases h; exact ⟨_, rfl, ⟨0, rfl, iv_w (iv_c (x := (0 : Int32)) (k := 0) (by decide)) (by decide)⟩⟩
      | 3, h => by cases h; exact ⟨_, rfl, ⟨0, rfl, iv_w (iv_c (x := (0 : Int32)) (k := 0) (by decide)) (by decide)⟩⟩
      | 4, h => by cases h; exact ⟨_, rfl, ⟨0, rfl, iv_w (iv_c (x := (0 : Int32)) (k := 0) (by decide)) (by decide)⟩⟩
      | 5, h => by cases h; exact ⟨_, rfl, ⟨0, rfl, iv_w (iv_c (x := (0 : Int32)) (k := 0) (by decide)) (by decide)⟩⟩
      | 6, h => by cases h; exact ⟨_, rfl, ⟨0, rfl, iv_w (iv_c (x := (0 : Int32)) (k := 0) (by decide)) (by decide)⟩⟩
      | 7, h => by cases h; exact ⟨_, rfl, ⟨0, rfl, iv_w (iv_c (x := (0 : Int32)) (k := 0) (by decide)) (by decide)⟩⟩
      | 8, h => by cases h; exact ⟨_, rfl, ⟨0, rfl, iv_w (iv_c (x := (0 : Int32)) (k := 0) (by decide)) (by decide)⟩⟩
      | 9, h => by cases h; exact ⟨_, rfl, ⟨0, rfl, iv_w (iv_c (x := (0 : Int32)) (k := 0) (by decide)) (by decide)⟩⟩
      | k + 10, h => by simp [RT1] at h⟩, ?_⟩
    refine List.forall_mem_cons.mpr ⟨⟨_, hP 31 _ rfl, rfl, fun k t hk => match k, hk with
      | 0, h => by cases h; exact ⟨_, rfl, ⟨0, rfl, iv_w (iv_c (x := (0 : Int32)) (k := 0) (by decide)) (by decide)⟩⟩
      | 1, h => by cases h; exact ⟨_, rfl, ⟨0, rfl, iv_w (iv_c (x := (0 : Int32)) (k := 0) (by decide)) (by decide)⟩⟩
      | 2, h => by cases h; exact ⟨_, rfl, ⟨0, rfl, iv_w (iv_c (x := (0 : Int32)) (k := 0) (by decide)) (by decide)⟩⟩
      | 3, h => by cases h; exact ⟨_, rfl, ⟨0, rfl, iv_w (iv_c (x := (0 : Int32)) (k := 0) (by decide)) (by decide)⟩⟩
      | 4, h => by cases h; exact ⟨_, rfl, ⟨0, rfl, iv_w (iv_c (x := (0 : Int32)) (k := 0) (by decide)) (by decide)⟩⟩
      | 5, h => by cases h; exact ⟨_, rfl, ⟨_, rfl⟩⟩
      | 6, h => by cases h; exact ⟨_, rfl, ⟨q5_0_20_20, rfl, yl_get hD 34 rfl rfl⟩⟩
      | 7, h => by cases h; exact ⟨_, rfl, ⟨q16_1_20_21, rfl, yl_get hD 32 rfl rfl⟩⟩
      | 8, h => by cases h; exact ⟨_, rfl, ⟨q29_5_20_25, rfl, yl_get hD 22 rfl rfl⟩⟩
      | 9, h => by cases h; exact ⟨_, rfl, ⟨q38_6_20_26, rfl, yl_get hD 33 rfl rfl⟩⟩
      | k + 10, h => by simp [RT1] at h⟩, ?_⟩
    refine List.forall_mem_cons.mpr ⟨⟨_, hP 32 _ rfl, rfl, fun k t hk => match k, hk with
      | 0, h => by cases h; exact ⟨_, rfl, ⟨0, rfl, iv_w (iv_c (x := (0 : Int32)) (k := 0) (by decide)) (by decide)⟩⟩
      | 1, h => by cases h; exact ⟨_, rfl, ⟨q7_0_20_2_20_22, rfl, yl_get hD 19 rfl rfl⟩⟩
      | 2, h => by cases h; exact ⟨_, rfl, ⟨q15_1_20_3_20_23, rfl, yl_get hD 20 rfl rfl⟩⟩
      | 3, h => by cases h; exact ⟨_, rfl, ⟨q23_2_20_4_20_24, rfl, yl_get hD 21 rfl rfl⟩⟩
      | k + 4, h => by simp [RT1] at h⟩, ?_⟩
    refine List.forall_mem_cons.mpr ⟨⟨_, .int, _, rfl, hP 33 _ rfl, (fun _ _ => ⟨_, rfl, iv_top _⟩)⟩, ?_⟩
    refine List.forall_mem_cons.mpr ⟨⟨_, hP 34 _ rfl, rfl, fun k t hk => match k, hk with
      | 0, h => by cases h; exact ⟨_, rfl, ⟨0, rfl, iv_w (iv_c (x := (0 : Int32)) (k := 0) (by decide)) (by decide)⟩⟩
      | 1, h => by cases h; exact ⟨_, rfl, ⟨2, rfl, iv_w (iv_c (x := (2 : Int32)) (k := 2) (by decide)) (by decide)⟩⟩
      | 2, h => by cases h; exact ⟨_, rfl, ⟨0, rfl, iv_w (iv_c (x := (0 : Int32)) (k := 0) (by decide)) (by decide)⟩⟩
      | 3, h => by cases h; exact ⟨_, rfl, ⟨0, rfl, iv_w (iv_c (x := (0 : Int32)) (k := 0) (by decide)) (by decide)⟩⟩
      | 4, h => by cases h; exact ⟨_, rfl, ⟨0, rfl, iv_w (iv_c (x := (0 : Int32)) (k := 0) (by decide)) (by decide)⟩⟩
      | k + 5, h => by simp [RT1] at h⟩, ?_⟩
    refine List.forall_mem_cons.mpr ⟨⟨_, (.object "SixStroke$Town"), _, rfl, hP 35 _ rfl, (fun j hj => match j, hj with
      | 0, _ => ⟨q143_111, rfl, yl_get hD 50 rfl rfl⟩
      | 1, _ => ⟨q143_128, rfl, yl_get hD 66 rfl rfl⟩
      | 2, _ => ⟨q143_145, rfl, yl_get hD 82 rfl rfl⟩
      | k + 3, h => absurd (show k + 3 < 3 from h) (by omega))⟩, ?_⟩
    refine List.forall_mem_cons.mpr ⟨⟨_, .boolean, _, rfl, hP 36 _ rfl, (fun _ _ => ⟨0, rfl, iv_w (iv_c (x := (0 : Int32)) (k := 0) (by decide)) (by decide)⟩)⟩, ?_⟩
    refine List.forall_mem_cons.mpr ⟨⟨_, (.object "SixStroke$Slot"), _, rfl, hP 37 _ rfl, (fun j hj => match j, hj with
      | 0, _ => ⟨q169_162, rfl, yl_get hD 86 rfl rfl⟩
      | 1, _ => ⟨q169_164, rfl, yl_get hD 88 rfl rfl⟩
      | 2, _ => ⟨q169_166, rfl, yl_get hD 90 rfl rfl⟩
      | 3, _ => ⟨q169_168, rfl, yl_get hD 92 rfl rfl⟩
      | k + 4, h => absurd (show k + 4 < 4 from h) (by omega))⟩, ?_⟩
    refine List.forall_mem_cons.mpr ⟨⟨_, .int, _, rfl, hP 38 _ rfl, (fun _ _ => ⟨_, rfl, iv_top _⟩)⟩, ?_⟩
    refine List.forall_mem_cons.mpr ⟨⟨_, .int, _, rfl, hP 39 _ rfl, (fun _ _ => ⟨_, rfl, iv_top _⟩)⟩, ?_⟩
    refine List.forall_mem_cons.mpr ⟨⟨_, .int, _, rfl, hP 40 _ rfl, (fun _ _ => ⟨_, rfl, iv_top _⟩)⟩, ?_⟩
    refine List.forall_mem_cons.mpr ⟨⟨_, (.object "SixStroke$Person"), _, rfl, hP 41 _ rfl, (fun j hj => match j, hj with
      | 0, _ => ⟨q56_7_147_119, rfl, yl_get hD 42 rfl rfl⟩
      | 1, _ => ⟨q56_8_147_120, rfl, yl_get hD 43 rfl rfl⟩
      | 2, _ => ⟨q56_9_147_121, rfl, yl_get hD 44 rfl rfl⟩
      | 3, _ => ⟨q56_10_147_122, rfl, yl_get hD 45 rfl rfl⟩
      | 4, _ => ⟨q56_11_147_123, rfl, yl_get hD 46 rfl rfl⟩
      | 5, _ => ⟨q56_12_147_124, rfl, yl_get hD 47 rfl rfl⟩
      | 6, _ => ⟨q56_13_147_125, rfl, yl_get hD 48 rfl rfl⟩
      | 7, _ => ⟨q56_14_147_126, rfl, yl_get hD 49 rfl rfl⟩
      | k + 8, h => absurd (show k + 8 < 8 from h) (by omega))⟩, ?_⟩
    refine List.forall_mem_cons.mpr ⟨⟨_, hP 42 _ rfl, rfl, fun k t hk => match k, hk with
      | 0, h => by cases h; exact ⟨_, rfl, ⟨0, rfl, iv_w (iv_c (x := (0 : Int32)) (k := 0) (by decide)) (by decide)⟩⟩
      | 1, h => by cases h; exact ⟨_, rfl, ⟨0, rfl, iv_w (iv_c (x := (0 : Int32)) (k := 0) (by decide)) (by decide)⟩⟩
      | 2, h => by cases h; exact ⟨_, rfl, ⟨0, rfl, iv_w (iv_c (x := (0 : Int32)) (k := 0) (by decide)) (by decide)⟩⟩
      | 3, h => by cases h; exact ⟨_, rfl, ⟨0, rfl, iv_w (iv_c (x := (0 : Int32)) (k := 0) (by decide)) (by decide)⟩⟩
      | 4, h => by cases h; exact ⟨_, rfl, ⟨0, rfl, iv_w (iv_c (x := (0 : Int32)) (k := 0) (by decide)) (by decide)⟩⟩
      | 5, h => by cases h; exact ⟨_, rfl, ⟨0, rfl, iv_w (iv_c (x := (0 : Int32)) (k := 0) (by decide)) (by decide)⟩⟩
      | 6, h => by cases h; exact ⟨_, rfl, ⟨0, rfl, iv_w (iv_c (x := (0 : Int32)) (k := 0) (by decide)) (by decide)⟩⟩
      | 7, h => by cases h; exact ⟨_, rfl, ⟨0, rfl, iv_w (iv_c (x := (0 : Int32)) (k := 0) (by decide)) (by decide)⟩⟩
      | 8, h => by cases h; exact ⟨_, rfl, ⟨0, rfl, iv_w (iv_c (x := (0 : Int32)) (k := 0) (by decide)) (by decide)⟩⟩
      | 9, h => by cases h; exact ⟨_, rfl, ⟨0, rfl, iv_w (iv_c (x := (0 : Int32)) (k := 0) (by decide)) (by decide)⟩⟩
      | k + 10, h => by simp [RT1] at h⟩, ?_⟩
    refine List.forall_mem_cons.mpr ⟨⟨_, hP 43 _ rfl, rfl, fun k t hk => match k, hk with
      | 0, h => by cases h; exact ⟨_, rfl, ⟨0, rfl, iv_w (iv_c (x := (0 : Int32)) (k := 0) (by decide)) (by decide)⟩⟩
      | 1, h => by cases h; exact ⟨_, rfl, ⟨0, rfl, iv_w (iv_c (x := (0 : Int32)) (k := 0) (by decide)) (by decide)⟩⟩
      | 2, h => by cases h; exact ⟨_, rfl, ⟨0, rfl, iv_w (iv_c (x := (0 : Int32)) (k := 0) (by decide)) (by decide)⟩⟩
      | 3, h => by cases h; exact ⟨_, rfl, ⟨0, rfl, iv_w (iv_c (x := (0 : Int32)) (k := 0) (by decide)) (by decide)⟩⟩
      | 4, h => by cases h; exact ⟨_, rfl, ⟨0, rfl, iv_w (iv_c (x := (0 : Int32)) (k := 0) (by decide)) (by decide)⟩⟩
      | 5, h => by cases h; exact ⟨_, rfl, ⟨0, rfl, iv_w (iv_c (x := (0 : Int32)) (k := 0) (by decide)) (by decide)⟩⟩
      | 6, h => by cases h; exact ⟨_, rfl, ⟨0, rfl, iv_w (iv_c (x := (0 : Int32)) (k := 0) (by decide)) (by decide)⟩⟩
      | 7, h => by cases h; exact ⟨_, rfl, ⟨0, rfl, iv_w (iv_c (x := (0 : Int32)) (k := 0) (by decide)) (by decide)⟩⟩
      | 8, h => by cases h; exact ⟨_, rfl, ⟨0, rfl, iv_w (iv_c (x := (0 : Int32)) (k := 0) (by decide)) (by decide)⟩⟩
      | 9, h => by cases h; exact ⟨_, rfl, ⟨0, rfl, iv_w (iv_c (x := (0 : Int32)) (k := 0) (by decide)) (by decide)⟩⟩
      | k + 10, h => by simp [RT1] at h⟩, ?_⟩
    refine List.forall_mem_cons.mpr ⟨⟨_, hP 44 _ rfl, rfl, fun k t hk => match k, hk with
      | 0, h => by cases h; exact ⟨_, rfl, ⟨0, rfl, iv_w (iv_c (x := (0 : Int32)) (k := 0) (by decide)) (by decide)⟩⟩
      | 1, h => by cases h; exact ⟨_, rfl, ⟨0, rfl, iv_w (iv_c (x := (0 : Int32)) (k := 0) (by decide)) (by decide)⟩⟩
      | 2, h => by cases h; exact ⟨_, rfl, ⟨0, rfl, iv_w (iv_c (x := (0 : Int32)) (k := 0) (by decide)) (by decide)⟩⟩
      | 3, h => by cases h; exact ⟨_, rfl, ⟨0, rfl, iv_w (iv_c (x := (0 : Int32)) (k := 0) (by decide)) (by decide)⟩⟩
      | 4, h => by cases h; exact ⟨_, rfl, ⟨0, rfl, iv_w (iv_c (x := (0 : Int32)) (k := 0) (by decide)) (by decide)⟩⟩
      | 5, h => by cases h; exact ⟨_, rfl, ⟨0, rfl, iv_w (iv_c (x := (0 : Int32)) (k := 0) (by decide)) (by decide)⟩⟩
      | 6, h => by cases h; exact ⟨_, rfl, ⟨0, rfl, iv_w (iv_c (x := (0 : Int32)) (k := 0) (by decide)) (by decide)⟩⟩
      | 7, h => by cases h; exact ⟨_, rfl, ⟨0, rfl, iv_w (iv_c (x := (0 : Int32)) (k := 0) (by decide)) (by decide)⟩⟩
      | 8, h => by cases h; exact ⟨_, rfl, ⟨0, rfl, iv_w (iv_c (x := (0 : Int32)) (k := 0) (by decide)) (by decide)⟩⟩
      | 9, h => by cases h; exact ⟨_, rfl, ⟨0, rfl, iv_w (iv_c (x := (0 : Int32)) (k := 0) (by decide)) (by decide)⟩⟩
      | k + 10, h => by simp [RT1] at h⟩, ?_⟩
    refine List.forall_mem_cons.mpr ⟨⟨_, hP 45 _ rfl, rfl, fun k t hk => match k, hk with
      | 0, h => by cases h; exact ⟨_, rfl, ⟨0, rfl, iv_w (iv_c (x := (0 : Int32)) (k := 0) (by decide)) (by decide)⟩⟩
      | 1, h => by cases h; exact ⟨_, rfl, ⟨0, rfl, iv_w (iv_c (x := (0 : Int32)) (k := 0) (by decide)) (by decide)⟩⟩
      | 2, h => by cases h; exact ⟨_, rfl, ⟨0, rfl, iv_w (iv_c (x := (0 : Int32)) (k := 0) (by decide)) (by decide)⟩⟩
      | 3, h => by cases h; exact ⟨_, rfl, ⟨0, rfl, iv_w (iv_c (x := (0 : Int32)) (k := 0) (by decide)) (by decide)⟩⟩
      | 4, h => by cases h; exact ⟨_, rfl, ⟨0, rfl, iv_w (iv_c (x := (0 : Int32)) (k := 0) (by decide)) (by decide)⟩⟩
      | 5, h => by cases h; exact ⟨_, rfl, ⟨0, rfl, iv_w (iv_c (x := (0 : Int32)) (k := 0) (by decide)) (by decide)⟩⟩
      | 6, h => by cases h; exact ⟨_, rfl, ⟨0, rfl, iv_w (iv_c (x := (0 : Int32)) (k := 0) (by decide)) (by decide)⟩⟩
      | 7, h => by cases h; exact ⟨_, rfl, ⟨0, rfl, iv_w (iv_c (x := (0 : Int32)) (k := 0) (by decide)) (by decide)⟩⟩
      | 8, h => by cases h; exact ⟨_, rfl, ⟨0, rfl, iv_w (iv_c (x := (0 : Int32)) (k := 0) (by decide)) (by decide)⟩⟩
      | 9, h => by cases h; exact ⟨_, rfl, ⟨0, rfl, iv_w (iv_c (x := (0 : Int32)) (k := 0) (by decide)) (by decide)⟩⟩
      | k + 10, h => by simp [RT1] at h⟩, ?_⟩
    refine List.forall_mem_cons.mpr ⟨⟨_, hP 46 _ rfl, rfl, fun k t hk => match k, hk with
      | 0, h => by cases h; exact ⟨_, rfl, ⟨0, rfl, iv_w (iv_c (x := (0 : Int32)) (k := 0) (by decide)) (by decide)⟩⟩
      | 1, h => by cases h; exact ⟨_, rfl, ⟨0, rfl, iv_w (iv_c (x := (0 : Int32)) (k := 0) (by decide)) (by decide)⟩⟩
      | 2, h => by cases h; exact ⟨_, rfl, ⟨0, rfl, iv_w (iv_c (x := (0 : Int32)) (k := 0) (by decide)) (by decide)⟩⟩
      | 3, h => by cases h; exact ⟨_, rfl, ⟨0, rfl, iv_w (iv_c (x := (0 : Int32)) (k := 0) (by decide)) (by decide)⟩⟩
      | 4, h => by cases h; exact ⟨_, rfl, ⟨0, rfl, iv_w (iv_c (x := (0 : Int32)) (k := 0) (by decide)) (by decide)⟩⟩
      | 5, h => by cases h; exact ⟨_, rfl, ⟨0, rfl, iv_w (iv_c (x := (0 : Int32)) (k := 0) (by decide)) (by decide)⟩⟩
      | 6, h => by cases h; exact ⟨_, rfl, ⟨0, rfl, iv_w (iv_c (x := (0 : Int32)) (k := 0) (by decide)) (by decide)⟩⟩
      | 7, h => by cases h; exact ⟨_, rfl, ⟨0, rfl, iv_w (iv_c (x := (0 : Int32)) (k := 0) (by decide)) (by decide)⟩⟩
      | 8, h => by cases h; exact ⟨_, rfl, ⟨0, rfl, iv_w (iv_c (x := (0 : Int32)) (k := 0) (by decide)) (by decide)⟩⟩
      | 9, h => by cases h; exact ⟨_, rfl, ⟨0, rfl, iv_w (iv_c (x := (0 : Int32)) (k := 0) (by decide)) (by decide)⟩⟩
      | k + 10, h => by simp [RT1] at h⟩, ?_⟩
    refine List.forall_mem_cons.mpr ⟨⟨_, hP 47 _ rfl, rfl, fun k t hk => match k, hk with
      | 0, h => by cases h; exact ⟨_, rfl, ⟨0, rfl, iv_w (iv_c (x := (0 : Int32)) (k := 0) (by decide)) (by decide)⟩⟩
      | 1, h => by cases h; exact ⟨_, rfl, ⟨0, rfl, iv_w (iv_c (x := (0 : Int32)) (k := 0) (by decide)) (by decide)⟩⟩
      | 2, h => by cases h; exact ⟨_, rfl, ⟨0, rfl, iv_w (iv_c (x := (0 : Int32)) (k := 0) (by decide)) (by decide)⟩⟩
      | 3, h => by cases h; exact ⟨_, rfl, ⟨0, rfl, iv_w (iv_c (x := (0 : Int32)) (k := 0) (by decide)) (by decide)⟩⟩
      | 4, h => by cases h; exact ⟨_, rfl, ⟨0, rfl, iv_w (iv_c (x := (0 : Int32)) (k := 0) (by decide)) (by decide)⟩⟩
      | 5, h => by cases h; exact ⟨_, rfl, ⟨0, rfl, iv_w (iv_c (x := (0 : Int32)) (k := 0) (by decide)) (by decide)⟩⟩
      | 6, h => by cases h; exact ⟨_, rfl, ⟨0, rfl, iv_w (iv_c (x := (0 : Int32)) (k := 0) (by decide)) (by decide)⟩⟩
      | 7, h => by cases h; exact ⟨_, rfl, ⟨0, rfl, iv_w (iv_c (x := (0 : Int32)) (k := 0) (by decide)) (by decide)⟩⟩
      | 8, h => by cases h; exact ⟨_, rfl, ⟨0, rfl, iv_w (iv_c (x := (0 : Int32)) (k := 0) (by decide)) (by decide)⟩⟩
      | 9, h => by cases h; exact ⟨_, rfl, ⟨0, rfl, iv_w (iv_c (x := (0 : Int32)) (k := 0) (by decide)) (by decide)⟩⟩
      | k + 10, h => by simp [RT1] at h⟩, ?_⟩
    refine List.forall_mem_cons.mpr ⟨⟨_, hP 48 _ rfl, rfl, fun k t hk => match k, hk with
      | 0, h => by cases h; exact ⟨_, rfl, ⟨0, rfl, iv_w (iv_c (x := (0 : Int32)) (k := 0) (by decide)) (by decide)⟩⟩
      | 1, h => by cases h; exact ⟨_, rfl, ⟨0, rfl, iv_w (iv_c (x := (0 : Int32)) (k := 0) (by decide)) (by decide)⟩⟩
      | 2, h => by cases h; exact ⟨_, rfl, ⟨0, rfl, iv_w (iv_c (x := (0 : Int32)) (k := 0) (by decide)) (by decide)⟩⟩
      | 3, h => by cases h; exact ⟨_, rfl, ⟨0, rfl, iv_w (iv_c (x := (0 : Int32)) (k := 0) (by decide)) (by decide)⟩⟩
      | 4, h => by cases h; exact ⟨_, rfl, ⟨0, rfl, iv_w (iv_c (x := (0 : Int32)) (k := 0) (by decide)) (by decide)⟩⟩
      | 5, h => by cases h; exact ⟨_, rfl, ⟨0, rfl, iv_w (iv_c (x := (0 : Int32)) (k := 0) (by decide)) (by decide)⟩⟩
      | 6, h => by cases h; exact ⟨_, rfl, ⟨0, rfl, iv_w (iv_c (x := (0 : Int32)) (k := 0) (by decide)) (by decide)⟩⟩
      | 7, h => by cases h; exact ⟨_, rfl, ⟨0, rfl, iv_w (iv_c (x := (0 : Int32)) (k := 0) (by decide)) (by decide)⟩⟩
      | 8, h => by cases h; exact ⟨_, rfl, ⟨0, rfl, iv_w (iv_c (x := (0 : Int32)) (k := 0) (by decide)) (by decide)⟩⟩
      | 9, h => by cases h; exact ⟨_, rfl, ⟨0, rfl, iv_w (iv_c (x := (0 : Int32)) (k := 0) (by decide)) (by decide)⟩⟩
      | k + 10, h => by simp [RT1] at h⟩, ?_⟩
    refine List.forall_mem_cons.mpr ⟨⟨_, hP 49 _ rfl, rfl, fun k t hk => match k, hk with
      | 0, h => by cases h; exact ⟨_, rfl, ⟨0, rfl, iv_w (iv_c (x := (0 : Int32)) (k := 0) (by decide)) (by decide)⟩⟩
      | 1, h => by cases h; exact ⟨_, rfl, ⟨0, rfl, iv_w (iv_c (x := (0 : Int32)) (k := 0) (by decide)) (by decide)⟩⟩
      | 2, h => by cases h; exact ⟨_, rfl, ⟨0, rfl, iv_w (iv_c (x := (0 : Int32)) (k := 0) (by decide)) (by decide)⟩⟩
      | 3, h => by cases h; exact ⟨_, rfl, ⟨0, rfl, iv_w (iv_c (x := (0 : Int32)) (k := 0) (by decide)) (by decide)⟩⟩
      | 4, h => by cases h; exact ⟨_, rfl, ⟨0, rfl, iv_w (iv_c (x := (0 : Int32)) (k := 0) (by decide)) (by decide)⟩⟩
      | 5, h => by cases h; exact ⟨_, rfl, ⟨0, rfl, iv_w (iv_c (x := (0 : Int32)) (k := 0) (by decide)) (by decide)⟩⟩
      | 6, h => by cases h; exact ⟨_, rfl, ⟨0, rfl, iv_w (iv_c (x := (0 : Int32)) (k := 0) (by decide)) (by decide)⟩⟩
      | 7, h => by cases h; exact ⟨_, rfl, ⟨0, rfl, iv_w (iv_c (x := (0 : Int32)) (k := 0) (by decide)) (by decide)⟩⟩
      | 8, h => by cases h; exact ⟨_, rfl, ⟨0, rfl, iv_w (iv_c (x := (0 : Int32)) (k := 0) (by decide)) (by decide)⟩⟩
      | 9, h => by cases h; exact ⟨_, rfl, ⟨0, rfl, iv_w (iv_c (x := (0 : Int32)) (k := 0) (by decide)) (by decide)⟩⟩
      | k + 10, h => by simp [RT1] at h⟩, ?_⟩
    refine List.forall_mem_cons.mpr ⟨⟨_, hP 50 _ rfl, rfl, fun k t hk => match k, hk with
      | 0, h => by cases h; exact ⟨_, rfl, ⟨0, rfl, iv_w (iv_c (x := (0 : Int32)) (k := 0) (by decide)) (by decide)⟩⟩
      | 1, h => by cases h; exact ⟨_, rfl, ⟨0, rfl, iv_w (iv_c (x := (0 : Int32)) (k := 0) (by decide)) (by decide)⟩⟩
      | 2, h => by cases h; exact ⟨_, rfl, ⟨0, rfl, iv_w (iv_c (x := (0 : Int32)) (k := 0) (by decide)) (by decide)⟩⟩
      | 3, h => by cases h; exact ⟨_, rfl, ⟨0, rfl, iv_w (iv_c (x := (0 : Int32)) (k := 0) (by decide)) (by decide)⟩⟩
      | 4, h => by cases h; exact ⟨_, rfl, ⟨0, rfl, iv_w (iv_c (x := (0 : Int32)) (k := 0) (by decide)) (by decide)⟩⟩
      | 5, h => by cases h; exact ⟨_, rfl, ⟨_, rfl⟩⟩
      | 6, h => by cases h; exact ⟨_, rfl, ⟨q5_0_147_112, rfl, yl_get hD 53 rfl rfl⟩⟩
      | 7, h => by cases h; exact ⟨_, rfl, ⟨q16_1_147_113, rfl, yl_get hD 51 rfl rfl⟩⟩
      | 8, h => by cases h; exact ⟨_, rfl, ⟨q29_5_147_117, rfl, yl_get hD 41 rfl rfl⟩⟩
      | 9, h => by cases h; exact ⟨_, rfl, ⟨q38_6_147_118, rfl, yl_get hD 52 rfl rfl⟩⟩
      | k + 10, h => by simp [RT1] at h⟩, ?_⟩
    refine List.forall_mem_cons.mpr ⟨⟨_, hP 51 _ rfl, rfl, fun k t hk => match k, hk with
      | 0, h => by cases h; exact ⟨_, rfl, ⟨0, rfl, iv_w (iv_c (x := (0 : Int32)) (k := 0) (by decide)) (by decide)⟩⟩
      | 1, h => by cases h; exact ⟨_, rfl, ⟨q7_0_20_2_147_114, rfl, yl_get hD 38 rfl rfl⟩⟩
      | 2, h => by cases h; exact ⟨_, rfl, ⟨q15_1_20_3_147_115, rfl, yl_get hD 39 rfl rfl⟩⟩
      | 3, h => by cases h; exact ⟨_, rfl, ⟨q23_2_20_4_147_116, rfl, yl_get hD 40 rfl rfl⟩⟩
      | k + 4, h => by simp [RT1] at h⟩, ?_⟩
    refine List.forall_mem_cons.mpr ⟨⟨_, .int, _, rfl, hP 52 _ rfl, (fun _ _ => ⟨_, rfl, iv_top _⟩)⟩, ?_⟩
    refine List.forall_mem_cons.mpr ⟨⟨_, hP 53 _ rfl, rfl, fun k t hk => match k, hk with
      | 0, h => by cases h; exact ⟨_, rfl, ⟨0, rfl, iv_w (iv_c (x := (0 : Int32)) (k := 0) (by decide)) (by decide)⟩⟩
      | 1, h => by cases h; exact ⟨_, rfl, ⟨2, rfl, iv_w (iv_c (x := (2 : Int32)) (k := 2) (by decide)) (by decide)⟩⟩
      | 2, h => by cases h; exact ⟨_, rfl, ⟨0, rfl, iv_w (iv_c (x := (0 : Int32)) (k := 0) (by decide)) (by decide)⟩⟩
      | 3, h => by cases h; exact ⟨_, rfl, ⟨0, rfl, iv_w (iv_c (x := (0 : Int32)) (k := 0) (by decide)) (by decide)⟩⟩
      | 4, h => by cases h; exact ⟨_, rfl, ⟨0, rfl, iv_w (iv_c (x := (0 : Int32)) (k := 0) (by decide)) (by decide)⟩⟩
      | k + 5, h => by simp [RT1] at h⟩, ?_⟩
    refine List.forall_mem_cons.mpr ⟨⟨_, .int, _, rfl, hP 54 _ rfl, (fun _ _ => ⟨_, rfl, iv_top _⟩)⟩, ?_⟩
    refine List.forall_mem_cons.mpr ⟨⟨_, .int, _, rfl, hP 55 _ rfl, (fun _ _ => ⟨_, rfl, iv_top _⟩)⟩, ?_⟩
    refine List.forall_mem_cons.mpr ⟨⟨_, .int, _, rfl, hP 56 _ rfl, (fun _ _ => ⟨_, rfl, iv_top _⟩)⟩, ?_⟩
    refine List.forall_mem_cons.mpr ⟨⟨_, (.object "SixStroke$Person"), _, rfl, hP 57 _ rfl, (fun j hj => match j, hj with
      | 0, _ => ⟨q56_7_147_136, rfl, yl_get hD 58 rfl rfl⟩
      | 1, _ => ⟨q56_8_147_137, rfl, yl_get hD 59 rfl rfl⟩
      | 2, _ => ⟨q56_9_147_138, rfl, yl_get hD 60 rfl rfl⟩
      | 3, _ => ⟨q56_10_147_139, rfl, yl_get hD 61 rfl rfl⟩
      | 4, _ => ⟨q56_11_147_140, rfl, yl_get hD 62 rfl rfl⟩
      | 5, _ => ⟨q56_12_147_141, rfl, yl_get hD 63 rfl rfl⟩
      | 6, _ => ⟨q56_13_147_142, rfl, yl_get hD 64 rfl rfl⟩
      | 7, _ => ⟨q56_14_147_143, rfl, yl_get hD 65 rfl rfl⟩
      | k + 8, h => absurd (show k + 8 < 8 from h) (by omega))⟩, ?_⟩
    refine List.forall_mem_cons.mpr ⟨⟨_, hP 58 _ rfl, rfl, fun k t hk => match k, hk with
      | 0, h => by cases h; exact ⟨_, rfl, ⟨0, rfl, iv_w (iv_c (x := (0 : Int32)) (k := 0) (by decide)) (by decide)⟩⟩
      | 1, h => by cases h; exact ⟨_, rfl, ⟨0, rfl, iv_w (iv_c (x := (0 : Int32)) (k := 0) (by decide)) (by decide)⟩⟩
      | 2, h => by cases h; exact ⟨_, rfl, ⟨0, rfl, iv_w (iv_c (x := (0 : Int32)) (k := 0) (by decide)) (by decide)⟩⟩
      | 3, h => by cases h; exact ⟨_, rfl, ⟨0, rfl, iv_w (iv_c (x := (0 : Int32)) (k := 0) (by decide)) (by decide)⟩⟩
      | 4, h => by cases h; exact ⟨_, rfl, ⟨0, rfl, iv_w (iv_c (x := (0 : Int32)) (k := 0) (by decide)) (by decide)⟩⟩
      | 5, h => by cases h; exact ⟨_, rfl, ⟨0, rfl, iv_w (iv_c (x := (0 : Int32)) (k := 0) (by decide)) (by decide)⟩⟩
      | 6, h => by cases h; exact ⟨_, rfl, ⟨0, rfl, iv_w (iv_c (x := (0 : Int32)) (k := 0) (by decide)) (by decide)⟩⟩
      | 7, h => by cases h; exact ⟨_, rfl, ⟨0, rfl, iv_w (iv_c (x := (0 : Int32)) (k := 0) (by decide)) (by decide)⟩⟩
      | 8, h => by cases h; exact ⟨_, rfl, ⟨0, rfl, iv_w (iv_c (x := (0 : Int32)) (k := 0) (by decide)) (by decide)⟩⟩
      | 9, h => by cases h; exact ⟨_, rfl, ⟨0, rfl, iv_w (iv_c (x := (0 : Int32)) (k := 0) (by decide)) (by decide)⟩⟩
      | k + 10, h => by simp [RT1] at h⟩, ?_⟩
    refine List.forall_mem_cons.mpr ⟨⟨_, hP 59 _ rfl, rfl, fun k t hk => match k, hk with
      | 0, h => by cases h; exact ⟨_, rfl, ⟨0, rfl, iv_w (iv_c (x := (0 : Int32)) (k := 0) (by decide)) (by decide)⟩⟩
      | 1, h => by cases h; exact ⟨_, rfl, ⟨0, rfl, iv_w (iv_c (x := (0 : Int32)) (k := 0) (by decide)) (by decide)⟩⟩
      | 2, h => by cases h; exact ⟨_, rfl, ⟨0, rfl, iv_w (iv_c (x := (0 : Int32)) (k := 0) (by decide)) (by decide)⟩⟩
      | 3, h => by cases h; exact ⟨_, rfl, ⟨0, rfl, iv_w (iv_c (x := (0 : Int32)) (k := 0) (by decide)) (by decide)⟩⟩
      | 4, h => by cases h; exact ⟨_, rfl, ⟨0, rfl, iv_w (iv_c (x := (0 : Int32)) (k := 0) (by decide)) (by decide)⟩⟩
      | 5, h => by cases h; exact ⟨_, rfl, ⟨0, rfl, iv_w (iv_c (x := (0 : Int32)) (k := 0) (by decide)) (by decide)⟩⟩
      | 6, h => by cases h; exact ⟨_, rfl, ⟨0, rfl, iv_w (iv_c (x := (0 : Int32)) (k := 0) (by decide)) (by decide)⟩⟩
      | 7, h => by cases h; exact ⟨_, rfl, ⟨0, rfl, iv_w (iv_c (x := (0 : Int32)) (k := 0) (by decide)) (by decide)⟩⟩
      | 8, h => by cases h; exact ⟨_, rfl, ⟨0, rfl, iv_w (iv_c (x := (0 : Int32)) (k := 0) (by decide)) (by decide)⟩⟩
      | 9, h => by cases h; exact ⟨_, rfl, ⟨0, rfl, iv_w (iv_c (x := (0 : Int32)) (k := 0) (by decide)) (by decide)⟩⟩
      | k + 10, h => by simp [RT1] at h⟩, ?_⟩
    refine List.forall_mem_cons.mpr ⟨⟨_, hP 60 _ rfl, rfl, fun k t hk => match k, hk with
      | 0, h => by cases h; exact ⟨_, rfl, ⟨0, rfl, iv_w (iv_c (x := (0 : Int32)) (k := 0) (by decide)) (by decide)⟩⟩
      | 1, h => by cases h; exact ⟨_, rfl, ⟨0, rfl, iv_w (iv_c (x := (0 : Int32)) (k := 0) (by decide)) (by decide)⟩⟩
      | 2, h => by cases h; exact ⟨_, rfl, ⟨0, rfl, iv_w (iv_c (x := (0 : Int32)) (k := 0) (by decide)) (by decide)⟩⟩
      | 3, h => by cases h; exact ⟨_, rfl, ⟨0, rfl, iv_w (iv_c (x := (0 : Int32)) (k := 0) (by decide)) (by decide)⟩⟩
      | 4, h => by cases h; exact ⟨_, rfl, ⟨0, rfl, iv_w (iv_c (x := (0 : Int32)) (k := 0) (by decide)) (by decide)⟩⟩
      | 5, h => by cases h; exact ⟨_, rfl, ⟨0, rfl, iv_w (iv_c (x := (0 : Int32)) (k := 0) (by decide)) (by decide)⟩⟩
      | 6, h => by cases h; exact ⟨_, rfl, ⟨0, rfl, iv_w (iv_c (x := (0 : Int32)) (k := 0) (by decide)) (by decide)⟩⟩
      | 7, h => by cases h; exact ⟨_, rfl, ⟨0, rfl, iv_w (iv_c (x := (0 : Int32)) (k := 0) (by decide)) (by decide)⟩⟩
      | 8, h => by cases h; exact ⟨_, rfl, ⟨0, rfl, iv_w (iv_c (x := (0 : Int32)) (k := 0) (by decide)) (by decide)⟩⟩
      | 9, h => by cases h; exact ⟨_, rfl, ⟨0, rfl, iv_w (iv_c (x := (0 : Int32)) (k := 0) (by decide)) (by decide)⟩⟩
      | k + 10, h => by simp [RT1] at h⟩, ?_⟩
    refine List.forall_mem_cons.mpr ⟨⟨_, hP 61 _ rfl, rfl, fun k t hk => match k, hk with
      | 0, h => by cases h; exact ⟨_, rfl, ⟨0, rfl, iv_w (iv_c (x := (0 : Int32)) (k := 0) (by decide)) (by decide)⟩⟩
      | 1, h => by cases h; exact ⟨_, rfl, ⟨0, rfl, iv_w (iv_c (x := (0 : Int32)) (k := 0) (by decide)) (by decide)⟩⟩
      | 2, h => by cases h; exact ⟨_, rfl, ⟨0, rfl, iv_w (iv_c (x := (0 : Int32)) (k := 0) (by decide)) (by decide)⟩⟩
      | 3, h => by cases h; exact ⟨_, rfl, ⟨0, rfl, iv_w (iv_c (x := (0 : Int32)) (k := 0) (by decide)) (by decide)⟩⟩
      | 4, h => by cases h; exact ⟨_, rfl, ⟨0, rfl, iv_w (iv_c (x := (0 : Int32)) (k := 0) (by decide)) (by decide)⟩⟩
      | 5, h => by cases h; exact ⟨_, rfl, ⟨0, rfl, iv_w (iv_c (x := (0 : Int32)) (k := 0) (by decide)) (by decide)⟩⟩
      | 6, h => by cases h; exact ⟨_, rfl, ⟨0, rfl, iv_w (iv_c (x := (0 : Int32)) (k := 0) (by decide)) (by decide)⟩⟩
      | 7, h => by cases h; exact ⟨_, rfl, ⟨0, rfl, iv_w (iv_c (x := (0 : Int32)) (k := 0) (by decide)) (by decide)⟩⟩
      | 8, h => by cases h; exact ⟨_, rfl, ⟨0, rfl, iv_w (iv_c (x := (0 : Int32)) (k := 0) (by decide)) (by decide)⟩⟩
      | 9, h => by cases h; exact ⟨_, rfl, ⟨0, rfl, iv_w (iv_c (x := (0 : Int32)) (k := 0) (by decide)) (by decide)⟩⟩
      | k + 10, h => by simp [RT1] at h⟩, ?_⟩
    refine List.forall_mem_cons.mpr ⟨⟨_, hP 62 _ rfl, rfl, fun k t hk => match k, hk with
      | 0, h => by cases h; exact ⟨_, rfl, ⟨0, rfl, iv_w (iv_c (x := (0 : Int32)) (k := 0) (by decide)) (by decide)⟩⟩
      | 1, h => by cases h; exact ⟨_, rfl, ⟨0, rfl, iv_w (iv_c (x := (0 : Int32)) (k := 0) (by decide)) (by decide)⟩⟩
      | 2, h => by cases h; exact ⟨_, rfl, ⟨0, rfl, iv_w (iv_c (x := (0 : Int32)) (k := 0) (by decide)) (by decide)⟩⟩
      | 3, h => by cases h; exact ⟨_, rfl, ⟨0, rfl, iv_w (iv_c (x := (0 : Int32)) (k := 0) (by decide)) (by decide)⟩⟩
      | 4, h => by cases h; exact ⟨_, rfl, ⟨0, rfl, iv_w (iv_c (x := (0 : Int32)) (k := 0) (by decide)) (by decide)⟩⟩
      | 5, h => by cases h; exact ⟨_, rfl, ⟨0, rfl, iv_w (iv_c (x := (0 : Int32)) (k := 0) (by decide)) (by decide)⟩⟩
      | 6, h => by cases h; exact ⟨_, rfl, ⟨0, rfl, iv_w (iv_c (x := (0 : Int32)) (k := 0) (by decide)) (by decide)⟩⟩
      | 7, h => by cases h; exact ⟨_, rfl, ⟨0, rfl, iv_w (iv_c (x := (0 : Int32)) (k := 0) (by decide)) (by decide)⟩⟩
      | 8, h => by cases h; exact ⟨_, rfl, ⟨0, rfl, iv_w (iv_c (x := (0 : Int32)) (k := 0) (by decide)) (by decide)⟩⟩
      | 9, h => by cases h; exact ⟨_, rfl, ⟨0, rfl, iv_w (iv_c (x := (0 : Int32)) (k := 0) (by decide)) (by decide)⟩⟩
      | k + 10, h => by simp [RT1] at h⟩, ?_⟩
    refine List.forall_mem_cons.mpr ⟨⟨_, hP 63 _ rfl, rfl, fun k t hk => match k, hk with
      | 0, h => by cases h; exact ⟨_, rfl, ⟨0, rfl, iv_w (iv_c (x := (0 : Int32)) (k := 0) (by decide)) (by decide)⟩⟩
      | 1, h => by cases h; exact ⟨_, rfl, ⟨0, rfl, iv_w (iv_c (x := (0 : Int32)) (k := 0) (by decide)) (by decide)⟩⟩
      | 2, h => by cases h; exact ⟨_, rfl, ⟨0, rfl, iv_w (iv_c (x := (0 : Int32)) (k := 0) (by decide)) (by decide)⟩⟩
      | 3, h => by cases h; exact ⟨_, rfl, ⟨0, rfl, iv_w (iv_c (x := (0 : Int32)) (k := 0) (by decide)) (by decide)⟩⟩
      | 4, h => by cases h; exact ⟨_, rfl, ⟨0, rfl, iv_w (iv_c (x := (0 : Int32)) (k := 0) (by decide)) (by decide)⟩⟩
      | 5, h => by cases h; exact ⟨_, rfl, ⟨0, rfl, iv_w (iv_c (x := (0 : Int32)) (k := 0) (by decide)) (by decide)⟩⟩
      | 6, h => by cases h; exact ⟨_, rfl, ⟨0, rfl, iv_w (iv_c (x := (0 : Int32)) (k := 0) (by decide)) (by decide)⟩⟩
      | 7, h => by cases h; exact ⟨_, rfl, ⟨0, rfl, iv_w (iv_c (x := (0 : Int32)) (k := 0) (by decide)) (by decide)⟩⟩
      | 8, h => by cases h; exact ⟨_, rfl, ⟨0, rfl, iv_w (iv_c (x := (0 : Int32)) (k := 0) (by decide)) (by decide)⟩⟩
      | 9, h => by cases h; exact ⟨_, rfl, ⟨0, rfl, iv_w (iv_c (x := (0 : Int32)) (k := 0) (by decide)) (by decide)⟩⟩
      | k + 10, h => by simp [RT1] at h⟩, ?_⟩
    refine List.forall_mem_cons.mpr ⟨⟨_, hP 64 _ rfl, rfl, fun k t hk => match k, hk with
      | 0, h => by cases h; exact ⟨_, rfl, ⟨0, rfl, iv_w (iv_c (x := (0 : Int32)) (k := 0) (by decide)) (by decide)⟩⟩
      | 1, h => by cases h; exact ⟨_, rfl, ⟨0, rfl, iv_w (iv_c (x := (0 : Int32)) (k := 0) (by decide)) (by decide)⟩⟩
      | 2, h => by cases h; exact ⟨_, rfl, ⟨0, rfl, iv_w (iv_c (x := (0 : Int32)) (k := 0) (by decide)) (by decide)⟩⟩
      | 3, h => by cases h; exact ⟨_, rfl, ⟨0, rfl, iv_w (iv_c (x := (0 : Int32)) (k := 0) (by decide)) (by decide)⟩⟩
      | 4, h => by cases h; exact ⟨_, rfl, ⟨0, rfl, iv_w (iv_c (x := (0 : Int32)) (k := 0) (by decide)) (by decide)⟩⟩
      | 5, h => by cases h; exact ⟨_, rfl, ⟨0, rfl, iv_w (iv_c (x := (0 : Int32)) (k := 0) (by decide)) (by decide)⟩⟩
      | 6, h => by cases h; exact ⟨_, rfl, ⟨0, rfl, iv_w (iv_c (x := (0 : Int32)) (k := 0) (by decide)) (by decide)⟩⟩
      | 7, h => by cases h; exact ⟨_, rfl, ⟨0, rfl, iv_w (iv_c (x := (0 : Int32)) (k := 0) (by decide)) (by decide)⟩⟩
      | 8, h => by cases h; exact ⟨_, rfl, ⟨0, rfl, iv_w (iv_c (x := (0 : Int32)) (k := 0) (by decide)) (by decide)⟩⟩
      | 9, h => by cases h; exact ⟨_, rfl, ⟨0, rfl, iv_w (iv_c (x := (0 : Int32)) (k := 0) (by decide)) (by decide)⟩⟩
      | k + 10, h => by simp [RT1] at h⟩, ?_⟩
    refine List.forall_mem_cons.mpr ⟨⟨_, hP 65 _ rfl, rfl, fun k t hk => match k, hk with
      | 0, h => by cases h; exact ⟨_, rfl, ⟨0, rfl, iv_w (iv_c (x := (0 : Int32)) (k := 0) (by decide)) (by decide)⟩⟩
      | 1, h => by cases h; exact ⟨_, rfl, ⟨0, rfl, iv_w (iv_c (x := (0 : Int32)) (k := 0) (by decide)) (by decide)⟩⟩
      | 2, h => by cases h; exact ⟨_, rfl, ⟨0, rfl, iv_w (iv_c (x := (0 : Int32)) (k := 0) (by decide)) (by decide)⟩⟩
      | 3, h => by cases h; exact ⟨_, rfl, ⟨0, rfl, iv_w (iv_c (x := (0 : Int32)) (k := 0) (by decide)) (by decide)⟩⟩
      | 4, h => by cases h; exact ⟨_, rfl, ⟨0, rfl, iv_w (iv_c (x := (0 : Int32)) (k := 0) (by decide)) (by decide)⟩⟩
      | 5, h => by cases h; exact ⟨_, rfl, ⟨0, rfl, iv_w (iv_c (x := (0 : Int32)) (k := 0) (by decide)) (by decide)⟩⟩
      | 6, h => by cases h; exact ⟨_, rfl, ⟨0, rfl, iv_w (iv_c (x := (0 : Int32)) (k := 0) (by decide)) (by decide)⟩⟩
      | 7, h => by cases h; exact ⟨_, rfl, ⟨0, rfl, iv_w (iv_c (x := (0 : Int32)) (k := 0) (by decide)) (by decide)⟩⟩
      | 8, h => by cases h; exact ⟨_, rfl, ⟨0, rfl, iv_w (iv_c (x := (0 : Int32)) (k := 0) (by decide)) (by decide)⟩⟩
      | 9, h => by cases h; exact ⟨_, rfl, ⟨0, rfl, iv_w (iv_c (x := (0 : Int32)) (k := 0) (by decide)) (by decide)⟩⟩
      | k + 10, h => by simp [RT1] at h⟩, ?_⟩
    refine List.forall_mem_cons.mpr ⟨⟨_, hP 66 _ rfl, rfl, fun k t hk => match k, hk with
      | 0, h => by cases h; exact ⟨_, rfl, ⟨0, rfl, iv_w (iv_c (x := (0 : Int32)) (k := 0) (by decide)) (by decide)⟩⟩
      | 1, h => by cases h; exact ⟨_, rfl, ⟨0, rfl, iv_w (iv_c (x := (0 : Int32)) (k := 0) (by decide)) (by decide)⟩⟩
      | 2, h => by cases h; exact ⟨_, rfl, ⟨0, rfl, iv_w (iv_c (x := (0 : Int32)) (k := 0) (by decide)) (by decide)⟩⟩
      | 3, h => by cases h; exact ⟨_, rfl, ⟨0, rfl, iv_w (iv_c (x := (0 : Int32)) (k := 0) (by decide)) (by decide)⟩⟩
      | 4, h => by cases h; exact ⟨_, rfl, ⟨0, rfl, iv_w (iv_c (x := (0 : Int32)) (k := 0) (by decide)) (by decide)⟩⟩
      | 5, h => by cases h; exact ⟨_, rfl, ⟨_, rfl⟩⟩
      | 6, h => by cases h; exact ⟨_, rfl, ⟨q5_0_147_129, rfl, yl_get hD 69 rfl rfl⟩⟩
      | 7, h => by cases h; exact ⟨_, rfl, ⟨q16_1_147_130, rfl, yl_get hD 67 rfl rfl⟩⟩
      | 8, h => by cases h; exact ⟨_, rfl, ⟨q29_5_147_134, rfl, yl_get hD 57 rfl rfl⟩⟩
      | 9, h => by cases h; exact ⟨_, rfl, ⟨q38_6_147_135, rfl, yl_get hD 68 rfl rfl⟩⟩
      | k + 10, h => by simp [RT1] at h⟩, ?_⟩
    refine List.forall_mem_cons.mpr ⟨⟨_, hP 67 _ rfl, rfl, fun k t hk => match k, hk with
      | 0, h => by cases h; exact ⟨_, rfl, ⟨0, rfl, iv_w (iv_c (x := (0 : Int32)) (k := 0) (by decide)) (by decide)⟩⟩
      | 1, h => by cases h; exact ⟨_, rfl, ⟨q7_0_20_2_147_131, rfl, yl_get hD 54 rfl rfl⟩⟩
      | 2, h => by cases h; exact ⟨_, rfl, ⟨q15_1_20_3_147_132, rfl, yl_get hD 55 rfl rfl⟩⟩
      | 3, h => by cases h; exact ⟨_, rfl, ⟨q23_2_20_4_147_133, rfl, yl_get hD 56 rfl rfl⟩⟩
      | k + 4, h => by simp [RT1] at h⟩, ?_⟩
    refine List.forall_mem_cons.mpr ⟨⟨_, .int, _, rfl, hP 68 _ rfl, (fun _ _ => ⟨_, rfl, iv_top _⟩)⟩, ?_⟩
    refine List.forall_mem_cons.mpr ⟨⟨_, hP 69 _ rfl, rfl, fun k t hk => match k, hk with
      | 0, h => by cases h; exact ⟨_, rfl, ⟨0, rfl, iv_w (iv_c (x := (0 : Int32)) (k := 0) (by decide)) (by decide)⟩⟩
      | 1, h => by cases h; exact ⟨_, rfl, ⟨2, rfl, iv_w (iv_c (x := (2 : Int32)) (k := 2) (by decide)) (by decide)⟩⟩
      | 2, h => by cases h; exact ⟨_, rfl, ⟨0, rfl, iv_w (iv_c (x := (0 : Int32)) (k := 0) (by decide)) (by decide)⟩⟩
      | 3, h => by cases h; exact ⟨_, rfl, ⟨0, rfl, iv_w (iv_c (x := (0 : Int32)) (k := 0) (by decide)) (by decide)⟩⟩
      | 4, h => by cases h; exact ⟨_, rfl, ⟨0, rfl, iv_w (iv_c (x := (0 : Int32)) (k := 0) (by decide)) (by decide)⟩⟩
      | k + 5, h => by simp [RT1] at h⟩, ?_⟩
    refine List.forall_mem_cons.mpr ⟨⟨_, .int, _, rfl, hP 70 _ rfl, (fun _ _ => ⟨_, rfl, iv_top _⟩)⟩, ?_⟩
    refine List.forall_mem_cons.mpr ⟨⟨_, .int, _, rfl, hP 71 _ rfl, (fun _ _ => ⟨_, rfl, iv_top _⟩)⟩, ?_⟩
    refine List.forall_mem_cons.mpr ⟨⟨_, .int, _, rfl, hP 72 _ rfl, (fun _ _ => ⟨_, rfl, iv_top _⟩)⟩, ?_⟩
    refine List.forall_mem_cons.mpr ⟨⟨_, (.object "SixStroke$Person"), _, rfl, hP 73 _ rfl, (fun j hj => match j, hj with
      | 0, _ => ⟨q56_7_147_153, rfl, yl_get hD 74 rfl rfl⟩
      | 1, _ => ⟨q56_8_147_154, rfl, yl_get hD 75 rfl rfl⟩
      | 2, _ => ⟨q56_9_147_155, rfl, yl_get hD 76 rfl rfl⟩
      | 3, _ => ⟨q56_10_147_156, rfl, yl_get hD 77 rfl rfl⟩
      | 4, _ => ⟨q56_11_147_157, rfl, yl_get hD 78 rfl rfl⟩
      | 5, _ => ⟨q56_12_147_158, rfl, yl_get hD 79 rfl rfl⟩
      | 6, _ => ⟨q56_13_147_159, rfl, yl_get hD 80 rfl rfl⟩
      | 7, _ => ⟨q56_14_147_160, rfl, yl_get hD 81 rfl rfl⟩
      | k + 8, h => absurd (show k + 8 < 8 from h) (by omega))⟩, ?_⟩
    refine List.forall_mem_cons.mpr ⟨⟨_, hP 74 _ rfl, rfl, fun k t hk => match k, hk with
      | 0, h => by cases h; exact ⟨_, rfl, ⟨0, rfl, iv_w (iv_c (x := (0 : Int32)) (k := 0) (by decide)) (by decide)⟩⟩
      | 1, h => by cases h; exact ⟨_, rfl, ⟨0, rfl, iv_w (iv_c (x := (0 : Int32)) (k := 0) (by decide)) (by decide)⟩⟩
      | 2, h => by cases h; exact ⟨_, rfl, ⟨0, rfl, iv_w (iv_c (x := (0 : Int32)) (k := 0) (by decide)) (by decide)⟩⟩
      | 3, h => by cases h; exact ⟨_, rfl, ⟨0, rfl, iv_w (iv_c (x := (0 : Int32)) (k := 0) (by decide)) (by decide)⟩⟩
      | 4, h => by cases h; exact ⟨_, rfl, ⟨0, rfl, iv_w (iv_c (x := (0 : Int32)) (k := 0) (by decide)) (by decide)⟩⟩
      | 5, h => by cases h; exact ⟨_, rfl, ⟨0, rfl, iv_w (iv_c (x := (0 : Int32)) (k := 0) (by decide)) (by decide)⟩⟩
      | 6, h => by cases h; exact ⟨_, rfl, ⟨0, rfl, iv_w (iv_c (x := (0 : Int32)) (k := 0) (by decide)) (by decide)⟩⟩
      | 7, h => by cases h; exact ⟨_, rfl, ⟨0, rfl, iv_w (iv_c (x := (0 : Int32)) (k := 0) (by decide)) (by decide)⟩⟩
      | 8, h => by cases h; exact ⟨_, rfl, ⟨0, rfl, iv_w (iv_c (x := (0 : Int32)) (k := 0) (by decide)) (by decide)⟩⟩
      | 9, h => by cases h; exact ⟨_, rfl, ⟨0, rfl, iv_w (iv_c (x := (0 : Int32)) (k := 0) (by decide)) (by decide)⟩⟩
      | k + 10, h => by simp [RT1] at h⟩, ?_⟩
    refine List.forall_mem_cons.mpr ⟨⟨_, hP 75 _ rfl, rfl, fun k t hk => match k, hk with
      | 0, h => by cases h; exact ⟨_, rfl, ⟨0, rfl, iv_w (iv_c (x := (0 : Int32)) (k := 0) (by decide)) (by decide)⟩⟩
      | 1, h => by cases h; exact ⟨_, rfl, ⟨0, rfl, iv_w (iv_c (x := (0 : Int32)) (k := 0) (by decide)) (by decide)⟩⟩
      | 2, h => by cases h; exact ⟨_, rfl, ⟨0, rfl, iv_w (iv_c (x := (0 : Int32)) (k := 0) (by decide)) (by decide)⟩⟩
      | 3, h => by cases h; exact ⟨_, rfl, ⟨0, rfl, iv_w (iv_c (x := (0 : Int32)) (k := 0) (by decide)) (by decide)⟩⟩
      | 4, h => by cases h; exact ⟨_, rfl, ⟨0, rfl, iv_w (iv_c (x := (0 : Int32)) (k := 0) (by decide)) (by decide)⟩⟩
      | 5, h => by cases h; exact ⟨_, rfl, ⟨0, rfl, iv_w (iv_c (x := (0 : Int32)) (k := 0) (by decide)) (by decide)⟩⟩
      | 6, h => by cases h; exact ⟨_, rfl, ⟨0, rfl, iv_w (iv_c (x := (0 : Int32)) (k := 0) (by decide)) (by decide)⟩⟩
      | 7, h => by cases h; exact ⟨_, rfl, ⟨0, rfl, iv_w (iv_c (x := (0 : Int32)) (k := 0) (by decide)) (by decide)⟩⟩
      | 8, h => by cases h; exact ⟨_, rfl, ⟨0, rfl, iv_w (iv_c (x := (0 : Int32)) (k := 0) (by decide)) (by decide)⟩⟩
      | 9, h => by cases h; exact ⟨_, rfl, ⟨0, rfl, iv_w (iv_c (x := (0 : Int32)) (k := 0) (by decide)) (by decide)⟩⟩
      | k + 10, h => by simp [RT1] at h⟩, ?_⟩
    refine List.forall_mem_cons.mpr ⟨⟨_, hP 76 _ rfl, rfl, fun k t hk => match k, hk with
      | 0, h => by cases h; exact ⟨_, rfl, ⟨0, rfl, iv_w (iv_c (x := (0 : Int32)) (k := 0) (by decide)) (by decide)⟩⟩
      | 1, h => by cases h; exact ⟨_, rfl, ⟨0, rfl, iv_w (iv_c (x := (0 : Int32)) (k := 0) (by decide)) (by decide)⟩⟩
      | 2, h => by cases h; exact ⟨_, rfl, ⟨0, rfl, iv_w (iv_c (x := (0 : Int32)) (k := 0) (by decide)) (by decide)⟩⟩
      | 3, h => by cases h; exact ⟨_, rfl, ⟨0, rfl, iv_w (iv_c (x := (0 : Int32)) (k := 0) (by decide)) (by decide)⟩⟩
      | 4, h => by cases h; exact ⟨_, rfl, ⟨0, rfl, iv_w (iv_c (x := (0 : Int32)) (k := 0) (by decide)) (by decide)⟩⟩
      | 5, h => by cases h; exact ⟨_, rfl, ⟨0, rfl, iv_w (iv_c (x := (0 : Int32)) (k := 0) (by decide)) (by decide)⟩⟩
      | 6, h => by cases h; exact ⟨_, rfl, ⟨0, rfl, iv_w (iv_c (x := (0 : Int32)) (k := 0) (by decide)) (by decide)⟩⟩
      | 7, h => by cases h; exact ⟨_, rfl, ⟨0, rfl, iv_w (iv_c (x := (0 : Int32)) (k := 0) (by decide)) (by decide)⟩⟩
      | 8, h => by cases h; exact ⟨_, rfl, ⟨0, rfl, iv_w (iv_c (x := (0 : Int32)) (k := 0) (by decide)) (by decide)⟩⟩
      | 9, h => by cases h; exact ⟨_, rfl, ⟨0, rfl, iv_w (iv_c (x := (0 : Int32)) (k := 0) (by decide)) (by decide)⟩⟩
      | k + 10, h => by simp [RT1] at h⟩, ?_⟩
    refine List.forall_mem_cons.mpr ⟨⟨_, hP 77 _ rfl, rfl, fun k t hk => match k, hk with
      | 0, h => by cases h; exact ⟨_, rfl, ⟨0, rfl, iv_w (iv_c (x := (0 : Int32)) (k := 0) (by decide)) (by decide)⟩⟩
      | 1, h => by cases h; exact ⟨_, rfl, ⟨0, rfl, iv_w (iv_c (x := (0 : Int32)) (k := 0) (by decide)) (by decide)⟩⟩
      | 2, h => by cases h; exact ⟨_, rfl, ⟨0, rfl, iv_w (iv_c (x := (0 : Int32)) (k := 0) (by decide)) (by decide)⟩⟩
      | 3, h => by cases h; exact ⟨_, rfl, ⟨0, rfl, iv_w (iv_c (x := (0 : Int32)) (k := 0) (by decide)) (by decide)⟩⟩
      | 4, h => by cases h; exact ⟨_, rfl, ⟨0, rfl, iv_w (iv_c (x := (0 : Int32)) (k := 0) (by decide)) (by decide)⟩⟩
      | 5, h => by cases h; exact ⟨_, rfl, ⟨0, rfl, iv_w (iv_c (x := (0 : Int32)) (k := 0) (by decide)) (by decide)⟩⟩
      | 6, h => by cases h; exact ⟨_, rfl, ⟨0, rfl, iv_w (iv_c (x := (0 : Int32)) (k := 0) (by decide)) (by decide)⟩⟩
      | 7, h => by cases h; exact ⟨_, rfl, ⟨0, rfl, iv_w (iv_c (x := (0 : Int32)) (k := 0) (by decide)) (by decide)⟩⟩
      | 8, h => by cases h; exact ⟨_, rfl, ⟨0, rfl, iv_w (iv_c (x := (0 : Int32)) (k := 0) (by decide)) (by decide)⟩⟩
      | 9, h => by cases h; exact ⟨_, rfl, ⟨0, rfl, iv_w (iv_c (x := (0 : Int32)) (k := 0) (by decide)) (by decide)⟩⟩
      | k + 10, h => by simp [RT1] at h⟩, ?_⟩
    refine List.forall_mem_cons.mpr ⟨⟨_, hP 78 _ rfl, rfl, fun k t hk => match k, hk with
      | 0, h => by cases h; exact ⟨_, rfl, ⟨0, rfl, iv_w (iv_c (x := (0 : Int32)) (k := 0) (by decide)) (by decide)⟩⟩
      | 1, h => by cases h; exact ⟨_, rfl, ⟨0, rfl, iv_w (iv_c (x := (0 : Int32)) (k := 0) (by decide)) (by decide)⟩⟩
      | 2, h => by cases h; exact ⟨_, rfl, ⟨0, rfl, iv_w (iv_c (x := (0 : Int32)) (k := 0) (by decide)) (by decide)⟩⟩
      | 3, h => by cases h; exact ⟨_, rfl, ⟨0, rfl, iv_w (iv_c (x := (0 : Int32)) (k := 0) (by decide)) (by decide)⟩⟩
      | 4, h => by cases h; exact ⟨_, rfl, ⟨0, rfl, iv_w (iv_c (x := (0 : Int32)) (k := 0) (by decide)) (by decide)⟩⟩
      | 5, h => by cases h; exact ⟨_, rfl, ⟨0, rfl, iv_w (iv_c (x := (0 : Int32)) (k := 0) (by decide)) (by decide)⟩⟩
      | 6, h => by cases h; exact ⟨_, rfl, ⟨0, rfl, iv_w (iv_c (x := (0 : Int32)) (k := 0) (by decide)) (by decide)⟩⟩
      | 7, h => by cases h; exact ⟨_, rfl, ⟨0, rfl, iv_w (iv_c (x := (0 : Int32)) (k := 0) (by decide)) (by decide)⟩⟩
      | 8, h => by cases h; exact ⟨_, rfl, ⟨0, rfl, iv_w (iv_c (x := (0 : Int32)) (k := 0) (by decide)) (by decide)⟩⟩
      | 9, h => by cases h; exact ⟨_, rfl, ⟨0, rfl, iv_w (iv_c (x := (0 : Int32)) (k := 0) (by decide)) (by decide)⟩⟩
      | k + 10, h => by simp [RT1] at h⟩, ?_⟩
    refine List.forall_mem_cons.mpr ⟨⟨_, hP 79 _ rfl, rfl, fun k t hk => match k, hk with
      | 0, h => by cases h; exact ⟨_, rfl, ⟨0, rfl, iv_w (iv_c (x := (0 : Int32)) (k := 0) (by decide)) (by decide)⟩⟩
      | 1, h => by cases h; exact ⟨_, rfl, ⟨0, rfl, iv_w (iv_c (x := (0 : Int32)) (k := 0) (by decide)) (by decide)⟩⟩
      | 2, h => by cases h; exact ⟨_, rfl, ⟨0, rfl, iv_w (iv_c (x := (0 : Int32)) (k := 0) (by decide)) (by decide)⟩⟩
      | 3, h => by cases h; exact ⟨_, rfl, ⟨0, rfl, iv_w (iv_c (x := (0 : Int32)) (k := 0) (by decide)) (by decide)⟩⟩
      | 4, h => by cases h; exact ⟨_, rfl, ⟨0, rfl, iv_w (iv_c (x := (0 : Int32)) (k := 0) (by decide)) (by decide)⟩⟩
      | 5, h => by cases h; exact ⟨_, rfl, ⟨0, rfl, iv_w (iv_c (x := (0 : Int32)) (k := 0) (by decide)) (by decide)⟩⟩
      | 6, h => by cases h; exact ⟨_, rfl, ⟨0, rfl, iv_w (iv_c (x := (0 : Int32)) (k := 0) (by decide)) (by decide)⟩⟩
      | 7, h => by cases h; exact ⟨_, rfl, ⟨0, rfl, iv_w (iv_c (x := (0 : Int32)) (k := 0) (by decide)) (by decide)⟩⟩
      | 8, h => by cases h; exact ⟨_, rfl, ⟨0, rfl, iv_w (iv_c (x := (0 : Int32)) (k := 0) (by decide)) (by decide)⟩⟩
      | 9, h => by cases h; exact ⟨_, rfl, ⟨0, rfl, iv_w (iv_c (x := (0 : Int32)) (k := 0) (by decide)) (by decide)⟩⟩
      | k + 10, h => by simp [RT1] at h⟩, ?_⟩
    refine List.forall_mem_cons.mpr ⟨⟨_, hP 80 _ rfl, rfl, fun k t hk => match k, hk with
      | 0, h => by cases h; exact ⟨_, rfl, ⟨0, rfl, iv_w (iv_c (x := (0 : Int32)) (k := 0) (by decide)) (by decide)⟩⟩
      | 1, h => by cases h; exact ⟨_, rfl, ⟨0, rfl, iv_w (iv_c (x := (0 : Int32)) (k := 0) (by decide)) (by decide)⟩⟩
      | 2, h => by cases h; exact ⟨_, rfl, ⟨0, rfl, iv_w (iv_c (x := (0 : Int32)) (k := 0) (by decide)) (by decide)⟩⟩
      | 3, h => by cases h; exact ⟨_, rfl, ⟨0, rfl, iv_w (iv_c (x := (0 : Int32)) (k := 0) (by decide)) (by decide)⟩⟩
      | 4, h => by cases h; exact ⟨_, rfl, ⟨0, rfl, iv_w (iv_c (x := (0 : Int32)) (k := 0) (by decide)) (by decide)⟩⟩
      | 5, h => by cases h; exact ⟨_, rfl, ⟨0, rfl, iv_w (iv_c (x := (0 : Int32)) (k := 0) (by decide)) (by decide)⟩⟩
      | 6, h => by cases h; exact ⟨_, rfl, ⟨0, rfl, iv_w (iv_c (x := (0 : Int32)) (k := 0) (by decide)) (by decide)⟩⟩
      | 7, h => by cases h; exact ⟨_, rfl, ⟨0, rfl, iv_w (iv_c (x := (0 : Int32)) (k := 0) (by decide)) (by decide)⟩⟩
      | 8, h => by cases h; exact ⟨_, rfl, ⟨0, rfl, iv_w (iv_c (x := (0 : Int32)) (k := 0) (by decide)) (by decide)⟩⟩
      | 9, h => by cases h; exact ⟨_, rfl, ⟨0, rfl, iv_w (iv_c (x := (0 : Int32)) (k := 0) (by decide)) (by decide)⟩⟩
      | k + 10, h => by simp [RT1] at h⟩, ?_⟩
    refine List.forall_mem_cons.mpr ⟨⟨_, hP 81 _ rfl, rfl, fun k t hk => match k, hk with
      | 0, h => by cases h; exact ⟨_, rfl, ⟨0, rfl, iv_w (iv_c (x := (0 : Int32)) (k := 0) (by decide)) (by decide)⟩⟩
      | 1, h => by cases h; exact ⟨_, rfl, ⟨0, rfl, iv_w (iv_c (x := (0 : Int32)) (k := 0) (by decide)) (by decide)⟩⟩
      | 2, h => by cases h; exact ⟨_, rfl, ⟨0, rfl, iv_w (iv_c (x := (0 : Int32)) (k := 0) (by decide)) (by decide)⟩⟩
      | 3, h => by cases h; exact ⟨_, rfl, ⟨0, rfl, iv_w (iv_c (x := (0 : Int32)) (k := 0) (by decide)) (by decide)⟩⟩
      | 4, h => by cases h; exact ⟨_, rfl, ⟨0, rfl, iv_w (iv_c (x := (0 : Int32)) (k := 0) (by decide)) (by decide)⟩⟩
      | 5, h => by cases h; exact ⟨_, rfl, ⟨0, rfl, iv_w (iv_c (x := (0 : Int32)) (k := 0) (by decide)) (by decide)⟩⟩
      | 6, h => by cases h; exact ⟨_, rfl, ⟨0, rfl, iv_w (iv_c (x := (0 : Int32)) (k := 0) (by decide)) (by decide)⟩⟩
      | 7, h => by cases h; exact ⟨_, rfl, ⟨0, rfl, iv_w (iv_c (x := (0 : Int32)) (k := 0) (by decide)) (by decide)⟩⟩
      | 8, h => by cases h; exact ⟨_, rfl, ⟨0, rfl, iv_w (iv_c (x := (0 : Int32)) (k := 0) (by decide)) (by decide)⟩⟩
      | 9, h => by cases h; exact ⟨_, rfl, ⟨0, rfl, iv_w (iv_c (x := (0 : Int32)) (k := 0) (by decide)) (by decide)⟩⟩
      | k + 10, h => by simp [RT1] at h⟩, ?_⟩
    refine List.forall_mem_cons.mpr ⟨⟨_, hP 82 _ rfl, rfl, fun k t hk => match k, hk with
      | 0, h => by cases h; exact ⟨_, rfl, ⟨0, rfl, iv_w (iv_c (x := (0 : Int32)) (k := 0) (by decide)) (by decide)⟩⟩
      | 1, h => by cases h; exact ⟨_, rfl, ⟨0, rfl, iv_w (iv_c (x := (0 : Int32)) (k := 0) (by decide)) (by decide)⟩⟩
      | 2, h => by cases h; exact ⟨_, rfl, ⟨0, rfl, iv_w (iv_c (x := (0 : Int32)) (k := 0) (by decide)) (by decide)⟩⟩
      | 3, h => by cases h; exact ⟨_, rfl, ⟨0, rfl, iv_w (iv_c (x := (0 : Int32)) (k := 0) (by decide)) (by decide)⟩⟩
      | 4, h => by cases h; exact ⟨_, rfl, ⟨0, rfl, iv_w (iv_c (x := (0 : Int32)) (k := 0) (by decide)) (by decide)⟩⟩
      | 5, h => by cases h; exact ⟨_, rfl, ⟨_, rfl⟩⟩
      | 6, h => by cases h; exact ⟨_, rfl, ⟨q5_0_147_146, rfl, yl_get hD 85 rfl rfl⟩⟩
      | 7, h => by cases h; exact ⟨_, rfl, ⟨q16_1_147_147, rfl, yl_get hD 83 rfl rfl⟩⟩
      | 8, h => by cases h; exact ⟨_, rfl, ⟨q29_5_147_151, rfl, yl_get hD 73 rfl rfl⟩⟩
      | 9, h => by cases h; exact ⟨_, rfl, ⟨q38_6_147_152, rfl, yl_get hD 84 rfl rfl⟩⟩
      | k + 10, h => by simp [RT1] at h⟩, ?_⟩
    refine List.forall_mem_cons.mpr ⟨⟨_, hP 83 _ rfl, rfl, fun k t hk => match k, hk with
      | 0, h => by cases h; exact ⟨_, rfl, ⟨0, rfl, iv_w (iv_c (x := (0 : Int32)) (k := 0) (by decide)) (by decide)⟩⟩
      | 1, h => by cases h; exact ⟨_, rfl, ⟨q7_0_20_2_147_148, rfl, yl_get hD 70 rfl rfl⟩⟩
      | 2, h => by cases h; exact ⟨_, rfl, ⟨q15_1_20_3_147_149, rfl, yl_get hD 71 rfl rfl⟩⟩
      | 3, h => by cases h; exact ⟨_, rfl, ⟨q23_2_20_4_147_150, rfl, yl_get hD 72 rfl rfl⟩⟩
      | k + 4, h => by simp [RT1] at h⟩, ?_⟩
    refine List.forall_mem_cons.mpr ⟨⟨_, .int, _, rfl, hP 84 _ rfl, (fun _ _ => ⟨_, rfl, iv_top _⟩)⟩, ?_⟩
    refine List.forall_mem_cons.mpr ⟨⟨_, hP 85 _ rfl, rfl, fun k t hk => match k, hk with
      | 0, h => by cases h; exact ⟨_, rfl, ⟨0, rfl, iv_w (iv_c (x := (0 : Int32)) (k := 0) (by decide)) (by decide)⟩⟩
      | 1, h => by cases h; exact ⟨_, rfl, ⟨2, rfl, iv_w (iv_c (x := (2 : Int32)) (k := 2) (by decide)) (by decide)⟩⟩
      | 2, h => by cases h; exact ⟨_, rfl, ⟨0, rfl, iv_w (iv_c (x := (0 : Int32)) (k := 0) (by decide)) (by decide)⟩⟩
      | 3, h => by cases h; exact ⟨_, rfl, ⟨0, rfl, iv_w (iv_c (x := (0 : Int32)) (k := 0) (by decide)) (by decide)⟩⟩
      | 4, h => by cases h; exact ⟨_, rfl, ⟨0, rfl, iv_w (iv_c (x := (0 : Int32)) (k := 0) (by decide)) (by decide)⟩⟩
      | k + 5, h => by simp [RT1] at h⟩, ?_⟩
    refine List.forall_mem_cons.mpr ⟨⟨_, hP 86 _ rfl, rfl, fun k t hk => match k, hk with
      | 0, h => by cases h; exact ⟨_, rfl, ⟨0, rfl, iv_w (iv_c (x := (0 : Int32)) (k := 0) (by decide)) (by decide)⟩⟩
      | 1, h => by cases h; exact ⟨_, rfl, ⟨0, rfl, iv_w (iv_c (x := (0 : Int32)) (k := 0) (by decide)) (by decide)⟩⟩
      | 2, h => by cases h; exact ⟨_, rfl, ⟨0, rfl, iv_w (iv_c (x := (0 : Int32)) (k := 0) (by decide)) (by decide)⟩⟩
      | 3, h => by cases h; exact ⟨_, rfl, ⟨q7_0_173_163, rfl, yl_get hD 87 rfl rfl⟩⟩
      | k + 4, h => by simp [RT1] at h⟩, ?_⟩
    refine List.forall_mem_cons.mpr ⟨⟨_, .long, _, rfl, hP 87 _ rfl, (fun _ _ => ⟨_, rfl⟩)⟩, ?_⟩
    refine List.forall_mem_cons.mpr ⟨⟨_, hP 88 _ rfl, rfl, fun k t hk => match k, hk with
      | 0, h => by cases h; exact ⟨_, rfl, ⟨0, rfl, iv_w (iv_c (x := (0 : Int32)) (k := 0) (by decide)) (by decide)⟩⟩
      | 1, h => by cases h; exact ⟨_, rfl, ⟨0, rfl, iv_w (iv_c (x := (0 : Int32)) (k := 0) (by decide)) (by decide)⟩⟩
      | 2, h => by cases h; exact ⟨_, rfl, ⟨0, rfl, iv_w (iv_c (x := (0 : Int32)) (k := 0) (by decide)) (by decide)⟩⟩
      | 3, h => by cases h; exact ⟨_, rfl, ⟨q7_0_173_165, rfl, yl_get hD 89 rfl rfl⟩⟩
      | k + 4, h => by simp [RT1] at h⟩, ?_⟩
    refine List.forall_mem_cons.mpr ⟨⟨_, .long, _, rfl, hP 89 _ rfl, (fun _ _ => ⟨_, rfl⟩)⟩, ?_⟩
    refine List.forall_mem_cons.mpr ⟨⟨_, hP 90 _ rfl, rfl, fun k t hk => match k, hk with
      | 0, h => by cases h; exact ⟨_, rfl, ⟨0, rfl, iv_w (iv_c (x := (0 : Int32)) (k := 0) (by decide)) (by decide)⟩⟩
      | 1, h => by cases h; exact ⟨_, rfl, ⟨0, rfl, iv_w (iv_c (x := (0 : Int32)) (k := 0) (by decide)) (by decide)⟩⟩
      | 2, h => by cases h; exact ⟨_, rfl, ⟨0, rfl, iv_w (iv_c (x := (0 : Int32)) (k := 0) (by decide)) (by decide)⟩⟩
      | 3, h => by cases h; exact ⟨_, rfl, ⟨q7_0_173_167, rfl, yl_get hD 91 rfl rfl⟩⟩
      | k + 4, h => by simp [RT1] at h⟩, ?_⟩
    refine List.forall_mem_cons.mpr ⟨⟨_, .long, _, rfl, hP 91 _ rfl, (fun _ _ => ⟨_, rfl⟩)⟩, ?_⟩
    refine List.forall_mem_cons.mpr ⟨⟨_, hP 92 _ rfl, rfl, fun k t hk => match k, hk with
      | 0, h => by cases h; exact ⟨_, rfl, ⟨0, rfl, iv_w (iv_c (x := (0 : Int32)) (k := 0) (by decide)) (by decide)⟩⟩
      | 1, h => by cases h; exact ⟨_, rfl, ⟨0, rfl, iv_w (iv_c (x := (0 : Int32)) (k := 0) (by decide)) (by decide)⟩⟩
      | 2, h => by cases h; exact ⟨_, rfl, ⟨0, rfl, iv_w (iv_c (x := (0 : Int32)) (k := 0) (by decide)) (by decide)⟩⟩
      | 3, h => by cases h; exact ⟨_, rfl, ⟨q7_0_173_169, rfl, yl_get hD 93 rfl rfl⟩⟩
      | k + 4, h => by simp [RT1] at h⟩, ?_⟩
    refine List.forall_mem_cons.mpr ⟨⟨_, .long, _, rfl, hP 93 _ rfl, (fun _ _ => ⟨_, rfl⟩)⟩, ?_⟩
    exact fun _ h => absurd h List.not_mem_nil
  · obtain ⟨r, hr⟩ := h
    obtain ⟨k, e, h1, -⟩ := yl_inv hr
    exact hD.2 k _ h1
def ro_mod : List Nat := [10, 31, 32, 33, 34, 35, 36, 37, 38, 39, 30]
set_option maxHeartbeats 8000000 in
set_option maxRecDepth 100000 in
theorem ty_mod {D : va_G} {c0 : Nat → ClassId} {H : Heap} {A : Nat → Prop} {h0 : Nat} {q8_0 : Nat} {q17_1 : Nat} {q24_2 : Nat} {q31_3 : Nat} {q40_4 : Nat} {q47_5 : Nat} {q61_6 : Nat} {q70_7 : Nat} {q77_8 : Nat} {q85_9 : Nat} {q93_10 : Nat} {q100_11 : Nat} {q108_12 : Nat} {q116_13 : Nat} {q123_14 : Nat} {q131_15 : Nat} {q139_16 : Nat} {q147_17 : Nat} {q154_18 : Nat} {q161_19 : Nat} {q168_20 : Nat} {q191_21 : Nat} {q200_22 : Nat} {q208_23 : Nat} {g_217_24 : Nat → Int32} (hE : ∀ j : Nat, j < 16 → g_217_24 j = if j = 3 then 2 else 0) (hP : va_P D vwCl [(h0, .inr (10, [.int 0, .ref q8_0, .ref q17_1, .ref q24_2, .ref q31_3, .ref q40_4, .int 0, .ref q47_5, .int 0, .int 0, .int 0, .int 0, .int 0, .int 0, .int (-1), .ref q61_6, .long 0, .ref q70_7, .ref q77_8, .int 0, .ref q85_9, .ref q93_10, .int 0, .int 0, .ref q100_11, .ref q108_12, .ref q116_13, .int 0, .ref q123_14, .ref q131_15, .ref q139_16, .ref q147_17, .ref q154_18, .ref q161_19, .ref q168_20, .ref q191_21, .ref q200_22, .ref q208_23])), (q17_1, .inl (c0 0, 534, .inl (fun _ => 0))), (q24_2, .inl (c0 3, 3, .inr (.inl (fun _ => 0)))), (q31_3, .inl (c0 2, 3, .inl (fun _ => 0))), (q40_4, .inl (c0 1, 1600, .inl (fun _ => 0))), (q47_5, .inl (c0 0, 5, .inl (fun _ => 0))), (q61_6, .inl (c0 0, 178, .inl (fun _ => 0))), (q168_20, .inl (c0 0, 4, .inl (upd (upd (upd (upd (fun _ => 0) 0 (-1)) 1 (-1)) 2 (-1)) 3 (-1)))), (q191_21, .inl (c0 0, 4, .inl (fun _ => 0))), (q200_22, .inl (c0 3, 240, .inr (.inl (fun _ => 0)))), (q8_0, .inl (c0 0, 178, .inl g_217_24))] H) (hD : va_D A [(h0, .inr (10, [.int 0, .ref q8_0, .ref q17_1, .ref q24_2, .ref q31_3, .ref q40_4, .int 0, .ref q47_5, .int 0, .int 0, .int 0, .int 0, .int 0, .int 0, .int (-1), .ref q61_6, .long 0, .ref q70_7, .ref q77_8, .int 0, .ref q85_9, .ref q93_10, .int 0, .int 0, .ref q100_11, .ref q108_12, .ref q116_13, .int 0, .ref q123_14, .ref q131_15, .ref q139_16, .ref q147_17, .ref q154_18, .ref q161_19, .ref q168_20, .ref q191_21, .ref q200_22, .ref q208_23])), (q17_1, .inl (c0 0, 534, .inl (fun _ => 0))), (q24_2, .inl (c0 3, 3, .inr (.inl (fun _ => 0)))), (q31_3, .inl (c0 2, 3, .inl (fun _ => 0))), (q40_4, .inl (c0 1, 1600, .inl (fun _ => 0))), (q47_5, .inl (c0 0, 5, .inl (fun _ => 0))), (q61_6, .inl (c0 0, 178, .inl (fun _ => 0))), (q168_20, .inl (c0 0, 4, .inl (upd (upd (upd (upd (fun _ => 0) 0 (-1)) 1 (-1)) 2 (-1)) 3 (-1)))), (q191_21, .inl (c0 0, 4, .inl (fun _ => 0))), (q200_22, .inl (c0 3, 240, .inr (.inl (fun _ => 0)))), (q8_0, .inl (c0 0, 178, .inl g_217_24))]) : TI D vwCl (tysOf c0) (RT1 false) (yl [(h0, .inr (10, [.int 0, .ref q8_0, .ref q17_1, .ref q24_2, .ref q31_3, .ref q40_4, .int 0, .ref q47_5, .int 0, .int 0, .int 0, .int 0, .int 0, .int 0, .int (-1), .ref q61_6, .long 0, .ref q70_7, .ref q77_8, .int 0, .ref q85_9, .ref q93_10, .int 0, .int 0, .ref q100_11, .ref q108_12, .ref q116_13, .int 0, .ref q123_14, .ref q131_15, .ref q139_16, .ref q147_17, .ref q154_18, .ref q161_19, .ref q168_20, .ref q191_21, .ref q200_22, .ref q208_23])), (q17_1, .inl (c0 0, 534, .inl (fun _ => 0))), (q24_2, .inl (c0 3, 3, .inr (.inl (fun _ => 0)))), (q31_3, .inl (c0 2, 3, .inl (fun _ => 0))), (q40_4, .inl (c0 1, 1600, .inl (fun _ => 0))), (q47_5, .inl (c0 0, 5, .inl (fun _ => 0))), (q61_6, .inl (c0 0, 178, .inl (fun _ => 0))), (q168_20, .inl (c0 0, 4, .inl (upd (upd (upd (upd (fun _ => 0) 0 (-1)) 1 (-1)) 2 (-1)) 3 (-1)))), (q191_21, .inl (c0 0, 4, .inl (fun _ => 0))), (q200_22, .inl (c0 3, 240, .inr (.inl (fun _ => 0)))), (q8_0, .inl (c0 0, 178, .inl g_217_24))] ro_mod) H ∧ yl [(h0, .inr (10, [.int 0, .ref q8_0, .ref q17_1, .ref q24_2, .ref q31_3, .ref q40_4, .int 0, .ref q47_5, .int 0, .int 0, .int 0, .int 0, .int 0, .int 0, .int (-1), .ref q61_6, .long 0, .ref q70_7, .ref q77_8, .int 0, .ref q85_9, .ref q93_10, .int 0, .int 0, .ref q100_11, .ref q108_12, .ref q116_13, .int 0, .ref q123_14, .ref q131_15, .ref q139_16, .ref q147_17, .ref q154_18, .ref q161_19, .ref q168_20, .ref q191_21, .ref q200_22, .ref q208_23])), (q17_1, .inl (c0 0, 534, .inl (fun _ => 0))), (q24_2, .inl (c0 3, 3, .inr (.inl (fun _ => 0)))), (q31_3, .inl (c0 2, 3, .inl (fun _ => 0))), (q40_4, .inl (c0 1, 1600, .inl (fun _ => 0))), (q47_5, .inl (c0 0, 5, .inl (fun _ => 0))), (q61_6, .inl (c0 0, 178, .inl (fun _ => 0))), (q168_20, .inl (c0 0, 4, .inl (upd (upd (upd (upd (fun _ => 0) 0 (-1)) 1 (-1)) 2 (-1)) 3 (-1)))), (q191_21, .inl (c0 0, 4, .inl (fun _ => 0))), (q200_22, .inl (c0 3, 240, .inr (.inl (fun _ => 0)))), (q8_0, .inl (c0 0, 178, .inl g_217_24))] ro_mod h0 = some 10 ∧ ∀ q, pA (yl [(h0, .inr (10, [.int 0, .ref q8_0, .ref q17_1, .ref q24_2, .ref q31_3, .ref q40_4, .int 0, .ref q47_5, .int 0, .int 0, .int 0, .int 0, .int 0, .int 0, .int (-1), .ref q61_6, .long 0, .ref q70_7, .ref q77_8, .int 0, .ref q85_9, .ref q93_10, .int 0, .int 0, .ref q100_11, .ref q108_12, .ref q116_13, .int 0, .ref q123_14, .ref q131_15, .ref q139_16, .ref q147_17, .ref q154_18, .ref q161_19, .ref q168_20, .ref q191_21, .ref q200_22, .ref q208_23])), (q17_1, .inl (c0 0, 534, .inl (fun _ => 0))), (q24_2, .inl (c0 3, 3, .inr (.inl (fun _ => 0)))), (q31_3, .inl (c0 2, 3, .inl (fun _ => 0))), (q40_4, .inl (c0 1, 1600, .inl (fun _ => 0))), (q47_5, .inl (c0 0, 5, .inl (fun _ => 0))), (q61_6, .inl (c0 0, 178, .inl (fun _ => 0))), (q168_20, .inl (c0 0, 4, .inl (upd (upd (upd (upd (fun _ => 0) 0 (-1)) 1 (-1)) 2 (-1)) 3 (-1)))), (q191_21, .inl (c0 0, 4, .inl (fun _ => 0))), (q200_22, .inl (c0 3, 240, .inr (.inl (fun _ => 0)))), (q8_0, .inl (c0 0, 178, .inl g_217_24))] ro_mod) q → A q := by
  refine ⟨yl_TI (yl_all (P := fun q r => ti_c D vwCl (tysOf c0) (yl [(h0, .inr (10, [.int 0, .ref q8_0, .ref q17_1, .ref q24_2, .ref q31_3, .ref q40_4, .int 0, .ref q47_5, .int 0, .int 0, .int 0, .int 0, .int 0, .int 0, .int (-1), .ref q61_6, .long 0, .ref q70_7, .ref q77_8, .int 0, .ref q85_9, .ref q93_10, .int 0, .int 0, .ref q100_11, .ref q108_12, .ref q116_13, .int 0, .ref q123_14, .ref q131_15, .ref q139_16, .ref q147_17, .ref q154_18, .ref q161_19, .ref q168_20, .ref q191_21, .ref q200_22, .ref q208_23])), (q17_1, .inl (c0 0, 534, .inl (fun _ => 0))), (q24_2, .inl (c0 3, 3, .inr (.inl (fun _ => 0)))), (q31_3, .inl (c0 2, 3, .inl (fun _ => 0))), (q40_4, .inl (c0 1, 1600, .inl (fun _ => 0))), (q47_5, .inl (c0 0, 5, .inl (fun _ => 0))), (q61_6, .inl (c0 0, 178, .inl (fun _ => 0))), (q168_20, .inl (c0 0, 4, .inl (upd (upd (upd (upd (fun _ => 0) 0 (-1)) 1 (-1)) 2 (-1)) 3 (-1)))), (q191_21, .inl (c0 0, 4, .inl (fun _ => 0))), (q200_22, .inl (c0 3, 240, .inr (.inl (fun _ => 0)))), (q8_0, .inl (c0 0, 178, .inl g_217_24))] ro_mod) (RT1 false r) q H) _ _ ?_), yl_get hD 0 rfl rfl, fun q h => ?_⟩
  · refine List.forall_mem_cons.mpr ⟨⟨_, hP 0 _ rfl, rfl, fun k t hk => match k, hk with
      | 0, h => by cases h; exact ⟨_, rfl, trivial⟩
      | 1, h => by cases h; exact ⟨_, rfl, ⟨q8_0, rfl, yl_get hD 10 rfl rfl⟩⟩
      | 2, h => by cases h; exact ⟨_, rfl, ⟨q17_1, rfl, yl_get hD 1 rfl rfl⟩⟩
      | 3, h => by cases h; exact ⟨_, rfl, ⟨q24_2, rfl, yl_get hD 2 rfl rfl⟩⟩
      | 4, h => by cases h; exact ⟨_, rfl, ⟨q31_3, rfl, yl_get hD 3 rfl rfl⟩⟩
      | 5, h => by cases h; exact ⟨_, rfl, ⟨q40_4, rfl, yl_get hD 4 rfl rfl⟩⟩
      | 6, h => by cases h; exact ⟨_, rfl, ⟨0, rfl, iv_w (iv_c (x := (0 : Int32)) (k := 0) (by decide)) (by decide)⟩⟩
      | 7, h => by cases h; exact ⟨_, rfl, ⟨q47_5, rfl, yl_get hD 5 rfl rfl⟩⟩
      | 8, h => by cases h; exact ⟨_, rfl, ⟨0, rfl, iv_w (iv_c (x := (0 : Int32)) (k := 0) (by decide)) (by decide)⟩⟩
      | 9, h => by cases h; exact ⟨_, rfl, ⟨0, rfl, iv_w (iv_c (x := (0 : Int32)) (k := 0) (by decide)) (by decide)⟩⟩
      | 10, h => by cases h; exact ⟨_, rfl, ⟨0, rfl, iv_w (iv_c (x := (0 : Int32)) (k := 0) (by decide)) (by decide)⟩⟩
      | 11, h => by cases h; exact ⟨_, rfl, ⟨0, rfl, iv_w (iv_c (x := (0 : Int32)) (k := 0) (by decide)) (by decide)⟩⟩
      | 12, h => by cases h; exact ⟨_, rfl, ⟨0, rfl, iv_w (iv_c (x := (0 : Int32)) (k := 0) (by decide)) (by decide)⟩⟩
      | 13, h => by cases h; exact ⟨_, rfl, ⟨0, rfl, iv_w (iv_c (x := (0 : Int32)) (k := 0) (by decide)) (by decide)⟩⟩
      | 14, h => by cases h; exact ⟨_, rfl, ⟨(-1), rfl, iv_w (iv_c (x := ((-1) : Int32)) (k := (-1)) (by decide)) (by decide)⟩⟩
      | 15, h => by cases h; exact ⟨_, rfl, ⟨q61_6, rfl, yl_get hD 6 rfl rfl⟩⟩
      | 16, h => by cases h; exact ⟨_, rfl, ⟨_, rfl⟩⟩
      | 17, h => by cases h; exact ⟨_, rfl, trivial⟩
      | 18, h => by cases h; exact ⟨_, rfl, trivial⟩
      | 19, h => by cases h; exact ⟨_, rfl, trivial⟩
      | 20, h => by cases h; exact ⟨_, rfl, trivial⟩
      | 21, h => by cases h; exact ⟨_, rfl, trivial⟩
      | 22, h => by cases h; exact ⟨_, rfl, trivial⟩
      | 23, h => by cases h; exact ⟨_, rfl, trivial⟩
      | 24, h => by cases h; exact ⟨_, rfl, trivial⟩
      | 25, h => by cases h; exact ⟨_, rfl, trivial⟩
      | 26, h => by cases h; exact ⟨_, rfl, trivial⟩
      | 27, h => by cases h; exact ⟨_, rfl, trivial⟩
      | 28, h => by cases h; exact ⟨_, rfl, trivial⟩
      | 29, h => by cases h; exact ⟨_, rfl, trivial⟩
      | 30, h => by cases h; exact ⟨_, rfl, trivial⟩
      | 31, h => by cases h; exact ⟨_, rfl, trivial⟩
      | 32, h => by cases h; exact ⟨_, rfl, trivial⟩
      | 33, h => by cases h; exact ⟨_, rfl, trivial⟩
      | 34, h => by cases h; exact ⟨_, rfl, ⟨q168_20, rfl, yl_get hD 7 rfl rfl⟩⟩
      | 35, h => by cases h; exact ⟨_, rfl, ⟨q191_21, rfl, yl_get hD 8 rfl rfl⟩⟩
      | 36, h => by cases h; exact ⟨_, rfl, ⟨q200_22, rfl, yl_get hD 9 rfl rfl⟩⟩
      | 37, h => by cases h; exact ⟨_, rfl, trivial⟩
      | k + 38, h => by simp [RT1] at h⟩, ?_⟩
    refine List.forall_mem_cons.mpr ⟨⟨_, .int, _, rfl, hP 1 _ rfl, (fun _ _ => ⟨_, rfl, iv_top _⟩)⟩, ?_⟩
    refine List.forall_mem_cons.mpr ⟨⟨_, .long, _, rfl, hP 2 _ rfl, (fun _ _ => ⟨_, rfl⟩)⟩, ?_⟩
    refine List.forall_mem_cons.mpr ⟨⟨_, .boolean, _, rfl, hP 3 _ rfl, (fun _ _ => ⟨0, rfl, iv_w (iv_c (x := (0 : Int32)) (k := 0) (by decide)) (by decide)⟩)⟩, ?_⟩
    refine List.forall_mem_cons.mpr ⟨⟨_, .byte, _, rfl, hP 4 _ rfl, (fun _ _ => ⟨0, rfl, iv_w (iv_c (x := (0 : Int32)) (k := 0) (by decide)) (by decide)⟩)⟩, ?_⟩
    refine List.forall_mem_cons.mpr ⟨⟨_, .int, _, rfl, hP 5 _ rfl, (fun _ _ => ⟨_, rfl, iv_top _⟩)⟩, ?_⟩
    refine List.forall_mem_cons.mpr ⟨⟨_, .int, _, rfl, hP 6 _ rfl, (fun j hj => wf1_0 j)⟩, ?_⟩
    refine List.forall_mem_cons.mpr ⟨⟨_, .int, _, rfl, hP 7 _ rfl, (fun j hj => match j, hj with
      | 0, _ => ⟨-1, rfl, iv_w (iv_c (x := (-1 : Int32)) (k := -1) (by decide)) (by decide)⟩
      | 1, _ => ⟨-1, rfl, iv_w (iv_c (x := (-1 : Int32)) (k := -1) (by decide)) (by decide)⟩
      | 2, _ => ⟨-1, rfl, iv_w (iv_c (x := (-1 : Int32)) (k := -1) (by decide)) (by decide)⟩
      | 3, _ => ⟨-1, rfl, iv_w (iv_c (x := (-1 : Int32)) (k := -1) (by decide)) (by decide)⟩
      | k + 4, h => absurd (show k + 4 < 4 from h) (by omega))⟩, ?_⟩
    refine List.forall_mem_cons.mpr ⟨⟨_, .int, _, rfl, hP 8 _ rfl, (fun _ _ => ⟨_, rfl, iv_top _⟩)⟩, ?_⟩
    refine List.forall_mem_cons.mpr ⟨⟨_, .long, _, rfl, hP 9 _ rfl, (fun _ _ => ⟨_, rfl⟩)⟩, ?_⟩
    refine List.forall_mem_cons.mpr ⟨⟨_, .int, _, rfl, hP 10 _ rfl, (fun j hj => wf1_g (b := false) hE j)⟩, ?_⟩
    exact fun _ h => absurd h List.not_mem_nil
  · obtain ⟨r, hr⟩ := h
    obtain ⟨k, e, h1, -⟩ := yl_inv hr
    exact hD.2 k _ h1
