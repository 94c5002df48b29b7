/-! all methods at once (written by wip/whole/gen/disp.py) -/
def cdL_0 : List (List CE) := [cd_0, cd_1, cd_2, cd_3, cd_4, cd_5, cd_6, cd_7, cd_8, cd_9, cd_10, cd_11, cd_12, cd_13, cd_14, cd_15, cd_16, cd_17, cd_18, cd_19, cd_20, cd_21, cd_22, cd_23, cd_24, cd_25, cd_26, cd_27, cd_28, cd_29, cd_30, cd_31, cd_32, cd_33, cd_34, cd_35, cd_36, cd_37, cd_38, cd_39]
def cdL_1 : List (List CE) := [cd_40, cd_41, cd_42, cd_43, cd_44, cd_45, cd_46, cd_47, cd_48, cd_49, cd_50, cd_51, cd_52, [], cd_54, cd_55, cd_56, cd_57, cd_58, cd_59, cd_60, cd_61, cd_62, cd_63, cd_64, cd_65, cd_66, cd_67, cd_68, cd_69, cd_70, cd_71, cd_72, cd_73, cd_74, cd_75, cd_76, cd_77, cd_78, cd_79]
def cdL_2 : List (List CE) := [cd_80, cd_81, cd_82, cd_83, cd_84, cd_85, cd_86, cd_87, cd_88, cd_89, cd_90, cd_91, cd_92, cd_93, cd_94, cd_95, cd_96, cd_97, cd_98, cd_99, cd_100, cd_101, cd_102, cd_103, cd_104, cd_105, [], cd_107, cd_108, cd_109, cd_110, cd_111, cd_112, cd_113, cd_114, cd_115, cd_116, cd_117, cd_118, cd_119]
def cdL_3 : List (List CE) := [cd_120, cd_121, cd_122, cd_123, cd_124, cd_125, cd_126, cd_127, cd_128, cd_129, cd_130, cd_131, cd_132, cd_133, cd_134, cd_135, cd_136, cd_137, cd_138, cd_139, cd_140, cd_141, cd_142, cd_143, cd_144, cd_145, cd_146, cd_147, cd_148, cd_149, cd_150, cd_151, cd_152, cd_153, cd_154, cd_155, cd_156, cd_157, cd_158, cd_159]
def cdL_4 : List (List CE) := [cd_160, cd_161, cd_162, cd_163, cd_164, cd_165, cd_166, cd_167, cd_168, cd_169, cd_170, cd_171, cd_172, cd_173, cd_174, cd_175, cd_176, cd_177, cd_178, cd_179, cd_180, cd_181, cd_182, cd_183, cd_184, cd_185, cd_186, cd_187, cd_188, cd_189, cd_190, cd_191, cd_192, cd_193, cd_194]
def cdL : List (List CE) := cdL_0 ++ (cdL_1 ++ (cdL_2 ++ (cdL_3 ++ (cdL_4))))
def cdf (k : Nat) : List CE := cdL.getD k []
def HP (sc : Nat × (Nat → Int32)) (k : Nat) : Prop := ∀ (as : List Value) (σ : St) (Q : Int32 → St → Prop), CC k as σ Q → Ex sc CC (mRk k) (cdf k) Q 0 (lv0 k as) [] σ
def HK (k : Nat) : Prop := ((cdf k).all (okCE (mO k) (mL k) (mB k))) = true ∧ ((cdf k).all (dpOk dep (dep k - 1))) = true
theorem hq_0 {sc : Nat × (Nat → Int32)} : HP sc 0 := by
  intro as σ Q h
  have h : Ap (ad_0 as σ) Q := getCC h
  unfold ad_0 at h
  split at h
  · exact hp_0 h
  · exact n_no h
set_option maxRecDepth 100000 in
theorem hk_0 : HK 0 := ⟨ck_0, by decide +kernel⟩
theorem hq_1 {sc : Nat × (Nat → Int32)} : HP sc 1 := by
  intro as σ Q h
  have h : Ap (ad_1 as σ) Q := getCC h
  unfold ad_1 at h
  split at h
  · exact hp_1 h
  · exact n_no h
set_option maxRecDepth 100000 in
theorem hk_1 : HK 1 := ⟨ck_1, by decide +kernel⟩
theorem hq_2 {sc : Nat × (Nat → Int32)} : HP sc 2 := by
  intro as σ Q h
  have h : Ap (ad_2 as σ) Q := getCC h
  unfold ad_2 at h
  split at h
  · exact hp_2 h
  · exact n_no h
set_option maxRecDepth 100000 in
theorem hk_2 : HK 2 := ⟨ck_2, by decide +kernel⟩
theorem hq_3 {sc : Nat × (Nat → Int32)} : HP sc 3 := by
  intro as σ Q h
  have h : Ap (ad_3 as σ) Q := getCC h
  unfold ad_3 at h
  split at h
  · exact hp_3 h
  · exact n_no h
set_option maxRecDepth 100000 in
theorem hk_3 : HK 3 := ⟨ck_3, by decide +kernel⟩
theorem hq_4 {sc : Nat × (Nat → Int32)} : HP sc 4 := by
  intro as σ Q h
  have h : Ap (ad_4 as σ) Q := getCC h
  unfold ad_4 at h
  split at h
  · exact hp_4 h
  · exact n_no h
set_option maxRecDepth 100000 in
theorem hk_4 : HK 4 := ⟨ck_4, by decide +kernel⟩
theorem hq_5 {sc : Nat × (Nat → Int32)} : HP sc 5 := by
  intro as σ Q h
  have h : Ap (ad_5 as σ) Q := getCC h
  unfold ad_5 at h
  split at h
  · exact hp_5 h
  · exact n_no h
set_option maxRecDepth 100000 in
theorem hk_5 : HK 5 := ⟨ck_5, by decide +kernel⟩
theorem hq_6 {sc : Nat × (Nat → Int32)} : HP sc 6 := by
  intro as σ Q h
  have h : Ap (ad_6 as σ) Q := getCC h
  unfold ad_6 at h
  split at h
  · exact hp_6 h
  · exact n_no h
set_option maxRecDepth 100000 in
theorem hk_6 : HK 6 := ⟨ck_6, by decide +kernel⟩
theorem hq_7 {sc : Nat × (Nat → Int32)} : HP sc 7 := by
  intro as σ Q h
  have h : Ap (ad_7 as σ) Q := getCC h
  unfold ad_7 at h
  split at h
  · exact hp_7 h
  · exact n_no h
set_option maxRecDepth 100000 in
theorem hk_7 : HK 7 := ⟨ck_7, by decide +kernel⟩
theorem hq_8 {sc : Nat × (Nat → Int32)} : HP sc 8 := by
  intro as σ Q h
  have h : Ap (ad_8 as σ) Q := getCC h
  unfold ad_8 at h
  split at h
  · exact hp_8 h
  · exact n_no h
set_option maxRecDepth 100000 in
theorem hk_8 : HK 8 := ⟨ck_8, by decide +kernel⟩
theorem hq_9 {sc : Nat × (Nat → Int32)} : HP sc 9 := by
  intro as σ Q h
  have h : Ap (ad_9 as σ) Q := getCC h
  unfold ad_9 at h
  split at h
  · exact hp_9 h
  · exact n_no h
set_option maxRecDepth 100000 in
theorem hk_9 : HK 9 := ⟨ck_9, by decide +kernel⟩
theorem hq_10 {sc : Nat × (Nat → Int32)} : HP sc 10 := by
  intro as σ Q h
  have h : Ap (ad_10 as σ) Q := getCC h
  unfold ad_10 at h
  split at h
  · exact hp_10 h
  · exact n_no h
set_option maxRecDepth 100000 in
theorem hk_10 : HK 10 := ⟨ck_10, by decide +kernel⟩
theorem hq_11 {sc : Nat × (Nat → Int32)} : HP sc 11 := by
  intro as σ Q h
  have h : Ap (ad_11 as σ) Q := getCC h
  unfold ad_11 at h
  split at h
  · exact hp_11 h
  · exact n_no h
set_option maxRecDepth 100000 in
theorem hk_11 : HK 11 := ⟨ck_11, by decide +kernel⟩
theorem hq_12 {sc : Nat × (Nat → Int32)} : HP sc 12 := by
  intro as σ Q h
  have h : Ap (ad_12 as σ) Q := getCC h
  unfold ad_12 at h
  split at h
  · exact hp_12 h
  · exact n_no h
set_option maxRecDepth 100000 in
theorem hk_12 : HK 12 := ⟨ck_12, by decide +kernel⟩
theorem hq_13 {sc : Nat × (Nat → Int32)} : HP sc 13 := by
  intro as σ Q h
  have h : Ap (ad_13 as σ) Q := getCC h
  unfold ad_13 at h
  split at h
  · exact hp_13 h
  · exact n_no h
set_option maxRecDepth 100000 in
theorem hk_13 : HK 13 := ⟨ck_13, by decide +kernel⟩
theorem hq_14 {sc : Nat × (Nat → Int32)} : HP sc 14 := by
  intro as σ Q h
  have h : Ap (ad_14 as σ) Q := getCC h
  unfold ad_14 at h
  split at h
  · exact hp_14 h
  · exact n_no h
set_option maxRecDepth 100000 in
theorem hk_14 : HK 14 := ⟨ck_14, by decide +kernel⟩
theorem hq_15 {sc : Nat × (Nat → Int32)} : HP sc 15 := by
  intro as σ Q h
  have h : Ap (ad_15 as σ) Q := getCC h
  unfold ad_15 at h
  split at h
  · exact hp_15 h
  · exact n_no h
set_option maxRecDepth 100000 in
theorem hk_15 : HK 15 := ⟨ck_15, by decide +kernel⟩
theorem hq_16 {sc : Nat × (Nat → Int32)} : HP sc 16 := by
  intro as σ Q h
  have h : Ap (ad_16 as σ) Q := getCC h
  unfold ad_16 at h
  split at h
  · exact hp_16 h
  · exact n_no h
set_option maxRecDepth 100000 in
theorem hk_16 : HK 16 := ⟨ck_16, by decide +kernel⟩
theorem hq_17 {sc : Nat × (Nat → Int32)} : HP sc 17 := by
  intro as σ Q h
  have h : Ap (ad_17 as σ) Q := getCC h
  unfold ad_17 at h
  split at h
  · exact hp_17 h
  · exact n_no h
set_option maxRecDepth 100000 in
theorem hk_17 : HK 17 := ⟨ck_17, by decide +kernel⟩
theorem hq_18 {sc : Nat × (Nat → Int32)} : HP sc 18 := by
  intro as σ Q h
  have h : Ap (ad_18 as σ) Q := getCC h
  unfold ad_18 at h
  split at h
  · exact hp_18 h
  · exact n_no h
set_option maxRecDepth 100000 in
theorem hk_18 : HK 18 := ⟨ck_18, by decide +kernel⟩
theorem hq_19 {sc : Nat × (Nat → Int32)} : HP sc 19 := by
  intro as σ Q h
  have h : Ap (ad_19 as σ) Q := getCC h
  unfold ad_19 at h
  split at h
  · exact hp_19 h
  · exact n_no h
set_option maxRecDepth 100000 in
theorem hk_19 : HK 19 := ⟨ck_19, by decide +kernel⟩
theorem hq_20 {sc : Nat × (Nat → Int32)} : HP sc 20 := by
  intro as σ Q h
  have h : Ap (ad_20 as σ) Q := getCC h
  unfold ad_20 at h
  split at h
  · exact hp_20 h
  · exact n_no h
set_option maxRecDepth 100000 in
theorem hk_20 : HK 20 := ⟨ck_20, by decide +kernel⟩
theorem hq_21 {sc : Nat × (Nat → Int32)} : HP sc 21 := by
  intro as σ Q h
  have h : Ap (ad_21 as σ) Q := getCC h
  unfold ad_21 at h
  split at h
  · exact hp_21 h
  · exact n_no h
set_option maxRecDepth 100000 in
theorem hk_21 : HK 21 := ⟨ck_21, by decide +kernel⟩
theorem hq_22 {sc : Nat × (Nat → Int32)} : HP sc 22 := by
  intro as σ Q h
  have h : Ap (ad_22 as σ) Q := getCC h
  unfold ad_22 at h
  split at h
  · exact hp_22 h
  · exact n_no h
set_option maxRecDepth 100000 in
theorem hk_22 : HK 22 := ⟨ck_22, by decide +kernel⟩
theorem hq_23 {sc : Nat × (Nat → Int32)} : HP sc 23 := by
  intro as σ Q h
  have h : Ap (ad_23 as σ) Q := getCC h
  unfold ad_23 at h
  split at h
  · exact hp_23 h
  · exact n_no h
set_option maxRecDepth 100000 in
theorem hk_23 : HK 23 := ⟨ck_23, by decide +kernel⟩
theorem hq_24 {sc : Nat × (Nat → Int32)} : HP sc 24 := by
  intro as σ Q h
  have h : Ap (ad_24 as σ) Q := getCC h
  unfold ad_24 at h
  split at h
  · exact hp_24 h
  · exact n_no h
set_option maxRecDepth 100000 in
theorem hk_24 : HK 24 := ⟨ck_24, by decide +kernel⟩
theorem hq_25 {sc : Nat × (Nat → Int32)} : HP sc 25 := by
  intro as σ Q h
  have h : Ap (ad_25 as σ) Q := getCC h
  unfold ad_25 at h
  split at h
  · exact hp_25 h
  · exact n_no h
set_option maxRecDepth 100000 in
theorem hk_25 : HK 25 := ⟨ck_25, by decide +kernel⟩
theorem hq_26 {sc : Nat × (Nat → Int32)} : HP sc 26 := by
  intro as σ Q h
  have h : Ap (ad_26 as σ) Q := getCC h
  unfold ad_26 at h
  split at h
  · exact hp_26 h
  · exact n_no h
set_option maxRecDepth 100000 in
theorem hk_26 : HK 26 := ⟨ck_26, by decide +kernel⟩
theorem hq_27 {sc : Nat × (Nat → Int32)} : HP sc 27 := by
  intro as σ Q h
  have h : Ap (ad_27 as σ) Q := getCC h
  unfold ad_27 at h
  split at h
  · exact hp_27 h
  · exact n_no h
set_option maxRecDepth 100000 in
theorem hk_27 : HK 27 := ⟨ck_27, by decide +kernel⟩
theorem hq_28 {sc : Nat × (Nat → Int32)} : HP sc 28 := by
  intro as σ Q h
  have h : Ap (ad_28 as σ) Q := getCC h
  unfold ad_28 at h
  split at h
  · exact hp_28 h
  · exact n_no h
set_option maxRecDepth 100000 in
theorem hk_28 : HK 28 := ⟨ck_28, by decide +kernel⟩
theorem hq_29 {sc : Nat × (Nat → Int32)} : HP sc 29 := by
  intro as σ Q h
  have h : Ap (ad_29 as σ) Q := getCC h
  unfold ad_29 at h
  split at h
  · exact hp_29 h
  · exact n_no h
set_option maxRecDepth 100000 in
theorem hk_29 : HK 29 := ⟨ck_29, by decide +kernel⟩
theorem hq_30 {sc : Nat × (Nat → Int32)} : HP sc 30 := by
  intro as σ Q h
  have h : Ap (ad_30 as σ) Q := getCC h
  unfold ad_30 at h
  split at h
  · exact hp_30 h
  · exact n_no h
set_option maxRecDepth 100000 in
theorem hk_30 : HK 30 := ⟨ck_30, by decide +kernel⟩
theorem hq_31 {sc : Nat × (Nat → Int32)} : HP sc 31 := by
  intro as σ Q h
  have h : Ap (ad_31 as σ) Q := getCC h
  unfold ad_31 at h
  split at h
  · exact hp_31 h
  · exact n_no h
set_option maxRecDepth 100000 in
theorem hk_31 : HK 31 := ⟨ck_31, by decide +kernel⟩
theorem hq_32 {sc : Nat × (Nat → Int32)} : HP sc 32 := by
  intro as σ Q h
  have h : Ap (ad_32 as σ) Q := getCC h
  unfold ad_32 at h
  split at h
  · exact hp_32 h
  · exact n_no h
set_option maxRecDepth 100000 in
theorem hk_32 : HK 32 := ⟨ck_32, by decide +kernel⟩
theorem hq_33 {sc : Nat × (Nat → Int32)} : HP sc 33 := by
  intro as σ Q h
  have h : Ap (ad_33 as σ) Q := getCC h
  unfold ad_33 at h
  split at h
  · exact hp_33 h
  · exact n_no h
set_option maxRecDepth 100000 in
theorem hk_33 : HK 33 := ⟨ck_33, by decide +kernel⟩
theorem hq_34 {sc : Nat × (Nat → Int32)} : HP sc 34 := by
  intro as σ Q h
  have h : Ap (ad_34 as σ) Q := getCC h
  unfold ad_34 at h
  split at h
  · exact hp_34 h
  · exact n_no h
set_option maxRecDepth 100000 in
theorem hk_34 : HK 34 := ⟨ck_34, by decide +kernel⟩
theorem hq_35 {sc : Nat × (Nat → Int32)} : HP sc 35 := by
  intro as σ Q h
  have h : Ap (ad_35 as σ) Q := getCC h
  unfold ad_35 at h
  split at h
  · exact hp_35 h
  · exact n_no h
set_option maxRecDepth 100000 in
theorem hk_35 : HK 35 := ⟨ck_35, by decide +kernel⟩
theorem hq_36 {sc : Nat × (Nat → Int32)} : HP sc 36 := by
  intro as σ Q h
  have h : Ap (ad_36 as σ) Q := getCC h
  unfold ad_36 at h
  split at h
  · exact hp_36 h
  · exact n_no h
set_option maxRecDepth 100000 in
theorem hk_36 : HK 36 := ⟨ck_36, by decide +kernel⟩
theorem hq_37 {sc : Nat × (Nat → Int32)} : HP sc 37 := by
  intro as σ Q h
  have h : Ap (ad_37 as σ) Q := getCC h
  unfold ad_37 at h
  split at h
  · exact hp_37 h
  · exact n_no h
set_option maxRecDepth 100000 in
theorem hk_37 : HK 37 := ⟨ck_37, by decide +kernel⟩
theorem hq_38 {sc : Nat × (Nat → Int32)} : HP sc 38 := by
  intro as σ Q h
  have h : Ap (ad_38 as σ) Q := getCC h
  unfold ad_38 at h
  split at h
  · exact hp_38 h
  · exact n_no h
set_option maxRecDepth 100000 in
theorem hk_38 : HK 38 := ⟨ck_38, by decide +kernel⟩
theorem hq_39 {sc : Nat × (Nat → Int32)} : HP sc 39 := by
  intro as σ Q h
  have h : Ap (ad_39 as σ) Q := getCC h
  unfold ad_39 at h
  split at h
  · exact hp_39 h
  · exact n_no h
set_option maxRecDepth 100000 in
theorem hk_39 : HK 39 := ⟨ck_39, by decide +kernel⟩
theorem hq_40 {sc : Nat × (Nat → Int32)} : HP sc 40 := by
  intro as σ Q h
  have h : Ap (ad_40 as σ) Q := getCC h
  unfold ad_40 at h
  split at h
  · exact hp_40 h
  · exact n_no h
set_option maxRecDepth 100000 in
theorem hk_40 : HK 40 := ⟨ck_40, by decide +kernel⟩
theorem hq_41 {sc : Nat × (Nat → Int32)} : HP sc 41 := by
  intro as σ Q h
  have h : Ap (ad_41 as σ) Q := getCC h
  unfold ad_41 at h
  split at h
  · exact hp_41 h
  · exact n_no h
set_option maxRecDepth 100000 in
theorem hk_41 : HK 41 := ⟨ck_41, by decide +kernel⟩
theorem hq_42 {sc : Nat × (Nat → Int32)} : HP sc 42 := by
  intro as σ Q h
  have h : Ap (ad_42 as σ) Q := getCC h
  unfold ad_42 at h
  split at h
  · exact hp_42 h
  · exact n_no h
set_option maxRecDepth 100000 in
theorem hk_42 : HK 42 := ⟨ck_42, by decide +kernel⟩
theorem hq_43 {sc : Nat × (Nat → Int32)} : HP sc 43 := by
  intro as σ Q h
  have h : Ap (ad_43 as σ) Q := getCC h
  unfold ad_43 at h
  split at h
  · exact hp_43 h
  · exact n_no h
set_option maxRecDepth 100000 in
theorem hk_43 : HK 43 := ⟨ck_43, by decide +kernel⟩
theorem hq_44 {sc : Nat × (Nat → Int32)} : HP sc 44 := by
  intro as σ Q h
  have h : Ap (ad_44 as σ) Q := getCC h
  unfold ad_44 at h
  split at h
  · exact hp_44 h
  · exact n_no h
set_option maxRecDepth 100000 in
theorem hk_44 : HK 44 := ⟨ck_44, by decide +kernel⟩
theorem hq_45 {sc : Nat × (Nat → Int32)} : HP sc 45 := by
  intro as σ Q h
  have h : Ap (ad_45 as σ) Q := getCC h
  unfold ad_45 at h
  split at h
  · exact hp_45 h
  · exact n_no h
set_option maxRecDepth 100000 in
theorem hk_45 : HK 45 := ⟨ck_45, by decide +kernel⟩
theorem hq_46 {sc : Nat × (Nat → Int32)} : HP sc 46 := by
  intro as σ Q h
  have h : Ap (ad_46 as σ) Q := getCC h
  unfold ad_46 at h
  split at h
  · exact hp_46 h
  · exact n_no h
set_option maxRecDepth 100000 in
theorem hk_46 : HK 46 := ⟨ck_46, by decide +kernel⟩
theorem hq_47 {sc : Nat × (Nat → Int32)} : HP sc 47 := by
  intro as σ Q h
  have h : Ap (ad_47 as σ) Q := getCC h
  unfold ad_47 at h
  split at h
  · exact hp_47 h
  · exact n_no h
set_option maxRecDepth 100000 in
theorem hk_47 : HK 47 := ⟨ck_47, by decide +kernel⟩
theorem hq_48 {sc : Nat × (Nat → Int32)} : HP sc 48 := by
  intro as σ Q h
  have h : Ap (ad_48 as σ) Q := getCC h
  unfold ad_48 at h
  split at h
  · exact hp_48 h
  · exact n_no h
set_option maxRecDepth 100000 in
theorem hk_48 : HK 48 := ⟨ck_48, by decide +kernel⟩
theorem hq_49 {sc : Nat × (Nat → Int32)} : HP sc 49 := by
  intro as σ Q h
  have h : Ap (ad_49 as σ) Q := getCC h
  unfold ad_49 at h
  split at h
  · exact hp_49 h
  · exact n_no h
set_option maxRecDepth 100000 in
theorem hk_49 : HK 49 := ⟨ck_49, by decide +kernel⟩
theorem hq_50 {sc : Nat × (Nat → Int32)} : HP sc 50 := by
  intro as σ Q h
  have h : Ap (ad_50 as σ) Q := getCC h
  unfold ad_50 at h
  split at h
  · exact hp_50 h
  · exact n_no h
set_option maxRecDepth 100000 in
theorem hk_50 : HK 50 := ⟨ck_50, by decide +kernel⟩
theorem hq_51 {sc : Nat × (Nat → Int32)} : HP sc 51 := by
  intro as σ Q h
  have h : Ap (ad_51 as σ) Q := getCC h
  unfold ad_51 at h
  split at h
  · exact hp_51 h
  · exact n_no h
set_option maxRecDepth 100000 in
theorem hk_51 : HK 51 := ⟨ck_51, by decide +kernel⟩
theorem hq_52 {sc : Nat × (Nat → Int32)} : HP sc 52 := by
  intro as σ Q h
  have h : Ap (ad_52 as σ) Q := getCC h
  unfold ad_52 at h
  split at h
  · exact hp_52 h
  · exact n_no h
set_option maxRecDepth 100000 in
theorem hk_52 : HK 52 := ⟨ck_52, by decide +kernel⟩
theorem hq_54 {sc : Nat × (Nat → Int32)} : HP sc 54 := by
  intro as σ Q h
  have h : Ap (ad_54 as σ) Q := getCC h
  unfold ad_54 at h
  split at h
  · exact hp_54 h
  · exact n_no h
set_option maxRecDepth 100000 in
theorem hk_54 : HK 54 := ⟨ck_54, by decide +kernel⟩
theorem hq_55 {sc : Nat × (Nat → Int32)} : HP sc 55 := by
  intro as σ Q h
  have h : Ap (ad_55 as σ) Q := getCC h
  unfold ad_55 at h
  split at h
  · exact hp_55 h
  · exact n_no h
set_option maxRecDepth 100000 in
theorem hk_55 : HK 55 := ⟨ck_55, by decide +kernel⟩
theorem hq_56 {sc : Nat × (Nat → Int32)} : HP sc 56 := by
  intro as σ Q h
  have h : Ap (ad_56 as σ) Q := getCC h
  unfold ad_56 at h
  split at h
  · exact hp_56 h
  · exact n_no h
set_option maxRecDepth 100000 in
theorem hk_56 : HK 56 := ⟨ck_56, by decide +kernel⟩
theorem hq_57 {sc : Nat × (Nat → Int32)} : HP sc 57 := by
  intro as σ Q h
  have h : Ap (ad_57 as σ) Q := getCC h
  unfold ad_57 at h
  split at h
  · exact hp_57 h
  · exact n_no h
set_option maxRecDepth 100000 in
theorem hk_57 : HK 57 := ⟨ck_57, by decide +kernel⟩
theorem hq_58 {sc : Nat × (Nat → Int32)} : HP sc 58 := by
  intro as σ Q h
  have h : Ap (ad_58 as σ) Q := getCC h
  unfold ad_58 at h
  split at h
  · exact hp_58 h
  · exact n_no h
set_option maxRecDepth 100000 in
theorem hk_58 : HK 58 := ⟨ck_58, by decide +kernel⟩
theorem hq_59 {sc : Nat × (Nat → Int32)} : HP sc 59 := by
  intro as σ Q h
  have h : Ap (ad_59 as σ) Q := getCC h
  unfold ad_59 at h
  split at h
  · exact hp_59 h
  · exact n_no h
set_option maxRecDepth 100000 in
theorem hk_59 : HK 59 := ⟨ck_59, by decide +kernel⟩
theorem hq_60 {sc : Nat × (Nat → Int32)} : HP sc 60 := by
  intro as σ Q h
  have h : Ap (ad_60 as σ) Q := getCC h
  unfold ad_60 at h
  split at h
  · exact hp_60 h
  · exact n_no h
set_option maxRecDepth 100000 in
theorem hk_60 : HK 60 := ⟨ck_60, by decide +kernel⟩
theorem hq_61 {sc : Nat × (Nat → Int32)} : HP sc 61 := by
  intro as σ Q h
  have h : Ap (ad_61 as σ) Q := getCC h
  unfold ad_61 at h
  split at h
  · exact hp_61 h
  · exact n_no h
set_option maxRecDepth 100000 in
theorem hk_61 : HK 61 := ⟨ck_61, by decide +kernel⟩
theorem hq_62 {sc : Nat × (Nat → Int32)} : HP sc 62 := by
  intro as σ Q h
  have h : Ap (ad_62 as σ) Q := getCC h
  unfold ad_62 at h
  split at h
  · exact hp_62 h
  · exact n_no h
set_option maxRecDepth 100000 in
theorem hk_62 : HK 62 := ⟨ck_62, by decide +kernel⟩
theorem hq_63 {sc : Nat × (Nat → Int32)} : HP sc 63 := by
  intro as σ Q h
  have h : Ap (ad_63 as σ) Q := getCC h
  unfold ad_63 at h
  split at h
  · exact hp_63 h
  · exact n_no h
set_option maxRecDepth 100000 in
theorem hk_63 : HK 63 := ⟨ck_63, by decide +kernel⟩
theorem hq_64 {sc : Nat × (Nat → Int32)} : HP sc 64 := by
  intro as σ Q h
  have h : Ap (ad_64 as σ) Q := getCC h
  unfold ad_64 at h
  split at h
  · exact hp_64 h
  · exact n_no h
set_option maxRecDepth 100000 in
theorem hk_64 : HK 64 := ⟨ck_64, by decide +kernel⟩
theorem hq_65 {sc : Nat × (Nat → Int32)} : HP sc 65 := by
  intro as σ Q h
  have h : Ap (ad_65 as σ) Q := getCC h
  unfold ad_65 at h
  split at h
  · exact hp_65 h
  · exact n_no h
set_option maxRecDepth 100000 in
theorem hk_65 : HK 65 := ⟨ck_65, by decide +kernel⟩
theorem hq_66 {sc : Nat × (Nat → Int32)} : HP sc 66 := by
  intro as σ Q h
  have h : Ap (ad_66 as σ) Q := getCC h
  unfold ad_66 at h
  split at h
  · exact hp_66 h
  · exact n_no h
set_option maxRecDepth 100000 in
theorem hk_66 : HK 66 := ⟨ck_66, by decide +kernel⟩
theorem hq_67 {sc : Nat × (Nat → Int32)} : HP sc 67 := by
  intro as σ Q h
  have h : Ap (ad_67 as σ) Q := getCC h
  unfold ad_67 at h
  split at h
  · exact hp_67 h
  · exact n_no h
set_option maxRecDepth 100000 in
theorem hk_67 : HK 67 := ⟨ck_67, by decide +kernel⟩
theorem hq_68 {sc : Nat × (Nat → Int32)} : HP sc 68 := by
  intro as σ Q h
  have h : Ap (ad_68 as σ) Q := getCC h
  unfold ad_68 at h
  split at h
  · exact hp_68 h
  · exact n_no h
set_option maxRecDepth 100000 in
theorem hk_68 : HK 68 := ⟨ck_68, by decide +kernel⟩
theorem hq_69 {sc : Nat × (Nat → Int32)} : HP sc 69 := by
  intro as σ Q h
  have h : Ap (ad_69 as σ) Q := getCC h
  unfold ad_69 at h
  split at h
  · exact hp_69 h
  · exact n_no h
set_option maxRecDepth 100000 in
theorem hk_69 : HK 69 := ⟨ck_69, by decide +kernel⟩
theorem hq_70 {sc : Nat × (Nat → Int32)} : HP sc 70 := by
  intro as σ Q h
  have h : Ap (ad_70 as σ) Q := getCC h
  unfold ad_70 at h
  split at h
  · exact hp_70 h
  · exact n_no h
set_option maxRecDepth 100000 in
theorem hk_70 : HK 70 := ⟨ck_70, by decide +kernel⟩
theorem hq_71 {sc : Nat × (Nat → Int32)} : HP sc 71 := by
  intro as σ Q h
  have h : Ap (ad_71 as σ) Q := getCC h
  unfold ad_71 at h
  split at h
  · exact hp_71 h
  · exact n_no h
set_option maxRecDepth 100000 in
theorem hk_71 : HK 71 := ⟨ck_71, by decide +kernel⟩
theorem hq_72 {sc : Nat × (Nat → Int32)} : HP sc 72 := by
  intro as σ Q h
  have h : Ap (ad_72 as σ) Q := getCC h
  unfold ad_72 at h
  split at h
  · exact hp_72 h
  · exact n_no h
set_option maxRecDepth 100000 in
theorem hk_72 : HK 72 := ⟨ck_72, by decide +kernel⟩
theorem hq_73 {sc : Nat × (Nat → Int32)} : HP sc 73 := by
  intro as σ Q h
  have h : Ap (ad_73 as σ) Q := getCC h
  unfold ad_73 at h
  split at h
  · exact hp_73 h
  · exact n_no h
set_option maxRecDepth 100000 in
theorem hk_73 : HK 73 := ⟨ck_73, by decide +kernel⟩
theorem hq_74 {sc : Nat × (Nat → Int32)} : HP sc 74 := by
  intro as σ Q h
  have h : Ap (ad_74 as σ) Q := getCC h
  unfold ad_74 at h
  split at h
  · exact hp_74 h
  · exact n_no h
set_option maxRecDepth 100000 in
theorem hk_74 : HK 74 := ⟨ck_74, by decide +kernel⟩
theorem hq_75 {sc : Nat × (Nat → Int32)} : HP sc 75 := by
  intro as σ Q h
  have h : Ap (ad_75 as σ) Q := getCC h
  unfold ad_75 at h
  split at h
  · exact hp_75 h
  · exact n_no h
set_option maxRecDepth 100000 in
theorem hk_75 : HK 75 := ⟨ck_75, by decide +kernel⟩
theorem hq_76 {sc : Nat × (Nat → Int32)} : HP sc 76 := by
  intro as σ Q h
  have h : Ap (ad_76 as σ) Q := getCC h
  unfold ad_76 at h
  split at h
  · exact hp_76 h
  · exact n_no h
set_option maxRecDepth 100000 in
theorem hk_76 : HK 76 := ⟨ck_76, by decide +kernel⟩
theorem hq_77 {sc : Nat × (Nat → Int32)} : HP sc 77 := by
  intro as σ Q h
  have h : Ap (ad_77 as σ) Q := getCC h
  unfold ad_77 at h
  split at h
  · exact hp_77 h
  · exact n_no h
set_option maxRecDepth 100000 in
theorem hk_77 : HK 77 := ⟨ck_77, by decide +kernel⟩
theorem hq_78 {sc : Nat × (Nat → Int32)} : HP sc 78 := by
  intro as σ Q h
  have h : Ap (ad_78 as σ) Q := getCC h
  unfold ad_78 at h
  split at h
  · exact hp_78 h
  · exact n_no h
set_option maxRecDepth 100000 in
theorem hk_78 : HK 78 := ⟨ck_78, by decide +kernel⟩
theorem hq_79 {sc : Nat × (Nat → Int32)} : HP sc 79 := by
  intro as σ Q h
  have h : Ap (ad_79 as σ) Q := getCC h
  unfold ad_79 at h
  split at h
  · exact hp_79 h
  · exact n_no h
set_option maxRecDepth 100000 in
theorem hk_79 : HK 79 := ⟨ck_79, by decide +kernel⟩
theorem hq_80 {sc : Nat × (Nat → Int32)} : HP sc 80 := by
  intro as σ Q h
  have h : Ap (ad_80 as σ) Q := getCC h
  unfold ad_80 at h
  split at h
  · exact hp_80 h
  · exact n_no h
set_option maxRecDepth 100000 in
theorem hk_80 : HK 80 := ⟨ck_80, by decide +kernel⟩
theorem hq_81 {sc : Nat × (Nat → Int32)} : HP sc 81 := by
  intro as σ Q h
  have h : Ap (ad_81 as σ) Q := getCC h
  unfold ad_81 at h
  split at h
  · exact hp_81 h
  · exact n_no h
set_option maxRecDepth 100000 in
theorem hk_81 : HK 81 := ⟨ck_81, by decide +kernel⟩
theorem hq_82 {sc : Nat × (Nat → Int32)} : HP sc 82 := by
  intro as σ Q h
  have h : Ap (ad_82 as σ) Q := getCC h
  unfold ad_82 at h
  split at h
  · exact hp_82 h
  · exact n_no h
set_option maxRecDepth 100000 in
theorem hk_82 : HK 82 := ⟨ck_82, by decide +kernel⟩
theorem hq_83 {sc : Nat × (Nat → Int32)} : HP sc 83 := by
  intro as σ Q h
  have h : Ap (ad_83 as σ) Q := getCC h
  unfold ad_83 at h
  split at h
  · exact hp_83 h
  · exact n_no h
set_option maxRecDepth 100000 in
theorem hk_83 : HK 83 := ⟨ck_83, by decide +kernel⟩
theorem hq_84 {sc : Nat × (Nat → Int32)} : HP sc 84 := by
  intro as σ Q h
  have h : Ap (ad_84 as σ) Q := getCC h
  unfold ad_84 at h
  split at h
  · exact hp_84 h
  · exact n_no h
set_option maxRecDepth 100000 in
theorem hk_84 : HK 84 := ⟨ck_84, by decide +kernel⟩
theorem hq_85 {sc : Nat × (Nat → Int32)} : HP sc 85 := by
  intro as σ Q h
  have h : Ap (ad_85 as σ) Q := getCC h
  unfold ad_85 at h
  split at h
  · exact hp_85 h
  · exact n_no h
set_option maxRecDepth 100000 in
theorem hk_85 : HK 85 := ⟨ck_85, by decide +kernel⟩
theorem hq_86 {sc : Nat × (Nat → Int32)} : HP sc 86 := by
  intro as σ Q h
  have h : Ap (ad_86 as σ) Q := getCC h
  unfold ad_86 at h
  split at h
  · exact hp_86 h
  · exact n_no h
set_option maxRecDepth 100000 in
theorem hk_86 : HK 86 := ⟨ck_86, by decide +kernel⟩
theorem hq_87 {sc : Nat × (Nat → Int32)} : HP sc 87 := by
  intro as σ Q h
  have h : Ap (ad_87 as σ) Q := getCC h
  unfold ad_87 at h
  split at h
  · exact hp_87 h
  · exact n_no h
set_option maxRecDepth 100000 in
theorem hk_87 : HK 87 := ⟨ck_87, by decide +kernel⟩
theorem hq_88 {sc : Nat × (Nat → Int32)} : HP sc 88 := by
  intro as σ Q h
  have h : Ap (ad_88 as σ) Q := getCC h
  unfold ad_88 at h
  split at h
  · exact hp_88 h
  · exact n_no h
set_option maxRecDepth 100000 in
theorem hk_88 : HK 88 := ⟨ck_88, by decide +kernel⟩
theorem hq_89 {sc : Nat × (Nat → Int32)} : HP sc 89 := by
  intro as σ Q h
  have h : Ap (ad_89 as σ) Q := getCC h
  unfold ad_89 at h
  split at h
  · exact hp_89 h
  · exact n_no h
set_option maxRecDepth 100000 in
theorem hk_89 : HK 89 := ⟨ck_89, by decide +kernel⟩
theorem hq_90 {sc : Nat × (Nat → Int32)} : HP sc 90 := by
  intro as σ Q h
  have h : Ap (ad_90 as σ) Q := getCC h
  unfold ad_90 at h
  split at h
  · exact hp_90 h
  · exact n_no h
set_option maxRecDepth 100000 in
theorem hk_90 : HK 90 := ⟨ck_90, by decide +kernel⟩
theorem hq_91 {sc : Nat × (Nat → Int32)} : HP sc 91 := by
  intro as σ Q h
  have h : Ap (ad_91 as σ) Q := getCC h
  unfold ad_91 at h
  split at h
  · exact hp_91 h
  · exact n_no h
set_option maxRecDepth 100000 in
theorem hk_91 : HK 91 := ⟨ck_91, by decide +kernel⟩
theorem hq_92 {sc : Nat × (Nat → Int32)} : HP sc 92 := by
  intro as σ Q h
  have h : Ap (ad_92 as σ) Q := getCC h
  unfold ad_92 at h
  split at h
  · exact hp_92 h
  · exact n_no h
set_option maxRecDepth 100000 in
theorem hk_92 : HK 92 := ⟨ck_92, by decide +kernel⟩
theorem hq_93 {sc : Nat × (Nat → Int32)} : HP sc 93 := by
  intro as σ Q h
  have h : Ap (ad_93 as σ) Q := getCC h
  unfold ad_93 at h
  split at h
  · exact hp_93 h
  · exact n_no h
set_option maxRecDepth 100000 in
theorem hk_93 : HK 93 := ⟨ck_93, by decide +kernel⟩
theorem hq_94 {sc : Nat × (Nat → Int32)} : HP sc 94 := by
  intro as σ Q h
  have h : Ap (ad_94 as σ) Q := getCC h
  unfold ad_94 at h
  split at h
  · exact hp_94 h
  · exact n_no h
set_option maxRecDepth 100000 in
theorem hk_94 : HK 94 := ⟨ck_94, by decide +kernel⟩
theorem hq_95 {sc : Nat × (Nat → Int32)} : HP sc 95 := by
  intro as σ Q h
  have h : Ap (ad_95 as σ) Q := getCC h
  unfold ad_95 at h
  split at h
  · exact hp_95 h
  · exact n_no h
set_option maxRecDepth 100000 in
theorem hk_95 : HK 95 := ⟨ck_95, by decide +kernel⟩
theorem hq_96 {sc : Nat × (Nat → Int32)} : HP sc 96 := by
  intro as σ Q h
  have h : Ap (ad_96 as σ) Q := getCC h
  unfold ad_96 at h
  split at h
  · exact hp_96 h
  · exact n_no h
set_option maxRecDepth 100000 in
theorem hk_96 : HK 96 := ⟨ck_96, by decide +kernel⟩
theorem hq_97 {sc : Nat × (Nat → Int32)} : HP sc 97 := by
  intro as σ Q h
  have h : Ap (ad_97 as σ) Q := getCC h
  unfold ad_97 at h
  split at h
  · exact hp_97 h
  · exact n_no h
set_option maxRecDepth 100000 in
theorem hk_97 : HK 97 := ⟨ck_97, by decide +kernel⟩
theorem hq_98 {sc : Nat × (Nat → Int32)} : HP sc 98 := by
  intro as σ Q h
  have h : Ap (ad_98 as σ) Q := getCC h
  unfold ad_98 at h
  split at h
  · exact hp_98 h
  · exact n_no h
set_option maxRecDepth 100000 in
theorem hk_98 : HK 98 := ⟨ck_98, by decide +kernel⟩
theorem hq_99 {sc : Nat × (Nat → Int32)} : HP sc 99 := by
  intro as σ Q h
  have h : Ap (ad_99 as σ) Q := getCC h
  unfold ad_99 at h
  split at h
  · exact hp_99 h
  · exact n_no h
set_option maxRecDepth 100000 in
theorem hk_99 : HK 99 := ⟨ck_99, by decide +kernel⟩
theorem hq_100 {sc : Nat × (Nat → Int32)} : HP sc 100 := by
  intro as σ Q h
  have h : Ap (ad_100 as σ) Q := getCC h
  unfold ad_100 at h
  split at h
  · exact hp_100 h
  · exact n_no h
set_option maxRecDepth 100000 in
theorem hk_100 : HK 100 := ⟨ck_100, by decide +kernel⟩
theorem hq_101 {sc : Nat × (Nat → Int32)} : HP sc 101 := by
  intro as σ Q h
  have h : Ap (ad_101 as σ) Q := getCC h
  unfold ad_101 at h
  split at h
  · exact hp_101 h
  · exact n_no h
set_option maxRecDepth 100000 in
theorem hk_101 : HK 101 := ⟨ck_101, by decide +kernel⟩
theorem hq_102 {sc : Nat × (Nat → Int32)} : HP sc 102 := by
  intro as σ Q h
  have h : Ap (ad_102 as σ) Q := getCC h
  unfold ad_102 at h
  split at h
  · exact hp_102 h
  · exact n_no h
set_option maxRecDepth 100000 in
theorem hk_102 : HK 102 := ⟨ck_102, by decide +kernel⟩
theorem hq_103 {sc : Nat × (Nat → Int32)} : HP sc 103 := by
  intro as σ Q h
  have h : Ap (ad_103 as σ) Q := getCC h
  unfold ad_103 at h
  split at h
  · exact hp_103 h
  · exact n_no h
set_option maxRecDepth 100000 in
theorem hk_103 : HK 103 := ⟨ck_103, by decide +kernel⟩
theorem hq_104 {sc : Nat × (Nat → Int32)} : HP sc 104 := by
  intro as σ Q h
  have h : Ap (ad_104 as σ) Q := getCC h
  unfold ad_104 at h
  split at h
  · exact hp_104 h
  · exact n_no h
set_option maxRecDepth 100000 in
theorem hk_104 : HK 104 := ⟨ck_104, by decide +kernel⟩
theorem hq_105 {sc : Nat × (Nat → Int32)} : HP sc 105 := by
  intro as σ Q h
  have h : Ap (ad_105 as σ) Q := getCC h
  unfold ad_105 at h
  split at h
  · exact hp_105 h
  · exact n_no h
set_option maxRecDepth 100000 in
theorem hk_105 : HK 105 := ⟨ck_105, by decide +kernel⟩
theorem hq_107 {sc : Nat × (Nat → Int32)} : HP sc 107 := by
  intro as σ Q h
  have h : Ap (ad_107 as σ) Q := getCC h
  unfold ad_107 at h
  split at h
  · exact hp_107 h
  · exact n_no h
set_option maxRecDepth 100000 in
theorem hk_107 : HK 107 := ⟨ck_107, by decide +kernel⟩
theorem hq_108 {sc : Nat × (Nat → Int32)} : HP sc 108 := by
  intro as σ Q h
  have h : Ap (ad_108 as σ) Q := getCC h
  unfold ad_108 at h
  split at h
  · exact hp_108 h
  · exact n_no h
set_option maxRecDepth 100000 in
theorem hk_108 : HK 108 := ⟨ck_108, by decide +kernel⟩
theorem hq_109 {sc : Nat × (Nat → Int32)} : HP sc 109 := by
  intro as σ Q h
  have h : Ap (ad_109 as σ) Q := getCC h
  unfold ad_109 at h
  split at h
  · exact hp_109 h
  · exact n_no h
set_option maxRecDepth 100000 in
theorem hk_109 : HK 109 := ⟨ck_109, by decide +kernel⟩
theorem hq_110 {sc : Nat × (Nat → Int32)} : HP sc 110 := by
  intro as σ Q h
  have h : Ap (ad_110 as σ) Q := getCC h
  unfold ad_110 at h
  split at h
  · exact hp_110 h
  · exact n_no h
set_option maxRecDepth 100000 in
theorem hk_110 : HK 110 := ⟨ck_110, by decide +kernel⟩
theorem hq_111 {sc : Nat × (Nat → Int32)} : HP sc 111 := by
  intro as σ Q h
  have h : Ap (ad_111 as σ) Q := getCC h
  unfold ad_111 at h
  split at h
  · exact hp_111 h
  · exact n_no h
set_option maxRecDepth 100000 in
theorem hk_111 : HK 111 := ⟨ck_111, by decide +kernel⟩
theorem hq_112 {sc : Nat × (Nat → Int32)} : HP sc 112 := by
  intro as σ Q h
  have h : Ap (ad_112 as σ) Q := getCC h
  unfold ad_112 at h
  split at h
  · exact hp_112 h
  · exact n_no h
set_option maxRecDepth 100000 in
theorem hk_112 : HK 112 := ⟨ck_112, by decide +kernel⟩
theorem hq_113 {sc : Nat × (Nat → Int32)} : HP sc 113 := by
  intro as σ Q h
  have h : Ap (ad_113 as σ) Q := getCC h
  unfold ad_113 at h
  split at h
  · exact hp_113 h
  · exact n_no h
set_option maxRecDepth 100000 in
theorem hk_113 : HK 113 := ⟨ck_113, by decide +kernel⟩
theorem hq_114 {sc : Nat × (Nat → Int32)} : HP sc 114 := by
  intro as σ Q h
  have h : Ap (ad_114 as σ) Q := getCC h
  unfold ad_114 at h
  split at h
  · exact hp_114 h
  · exact n_no h
set_option maxRecDepth 100000 in
theorem hk_114 : HK 114 := ⟨ck_114, by decide +kernel⟩
theorem hq_115 {sc : Nat × (Nat → Int32)} : HP sc 115 := by
  intro as σ Q h
  have h : Ap (ad_115 as σ) Q := getCC h
  unfold ad_115 at h
  split at h
  · exact hp_115 h
  · exact n_no h
set_option maxRecDepth 100000 in
theorem hk_115 : HK 115 := ⟨ck_115, by decide +kernel⟩
theorem hq_116 {sc : Nat × (Nat → Int32)} : HP sc 116 := by
  intro as σ Q h
  have h : Ap (ad_116 as σ) Q := getCC h
  unfold ad_116 at h
  split at h
  · exact hp_116 h
  · exact n_no h
set_option maxRecDepth 100000 in
theorem hk_116 : HK 116 := ⟨ck_116, by decide +kernel⟩
theorem hq_117 {sc : Nat × (Nat → Int32)} : HP sc 117 := by
  intro as σ Q h
  have h : Ap (ad_117 as σ) Q := getCC h
  unfold ad_117 at h
  split at h
  · exact hp_117 h
  · exact n_no h
set_option maxRecDepth 100000 in
theorem hk_117 : HK 117 := ⟨ck_117, by decide +kernel⟩
theorem hq_118 {sc : Nat × (Nat → Int32)} : HP sc 118 := by
  intro as σ Q h
  have h : Ap (ad_118 as σ) Q := getCC h
  unfold ad_118 at h
  split at h
  · exact hp_118 h
  · exact n_no h
set_option maxRecDepth 100000 in
theorem hk_118 : HK 118 := ⟨ck_118, by decide +kernel⟩
theorem hq_119 {sc : Nat × (Nat → Int32)} : HP sc 119 := by
  intro as σ Q h
  have h : Ap (ad_119 as σ) Q := getCC h
  unfold ad_119 at h
  split at h
  · exact hp_119 h
  · exact n_no h
set_option maxRecDepth 100000 in
theorem hk_119 : HK 119 := ⟨ck_119, by decide +kernel⟩
theorem hq_120 {sc : Nat × (Nat → Int32)} : HP sc 120 := by
  intro as σ Q h
  have h : Ap (ad_120 as σ) Q := getCC h
  unfold ad_120 at h
  split at h
  · exact hp_120 h
  · exact n_no h
set_option maxRecDepth 100000 in
theorem hk_120 : HK 120 := ⟨ck_120, by decide +kernel⟩
theorem hq_121 {sc : Nat × (Nat → Int32)} : HP sc 121 := by
  intro as σ Q h
  have h : Ap (ad_121 as σ) Q := getCC h
  unfold ad_121 at h
  split at h
  · exact hp_121 h
  · exact n_no h
set_option maxRecDepth 100000 in
theorem hk_121 : HK 121 := ⟨ck_121, by decide +kernel⟩
theorem hq_122 {sc : Nat × (Nat → Int32)} : HP sc 122 := by
  intro as σ Q h
  have h : Ap (ad_122 as σ) Q := getCC h
  unfold ad_122 at h
  split at h
  · exact hp_122 h
  · exact n_no h
set_option maxRecDepth 100000 in
theorem hk_122 : HK 122 := ⟨ck_122, by decide +kernel⟩
theorem hq_123 {sc : Nat × (Nat → Int32)} : HP sc 123 := by
  intro as σ Q h
  have h : Ap (ad_123 as σ) Q := getCC h
  unfold ad_123 at h
  split at h
  · exact hp_123 h
  · exact n_no h
set_option maxRecDepth 100000 in
theorem hk_123 : HK 123 := ⟨ck_123, by decide +kernel⟩
theorem hq_124 {sc : Nat × (Nat → Int32)} : HP sc 124 := by
  intro as σ Q h
  have h : Ap (ad_124 as σ) Q := getCC h
  unfold ad_124 at h
  split at h
  · exact hp_124 h
  · exact n_no h
set_option maxRecDepth 100000 in
theorem hk_124 : HK 124 := ⟨ck_124, by decide +kernel⟩
theorem hq_125 {sc : Nat × (Nat → Int32)} : HP sc 125 := by
  intro as σ Q h
  have h : Ap (ad_125 as σ) Q := getCC h
  unfold ad_125 at h
  split at h
  · exact hp_125 h
  · exact n_no h
set_option maxRecDepth 100000 in
theorem hk_125 : HK 125 := ⟨ck_125, by decide +kernel⟩
theorem hq_126 {sc : Nat × (Nat → Int32)} : HP sc 126 := by
  intro as σ Q h
  have h : Ap (ad_126 as σ) Q := getCC h
  unfold ad_126 at h
  split at h
  · exact hp_126 h
  · exact n_no h
set_option maxRecDepth 100000 in
theorem hk_126 : HK 126 := ⟨ck_126, by decide +kernel⟩
theorem hq_127 {sc : Nat × (Nat → Int32)} : HP sc 127 := by
  intro as σ Q h
  have h : Ap (ad_127 as σ) Q := getCC h
  unfold ad_127 at h
  split at h
  · exact hp_127 h
  · exact n_no h
set_option maxRecDepth 100000 in
theorem hk_127 : HK 127 := ⟨ck_127, by decide +kernel⟩
theorem hq_128 {sc : Nat × (Nat → Int32)} : HP sc 128 := by
  intro as σ Q h
  have h : Ap (ad_128 as σ) Q := getCC h
  unfold ad_128 at h
  split at h
  · exact hp_128 h
  · exact n_no h
set_option maxRecDepth 100000 in
theorem hk_128 : HK 128 := ⟨ck_128, by decide +kernel⟩
theorem hq_129 {sc : Nat × (Nat → Int32)} : HP sc 129 := by
  intro as σ Q h
  have h : Ap (ad_129 as σ) Q := getCC h
  unfold ad_129 at h
  split at h
  · exact hp_129 h
  · exact n_no h
set_option maxRecDepth 100000 in
theorem hk_129 : HK 129 := ⟨ck_129, by decide +kernel⟩
theorem hq_130 {sc : Nat × (Nat → Int32)} : HP sc 130 := by
  intro as σ Q h
  have h : Ap (ad_130 as σ) Q := getCC h
  unfold ad_130 at h
  split at h
  · exact hp_130 h
  · exact n_no h
set_option maxRecDepth 100000 in
theorem hk_130 : HK 130 := ⟨ck_130, by decide +kernel⟩
theorem hq_131 {sc : Nat × (Nat → Int32)} : HP sc 131 := by
  intro as σ Q h
  have h : Ap (ad_131 as σ) Q := getCC h
  unfold ad_131 at h
  split at h
  · exact hp_131 h
  · exact n_no h
set_option maxRecDepth 100000 in
theorem hk_131 : HK 131 := ⟨ck_131, by decide +kernel⟩
theorem hq_132 {sc : Nat × (Nat → Int32)} : HP sc 132 := by
  intro as σ Q h
  have h : Ap (ad_132 as σ) Q := getCC h
  unfold ad_132 at h
  split at h
  · exact hp_132 h
  · exact n_no h
set_option maxRecDepth 100000 in
theorem hk_132 : HK 132 := ⟨ck_132, by decide +kernel⟩
theorem hq_133 {sc : Nat × (Nat → Int32)} : HP sc 133 := by
  intro as σ Q h
  have h : Ap (ad_133 as σ) Q := getCC h
  unfold ad_133 at h
  split at h
  · exact hp_133 h
  · exact n_no h
set_option maxRecDepth 100000 in
theorem hk_133 : HK 133 := ⟨ck_133, by decide +kernel⟩
theorem hq_134 {sc : Nat × (Nat → Int32)} : HP sc 134 := by
  intro as σ Q h
  have h : Ap (ad_134 as σ) Q := getCC h
  unfold ad_134 at h
  split at h
  · exact hp_134 h
  · exact n_no h
set_option maxRecDepth 100000 in
theorem hk_134 : HK 134 := ⟨ck_134, by decide +kernel⟩
theorem hq_135 {sc : Nat × (Nat → Int32)} : HP sc 135 := by
  intro as σ Q h
  have h : Ap (ad_135 as σ) Q := getCC h
  unfold ad_135 at h
  split at h
  · exact hp_135 h
  · exact n_no h
set_option maxRecDepth 100000 in
theorem hk_135 : HK 135 := ⟨ck_135, by decide +kernel⟩
theorem hq_136 {sc : Nat × (Nat → Int32)} : HP sc 136 := by
  intro as σ Q h
  have h : Ap (ad_136 as σ) Q := getCC h
  unfold ad_136 at h
  split at h
  · exact hp_136 h
  · exact n_no h
set_option maxRecDepth 100000 in
theorem hk_136 : HK 136 := ⟨ck_136, by decide +kernel⟩
theorem hq_137 {sc : Nat × (Nat → Int32)} : HP sc 137 := by
  intro as σ Q h
  have h : Ap (ad_137 as σ) Q := getCC h
  unfold ad_137 at h
  split at h
  · exact hp_137 h
  · exact n_no h
set_option maxRecDepth 100000 in
theorem hk_137 : HK 137 := ⟨ck_137, by decide +kernel⟩
theorem hq_138 {sc : Nat × (Nat → Int32)} : HP sc 138 := by
  intro as σ Q h
  have h : Ap (ad_138 as σ) Q := getCC h
  unfold ad_138 at h
  split at h
  · exact hp_138 h
  · exact n_no h
set_option maxRecDepth 100000 in
theorem hk_138 : HK 138 := ⟨ck_138, by decide +kernel⟩
theorem hq_139 {sc : Nat × (Nat → Int32)} : HP sc 139 := by
  intro as σ Q h
  have h : Ap (ad_139 as σ) Q := getCC h
  unfold ad_139 at h
  split at h
  · exact hp_139 h
  · exact n_no h
set_option maxRecDepth 100000 in
theorem hk_139 : HK 139 := ⟨ck_139, by decide +kernel⟩
theorem hq_140 {sc : Nat × (Nat → Int32)} : HP sc 140 := by
  intro as σ Q h
  have h : Ap (ad_140 as σ) Q := getCC h
  unfold ad_140 at h
  split at h
  · exact hp_140 h
  · exact n_no h
set_option maxRecDepth 100000 in
theorem hk_140 : HK 140 := ⟨ck_140, by decide +kernel⟩
theorem hq_141 {sc : Nat × (Nat → Int32)} : HP sc 141 := by
  intro as σ Q h
  have h : Ap (ad_141 as σ) Q := getCC h
  unfold ad_141 at h
  split at h
  · exact hp_141 h
  · exact n_no h
set_option maxRecDepth 100000 in
theorem hk_141 : HK 141 := ⟨ck_141, by decide +kernel⟩
theorem hq_142 {sc : Nat × (Nat → Int32)} : HP sc 142 := by
  intro as σ Q h
  have h : Ap (ad_142 as σ) Q := getCC h
  unfold ad_142 at h
  split at h
  · exact hp_142 h
  · exact n_no h
set_option maxRecDepth 100000 in
theorem hk_142 : HK 142 := ⟨ck_142, by decide +kernel⟩
theorem hq_143 {sc : Nat × (Nat → Int32)} : HP sc 143 := by
  intro as σ Q h
  have h : Ap (ad_143 as σ) Q := getCC h
  unfold ad_143 at h
  split at h
  · exact hp_143 h
  · exact n_no h
set_option maxRecDepth 100000 in
theorem hk_143 : HK 143 := ⟨ck_143, by decide +kernel⟩
theorem hq_144 {sc : Nat × (Nat → Int32)} : HP sc 144 := by
  intro as σ Q h
  have h : Ap (ad_144 as σ) Q := getCC h
  unfold ad_144 at h
  split at h
  · exact hp_144 h
  · exact n_no h
set_option maxRecDepth 100000 in
theorem hk_144 : HK 144 := ⟨ck_144, by decide +kernel⟩
theorem hq_145 {sc : Nat × (Nat → Int32)} : HP sc 145 := by
  intro as σ Q h
  have h : Ap (ad_145 as σ) Q := getCC h
  unfold ad_145 at h
  split at h
  · exact hp_145 h
  · exact n_no h
set_option maxRecDepth 100000 in
theorem hk_145 : HK 145 := ⟨ck_145, by decide +kernel⟩
theorem hq_146 {sc : Nat × (Nat → Int32)} : HP sc 146 := by
  intro as σ Q h
  have h : Ap (ad_146 as σ) Q := getCC h
  unfold ad_146 at h
  split at h
  · exact hp_146 h
  · exact n_no h
set_option maxRecDepth 100000 in
theorem hk_146 : HK 146 := ⟨ck_146, by decide +kernel⟩
theorem hq_147 {sc : Nat × (Nat → Int32)} : HP sc 147 := by
  intro as σ Q h
  have h : Ap (ad_147 as σ) Q := getCC h
  unfold ad_147 at h
  split at h
  · exact hp_147 h
  · exact n_no h
set_option maxRecDepth 100000 in
theorem hk_147 : HK 147 := ⟨ck_147, by decide +kernel⟩
theorem hq_148 {sc : Nat × (Nat → Int32)} : HP sc 148 := by
  intro as σ Q h
  have h : Ap (ad_148 as σ) Q := getCC h
  unfold ad_148 at h
  split at h
  · exact hp_148 h
  · exact n_no h
set_option maxRecDepth 100000 in
theorem hk_148 : HK 148 := ⟨ck_148, by decide +kernel⟩
theorem hq_149 {sc : Nat × (Nat → Int32)} : HP sc 149 := by
  intro as σ Q h
  have h : Ap (ad_149 as σ) Q := getCC h
  unfold ad_149 at h
  split at h
  · exact hp_149 h
  · exact n_no h
set_option maxRecDepth 100000 in
theorem hk_149 : HK 149 := ⟨ck_149, by decide +kernel⟩
theorem hq_150 {sc : Nat × (Nat → Int32)} : HP sc 150 := by
  intro as σ Q h
  have h : Ap (ad_150 as σ) Q := getCC h
  unfold ad_150 at h
  split at h
  · exact hp_150 h
  · exact n_no h
set_option maxRecDepth 100000 in
theorem hk_150 : HK 150 := ⟨ck_150, by decide +kernel⟩
theorem hq_151 {sc : Nat × (Nat → Int32)} : HP sc 151 := by
  intro as σ Q h
  have h : Ap (ad_151 as σ) Q := getCC h
  unfold ad_151 at h
  split at h
  · exact hp_151 h
  · exact n_no h
set_option maxRecDepth 100000 in
theorem hk_151 : HK 151 := ⟨ck_151, by decide +kernel⟩
theorem hq_152 {sc : Nat × (Nat → Int32)} : HP sc 152 := by
  intro as σ Q h
  have h : Ap (ad_152 as σ) Q := getCC h
  unfold ad_152 at h
  split at h
  · exact hp_152 h
  · exact n_no h
set_option maxRecDepth 100000 in
theorem hk_152 : HK 152 := ⟨ck_152, by decide +kernel⟩
theorem hq_153 {sc : Nat × (Nat → Int32)} : HP sc 153 := by
  intro as σ Q h
  have h : Ap (ad_153 as σ) Q := getCC h
  unfold ad_153 at h
  split at h
  · exact hp_153 h
  · exact n_no h
set_option maxRecDepth 100000 in
theorem hk_153 : HK 153 := ⟨ck_153, by decide +kernel⟩
theorem hq_154 {sc : Nat × (Nat → Int32)} : HP sc 154 := by
  intro as σ Q h
  have h : Ap (ad_154 as σ) Q := getCC h
  unfold ad_154 at h
  split at h
  · exact hp_154 h
  · exact n_no h
set_option maxRecDepth 100000 in
theorem hk_154 : HK 154 := ⟨ck_154, by decide +kernel⟩
theorem hq_155 {sc : Nat × (Nat → Int32)} : HP sc 155 := by
  intro as σ Q h
  have h : Ap (ad_155 as σ) Q := getCC h
  unfold ad_155 at h
  split at h
  · exact hp_155 h
  · exact n_no h
set_option maxRecDepth 100000 in
theorem hk_155 : HK 155 := ⟨ck_155, by decide +kernel⟩
theorem hq_156 {sc : Nat × (Nat → Int32)} : HP sc 156 := by
  intro as σ Q h
  have h : Ap (ad_156 as σ) Q := getCC h
  unfold ad_156 at h
  split at h
  · exact hp_156 h
  · exact n_no h
set_option maxRecDepth 100000 in
theorem hk_156 : HK 156 := ⟨ck_156, by decide +kernel⟩
theorem hq_157 {sc : Nat × (Nat → Int32)} : HP sc 157 := by
  intro as σ Q h
  have h : Ap (ad_157 as σ) Q := getCC h
  unfold ad_157 at h
  split at h
  · exact hp_157 h
  · exact n_no h
set_option maxRecDepth 100000 in
theorem hk_157 : HK 157 := ⟨ck_157, by decide +kernel⟩
theorem hq_158 {sc : Nat × (Nat → Int32)} : HP sc 158 := by
  intro as σ Q h
  have h : Ap (ad_158 as σ) Q := getCC h
  unfold ad_158 at h
  split at h
  · exact hp_158 h
  · exact n_no h
set_option maxRecDepth 100000 in
theorem hk_158 : HK 158 := ⟨ck_158, by decide +kernel⟩
theorem hq_159 {sc : Nat × (Nat → Int32)} : HP sc 159 := by
  intro as σ Q h
  have h : Ap (ad_159 as σ) Q := getCC h
  unfold ad_159 at h
  split at h
  · exact hp_159 h
  · exact n_no h
set_option maxRecDepth 100000 in
theorem hk_159 : HK 159 := ⟨ck_159, by decide +kernel⟩
theorem hq_160 {sc : Nat × (Nat → Int32)} : HP sc 160 := by
  intro as σ Q h
  have h : Ap (ad_160 as σ) Q := getCC h
  unfold ad_160 at h
  split at h
  · exact hp_160 h
  · exact n_no h
set_option maxRecDepth 100000 in
theorem hk_160 : HK 160 := ⟨ck_160, by decide +kernel⟩
theorem hq_161 {sc : Nat × (Nat → Int32)} : HP sc 161 := by
  intro as σ Q h
  have h : Ap (ad_161 as σ) Q := getCC h
  unfold ad_161 at h
  split at h
  · exact hp_161 h
  · exact n_no h
set_option maxRecDepth 100000 in
theorem hk_161 : HK 161 := ⟨ck_161, by decide +kernel⟩
theorem hq_162 {sc : Nat × (Nat → Int32)} : HP sc 162 := by
  intro as σ Q h
  have h : Ap (ad_162 as σ) Q := getCC h
  unfold ad_162 at h
  split at h
  · exact hp_162 h
  · exact n_no h
set_option maxRecDepth 100000 in
theorem hk_162 : HK 162 := ⟨ck_162, by decide +kernel⟩
theorem hq_163 {sc : Nat × (Nat → Int32)} : HP sc 163 := by
  intro as σ Q h
  have h : Ap (ad_163 as σ) Q := getCC h
  unfold ad_163 at h
  split at h
  · exact hp_163 h
  · exact n_no h
set_option maxRecDepth 100000 in
theorem hk_163 : HK 163 := ⟨ck_163, by decide +kernel⟩
theorem hq_164 {sc : Nat × (Nat → Int32)} : HP sc 164 := by
  intro as σ Q h
  have h : Ap (ad_164 as σ) Q := getCC h
  unfold ad_164 at h
  split at h
  · exact hp_164 h
  · exact n_no h
set_option maxRecDepth 100000 in
theorem hk_164 : HK 164 := ⟨ck_164, by decide +kernel⟩
theorem hq_165 {sc : Nat × (Nat → Int32)} : HP sc 165 := by
  intro as σ Q h
  have h : Ap (ad_165 as σ) Q := getCC h
  unfold ad_165 at h
  split at h
  · exact hp_165 h
  · exact n_no h
set_option maxRecDepth 100000 in
theorem hk_165 : HK 165 := ⟨ck_165, by decide +kernel⟩
theorem hq_166 {sc : Nat × (Nat → Int32)} : HP sc 166 := by
  intro as σ Q h
  have h : Ap (ad_166 as σ) Q := getCC h
  unfold ad_166 at h
  split at h
  · exact hp_166 h
  · exact n_no h
set_option maxRecDepth 100000 in
theorem hk_166 : HK 166 := ⟨ck_166, by decide +kernel⟩
theorem hq_167 {sc : Nat × (Nat → Int32)} : HP sc 167 := by
  intro as σ Q h
  have h : Ap (ad_167 as σ) Q := getCC h
  unfold ad_167 at h
  split at h
  · exact hp_167 h
  · exact n_no h
set_option maxRecDepth 100000 in
theorem hk_167 : HK 167 := ⟨ck_167, by decide +kernel⟩
theorem hq_168 {sc : Nat × (Nat → Int32)} : HP sc 168 := by
  intro as σ Q h
  have h : Ap (ad_168 as σ) Q := getCC h
  unfold ad_168 at h
  split at h
  · exact hp_168 h
  · exact n_no h
set_option maxRecDepth 100000 in
theorem hk_168 : HK 168 := ⟨ck_168, by decide +kernel⟩
theorem hq_169 {sc : Nat × (Nat → Int32)} : HP sc 169 := by
  intro as σ Q h
  have h : Ap (ad_169 as σ) Q := getCC h
  unfold ad_169 at h
  split at h
  · exact hp_169 h
  · exact n_no h
set_option maxRecDepth 100000 in
theorem hk_169 : HK 169 := ⟨ck_169, by decide +kernel⟩
theorem hq_170 {sc : Nat × (Nat → Int32)} : HP sc 170 := by
  intro as σ Q h
  have h : Ap (ad_170 as σ) Q := getCC h
  unfold ad_170 at h
  split at h
  · exact hp_170 h
  · exact n_no h
set_option maxRecDepth 100000 in
theorem hk_170 : HK 170 := ⟨ck_170, by decide +kernel⟩
theorem hq_171 {sc : Nat × (Nat → Int32)} : HP sc 171 := by
  intro as σ Q h
  have h : Ap (ad_171 as σ) Q := getCC h
  unfold ad_171 at h
  split at h
  · exact hp_171 h
  · exact n_no h
set_option maxRecDepth 100000 in
theorem hk_171 : HK 171 := ⟨ck_171, by decide +kernel⟩
theorem hq_172 {sc : Nat × (Nat → Int32)} : HP sc 172 := by
  intro as σ Q h
  have h : Ap (ad_172 as σ) Q := getCC h
  unfold ad_172 at h
  split at h
  · exact hp_172 h
  · exact n_no h
set_option maxRecDepth 100000 in
theorem hk_172 : HK 172 := ⟨ck_172, by decide +kernel⟩
theorem hq_173 {sc : Nat × (Nat → Int32)} : HP sc 173 := by
  intro as σ Q h
  have h : Ap (ad_173 as σ) Q := getCC h
  unfold ad_173 at h
  split at h
  · exact hp_173 h
  · exact n_no h
set_option maxRecDepth 100000 in
theorem hk_173 : HK 173 := ⟨ck_173, by decide +kernel⟩
theorem hq_174 {sc : Nat × (Nat → Int32)} : HP sc 174 := by
  intro as σ Q h
  have h : Ap (ad_174 as σ) Q := getCC h
  unfold ad_174 at h
  split at h
  · exact hp_174 h
  · exact n_no h
set_option maxRecDepth 100000 in
theorem hk_174 : HK 174 := ⟨ck_174, by decide +kernel⟩
theorem hq_175 {sc : Nat × (Nat → Int32)} : HP sc 175 := by
  intro as σ Q h
  have h : Ap (ad_175 as σ) Q := getCC h
  unfold ad_175 at h
  split at h
  · exact hp_175 h
  · exact n_no h
set_option maxRecDepth 100000 in
theorem hk_175 : HK 175 := ⟨ck_175, by decide +kernel⟩
theorem hq_176 {sc : Nat × (Nat → Int32)} : HP sc 176 := by
  intro as σ Q h
  have h : Ap (ad_176 as σ) Q := getCC h
  unfold ad_176 at h
  split at h
  · exact hp_176 h
  · exact n_no h
set_option maxRecDepth 100000 in
theorem hk_176 : HK 176 := ⟨ck_176, by decide +kernel⟩
theorem hq_177 {sc : Nat × (Nat → Int32)} : HP sc 177 := by
  intro as σ Q h
  have h : Ap (ad_177 as σ) Q := getCC h
  unfold ad_177 at h
  split at h
  · exact hp_177 h
  · exact n_no h
set_option maxRecDepth 100000 in
theorem hk_177 : HK 177 := ⟨ck_177, by decide +kernel⟩
theorem hq_178 {sc : Nat × (Nat → Int32)} : HP sc 178 := by
  intro as σ Q h
  have h : Ap (ad_178 as σ) Q := getCC h
  unfold ad_178 at h
  split at h
  · exact hp_178 h
  · exact n_no h
set_option maxRecDepth 100000 in
theorem hk_178 : HK 178 := ⟨ck_178, by decide +kernel⟩
theorem hq_179 {sc : Nat × (Nat → Int32)} : HP sc 179 := by
  intro as σ Q h
  have h : Ap (ad_179 as σ) Q := getCC h
  unfold ad_179 at h
  split at h
  · exact hp_179 h
  · exact n_no h
set_option maxRecDepth 100000 in
theorem hk_179 : HK 179 := ⟨ck_179, by decide +kernel⟩
theorem hq_180 {sc : Nat × (Nat → Int32)} : HP sc 180 := by
  intro as σ Q h
  have h : Ap (ad_180 as σ) Q := getCC h
  unfold ad_180 at h
  split at h
  · exact hp_180 h
  · exact n_no h
set_option maxRecDepth 100000 in
theorem hk_180 : HK 180 := ⟨ck_180, by decide +kernel⟩
theorem hq_181 {sc : Nat × (Nat → Int32)} : HP sc 181 := by
  intro as σ Q h
  have h : Ap (ad_181 as σ) Q := getCC h
  unfold ad_181 at h
  split at h
  · exact hp_181 h
  · exact n_no h
set_option maxRecDepth 100000 in
theorem hk_181 : HK 181 := ⟨ck_181, by decide +kernel⟩
theorem hq_182 {sc : Nat × (Nat → Int32)} : HP sc 182 := by
  intro as σ Q h
  have h : Ap (ad_182 as σ) Q := getCC h
  unfold ad_182 at h
  split at h
  · exact hp_182 h
  · exact n_no h
set_option maxRecDepth 100000 in
theorem hk_182 : HK 182 := ⟨ck_182, by decide +kernel⟩
theorem hq_183 {sc : Nat × (Nat → Int32)} : HP sc 183 := by
  intro as σ Q h
  have h : Ap (ad_183 as σ) Q := getCC h
  unfold ad_183 at h
  split at h
  · exact hp_183 h
  · exact n_no h
set_option maxRecDepth 100000 in
theorem hk_183 : HK 183 := ⟨ck_183, by decide +kernel⟩
theorem hq_184 {sc : Nat × (Nat → Int32)} : HP sc 184 := by
  intro as σ Q h
  have h : Ap (ad_184 as σ) Q := getCC h
  unfold ad_184 at h
  split at h
  · exact hp_184 h
  · exact n_no h
set_option maxRecDepth 100000 in
theorem hk_184 : HK 184 := ⟨ck_184, by decide +kernel⟩
theorem hq_185 {sc : Nat × (Nat → Int32)} : HP sc 185 := by
  intro as σ Q h
  have h : Ap (ad_185 as σ) Q := getCC h
  unfold ad_185 at h
  split at h
  · exact hp_185 h
  · exact n_no h
set_option maxRecDepth 100000 in
theorem hk_185 : HK 185 := ⟨ck_185, by decide +kernel⟩
theorem hq_186 {sc : Nat × (Nat → Int32)} : HP sc 186 := by
  intro as σ Q h
  have h : Ap (ad_186 as σ) Q := getCC h
  unfold ad_186 at h
  split at h
  · exact hp_186 h
  · exact n_no h
set_option maxRecDepth 100000 in
theorem hk_186 : HK 186 := ⟨ck_186, by decide +kernel⟩
theorem hq_187 {sc : Nat × (Nat → Int32)} : HP sc 187 := by
  intro as σ Q h
  have h : Ap (ad_187 as σ) Q := getCC h
  unfold ad_187 at h
  split at h
  · exact hp_187 h
  · exact n_no h
set_option maxRecDepth 100000 in
theorem hk_187 : HK 187 := ⟨ck_187, by decide +kernel⟩
theorem hq_188 {sc : Nat × (Nat → Int32)} : HP sc 188 := by
  intro as σ Q h
  have h : Ap (ad_188 as σ) Q := getCC h
  unfold ad_188 at h
  split at h
  · exact hp_188 h
  · exact n_no h
set_option maxRecDepth 100000 in
theorem hk_188 : HK 188 := ⟨ck_188, by decide +kernel⟩
theorem hq_189 {sc : Nat × (Nat → Int32)} : HP sc 189 := by
  intro as σ Q h
  have h : Ap (ad_189 as σ) Q := getCC h
  unfold ad_189 at h
  split at h
  · exact hp_189 h
  · exact n_no h
set_option maxRecDepth 100000 in
theorem hk_189 : HK 189 := ⟨ck_189, by decide +kernel⟩
theorem hq_190 {sc : Nat × (Nat → Int32)} : HP sc 190 := by
  intro as σ Q h
  have h : Ap (ad_190 as σ) Q := getCC h
  unfold ad_190 at h
  split at h
  · exact hp_190 h
  · exact n_no h
set_option maxRecDepth 100000 in
theorem hk_190 : HK 190 := ⟨ck_190, by decide +kernel⟩
theorem hq_191 {sc : Nat × (Nat → Int32)} : HP sc 191 := by
  intro as σ Q h
  have h : Ap (ad_191 as σ) Q := getCC h
  unfold ad_191 at h
  split at h
  · exact hp_191 h
  · exact n_no h
set_option maxRecDepth 100000 in
theorem hk_191 : HK 191 := ⟨ck_191, by decide +kernel⟩
theorem hq_192 {sc : Nat × (Nat → Int32)} : HP sc 192 := by
  intro as σ Q h
  have h : Ap (ad_192 as σ) Q := getCC h
  unfold ad_192 at h
  split at h
  · exact hp_192 h
  · exact n_no h
set_option maxRecDepth 100000 in
theorem hk_192 : HK 192 := ⟨ck_192, by decide +kernel⟩
theorem hq_193 {sc : Nat × (Nat → Int32)} : HP sc 193 := by
  intro as σ Q h
  have h : Ap (ad_193 as σ) Q := getCC h
  unfold ad_193 at h
  split at h
  · exact hp_193 h
  · exact n_no h
set_option maxRecDepth 100000 in
theorem hk_193 : HK 193 := ⟨ck_193, by decide +kernel⟩
theorem hq_194 {sc : Nat × (Nat → Int32)} : HP sc 194 := by
  intro as σ Q h
  have h : Ap (ad_194 as σ) Q := getCC h
  unfold ad_194 at h
  split at h
  · exact hp_194 h
  · exact n_no h
set_option maxRecDepth 100000 in
theorem hk_194 : HK 194 := ⟨ck_194, by decide +kernel⟩
theorem hqA_0 {sc : Nat × (Nat → Int32)} : ∀ j, j < 20 → 0 + j ≠ 53 → 0 + j ≠ 106 → HP sc (0 + j)
  | 0, _, _, _ => hq_0
  | 1, _, _, _ => hq_1
  | 2, _, _, _ => hq_2
  | 3, _, _, _ => hq_3
  | 4, _, _, _ => hq_4
  | 5, _, _, _ => hq_5
  | 6, _, _, _ => hq_6
  | 7, _, _, _ => hq_7
  | 8, _, _, _ => hq_8
  | 9, _, _, _ => hq_9
  | 10, _, _, _ => hq_10
  | 11, _, _, _ => hq_11
  | 12, _, _, _ => hq_12
  | 13, _, _, _ => hq_13
  | 14, _, _, _ => hq_14
  | 15, _, _, _ => hq_15
  | 16, _, _, _ => hq_16
  | 17, _, _, _ => hq_17
  | 18, _, _, _ => hq_18
  | 19, _, _, _ => hq_19
  | n + 20, h, _, _ => absurd h (by omega)
theorem hkA_0 : ∀ j, j < 20 → 0 + j ≠ 53 → 0 + j ≠ 106 → HK (0 + j)
  | 0, _, _, _ => hk_0
  | 1, _, _, _ => hk_1
  | 2, _, _, _ => hk_2
  | 3, _, _, _ => hk_3
  | 4, _, _, _ => hk_4
  | 5, _, _, _ => hk_5
  | 6, _, _, _ => hk_6
  | 7, _, _, _ => hk_7
  | 8, _, _, _ => hk_8
  | 9, _, _, _ => hk_9
  | 10, _, _, _ => hk_10
  | 11, _, _, _ => hk_11
  | 12, _, _, _ => hk_12
  | 13, _, _, _ => hk_13
  | 14, _, _, _ => hk_14
  | 15, _, _, _ => hk_15
  | 16, _, _, _ => hk_16
  | 17, _, _, _ => hk_17
  | 18, _, _, _ => hk_18
  | 19, _, _, _ => hk_19
  | n + 20, h, _, _ => absurd h (by omega)
theorem hqA_1 {sc : Nat × (Nat → Int32)} : ∀ j, j < 20 → 20 + j ≠ 53 → 20 + j ≠ 106 → HP sc (20 + j)
  | 0, _, _, _ => hq_20
  | 1, _, _, _ => hq_21
  | 2, _, _, _ => hq_22
  | 3, _, _, _ => hq_23
  | 4, _, _, _ => hq_24
  | 5, _, _, _ => hq_25
  | 6, _, _, _ => hq_26
  | 7, _, _, _ => hq_27
  | 8, _, _, _ => hq_28
  | 9, _, _, _ => hq_29
  | 10, _, _, _ => hq_30
  | 11, _, _, _ => hq_31
  | 12, _, _, _ => hq_32
  | 13, _, _, _ => hq_33
  | 14, _, _, _ => hq_34
  | 15, _, _, _ => hq_35
  | 16, _, _, _ => hq_36
  | 17, _, _, _ => hq_37
  | 18, _, _, _ => hq_38
  | 19, _, _, _ => hq_39
  | n + 20, h, _, _ => absurd h (by omega)
theorem hkA_1 : ∀ j, j < 20 → 20 + j ≠ 53 → 20 + j ≠ 106 → HK (20 + j)
  | 0, _, _, _ => hk_20
  | 1, _, _, _ => hk_21
  | 2, _, _, _ => hk_22
  | 3, _, _, _ => hk_23
  | 4, _, _, _ => hk_24
  | 5, _, _, _ => hk_25
  | 6, _, _, _ => hk_26
  | 7, _, _, _ => hk_27
  | 8, _, _, _ => hk_28
  | 9, _, _, _ => hk_29
  | 10, _, _, _ => hk_30
  | 11, _, _, _ => hk_31
  | 12, _, _, _ => hk_32
  | 13, _, _, _ => hk_33
  | 14, _, _, _ => hk_34
  | 15, _, _, _ => hk_35
  | 16, _, _, _ => hk_36
  | 17, _, _, _ => hk_37
  | 18, _, _, _ => hk_38
  | 19, _, _, _ => hk_39
  | n + 20, h, _, _ => absurd h (by omega)
theorem hqA_2 {sc : Nat × (Nat → Int32)} : ∀ j, j < 20 → 40 + j ≠ 53 → 40 + j ≠ 106 → HP sc (40 + j)
  | 0, _, _, _ => hq_40
  | 1, _, _, _ => hq_41
  | 2, _, _, _ => hq_42
  | 3, _, _, _ => hq_43
  | 4, _, _, _ => hq_44
  | 5, _, _, _ => hq_45
  | 6, _, _, _ => hq_46
  | 7, _, _, _ => hq_47
  | 8, _, _, _ => hq_48
  | 9, _, _, _ => hq_49
  | 10, _, _, _ => hq_50
  | 11, _, _, _ => hq_51
  | 12, _, _, _ => hq_52
  | 13, _, h, _ => absurd rfl h
  | 14, _, _, _ => hq_54
  | 15, _, _, _ => hq_55
  | 16, _, _, _ => hq_56
  | 17, _, _, _ => hq_57
  | 18, _, _, _ => hq_58
  | 19, _, _, _ => hq_59
  | n + 20, h, _, _ => absurd h (by omega)
theorem hkA_2 : ∀ j, j < 20 → 40 + j ≠ 53 → 40 + j ≠ 106 → HK (40 + j)
  | 0, _, _, _ => hk_40
  | 1, _, _, _ => hk_41
  | 2, _, _, _ => hk_42
  | 3, _, _, _ => hk_43
  | 4, _, _, _ => hk_44
  | 5, _, _, _ => hk_45
  | 6, _, _, _ => hk_46
  | 7, _, _, _ => hk_47
  | 8, _, _, _ => hk_48
  | 9, _, _, _ => hk_49
  | 10, _, _, _ => hk_50
  | 11, _, _, _ => hk_51
  | 12, _, _, _ => hk_52
  | 13, _, h, _ => absurd rfl h
  | 14, _, _, _ => hk_54
  | 15, _, _, _ => hk_55
  | 16, _, _, _ => hk_56
  | 17, _, _, _ => hk_57
  | 18, _, _, _ => hk_58
  | 19, _, _, _ => hk_59
  | n + 20, h, _, _ => absurd h (by omega)
theorem hqA_3 {sc : Nat × (Nat → Int32)} : ∀ j, j < 20 → 60 + j ≠ 53 → 60 + j ≠ 106 → HP sc (60 + j)
  | 0, _, _, _ => hq_60
  | 1, _, _, _ => hq_61
  | 2, _, _, _ => hq_62
  | 3, _, _, _ => hq_63
  | 4, _, _, _ => hq_64
  | 5, _, _, _ => hq_65
  | 6, _, _, _ => hq_66
  | 7, _, _, _ => hq_67
  | 8, _, _, _ => hq_68
  | 9, _, _, _ => hq_69
  | 10, _, _, _ => hq_70
  | 11, _, _, _ => hq_71
  | 12, _, _, _ => hq_72
  | 13, _, _, _ => hq_73
  | 14, _, _, _ => hq_74
  | 15, _, _, _ => hq_75
  | 16, _, _, _ => hq_76
  | 17, _, _, _ => hq_77
  | 18, _, _, _ => hq_78
  | 19, _, _, _ => hq_79
  | n + 20, h, _, _ => absurd h (by omega)
theorem hkA_3 : ∀ j, j < 20 → 60 + j ≠ 53 → 60 + j ≠ 106 → HK (60 + j)
  | 0, _, _, _ => hk_60
  | 1, _, _, _ => hk_61
  | 2, _, _, _ => hk_62
  | 3, _, _, _ => hk_63
  | 4, _, _, _ => hk_64
  | 5, _, _, _ => hk_65
  | 6, _, _, _ => hk_66
  | 7, _, _, _ => hk_67
  | 8, _, _, _ => hk_68
  | 9, _, _, _ => hk_69
  | 10, _, _, _ => hk_70
  | 11, _, _, _ => hk_71
  | 12, _, _, _ => hk_72
  | 13, _, _, _ => hk_73
  | 14, _, _, _ => hk_74
  | 15, _, _, _ => hk_75
  | 16, _, _, _ => hk_76
  | 17, _, _, _ => hk_77
  | 18, _, _, _ => hk_78
  | 19, _, _, _ => hk_79
  | n + 20, h, _, _ => absurd h (by omega)
theorem hqA_4 {sc : Nat × (Nat → Int32)} : ∀ j, j < 20 → 80 + j ≠ 53 → 80 + j ≠ 106 → HP sc (80 + j)
  | 0, _, _, _ => hq_80
  | 1, _, _, _ => hq_81
  | 2, _, _, _ => hq_82
  | 3, _, _, _ => hq_83
  | 4, _, _, _ => hq_84
  | 5, _, _, _ => hq_85
  | 6, _, _, _ => hq_86
  | 7, _, _, _ => hq_87
  | 8, _, _, _ => hq_88
  | 9, _, _, _ => hq_89
  | 10, _, _, _ => hq_90
  | 11, _, _, _ => hq_91
  | 12, _, _, _ => hq_92
  | 13, _, _, _ => hq_93
  | 14, _, _, _ => hq_94
  | 15, _, _, _ => hq_95
  | 16, _, _, _ => hq_96
  | 17, _, _, _ => hq_97
  | 18, _, _, _ => hq_98
  | 19, _, _, _ => hq_99
  | n + 20, h, _, _ => absurd h (by omega)
theorem hkA_4 : ∀ j, j < 20 → 80 + j ≠ 53 → 80 + j ≠ 106 → HK (80 + j)
  | 0, _, _, _ => hk_80
  | 1, _, _, _ => hk_81
  | 2, _, _, _ => hk_82
  | 3, _, _, _ => hk_83
  | 4, _, _, _ => hk_84
  | 5, _, _, _ => hk_85
  | 6, _, _, _ => hk_86
  | 7, _, _, _ => hk_87
  | 8, _, _, _ => hk_88
  | 9, _, _, _ => hk_89
  | 10, _, _, _ => hk_90
  | 11, _, _, _ => hk_91
  | 12, _, _, _ => hk_92
  | 13, _, _, _ => hk_93
  | 14, _, _, _ => hk_94
  | 15, _, _, _ => hk_95
  | 16, _, _, _ => hk_96
  | 17, _, _, _ => hk_97
  | 18, _, _, _ => hk_98
  | 19, _, _, _ => hk_99
  | n + 20, h, _, _ => absurd h (by omega)
theorem hqA_5 {sc : Nat × (Nat → Int32)} : ∀ j, j < 20 → 100 + j ≠ 53 → 100 + j ≠ 106 → HP sc (100 + j)
  | 0, _, _, _ => hq_100
  | 1, _, _, _ => hq_101
  | 2, _, _, _ => hq_102
  | 3, _, _, _ => hq_103
  | 4, _, _, _ => hq_104
  | 5, _, _, _ => hq_105
  | 6, _, _, h => absurd rfl h
  | 7, _, _, _ => hq_107
  | 8, _, _, _ => hq_108
  | 9, _, _, _ => hq_109
  | 10, _, _, _ => hq_110
  | 11, _, _, _ => hq_111
  | 12, _, _, _ => hq_112
  | 13, _, _, _ => hq_113
  | 14, _, _, _ => hq_114
  | 15, _, _, _ => hq_115
  | 16, _, _, _ => hq_116
  | 17, _, _, _ => hq_117
  | 18, _, _, _ => hq_118
  | 19, _, _, _ => hq_119
  | n + 20, h, _, _ => absurd h (by omega)
theorem hkA_5 : ∀ j, j < 20 → 100 + j ≠ 53 → 100 + j ≠ 106 → HK (100 + j)
  | 0, _, _, _ => hk_100
  | 1, _, _, _ => hk_101
  | 2, _, _, _ => hk_102
  | 3, _, _, _ => hk_103
  | 4, _, _, _ => hk_104
  | 5, _, _, _ => hk_105
  | 6, _, _, h => absurd rfl h
  | 7, _, _, _ => hk_107
  | 8, _, _, _ => hk_108
  | 9, _, _, _ => hk_109
  | 10, _, _, _ => hk_110
  | 11, _, _, _ => hk_111
  | 12, _, _, _ => hk_112
  | 13, _, _, _ => hk_113
  | 14, _, _, _ => hk_114
  | 15, _, _, _ => hk_115
  | 16, _, _, _ => hk_116
  | 17, _, _, _ => hk_117
  | 18, _, _, _ => hk_118
  | 19, _, _, _ => hk_119
  | n + 20, h, _, _ => absurd h (by omega)
theorem hqA_6 {sc : Nat × (Nat → Int32)} : ∀ j, j < 20 → 120 + j ≠ 53 → 120 + j ≠ 106 → HP sc (120 + j)
  | 0, _, _, _ => hq_120
  | 1, _, _, _ => hq_121
  | 2, _, _, _ => hq_122
  | 3, _, _, _ => hq_123
  | 4, _, _, _ => hq_124
  | 5, _, _, _ => hq_125
  | 6, _, _, _ => hq_126
  | 7, _, _, _ => hq_127
  | 8, _, _, _ => hq_128
  | 9, _, _, _ => hq_129
  | 10, _, _, _ => hq_130
  | 11, _, _, _ => hq_131
  | 12, _, _, _ => hq_132
  | 13, _, _, _ => hq_133
  | 14, _, _, _ => hq_134
  | 15, _, _, _ => hq_135
  | 16, _, _, _ => hq_136
  | 17, _, _, _ => hq_137
  | 18, _, _, _ => hq_138
  | 19, _, _, _ => hq_139
  | n + 20, h, _, _ => absurd h (by omega)
theorem hkA_6 : ∀ j, j < 20 → 120 + j ≠ 53 → 120 + j ≠ 106 → HK (120 + j)
  | 0, _, _, _ => hk_120
  | 1, _, _, _ => hk_121
  | 2, _, _, _ => hk_122
  | 3, _, _, _ => hk_123
  | 4, _, _, _ => hk_124
  | 5, _, _, _ => hk_125
  | 6, _, _, _ => hk_126
  | 7, _, _, _ => hk_127
  | 8, _, _, _ => hk_128
  | 9, _, _, _ => hk_129
  | 10, _, _, _ => hk_130
  | 11, _, _, _ => hk_131
  | 12, _, _, _ => hk_132
  | 13, _, _, _ => hk_133
  | 14, _, _, _ => hk_134
  | 15, _, _, _ => hk_135
  | 16, _, _, _ => hk_136
  | 17, _, _, _ => hk_137
  | 18, _, _, _ => hk_138
  | 19, _, _, _ => hk_139
  | n + 20, h, _, _ => absurd h (by omega)
theorem hqA_7 {sc : Nat × (Nat → Int32)} : ∀ j, j < 20 → 140 + j ≠ 53 → 140 + j ≠ 106 → HP sc (140 + j)
  | 0, _, _, _ => hq_140
  | 1, _, _, _ => hq_141
  | 2, _, _, _ => hq_142
  | 3, _, _, _ => hq_143
  | 4, _, _, _ => hq_144
  | 5, _, _, _ => hq_145
  | 6, _, _, _ => hq_146
  | 7, _, _, _ => hq_147
  | 8, _, _, _ => hq_148
  | 9, _, _, _ => hq_149
  | 10, _, _, _ => hq_150
  | 11, _, _, _ => hq_151
  | 12, _, _, _ => hq_152
  | 13, _, _, _ => hq_153
  | 14, _, _, _ => hq_154
  | 15, _, _, _ => hq_155
  | 16, _, _, _ => hq_156
  | 17, _, _, _ => hq_157
  | 18, _, _, _ => hq_158
  | 19, _, _, _ => hq_159
  | n + 20, h, _, _ => absurd h (by omega)
theorem hkA_7 : ∀ j, j < 20 → 140 + j ≠ 53 → 140 + j ≠ 106 → HK (140 + j)
  | 0, _, _, _ => hk_140
  | 1, _, _, _ => hk_141
  | 2, _, _, _ => hk_142
  | 3, _, _, _ => hk_143
  | 4, _, _, _ => hk_144
  | 5, _, _, _ => hk_145
  | 6, _, _, _ => hk_146
  | 7, _, _, _ => hk_147
  | 8, _, _, _ => hk_148
  | 9, _, _, _ => hk_149
  | 10, _, _, _ => hk_150
  | 11, _, _, _ => hk_151
  | 12, _, _, _ => hk_152
  | 13, _, _, _ => hk_153
  | 14, _, _, _ => hk_154
  | 15, _, _, _ => hk_155
  | 16, _, _, _ => hk_156
  | 17, _, _, _ => hk_157
  | 18, _, _, _ => hk_158
  | 19, _, _, _ => hk_159
  | n + 20, h, _, _ => absurd h (by omega)
theorem hqA_8 {sc : Nat × (Nat → Int32)} : ∀ j, j < 20 → 160 + j ≠ 53 → 160 + j ≠ 106 → HP sc (160 + j)
  | 0, _, _, _ => hq_160
  | 1, _, _, _ => hq_161
  | 2, _, _, _ => hq_162
  | 3, _, _, _ => hq_163
  | 4, _, _, _ => hq_164
  | 5, _, _, _ => hq_165
  | 6, _, _, _ => hq_166
  | 7, _, _, _ => hq_167
  | 8, _, _, _ => hq_168
  | 9, _, _, _ => hq_169
  | 10, _, _, _ => hq_170
  | 11, _, _, _ => hq_171
  | 12, _, _, _ => hq_172
  | 13, _, _, _ => hq_173
  | 14, _, _, _ => hq_174
  | 15, _, _, _ => hq_175
  | 16, _, _, _ => hq_176
  | 17, _, _, _ => hq_177
  | 18, _, _, _ => hq_178
  | 19, _, _, _ => hq_179
  | n + 20, h, _, _ => absurd h (by omega)
theorem hkA_8 : ∀ j, j < 20 → 160 + j ≠ 53 → 160 + j ≠ 106 → HK (160 + j)
  | 0, _, _, _ => hk_160
  | 1, _, _, _ => hk_161
  | 2, _, _, _ => hk_162
  | 3, _, _, _ => hk_163
  | 4, _, _, _ => hk_164
  | 5, _, _, _ => hk_165
  | 6, _, _, _ => hk_166
  | 7, _, _, _ => hk_167
  | 8, _, _, _ => hk_168
  | 9, _, _, _ => hk_169
  | 10, _, _, _ => hk_170
  | 11, _, _, _ => hk_171
  | 12, _, _, _ => hk_172
  | 13, _, _, _ => hk_173
  | 14, _, _, _ => hk_174
  | 15, _, _, _ => hk_175
  | 16, _, _, _ => hk_176
  | 17, _, _, _ => hk_177
  | 18, _, _, _ => hk_178
  | 19, _, _, _ => hk_179
  | n + 20, h, _, _ => absurd h (by omega)
theorem hqA_9 {sc : Nat × (Nat → Int32)} : ∀ j, j < 15 → 180 + j ≠ 53 → 180 + j ≠ 106 → HP sc (180 + j)
  | 0, _, _, _ => hq_180
  | 1, _, _, _ => hq_181
  | 2, _, _, _ => hq_182
  | 3, _, _, _ => hq_183
  | 4, _, _, _ => hq_184
  | 5, _, _, _ => hq_185
  | 6, _, _, _ => hq_186
  | 7, _, _, _ => hq_187
  | 8, _, _, _ => hq_188
  | 9, _, _, _ => hq_189
  | 10, _, _, _ => hq_190
  | 11, _, _, _ => hq_191
  | 12, _, _, _ => hq_192
  | 13, _, _, _ => hq_193
  | 14, _, _, _ => hq_194
  | n + 15, h, _, _ => absurd h (by omega)
theorem hkA_9 : ∀ j, j < 15 → 180 + j ≠ 53 → 180 + j ≠ 106 → HK (180 + j)
  | 0, _, _, _ => hk_180
  | 1, _, _, _ => hk_181
  | 2, _, _, _ => hk_182
  | 3, _, _, _ => hk_183
  | 4, _, _, _ => hk_184
  | 5, _, _, _ => hk_185
  | 6, _, _, _ => hk_186
  | 7, _, _, _ => hk_187
  | 8, _, _, _ => hk_188
  | 9, _, _, _ => hk_189
  | 10, _, _, _ => hk_190
  | 11, _, _, _ => hk_191
  | 12, _, _, _ => hk_192
  | 13, _, _, _ => hk_193
  | 14, _, _, _ => hk_194
  | n + 15, h, _, _ => absurd h (by omega)
theorem hq_all {sc : Nat × (Nat → Int32)} {k : Nat} (h : k < NM) (h53 : k ≠ 53) (h106 : k ≠ 106) : HP sc k := by
  have h' : k < 195 := h
  rcases Nat.lt_or_ge k 20 with q0 | q0
  · have z := hqA_0 (sc := sc) (k - 0) (by omega) (by omega) (by omega)
    rwa [show 0 + (k - 0) = k by omega] at z
  rcases Nat.lt_or_ge k 40 with q1 | q1
  · have z := hqA_1 (sc := sc) (k - 20) (by omega) (by omega) (by omega)
    rwa [show 20 + (k - 20) = k by omega] at z
  rcases Nat.lt_or_ge k 60 with q2 | q2
  · have z := hqA_2 (sc := sc) (k - 40) (by omega) (by omega) (by omega)
    rwa [show 40 + (k - 40) = k by omega] at z
  rcases Nat.lt_or_ge k 80 with q3 | q3
  · have z := hqA_3 (sc := sc) (k - 60) (by omega) (by omega) (by omega)
    rwa [show 60 + (k - 60) = k by omega] at z
  rcases Nat.lt_or_ge k 100 with q4 | q4
  · have z := hqA_4 (sc := sc) (k - 80) (by omega) (by omega) (by omega)
    rwa [show 80 + (k - 80) = k by omega] at z
  rcases Nat.lt_or_ge k 120 with q5 | q5
  · have z := hqA_5 (sc := sc) (k - 100) (by omega) (by omega) (by omega)
    rwa [show 100 + (k - 100) = k by omega] at z
  rcases Nat.lt_or_ge k 140 with q6 | q6
  · have z := hqA_6 (sc := sc) (k - 120) (by omega) (by omega) (by omega)
    rwa [show 120 + (k - 120) = k by omega] at z
  rcases Nat.lt_or_ge k 160 with q7 | q7
  · have z := hqA_7 (sc := sc) (k - 140) (by omega) (by omega) (by omega)
    rwa [show 140 + (k - 140) = k by omega] at z
  rcases Nat.lt_or_ge k 180 with q8 | q8
  · have z := hqA_8 (sc := sc) (k - 160) (by omega) (by omega) (by omega)
    rwa [show 160 + (k - 160) = k by omega] at z
  · have z := hqA_9 (sc := sc) (k - 180) (by omega) (by omega) (by omega)
    rwa [show 180 + (k - 180) = k by omega] at z
theorem hk_all {k : Nat} (h : k < NM) (h53 : k ≠ 53) (h106 : k ≠ 106) : HK k := by
  have h' : k < 195 := h
  rcases Nat.lt_or_ge k 20 with q0 | q0
  · have z := hkA_0 (k - 0) (by omega) (by omega) (by omega)
    rwa [show 0 + (k - 0) = k by omega] at z
  rcases Nat.lt_or_ge k 40 with q1 | q1
  · have z := hkA_1 (k - 20) (by omega) (by omega) (by omega)
    rwa [show 20 + (k - 20) = k by omega] at z
  rcases Nat.lt_or_ge k 60 with q2 | q2
  · have z := hkA_2 (k - 40) (by omega) (by omega) (by omega)
    rwa [show 40 + (k - 40) = k by omega] at z
  rcases Nat.lt_or_ge k 80 with q3 | q3
  · have z := hkA_3 (k - 60) (by omega) (by omega) (by omega)
    rwa [show 60 + (k - 60) = k by omega] at z
  rcases Nat.lt_or_ge k 100 with q4 | q4
  · have z := hkA_4 (k - 80) (by omega) (by omega) (by omega)
    rwa [show 80 + (k - 80) = k by omega] at z
  rcases Nat.lt_or_ge k 120 with q5 | q5
  · have z := hkA_5 (k - 100) (by omega) (by omega) (by omega)
    rwa [show 100 + (k - 100) = k by omega] at z
  rcases Nat.lt_or_ge k 140 with q6 | q6
  · have z := hkA_6 (k - 120) (by omega) (by omega) (by omega)
    rwa [show 120 + (k - 120) = k by omega] at z
  rcases Nat.lt_or_ge k 160 with q7 | q7
  · have z := hkA_7 (k - 140) (by omega) (by omega) (by omega)
    rwa [show 140 + (k - 140) = k by omega] at z
  rcases Nat.lt_or_ge k 180 with q8 | q8
  · have z := hkA_8 (k - 160) (by omega) (by omega) (by omega)
    rwa [show 160 + (k - 160) = k by omega] at z
  · have z := hkA_9 (k - 180) (by omega) (by omega) (by omega)
    rwa [show 180 + (k - 180) = k by omega] at z
theorem dpOk_mono {d e : Nat} (h : d ≤ e) {q : CE} (hq : dpOk dep d q = true) : dpOk dep e q = true := by
  obtain ⟨pc, len, ins, imm, a, b, dd, sw⟩ := q
  cases ins with
  | invokevirtual i =>
    have h1 : dep a ≤ d := Nat.le_of_ble_eq_true hq
    exact Nat.ble_eq_true_of_le (Nat.le_trans h1 h)
  | invokestatic i =>
    unfold dpOk at hq ⊢
    dsimp only at hq ⊢
    simp only [Bool.or_eq_true] at hq ⊢
    rcases hq with hq | hq
    · exact Or.inl hq
    · exact Or.inr (Nat.ble_eq_true_of_le (Nat.le_trans (Nat.le_of_ble_eq_true hq) h))
  | _ => exact hq
theorem dep_pos : ∀ k, 0 < dep k := by
  intro k
  unfold dep
  rw [List.getD_eq_getElem?_getD]
  cases hk : depL[k]? with
  | none => exact Nat.one_pos
  | some x =>
    have h : depL.all (fun x => decide (0 < x)) = true := by decide +kernel
    exact of_decide_eq_true (List.all_eq_true.mp h x (List.mem_of_getElem? hk))
/-- the contracts of all methods, at every depth -/
theorem met_all (l : Launch) (dC : Nat → ClassId) (dI : Nat → Nat → Nat) (cI cZ : ClassId) (ad : Nat → Nat) (sc : Nat × (Nat → Int32)) : ∀ d k, k < NM → k ≠ 53 → k ≠ 106 → MetK l dC dI cI cZ ad sc (CDd CC dep d) k d :=
  all_met (cdf := cdf) argCC (fun k hk h53 h106 q hq => ⟨List.all_eq_true.mp (hk_all hk h53 h106).1 q hq, fun d hd => dpOk_mono (show dep k - 1 ≤ d by omega) (List.all_eq_true.mp (hk_all hk h53 h106).2 q hq)⟩) dep_pos (fun k hk h53 h106 as σ Q h => hq_all hk h53 h106 as σ Q h)
