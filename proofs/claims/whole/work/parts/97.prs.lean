/-! all pairs -/
theorem prs_all : Prs Inv := ⟨pr_0, pr_1, pr_2, pr_3, pr_4, pr_5, pr_6, pr_7, pr_8, pr_9, pr_10, pr_11, pr_12, pr_13, pr_14, pr_15, pr_16, pr_17, pr_18, pr_19, pr_20, pr_21, pr_22, pr_23, pr_24, pr_25, pr_26, pr_27, pr_28, pr_29, pr_30, pr_31, pr_32, pr_33⟩
theorem pure_law : PureLaw := pure_of prs_all inv_0
