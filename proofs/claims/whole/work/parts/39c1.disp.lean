theorem op_0 {mu nu : Mu} (h : Rel mu nu) : OPS 0 mu nu := by
  unfold OPS
  rw [act_il (by decide) (by decide)]
  rw [md_i0 (by decide)]
  exact fin_i (v := (nu 12 6 + 1) &&& 65535) h (by simp +decide only [F_Md_first, ↓reduceIte])
theorem op_1 {mu nu : Mu} (h : Rel mu nu) : OPS 1 mu nu := by
  unfold OPS
  rw [act_0 (by decide) (by decide) (by decide)]
  rw [md_i0 (by decide)]
  exact fin_l (gi_1 (rel_p1 h))
theorem op_2 {mu nu : Mu} (h : Rel mu nu) : OPS 2 mu nu := by
  unfold OPS
  rw [act_il (by decide) (by decide)]
  rw [md_i0 (by decide)]
  exact fin_i (v := (nu 12 6 + 1) &&& 65535) h (by simp +decide only [F_Md_first, ↓reduceIte])
theorem op_3 {mu nu : Mu} (h : Rel mu nu) : OPS 3 mu nu := by
  unfold OPS
  rw [act_il (by decide) (by decide)]
  rw [md_i0 (by decide)]
  exact fin_i (v := (nu 12 6 + 1) &&& 65535) h (by simp +decide only [F_Md_first, ↓reduceIte])
theorem op_4 {mu nu : Mu} (h : Rel mu nu) : OPS 4 mu nu := by
  unfold OPS
  rw [act_il (by decide) (by decide)]
  rw [md_i0 (by decide)]
  exact fin_i (v := (nu 12 6 + 1) &&& 65535) h (by simp +decide only [F_Md_first, ↓reduceIte])
theorem op_5 {mu nu : Mu} (h : Rel mu nu) : OPS 5 mu nu := by
  unfold OPS
  rw [act_il (by decide) (by decide)]
  rw [md_i0 (by decide)]
  exact fin_i (v := (nu 12 6 + 1) &&& 65535) h (by simp +decide only [F_Md_first, ↓reduceIte])
theorem op_6 {mu nu : Mu} (h : Rel mu nu) : OPS 6 mu nu := by
  unfold OPS
  rw [act_0 (by decide) (by decide) (by decide)]
  rw [md_i0 (by decide)]
  exact fin_l (gi_6 (rel_p1 h))
theorem op_7 {mu nu : Mu} (h : Rel mu nu) : OPS 7 mu nu := by
  unfold OPS
  rw [act_0 (by decide) (by decide) (by decide)]
  rw [md_i0 (by decide)]
  exact fin_l (gi_7 (rel_p1 h))
theorem op_8 {mu nu : Mu} (h : Rel mu nu) : OPS 8 mu nu := by
  unfold OPS
  rw [act_0 (by decide) (by decide) (by decide)]
  rw [md_i0 (by decide)]
  exact fin_l (gi_8 (rel_p1 h))
theorem op_9 {mu nu : Mu} (h : Rel mu nu) : OPS 9 mu nu := by
  unfold OPS
  rw [act_0 (by decide) (by decide) (by decide)]
  rw [md_i0 (by decide)]
  exact fin_l (gi_9 (rel_p1 h))
theorem op_10 {mu nu : Mu} (h : Rel mu nu) : OPS 10 mu nu := by
  unfold OPS
  rw [act_0 (by decide) (by decide) (by decide)]
  rw [md_i0 (by decide)]
  exact fin_l (gi_10 (rel_p1 h))
theorem op_11 {mu nu : Mu} (h : Rel mu nu) : OPS 11 mu nu := by
  unfold OPS
  rw [act_0 (by decide) (by decide) (by decide)]
  rw [md_i0 (by decide)]
  exact fin_l (gi_11 (rel_p1 h))
theorem op_12 {mu nu : Mu} (h : Rel mu nu) : OPS 12 mu nu := by
  unfold OPS
  rw [act_0 (by decide) (by decide) (by decide)]
  rw [md_i0 (by decide)]
  exact fin_l (gi_12 (rel_p1 h))
theorem op_13 {mu nu : Mu} (h : Rel mu nu) : OPS 13 mu nu := by
  unfold OPS
  rw [act_0 (by decide) (by decide) (by decide)]
  rw [md_i0 (by decide)]
  exact fin_l (gi_13 (rel_p1 h))
theorem op_14 {mu nu : Mu} (h : Rel mu nu) : OPS 14 mu nu := by
  unfold OPS
  rw [act_0 (by decide) (by decide) (by decide)]
  rw [md_i0 (by decide)]
  exact fin_l (gi_14 (rel_p1 h))
theorem op_15 {mu nu : Mu} (h : Rel mu nu) : OPS 15 mu nu := by
  unfold OPS
  rw [act_0 (by decide) (by decide) (by decide)]
  rw [md_i0 (by decide)]
  exact fin_l (gi_15 (rel_p1 h))
theorem op_16 {mu nu : Mu} (h : Rel mu nu) : OPS 16 mu nu := by
  unfold OPS
  rw [act_1 (by decide) (by decide) (by decide)]
  rw [md_i0 (by decide)]
  exact fin_l (gi_16 (rel_p1 h))
theorem op_17 {mu nu : Mu} (h : Rel mu nu) : OPS 17 mu nu := by
  unfold OPS
  rw [act_1 (by decide) (by decide) (by decide)]
  rw [md_i0 (by decide)]
  exact fin_l (gi_17 (rel_p1 h))
theorem op_18 {mu nu : Mu} (h : Rel mu nu) : OPS 18 mu nu := by
  unfold OPS
  rw [act_il (by decide) (by decide)]
  rw [md_i0 (by decide)]
  exact fin_i (v := (nu 12 6 + 1) &&& 65535) h (by simp +decide only [F_Md_first, ↓reduceIte])
theorem op_19 {mu nu : Mu} (h : Rel mu nu) : OPS 19 mu nu := by
  unfold OPS
  rw [act_il (by decide) (by decide)]
  rw [md_i0 (by decide)]
  exact fin_i (v := (nu 12 6 + 1) &&& 65535) h (by simp +decide only [F_Md_first, ↓reduceIte])
theorem op_20 {mu nu : Mu} (h : Rel mu nu) : OPS 20 mu nu := by
  unfold OPS
  rw [act_il (by decide) (by decide)]
  rw [md_i0 (by decide)]
  exact fin_i (v := (nu 12 6 + 1) &&& 65535) h (by simp +decide only [F_Md_first, ↓reduceIte])
theorem op_21 {mu nu : Mu} (h : Rel mu nu) : OPS 21 mu nu := by
  unfold OPS
  rw [act_il (by decide) (by decide)]
  rw [md_i0 (by decide)]
  exact fin_i (v := (nu 12 6 + 1) &&& 65535) h (by simp +decide only [F_Md_first, ↓reduceIte])
theorem op_22 {mu nu : Mu} (h : Rel mu nu) : OPS 22 mu nu := by
  unfold OPS
  rw [act_1 (by decide) (by decide) (by decide)]
  rw [md_i0 (by decide)]
  exact fin_l (gi_22 (rel_p1 h))
theorem op_23 {mu nu : Mu} (h : Rel mu nu) : OPS 23 mu nu := by
  unfold OPS
  rw [act_1 (by decide) (by decide) (by decide)]
  rw [md_i0 (by decide)]
  exact fin_l (gi_23 (rel_p1 h))
theorem op_24 {mu nu : Mu} (h : Rel mu nu) : OPS 24 mu nu := by
  unfold OPS
  rw [act_il (by decide) (by decide)]
  rw [md_i0 (by decide)]
  exact fin_i (v := (nu 12 6 + 1) &&& 65535) h (by simp +decide only [F_Md_first, ↓reduceIte])
theorem op_25 {mu nu : Mu} (h : Rel mu nu) : OPS 25 mu nu := by
  unfold OPS
  rw [act_1 (by decide) (by decide) (by decide)]
  rw [md_i0 (by decide)]
  exact fin_l (gi_25 (rel_p1 h))
theorem op_26 {mu nu : Mu} (h : Rel mu nu) : OPS 26 mu nu := by
  unfold OPS
  rw [act_il (by decide) (by decide)]
  rw [md_i0 (by decide)]
  exact fin_i (v := (nu 12 6 + 1) &&& 65535) h (by simp +decide only [F_Md_first, ↓reduceIte])
theorem op_27 {mu nu : Mu} (h : Rel mu nu) : OPS 27 mu nu := by
  unfold OPS
  rw [act_1 (by decide) (by decide) (by decide)]
  rw [md_i0 (by decide)]
  exact fin_l (gi_27 (rel_p1 h))
theorem op_28 {mu nu : Mu} (h : Rel mu nu) : OPS 28 mu nu := by
  unfold OPS
  rw [act_il (by decide) (by decide)]
  rw [md_i0 (by decide)]
  exact fin_i (v := (nu 12 6 + 1) &&& 65535) h (by simp +decide only [F_Md_first, ↓reduceIte])
theorem op_29 {mu nu : Mu} (h : Rel mu nu) : OPS 29 mu nu := by
  unfold OPS
  rw [act_il (by decide) (by decide)]
  rw [md_i0 (by decide)]
  exact fin_i (v := (nu 12 6 + 1) &&& 65535) h (by simp +decide only [F_Md_first, ↓reduceIte])
theorem op_30 {mu nu : Mu} (h : Rel mu nu) : OPS 30 mu nu := by
  unfold OPS
  rw [act_il (by decide) (by decide)]
  rw [md_i0 (by decide)]
  exact fin_i (v := (nu 12 6 + 1) &&& 65535) h (by simp +decide only [F_Md_first, ↓reduceIte])
theorem op_31 {mu nu : Mu} (h : Rel mu nu) : OPS 31 mu nu := by
  unfold OPS
  rw [act_il (by decide) (by decide)]
  rw [md_i0 (by decide)]
  exact fin_i (v := (nu 12 6 + 1) &&& 65535) h (by simp +decide only [F_Md_first, ↓reduceIte])
theorem op_32 {mu nu : Mu} (h : Rel mu nu) : OPS 32 mu nu := by
  unfold OPS
  rw [act_2 (by decide) (by decide) (by decide)]
  rw [md_i2 (by decide) (by decide) (by decide)]
  exact rel_branch (k := 0) (rel_p1 h) (by decide) (by decide)
theorem op_33 {mu nu : Mu} (h : Rel mu nu) : OPS 33 mu nu := by
  unfold OPS
  rw [act_il (by decide) (by decide)]
  rw [md_i33]
  exact fin_i (v := (nu 12 6 + 1) &&& 65535) h rfl
theorem op_34 {mu nu : Mu} (h : Rel mu nu) : OPS 34 mu nu := by
  unfold OPS
  rw [act_2 (by decide) (by decide) (by decide)]
  rw [md_i2 (by decide) (by decide) (by decide)]
  exact rel_branch (k := 2) (rel_p1 h) (by decide) (by decide)
theorem op_35 {mu nu : Mu} (h : Rel mu nu) : OPS 35 mu nu := by
  unfold OPS
  rw [act_2 (by decide) (by decide) (by decide)]
  rw [md_i2 (by decide) (by decide) (by decide)]
  exact rel_branch (k := 3) (rel_p1 h) (by decide) (by decide)
theorem op_36 {mu nu : Mu} (h : Rel mu nu) : OPS 36 mu nu := by
  unfold OPS
  rw [act_2 (by decide) (by decide) (by decide)]
  rw [md_i2 (by decide) (by decide) (by decide)]
  exact rel_branch (k := 4) (rel_p1 h) (by decide) (by decide)
theorem op_37 {mu nu : Mu} (h : Rel mu nu) : OPS 37 mu nu := by
  unfold OPS
  rw [act_2 (by decide) (by decide) (by decide)]
  rw [md_i2 (by decide) (by decide) (by decide)]
  exact rel_branch (k := 5) (rel_p1 h) (by decide) (by decide)
theorem op_38 {mu nu : Mu} (h : Rel mu nu) : OPS 38 mu nu := by
  unfold OPS
  rw [act_2 (by decide) (by decide) (by decide)]
  rw [md_i2 (by decide) (by decide) (by decide)]
  exact rel_branch (k := 6) (rel_p1 h) (by decide) (by decide)
theorem op_39 {mu nu : Mu} (h : Rel mu nu) : OPS 39 mu nu := by
  unfold OPS
  rw [act_2 (by decide) (by decide) (by decide)]
  rw [md_i2 (by decide) (by decide) (by decide)]
  exact rel_branch (k := 7) (rel_p1 h) (by decide) (by decide)
theorem op_40 {mu nu : Mu} (h : Rel mu nu) : OPS 40 mu nu := by
  unfold OPS
  rw [act_2 (by decide) (by decide) (by decide)]
  rw [md_i2 (by decide) (by decide) (by decide)]
  exact rel_branch (k := 8) (rel_p1 h) (by decide) (by decide)
theorem op_41 {mu nu : Mu} (h : Rel mu nu) : OPS 41 mu nu := by
  unfold OPS
  rw [act_2 (by decide) (by decide) (by decide)]
  rw [md_i2 (by decide) (by decide) (by decide)]
  exact rel_branch (k := 9) (rel_p1 h) (by decide) (by decide)
theorem op_42 {mu nu : Mu} (h : Rel mu nu) : OPS 42 mu nu := by
  unfold OPS
  rw [act_2 (by decide) (by decide) (by decide)]
  rw [md_i2 (by decide) (by decide) (by decide)]
  exact rel_branch (k := 10) (rel_p1 h) (by decide) (by decide)
theorem op_43 {mu nu : Mu} (h : Rel mu nu) : OPS 43 mu nu := by
  unfold OPS
  rw [act_2 (by decide) (by decide) (by decide)]
  rw [md_i2 (by decide) (by decide) (by decide)]
  exact rel_branch (k := 11) (rel_p1 h) (by decide) (by decide)
theorem op_44 {mu nu : Mu} (h : Rel mu nu) : OPS 44 mu nu := by
  unfold OPS
  rw [act_2 (by decide) (by decide) (by decide)]
  rw [md_i2 (by decide) (by decide) (by decide)]
  exact rel_branch (k := 12) (rel_p1 h) (by decide) (by decide)
theorem op_45 {mu nu : Mu} (h : Rel mu nu) : OPS 45 mu nu := by
  unfold OPS
  rw [act_2 (by decide) (by decide) (by decide)]
  rw [md_i2 (by decide) (by decide) (by decide)]
  exact rel_branch (k := 13) (rel_p1 h) (by decide) (by decide)
theorem op_46 {mu nu : Mu} (h : Rel mu nu) : OPS 46 mu nu := by
  unfold OPS
  rw [act_2 (by decide) (by decide) (by decide)]
  rw [md_i2 (by decide) (by decide) (by decide)]
  exact rel_branch (k := 14) (rel_p1 h) (by decide) (by decide)
theorem op_47 {mu nu : Mu} (h : Rel mu nu) : OPS 47 mu nu := by
  unfold OPS
  rw [act_2 (by decide) (by decide) (by decide)]
  rw [md_i2 (by decide) (by decide) (by decide)]
  exact rel_branch (k := 15) (rel_p1 h) (by decide) (by decide)
theorem op_48 {mu nu : Mu} (h : Rel mu nu) : OPS 48 mu nu := by
  unfold OPS
  rw [act_3 (by decide) (by decide) (by decide)]
  rw [md_i3 (by decide) (by decide)]
  exact fin_l (gi_48 (rel_p1 h))
theorem op_49 {mu nu : Mu} (h : Rel mu nu) : OPS 49 mu nu := by
  unfold OPS
  rw [act_3 (by decide) (by decide) (by decide)]
  rw [md_i3 (by decide) (by decide)]
  exact fin_l (gi_49 (rel_p1 h))
theorem op_50 {mu nu : Mu} (h : Rel mu nu) : OPS 50 mu nu := by
  unfold OPS
  rw [act_3 (by decide) (by decide) (by decide)]
  rw [md_i3 (by decide) (by decide)]
  exact fin_l (gi_50 (rel_p1 h))
theorem op_51 {mu nu : Mu} (h : Rel mu nu) : OPS 51 mu nu := by
  unfold OPS
  rw [act_3 (by decide) (by decide) (by decide)]
  rw [md_i3 (by decide) (by decide)]
  exact fin_l (gi_51 (rel_p1 h))
theorem op_52 {mu nu : Mu} (h : Rel mu nu) : OPS 52 mu nu := by
  unfold OPS
  rw [act_3 (by decide) (by decide) (by decide)]
  rw [md_i3 (by decide) (by decide)]
  exact fin_l (gi_52 (rel_p1 h))
theorem op_53 {mu nu : Mu} (h : Rel mu nu) : OPS 53 mu nu := by
  unfold OPS
  rw [act_3 (by decide) (by decide) (by decide)]
  rw [md_i3 (by decide) (by decide)]
  exact fin_l (gi_53 (rel_p1 h))
theorem op_54 {mu nu : Mu} (h : Rel mu nu) : OPS 54 mu nu := by
  unfold OPS
  rw [act_3 (by decide) (by decide) (by decide)]
  rw [md_i3 (by decide) (by decide)]
  exact fin_l (gi_54 (rel_p1 h))
theorem op_55 {mu nu : Mu} (h : Rel mu nu) : OPS 55 mu nu := by
  unfold OPS
  rw [act_3 (by decide) (by decide) (by decide)]
  rw [md_i3 (by decide) (by decide)]
  exact fin_l (gi_55 (rel_p1 h))
theorem op_56 {mu nu : Mu} (h : Rel mu nu) : OPS 56 mu nu := by
  unfold OPS
  rw [act_il (by decide) (by decide)]
  rw [md_i3 (by decide) (by decide)]
  exact fin_i (v := (nu 12 6 + 1) &&& 65535) h (by simp +decide only [F_Md_stacked, ↓reduceIte])
theorem op_57 {mu nu : Mu} (h : Rel mu nu) : OPS 57 mu nu := by
  unfold OPS
  rw [act_3 (by decide) (by decide) (by decide)]
  rw [md_i3 (by decide) (by decide)]
  exact fin_l (gi_57 (rel_p1 h))
theorem op_58 {mu nu : Mu} (h : Rel mu nu) : OPS 58 mu nu := by
  unfold OPS
  rw [act_il (by decide) (by decide)]
  rw [md_i3 (by decide) (by decide)]
  exact fin_i (v := (nu 12 6 + 1) &&& 65535) h (by simp +decide only [F_Md_stacked, ↓reduceIte])
theorem op_59 {mu nu : Mu} (h : Rel mu nu) : OPS 59 mu nu := by
  unfold OPS
  rw [act_3 (by decide) (by decide) (by decide)]
  rw [md_i3 (by decide) (by decide)]
  exact fin_l (gi_59 (rel_p1 h))
theorem op_60 {mu nu : Mu} (h : Rel mu nu) : OPS 60 mu nu := by
  unfold OPS
  rw [act_il (by decide) (by decide)]
  rw [md_i3 (by decide) (by decide)]
  exact fin_i (v := (nu 12 6 + 1) &&& 65535) h (by simp +decide only [F_Md_stacked, ↓reduceIte])
theorem op_61 {mu nu : Mu} (h : Rel mu nu) : OPS 61 mu nu := by
  unfold OPS
  rw [act_il (by decide) (by decide)]
  rw [md_i3 (by decide) (by decide)]
  exact fin_i (v := (nu 12 6 + 1) &&& 65535) h (by simp +decide only [F_Md_stacked, ↓reduceIte])
theorem op_62 {mu nu : Mu} (h : Rel mu nu) : OPS 62 mu nu := by
  unfold OPS
  rw [act_3 (by decide) (by decide) (by decide)]
  rw [md_i3 (by decide) (by decide)]
  exact fin_l (gi_62 (rel_p1 h))
theorem op_63 {mu nu : Mu} (h : Rel mu nu) : OPS 63 mu nu := by
  unfold OPS
  rw [act_3 (by decide) (by decide) (by decide)]
  rw [md_i3 (by decide) (by decide)]
  exact fin_l (gi_63 (rel_p1 h))
