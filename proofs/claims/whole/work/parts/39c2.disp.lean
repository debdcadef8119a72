theorem op_64 {mu nu : Mu} (h : Rel mu nu) : OPS 64 mu nu := by
  unfold OPS
  rw [act_4 (by decide) (by decide) (by decide)]
  rw [md_i4 (by decide) (by decide)]
  exact fin_l (g_4 (op := nI 64) (d := 0) (rel_p1 h) (by decide +kernel) (by decide +kernel) (by unfold isSg; decide +kernel))
theorem op_65 {mu nu : Mu} (h : Rel mu nu) : OPS 65 mu nu := by
  unfold OPS
  rw [act_il (by decide) (by decide)]
  rw [md_i4 (by decide) (by decide)]
  exact fin_i (v := (nu 12 6 + 1) &&& 65535) h (by unfold F_Md_worksOnOne F_Md_worksOnOne_42; rw [(nb_rows 65 (by decide)).1, (nb_rows 65 (by decide)).2.1]; simp +decide only [F_Md_isSingle, F_Md_isSingle_26, ↓reduceIte])
theorem op_66 {mu nu : Mu} (h : Rel mu nu) : OPS 66 mu nu := by
  unfold OPS
  rw [act_il (by decide) (by decide)]
  rw [md_i4 (by decide) (by decide)]
  exact fin_i (v := (nu 12 6 + 1) &&& 65535) h (by unfold F_Md_worksOnOne F_Md_worksOnOne_42; rw [(nb_rows 66 (by decide)).1, (nb_rows 66 (by decide)).2.1]; simp +decide only [F_Md_isSingle, F_Md_isSingle_26, ↓reduceIte])
theorem op_67 {mu nu : Mu} (h : Rel mu nu) : OPS 67 mu nu := by
  unfold OPS
  rw [act_4 (by decide) (by decide) (by decide)]
  rw [md_i4 (by decide) (by decide)]
  exact fin_l (g_4 (op := nI 67) (d := 3) (rel_p1 h) (by decide +kernel) (by decide +kernel) (by unfold isSg; decide +kernel))
theorem op_68 {mu nu : Mu} (h : Rel mu nu) : OPS 68 mu nu := by
  unfold OPS
  rw [act_4 (by decide) (by decide) (by decide)]
  rw [md_i4 (by decide) (by decide)]
  exact fin_l (g_4 (op := nI 68) (d := 4) (rel_p1 h) (by decide +kernel) (by decide +kernel) (by unfold isSg; decide +kernel))
theorem op_69 {mu nu : Mu} (h : Rel mu nu) : OPS 69 mu nu := by
  unfold OPS
  rw [act_il (by decide) (by decide)]
  rw [md_i4 (by decide) (by decide)]
  exact fin_i (v := (nu 12 6 + 1) &&& 65535) h (by unfold F_Md_worksOnOne F_Md_worksOnOne_42; rw [(nb_rows 69 (by decide)).1, (nb_rows 69 (by decide)).2.1]; simp +decide only [F_Md_isSingle, F_Md_isSingle_26, ↓reduceIte])
theorem op_70 {mu nu : Mu} (h : Rel mu nu) : OPS 70 mu nu := by
  unfold OPS
  rw [act_4 (by decide) (by decide) (by decide)]
  rw [md_i4 (by decide) (by decide)]
  exact fin_l (g_4 (op := nI 70) (d := 6) (rel_p1 h) (by decide +kernel) (by decide +kernel) (by unfold isSg; decide +kernel))
theorem op_71 {mu nu : Mu} (h : Rel mu nu) : OPS 71 mu nu := by
  unfold OPS
  rw [act_4 (by decide) (by decide) (by decide)]
  rw [md_i4 (by decide) (by decide)]
  exact fin_l (g_4 (op := nI 71) (d := 7) (rel_p1 h) (by decide +kernel) (by decide +kernel) (by unfold isSg; decide +kernel))
theorem op_72 {mu nu : Mu} (h : Rel mu nu) : OPS 72 mu nu := by
  unfold OPS
  rw [act_4 (by decide) (by decide) (by decide)]
  rw [md_i4 (by decide) (by decide)]
  exact fin_l (g_4 (op := nI 72) (d := 8) (rel_p1 h) (by decide +kernel) (by decide +kernel) (by unfold isSg; decide +kernel))
theorem op_73 {mu nu : Mu} (h : Rel mu nu) : OPS 73 mu nu := by
  unfold OPS
  rw [act_4 (by decide) (by decide) (by decide)]
  rw [md_i4 (by decide) (by decide)]
  exact fin_l (g_4 (op := nI 73) (d := 9) (rel_p1 h) (by decide +kernel) (by decide +kernel) (by unfold isSg; decide +kernel))
theorem op_74 {mu nu : Mu} (h : Rel mu nu) : OPS 74 mu nu := by
  unfold OPS
  rw [act_4 (by decide) (by decide) (by decide)]
  rw [md_i4 (by decide) (by decide)]
  exact fin_l (g_4 (op := nI 74) (d := 10) (rel_p1 h) (by decide +kernel) (by decide +kernel) (by unfold isSg; decide +kernel))
theorem op_75 {mu nu : Mu} (h : Rel mu nu) : OPS 75 mu nu := by
  unfold OPS
  rw [act_il (by decide) (by decide)]
  rw [md_i4 (by decide) (by decide)]
  exact fin_i (v := (nu 12 6 + 1) &&& 65535) h (by unfold F_Md_worksOnOne F_Md_worksOnOne_42; rw [(nb_rows 75 (by decide)).1, (nb_rows 75 (by decide)).2.1]; simp +decide only [F_Md_isSingle, F_Md_isSingle_26, ↓reduceIte])
theorem op_76 {mu nu : Mu} (h : Rel mu nu) : OPS 76 mu nu := by
  unfold OPS
  rw [act_4 (by decide) (by decide) (by decide)]
  rw [md_i4 (by decide) (by decide)]
  exact fin_l (g_4 (op := nI 76) (d := 12) (rel_p1 h) (by decide +kernel) (by decide +kernel) (by unfold isSg; decide +kernel))
theorem op_77 {mu nu : Mu} (h : Rel mu nu) : OPS 77 mu nu := by
  unfold OPS
  rw [act_4 (by decide) (by decide) (by decide)]
  rw [md_i4 (by decide) (by decide)]
  exact fin_l (g_4 (op := nI 77) (d := 13) (rel_p1 h) (by decide +kernel) (by decide +kernel) (by unfold isSg; decide +kernel))
theorem op_78 {mu nu : Mu} (h : Rel mu nu) : OPS 78 mu nu := by
  unfold OPS
  rw [act_il (by decide) (by decide)]
  rw [md_i4 (by decide) (by decide)]
  exact fin_i (v := (nu 12 6 + 1) &&& 65535) h (by unfold F_Md_worksOnOne F_Md_worksOnOne_42; rw [(nb_rows 78 (by decide)).1, (nb_rows 78 (by decide)).2.1]; simp +decide only [F_Md_isSingle, F_Md_isSingle_26, ↓reduceIte])
theorem op_79 {mu nu : Mu} (h : Rel mu nu) : OPS 79 mu nu := by
  unfold OPS
  rw [act_4 (by decide) (by decide) (by decide)]
  rw [md_i4 (by decide) (by decide)]
  exact fin_l (g_4 (op := nI 79) (d := 15) (rel_p1 h) (by decide +kernel) (by decide +kernel) (by unfold isSg; decide +kernel))
theorem op_80 {mu nu : Mu} (h : Rel mu nu) : OPS 80 mu nu := by
  unfold OPS
  rw [act_5 (by decide) (by decide) (by decide)]
  rw [md_i4 (by decide) (by decide)]
  exact fin_l (g_5 (op := nI 80) (d := 0) (rel_p1 h) (by decide +kernel) (by decide +kernel) (by unfold isSg; decide +kernel))
theorem op_81 {mu nu : Mu} (h : Rel mu nu) : OPS 81 mu nu := by
  unfold OPS
  rw [act_il (by decide) (by decide)]
  rw [md_i4 (by decide) (by decide)]
  exact fin_i (v := (nu 12 6 + 1) &&& 65535) h (by unfold F_Md_worksOnOne F_Md_worksOnOne_42; rw [(nb_rows 81 (by decide)).1, (nb_rows 81 (by decide)).2.1]; simp +decide only [F_Md_isSingle, F_Md_isSingle_26, ↓reduceIte])
theorem op_82 {mu nu : Mu} (h : Rel mu nu) : OPS 82 mu nu := by
  unfold OPS
  rw [act_il (by decide) (by decide)]
  rw [md_i4 (by decide) (by decide)]
  exact fin_i (v := (nu 12 6 + 1) &&& 65535) h (by unfold F_Md_worksOnOne F_Md_worksOnOne_42; rw [(nb_rows 82 (by decide)).1, (nb_rows 82 (by decide)).2.1]; simp +decide only [F_Md_isSingle, F_Md_isSingle_26, ↓reduceIte])
theorem op_83 {mu nu : Mu} (h : Rel mu nu) : OPS 83 mu nu := by
  unfold OPS
  rw [act_5 (by decide) (by decide) (by decide)]
  rw [md_i4 (by decide) (by decide)]
  exact fin_l (g_5 (op := nI 83) (d := 3) (rel_p1 h) (by decide +kernel) (by decide +kernel) (by unfold isSg; decide +kernel))
theorem op_84 {mu nu : Mu} (h : Rel mu nu) : OPS 84 mu nu := by
  unfold OPS
  rw [act_5 (by decide) (by decide) (by decide)]
  rw [md_i4 (by decide) (by decide)]
  exact fin_l (g_5 (op := nI 84) (d := 4) (rel_p1 h) (by decide +kernel) (by decide +kernel) (by unfold isSg; decide +kernel))
theorem op_85 {mu nu : Mu} (h : Rel mu nu) : OPS 85 mu nu := by
  unfold OPS
  rw [act_il (by decide) (by decide)]
  rw [md_i4 (by decide) (by decide)]
  exact fin_i (v := (nu 12 6 + 1) &&& 65535) h (by unfold F_Md_worksOnOne F_Md_worksOnOne_42; rw [(nb_rows 85 (by decide)).1, (nb_rows 85 (by decide)).2.1]; simp +decide only [F_Md_isSingle, F_Md_isSingle_26, ↓reduceIte])
theorem op_86 {mu nu : Mu} (h : Rel mu nu) : OPS 86 mu nu := by
  unfold OPS
  rw [act_5 (by decide) (by decide) (by decide)]
  rw [md_i4 (by decide) (by decide)]
  exact fin_l (g_5 (op := nI 86) (d := 6) (rel_p1 h) (by decide +kernel) (by decide +kernel) (by unfold isSg; decide +kernel))
theorem op_87 {mu nu : Mu} (h : Rel mu nu) : OPS 87 mu nu := by
  unfold OPS
  rw [act_5 (by decide) (by decide) (by decide)]
  rw [md_i4 (by decide) (by decide)]
  exact fin_l (g_5 (op := nI 87) (d := 7) (rel_p1 h) (by decide +kernel) (by decide +kernel) (by unfold isSg; decide +kernel))
theorem op_88 {mu nu : Mu} (h : Rel mu nu) : OPS 88 mu nu := by
  unfold OPS
  rw [act_5 (by decide) (by decide) (by decide)]
  rw [md_i4 (by decide) (by decide)]
  exact fin_l (g_5 (op := nI 88) (d := 8) (rel_p1 h) (by decide +kernel) (by decide +kernel) (by unfold isSg; decide +kernel))
theorem op_89 {mu nu : Mu} (h : Rel mu nu) : OPS 89 mu nu := by
  unfold OPS
  rw [act_5 (by decide) (by decide) (by decide)]
  rw [md_i4 (by decide) (by decide)]
  exact fin_l (g_5 (op := nI 89) (d := 9) (rel_p1 h) (by decide +kernel) (by decide +kernel) (by unfold isSg; decide +kernel))
theorem op_90 {mu nu : Mu} (h : Rel mu nu) : OPS 90 mu nu := by
  unfold OPS
  rw [act_5 (by decide) (by decide) (by decide)]
  rw [md_i4 (by decide) (by decide)]
  exact fin_l (g_5 (op := nI 90) (d := 10) (rel_p1 h) (by decide +kernel) (by decide +kernel) (by unfold isSg; decide +kernel))
theorem op_91 {mu nu : Mu} (h : Rel mu nu) : OPS 91 mu nu := by
  unfold OPS
  rw [act_il (by decide) (by decide)]
  rw [md_i4 (by decide) (by decide)]
  exact fin_i (v := (nu 12 6 + 1) &&& 65535) h (by unfold F_Md_worksOnOne F_Md_worksOnOne_42; rw [(nb_rows 91 (by decide)).1, (nb_rows 91 (by decide)).2.1]; simp +decide only [F_Md_isSingle, F_Md_isSingle_26, ↓reduceIte])
theorem op_92 {mu nu : Mu} (h : Rel mu nu) : OPS 92 mu nu := by
  unfold OPS
  rw [act_5 (by decide) (by decide) (by decide)]
  rw [md_i4 (by decide) (by decide)]
  exact fin_l (g_5 (op := nI 92) (d := 12) (rel_p1 h) (by decide +kernel) (by decide +kernel) (by unfold isSg; decide +kernel))
theorem op_93 {mu nu : Mu} (h : Rel mu nu) : OPS 93 mu nu := by
  unfold OPS
  rw [act_5 (by decide) (by decide) (by decide)]
  rw [md_i4 (by decide) (by decide)]
  exact fin_l (g_5 (op := nI 93) (d := 13) (rel_p1 h) (by decide +kernel) (by decide +kernel) (by unfold isSg; decide +kernel))
theorem op_94 {mu nu : Mu} (h : Rel mu nu) : OPS 94 mu nu := by
  unfold OPS
  rw [act_il (by decide) (by decide)]
  rw [md_i4 (by decide) (by decide)]
  exact fin_i (v := (nu 12 6 + 1) &&& 65535) h (by unfold F_Md_worksOnOne F_Md_worksOnOne_42; rw [(nb_rows 94 (by decide)).1, (nb_rows 94 (by decide)).2.1]; simp +decide only [F_Md_isSingle, F_Md_isSingle_26, ↓reduceIte])
theorem op_95 {mu nu : Mu} (h : Rel mu nu) : OPS 95 mu nu := by
  unfold OPS
  rw [act_5 (by decide) (by decide) (by decide)]
  rw [md_i4 (by decide) (by decide)]
  exact fin_l (g_5 (op := nI 95) (d := 15) (rel_p1 h) (by decide +kernel) (by decide +kernel) (by unfold isSg; decide +kernel))
theorem op_96 {mu nu : Mu} (h : Rel mu nu) : OPS 96 mu nu := by
  unfold OPS
  rw [act_6 (by decide) (by decide) (by decide)]
  rw [md_i4 (by decide) (by decide)]
  exact fin_l (g_67 (op := nI 96) (d := 0) (w := 2) (t := 6) (rel_p1 h) (by decide +kernel) (by decide +kernel) (by unfold way; decide +kernel) (by decide +kernel) (by unfold isSg; decide +kernel))
theorem op_97 {mu nu : Mu} (h : Rel mu nu) : OPS 97 mu nu := by
  unfold OPS
  rw [act_il (by decide) (by decide)]
  rw [md_i4 (by decide) (by decide)]
  exact fin_i (v := (nu 12 6 + 1) &&& 65535) h (by unfold F_Md_worksOnOne F_Md_worksOnOne_42; rw [(nb_rows 97 (by decide)).1, (nb_rows 97 (by decide)).2.1]; simp +decide only [F_Md_isSingle, F_Md_isSingle_26, ↓reduceIte])
theorem op_98 {mu nu : Mu} (h : Rel mu nu) : OPS 98 mu nu := by
  unfold OPS
  rw [act_il (by decide) (by decide)]
  rw [md_i4 (by decide) (by decide)]
  exact fin_i (v := (nu 12 6 + 1) &&& 65535) h (by unfold F_Md_worksOnOne F_Md_worksOnOne_42; rw [(nb_rows 98 (by decide)).1, (nb_rows 98 (by decide)).2.1]; simp +decide only [F_Md_isSingle, F_Md_isSingle_26, ↓reduceIte])
theorem op_99 {mu nu : Mu} (h : Rel mu nu) : OPS 99 mu nu := by
  unfold OPS
  rw [act_6 (by decide) (by decide) (by decide)]
  rw [md_i4 (by decide) (by decide)]
  exact fin_l (g_67 (op := nI 99) (d := 3) (w := 2) (t := 6) (rel_p1 h) (by decide +kernel) (by decide +kernel) (by unfold way; decide +kernel) (by decide +kernel) (by unfold isSg; decide +kernel))
theorem op_100 {mu nu : Mu} (h : Rel mu nu) : OPS 100 mu nu := by
  unfold OPS
  rw [act_6 (by decide) (by decide) (by decide)]
  rw [md_i4 (by decide) (by decide)]
  exact fin_l (g_67 (op := nI 100) (d := 4) (w := 2) (t := 6) (rel_p1 h) (by decide +kernel) (by decide +kernel) (by unfold way; decide +kernel) (by decide +kernel) (by unfold isSg; decide +kernel))
theorem op_101 {mu nu : Mu} (h : Rel mu nu) : OPS 101 mu nu := by
  unfold OPS
  rw [act_il (by decide) (by decide)]
  rw [md_i4 (by decide) (by decide)]
  exact fin_i (v := (nu 12 6 + 1) &&& 65535) h (by unfold F_Md_worksOnOne F_Md_worksOnOne_42; rw [(nb_rows 101 (by decide)).1, (nb_rows 101 (by decide)).2.1]; simp +decide only [F_Md_isSingle, F_Md_isSingle_26, ↓reduceIte])
theorem op_102 {mu nu : Mu} (h : Rel mu nu) : OPS 102 mu nu := by
  unfold OPS
  rw [act_6 (by decide) (by decide) (by decide)]
  rw [md_i4 (by decide) (by decide)]
  exact fin_l (g_67 (op := nI 102) (d := 6) (w := 2) (t := 6) (rel_p1 h) (by decide +kernel) (by decide +kernel) (by unfold way; decide +kernel) (by decide +kernel) (by unfold isSg; decide +kernel))
theorem op_103 {mu nu : Mu} (h : Rel mu nu) : OPS 103 mu nu := by
  unfold OPS
  rw [act_6 (by decide) (by decide) (by decide)]
  rw [md_i4 (by decide) (by decide)]
  exact fin_l (g_67 (op := nI 103) (d := 7) (w := 2) (t := 6) (rel_p1 h) (by decide +kernel) (by decide +kernel) (by unfold way; decide +kernel) (by decide +kernel) (by unfold isSg; decide +kernel))
theorem op_104 {mu nu : Mu} (h : Rel mu nu) : OPS 104 mu nu := by
  unfold OPS
  rw [act_6 (by decide) (by decide) (by decide)]
  rw [md_i4 (by decide) (by decide)]
  exact fin_l (g_67 (op := nI 104) (d := 8) (w := 2) (t := 6) (rel_p1 h) (by decide +kernel) (by decide +kernel) (by unfold way; decide +kernel) (by decide +kernel) (by unfold isSg; decide +kernel))
theorem op_105 {mu nu : Mu} (h : Rel mu nu) : OPS 105 mu nu := by
  unfold OPS
  rw [act_6 (by decide) (by decide) (by decide)]
  rw [md_i4 (by decide) (by decide)]
  exact fin_l (g_67 (op := nI 105) (d := 9) (w := 2) (t := 6) (rel_p1 h) (by decide +kernel) (by decide +kernel) (by unfold way; decide +kernel) (by decide +kernel) (by unfold isSg; decide +kernel))
theorem op_106 {mu nu : Mu} (h : Rel mu nu) : OPS 106 mu nu := by
  unfold OPS
  rw [act_6 (by decide) (by decide) (by decide)]
  rw [md_i4 (by decide) (by decide)]
  exact fin_l (g_67 (op := nI 106) (d := 10) (w := 2) (t := 6) (rel_p1 h) (by decide +kernel) (by decide +kernel) (by unfold way; decide +kernel) (by decide +kernel) (by unfold isSg; decide +kernel))
theorem op_107 {mu nu : Mu} (h : Rel mu nu) : OPS 107 mu nu := by
  unfold OPS
  rw [act_il (by decide) (by decide)]
  rw [md_i4 (by decide) (by decide)]
  exact fin_i (v := (nu 12 6 + 1) &&& 65535) h (by unfold F_Md_worksOnOne F_Md_worksOnOne_42; rw [(nb_rows 107 (by decide)).1, (nb_rows 107 (by decide)).2.1]; simp +decide only [F_Md_isSingle, F_Md_isSingle_26, ↓reduceIte])
theorem op_108 {mu nu : Mu} (h : Rel mu nu) : OPS 108 mu nu := by
  unfold OPS
  rw [act_6 (by decide) (by decide) (by decide)]
  rw [md_i4 (by decide) (by decide)]
  exact fin_l (g_67 (op := nI 108) (d := 12) (w := 2) (t := 6) (rel_p1 h) (by decide +kernel) (by decide +kernel) (by unfold way; decide +kernel) (by decide +kernel) (by unfold isSg; decide +kernel))
theorem op_109 {mu nu : Mu} (h : Rel mu nu) : OPS 109 mu nu := by
  unfold OPS
  rw [act_6 (by decide) (by decide) (by decide)]
  rw [md_i4 (by decide) (by decide)]
  exact fin_l (g_67 (op := nI 109) (d := 13) (w := 2) (t := 6) (rel_p1 h) (by decide +kernel) (by decide +kernel) (by unfold way; decide +kernel) (by decide +kernel) (by unfold isSg; decide +kernel))
theorem op_110 {mu nu : Mu} (h : Rel mu nu) : OPS 110 mu nu := by
  unfold OPS
  rw [act_6 (by decide) (by decide) (by decide)]
  rw [md_i4 (by decide) (by decide)]
  exact fin_l (g_67 (op := nI 110) (d := 14) (w := 2) (t := 6) (rel_p1 h) (by decide +kernel) (by decide +kernel) (by unfold way; decide +kernel) (by decide +kernel) (by unfold isSg; decide +kernel))
theorem op_111 {mu nu : Mu} (h : Rel mu nu) : OPS 111 mu nu := by
  unfold OPS
  rw [act_6 (by decide) (by decide) (by decide)]
  rw [md_i4 (by decide) (by decide)]
  exact fin_l (g_67 (op := nI 111) (d := 15) (w := 2) (t := 6) (rel_p1 h) (by decide +kernel) (by decide +kernel) (by unfold way; decide +kernel) (by decide +kernel) (by unfold isSg; decide +kernel))
theorem op_112 {mu nu : Mu} (h : Rel mu nu) : OPS 112 mu nu := by
  unfold OPS
  rw [act_7 (by decide) (by decide) (by decide)]
  rw [md_i4 (by decide) (by decide)]
  exact fin_l (g_67 (op := nI 112) (d := 0) (w := 3) (t := 7) (rel_p1 h) (by decide +kernel) (by decide +kernel) (by unfold way; decide +kernel) (by decide +kernel) (by unfold isSg; decide +kernel))
theorem op_113 {mu nu : Mu} (h : Rel mu nu) : OPS 113 mu nu := by
  unfold OPS
  rw [act_il (by decide) (by decide)]
  rw [md_i4 (by decide) (by decide)]
  exact fin_i (v := (nu 12 6 + 1) &&& 65535) h (by unfold F_Md_worksOnOne F_Md_worksOnOne_42; rw [(nb_rows 113 (by decide)).1, (nb_rows 113 (by decide)).2.1]; simp +decide only [F_Md_isSingle, F_Md_isSingle_26, ↓reduceIte])
theorem op_114 {mu nu : Mu} (h : Rel mu nu) : OPS 114 mu nu := by
  unfold OPS
  rw [act_il (by decide) (by decide)]
  rw [md_i4 (by decide) (by decide)]
  exact fin_i (v := (nu 12 6 + 1) &&& 65535) h (by unfold F_Md_worksOnOne F_Md_worksOnOne_42; rw [(nb_rows 114 (by decide)).1, (nb_rows 114 (by decide)).2.1]; simp +decide only [F_Md_isSingle, F_Md_isSingle_26, ↓reduceIte])
theorem op_115 {mu nu : Mu} (h : Rel mu nu) : OPS 115 mu nu := by
  unfold OPS
  rw [act_7 (by decide) (by decide) (by decide)]
  rw [md_i4 (by decide) (by decide)]
  exact fin_l (g_67 (op := nI 115) (d := 3) (w := 3) (t := 7) (rel_p1 h) (by decide +kernel) (by decide +kernel) (by unfold way; decide +kernel) (by decide +kernel) (by unfold isSg; decide +kernel))
theorem op_116 {mu nu : Mu} (h : Rel mu nu) : OPS 116 mu nu := by
  unfold OPS
  rw [act_7 (by decide) (by decide) (by decide)]
  rw [md_i4 (by decide) (by decide)]
  exact fin_l (g_67 (op := nI 116) (d := 4) (w := 3) (t := 7) (rel_p1 h) (by decide +kernel) (by decide +kernel) (by unfold way; decide +kernel) (by decide +kernel) (by unfold isSg; decide +kernel))
theorem op_117 {mu nu : Mu} (h : Rel mu nu) : OPS 117 mu nu := by
  unfold OPS
  rw [act_il (by decide) (by decide)]
  rw [md_i4 (by decide) (by decide)]
  exact fin_i (v := (nu 12 6 + 1) &&& 65535) h (by unfold F_Md_worksOnOne F_Md_worksOnOne_42; rw [(nb_rows 117 (by decide)).1, (nb_rows 117 (by decide)).2.1]; simp +decide only [F_Md_isSingle, F_Md_isSingle_26, ↓reduceIte])
theorem op_118 {mu nu : Mu} (h : Rel mu nu) : OPS 118 mu nu := by
  unfold OPS
  rw [act_7 (by decide) (by decide) (by decide)]
  rw [md_i4 (by decide) (by decide)]
  exact fin_l (g_67 (op := nI 118) (d := 6) (w := 3) (t := 7) (rel_p1 h) (by decide +kernel) (by decide +kernel) (by unfold way; decide +kernel) (by decide +kernel) (by unfold isSg; decide +kernel))
theorem op_119 {mu nu : Mu} (h : Rel mu nu) : OPS 119 mu nu := by
  unfold OPS
  rw [act_7 (by decide) (by decide) (by decide)]
  rw [md_i4 (by decide) (by decide)]
  exact fin_l (g_67 (op := nI 119) (d := 7) (w := 3) (t := 7) (rel_p1 h) (by decide +kernel) (by decide +kernel) (by unfold way; decide +kernel) (by decide +kernel) (by unfold isSg; decide +kernel))
theorem op_120 {mu nu : Mu} (h : Rel mu nu) : OPS 120 mu nu := by
  unfold OPS
  rw [act_7 (by decide) (by decide) (by decide)]
  rw [md_i4 (by decide) (by decide)]
  exact fin_l (g_67 (op := nI 120) (d := 8) (w := 3) (t := 7) (rel_p1 h) (by decide +kernel) (by decide +kernel) (by unfold way; decide +kernel) (by decide +kernel) (by unfold isSg; decide +kernel))
theorem op_121 {mu nu : Mu} (h : Rel mu nu) : OPS 121 mu nu := by
  unfold OPS
  rw [act_7 (by decide) (by decide) (by decide)]
  rw [md_i4 (by decide) (by decide)]
  exact fin_l (g_67 (op := nI 121) (d := 9) (w := 3) (t := 7) (rel_p1 h) (by decide +kernel) (by decide +kernel) (by unfold way; decide +kernel) (by decide +kernel) (by unfold isSg; decide +kernel))
theorem op_122 {mu nu : Mu} (h : Rel mu nu) : OPS 122 mu nu := by
  unfold OPS
  rw [act_7 (by decide) (by decide) (by decide)]
  rw [md_i4 (by decide) (by decide)]
  exact fin_l (g_67 (op := nI 122) (d := 10) (w := 3) (t := 7) (rel_p1 h) (by decide +kernel) (by decide +kernel) (by unfold way; decide +kernel) (by decide +kernel) (by unfold isSg; decide +kernel))
theorem op_123 {mu nu : Mu} (h : Rel mu nu) : OPS 123 mu nu := by
  unfold OPS
  rw [act_il (by decide) (by decide)]
  rw [md_i4 (by decide) (by decide)]
  exact fin_i (v := (nu 12 6 + 1) &&& 65535) h (by unfold F_Md_worksOnOne F_Md_worksOnOne_42; rw [(nb_rows 123 (by decide)).1, (nb_rows 123 (by decide)).2.1]; simp +decide only [F_Md_isSingle, F_Md_isSingle_26, ↓reduceIte])
theorem op_124 {mu nu : Mu} (h : Rel mu nu) : OPS 124 mu nu := by
  unfold OPS
  rw [act_7 (by decide) (by decide) (by decide)]
  rw [md_i4 (by decide) (by decide)]
  exact fin_l (g_67 (op := nI 124) (d := 12) (w := 3) (t := 7) (rel_p1 h) (by decide +kernel) (by decide +kernel) (by unfold way; decide +kernel) (by decide +kernel) (by unfold isSg; decide +kernel))
theorem op_125 {mu nu : Mu} (h : Rel mu nu) : OPS 125 mu nu := by
  unfold OPS
  rw [act_7 (by decide) (by decide) (by decide)]
  rw [md_i4 (by decide) (by decide)]
  exact fin_l (g_67 (op := nI 125) (d := 13) (w := 3) (t := 7) (rel_p1 h) (by decide +kernel) (by decide +kernel) (by unfold way; decide +kernel) (by decide +kernel) (by unfold isSg; decide +kernel))
theorem op_126 {mu nu : Mu} (h : Rel mu nu) : OPS 126 mu nu := by
  unfold OPS
  rw [act_7 (by decide) (by decide) (by decide)]
  rw [md_i4 (by decide) (by decide)]
  exact fin_l (g_67 (op := nI 126) (d := 14) (w := 3) (t := 7) (rel_p1 h) (by decide +kernel) (by decide +kernel) (by unfold way; decide +kernel) (by decide +kernel) (by unfold isSg; decide +kernel))
theorem op_127 {mu nu : Mu} (h : Rel mu nu) : OPS 127 mu nu := by
  unfold OPS
  rw [act_7 (by decide) (by decide) (by decide)]
  rw [md_i4 (by decide) (by decide)]
  exact fin_l (g_67 (op := nI 127) (d := 15) (w := 3) (t := 7) (rel_p1 h) (by decide +kernel) (by decide +kernel) (by unfold way; decide +kernel) (by decide +kernel) (by unfold isSg; decide +kernel))
