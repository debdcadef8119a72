/-! bytes under and, or -/
theorem nI_all (x : Int32) : x = nI x.toBitVec.toNat := by
  apply Int32.toBitVec_inj.1
  show x.toBitVec = BitVec.ofNat 32 x.toBitVec.toNat
  simp
theorem bB_andl {x y : Int32} (hx : bB x) : bB (x &&& y) := by
  obtain ⟨i, hi, rfl⟩ := bB_of hx
  rw [nI_all y, nx_and]
  exact bB_nI (Nat.lt_of_le_of_lt Nat.and_le_left hi)
theorem bB_or {x y : Int32} (hx : bB x) (hy : bB y) : bB (x ||| y) := by
  obtain ⟨i, hi, rfl⟩ := bB_of hx
  obtain ⟨j, hj, rfl⟩ := bB_of hy
  rw [nx_or]
  exact bB_nI (Nat.or_lt_two_pow (n := 8) hi hj)
theorem bB_63 (x : Int32) : bB (x &&& 63) := by have := bF_and x; unfold bF at this; unfold bB; omega
theorem and255 {x : Int32} (h : bB x) : x &&& 255 = x := by
  obtain ⟨j, hj, rfl⟩ := bB_of h
  exact (b_rows j hj).2.2.2.1
theorem ctl_rows : ∀ j, j < 256 → nI j &&& (-64 : Int32) = nI j &&& 192 := by decide +kernel
theorem nx_bitT {x : Nat} (k : Nat) (hk : k < 31) : (nI x &&& nI (2 ^ k) = 0) ↔ x.testBit k = false := by
  rw [nx_bit k hk, Nat.testBit_eq_decide_div_mod_eq, decide_eq_false_iff_not]; omega
theorem ctl_5 {c v : Int32} : (((c &&& 192) ||| (v &&& 63)) &&& 32 = 0) ↔ (v &&& 32 = 0) := by
  rw [nI_all c, nI_all v]
  generalize c.toBitVec.toNat = i
  generalize v.toBitVec.toNat = j
  rw [show (192 : Int32) = nI 192 from rfl, show (63 : Int32) = nI 63 from rfl, show (32 : Int32) = nI (2 ^ 5) from rfl, nx_and i 192, nx_and j 63, nx_or, nx_bitT 5 (by decide), nx_bitT 5 (by decide), Nat.testBit_or, Nat.testBit_and, Nat.testBit_and, show Nat.testBit 192 5 = false from by decide, show Nat.testBit 63 5 = true from by decide]
  simp
theorem e_c0 : (0 : Int32).toNatClampNeg = 0 := by decide
theorem e_c1 : (1 : Int32).toNatClampNeg = 1 := by decide
/-! the two sides -/
theorem sim_rd4 {mu nu : Mu} (h : Rel mu nu) : SimB (F_Sd4_readData mu) (F_Md_readSide 0 nu) := by
  obtain ⟨⟨o1, o2⟩, ⟨d1, d2⟩, ⟨t1, t2⟩, ⟨p1, p2⟩, l1, l2⟩ := id h.2.2.2.1
  have q0 : ¬ mu 4 0 = 0 := by rw [h.2.2.2.2.2.2.2.1]; decide
  unfold F_Sd4_readData F_Md_readSide
  rw [e_c0, ← t1, ← d1]
  by_cases e : mu 4 3 &&& 4 = 0
  · rw [if_pos e, if_pos e]; exact ⟨rfl, d2, h⟩
  · rw [if_neg e, if_neg e, if_neg q0, if_pos rfl]
    have h1 : Rel (ps mu 4 3 (mu 4 3 &&& 63)) (ps nu 17 0 (mu 4 3 &&& 63)) := rel_ctl0 h (bB_andl t2)
    have w : ∀ (m n : Mu), Rel m n → SimB (F_Sd4_readData_44 m) (F_Md_readSide_48 0 n) := by
      intro m n hm
      obtain ⟨⟨a1, a2⟩, ⟨b1, b2⟩, ⟨_, _⟩, ⟨f1, f2⟩, _, _⟩ := id hm.2.2.2.1
      unfold F_Sd4_readData_44 F_Md_readSide_48
      rw [e_c0, ← a1, ← b1, ← f1, and255 (bB_andl f2)]
      exact ⟨rfl, bB_or (bB_andl a2) (bB_andl f2), hm⟩
    have e2 : F_Sd4_isStrobed (ps mu 4 3 (mu 4 3 &&& 63)) = F_Md_answers 0 (ps nu 17 0 (mu 4 3 &&& 63)) := rfl
    rw [e2]
    by_cases f : F_Md_answers 0 (ps nu 17 0 (mu 4 3 &&& 63)) = 0
    · rw [if_pos f, if_pos f]; exact w _ _ h1
    · rw [if_neg f, if_neg f]; exact w _ _ (rel_l20 h1)
theorem sim_rd5 {mu nu : Mu} (h : Rel mu nu) : SimB (F_Sd5_readData mu) (F_Md_readSide 1 nu) := by
  obtain ⟨⟨o1, o2⟩, ⟨d1, d2⟩, ⟨t1, t2⟩, ⟨p1, p2⟩, l1, l2⟩ := id h.2.2.2.2.1
  have q0 : mu 5 0 = 0 := h.2.2.2.2.2.2.2.2
  unfold F_Sd5_readData F_Md_readSide
  rw [e_c1, ← t1, ← d1]
  by_cases e : mu 5 3 &&& 4 = 0
  · rw [if_pos e, if_pos e]; exact ⟨rfl, d2, h⟩
  · rw [if_neg e, if_neg e, if_pos q0, if_neg (show ¬ (1 : Int32) = 0 by decide)]
    have h1 : Rel (ps mu 5 3 (mu 5 3 &&& 63)) (ps nu 17 1 (mu 5 3 &&& 63)) := rel_ctl1 h (bB_andl t2)
    have w : ∀ (m n : Mu), Rel m n → SimB (F_Sd5_readData_44 m) (F_Md_readSide_48 1 n) := by
      intro m n hm
      obtain ⟨⟨a1, a2⟩, ⟨b1, b2⟩, ⟨_, _⟩, ⟨f1, f2⟩, _, _⟩ := id hm.2.2.2.2.1
      unfold F_Sd5_readData_44 F_Md_readSide_48
      rw [e_c1, ← a1, ← b1, ← f1, and255 (bB_andl f2)]
      exact ⟨rfl, bB_or (bB_andl a2) (bB_andl f2), hm⟩
    exact w _ _ h1
theorem rel_wd4 {mu nu : Mu} {v : Int32} (h : Rel mu nu) (hv : bB v) : Rel (F_Sd4_writeData v mu) (F_Md_writeSide 0 v nu) := by
  obtain ⟨⟨o1, o2⟩, ⟨d1, d2⟩, ⟨t1, t2⟩, ⟨p1, p2⟩, l1, l2⟩ := id h.2.2.2.1
  have q0 : ¬ mu 4 0 = 0 := by rw [h.2.2.2.2.2.2.2.1]; decide
  unfold F_Sd4_writeData F_Md_writeSide
  rw [e_c0, ← t1]
  by_cases e : mu 4 3 &&& 4 = 0
  · rw [if_pos e, if_pos e]; exact rel_dir0 h hv
  · rw [if_neg e, if_neg e, if_neg q0, if_neg (show ¬ (0 : Int32) = 1 by decide)]; exact rel_out0 h hv
theorem rel_wd5 {mu nu : Mu} {v : Int32} (h : Rel mu nu) (hv : bB v) : Rel (F_Sd5_writeData v mu) (F_Md_writeSide 1 v nu) := by
  obtain ⟨⟨o1, o2⟩, ⟨d1, d2⟩, ⟨t1, t2⟩, ⟨p1, p2⟩, l1, l2⟩ := id h.2.2.2.2.1
  have q0 : mu 5 0 = 0 := h.2.2.2.2.2.2.2.2
  unfold F_Sd5_writeData F_Md_writeSide
  rw [e_c1, ← t1]
  by_cases e : mu 5 3 &&& 4 = 0
  · rw [if_pos e, if_pos e]; exact rel_dir1 h hv
  · rw [if_neg e, if_neg e, if_pos q0, if_pos rfl]
    have h1 := rel_out1 h hv
    have e2 : F_Sd5_isStrobed (ps mu 5 1 v) = F_Md_answers 1 (ps nu 15 1 v) := by
      show (if mu 5 3 &&& 48 = 32 then (1 : Int32) else 0) = (if nu 17 1 &&& 48 = 32 then 1 else 0)
      rw [t1]
    rw [e2]
    by_cases f : F_Md_answers 1 (ps nu 15 1 v) = 0
    · rw [if_pos f, if_pos f]; exact h1
    · rw [if_neg f, if_neg f]; exact rel_l21 h1
theorem rel_wc4 {mu nu : Mu} {v : Int32} (h : Rel mu nu) : Rel (F_Sd4_writeControl v mu) (F_Md_writeSideControl 0 v nu) := by
  obtain ⟨⟨o1, o2⟩, ⟨d1, d2⟩, ⟨t1, t2⟩, ⟨p1, p2⟩, l1, l2⟩ := id h.2.2.2.1
  have e0 : mu 4 3 &&& (-64 : Int32) = mu 4 3 &&& 192 := by obtain ⟨j, hj, e⟩ := bB_of t2; rw [e]; exact ctl_rows j hj
  unfold F_Sd4_writeControl F_Md_writeSideControl
  rw [e_c0, ← t1, e0]
  have h1 : Rel (ps mu 4 3 ((mu 4 3 &&& 192) ||| (v &&& 63))) (ps nu 17 0 ((mu 4 3 &&& 192) ||| (v &&& 63))) := rel_ctl0 h (bB_or (bB_andl t2) (bB_63 v))
  have e2 : F_Sd4_isStrobed (ps mu 4 3 ((mu 4 3 &&& 192) ||| (v &&& 63))) = F_Md_answers 0 (ps nu 17 0 ((mu 4 3 &&& 192) ||| (v &&& 63))) := rfl
  have e3 : (F_Sd4_secondLineIsOutput (ps mu 4 3 ((mu 4 3 &&& 192) ||| (v &&& 63))) = 0) ↔ (v &&& 32 = 0) := by
    show ((if ((mu 4 3 &&& 192) ||| (v &&& 63)) &&& 32 = 0 then (0 : Int32) else 1) = 0) ↔ _
    rw [← ctl_5 (c := mu 4 3) (v := v)]
    by_cases z : ((mu 4 3 &&& 192) ||| (v &&& 63)) &&& 32 = 0
    · rw [if_pos z]; exact ⟨fun _ => z, fun _ => rfl⟩
    · rw [if_neg z]; exact ⟨fun q => absurd q (by decide), fun q => absurd q z⟩
  rw [e2]
  by_cases f : F_Md_answers 0 (ps nu 17 0 ((mu 4 3 &&& 192) ||| (v &&& 63))) = 0
  · rw [if_pos f, if_pos f]
    by_cases g : v &&& 32 = 0
    · rw [if_pos (e3.mpr g), if_pos g]; exact h1
    · rw [if_neg (fun q => g (e3.mp q)), if_neg g]; exact rel_l20 h1
  · rw [if_neg f, if_neg f]; exact rel_l20 h1
theorem asks_4 {mu nu : Mu} (h : Rel mu nu) : F_Sd4_asks mu = F_Md_sideAsks 0 nu := by
  obtain ⟨⟨o1, o2⟩, ⟨d1, d2⟩, ⟨t1, t2⟩, ⟨p1, p2⟩, l1, l2⟩ := id h.2.2.2.1
  unfold F_Sd4_asks F_Md_sideAsks
  rw [e_c0, ← t1, show ((72 : Int32) ||| 32) = 104 from by decide]
theorem rel_wc5 {mu nu : Mu} {v : Int32} (h : Rel mu nu) : Rel (F_Sd5_writeControl v mu) (F_Md_writeSideControl 1 v nu) := by
  obtain ⟨⟨o1, o2⟩, ⟨d1, d2⟩, ⟨t1, t2⟩, ⟨p1, p2⟩, l1, l2⟩ := id h.2.2.2.2.1
  have e0 : mu 5 3 &&& (-64 : Int32) = mu 5 3 &&& 192 := by obtain ⟨j, hj, e⟩ := bB_of t2; rw [e]; exact ctl_rows j hj
  unfold F_Sd5_writeControl F_Md_writeSideControl
  rw [e_c1, ← t1, e0]
  have h1 : Rel (ps mu 5 3 ((mu 5 3 &&& 192) ||| (v &&& 63))) (ps nu 17 1 ((mu 5 3 &&& 192) ||| (v &&& 63))) := rel_ctl1 h (bB_or (bB_andl t2) (bB_63 v))
  have e2 : F_Sd5_isStrobed (ps mu 5 3 ((mu 5 3 &&& 192) ||| (v &&& 63))) = F_Md_answers 1 (ps nu 17 1 ((mu 5 3 &&& 192) ||| (v &&& 63))) := rfl
  have e3 : (F_Sd5_secondLineIsOutput (ps mu 5 3 ((mu 5 3 &&& 192) ||| (v &&& 63))) = 0) ↔ (v &&& 32 = 0) := by
    show ((if ((mu 5 3 &&& 192) ||| (v &&& 63)) &&& 32 = 0 then (0 : Int32) else 1) = 0) ↔ _
    rw [← ctl_5 (c := mu 5 3) (v := v)]
    by_cases z : ((mu 5 3 &&& 192) ||| (v &&& 63)) &&& 32 = 0
    · rw [if_pos z]; exact ⟨fun _ => z, fun _ => rfl⟩
    · rw [if_neg z]; exact ⟨fun q => absurd q (by decide), fun q => absurd q z⟩
  rw [e2]
  by_cases f : F_Md_answers 1 (ps nu 17 1 ((mu 5 3 &&& 192) ||| (v &&& 63))) = 0
  · rw [if_pos f, if_pos f]
    by_cases g : v &&& 32 = 0
    · rw [if_pos (e3.mpr g), if_pos g]; exact h1
    · rw [if_neg (fun q => g (e3.mp q)), if_neg g]; exact rel_l21 h1
  · rw [if_neg f, if_neg f]; exact rel_l21 h1
theorem asks_5 {mu nu : Mu} (h : Rel mu nu) : F_Sd5_asks mu = F_Md_sideAsks 1 nu := by
  obtain ⟨⟨o1, o2⟩, ⟨d1, d2⟩, ⟨t1, t2⟩, ⟨p1, p2⟩, l1, l2⟩ := id h.2.2.2.2.1
  unfold F_Sd5_asks F_Md_sideAsks
  rw [e_c1, ← t1, show ((72 : Int32) ||| 32) = 104 from by decide]
theorem kind_rows : ∀ j, j < 256 → ((nI j &&& 56 = 40) ↔ ((nI j &&& 48 = 32) ∧ ¬ (nI j &&& 8 = 0))) ∧ ((nI j &&& 56 = 32) ↔ ((nI j &&& 48 = 32) ∧ (nI j &&& 8 = 0))) := by decide +kernel
theorem rel_end5 {m n : Mu} (hm : Rel m n) : Rel (F_Sd5_endStep m) (F_Md_endPulses_34a n) := by
  obtain ⟨_, _, ⟨t1, t2⟩, _⟩ := id hm.2.2.2.2.1
  obtain ⟨j, hj, e⟩ := bB_of t2
  have K := (kind_rows j hj).1
  rw [← e] at K
  unfold F_Sd5_endStep F_Sd5_isKind F_Md_endPulses_34a F_Md_endPulses_34b F_Md_answers
  rw [e_c1, ← t1]
  by_cases a : m 5 3 &&& 48 = 32
  · by_cases b : m 5 3 &&& 8 = 0
    · have k : ¬ m 5 3 &&& 56 = 40 := fun q => (K.mp q).2 b
      simp +decide only [a, b, k, ↓reduceIte]; exact hm
    · have k : m 5 3 &&& 56 = 40 := K.mpr ⟨a, b⟩
      simp +decide only [a, b, k, ↓reduceIte]; exact rel_l21 hm
  · have k : ¬ m 5 3 &&& 56 = 40 := fun q => a (K.mp q).1
    simp +decide only [a, k, ↓reduceIte]; exact hm
theorem rel_end {mu nu : Mu} (h : Rel mu nu) : Rel (F_Sd5_endStep (F_Sd4_endStep mu)) (F_Md_endPulses nu) := by
  obtain ⟨_, _, ⟨t1, t2⟩, _⟩ := id h.2.2.2.1
  obtain ⟨j, hj, e⟩ := bB_of t2
  have K := (kind_rows j hj).1
  rw [← e] at K
  unfold F_Sd4_endStep F_Sd4_isKind F_Md_endPulses F_Md_answers
  rw [e_c0, ← t1]
  by_cases a : mu 4 3 &&& 48 = 32
  · by_cases b : mu 4 3 &&& 8 = 0
    · have k : ¬ mu 4 3 &&& 56 = 40 := fun q => (K.mp q).2 b
      simp +decide only [a, b, k, ↓reduceIte]; exact rel_end5 h
    · have k : mu 4 3 &&& 56 = 40 := K.mpr ⟨a, b⟩
      simp +decide only [a, b, k, ↓reduceIte]; exact rel_end5 (rel_l20 h)
  · have k : ¬ mu 4 3 &&& 56 = 40 := fun q => a (K.mp q).1
    simp +decide only [a, k, ↓reduceIte]; exact rel_end5 h
