/-! branches -/
theorem oP4 : oP 4 := by unfold oP; decide
theorem oP7 : oP 7 := by unfold oP; decide
theorem bW_bB {x : Int32} (h : bB x) : bW x := by unfold bB at h; unfold bW; omega
theorem br_rows : ∀ k, k < 16 → k ≠ 1 → ∀ f, f < 64 → ((F_Pr_isEvenBranchTaken (nI k >>> ((1 : Int32) &&& 31)) (fun _ _ => nI f) = (if (nI k &&& 1) = 0 then 0 else 1)) ↔ F_Md_branches (nI k) (fun _ _ => nI f) = 0) := by decide +kernel
theorem brn_c (x : Int32) (mu : Mu) : F_Pr_isEvenBranchTaken x mu = F_Pr_isEvenBranchTaken x (fun _ _ => mu 10 0) := rfl
theorem brn_m (x : Int32) (mu : Mu) : F_Md_branches x mu = F_Md_branches x (fun _ _ => mu 12 7) := rfl
theorem sg_eq {y : Int32} (mu nu : Mu) : F_Pr_signed y mu = F_Md_signed y nu := by
  unfold F_Pr_signed F_Md_signed
  by_cases a : (128 : Int32) ≤ y
  · have b : ¬ y ≤ 127 := by
      rw [i_le] at a ⊢
      have e1 : (128 : Int32).toInt = 128 := by decide
      rw [e1] at a; rw [e127]; omega
    rw [if_pos a, if_neg b]
  · have b : y ≤ 127 := by
      rw [i_le] at a ⊢
      have e1 : (128 : Int32).toInt = 128 := by decide
      rw [e1] at a; rw [e127]; omega
    rw [if_neg a, if_pos b]
theorem rel_branch {mu nu : Mu} {k : Nat} (h : Rel mu nu) (hk : k < 16) (hk1 : k ≠ 1) : Rel (F_Pr_branch (nI k) mu) (F_Md_branch (F_Md_branches (nI k) nu) nu) := by
  have s := sim_read (mu 9 7) h
  have ef : (F_Bu_read (mu 9 7) mu).2 10 0 = nu 12 7 := by rw [s.2.2.2.1.1, md_read_k _ nu oP7]
  have ep : (F_Bu_read (mu 9 7) mu).2 9 7 = (F_Md_read (nu 12 6) nu).2 12 6 := by rw [s.2.2.1.2.2.2.2.1.1, h.1.2.2.2.2.1.1]
  unfold F_Pr_branch F_Pr_branch_12 F_Pr_branch_40 F_Md_branch F_Md_branch_4 F_Md_next F_Md_next_8
  rw [sg_eq _ nu, md_signed, md_signed, s.1, ep, ← h.1.2.2.2.2.1.1]
  have h1 : Rel (ps (F_Bu_read (mu 9 7) mu).2 9 7 (((F_Md_read (mu 9 7) nu).2 12 6 + 1) &&& 65535)) (ps (F_Md_read (mu 9 7) nu).2 12 6 (((F_Md_read (mu 9 7) nu).2 12 6 + 1) &&& 65535)) := rel_p s.2.2 (bW_and _)
  have et : (F_Pr_isEvenBranchTaken (nI k >>> ((1 : Int32) &&& 31)) (ps (F_Bu_read (mu 9 7) mu).2 9 7 (((F_Md_read (mu 9 7) nu).2 12 6 + 1) &&& 65535)) = (if (nI k &&& 1) = 0 then 0 else 1)) ↔ F_Md_branches (nI k) nu = 0 := by
    rw [brn_c, brn_m]
    have e0 : (ps (F_Bu_read (mu 9 7) mu).2 9 7 (((F_Md_read (mu 9 7) nu).2 12 6 + 1) &&& 65535)) 10 0 = nu 12 7 := ef
    rw [e0]
    obtain ⟨f, hf, e⟩ := bF_of (show bF (nu 12 7) by rw [← h.2.1.1]; exact h.2.1.2)
    rw [e]
    exact br_rows k hk hk1 f hf
  have h2 : Rel (ps (ps (F_Bu_read (mu 9 7) mu).2 9 7 (((F_Md_read (mu 9 7) nu).2 12 6 + 1) &&& 65535)) 9 7 (((((F_Md_read (mu 9 7) nu).2 12 6 + 1) &&& 65535) + sg8 (F_Md_read (mu 9 7) nu).1) &&& 65535)) (ps (ps (F_Md_read (mu 9 7) nu).2 12 6 (((F_Md_read (mu 9 7) nu).2 12 6 + 1) &&& 65535)) 12 6 (((((F_Md_read (mu 9 7) nu).2 12 6 + 1) &&& 65535) + sg8 (F_Md_read (mu 9 7) nu).1) &&& 65535)) := rel_p h1 (bW_and _)
  by_cases g : F_Md_branches (nI k) nu = 0
  · have t := et.mpr g
    by_cases q : (nI k &&& 1) = 0
    · rw [if_pos q] at t
      rw [if_pos q, if_pos t, if_pos g]; exact h1
    · rw [if_neg q] at t
      rw [if_neg q, if_pos t, if_pos g]; exact h1
  · by_cases q : (nI k &&& 1) = 0
    · have t : ¬ F_Pr_isEvenBranchTaken (nI k >>> ((1 : Int32) &&& 31)) (ps (F_Bu_read (mu 9 7) mu).2 9 7 (((F_Md_read (mu 9 7) nu).2 12 6 + 1) &&& 65535)) = 0 := fun z => g (et.mp (by rw [if_pos q]; exact z))
      rw [if_pos q, if_neg t, if_neg g]; exact h2
    · have t : ¬ F_Pr_isEvenBranchTaken (nI k >>> ((1 : Int32) &&& 31)) (ps (F_Bu_read (mu 9 7) mu).2 9 7 (((F_Md_read (mu 9 7) nu).2 12 6 + 1) &&& 65535)) = 1 := fun z => g (et.mp (by rw [if_neg q]; exact z))
      rw [if_neg q, if_neg t, if_neg g]; exact h2
/-! the address of M -/
theorem sim_addr1 {mu nu : Mu} {op : Int32} (h : Rel mu nu) (hw : (op >>> ((4 : Int32) &&& 31)) &&& 3 = 1) : SimW (F_Pr_operandAddress op mu) (F_Md_addressOf 1 nu) := by
  have s := sim_next h
  unfold F_Pr_operandAddress F_Md_addressOf F_Md_addressOf_14
  rw [hw]
  simp +decide only [↓reduceIte]
  exact ⟨s.1, bW_bB s.2.1, s.2.2⟩
theorem sim_addr2 {mu nu : Mu} {op : Int32} (h : Rel mu nu) (hw : (op >>> ((4 : Int32) &&& 31)) &&& 3 = 2) : SimW (F_Pr_operandAddress op mu) (F_Md_addressOf 2 nu) := by
  have s := sim_next h
  have ex : mu 9 5 = (F_Md_next nu).2 12 4 := by
    rw [md_next, md_read_k _ _ oP4, ps_k (by decide), h.1.2.2.1.1]
  unfold F_Pr_operandAddress F_Pr_operandAddress_105 F_Md_addressOf F_Md_addressOf_14
  rw [hw]
  simp +decide only [↓reduceIte]
  rw [← ex, ← s.1]
  exact ⟨rfl, bW_and _, s.2.2⟩
theorem sim_addr3 {mu nu : Mu} {op : Int32} (h : Rel mu nu) (hw : (op >>> ((4 : Int32) &&& 31)) &&& 3 = 3) : SimW (F_Pr_operandAddress op mu) (F_Md_addressOf 3 nu) := by
  have s := sim_nextW h
  unfold F_Pr_operandAddress F_Md_addressOf
  rw [hw]
  simp +decide only [↓reduceIte]
  exact ⟨s.1, s.2.1, s.2.2⟩
/-- the modes of an operand by its byte: w the way -/
def way (op w : Int32) : Prop := (op >>> ((4 : Int32) &&& 31)) &&& 3 = w ∧ (w = 1 ∨ w = 2 ∨ w = 3)
theorem sim_addr {mu nu : Mu} {op w : Int32} (h : Rel mu nu) (hw : way op w) : SimW (F_Pr_operandAddress op mu) (F_Md_addressOf w nu) := by
  obtain ⟨e, rfl | rfl | rfl⟩ := hw
  · exact sim_addr1 h e
  · exact sim_addr2 h e
  · exact sim_addr3 h e
theorem way_ne {op w : Int32} (hw : way op w) : ¬ w = 0 := by obtain ⟨e, rfl | rfl | rfl⟩ := hw <;> decide
theorem imm_addr {mu : Mu} {op : Int32} (hw : (op >>> ((4 : Int32) &&& 31)) &&& 3 = 0) : F_Pr_operandAddress op mu = (mu 9 7, ps mu 9 7 ((mu 9 7 + F_Pr_immediateSize (op &&& 15) mu) &&& 65535)) := by
  unfold F_Pr_operandAddress
  rw [if_pos hw]
/-- a byte as operand -/
theorem sim_operand {mu nu : Mu} {op w : Int32} (h : Rel mu nu) (hw : way op w ∨ ((op >>> ((4 : Int32) &&& 31)) &&& 3 = 0 ∧ w = 0 ∧ F_Pr_immediateSize (op &&& 15) mu = 1)) : SimB (F_Bu_read (F_Pr_operandAddress op mu).1 (F_Pr_operandAddress op mu).2) (F_Md_operand w nu) := by
  rcases hw with hw | ⟨e, rfl, q⟩
  · have s := sim_addr h hw
    unfold F_Md_operand F_Md_operand_17
    rw [if_neg (way_ne hw), ← s.1]
    exact sim_read _ s.2.2
  · rw [imm_addr e, q]
    unfold F_Md_operand
    rw [if_pos rfl]
    exact sim_next h
theorem sim_wordOperand {mu nu : Mu} {op w : Int32} (h : Rel mu nu) (hw : way op w ∨ ((op >>> ((4 : Int32) &&& 31)) &&& 3 = 0 ∧ w = 0 ∧ F_Pr_immediateSize (op &&& 15) mu = 2)) : SimW (F_Bu_readWord (F_Pr_operandAddress op mu).1 (F_Pr_operandAddress op mu).2) (F_Md_wordOperand w nu) := by
  rcases hw with hw | ⟨e, rfl, q⟩
  · have s := sim_addr h hw
    unfold F_Md_wordOperand F_Md_wordOperand_17
    rw [if_neg (way_ne hw), ← s.1]
    exact sim_readWord _ s.2.2
  · rw [imm_addr e, q]
    unfold F_Md_wordOperand
    rw [if_pos rfl]
    exact sim_nextW h
/-- what reads keep of X, S, P on the reference's side -/
theorem md_addr_k (w : Int32) (nu : Mu) {k : Nat} (h : oP k) (h6 : k ≠ 6) : (F_Md_addressOf w nu).2 12 k = nu 12 k := by
  have e1 : (F_Md_next nu).2 12 k = nu 12 k := by rw [md_next, md_read_k _ _ h, ps_k h6]
  have e2 : (F_Md_nextWord nu).2 12 k = nu 12 k := by
    rw [md_nextWord]; unfold F_Md_readWord F_Md_readWord_5
    show (F_Md_read _ _).2 12 k = _
    rw [md_read_k _ _ h, md_read_k _ _ h, ps_k h6]
  unfold F_Md_addressOf F_Md_addressOf_14
  split
  · exact e2
  · split <;> exact e1
theorem md_word_k (w : Int32) (nu : Mu) {k : Nat} (h : oP k) (h6 : k ≠ 6) : (F_Md_wordOperand w nu).2 12 k = nu 12 k := by
  have e2 : (F_Md_nextWord nu).2 12 k = nu 12 k := by
    rw [md_nextWord]; unfold F_Md_readWord F_Md_readWord_5
    show (F_Md_read _ _).2 12 k = _
    rw [md_read_k _ _ h, md_read_k _ _ h, ps_k h6]
  unfold F_Md_wordOperand F_Md_wordOperand_17
  split
  · exact e2
  · show (F_Md_readWord _ _).2 12 k = _
    unfold F_Md_readWord F_Md_readWord_5
    show (F_Md_read _ _).2 12 k = _
    rw [md_read_k _ _ h, md_read_k _ _ h, md_addr_k w nu h h6]
theorem md_op_k (w : Int32) (nu : Mu) {k : Nat} (h : oP k) (h6 : k ≠ 6) : (F_Md_operand w nu).2 12 k = nu 12 k := by
  have e1 : (F_Md_next nu).2 12 k = nu 12 k := by rw [md_next, md_read_k _ _ h, ps_k h6]
  unfold F_Md_operand F_Md_operand_17
  split
  · exact e1
  · show (F_Md_read _ _).2 12 k = _
    rw [md_read_k _ _ h, md_addr_k w nu h h6]
