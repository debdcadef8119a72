/-! time goes by -/
theorem e0i : (0 : Int32).toInt = 0 := by decide
theorem e1i : (1 : Int32).toInt = 1 := by decide
/-- the reference's shift of its line -/
theorem co_loop : ∀ (n : Nat) (x : Nat) (m : Mu), (m 12 24).toInt - (x : Int) < n → 0 < n → (x : Int) ≤ (m 12 24).toInt → (m 12 24).toInt ≤ 63 → ∃ g : Nat → Int32, F_Md_comesIn_85 n (nI x) m = ps (va_up m 21 g) 12 21 (F_Md_bytesTime m) ∧ ∀ k : Nat, (k : Int) < (m 12 24).toInt → g k = if k < x then m 21 k else m 21 (k + 1) := by
  intro n
  induction n with
  | zero => intro x m _ h; exact absurd h (Nat.lt_irrefl 0)
  | succ n ih =>
    intro x m h1 _ h3 h4
    have hx := nI_toInt (n := x) (by omega)
    rw [F_Md_comesIn_85]
    by_cases c : m 12 24 ≤ nI x
    · rw [if_pos c]
      rw [i_le, hx] at c
      refine ⟨m 21, ?_, fun k hk => ?_⟩
      · congr 1
        funext i
        unfold va_up
        split
        · rename_i e; rw [e]
        · rfl
      · rw [if_pos (by omega)]
    · rw [if_neg c]
      rw [i_le, hx] at c
      have e1 : nI x + 1 = nI (x + 1) := nI_1 x
      rw [e1]
      have f1 : (nI x).toNatClampNeg = x := nI_clamp (by omega)
      have f2 : (nI (x + 1)).toNatClampNeg = x + 1 := nI_clamp (by omega)
      rw [f1, f2]
      obtain ⟨g, hg, hk⟩ := ih (x + 1) (ps m 21 x (m 21 (x + 1))) (by show (m 12 24).toInt - _ < _; omega) (by omega) (by show _ ≤ (m 12 24).toInt; omega) (by show (m 12 24).toInt ≤ 63; omega)
      refine ⟨g, ?_, fun k hk2 => ?_⟩
      · rw [hg]
        have e3 : va_up (ps m 21 x (m 21 (x + 1))) 21 g = va_up m 21 g := by
          funext i
          unfold ps va_up
          split <;> rfl
        rw [e3]; rfl
      · rw [hk k hk2]
        show (if k < x + 1 then upd (m 21) x (m 21 (x + 1)) k else upd (m 21) x (m 21 (x + 1)) (k + 1)) = _
        by_cases a : k < x
        · rw [if_pos (by omega), if_pos a, pk_un (by omega)]
        · rw [if_neg a]
          by_cases b : k = x
          · subst b; rw [if_pos (by omega), pk_us]
          · rw [if_neg (by omega), pk_un (by omega)]
theorem st_time {mu nu : Mu} (h : Rel mu nu) (a : mu 1 6 = 0) : F_Sc_stepsOfByte mu = F_Md_bytesTime nu ∧ n0 (F_Sc_stepsOfByte mu) := by
  have e := h.2.2.2.2.2.1.2.2.2.2.2.2.2.2.2.2 a
  unfold F_Sc_stepsOfByte F_Md_bytesTime n0
  rw [← e]
  refine ⟨rfl, ?_⟩
  split
  · decide
  · split <;> decide
/-- a byte leaves the line -/
theorem rel_leave {mu nu : Mu} {b f c s : Int32} {g : Nat → Int32} (h : Rel mu nu) (hb : bB b) (hs : n0 s) (hf : 0 ≤ f.toInt ∧ f.toInt < 64) (hc : 0 ≤ c.toInt ∧ c.toInt ≤ 64) (hg : ∀ k : Nat, (k : Int) < c.toInt → mu 2 ((f.toInt.toNat + k) % 64) = g k ∧ bB (g k)) : Rel (ps (ps (ps (ps mu 1 11 b) 1 2 f) 1 3 c) 1 13 s) (ps (va_up (ps (ps nu 12 19 b) 12 24 c) 21 g) 12 21 s) := by
  obtain ⟨hP, hF, hM, h0, h1, ⟨r1, r2, r3, r4, r5, r6, r7, r8, r9, r10, r11⟩, ⟨l1, l2, ⟨j1, j2, j3⟩, l4, l5⟩, hQ⟩ := h
  exact ⟨hP, hF, hM, h0, h1, ⟨r1, r2, r3, r4, r5, ⟨rfl, hb⟩, r7, ⟨rfl, hs⟩, r9, r10, r11⟩, ⟨rfl, l2, ⟨hf, hc, j3⟩, hg, l5⟩, hQ⟩
theorem rel_in {mu nu : Mu} (h : Rel mu nu) (a : mu 1 6 = 0) : Rel (F_Sc_passTimeIn mu) (F_Md_comesIn nu) := by
  obtain ⟨r1, r2, r3, r4, r5, r6, r7, r8, r9, r10, r11⟩ := id h.2.2.2.2.2.1
  obtain ⟨l1, l2, ⟨⟨j1, j2⟩, ⟨j3, j4⟩, j5⟩, l4, l5⟩ := id h.2.2.2.2.2.2.1
  have e1 := e1i
  unfold F_Sc_passTimeIn F_Md_comesIn
  rw [e_c0, ← r8.1, ← l1]
  by_cases p : mu 1 13 ≤ 0
  · rw [if_pos p, if_pos p]
    by_cases q : mu 1 3 ≤ 0
    · rw [if_pos q, if_pos q]; exact h
    · rw [if_neg q, if_neg q]
      rw [i_le, e0i] at q
      have ec : (mu 1 3 - 1).toInt = (mu 1 3).toInt - 1 := by rw [i_sub (by omega) (by omega), e1i]
      have ef : (mu 1 2 + 1).toInt = (mu 1 2).toInt + 1 := by rw [i_add (by omega) (by omega), e1i]
      have er := (i_rem64 (x := mu 1 2 + 1) (by omega)).2
      rw [ef] at er
      have hz : (mu 2 (mu 1 2).toNatClampNeg) = nu 21 0 := by
        have := (l4 0 (by omega)).1
        rw [← this]
        congr 1
        show (mu 1 2).toInt.toNat = _
        omega
      have h0 : bB (nu 21 0) := (l4 0 (by omega)).2
      have hm24 : (ps (ps nu 12 19 (nu 21 0)) 12 24 (mu 1 3 - 1)) 12 24 = mu 1 3 - 1 := rfl
      have cl : (mu 1 3 - 1).toNatClampNeg = (mu 1 3 - 1).toInt.toNat := rfl
      obtain ⟨g, hg, hk⟩ := co_loop ((mu 1 3 - 1).toNatClampNeg + 1) 0 (ps (ps nu 12 19 (nu 21 0)) 12 24 (mu 1 3 - 1)) (by rw [hm24, cl]; omega) (by omega) (by rw [hm24]; omega) (by rw [hm24]; omega)
      rw [hm24, show (0 : Int32) = nI 0 from rfl, hg]
      have t := st_time h a
      have et : F_Sc_stepsOfByte (ps (ps (ps mu 1 11 (mu 2 (mu 1 2).toNatClampNeg)) 1 2 ((mu 1 2 + 1) - (mu 1 2 + 1) / 64 * 64)) 1 3 (mu 1 3 - 1)) = F_Sc_stepsOfByte mu := rfl
      have en : F_Md_bytesTime (ps (ps nu 12 19 (nu 21 0)) 12 24 (mu 1 3 - 1)) = F_Md_bytesTime nu := rfl
      rw [et, en, ← t.1, hz]
      refine rel_leave h h0 t.2 (by rw [er]; omega) (by omega) (fun k hkk => ?_)
      have hq := hk k (by rw [hm24]; exact hkk)
      rw [if_neg (by omega)] at hq
      have hr := l4 (k + 1) (by omega)
      rw [hq]
      refine ⟨?_, hr.2⟩
      show _ = nu 21 (k + 1)
      rw [← hr.1]
      congr 1
      omega
  · rw [if_neg p, if_neg p]
    rw [i_le, e0i] at p
    have hr := i_rng (mu 1 13)
    have es : (mu 1 13 - 1).toInt = (mu 1 13).toInt - 1 := by rw [i_sub (by omega) (by omega), e1i]
    have hs := rel_si (v := mu 1 13 - 1) h (by unfold n0; omega)
    by_cases q : mu 1 13 - 1 = 0
    · have q2 : mu 1 13 - 1 ≤ 0 := by rw [q]; decide
      rw [if_pos q, if_pos q2]
      unfold F_Sc_takeIn
      rw [← r2]
      show Rel (if (ps mu 1 13 (mu 1 13 - 1)) 1 7 = 0 then _ else _) _
      by_cases f : mu 1 7 = 0
      · rw [if_pos (show (ps mu 1 13 (mu 1 13 - 1)) 1 7 = 0 from f), if_pos f]
        have e6 : (ps mu 1 13 (mu 1 13 - 1)) 1 11 = mu 1 11 := rfl
        rw [e6, ← r6.1]
        exact rel_last (rel_full hs) r6.2
      · rw [if_neg (show ¬ (ps mu 1 13 (mu 1 13 - 1)) 1 7 = 0 from f), if_neg f]
        exact rel_over hs
    · have q2 : ¬ mu 1 13 - 1 ≤ 0 := by
        rw [i_le, e0i, es]
        intro z
        exact q (i_inj (by rw [es, e0i]; omega))
      rw [if_neg q, if_neg q2]; exact hs
/-- a byte is sent -/
theorem rel_sent {mu nu : Mu} {b c : Int32} {k : Nat} (h : Rel mu nu) (hk : (k : Int) = (mu 1 4).toInt) (hc : c.toInt = (mu 1 4).toInt + 1) (hc2 : c.toInt ≤ 256) : Rel (ps (ps mu 3 k b) 1 4 c) (ps (ps nu 22 k b) 12 23 c) := by
  obtain ⟨hP, hF, hM, h0, h1, hC, ⟨l1, l2, ⟨j1, j2, j3⟩, l4, l5⟩, hQ⟩ := h
  refine ⟨hP, hF, hM, h0, h1, hC, ⟨l1, rfl, ⟨j1, j2, ⟨?_, ?_⟩⟩, l4, fun i hi => ?_⟩, hQ⟩
  · show 0 ≤ c.toInt
    omega
  · show c.toInt ≤ 256
    exact hc2
  · have hi : (i : Int) < c.toInt := hi
    show upd (mu 3) k b i = upd (nu 22) k b i
    by_cases e : i = k
    · subst e; rw [pk_us, pk_us]
    · rw [pk_un e, pk_un e]; exact l5 i (by omega)
theorem rel_out {mu nu : Mu} (h : Rel mu nu) (a : mu 1 6 = 0) : Rel (F_Sc_passTimeOut mu) (F_Md_goesOut nu) := by
  obtain ⟨r1, r2, r3, r4, r5, r6, r7, r8, r9, r10, r11⟩ := id h.2.2.2.2.2.1
  obtain ⟨l1, l2, ⟨_, _, ⟨j5, j6⟩⟩, l4, l5⟩ := id h.2.2.2.2.2.2.1
  have e1 := e1i
  unfold F_Sc_passTimeOut F_Md_goesOut
  rw [← r9.1, ← l2, ← r4, ← r5, ← r7]
  by_cases p : mu 1 14 ≤ 0
  · rw [if_pos p, if_pos p]
    by_cases q : mu 1 9 = 0
    · rw [if_pos q, if_pos q]; exact h
    · rw [if_neg q, if_neg q]
      have t := st_time h a
      have et : F_Sc_stepsOfByte (ps (ps mu 1 9 0) 1 12 (mu 1 10)) = F_Sc_stepsOfByte mu := rfl
      have en : F_Md_bytesTime (ps (ps nu 12 20 (mu 1 10)) 12 28 0) = F_Md_bytesTime nu := rfl
      rw [et, en, ← t.1, ps_comm nu (r := 12) (k := 20) (r' := 12) (k' := 28) _ _ (Or.inr (by decide))]
      exact rel_so (rel_bo (rel_wait h)) t.2
  · rw [if_neg p, if_neg p]
    rw [i_le, e0i] at p
    have hr := i_rng (mu 1 14)
    have es : (mu 1 14 - 1).toInt = (mu 1 14).toInt - 1 := by rw [i_sub (by omega) (by omega), e1i]
    have hs := rel_so (v := mu 1 14 - 1) h (by unfold n0; omega)
    by_cases q : mu 1 14 - 1 = 0
    · have q2 : ¬ 0 < mu 1 14 - 1 := by rw [q]; decide
      rw [if_pos q, if_neg q2]
      have e256' : (256 : Int32).toInt = 256 := by decide
      by_cases f : mu 1 4 = 256
      · have g : (256 : Int32) ≤ mu 1 4 := by rw [f]; decide
        rw [if_pos g, if_pos f]; exact hs
      · have g : ¬ (256 : Int32) ≤ mu 1 4 := by
          rw [i_le, e256']
          intro z
          exact f (i_inj (by rw [e256']; omega))
        rw [if_neg g, if_neg f]
        rw [i_le, e256'] at g
        have ek : ((mu 1 4).toNatClampNeg : Int) = (mu 1 4).toInt := by
          show (((mu 1 4).toInt.toNat : Nat) : Int) = _
          omega
        have ea : (mu 1 4 + 1).toInt = (mu 1 4).toInt + 1 := by rw [i_add (by omega) (by omega), e1i]
        exact rel_sent hs ek ea (by omega)
    · have q2 : 0 < mu 1 14 - 1 := by
        rw [i_lt, e0i, es]
        have : mu 1 14 - 1 ≠ 0 := q
        have h2 : (mu 1 14 - 1).toInt ≠ 0 := fun z => q (i_inj (by rw [z, e0i]))
        rw [es] at h2; omega
      rw [if_neg q, if_pos q2]; exact hs
theorem in_held (mu : Mu) : (F_Sc_passTimeIn mu) 1 6 = mu 1 6 := by
  unfold F_Sc_passTimeIn
  split
  · split <;> rfl
  · split
    · unfold F_Sc_takeIn; split <;> rfl
    · rfl
theorem rel_time {mu nu : Mu} (h : Rel mu nu) : Rel (F_Sc_passTime mu) (if nu 12 25 = 0 then F_Md_goesOut (F_Md_comesIn nu) else nu) := by
  unfold F_Sc_passTime F_Sc_passTime_11
  rw [← h.2.2.2.2.2.1.1]
  by_cases a : mu 1 6 = 0
  · rw [if_pos a, if_pos a]; exact rel_out (rel_in h a) (by rw [in_held]; exact a)
  · rw [if_neg a, if_neg a]; exact h
/-! a step -/
theorem rel_ins {mu nu : Mu} (h : Rel mu nu) : Rel (F_Pr_act_40 (F_Bu_read (mu 9 7) mu).1 (F_Bu_read (mu 9 7) mu).2) (F_Md_instruction nu) := by
  have s := sim_read (mu 9 7) h
  obtain ⟨j, hj, e⟩ := bB_of s.2.1
  have o := ops_all s.2.2 j hj
  unfold OPS at o
  unfold F_Md_instruction F_Md_next F_Md_next_8
  rw [← h.1.2.2.2.2.1.1]
  show Rel _ (F_Md_instruction_9 (mu 9 7) (F_Md_read (mu 9 7) nu).1 (ps (F_Md_read (mu 9 7) nu).2 12 6 (((F_Md_read (mu 9 7) nu).2 12 6 + 1) &&& 65535)))
  rw [← s.1, e]
  rw [md_read_k _ nu oP6, ← h.1.2.2.2.2.1.1] at o ⊢
  exact o
theorem rel_act {mu nu : Mu} (b : Int32) (h : Rel mu nu) : Rel (F_Sd5_endStep (F_Sd4_endStep (F_Pr_act b mu))) (F_Md_step_43 b nu) := by
  have k21 : Rel (F_Sd5_endStep (F_Sd4_endStep (F_Pr_act_21 mu))) (F_Md_step_94 nu) := by
    unfold F_Pr_act_21 F_Md_step_94 F_Md_step_105
    rw [← h.1.2.2.2.2.2.1]
    by_cases w : mu 9 8 = 0
    · rw [if_pos w, if_pos w]; exact rel_end (rel_ins h)
    · rw [if_neg w, if_neg w]; exact rel_end h
  have k68 : ∀ m n : Mu, Rel m n → Rel (F_Sd5_endStep (F_Sd4_endStep (F_Pr_interrupt_11 m))) (F_Md_step_68 n) := fun m n hm => by
    unfold F_Pr_interrupt_11 F_Md_step_68 F_Md_step_80 F_Md_step_88 F_Md_step_105
    exact rel_end (rel_go 65528 (rel_w hm))
  unfold F_Pr_act F_Md_step_43
  rw [fl_md 16 h]
  by_cases p : b = 0
  · rw [if_pos p, if_pos p]; exact k21
  · rw [if_neg p, if_neg p]
    by_cases q : F_Fl_has 16 mu = 0
    · rw [if_pos q, if_pos q]
      unfold F_Pr_interrupt
      rw [← h.1.2.2.2.2.2.1]
      by_cases w : mu 9 8 = 0
      · rw [if_pos w, if_pos w]; exact k68 _ _ (rel_pushAll h)
      · rw [if_neg w, if_neg w]; exact k68 _ _ h
    · rw [if_neg q, if_neg q]; exact k21
theorem rel_step {mu nu : Mu} (h : Rel mu nu) : Rel (F_Km_step mu) (F_Md_step nu) := by
  have k15 : ∀ m n : Mu, Rel m n → Rel (F_Sd5_endStep (F_Sd4_endStep (F_Pr_act (F_Km_asked m) m))) (F_Md_step_15 n) := fun m n hm => by
    unfold F_Km_asked F_Md_step_15 F_Md_step_38
    rw [← sc_asks hm, ← asks_4 hm, ← asks_5 hm]
    by_cases a : F_Sc_asks m = 0
    · rw [if_pos a, if_pos a]
      by_cases b : F_Sd4_asks m = 0
      · rw [if_pos b, if_pos b]
        by_cases c : F_Sd5_asks m = 0
        · rw [if_pos c, if_pos c]; exact rel_act 0 hm
        · rw [if_neg c, if_neg c]; exact rel_act 1 hm
      · rw [if_neg b, if_neg b]; exact rel_act 1 hm
    · rw [if_neg a, if_neg a]; exact rel_act 1 hm
  have t := rel_time h
  unfold F_Km_step F_Md_step F_Md_step_11
  by_cases a : nu 12 25 = 0
  · rw [if_pos a] at t ⊢; exact k15 _ _ t
  · rw [if_neg a] at t ⊢; exact k15 _ _ t
theorem Rel.jc {mu nu : Mu} (h : Rel mu nu) : Jc mu := h.2.2.2.2.2.2.1.2.2.1
theorem Rel.jm {mu nu : Mu} (h : Rel mu nu) : Jm nu := by
  obtain ⟨l1, l2, ⟨_, j2, j3⟩, _⟩ := id h.2.2.2.2.2.2.1
  exact ⟨by rw [← l1]; exact j2, by rw [← l2]; exact j3⟩
theorem rel_itr : ∀ (k : Nat) {mu nu : Mu}, Rel mu nu → Rel (itrC k mu) (itrM k nu) := by
  intro k
  induction k with
  | zero => intro mu nu h; exact h
  | succ k ih => intro mu nu h; exact ih (rel_step h)
