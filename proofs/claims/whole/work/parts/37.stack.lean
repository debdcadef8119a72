/-! words, next, stack -/
theorem w_make {a b : Int32} (ha : bB a) (hb : bB b) : (a <<< ((8 : Int32) &&& 31)) ||| b = a * 256 + b ∧ bW (a * 256 + b) := by
  obtain ⟨i, hi, rfl⟩ := bB_of ha
  obtain ⟨j, hj, rfl⟩ := bB_of hb
  have e : nI i * 256 + nI j = nI (i * 256 + j) := by rw [show (256 : Int32) = nI 256 from rfl, pk_mul, nI_add]
  refine ⟨?_, by rw [e]; exact bW_nI (by omega)⟩
  rw [e, pk_shlN ((8 : Int32) &&& 31) 8 (by decide) (by omega), nx_or]
  congr 1
  have := Nat.two_pow_add_eq_or_of_lt (i := 8) (b := j) hj i
  rw [Nat.mul_comm i (2 ^ 8), ← this]
theorem sim_readWord {mu nu : Mu} (x : Int32) (h : Rel mu nu) : SimW (F_Bu_readWord x mu) (F_Md_readWord x nu) := by
  have s1 := sim_read x h
  have s2 := sim_read (x + 1) s1.2.2
  unfold F_Bu_readWord F_Bu_readWord_5 F_Bu_readWord_13 F_Md_readWord F_Md_readWord_5
  have w := w_make s1.2.1 s2.2.1
  refine ⟨?_, ?_, s2.2.2⟩
  · show _ = _
    rw [w.1, s1.1, s2.1]
  · show bW _
    rw [w.1]; exact w.2
theorem sim_next {mu nu : Mu} (h : Rel mu nu) : SimB (F_Bu_read (mu 9 7) (ps mu 9 7 ((mu 9 7 + 1) &&& 65535))) (F_Md_next nu) := by
  rw [md_next, ← h.1.2.2.2.2.1.1]
  exact sim_read _ (rel_p h (bW_and _))
theorem sim_nextW {mu nu : Mu} (h : Rel mu nu) : SimW (F_Bu_readWord (mu 9 7) (ps mu 9 7 ((mu 9 7 + 2) &&& 65535))) (F_Md_nextWord nu) := by
  rw [md_nextWord, ← h.1.2.2.2.2.1.1]
  exact sim_readWord _ (rel_p h (bW_and _))
theorem rel_push {mu nu : Mu} {v : Int32} (h : Rel mu nu) (hv : bB v) : Rel (F_Pr_push v mu) (F_Md_push v nu) := by
  unfold F_Pr_push F_Pr_push_12 F_Md_push F_Md_push_13
  rw [and255 hv, ← h.1.2.2.2.1.1]
  have h1 := rel_write (mu 9 6) h hv
  rw [← h1.1.2.2.2.1.1]
  exact rel_s h1 (bW_and _)
theorem md_pushWord (v : Int32) (nu : Mu) : F_Md_pushWord v nu = ps (F_Md_write (nu 12 5 - 1) ((v >>> ((8 : Int32) &&& 31)) &&& 255) (F_Md_write (nu 12 5) (v &&& 255) nu)) 12 5 ((nu 12 5 - 2) &&& 65535) := by
  unfold F_Md_pushWord F_Md_pushWord_5 F_Md_push F_Md_push_13
  rw [md_write_k _ _ nu oP5, ps_self, md_write_c _ _ _ _ oP5, ps_ps, ps_self, w_sub2, md_write_e _ _ (w_idem (nu 12 5 - 1))]
theorem hi_byte {v : Int32} (h : bW v) : (v >>> ((8 : Int32) &&& 31)) &&& 255 = v >>> ((8 : Int32) &&& 31) ∧ bB (v >>> ((8 : Int32) &&& 31)) := by
  obtain ⟨j, hj, rfl⟩ := bW_of h
  rw [pk_shrN (by omega) ((8 : Int32) &&& 31) 8 (by decide)]
  have hb : bB (nI (j / 2 ^ 8)) := bB_nI (by omega)
  exact ⟨and255 hb, hb⟩
theorem rel_pushWord {mu nu : Mu} {v : Int32} (h : Rel mu nu) (hv : bW v) : Rel (F_Pr_pushWord v mu) (F_Md_pushWord v nu) := by
  rw [md_pushWord, (hi_byte hv).1]
  unfold F_Pr_pushWord F_Pr_pushWord_16 F_Pr_pushWord_33
  have h1 := rel_write (v := v &&& 255) (mu 9 6) h (bB_and _)
  have e1 : (F_Bu_write (mu 9 6) (v &&& 255) mu) 9 6 = mu 9 6 := by
    rw [h1.1.2.2.2.1.1, md_write_k _ _ nu oP5, h.1.2.2.2.1.1]
  rw [e1]
  have h2 := rel_write (v := v >>> ((8 : Int32) &&& 31)) (mu 9 6 - 1) h1 (hi_byte hv).2
  have e2 : (F_Bu_write (mu 9 6 - 1) (v >>> ((8 : Int32) &&& 31)) (F_Bu_write (mu 9 6) (v &&& 255) mu)) 9 6 = mu 9 6 := by
    rw [h2.1.2.2.2.1.1, md_write_k _ _ _ oP5, md_write_k _ _ nu oP5, h.1.2.2.2.1.1]
  rw [e2, ← h.1.2.2.2.1.1]
  exact rel_s h2 (bW_and _)
theorem bB_fl {x : Int32} (h : bF x) : bB (x ||| 192) := bB_or (by unfold bF at h; unfold bB; omega) (by unfold bB; decide)
theorem rel_pushAll {mu nu : Mu} (h : Rel mu nu) : Rel (F_Pr_pushAll mu) (F_Md_pushAll nu) := by
  unfold F_Pr_pushAll F_Pr_pushAll_8 F_Pr_pushAll_16 F_Pr_pushAll_24 F_Pr_pushAll_32 F_Fl_asByte F_Md_pushAll F_Md_pushAll_8 F_Md_pushAll_16 F_Md_pushAll_24 F_Md_pushAll_32
  have h1 := rel_pushWord (v := mu 9 7) h h.1.2.2.2.2.1.2
  rw [← h.1.2.2.2.2.1.1]
  generalize F_Pr_pushWord (mu 9 7) mu = m1 at h1 ⊢
  generalize F_Md_pushWord (mu 9 7) nu = n1 at h1 ⊢
  have h2 := rel_pushWord (v := m1 9 5) h1 h1.1.2.2.1.2
  rw [← h1.1.2.2.1.1]
  generalize F_Pr_pushWord (m1 9 5) m1 = m2 at h2 ⊢
  generalize F_Md_pushWord (m1 9 5) n1 = n2 at h2 ⊢
  have h3 := rel_push (v := m2 9 3) h2 h2.1.1.2
  rw [← h2.1.1.1]
  generalize F_Pr_push (m2 9 3) m2 = m3 at h3 ⊢
  generalize F_Md_push (m2 9 3) n2 = n3 at h3 ⊢
  have h4 := rel_push (v := m3 9 4) h3 h3.1.2.1.2
  rw [← h3.1.2.1.1]
  generalize F_Pr_push (m3 9 4) m3 = m4 at h4 ⊢
  generalize F_Md_push (m3 9 4) n3 = n4 at h4 ⊢
  rw [← h4.2.1.1]
  exact rel_push h4 (bB_fl h4.2.1.2)
theorem sim_pull {mu nu : Mu} (h : Rel mu nu) : SimB (F_Pr_pull mu) (F_Md_pull nu) := by
  unfold F_Pr_pull F_Md_pull
  rw [← h.1.2.2.2.1.1]
  exact sim_read _ (rel_s h (bW_and _))
theorem w_addm (x : Int32) : (((x + 1) &&& 65535) + 1) &&& 65535 = (x + 2) &&& 65535 := w_add2 x
theorem md_pull (nu : Mu) : F_Md_pull nu = ((F_Md_read (nu 12 5 + 1) nu).1, ps (F_Md_read (nu 12 5 + 1) nu).2 12 5 ((nu 12 5 + 1) &&& 65535)) := by
  unfold F_Md_pull
  rw [md_read_m, md_read_c _ _ _ oP5]
theorem md_pullWord (nu : Mu) : F_Md_pullWord nu = ((F_Md_read (nu 12 5 + 1) nu).1 * 256 + (F_Md_read (nu 12 5 + 2) (F_Md_read (nu 12 5 + 1) nu).2).1, ps (F_Md_read (nu 12 5 + 2) (F_Md_read (nu 12 5 + 1) nu).2).2 12 5 ((nu 12 5 + 2) &&& 65535)) := by
  have e2 : ∀ m : Mu, F_Md_pull (ps m 12 5 ((nu 12 5 + 1) &&& 65535)) = ((F_Md_read (nu 12 5 + 2) m).1, ps (F_Md_read (nu 12 5 + 2) m).2 12 5 ((nu 12 5 + 2) &&& 65535)) := fun m => by
    rw [md_pull, ps_self, w_add2, md_read_e (y := nu 12 5 + 2) _ (w_add2 _), md_read_c _ _ _ oP5, ps_ps]
  unfold F_Md_pullWord F_Md_pullWord_4
  rw [md_pull nu]
  simp only [e2]
theorem sim_pullWord {mu nu : Mu} (h : Rel mu nu) : SimW (F_Pr_pullWord mu) (F_Md_pullWord nu) := by
  rw [md_pullWord, ← h.1.2.2.2.1.1]
  unfold F_Pr_pullWord F_Pr_pullWord_13 F_Pr_pullWord_27
  have s1 := sim_read (mu 9 6 + 1) h
  have e1 : (F_Bu_read (mu 9 6 + 1) mu).2 9 6 = mu 9 6 := by
    rw [s1.2.2.1.2.2.2.1.1, md_read_k _ nu oP5, h.1.2.2.2.1.1]
  rw [e1]
  have s2 := sim_read (mu 9 6 + 2) s1.2.2
  have e2 : (F_Bu_read (mu 9 6 + 2) (F_Bu_read (mu 9 6 + 1) mu).2).2 9 6 = mu 9 6 := by
    rw [s2.2.2.1.2.2.2.1.1, md_read_k _ _ oP5, md_read_k _ nu oP5, h.1.2.2.2.1.1]
  rw [e2]
  have w := w_make s1.2.1 s2.2.1
  refine ⟨?_, ?_, rel_s s2.2.2 (bW_and _)⟩
  · show _ = _
    rw [w.1, s1.1, s2.1]
  · show bW _
    rw [w.1]; exact w.2
theorem rel_pullAll {mu nu : Mu} (h : Rel mu nu) : Rel (F_Pr_pullAll mu) (F_Md_pullAll nu) := by
  unfold F_Pr_pullAll F_Pr_pullAll_8 F_Pr_pullAll_11 F_Pr_pullAll_16 F_Pr_pullAll_24 F_Pr_pullAll_32 F_Pr_pullAll_40 F_Fl_takeByte F_Md_pullAll F_Md_pullAll_5 F_Md_pullAll_16 F_Md_pullAll_24 F_Md_pullAll_32 F_Md_pullAll_40
  have s1 := sim_pull h
  rw [← s1.1]
  have h1 := rel_f (v := (F_Pr_pull mu).1 &&& 63) s1.2.2 (bF_and _)
  generalize ps (F_Pr_pull mu).2 10 0 ((F_Pr_pull mu).1 &&& 63) = m1 at h1 ⊢
  generalize ps (F_Md_pull nu).2 12 7 ((F_Pr_pull mu).1 &&& 63) = n1 at h1 ⊢
  have s2 := sim_pull h1
  rw [← s2.1]
  have h2 := rel_b (v := (F_Pr_pull m1).1) s2.2.2 s2.2.1
  generalize ps (F_Pr_pull m1).2 9 4 (F_Pr_pull m1).1 = m2 at h2 ⊢
  generalize ps (F_Md_pull n1).2 12 3 (F_Pr_pull m1).1 = n2 at h2 ⊢
  have s3 := sim_pull h2
  rw [← s3.1]
  have h3 := rel_a (v := (F_Pr_pull m2).1) s3.2.2 s3.2.1
  generalize ps (F_Pr_pull m2).2 9 3 (F_Pr_pull m2).1 = m3 at h3 ⊢
  generalize ps (F_Md_pull n2).2 12 2 (F_Pr_pull m2).1 = n3 at h3 ⊢
  have s4 := sim_pullWord h3
  rw [← s4.1]
  have h4 := rel_x (v := (F_Pr_pullWord m3).1) s4.2.2 s4.2.1
  generalize ps (F_Pr_pullWord m3).2 9 5 (F_Pr_pullWord m3).1 = m4 at h4 ⊢
  generalize ps (F_Md_pullWord n3).2 12 4 (F_Pr_pullWord m3).1 = n4 at h4 ⊢
  have s5 := sim_pullWord h4
  rw [← s5.1]
  exact rel_p s5.2.2 s5.2.1
theorem rel_go {mu nu : Mu} (x : Int32) (h : Rel mu nu) : Rel (F_Pr_goThrough x mu) (ps (F_Md_readWord x (F_Md_tell 16 1 nu)).2 12 6 (F_Md_readWord x (F_Md_tell 16 1 nu)).1) := by
  unfold F_Pr_goThrough F_Pr_goThrough_10 F_Pr_goThrough_19
  have s := sim_readWord x (rel_tell (f := 16) (b := 1) h (by decide) (Or.inr rfl))
  rw [← s.1]
  exact rel_p s.2.2 s.2.1
