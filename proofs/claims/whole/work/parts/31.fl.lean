/-! bits of small numbers (the first rows out of kit/laws/BITS.to-paste, turned) -/
theorem nx_and (a b : Nat) : nI a &&& nI b = nI (a &&& b) := by
  apply Int32.toBitVec_inj.1
  show BitVec.ofNat 32 a &&& BitVec.ofNat 32 b = BitVec.ofNat 32 (a &&& b)
  apply BitVec.eq_of_getLsbD_eq
  intro i hi
  simp [hi]
theorem nx_xor (a b : Nat) : nI a ^^^ nI b = nI (a ^^^ b) := by
  apply Int32.toBitVec_inj.1
  show BitVec.ofNat 32 a ^^^ BitVec.ofNat 32 b = BitVec.ofNat 32 (a ^^^ b)
  apply BitVec.eq_of_getLsbD_eq
  intro i hi
  simp [hi]
theorem nx_or (a b : Nat) : nI a ||| nI b = nI (a ||| b) := by
  apply Int32.toBitVec_inj.1
  show BitVec.ofNat 32 a ||| BitVec.ofNat 32 b = BitVec.ofNat 32 (a ||| b)
  apply BitVec.eq_of_getLsbD_eq
  intro i hi
  simp [hi]
/-- the low k bits of any number -/
theorem nx_mask {m : Int32} (x : Int32) (k : Nat) (hm : m.toBitVec.toNat = 2 ^ k - 1) : x &&& m = nI (x.toBitVec.toNat % 2 ^ k) := pk_and x k hm
theorem nx_ofInt {x : Int32} {i : Int} (h : x.toInt = i) : x.toBitVec.toNat = (i % 4294967296).toNat := by
  have h1 : x.toInt = x.toBitVec.toInt := rfl
  rw [h1] at h
  have h2 := BitVec.toInt_eq_toNat_cond x.toBitVec
  have h3 := x.toBitVec.isLt
  split at h2 <;> omega
theorem nx_m8 {x : Int32} {i : Int} (h : x.toInt = i) : x &&& 255 = nI ((i % 256).toNat) := by
  rw [pk_and x 8 (by decide), nx_ofInt h]
  congr 1
  omega
theorem nx_m16 {x : Int32} {i : Int} (h : x.toInt = i) : x &&& 65535 = nI ((i % 65536).toNat) := by
  rw [pk_and x 16 (by decide), nx_ofInt h]
  congr 1
  omega
theorem and2k (x k : Nat) : x &&& 2 ^ k = if x.testBit k = true then 2 ^ k else 0 := by
  apply Nat.eq_of_testBit_eq
  intro j
  rw [Nat.testBit_and, Nat.testBit_two_pow]
  by_cases h : k = j
  · subst h; cases hx : x.testBit k <;> simp [Nat.testBit_two_pow]
  · cases hx : x.testBit k <;> simp [h, Nat.testBit_two_pow]
theorem nx_bit {x : Nat} (k : Nat) (hk : k < 31) : (nI x &&& nI (2 ^ k) = 0) ↔ x / 2 ^ k % 2 = 0 := by
  have hp : 2 ^ k < 2 ^ 31 := Nat.pow_lt_pow_right (by decide) hk
  have hpos : 0 < 2 ^ k := Nat.pow_pos (by decide)
  rw [nx_and, and2k, Nat.testBit_eq_decide_div_mod_eq]
  by_cases h : x / 2 ^ k % 2 = 1
  · rw [decide_eq_true h, if_pos rfl]
    constructor
    · intro q
      have := (nI_eq (a := 2 ^ k) (b := 0) hp (by decide)).mp q
      omega
    · intro q; omega
  · rw [decide_eq_false h, if_neg (by decide)]
    constructor
    · intro _; omega
    · intro _; rfl
theorem nx_b7 {x : Nat} (h : x < 256) : (nI x &&& 128 = 0) ↔ x < 128 := by
  have := nx_bit (x := x) 7 (by decide)
  rw [show nI (2 ^ 7) = (128 : Int32) from rfl] at this
  rw [this]; omega
theorem nx_b15 {x : Nat} (h : x < 65536) : (nI x &&& 32768 = 0) ↔ x < 32768 := by
  have := nx_bit (x := x) 15 (by decide)
  rw [show nI (2 ^ 15) = (32768 : Int32) from rfl] at this
  rw [this]; omega
theorem nx_top (k : Nat) {a b c d : Nat} : ((a ^^^ b) &&& (c ^^^ d)) / 2 ^ k % 2 = 0 ↔ (a / 2 ^ k % 2 = b / 2 ^ k % 2 ∨ c / 2 ^ k % 2 = d / 2 ^ k % 2) := by
  have e : ∀ n : Nat, (n / 2 ^ k % 2 = 0) ↔ n.testBit k = false := fun n => by
    rw [Nat.testBit_eq_decide_div_mod_eq, decide_eq_false_iff_not]; omega
  have f : ∀ m n : Nat, (m / 2 ^ k % 2 = n / 2 ^ k % 2) ↔ m.testBit k = n.testBit k := fun m n => by
    rw [Nat.testBit_eq_decide_div_mod_eq, Nat.testBit_eq_decide_div_mod_eq, decide_eq_decide]; omega
  rw [e, f, f, Nat.testBit_and, Nat.testBit_xor, Nat.testBit_xor]
  cases a.testBit k <;> cases b.testBit k <;> cases c.testBit k <;> cases d.testBit k <;> simp
/-! the flags -/
def tv (f b x : Int32) : Int32 := if b = 0 then x &&& (f ^^^ (-1 : Int32)) else x ||| f
def FL : List Int32 := [1, 2, 4, 8, 16, 32]
def z01 (b : Int32) : Prop := b = 0 ∨ b = 1
theorem z_if {c : Prop} [Decidable c] : z01 (if c then (0 : Int32) else 1) := by split; exact Or.inl rfl; exact Or.inr rfl
theorem z_if' {c : Prop} [Decidable c] : z01 (if c then (1 : Int32) else 0) := by split; exact Or.inr rfl; exact Or.inl rfl
theorem tv_rows : ∀ f ∈ FL, ∀ g ∈ FL, f ≠ g → ∀ b ∈ ([0, 1] : List Int32), ∀ c ∈ ([0, 1] : List Int32), ∀ j, j < 64 → tv f b (tv g c (nI j)) = tv g c (tv f b (nI j)) := by decide +kernel
theorem tv_rng : ∀ f ∈ FL, ∀ b ∈ ([0, 1] : List Int32), ∀ j, j < 64 → 0 ≤ (tv f b (nI j)).toInt ∧ (tv f b (nI j)).toInt < 64 := by decide +kernel
theorem z_mem {b : Int32} (h : z01 b) : b ∈ ([0, 1] : List Int32) := by rcases h with rfl | rfl <;> decide
theorem tvc {f g b c x : Int32} (hf : f ∈ FL) (hg : g ∈ FL) (hn : f ≠ g) (hb : z01 b) (hc : z01 c) (hx : bF x) : tv f b (tv g c x) = tv g c (tv f b x) := by
  obtain ⟨j, hj, rfl⟩ := bF_of hx
  exact tv_rows f hf g hg hn b (z_mem hb) c (z_mem hc) j hj
theorem bF_tv {f b x : Int32} (hf : f ∈ FL) (hb : z01 b) (hx : bF x) : bF (tv f b x) := by
  obtain ⟨j, hj, rfl⟩ := bF_of hx
  exact tv_rng f hf b (z_mem hb) j hj
def nzf (r x : Int32) : Int32 := tv 4 (if r = 0 then 1 else 0) (tv 8 (if (r &&& 128) = 0 then 0 else 1) x)
def nzw (r x : Int32) : Int32 := tv 4 (if r = 0 then 1 else 0) (tv 8 (if (r &&& 32768) = 0 then 0 else 1) x)
theorem bF_nzf {r x : Int32} (hx : bF x) : bF (nzf r x) := bF_tv (by decide) z_if' (bF_tv (by decide) z_if hx)
theorem bF_nzw {r x : Int32} (hx : bF x) : bF (nzw r x) := bF_tv (by decide) z_if' (bF_tv (by decide) z_if hx)
theorem nzf_tv {f b r x : Int32} (hf : f ∈ FL) (h4 : f ≠ 4) (h8 : f ≠ 8) (hb : z01 b) (hx : bF x) : tv f b (nzf r x) = nzf r (tv f b x) := by
  unfold nzf
  rw [tvc hf (by decide) h4 hb z_if' (bF_tv (by decide) z_if hx), tvc hf (by decide) h8 hb z_if hx]
theorem nzw_tv {f b r x : Int32} (hf : f ∈ FL) (h4 : f ≠ 4) (h8 : f ≠ 8) (hb : z01 b) (hx : bF x) : tv f b (nzw r x) = nzw r (tv f b x) := by
  unfold nzw
  rw [tvc hf (by decide) h4 hb z_if' (bF_tv (by decide) z_if hx), tvc hf (by decide) h8 hb z_if hx]
/-! class and reference: each as (answer, store with new flags) -/
theorem fl_tell (f b : Int32) (mu : Mu) : F_Fl_tell f b mu = ps mu 10 0 (tv f b (mu 10 0)) := by
  unfold F_Fl_tell F_Fl_tell_22 tv; split <;> rfl
theorem md_tell (f b : Int32) (mu : Mu) : F_Md_tell f b mu = ps mu 12 7 (tv f b (mu 12 7)) := by
  unfold F_Md_tell F_Md_tell_22 tv; split <;> rfl
theorem fl_sz (r : Int32) (mu : Mu) : F_Fl_tellSignAndZero r mu = ps mu 10 0 (nzf r (mu 10 0)) := by
  unfold F_Fl_tellSignAndZero
  simp only [F_Fl_tellSignAndZero_16, F_Fl_tellSignAndZero_19, F_Fl_tellSignAndZero_30, fl_tell, ps_ps, ps_self]
  unfold nzf
  split <;> split <;> rfl
theorem fl_szw (r : Int32) (mu : Mu) : F_Fl_tellWordSignAndZero r mu = ps mu 10 0 (nzw r (mu 10 0)) := by
  unfold F_Fl_tellWordSignAndZero
  simp only [F_Fl_tellWordSignAndZero_15, F_Fl_tellWordSignAndZero_18, F_Fl_tellWordSignAndZero_29, fl_tell, ps_ps, ps_self]
  unfold nzw
  split <;> split <;> rfl
theorem and_255_128 (v : Int32) : (v &&& 255) &&& 128 = v &&& 128 := by rw [Int32.and_assoc]; rfl
theorem and_w_15 (v : Int32) : (v &&& 65535) &&& 32768 = v &&& 32768 := by rw [Int32.and_assoc]; rfl
theorem md_nz (v : Int32) (mu : Mu) : F_Md_nz v mu = (v &&& 255, ps mu 12 7 (nzf (v &&& 255) (mu 12 7))) := by
  unfold F_Md_nz
  simp only [F_Md_nz_16, F_Md_nz_19, F_Md_nz_34, md_tell, ps_ps, ps_self]
  unfold nzf
  rw [and_255_128]
  split <;> split <;> rfl
theorem md_nzw (v : Int32) (mu : Mu) : F_Md_nzWord v mu = (v &&& 65535, ps mu 12 7 (nzw (v &&& 65535) (mu 12 7))) := by
  unfold F_Md_nzWord
  simp only [F_Md_nzWord_15, F_Md_nzWord_18, F_Md_nzWord_32, F_Md_nzWord_35, md_tell, ps_ps, ps_self]
  unfold nzw
  rw [and_w_15]
  split <;> split <;> rfl
theorem md_nzv (v : Int32) (mu : Mu) : F_Md_nzv v mu = (v &&& 255, ps mu 12 7 (nzf (v &&& 255) (tv 2 0 (mu 12 7)))) := by
  unfold F_Md_nzv
  simp only [F_Md_nzv_6, md_tell, md_nz, ps_ps, ps_self]
theorem md_loaded (v : Int32) (mu : Mu) : F_Md_loaded v mu = (v &&& 65535, ps mu 12 7 (nzw (v &&& 65535) (tv 2 0 (mu 12 7)))) := by
  unfold F_Md_loaded
  simp only [F_Md_loaded_6, md_tell, md_nzw, ps_ps, ps_self]
theorem ar_told (r : Int32) (mu : Mu) : F_Ar_told r mu = (r, ps mu 10 0 (tv 2 0 (nzf r (mu 10 0)))) := by
  unfold F_Ar_told
  simp only [F_Ar_told_8, fl_tell, fl_sz, ps_ps, ps_self]
theorem ar_toldW (r : Int32) (mu : Mu) : F_Ar_toldWord r mu = (r, ps mu 10 0 (tv 2 0 (nzw r (mu 10 0)))) := by
  unfold F_Ar_toldWord
  simp only [F_Ar_toldWord_8, fl_tell, fl_szw, ps_ps, ps_self]
