/-! the calls -/
def Sim (p q : Int32 × Mu) : Prop := p.1 = q.1 ∧ Rel p.2 q.2
theorem km_run_s (n : Nat) (x1 x2 : Int32) (mu : Mu) : F_Km_run_15 (n + 1) x1 x2 mu = if x1 ≤ x2 then (x2, mu) else (if mu 9 9 = 0 then F_Km_run_15 n x1 (x2 + 1) (F_Km_step mu) else (x2, mu)) := by
  rw [F_Km_run_15]
  unfold F_Km_step F_Km_asked
  by_cases a : x1 ≤ x2
  · rw [if_pos a, if_pos a]
  · rw [if_neg a, if_neg a]
    by_cases b : mu 9 9 = 0
    · rw [if_pos b, if_pos b]
      by_cases c : F_Sc_asks (F_Sc_passTime mu) = 0
      · rw [if_pos c, if_pos c]
        by_cases d : F_Sd4_asks (F_Sc_passTime mu) = 0
        · rw [if_pos d, if_pos d]
          by_cases e : F_Sd5_asks (F_Sc_passTime mu) = 0
          · rw [if_pos e, if_pos e]
          · rw [if_neg e, if_neg e]
        · rw [if_neg d, if_neg d]
      · rw [if_neg c, if_neg c]
    · rw [if_neg b, if_neg b]
theorem sim_run15 : ∀ (n : Nat) (x1 x2 : Int32) {mu nu : Mu}, Rel mu nu → Sim (F_Km_run_15 n x1 x2 mu) (F_Md_run_15 n x1 x2 nu) := by
  intro n
  induction n with
  | zero => intro x1 x2 mu nu h; exact ⟨rfl, h⟩
  | succ n ih =>
    intro x1 x2 mu nu h
    rw [km_run_s, F_Md_run_15, ← h.1.2.2.2.2.2.2]
    by_cases a : x1 ≤ x2
    · rw [if_pos a, if_pos a]; exact ⟨rfl, h⟩
    · rw [if_neg a, if_neg a]
      by_cases b : mu 9 9 = 0
      · rw [if_pos b, if_pos b]; exact ih x1 (x2 + 1) (rel_step h)
      · rw [if_neg b, if_neg b]; exact ⟨rfl, h⟩
theorem api_run {mu nu : Mu} (x : Int32) (h : Rel mu nu) : Sim (F_Km_run x mu) (F_Md_run x nu) := by
  unfold F_Km_run F_Md_run
  by_cases a : x < 0
  · rw [if_pos a, if_pos a]; exact ⟨rfl, h⟩
  · rw [if_neg a, if_neg a]
    by_cases b : x ≤ 3000
    · rw [if_pos b, if_pos b]; exact sim_run15 _ _ _ h
    · rw [if_neg b, if_neg b]; exact ⟨rfl, h⟩
theorem md_rw_c (x : Int32) (nu : Mu) {k : Nat} (v : Int32) (h : oP k) : F_Md_readWord x (ps nu 12 k v) = ((F_Md_readWord x nu).1, ps (F_Md_readWord x nu).2 12 k v) := by
  unfold F_Md_readWord F_Md_readWord_5
  rw [md_read_c _ _ _ h]
  simp only [md_read_c _ _ _ h]
theorem md_rw_k (x : Int32) (nu : Mu) {k : Nat} (h : oP k) : (F_Md_readWord x nu).2 12 k = nu 12 k := by
  unfold F_Md_readWord F_Md_readWord_5
  show (F_Md_read _ _).2 12 k = _
  rw [md_read_k _ _ h, md_read_k _ _ h]
theorem api_reset {mu nu : Mu} (h : Rel mu nu) : Rel (F_Km_reset mu) (F_Md_reset nu) := by
  unfold F_Km_reset F_Pr_restart F_Pr_restart_6 F_Md_reset F_Md_reset_8 F_Md_reset_18
  have g := rel_go 65534 h
  rw [md_tell, md_rw_c _ _ _ oP7] at g
  have e : F_Md_tell 16 1 (ps (F_Md_readWord 65534 nu).2 12 6 (F_Md_readWord 65534 nu).1) = ps (ps (F_Md_readWord 65534 nu).2 12 7 (tv 16 1 (nu 12 7))) 12 6 (F_Md_readWord 65534 nu).1 := by
    rw [md_tell, ps_k (by decide), md_rw_k _ _ oP7, ps_comm _ _ _ (Or.inr (by decide))]
  rw [e]
  exact rel_t (rel_w g)
theorem api_register {mu nu : Mu} (x : Int32) (h : Rel mu nu) : F_Km_register x mu = F_Md_register x nu := by
  obtain ⟨⟨p1, p2, p3, p4, p5, p6, p7⟩, ⟨f, _⟩, _⟩ := h
  unfold F_Km_register F_Md_register
  rw [p1.1, p2.1, p3.1, p4.1, p5.1, p6, p7, f]
theorem api_serial {mu nu : Mu} (x : Int32) (h : Rel mu nu) : F_Km_serial x mu = F_Md_serial x nu := by
  obtain ⟨r1, r2, r3, r4, r5, r6, r7, r8, r9, r10, r11⟩ := id h.2.2.2.2.2.1
  obtain ⟨l1, _⟩ := id h.2.2.2.2.2.2.1
  unfold F_Km_serial F_Md_serial
  rw [(sc_status h).1, r10.1, l1, r8.1, r9.1]
theorem api_sent {mu nu : Mu} (h : Rel mu nu) : F_Km_sent mu = F_Md_sent nu := h.2.2.2.2.2.2.1.2.1
theorem api_sentByte {mu nu : Mu} (x : Int32) (h : Rel mu nu) : F_Km_sentByte x mu = F_Md_sentByte x nu := by
  obtain ⟨l1, l2, ⟨_, _, ⟨j5, j6⟩⟩, l4, l5⟩ := id h.2.2.2.2.2.2.1
  unfold F_Km_sentByte F_Sc_sentAt F_Md_sentByte
  rw [← l2]
  by_cases a : x < 0
  · rw [if_pos a, if_pos a]
  · rw [if_neg a, if_neg a]
    rw [i_lt, e0i] at a
    by_cases b : x < mu 1 4
    · have c : ¬ mu 1 4 ≤ x := by rw [i_lt] at b; rw [i_le]; omega
      rw [if_pos b, if_neg c]
      refine l5 _ ?_
      rw [i_lt] at b
      show ((x.toInt.toNat : Nat) : Int) < _
      omega
    · have c : mu 1 4 ≤ x := by rw [i_lt] at b; rw [i_le]; omega
      rw [if_neg b, if_pos c]
theorem api_pins {mu nu : Mu} (x v : Int32) (h : Rel mu nu) : Sim (F_Km_pins x v mu) (F_Md_pins x v nu) := by
  unfold F_Km_pins F_Md_pins F_Md_isSide
  by_cases a : x = 0
  · subst a
    simp +decide only [↓reduceIte]
    rw [e_c0]
    exact ⟨rfl, rel_inp0 h (bB_and _)⟩
  · by_cases b : x = 1
    · subst b
      simp +decide only [↓reduceIte]
      rw [e_c1]
      exact ⟨rfl, rel_inp1 h (bB_and _)⟩
    · simp +decide only [a, b, ↓reduceIte]
      exact ⟨rfl, h⟩
theorem api_port {mu nu : Mu} (x v : Int32) (h : Rel mu nu) : F_Km_port x v mu = F_Md_port x v nu := by
  obtain ⟨a1, a2, a3, a4, a5, a6⟩ := id h.2.2.2.1
  obtain ⟨b1, b2, b3, b4, b5, b6⟩ := id h.2.2.2.2.1
  unfold F_Km_port F_Md_port F_Md_isSide
  by_cases a : x = 0
  · subst a
    simp +decide only [↓reduceIte]
    rw [e_c0, a1.1, a2.1, a3.1, a4.1, a5, a6]
  · by_cases b : x = 1
    · subst b
      simp +decide only [↓reduceIte]
      rw [e_c1, b1.1, b2.1, b3.1, b4.1, b5, b6]
    · simp +decide only [a, b, ↓reduceIte]
/-! receive -/
theorem rel_join {mu nu : Mu} {b c : Int32} {i k : Nat} (h : Rel mu nu) (hb : bB b) (hk : (k : Int) = (mu 1 3).toInt) (hi : i = ((mu 1 2).toInt.toNat + k) % 64) (hc : c.toInt = (mu 1 3).toInt + 1) (hc2 : c.toInt ≤ 64) : Rel (ps (ps mu 2 i b) 1 3 c) (ps (ps nu 21 k b) 12 24 c) := by
  obtain ⟨hP, hF, hM, h0, h1, hC, ⟨l1, l2, ⟨⟨j1, j1'⟩, j2, j3⟩, l4, l5⟩, hQ⟩ := h
  refine ⟨hP, hF, hM, h0, h1, hC, ⟨rfl, l2, ⟨⟨j1, j1'⟩, ⟨?_, ?_⟩, j3⟩, fun q hq => ?_, l5⟩, hQ⟩
  · show 0 ≤ c.toInt
    omega
  · show c.toInt ≤ 64
    exact hc2
  · have hq : (q : Int) < c.toInt := hq
    show upd (mu 2) i b (((mu 1 2).toInt.toNat + q) % 64) = upd (nu 21) k b q ∧ bB (upd (nu 21) k b q)
    by_cases e : q = k
    · subst e; rw [← hi, pk_us, pk_us]; exact ⟨rfl, hb⟩
    · rw [pk_un e, pk_un (by omega)]; exact l4 q (by omega)
theorem api_receive {mu nu : Mu} (x : Int32) (h : Rel mu nu) : Sim (F_Km_receive x mu) (F_Md_receive x nu) := by
  obtain ⟨l1, l2, ⟨⟨j1, j2⟩, ⟨j3, j4⟩, _⟩, l4, l5⟩ := id h.2.2.2.2.2.2.1
  have e64 : (64 : Int32).toInt = 64 := by decide
  have e1 := e1i
  unfold F_Km_receive F_Sc_takeOnLine F_Md_receive
  rw [← l1]
  by_cases a : mu 1 3 = 64
  · have b : ¬ mu 1 3 < 64 := by rw [a]; decide
    rw [if_pos a, if_neg b]; exact ⟨rfl, h⟩
  · have b0 : (mu 1 3).toInt ≠ 64 := fun z => a (i_inj (by rw [z, e64]))
    have b : mu 1 3 < 64 := by rw [i_lt, e64]; omega
    rw [if_neg a, if_pos b]
    have es : (mu 1 2 + mu 1 3).toInt = (mu 1 2).toInt + (mu 1 3).toInt := i_add (by omega) (by omega)
    have er := (i_rem64 (x := mu 1 2 + mu 1 3) (by omega)).2
    have ea : (mu 1 3 + 1).toInt = (mu 1 3).toInt + 1 := by rw [i_add (by omega) (by omega), e1i]
    refine ⟨rfl, rel_join h (bB_and _) ?_ ?_ ea (by omega)⟩
    · show (((mu 1 3).toInt.toNat : Nat) : Int) = _
      omega
    · show ((mu 1 2 + mu 1 3) - (mu 1 2 + mu 1 3) / 64 * 64).toInt.toNat = ((mu 1 2).toInt.toNat + (mu 1 3).toInt.toNat) % 64
      rw [er, es]; omega
/-! memory from outside -/
theorem k1024 : (1024 : Int32).toInt = 1024 := by decide
theorem k64512 : (64512 : Int32).toInt = 64512 := by decide
theorem k65536 : (65536 : Int32).toInt = 65536 := by decide
theorem fr_iff (y : Int32) (mu : Mu) : F_Bu_isFree y mu = 0 ↔ ¬ (0 ≤ y.toInt ∧ y.toInt < 1024) := by
  unfold F_Bu_isFree
  by_cases a : y < 0
  · rw [if_pos a]; rw [i_lt, e0i] at a; exact ⟨fun _ => by omega, fun _ => rfl⟩
  · rw [if_neg a]; rw [i_lt, e0i] at a
    by_cases b : (1024 : Int32) ≤ y
    · rw [if_pos b]; rw [i_le, k1024] at b; exact ⟨fun _ => by omega, fun _ => rfl⟩
    · rw [if_neg b]; rw [i_le, k1024] at b; exact ⟨fun q => absurd q (by decide), fun q => absurd (by omega) q⟩
theorem ro_iff (y : Int32) (mu : Mu) : F_Bu_isReadOnly y mu = 0 ↔ ¬ (64512 ≤ y.toInt ∧ y.toInt < 65536) := by
  unfold F_Bu_isReadOnly
  by_cases a : y < 64512
  · rw [if_pos a]; rw [i_lt, k64512] at a; exact ⟨fun _ => by omega, fun _ => rfl⟩
  · rw [if_neg a]; rw [i_lt, k64512] at a
    by_cases b : (65536 : Int32) ≤ y
    · rw [if_pos b]; rw [i_le, k65536] at b; exact ⟨fun _ => by omega, fun _ => rfl⟩
    · rw [if_neg b]; rw [i_le, k65536] at b; exact ⟨fun q => absurd q (by decide), fun q => absurd (by omega) q⟩
theorem bu_mem (y : Int32) (mu : Mu) : (F_Bu_isMemory y mu = 0) ↔ ¬ isM y := by
  have h1 := fr_iff y mu
  have h2 := ro_iff y mu
  unfold F_Bu_isMemory isM
  by_cases p : F_Bu_isFree y mu = 0
  · rw [if_pos p]
    have p' := h1.mp p
    by_cases r : F_Bu_isReadOnly y mu = 0
    · rw [if_pos r]
      have r' := h2.mp r
      exact ⟨fun _ => fun q => q.elim p' r', fun _ => rfl⟩
    · rw [if_neg r]
      exact ⟨fun q => absurd q (by decide), fun q => absurd (h2.mpr (fun z => q (Or.inr z))) r⟩
  · rw [if_neg p]
    exact ⟨fun q => absurd q (by decide), fun q => absurd (h1.mpr (fun z => q (Or.inl z))) p⟩
theorem m11_iff (y : Int32) (mu : Mu) : F_Md_isMemory_11 y mu = 0 ↔ ¬ (64512 ≤ y.toInt ∧ y.toInt < 65536) := ro_iff y mu
theorem md_mem (y : Int32) (mu : Mu) : (F_Md_isMemory y mu = 0) ↔ ¬ isM y := by
  have h2 := m11_iff y mu
  unfold F_Md_isMemory isM
  by_cases a : y < 0
  · rw [if_pos a, h2]; rw [i_lt, e0i] at a
    exact ⟨fun q z => z.elim (fun w => by omega) q, fun q z => q (Or.inr z)⟩
  · rw [if_neg a]; rw [i_lt, e0i] at a
    by_cases b : y < 1024
    · rw [if_pos b]; rw [i_lt, k1024] at b
      exact ⟨fun q => absurd q (by decide), fun q => absurd (Or.inl ⟨by omega, by omega⟩) q⟩
    · rw [if_neg b, h2]; rw [i_lt, k1024] at b
      exact ⟨fun q z => z.elim (fun w => by omega) q, fun q z => q (Or.inr z)⟩
theorem rel_store {m n : Mu} {y v : Int32} (h : Rel m n) (hM : isM y) (hv : bB v) : Rel (F_Bu_store y v m) (if (1024 : Int32) ≤ y then ps n 14 (y - 64512).toNatClampNeg v else ps n 13 y.toNatClampNeg v) := by
  unfold F_Bu_store F_Bu_isFree F_Bu_isReadOnly
  by_cases b : (1024 : Int32) ≤ y
  · have b' := b
    rw [i_le, k1024] at b'
    unfold isM at hM
    have c1 : ¬ y < 0 := by rw [i_lt, e0i]; omega
    have c2 : ¬ y < 64512 := by rw [i_lt, k64512]; omega
    have c3 : ¬ (65536 : Int32) ≤ y := by rw [i_le, k65536]; omega
    simp +decide only [b, c1, c2, c3, ↓reduceIte]
    exact rel_m8 h hv
  · have b' := b
    rw [i_le, k1024] at b'
    unfold isM at hM
    have c1 : ¬ y < 0 := by rw [i_lt, e0i]; omega
    simp +decide only [b, c1, ↓reduceIte]
    exact rel_m7 h hv
theorem isM_3 {x : Int32} : (isM x ∧ isM (x + 3)) ↔ (isM (x + 0) ∧ isM (x + 1) ∧ isM (x + 2) ∧ isM (x + 3)) := by
  have k1 : (1 : Int32).toInt = 1 := by decide
  have k2 : (2 : Int32).toInt = 2 := by decide
  have k3 : (3 : Int32).toInt = 3 := by decide
  rw [Int32.add_zero]
  constructor
  · intro ⟨a, b⟩
    unfold isM at *
    have e1 : (x + 1).toInt = x.toInt + 1 := by rw [i_add (by omega) (by omega), k1]
    have e2 : (x + 2).toInt = x.toInt + 2 := by rw [i_add (by omega) (by omega), k2]
    have e3 : (x + 3).toInt = x.toInt + 3 := by rw [i_add (by omega) (by omega), k3]
    rw [e3] at b
    rw [e1, e2, e3]; omega
  · intro ⟨a, _, _, d⟩; exact ⟨a, d⟩
theorem ite_app {c : Prop} [Decidable c] (f : Mu → Int32 × Mu) (a b : Mu) : (if c then f a else f b) = f (if c then a else b) := by split <;> rfl
theorem api_put {mu nu : Mu} (x v : Int32) (h : Rel mu nu) : Sim (F_Km_put x v mu) (F_Md_put x v nu) := by
  by_cases q : isM x ∧ isM (x + 3)
  · obtain ⟨m0, m1, m2, m3⟩ := isM_3.mp q
    have z1 : ¬ F_Bu_isMemory x mu = 0 := fun z => (bu_mem x mu).mp z q.1
    have z2 : ¬ F_Bu_isMemory (x + (3 : Int32)) mu = 0 := fun z => (bu_mem _ mu).mp z q.2
    have y0 : ¬ F_Md_isMemory (x + (0 : Int32)) nu = 0 := fun z => (md_mem _ nu).mp z m0
    have y1 : ¬ F_Md_isMemory (x + (1 : Int32)) nu = 0 := fun z => (md_mem _ nu).mp z m1
    have y2 : ¬ F_Md_isMemory (x + (2 : Int32)) nu = 0 := fun z => (md_mem _ nu).mp z m2
    have y3 : ¬ F_Md_isMemory (x + (3 : Int32)) nu = 0 := fun z => (md_mem _ nu).mp z m3
    unfold F_Km_put F_Md_put
    rw [if_neg z1, if_neg z2, if_neg y0, if_neg y1, if_neg y2, if_neg y3, ite_app (F_Md_put_83a x v)]
    unfold F_Km_put_56a F_Km_put_56b F_Km_put_56c F_Km_put_56d F_Md_put_83a
    rw [ite_app (F_Md_put_83b x v)]
    unfold F_Md_put_83b
    rw [ite_app (F_Md_put_83c x v)]
    unfold F_Md_put_83c
    rw [ite_app (F_Md_put_83d x v)]
    unfold F_Md_put_83d
    exact ⟨rfl, rel_store (rel_store (rel_store (rel_store h m0 (bB_and _)) m1 (bB_and _)) m2 (bB_and _)) m3 (bB_and _)⟩
  · have e1 : F_Km_put x v mu = (0, mu) := by
      unfold F_Km_put
      by_cases z1 : F_Bu_isMemory x mu = 0
      · rw [if_pos z1]
      · rw [if_neg z1]
        by_cases z2 : F_Bu_isMemory (x + (3 : Int32)) mu = 0
        · rw [if_pos z2]
        · exact absurd ⟨Classical.byContradiction fun n => z1 ((bu_mem x mu).mpr n), Classical.byContradiction fun n => z2 ((bu_mem _ mu).mpr n)⟩ q
    have e2 : F_Md_put x v nu = (0, nu) := by
      unfold F_Md_put
      by_cases z0 : F_Md_isMemory (x + (0 : Int32)) nu = 0
      · rw [if_pos z0]
      · rw [if_neg z0]
        by_cases z1 : F_Md_isMemory (x + (1 : Int32)) nu = 0
        · rw [if_pos z1]
        · rw [if_neg z1]
          by_cases z2 : F_Md_isMemory (x + (2 : Int32)) nu = 0
          · rw [if_pos z2]
          · rw [if_neg z2]
            by_cases z3 : F_Md_isMemory (x + (3 : Int32)) nu = 0
            · rw [if_pos z3]
            · exact absurd (isM_3.mpr ⟨Classical.byContradiction fun n => z0 ((md_mem _ nu).mpr n), Classical.byContradiction fun n => z1 ((md_mem _ nu).mpr n), Classical.byContradiction fun n => z2 ((md_mem _ nu).mpr n), Classical.byContradiction fun n => z3 ((md_mem _ nu).mpr n)⟩) q
    rw [e1, e2]; exact ⟨rfl, h⟩
theorem api_peek {mu nu : Mu} (x : Int32) (h : Rel mu nu) : (F_Km_peek x mu).1 = F_Md_peek x nu ∧ Rel (F_Km_peek x mu).2 nu := by
  unfold F_Km_peek F_Md_peek
  by_cases q : isM x
  · have z1 : ¬ F_Bu_isMemory x mu = 0 := fun z => (bu_mem x mu).mp z q
    have y1 : ¬ F_Md_isMemory x nu = 0 := fun z => (md_mem x nu).mp z q
    rw [if_neg z1, if_neg y1]
    have hx : 0 ≤ x.toInt ∧ x.toInt < 65536 := by unfold isM at q; omega
    obtain ⟨k, hk, rfl⟩ := bW_of (x := x) hx
    have hi := nI_toInt (n := k) (by omega)
    unfold isM at q
    rw [hi] at q
    have q7 : ((1024 : Int32) ≤ nI k) = (1024 ≤ k) := q_le 1024 hk (by decide)
    rw [bu_rd hk (w_and' hk), q_cl hk]
    have n1 : ¬ k = 8192 := by omega
    have n2 : ¬ k = 8193 := by omega
    have n3 : ¬ k = 8194 := by omega
    have n4 : ¬ k = 8195 := by omega
    have n5 : ¬ k = 8448 := by omega
    have n6 : ¬ k = 8449 := by omega
    rw [if_neg n1, if_neg n2, if_neg n3, if_neg n4, if_neg n5, if_neg n6]
    by_cases c : k < 1024
    · rw [if_pos c, if_neg (fun w => absurd (q7.mp w) (by omega))]
      exact ⟨(h.2.2.1 k c).1.1, h⟩
    · have c8 : 64512 ≤ k := by omega
      rw [if_neg c, if_pos c8, if_pos (q7.mpr (by omega)), q_hi hk c8]
      exact ⟨(h.2.2.1 (k - 64512) (by omega)).2.1, h⟩
  · rw [if_pos ((bu_mem x mu).mpr q), if_pos ((md_mem x nu).mpr q)]
    exact ⟨rfl, h⟩
/-! lines -/
theorem ln_rows : ∀ j, j < 256 → (if nI j &&& 2 = 0 then (0 : Int32) else 1) = (nI j >>> ((1 : Int32) &&& 31)) &&& 1 ∧ (if nI j &&& 16 = 0 then (0 : Int32) else 1) = (nI j >>> ((4 : Int32) &&& 31)) &&& 1 := by decide +kernel
theorem rel_l1_4 {mu nu : Mu} (y : Int32) (h : Rel mu nu) : Sim (1, F_Sd4_setFirstLine y mu) (F_Md_line_45 0 1 y nu) := by
  obtain ⟨_, _, ⟨t1, t2⟩, _, l1, l2⟩ := id h.2.2.2.1
  obtain ⟨j, hj, ej⟩ := bB_of t2
  have L := (ln_rows j hj).1
  rw [← ej] at L
  have h1 : Rel (ps mu 4 5 y) (ps nu 19 0 y) := rel_l10 h
  have tb : bB (mu 4 3 ||| 128) := bB_or t2 (by unfold bB; decide)
  have h2 : Rel (ps (ps mu 4 5 y) 4 3 (mu 4 3 ||| 128)) (ps (ps nu 19 0 y) 17 0 (mu 4 3 ||| 128)) := rel_ctl0 h1 tb
  obtain ⟨j2, hj2, ej2⟩ := bB_of tb
  have K := (kind_rows j2 hj2).2
  rw [← ej2] at K
  unfold F_Md_line_45 F_Md_line_67 F_Md_line_93 F_Md_line_109 F_Md_line_150
  simp +decide only [↓reduceIte]
  rw [e_c0, ← l1]
  have e17 : (ps nu 19 0 y) 17 0 = mu 4 3 := t1.symm
  rw [e17, ← L]
  unfold F_Sd4_setFirstLine F_Sd4_isSeen F_Sd4_isSeen_14
  by_cases a : mu 4 5 = y
  · rw [if_pos a.symm]
    have z : (if mu 4 3 &&& 2 = 0 then (if mu 4 5 = y then (0 : Int32) else if y = 0 then 1 else 0) else if mu 4 5 = y then 0 else if y = 1 then 1 else 0) = 0 := by
      simp only [a, ↓reduceIte, ite_self]
    rw [if_pos z]; exact ⟨rfl, h1⟩
  · rw [if_neg (show ¬ y = mu 4 5 from fun q => a q.symm)]
    by_cases b : y = (if mu 4 3 &&& 2 = 0 then (0 : Int32) else 1)
    · rw [if_pos b]
      have z : ¬ (if mu 4 3 &&& 2 = 0 then (if mu 4 5 = y then (0 : Int32) else if y = 0 then 1 else 0) else if mu 4 5 = y then 0 else if y = 1 then 1 else 0) = 0 := by
        by_cases d : mu 4 3 &&& 2 = 0
        · rw [if_pos d] at b; rw [if_pos d, if_neg a, if_pos b]; decide
        · rw [if_neg d] at b; rw [if_neg d, if_neg a, if_pos b]; decide
      rw [if_neg z]
      unfold F_Sd4_isKind F_Md_answers
      rw [e_c0]
      show Sim (1, if (if (mu 4 3 ||| 128) &&& 56 = 32 then (1 : Int32) else 0) = 0 then _ else _) (if (if (mu 4 3 ||| 128) &&& 48 = 32 then (1 : Int32) else 0) = 0 then _ else if (mu 4 3 ||| 128) &&& 8 = 0 then _ else _)
      by_cases p : (mu 4 3 ||| 128) &&& 48 = 32
      · by_cases q : (mu 4 3 ||| 128) &&& 8 = 0
        · have k := K.mpr ⟨p, q⟩
          simp +decide only [p, q, k, ↓reduceIte]
          exact ⟨rfl, rel_l20 h2⟩
        · have k : ¬ (mu 4 3 ||| 128) &&& 56 = 32 := fun w => q (K.mp w).2
          simp +decide only [p, q, k, ↓reduceIte]
          exact ⟨rfl, h2⟩
      · have k : ¬ (mu 4 3 ||| 128) &&& 56 = 32 := fun w => p (K.mp w).1
        simp +decide only [p, k, ↓reduceIte]
        exact ⟨rfl, h2⟩
    · rw [if_neg b]
      have z : (if mu 4 3 &&& 2 = 0 then (if mu 4 5 = y then (0 : Int32) else if y = 0 then 1 else 0) else if mu 4 5 = y then 0 else if y = 1 then 1 else 0) = 0 := by
        by_cases d : mu 4 3 &&& 2 = 0
        · rw [if_pos d] at b; rw [if_pos d, if_neg a, if_neg b]
        · rw [if_neg d] at b; rw [if_neg d, if_neg a, if_neg b]
      rw [if_pos z]; exact ⟨rfl, h1⟩
theorem rel_l2_4 {mu nu : Mu} (y : Int32) (h : Rel mu nu) : Sim (1, F_Sd4_setSecondLine y mu) (F_Md_line_45 0 2 y nu) := by
  obtain ⟨_, _, ⟨t1, t2⟩, _, l1, l2⟩ := id h.2.2.2.1
  obtain ⟨j, hj, ej⟩ := bB_of t2
  have L := (ln_rows j hj).2
  rw [← ej] at L
  have h1 : Rel (ps mu 4 6 y) (ps nu 20 0 y) := rel_l20 h
  have tb : bB (mu 4 3 ||| 64) := bB_or t2 (by unfold bB; decide)
  have h2 : Rel (ps (ps mu 4 6 y) 4 3 (mu 4 3 ||| 64)) (ps (ps nu 20 0 y) 17 0 (mu 4 3 ||| 64)) := rel_ctl0 h1 tb
  unfold F_Md_line_45 F_Md_line_67 F_Md_line_93 F_Md_line_109 F_Md_line_150
  simp +decide only [↓reduceIte]
  rw [e_c0, ← l2]
  have e17 : (ps nu 20 0 y) 17 0 = mu 4 3 := t1.symm
  rw [e17, ← L]
  unfold F_Sd4_setSecondLine F_Sd4_isSeen F_Sd4_isSeen_14
  by_cases a : mu 4 6 = y
  · rw [if_pos a.symm]
    have z : (if mu 4 3 &&& 16 = 0 then (if mu 4 6 = y then (0 : Int32) else if y = 0 then 1 else 0) else if mu 4 6 = y then 0 else if y = 1 then 1 else 0) = 0 := by
      simp only [a, ↓reduceIte, ite_self]
    rw [if_pos z]; exact ⟨rfl, h1⟩
  · rw [if_neg (show ¬ y = mu 4 6 from fun q => a q.symm)]
    by_cases b : y = (if mu 4 3 &&& 16 = 0 then (0 : Int32) else 1)
    · rw [if_pos b]
      have z : ¬ (if mu 4 3 &&& 16 = 0 then (if mu 4 6 = y then (0 : Int32) else if y = 0 then 1 else 0) else if mu 4 6 = y then 0 else if y = 1 then 1 else 0) = 0 := by
        by_cases d : mu 4 3 &&& 16 = 0
        · rw [if_pos d] at b; rw [if_pos d, if_neg a, if_pos b]; decide
        · rw [if_neg d] at b; rw [if_neg d, if_neg a, if_pos b]; decide
      rw [if_neg z]; exact ⟨rfl, h2⟩
    · rw [if_neg b]
      have z : (if mu 4 3 &&& 16 = 0 then (if mu 4 6 = y then (0 : Int32) else if y = 0 then 1 else 0) else if mu 4 6 = y then 0 else if y = 1 then 1 else 0) = 0 := by
        by_cases d : mu 4 3 &&& 16 = 0
        · rw [if_pos d] at b; rw [if_pos d, if_neg a, if_neg b]
        · rw [if_neg d] at b; rw [if_neg d, if_neg a, if_neg b]
      rw [if_pos z]; exact ⟨rfl, h1⟩
theorem api_line_4 {mu nu : Mu} (x2 y : Int32) (h : Rel mu nu) : Sim (F_Km_line_23a x2 y mu) (if x2 < (1 : Int32) then (0, nu) else (if (2 : Int32) < x2 then (0, nu) else (if x2 = (2 : Int32) then (if ((nu 17 0) &&& 32) = (0 : Int32) then F_Md_line_45 0 x2 y nu else (0, nu)) else F_Md_line_45 0 x2 y nu))) := by
  obtain ⟨_, _, ⟨t1, t2⟩, _⟩ := id h.2.2.2.1
  unfold F_Km_line_23a F_Sd4_secondLineIsOutput
  rw [← t1]
  by_cases a : x2 = 1
  · subst a
    simp +decide only [↓reduceIte]
    exact rel_l1_4 y h
  · by_cases b : x2 = 2
    · subst b
      by_cases d : mu 4 3 &&& 32 = 0
      · simp +decide only [d, ↓reduceIte]
        exact rel_l2_4 y h
      · simp +decide only [d, ↓reduceIte]
        exact ⟨rfl, h⟩
    · rw [if_neg a, if_neg b]
      have q : x2 < 1 ∨ 2 < x2 := by
        rw [i_lt, i_lt]
        have k2 : (2 : Int32).toInt = 2 := by decide
        rw [e1i, k2]
        have n1 : x2.toInt ≠ 1 := fun z => a (i_inj (by rw [z, e1i]))
        have n2 : x2.toInt ≠ 2 := fun z => b (i_inj (by rw [z, k2]))
        omega
      rcases q with q | q
      · rw [if_pos q]; exact ⟨rfl, h⟩
      · rw [if_pos q]
        split <;> exact ⟨rfl, h⟩
theorem rel_l1_5 {mu nu : Mu} (y : Int32) (h : Rel mu nu) : Sim (1, F_Sd5_setFirstLine y mu) (F_Md_line_45 1 1 y nu) := by
  obtain ⟨_, _, ⟨t1, t2⟩, _, l1, l2⟩ := id h.2.2.2.2.1
  obtain ⟨j, hj, ej⟩ := bB_of t2
  have L := (ln_rows j hj).1
  rw [← ej] at L
  have h1 : Rel (ps mu 5 5 y) (ps nu 19 1 y) := rel_l11 h
  have tb : bB (mu 5 3 ||| 128) := bB_or t2 (by unfold bB; decide)
  have h2 : Rel (ps (ps mu 5 5 y) 5 3 (mu 5 3 ||| 128)) (ps (ps nu 19 1 y) 17 1 (mu 5 3 ||| 128)) := rel_ctl1 h1 tb
  obtain ⟨j2, hj2, ej2⟩ := bB_of tb
  have K := (kind_rows j2 hj2).2
  rw [← ej2] at K
  unfold F_Md_line_45 F_Md_line_67 F_Md_line_93 F_Md_line_109 F_Md_line_150
  simp +decide only [↓reduceIte]
  rw [e_c1, ← l1]
  have e17 : (ps nu 19 1 y) 17 1 = mu 5 3 := t1.symm
  rw [e17, ← L]
  unfold F_Sd5_setFirstLine F_Sd5_isSeen F_Sd5_isSeen_14
  by_cases a : mu 5 5 = y
  · rw [if_pos a.symm]
    have z : (if mu 5 3 &&& 2 = 0 then (if mu 5 5 = y then (0 : Int32) else if y = 0 then 1 else 0) else if mu 5 5 = y then 0 else if y = 1 then 1 else 0) = 0 := by
      simp only [a, ↓reduceIte, ite_self]
    rw [if_pos z]; exact ⟨rfl, h1⟩
  · rw [if_neg (show ¬ y = mu 5 5 from fun q => a q.symm)]
    by_cases b : y = (if mu 5 3 &&& 2 = 0 then (0 : Int32) else 1)
    · rw [if_pos b]
      have z : ¬ (if mu 5 3 &&& 2 = 0 then (if mu 5 5 = y then (0 : Int32) else if y = 0 then 1 else 0) else if mu 5 5 = y then 0 else if y = 1 then 1 else 0) = 0 := by
        by_cases d : mu 5 3 &&& 2 = 0
        · rw [if_pos d] at b; rw [if_pos d, if_neg a, if_pos b]; decide
        · rw [if_neg d] at b; rw [if_neg d, if_neg a, if_pos b]; decide
      rw [if_neg z]
      unfold F_Sd5_isKind F_Md_answers
      rw [e_c1]
      show Sim (1, if (if (mu 5 3 ||| 128) &&& 56 = 32 then (1 : Int32) else 0) = 0 then _ else _) (if (if (mu 5 3 ||| 128) &&& 48 = 32 then (1 : Int32) else 0) = 0 then _ else if (mu 5 3 ||| 128) &&& 8 = 0 then _ else _)
      by_cases p : (mu 5 3 ||| 128) &&& 48 = 32
      · by_cases q : (mu 5 3 ||| 128) &&& 8 = 0
        · have k := K.mpr ⟨p, q⟩
          simp +decide only [p, q, k, ↓reduceIte]
          exact ⟨rfl, rel_l21 h2⟩
        · have k : ¬ (mu 5 3 ||| 128) &&& 56 = 32 := fun w => q (K.mp w).2
          simp +decide only [p, q, k, ↓reduceIte]
          exact ⟨rfl, h2⟩
      · have k : ¬ (mu 5 3 ||| 128) &&& 56 = 32 := fun w => p (K.mp w).1
        simp +decide only [p, k, ↓reduceIte]
        exact ⟨rfl, h2⟩
    · rw [if_neg b]
      have z : (if mu 5 3 &&& 2 = 0 then (if mu 5 5 = y then (0 : Int32) else if y = 0 then 1 else 0) else if mu 5 5 = y then 0 else if y = 1 then 1 else 0) = 0 := by
        by_cases d : mu 5 3 &&& 2 = 0
        · rw [if_pos d] at b; rw [if_pos d, if_neg a, if_neg b]
        · rw [if_neg d] at b; rw [if_neg d, if_neg a, if_neg b]
      rw [if_pos z]; exact ⟨rfl, h1⟩
theorem rel_l2_5 {mu nu : Mu} (y : Int32) (h : Rel mu nu) : Sim (1, F_Sd5_setSecondLine y mu) (F_Md_line_45 1 2 y nu) := by
  obtain ⟨_, _, ⟨t1, t2⟩, _, l1, l2⟩ := id h.2.2.2.2.1
  obtain ⟨j, hj, ej⟩ := bB_of t2
  have L := (ln_rows j hj).2
  rw [← ej] at L
  have h1 : Rel (ps mu 5 6 y) (ps nu 20 1 y) := rel_l21 h
  have tb : bB (mu 5 3 ||| 64) := bB_or t2 (by unfold bB; decide)
  have h2 : Rel (ps (ps mu 5 6 y) 5 3 (mu 5 3 ||| 64)) (ps (ps nu 20 1 y) 17 1 (mu 5 3 ||| 64)) := rel_ctl1 h1 tb
  unfold F_Md_line_45 F_Md_line_67 F_Md_line_93 F_Md_line_109 F_Md_line_150
  simp +decide only [↓reduceIte]
  rw [e_c1, ← l2]
  have e17 : (ps nu 20 1 y) 17 1 = mu 5 3 := t1.symm
  rw [e17, ← L]
  unfold F_Sd5_setSecondLine F_Sd5_isSeen F_Sd5_isSeen_14
  by_cases a : mu 5 6 = y
  · rw [if_pos a.symm]
    have z : (if mu 5 3 &&& 16 = 0 then (if mu 5 6 = y then (0 : Int32) else if y = 0 then 1 else 0) else if mu 5 6 = y then 0 else if y = 1 then 1 else 0) = 0 := by
      simp only [a, ↓reduceIte, ite_self]
    rw [if_pos z]; exact ⟨rfl, h1⟩
  · rw [if_neg (show ¬ y = mu 5 6 from fun q => a q.symm)]
    by_cases b : y = (if mu 5 3 &&& 16 = 0 then (0 : Int32) else 1)
    · rw [if_pos b]
      have z : ¬ (if mu 5 3 &&& 16 = 0 then (if mu 5 6 = y then (0 : Int32) else if y = 0 then 1 else 0) else if mu 5 6 = y then 0 else if y = 1 then 1 else 0) = 0 := by
        by_cases d : mu 5 3 &&& 16 = 0
        · rw [if_pos d] at b; rw [if_pos d, if_neg a, if_pos b]; decide
        · rw [if_neg d] at b; rw [if_neg d, if_neg a, if_pos b]; decide
      rw [if_neg z]; exact ⟨rfl, h2⟩
    · rw [if_neg b]
      have z : (if mu 5 3 &&& 16 = 0 then (if mu 5 6 = y then (0 : Int32) else if y = 0 then 1 else 0) else if mu 5 6 = y then 0 else if y = 1 then 1 else 0) = 0 := by
        by_cases d : mu 5 3 &&& 16 = 0
        · rw [if_pos d] at b; rw [if_pos d, if_neg a, if_neg b]
        · rw [if_neg d] at b; rw [if_neg d, if_neg a, if_neg b]
      rw [if_pos z]; exact ⟨rfl, h1⟩
theorem api_line_5 {mu nu : Mu} (x2 y : Int32) (h : Rel mu nu) : Sim (F_Km_line_23b x2 y mu) (if x2 < (1 : Int32) then (0, nu) else (if (2 : Int32) < x2 then (0, nu) else (if x2 = (2 : Int32) then (if ((nu 17 1) &&& 32) = (0 : Int32) then F_Md_line_45 1 x2 y nu else (0, nu)) else F_Md_line_45 1 x2 y nu))) := by
  obtain ⟨_, _, ⟨t1, t2⟩, _⟩ := id h.2.2.2.2.1
  unfold F_Km_line_23b F_Sd5_secondLineIsOutput
  rw [← t1]
  by_cases a : x2 = 1
  · subst a
    simp +decide only [↓reduceIte]
    exact rel_l1_5 y h
  · by_cases b : x2 = 2
    · subst b
      by_cases d : mu 5 3 &&& 32 = 0
      · simp +decide only [d, ↓reduceIte]
        exact rel_l2_5 y h
      · simp +decide only [d, ↓reduceIte]
        exact ⟨rfl, h⟩
    · rw [if_neg a, if_neg b]
      have q : x2 < 1 ∨ 2 < x2 := by
        rw [i_lt, i_lt]
        have k2 : (2 : Int32).toInt = 2 := by decide
        rw [e1i, k2]
        have n1 : x2.toInt ≠ 1 := fun z => a (i_inj (by rw [z, e1i]))
        have n2 : x2.toInt ≠ 2 := fun z => b (i_inj (by rw [z, k2]))
        omega
      rcases q with q | q
      · rw [if_pos q]; exact ⟨rfl, h⟩
      · rw [if_pos q]
        split <;> exact ⟨rfl, h⟩
theorem api_line {mu nu : Mu} (x1 x2 x3 : Int32) (h : Rel mu nu) : Sim (F_Km_line x1 x2 x3 mu) (F_Md_line x1 x2 x3 nu) := by
  unfold F_Km_line F_Md_line F_Md_line_36 F_Md_isSide
  by_cases a : x1 = 0
  · subst a
    simp +decide only [↓reduceIte]
    rw [e_c0]
    by_cases z : x3 = 0
    · simp only [z, ↓reduceIte]; exact api_line_4 x2 0 h
    · simp only [z, ↓reduceIte]; exact api_line_4 x2 1 h
  · by_cases b : x1 = 1
    · subst b
      simp +decide only [↓reduceIte]
      rw [e_c1]
      by_cases z : x3 = 0
      · simp only [z, ↓reduceIte]; exact api_line_5 x2 0 h
      · simp only [z, ↓reduceIte]; exact api_line_5 x2 1 h
    · simp +decide only [a, b, ↓reduceIte]
      exact ⟨rfl, h⟩
