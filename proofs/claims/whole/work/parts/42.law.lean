/-! THE CLAIM OUT OF ONE WALK OF THE LAW'S BODY. Your part is whole_start (and what it stands on); all else here is the same for every law, but numbers. -/
def R_law : String := "KitMachineLaw"
def lw_P (b : Addr) (xs : List Int32) (args : Array Value) (s : State) : Prop := args = #[.ref b] ∧ s.IntsAt b xs ∧ xs.length ≤ 2048 ∧ (Jvm.Cond.and given_1 narrow_1).before args s = true
def lw_Q (_ : Array Value) (s : State) (o : Outcome) (t : State) : Prop := o = .returned (some (.int 1)) ∧ Framed s o t [] 23 4831
def lw_Z (below : List Frame) (a : Array Value) (s : State) : State → Prop := fun t => ∃ o, t.status = .running ∧ Ended t below o ∧ lw_Q a s o t
/-- the law's own end, with 1 on the stack, nothing written that was there before, its room as the claim has it -/
theorem lw_ret {p : Program} {l : Launch} {e : Env} {s : State} {m : MethodId} {below : List Frame} {meth : Method} {c : Code} {b : Nat} (hx : p.tables.exec = Jvm.exec) (hb : c.code = code) (hr : meth.sig.returnType = ret) (hlocks : meth.locks = false) {pc : Nat} {H : Heap} {ls : Array Slot} (hdg : decode code pc = .ok (.ireturn, 1)) : W p l e room_1 s m #[Value.ref b] below meth c H [] 23 4831 (lw_Z below #[Value.ref b] s) (F0 m pc ls [.int 1]) := by
  intro T hT X
  obtain ⟨fs, hret, hrun, hended, hW, hframe⟩ := X.leave (v := some (.int 1)) (hlocks := hlocks) (fun h => by rw [hr] at h; cases h)
  have hmeth' : T.vm.method? m = some meth := X.method'
  refine ⟨T.setFrames fs, ?_, .returned (some (.int 1)), hrun, hended, rfl, ⟨_, rfl⟩, hW, hframe⟩
  jvm_step X.here [X.here.top, hx, hb, hdg, hmeth', hr, ret, narrow_b1]
  (try refine ⟨rfl, ?_⟩); (try refine ⟨rfl, ?_⟩)
  first | (intro acts; rw [hret _ acts rfl rfl rfl]) | rw [hret _ _ rfl rfl rfl]
  exact Steps.refl _
/-- what holds at the law's entry: the machine, the code, the tables' words (any of lw_tbl by 'hts w (by decide +kernel)'), the script of L ints xs at the cell b, what the Statement gives of the start (any of its parts by flat_of_before) -/
def lw_At (p : Program) (s : State) (m : MethodId) (meth : Method) (c : Code) (b L : Nat) (xs : Nat → Int32) : Prop :=
  p.tables.exec = Jvm.exec ∧ c.code = code ∧ meth.sig.returnType = ret ∧ c.maxLocals = 4 ∧ s.vm.findClass R_law = some m.cls ∧ (∀ w ∈ lw_tbl, w.before #[Value.ref b] s = true) ∧ va_X b L xs s s.heap ∧ b < s.heap.size ∧ meth.locks = false ∧ (Jvm.Cond.and given_1 narrow_1).before #[Value.ref b] s = true
section
variable {p : Program} {l : Launch} {e : Env} {R : Room} {s : State} {m : MethodId} {args : Array Value} {below : List Frame} {meth : Method} {c : Code} {H : Heap} {locs : List Loc} {Q : State → Prop} {cells slots : Nat}
variable {cc : ByteArray} {pc nL : Nat} {ls : Array Slot} {rest : List Value} {ret : Option FieldType} {Ts : List Cond} {own : String} {A : Nat → Prop} {D : va_G} {cA : Nat → ClassId} {tb : Nat} {ad : Nat → Nat} {mu nu : Mu}
theorem lcI {v : Int32} {k ci : Nat} {q : vw_C} {n index maxL : Nat} {bytes : ByteArray} {ret1 : Option FieldType} {y : MethodName} {ws : List Cond} {rm : Room} {mu1 nu1 : Mu} {As st : List Value} (C : Cx cc nL ret Ts own A D cA tb p s m args meth c) (w : Wd A D cA ad s mu nu H locs) (hc : vwCl[ci]? = some q) {fs : List Value} (he : (wAll cA ad mu nu)[k]? = some (ad k, .inr (ci, fs))) (hM : Met l y ws rm (va_Pc (.ref (ad k) :: As) (Pw A D cA tb ad mu nu)) (va_Qi (fun (r : Int32) (u : Mu × Mu) => r = v ∧ u = (mu1, nu1)) (Bw A D cA ad) A) 0 0 A) (cw : CallW R s args own q.1 index y bytes maxL ret1 ws rm 0 0 n) (hn : As.length = n) (hst : st = As.reverse ++ .ref (ad k) :: rest) (hsz : ls.size = nL) (hroom : (rest.map fun v => v.category).sum ≤ 8) (hf : cells ≤ R.cells ∧ slots ≤ R.slots) (hdg : decode cc pc = .ok (.invokevirtual index, 3))
    (kk : ∀ (H1 : Heap) (locs1 : List Loc), Wd A D cA ad s mu1 nu1 H1 locs1 → W p l e R s m args below meth c H1 locs1 cells slots Q (F0 m (pc + 3) ls (.int v :: rest))) : W p l e R s m args below meth c H locs cells slots Q (F0 m pc ls st) := by
  refine va_calli (va_runV (As := As) (rest := rest) ⟨C.1, C.2.1, C.2.2.2.1, C.2.2.2.2.1, C.2.2.2.2.2.1⟩ hM cw ⟨Pw.blind _, va_recv C.2.2.2.2.2.2.2.1 w.1 hc he, fun U hU hW => ⟨rfl, C.pw w hU hW⟩⟩ rfl hn hsz hst (lv_room hroom) hdg ⟨hf.1, hf.2⟩) w.2.2 (fun q _ h => h) (fun q h => h) (fun r u t H1 locs1 ht hvm hw hB hz hk hS => ?_)
  obtain ⟨rfl, rfl⟩ := hw
  exact kk H1 locs1 ⟨by rw [← ht]; exact hB.1, hB.2.2, hS⟩
theorem lcV {k ci : Nat} {q : vw_C} {n index maxL : Nat} {bytes : ByteArray} {ret1 : Option FieldType} {y : MethodName} {ws : List Cond} {rm : Room} {mu1 nu1 : Mu} {As st : List Value} (C : Cx cc nL ret Ts own A D cA tb p s m args meth c) (w : Wd A D cA ad s mu nu H locs) (hc : vwCl[ci]? = some q) {fs : List Value} (he : (wAll cA ad mu nu)[k]? = some (ad k, .inr (ci, fs))) (hM : Met l y ws rm (va_Pc (.ref (ad k) :: As) (Pw A D cA tb ad mu nu)) (va_Qv (fun (u : Mu × Mu) => u = (mu1, nu1)) (Bw A D cA ad) A) 0 0 A) (cw : CallW R s args own q.1 index y bytes maxL ret1 ws rm 0 0 n) (hn : As.length = n) (hst : st = As.reverse ++ .ref (ad k) :: rest) (hsz : ls.size = nL) (hroom : (rest.map fun v => v.category).sum ≤ 8) (hf : cells ≤ R.cells ∧ slots ≤ R.slots) (hdg : decode cc pc = .ok (.invokevirtual index, 3))
    (kk : ∀ (H1 : Heap) (locs1 : List Loc), Wd A D cA ad s mu1 nu1 H1 locs1 → W p l e R s m args below meth c H1 locs1 cells slots Q (F0 m (pc + 3) ls (rest))) : W p l e R s m args below meth c H locs cells slots Q (F0 m pc ls st) := by
  refine va_callv (va_runV (As := As) (rest := rest) ⟨C.1, C.2.1, C.2.2.2.1, C.2.2.2.2.1, C.2.2.2.2.2.1⟩ hM cw ⟨Pw.blind _, va_recv C.2.2.2.2.2.2.2.1 w.1 hc he, fun U hU hW => ⟨rfl, C.pw w hU hW⟩⟩ rfl hn hsz hst (lv_room hroom) hdg ⟨hf.1, hf.2⟩) w.2.2 (fun q _ h => h) (fun q h => h) (fun u t H1 locs1 ht hvm hw hB hz hk hS => ?_)
  subst hw
  exact kk H1 locs1 ⟨by rw [← ht]; exact hB.1, hB.2.2, hS⟩
end
theorem law_arith {L k : Nat} (hL : L ≤ 2048) (hk : 4 * k ≤ L) : (¬ (Int32.ofNat L - 4) < nI (4 * k)) → 4 * k + 4 ≤ L := by
  intro h
  have e4 : (4 : Int32).toInt = 4 := by decide
  have eL : (Int32.ofNat L).toInt = (L : Int) := nI_toInt (n := L) (by omega)
  have ek := nI_toInt (n := 4 * k) (by omega)
  rw [i_lt, i_sub (by omega) (by omega), eL, e4, ek] at h
  omega
set_option maxHeartbeats 8000000 in
set_option maxRecDepth 100000 in
/-- THE LAW'S LOOP: class and reference stay in the relation -/
theorem law_loop {p : Program} {l : Launch} {e : Env} {s : State} {m : MethodId} {below : List Frame} {meth : Method} {c : Code} {D : va_G} {cA : Nat → ClassId} {tb : Nat} {ad : Nat → Nat} {b L : Nat} {xs : Nat → Int32} (hL : L ≤ 2048) (C : Cx code 4 ret wsL_law RL (fun q : Nat => s.heap.size ≤ q) D cA tb p s m #[Value.ref b] meth c) (hX : va_X b L xs s s.heap) (hbl : b < s.heap.size) :
    ∀ (n k : Nat) (x3 : Int32), 4 * k ≤ L → L + 1 ≤ 4 * k + n → x3 = nI (4 * k) → ∀ (mu nu : Mu) (H : Heap) (locs : List Loc), Rel mu nu → Wd (fun q : Nat => s.heap.size ≤ q) D cA ad s mu nu H locs → ∀ (ls : Array Slot), lv_has ls 4 [(0, .ref b), (1, .ref (ad 0)), (2, .ref (ad 12)), (3, .int x3)] → W p l e room_1 s m #[Value.ref b] below meth c H locs 23 4831 (lw_Z below #[Value.ref b] s) (F0 m 18 ls []) := by
  have hx := C.1
  have hb := C.2.1
  have hts := C.2.2.2.2.2.1
  have hbA : ¬ (fun q : Nat => s.heap.size ≤ q) b := Nat.not_le.mpr hbl
  intro n
  induction n with
  | zero =>
    intro k x3 h1 h2
    exact absurd h2 (by omega)
  | succ n ih =>
    intro k x3 hk hn ex3 mu nu H locs hR w ls hl
    refine lv_iload_n hx hb dL_law_18 rfl (lv_at hl 3 rfl) ?_
    refine lv_aload_n hx hb dL_law_19 rfl (lv_at hl 0 rfl) ?_
    refine va_slen hx hb hX hbl hbA w.2.2 dL_law_20 ?_
    refine lv_iconst (v := 4) hx hb dL_law_21 (by decide) ?_
    refine lv_isub hx hb dL_law_22 ?_
    refine lv_icmp_gt (tgt := 422) hx hb dL_law_23 (by decide) (fun c_1 => ?_) (fun c_1 => ?_)
    · refine lv_iconst (v := 1) hx hb dL_law_422 (by decide) ?_
      refine va_forget (fun q hq => w.2.2.2.2 q hq) ?_
      refine W.widen (k := 23) (n := 4831) (Nat.le_refl 23) (Nat.le_refl 4831) ?_
      exact lw_ret hx hb C.2.2.1 C.2.2.2.2.2.2.1 dL_law_423
    · have hlt : 4 * k + 4 ≤ L := law_arith hL hk (by rw [← ex3]; exact c_1)
      have h_0 : vp_in x3 L := by rw [ex3]; exact vp_in_nI (by omega) (by omega)
      have h_1 : vp_in (x3 + 1) L := by rw [ex3, show nI (4 * k) + 1 = nI (4 * k + 1) from nI_add _ 1]; exact vp_in_nI (by omega) (by omega)
      have h_2 : vp_in (x3 + 2) L := by rw [ex3, show nI (4 * k) + 2 = nI (4 * k + 2) from nI_add _ 2]; exact vp_in_nI (by omega) (by omega)
      have h_3 : vp_in (x3 + 3) L := by rw [ex3, show nI (4 * k) + 3 = nI (4 * k + 3) from nI_add _ 3]; exact vp_in_nI (by omega) (by omega)
      have tail : ∀ (mu nu : Mu) (H : Heap) (locs : List Loc), Rel mu nu → Wd (fun q : Nat => s.heap.size ≤ q) D cA ad s mu nu H locs → W p l e room_1 s m #[Value.ref b] below meth c H locs 23 4831 (lw_Z below #[Value.ref b] s) (F0 m 416 ls []) := by
        intro mu nu H locs hR w
        refine lv_iinc (v := x3 + 4) (lv' := [(3, .int (x3 + 4)), (0, .ref b), (1, .ref (ad 0)), (2, .ref (ad 12))]) hx hb dL_law_416 hl (k := 3) rfl rfl (by decide) rfl (fun ls hl => ?_)
        refine lv_goto (tgt := 18) hx hb dL_law_419 (by decide) ?_
        exact ih (k + 1) (x3 + 4) (by omega) (by omega) (by rw [ex3, show nI (4 * k) + 4 = nI (4 * k + 4) from nI_add _ 4]; rfl) mu nu H locs hR w ls (lv_sub hl [1, 2, 3, 0] rfl)
      refine lv_aload_n hx hb dL_law_26 rfl (lv_at hl 0 rfl) ?_
      refine lv_iload_n hx hb dL_law_27 rfl (lv_at hl 3 rfl) ?_
      refine va_sld hx hb hX hbl hbA w.2.2 h_0 dL_law_28 ?_
      refine lv_bipush (v := 15) hx hb dL_law_29 (by decide) ?_
      refine lv_iand hx hb dL_law_31 ?_
      generalize xs x3.toNatClampNeg &&& 15 = sw
      by_cases s_0 : sw = 0
      · refine lv_tableIn (off := 64) (tgt := 96) hx hb dL_law_32 (by rw [s_0]; decide) (by rw [s_0]; decide) (by rw [s_0]; decide) (by decide) ?_
        refine lv_aload_n hx hb dL_law_96 rfl (lv_at hl 1 rfl) ?_
        refine lv_aload_n hx hb dL_law_97 rfl (lv_at hl 0 rfl) ?_
        refine lv_iload_n hx hb dL_law_98 rfl (lv_at hl 3 rfl) ?_
        refine lv_iconst (v := 1) hx hb dL_law_99 (by decide) ?_
        refine lv_iadd hx hb dL_law_100 ?_
        refine va_sld hx hb hX hbl hbA w.2.2 h_1 dL_law_101 ?_
        refine lv_aload_n hx hb dL_law_102 rfl (lv_at hl 0 rfl) ?_
        refine lv_iload_n hx hb dL_law_103 rfl (lv_at hl 3 rfl) ?_
        refine lv_iconst (v := 2) hx hb dL_law_104 (by decide) ?_
        refine lv_iadd hx hb dL_law_105 ?_
        refine va_sld hx hb hX hbl hbA w.2.2 h_2 dL_law_106 ?_
        refine lcI (k := 0) (ci := 6) (As := [.int (xs (x3 + 1).toNatClampNeg), .int (xs (x3 + 2).toNatClampNeg)]) (rest := []) C w rfl rfl (c_Km_put l _ D cA tb ad mu nu (xs (x3 + 1).toNatClampNeg) (xs (x3 + 2).toNatClampNeg)) (cwV 2 hts gL_law_X6_put rfl rfl rfl (by decide +kernel) ⟨Nat.le_of_ble_eq_true rfl, Nat.le_of_ble_eq_true rfl⟩) rfl rfl hl.1 (Nat.le_of_ble_eq_true rfl) ⟨Nat.le_of_ble_eq_true rfl, Nat.le_of_ble_eq_true rfl⟩ dL_law_107 (fun H locs w => ?_)
        refine lv_aload_n hx hb dL_law_110 rfl (lv_at hl 2 rfl) ?_
        refine lv_aload_n hx hb dL_law_111 rfl (lv_at hl 0 rfl) ?_
        refine lv_iload_n hx hb dL_law_112 rfl (lv_at hl 3 rfl) ?_
        refine lv_iconst (v := 1) hx hb dL_law_113 (by decide) ?_
        refine lv_iadd hx hb dL_law_114 ?_
        refine va_sld hx hb hX hbl hbA w.2.2 h_1 dL_law_115 ?_
        refine lv_aload_n hx hb dL_law_116 rfl (lv_at hl 0 rfl) ?_
        refine lv_iload_n hx hb dL_law_117 rfl (lv_at hl 3 rfl) ?_
        refine lv_iconst (v := 2) hx hb dL_law_118 (by decide) ?_
        refine lv_iadd hx hb dL_law_119 ?_
        refine va_sld hx hb hX hbl hbA w.2.2 h_2 dL_law_120 ?_
        refine lcI (k := 12) (ci := 7) (As := [.int (xs (x3 + 1).toNatClampNeg), .int (xs (x3 + 2).toNatClampNeg)]) (rest := [.int ((F_Km_put (xs (x3 + 1).toNatClampNeg) (xs (x3 + 2).toNatClampNeg) mu).1)]) C w rfl rfl (c_Md_put l _ D cA tb ad nu (F_Km_put (xs (x3 + 1).toNatClampNeg) (xs (x3 + 2).toNatClampNeg) mu).2 (xs (x3 + 1).toNatClampNeg) (xs (x3 + 2).toNatClampNeg)) (cwV 2 hts gL_law_X7_put rfl rfl rfl (by decide +kernel) ⟨Nat.le_of_ble_eq_true rfl, Nat.le_of_ble_eq_true rfl⟩) rfl rfl hl.1 (Nat.le_of_ble_eq_true rfl) ⟨Nat.le_of_ble_eq_true rfl, Nat.le_of_ble_eq_true rfl⟩ dL_law_121 (fun H locs w => ?_)
        refine lv_icmp_eq (tgt := 416) hx hb dL_law_124 (by decide) (fun _ => ?_) (fun q => absurd (api_put (xs (x3 + 1).toNatClampNeg) (xs (x3 + 2).toNatClampNeg) hR).1 q)
        exact tail _ _ _ _ (api_put (xs (x3 + 1).toNatClampNeg) (xs (x3 + 2).toNatClampNeg) hR).2 w
      · skip
        by_cases s_1 : sw = 1
        · refine lv_tableIn (off := 97) (tgt := 129) hx hb dL_law_32 (by rw [s_1]; decide) (by rw [s_1]; decide) (by rw [s_1]; decide) (by decide) ?_
          refine lv_aload_n hx hb dL_law_129 rfl (lv_at hl 1 rfl) ?_
          refine lv_aload_n hx hb dL_law_130 rfl (lv_at hl 0 rfl) ?_
          refine lv_iload_n hx hb dL_law_131 rfl (lv_at hl 3 rfl) ?_
          refine lv_iconst (v := 1) hx hb dL_law_132 (by decide) ?_
          refine lv_iadd hx hb dL_law_133 ?_
          refine va_sld hx hb hX hbl hbA w.2.2 h_1 dL_law_134 ?_
          refine lcI (k := 0) (ci := 6) (As := [.int (xs (x3 + 1).toNatClampNeg)]) (rest := []) C w rfl rfl (c_Km_peek l _ D cA tb ad mu nu (xs (x3 + 1).toNatClampNeg)) (cwV 1 hts gL_law_X6_peek rfl rfl rfl (by decide +kernel) ⟨Nat.le_of_ble_eq_true rfl, Nat.le_of_ble_eq_true rfl⟩) rfl rfl hl.1 (Nat.le_of_ble_eq_true rfl) ⟨Nat.le_of_ble_eq_true rfl, Nat.le_of_ble_eq_true rfl⟩ dL_law_135 (fun H locs w => ?_)
          refine lv_aload_n hx hb dL_law_138 rfl (lv_at hl 2 rfl) ?_
          refine lv_aload_n hx hb dL_law_139 rfl (lv_at hl 0 rfl) ?_
          refine lv_iload_n hx hb dL_law_140 rfl (lv_at hl 3 rfl) ?_
          refine lv_iconst (v := 1) hx hb dL_law_141 (by decide) ?_
          refine lv_iadd hx hb dL_law_142 ?_
          refine va_sld hx hb hX hbl hbA w.2.2 h_1 dL_law_143 ?_
          refine lcI (k := 12) (ci := 7) (As := [.int (xs (x3 + 1).toNatClampNeg)]) (rest := [.int ((F_Km_peek (xs (x3 + 1).toNatClampNeg) mu).1)]) C w rfl rfl (c_Md_peek l _ D cA tb ad nu (F_Km_peek (xs (x3 + 1).toNatClampNeg) mu).2 (xs (x3 + 1).toNatClampNeg)) (cwV 1 hts gL_law_X7_peek rfl rfl rfl (by decide +kernel) ⟨Nat.le_of_ble_eq_true rfl, Nat.le_of_ble_eq_true rfl⟩) rfl rfl hl.1 (Nat.le_of_ble_eq_true rfl) ⟨Nat.le_of_ble_eq_true rfl, Nat.le_of_ble_eq_true rfl⟩ dL_law_144 (fun H locs w => ?_)
          refine lv_icmp_eq (tgt := 416) hx hb dL_law_147 (by decide) (fun _ => ?_) (fun q => absurd (api_peek (xs (x3 + 1).toNatClampNeg) hR).1 q)
          exact tail _ _ _ _ (api_peek (xs (x3 + 1).toNatClampNeg) hR).2 w
        · skip
          by_cases s_2 : sw = 2
          · refine lv_tableIn (off := 120) (tgt := 152) hx hb dL_law_32 (by rw [s_2]; decide) (by rw [s_2]; decide) (by rw [s_2]; decide) (by decide) ?_
            refine lv_aload_n hx hb dL_law_152 rfl (lv_at hl 1 rfl) ?_
            refine lcV (k := 0) (ci := 6) (As := []) (rest := []) C w rfl rfl (c_Km_reset l _ D cA tb ad mu nu) (cwV 0 hts gL_law_X6_reset rfl rfl rfl (by decide +kernel) ⟨Nat.le_of_ble_eq_true rfl, Nat.le_of_ble_eq_true rfl⟩) rfl rfl hl.1 (Nat.le_of_ble_eq_true rfl) ⟨Nat.le_of_ble_eq_true rfl, Nat.le_of_ble_eq_true rfl⟩ dL_law_153 (fun H locs w => ?_)
            refine lv_aload_n hx hb dL_law_156 rfl (lv_at hl 2 rfl) ?_
            refine lcV (k := 12) (ci := 7) (As := []) (rest := []) C w rfl rfl (c_Md_reset l _ D cA tb ad nu (F_Km_reset mu)) (cwV 0 hts gL_law_X7_reset rfl rfl rfl (by decide +kernel) ⟨Nat.le_of_ble_eq_true rfl, Nat.le_of_ble_eq_true rfl⟩) rfl rfl hl.1 (Nat.le_of_ble_eq_true rfl) ⟨Nat.le_of_ble_eq_true rfl, Nat.le_of_ble_eq_true rfl⟩ dL_law_157 (fun H locs w => ?_)
            refine lv_goto (tgt := 416) hx hb dL_law_160 (by decide) ?_
            exact tail _ _ _ _ (api_reset hR) w
          · skip
            by_cases s_3 : sw = 3
            · refine lv_tableIn (off := 131) (tgt := 163) hx hb dL_law_32 (by rw [s_3]; decide) (by rw [s_3]; decide) (by rw [s_3]; decide) (by decide) ?_
              refine lv_aload_n hx hb dL_law_163 rfl (lv_at hl 1 rfl) ?_
              refine lv_aload_n hx hb dL_law_164 rfl (lv_at hl 0 rfl) ?_
              refine lv_iload_n hx hb dL_law_165 rfl (lv_at hl 3 rfl) ?_
              refine lv_iconst (v := 1) hx hb dL_law_166 (by decide) ?_
              refine lv_iadd hx hb dL_law_167 ?_
              refine va_sld hx hb hX hbl hbA w.2.2 h_1 dL_law_168 ?_
              refine lcI (k := 0) (ci := 6) (As := [.int (xs (x3 + 1).toNatClampNeg)]) (rest := []) C w rfl rfl (c_Km_run l _ D cA tb ad mu nu (xs (x3 + 1).toNatClampNeg) (fun j => (rel_itr j hR).jc)) (cwV 1 hts gL_law_X6_run rfl rfl rfl (by decide +kernel) ⟨Nat.le_of_ble_eq_true rfl, Nat.le_of_ble_eq_true rfl⟩) rfl rfl hl.1 (Nat.le_of_ble_eq_true rfl) ⟨Nat.le_of_ble_eq_true rfl, Nat.le_of_ble_eq_true rfl⟩ dL_law_169 (fun H locs w => ?_)
              refine lv_aload_n hx hb dL_law_172 rfl (lv_at hl 2 rfl) ?_
              refine lv_aload_n hx hb dL_law_173 rfl (lv_at hl 0 rfl) ?_
              refine lv_iload_n hx hb dL_law_174 rfl (lv_at hl 3 rfl) ?_
              refine lv_iconst (v := 1) hx hb dL_law_175 (by decide) ?_
              refine lv_iadd hx hb dL_law_176 ?_
              refine va_sld hx hb hX hbl hbA w.2.2 h_1 dL_law_177 ?_
              refine lcI (k := 12) (ci := 7) (As := [.int (xs (x3 + 1).toNatClampNeg)]) (rest := [.int ((F_Km_run (xs (x3 + 1).toNatClampNeg) mu).1)]) C w rfl rfl (c_Md_run l _ D cA tb ad nu (F_Km_run (xs (x3 + 1).toNatClampNeg) mu).2 (xs (x3 + 1).toNatClampNeg) (fun j => (rel_itr j hR).jm)) (cwV 1 hts gL_law_X7_run rfl rfl rfl (by decide +kernel) ⟨Nat.le_of_ble_eq_true rfl, Nat.le_of_ble_eq_true rfl⟩) rfl rfl hl.1 (Nat.le_of_ble_eq_true rfl) ⟨Nat.le_of_ble_eq_true rfl, Nat.le_of_ble_eq_true rfl⟩ dL_law_178 (fun H locs w => ?_)
              refine lv_icmp_eq (tgt := 416) hx hb dL_law_181 (by decide) (fun _ => ?_) (fun q => absurd (api_run (xs (x3 + 1).toNatClampNeg) hR).1 q)
              exact tail _ _ _ _ (api_run (xs (x3 + 1).toNatClampNeg) hR).2 w
            · skip
              by_cases s_4 : sw = 4
              · refine lv_tableIn (off := 154) (tgt := 186) hx hb dL_law_32 (by rw [s_4]; decide) (by rw [s_4]; decide) (by rw [s_4]; decide) (by decide) ?_
                refine lv_aload_n hx hb dL_law_186 rfl (lv_at hl 1 rfl) ?_
                refine lv_aload_n hx hb dL_law_187 rfl (lv_at hl 0 rfl) ?_
                refine lv_iload_n hx hb dL_law_188 rfl (lv_at hl 3 rfl) ?_
                refine lv_iconst (v := 1) hx hb dL_law_189 (by decide) ?_
                refine lv_iadd hx hb dL_law_190 ?_
                refine va_sld hx hb hX hbl hbA w.2.2 h_1 dL_law_191 ?_
                refine lcI (k := 0) (ci := 6) (As := [.int (xs (x3 + 1).toNatClampNeg)]) (rest := []) C w rfl rfl (c_Km_register l _ D cA tb ad mu nu (xs (x3 + 1).toNatClampNeg)) (cwV 1 hts gL_law_X6_register rfl rfl rfl (by decide +kernel) ⟨Nat.le_of_ble_eq_true rfl, Nat.le_of_ble_eq_true rfl⟩) rfl rfl hl.1 (Nat.le_of_ble_eq_true rfl) ⟨Nat.le_of_ble_eq_true rfl, Nat.le_of_ble_eq_true rfl⟩ dL_law_192 (fun H locs w => ?_)
                refine lv_aload_n hx hb dL_law_195 rfl (lv_at hl 2 rfl) ?_
                refine lv_aload_n hx hb dL_law_196 rfl (lv_at hl 0 rfl) ?_
                refine lv_iload_n hx hb dL_law_197 rfl (lv_at hl 3 rfl) ?_
                refine lv_iconst (v := 1) hx hb dL_law_198 (by decide) ?_
                refine lv_iadd hx hb dL_law_199 ?_
                refine va_sld hx hb hX hbl hbA w.2.2 h_1 dL_law_200 ?_
                refine lcI (k := 12) (ci := 7) (As := [.int (xs (x3 + 1).toNatClampNeg)]) (rest := [.int (F_Km_register (xs (x3 + 1).toNatClampNeg) mu)]) C w rfl rfl (c_Md_register l _ D cA tb ad nu mu (xs (x3 + 1).toNatClampNeg)) (cwV 1 hts gL_law_X7_register rfl rfl rfl (by decide +kernel) ⟨Nat.le_of_ble_eq_true rfl, Nat.le_of_ble_eq_true rfl⟩) rfl rfl hl.1 (Nat.le_of_ble_eq_true rfl) ⟨Nat.le_of_ble_eq_true rfl, Nat.le_of_ble_eq_true rfl⟩ dL_law_201 (fun H locs w => ?_)
                refine lv_icmp_eq (tgt := 416) hx hb dL_law_204 (by decide) (fun _ => ?_) (fun q => absurd (api_register (xs (x3 + 1).toNatClampNeg) hR) q)
                exact tail _ _ _ _ hR w
              · skip
                by_cases s_5 : sw = 5
                · refine lv_tableIn (off := 177) (tgt := 209) hx hb dL_law_32 (by rw [s_5]; decide) (by rw [s_5]; decide) (by rw [s_5]; decide) (by decide) ?_
                  refine lv_aload_n hx hb dL_law_209 rfl (lv_at hl 1 rfl) ?_
                  refine lv_aload_n hx hb dL_law_210 rfl (lv_at hl 0 rfl) ?_
                  refine lv_iload_n hx hb dL_law_211 rfl (lv_at hl 3 rfl) ?_
                  refine lv_iconst (v := 1) hx hb dL_law_212 (by decide) ?_
                  refine lv_iadd hx hb dL_law_213 ?_
                  refine va_sld hx hb hX hbl hbA w.2.2 h_1 dL_law_214 ?_
                  refine lcI (k := 0) (ci := 6) (As := [.int (xs (x3 + 1).toNatClampNeg)]) (rest := []) C w rfl rfl (c_Km_receive l _ D cA tb ad mu nu (xs (x3 + 1).toNatClampNeg) hR.jc) (cwV 1 hts gL_law_X6_receive rfl rfl rfl (by decide +kernel) ⟨Nat.le_of_ble_eq_true rfl, Nat.le_of_ble_eq_true rfl⟩) rfl rfl hl.1 (Nat.le_of_ble_eq_true rfl) ⟨Nat.le_of_ble_eq_true rfl, Nat.le_of_ble_eq_true rfl⟩ dL_law_215 (fun H locs w => ?_)
                  refine lv_aload_n hx hb dL_law_218 rfl (lv_at hl 2 rfl) ?_
                  refine lv_aload_n hx hb dL_law_219 rfl (lv_at hl 0 rfl) ?_
                  refine lv_iload_n hx hb dL_law_220 rfl (lv_at hl 3 rfl) ?_
                  refine lv_iconst (v := 1) hx hb dL_law_221 (by decide) ?_
                  refine lv_iadd hx hb dL_law_222 ?_
                  refine va_sld hx hb hX hbl hbA w.2.2 h_1 dL_law_223 ?_
                  refine lcI (k := 12) (ci := 7) (As := [.int (xs (x3 + 1).toNatClampNeg)]) (rest := [.int ((F_Km_receive (xs (x3 + 1).toNatClampNeg) mu).1)]) C w rfl rfl (c_Md_receive l _ D cA tb ad nu (F_Km_receive (xs (x3 + 1).toNatClampNeg) mu).2 (xs (x3 + 1).toNatClampNeg) hR.jm) (cwV 1 hts gL_law_X7_receive rfl rfl rfl (by decide +kernel) ⟨Nat.le_of_ble_eq_true rfl, Nat.le_of_ble_eq_true rfl⟩) rfl rfl hl.1 (Nat.le_of_ble_eq_true rfl) ⟨Nat.le_of_ble_eq_true rfl, Nat.le_of_ble_eq_true rfl⟩ dL_law_224 (fun H locs w => ?_)
                  refine lv_icmp_eq (tgt := 416) hx hb dL_law_227 (by decide) (fun _ => ?_) (fun q => absurd (api_receive (xs (x3 + 1).toNatClampNeg) hR).1 q)
                  exact tail _ _ _ _ (api_receive (xs (x3 + 1).toNatClampNeg) hR).2 w
                · skip
                  by_cases s_6 : sw = 6
                  · refine lv_tableIn (off := 200) (tgt := 232) hx hb dL_law_32 (by rw [s_6]; decide) (by rw [s_6]; decide) (by rw [s_6]; decide) (by decide) ?_
                    refine lv_aload_n hx hb dL_law_232 rfl (lv_at hl 1 rfl) ?_
                    refine lcI (k := 0) (ci := 6) (As := []) (rest := []) C w rfl rfl (c_Km_sent l _ D cA tb ad mu nu) (cwV 0 hts gL_law_X6_sent rfl rfl rfl (by decide +kernel) ⟨Nat.le_of_ble_eq_true rfl, Nat.le_of_ble_eq_true rfl⟩) rfl rfl hl.1 (Nat.le_of_ble_eq_true rfl) ⟨Nat.le_of_ble_eq_true rfl, Nat.le_of_ble_eq_true rfl⟩ dL_law_233 (fun H locs w => ?_)
                    refine lv_aload_n hx hb dL_law_236 rfl (lv_at hl 2 rfl) ?_
                    refine lcI (k := 12) (ci := 7) (As := []) (rest := [.int (F_Km_sent mu)]) C w rfl rfl (c_Md_sent l _ D cA tb ad nu mu) (cwV 0 hts gL_law_X7_sent rfl rfl rfl (by decide +kernel) ⟨Nat.le_of_ble_eq_true rfl, Nat.le_of_ble_eq_true rfl⟩) rfl rfl hl.1 (Nat.le_of_ble_eq_true rfl) ⟨Nat.le_of_ble_eq_true rfl, Nat.le_of_ble_eq_true rfl⟩ dL_law_237 (fun H locs w => ?_)
                    refine lv_icmp_eq (tgt := 416) hx hb dL_law_240 (by decide) (fun _ => ?_) (fun q => absurd (api_sent hR) q)
                    exact tail _ _ _ _ hR w
                  · skip
                    by_cases s_7 : sw = 7
                    · refine lv_tableIn (off := 213) (tgt := 245) hx hb dL_law_32 (by rw [s_7]; decide) (by rw [s_7]; decide) (by rw [s_7]; decide) (by decide) ?_
                      refine lv_aload_n hx hb dL_law_245 rfl (lv_at hl 1 rfl) ?_
                      refine lv_aload_n hx hb dL_law_246 rfl (lv_at hl 0 rfl) ?_
                      refine lv_iload_n hx hb dL_law_247 rfl (lv_at hl 3 rfl) ?_
                      refine lv_iconst (v := 1) hx hb dL_law_248 (by decide) ?_
                      refine lv_iadd hx hb dL_law_249 ?_
                      refine va_sld hx hb hX hbl hbA w.2.2 h_1 dL_law_250 ?_
                      refine lcI (k := 0) (ci := 6) (As := [.int (xs (x3 + 1).toNatClampNeg)]) (rest := []) C w rfl rfl (c_Km_sentByte l _ D cA tb ad mu nu (xs (x3 + 1).toNatClampNeg) hR.jc) (cwV 1 hts gL_law_X6_sentByte rfl rfl rfl (by decide +kernel) ⟨Nat.le_of_ble_eq_true rfl, Nat.le_of_ble_eq_true rfl⟩) rfl rfl hl.1 (Nat.le_of_ble_eq_true rfl) ⟨Nat.le_of_ble_eq_true rfl, Nat.le_of_ble_eq_true rfl⟩ dL_law_251 (fun H locs w => ?_)
                      refine lv_aload_n hx hb dL_law_254 rfl (lv_at hl 2 rfl) ?_
                      refine lv_aload_n hx hb dL_law_255 rfl (lv_at hl 0 rfl) ?_
                      refine lv_iload_n hx hb dL_law_256 rfl (lv_at hl 3 rfl) ?_
                      refine lv_iconst (v := 1) hx hb dL_law_257 (by decide) ?_
                      refine lv_iadd hx hb dL_law_258 ?_
                      refine va_sld hx hb hX hbl hbA w.2.2 h_1 dL_law_259 ?_
                      refine lcI (k := 12) (ci := 7) (As := [.int (xs (x3 + 1).toNatClampNeg)]) (rest := [.int (F_Km_sentByte (xs (x3 + 1).toNatClampNeg) mu)]) C w rfl rfl (c_Md_sentByte l _ D cA tb ad nu mu (xs (x3 + 1).toNatClampNeg) hR.jm) (cwV 1 hts gL_law_X7_sentByte rfl rfl rfl (by decide +kernel) ⟨Nat.le_of_ble_eq_true rfl, Nat.le_of_ble_eq_true rfl⟩) rfl rfl hl.1 (Nat.le_of_ble_eq_true rfl) ⟨Nat.le_of_ble_eq_true rfl, Nat.le_of_ble_eq_true rfl⟩ dL_law_260 (fun H locs w => ?_)
                      refine lv_icmp_eq (tgt := 416) hx hb dL_law_263 (by decide) (fun _ => ?_) (fun q => absurd (api_sentByte (xs (x3 + 1).toNatClampNeg) hR) q)
                      exact tail _ _ _ _ hR w
                    · skip
                      by_cases s_8 : sw = 8
                      · refine lv_tableIn (off := 236) (tgt := 268) hx hb dL_law_32 (by rw [s_8]; decide) (by rw [s_8]; decide) (by rw [s_8]; decide) (by decide) ?_
                        refine lv_aload_n hx hb dL_law_268 rfl (lv_at hl 1 rfl) ?_
                        refine lv_aload_n hx hb dL_law_269 rfl (lv_at hl 0 rfl) ?_
                        refine lv_iload_n hx hb dL_law_270 rfl (lv_at hl 3 rfl) ?_
                        refine lv_iconst (v := 1) hx hb dL_law_271 (by decide) ?_
                        refine lv_iadd hx hb dL_law_272 ?_
                        refine va_sld hx hb hX hbl hbA w.2.2 h_1 dL_law_273 ?_
                        refine lv_aload_n hx hb dL_law_274 rfl (lv_at hl 0 rfl) ?_
                        refine lv_iload_n hx hb dL_law_275 rfl (lv_at hl 3 rfl) ?_
                        refine lv_iconst (v := 2) hx hb dL_law_276 (by decide) ?_
                        refine lv_iadd hx hb dL_law_277 ?_
                        refine va_sld hx hb hX hbl hbA w.2.2 h_2 dL_law_278 ?_
                        refine lcI (k := 0) (ci := 6) (As := [.int (xs (x3 + 1).toNatClampNeg), .int (xs (x3 + 2).toNatClampNeg)]) (rest := []) C w rfl rfl (c_Km_pins l _ D cA tb ad mu nu (xs (x3 + 1).toNatClampNeg) (xs (x3 + 2).toNatClampNeg)) (cwV 2 hts gL_law_X6_pins rfl rfl rfl (by decide +kernel) ⟨Nat.le_of_ble_eq_true rfl, Nat.le_of_ble_eq_true rfl⟩) rfl rfl hl.1 (Nat.le_of_ble_eq_true rfl) ⟨Nat.le_of_ble_eq_true rfl, Nat.le_of_ble_eq_true rfl⟩ dL_law_279 (fun H locs w => ?_)
                        refine lv_aload_n hx hb dL_law_282 rfl (lv_at hl 2 rfl) ?_
                        refine lv_aload_n hx hb dL_law_283 rfl (lv_at hl 0 rfl) ?_
                        refine lv_iload_n hx hb dL_law_284 rfl (lv_at hl 3 rfl) ?_
                        refine lv_iconst (v := 1) hx hb dL_law_285 (by decide) ?_
                        refine lv_iadd hx hb dL_law_286 ?_
                        refine va_sld hx hb hX hbl hbA w.2.2 h_1 dL_law_287 ?_
                        refine lv_aload_n hx hb dL_law_288 rfl (lv_at hl 0 rfl) ?_
                        refine lv_iload_n hx hb dL_law_289 rfl (lv_at hl 3 rfl) ?_
                        refine lv_iconst (v := 2) hx hb dL_law_290 (by decide) ?_
                        refine lv_iadd hx hb dL_law_291 ?_
                        refine va_sld hx hb hX hbl hbA w.2.2 h_2 dL_law_292 ?_
                        refine lcI (k := 12) (ci := 7) (As := [.int (xs (x3 + 1).toNatClampNeg), .int (xs (x3 + 2).toNatClampNeg)]) (rest := [.int ((F_Km_pins (xs (x3 + 1).toNatClampNeg) (xs (x3 + 2).toNatClampNeg) mu).1)]) C w rfl rfl (c_Md_pins l _ D cA tb ad nu (F_Km_pins (xs (x3 + 1).toNatClampNeg) (xs (x3 + 2).toNatClampNeg) mu).2 (xs (x3 + 1).toNatClampNeg) (xs (x3 + 2).toNatClampNeg)) (cwV 2 hts gL_law_X7_pins rfl rfl rfl (by decide +kernel) ⟨Nat.le_of_ble_eq_true rfl, Nat.le_of_ble_eq_true rfl⟩) rfl rfl hl.1 (Nat.le_of_ble_eq_true rfl) ⟨Nat.le_of_ble_eq_true rfl, Nat.le_of_ble_eq_true rfl⟩ dL_law_293 (fun H locs w => ?_)
                        refine lv_icmp_eq (tgt := 416) hx hb dL_law_296 (by decide) (fun _ => ?_) (fun q => absurd (api_pins (xs (x3 + 1).toNatClampNeg) (xs (x3 + 2).toNatClampNeg) hR).1 q)
                        exact tail _ _ _ _ (api_pins (xs (x3 + 1).toNatClampNeg) (xs (x3 + 2).toNatClampNeg) hR).2 w
                      · skip
                        by_cases s_9 : sw = 9
                        · refine lv_tableIn (off := 269) (tgt := 301) hx hb dL_law_32 (by rw [s_9]; decide) (by rw [s_9]; decide) (by rw [s_9]; decide) (by decide) ?_
                          refine lv_aload_n hx hb dL_law_301 rfl (lv_at hl 1 rfl) ?_
                          refine lv_aload_n hx hb dL_law_302 rfl (lv_at hl 0 rfl) ?_
                          refine lv_iload_n hx hb dL_law_303 rfl (lv_at hl 3 rfl) ?_
                          refine lv_iconst (v := 1) hx hb dL_law_304 (by decide) ?_
                          refine lv_iadd hx hb dL_law_305 ?_
                          refine va_sld hx hb hX hbl hbA w.2.2 h_1 dL_law_306 ?_
                          refine lv_aload_n hx hb dL_law_307 rfl (lv_at hl 0 rfl) ?_
                          refine lv_iload_n hx hb dL_law_308 rfl (lv_at hl 3 rfl) ?_
                          refine lv_iconst (v := 2) hx hb dL_law_309 (by decide) ?_
                          refine lv_iadd hx hb dL_law_310 ?_
                          refine va_sld hx hb hX hbl hbA w.2.2 h_2 dL_law_311 ?_
                          refine lv_aload_n hx hb dL_law_312 rfl (lv_at hl 0 rfl) ?_
                          refine lv_iload_n hx hb dL_law_313 rfl (lv_at hl 3 rfl) ?_
                          refine lv_iconst (v := 3) hx hb dL_law_314 (by decide) ?_
                          refine lv_iadd hx hb dL_law_315 ?_
                          refine va_sld hx hb hX hbl hbA w.2.2 h_3 dL_law_316 ?_
                          refine lv_if_eq (tgt := 324) hx hb dL_law_317 (by decide) (fun hz => ?_) (fun hz => ?_)
                          · skip
                            refine lv_iconst (v := 0) hx hb dL_law_324 (by decide) ?_
                            refine lcI (k := 0) (ci := 6) (As := [.int (xs (x3 + 1).toNatClampNeg), .int (xs (x3 + 2).toNatClampNeg), .int 0]) (rest := []) C w rfl rfl (c_Km_line l _ D cA tb ad mu nu (xs (x3 + 1).toNatClampNeg) (xs (x3 + 2).toNatClampNeg) 0) (cwV 3 hts gL_law_X6_line rfl rfl rfl (by decide +kernel) ⟨Nat.le_of_ble_eq_true rfl, Nat.le_of_ble_eq_true rfl⟩) rfl rfl hl.1 (Nat.le_of_ble_eq_true rfl) ⟨Nat.le_of_ble_eq_true rfl, Nat.le_of_ble_eq_true rfl⟩ dL_law_325 (fun H locs w => ?_)
                            refine lv_aload_n hx hb dL_law_328 rfl (lv_at hl 2 rfl) ?_
                            refine lv_aload_n hx hb dL_law_329 rfl (lv_at hl 0 rfl) ?_
                            refine lv_iload_n hx hb dL_law_330 rfl (lv_at hl 3 rfl) ?_
                            refine lv_iconst (v := 1) hx hb dL_law_331 (by decide) ?_
                            refine lv_iadd hx hb dL_law_332 ?_
                            refine va_sld hx hb hX hbl hbA w.2.2 h_1 dL_law_333 ?_
                            refine lv_aload_n hx hb dL_law_334 rfl (lv_at hl 0 rfl) ?_
                            refine lv_iload_n hx hb dL_law_335 rfl (lv_at hl 3 rfl) ?_
                            refine lv_iconst (v := 2) hx hb dL_law_336 (by decide) ?_
                            refine lv_iadd hx hb dL_law_337 ?_
                            refine va_sld hx hb hX hbl hbA w.2.2 h_2 dL_law_338 ?_
                            refine lv_aload_n hx hb dL_law_339 rfl (lv_at hl 0 rfl) ?_
                            refine lv_iload_n hx hb dL_law_340 rfl (lv_at hl 3 rfl) ?_
                            refine lv_iconst (v := 3) hx hb dL_law_341 (by decide) ?_
                            refine lv_iadd hx hb dL_law_342 ?_
                            refine va_sld hx hb hX hbl hbA w.2.2 h_3 dL_law_343 ?_
                            refine lv_if_eq (tgt := 351) hx hb dL_law_344 (by decide) (fun hz2 => ?_) (fun hz2 => ?_)
                            · skip
                              refine lv_iconst (v := 0) hx hb dL_law_351 (by decide) ?_
                              refine lcI (k := 12) (ci := 7) (As := [.int (xs (x3 + 1).toNatClampNeg), .int (xs (x3 + 2).toNatClampNeg), .int 0]) (rest := [.int ((F_Km_line (xs (x3 + 1).toNatClampNeg) (xs (x3 + 2).toNatClampNeg) 0 mu).1)]) C w rfl rfl (c_Md_line l _ D cA tb ad nu (F_Km_line (xs (x3 + 1).toNatClampNeg) (xs (x3 + 2).toNatClampNeg) 0 mu).2 (xs (x3 + 1).toNatClampNeg) (xs (x3 + 2).toNatClampNeg) 0) (cwV 3 hts gL_law_X7_line rfl rfl rfl (by decide +kernel) ⟨Nat.le_of_ble_eq_true rfl, Nat.le_of_ble_eq_true rfl⟩) rfl rfl hl.1 (Nat.le_of_ble_eq_true rfl) ⟨Nat.le_of_ble_eq_true rfl, Nat.le_of_ble_eq_true rfl⟩ dL_law_352 (fun H locs w => ?_)
                              refine lv_icmp_eq (tgt := 416) hx hb dL_law_355 (by decide) (fun _ => ?_) (fun q => absurd (api_line (xs (x3 + 1).toNatClampNeg) (xs (x3 + 2).toNatClampNeg) 0 hR).1 q)
                              exact tail _ _ _ _ (api_line (xs (x3 + 1).toNatClampNeg) (xs (x3 + 2).toNatClampNeg) 0 hR).2 w
                            · exact absurd hz hz2
                          · skip
                            refine lv_iconst (v := 1) hx hb dL_law_320 (by decide) ?_
                            refine lv_goto (tgt := 325) hx hb dL_law_321 (by decide) ?_
                            refine lcI (k := 0) (ci := 6) (As := [.int (xs (x3 + 1).toNatClampNeg), .int (xs (x3 + 2).toNatClampNeg), .int 1]) (rest := []) C w rfl rfl (c_Km_line l _ D cA tb ad mu nu (xs (x3 + 1).toNatClampNeg) (xs (x3 + 2).toNatClampNeg) 1) (cwV 3 hts gL_law_X6_line rfl rfl rfl (by decide +kernel) ⟨Nat.le_of_ble_eq_true rfl, Nat.le_of_ble_eq_true rfl⟩) rfl rfl hl.1 (Nat.le_of_ble_eq_true rfl) ⟨Nat.le_of_ble_eq_true rfl, Nat.le_of_ble_eq_true rfl⟩ dL_law_325 (fun H locs w => ?_)
                            refine lv_aload_n hx hb dL_law_328 rfl (lv_at hl 2 rfl) ?_
                            refine lv_aload_n hx hb dL_law_329 rfl (lv_at hl 0 rfl) ?_
                            refine lv_iload_n hx hb dL_law_330 rfl (lv_at hl 3 rfl) ?_
                            refine lv_iconst (v := 1) hx hb dL_law_331 (by decide) ?_
                            refine lv_iadd hx hb dL_law_332 ?_
                            refine va_sld hx hb hX hbl hbA w.2.2 h_1 dL_law_333 ?_
                            refine lv_aload_n hx hb dL_law_334 rfl (lv_at hl 0 rfl) ?_
                            refine lv_iload_n hx hb dL_law_335 rfl (lv_at hl 3 rfl) ?_
                            refine lv_iconst (v := 2) hx hb dL_law_336 (by decide) ?_
                            refine lv_iadd hx hb dL_law_337 ?_
                            refine va_sld hx hb hX hbl hbA w.2.2 h_2 dL_law_338 ?_
                            refine lv_aload_n hx hb dL_law_339 rfl (lv_at hl 0 rfl) ?_
                            refine lv_iload_n hx hb dL_law_340 rfl (lv_at hl 3 rfl) ?_
                            refine lv_iconst (v := 3) hx hb dL_law_341 (by decide) ?_
                            refine lv_iadd hx hb dL_law_342 ?_
                            refine va_sld hx hb hX hbl hbA w.2.2 h_3 dL_law_343 ?_
                            refine lv_if_eq (tgt := 351) hx hb dL_law_344 (by decide) (fun hz2 => ?_) (fun hz2 => ?_)
                            · exact absurd hz2 hz
                            · skip
                              refine lv_iconst (v := 1) hx hb dL_law_347 (by decide) ?_
                              refine lv_goto (tgt := 352) hx hb dL_law_348 (by decide) ?_
                              refine lcI (k := 12) (ci := 7) (As := [.int (xs (x3 + 1).toNatClampNeg), .int (xs (x3 + 2).toNatClampNeg), .int 1]) (rest := [.int ((F_Km_line (xs (x3 + 1).toNatClampNeg) (xs (x3 + 2).toNatClampNeg) 1 mu).1)]) C w rfl rfl (c_Md_line l _ D cA tb ad nu (F_Km_line (xs (x3 + 1).toNatClampNeg) (xs (x3 + 2).toNatClampNeg) 1 mu).2 (xs (x3 + 1).toNatClampNeg) (xs (x3 + 2).toNatClampNeg) 1) (cwV 3 hts gL_law_X7_line rfl rfl rfl (by decide +kernel) ⟨Nat.le_of_ble_eq_true rfl, Nat.le_of_ble_eq_true rfl⟩) rfl rfl hl.1 (Nat.le_of_ble_eq_true rfl) ⟨Nat.le_of_ble_eq_true rfl, Nat.le_of_ble_eq_true rfl⟩ dL_law_352 (fun H locs w => ?_)
                              refine lv_icmp_eq (tgt := 416) hx hb dL_law_355 (by decide) (fun _ => ?_) (fun q => absurd (api_line (xs (x3 + 1).toNatClampNeg) (xs (x3 + 2).toNatClampNeg) 1 hR).1 q)
                              exact tail _ _ _ _ (api_line (xs (x3 + 1).toNatClampNeg) (xs (x3 + 2).toNatClampNeg) 1 hR).2 w
                        · skip
                          by_cases s_10 : sw = 10
                          · refine lv_tableIn (off := 328) (tgt := 360) hx hb dL_law_32 (by rw [s_10]; decide) (by rw [s_10]; decide) (by rw [s_10]; decide) (by decide) ?_
                            refine lv_aload_n hx hb dL_law_360 rfl (lv_at hl 1 rfl) ?_
                            refine lv_aload_n hx hb dL_law_361 rfl (lv_at hl 0 rfl) ?_
                            refine lv_iload_n hx hb dL_law_362 rfl (lv_at hl 3 rfl) ?_
                            refine lv_iconst (v := 1) hx hb dL_law_363 (by decide) ?_
                            refine lv_iadd hx hb dL_law_364 ?_
                            refine va_sld hx hb hX hbl hbA w.2.2 h_1 dL_law_365 ?_
                            refine lv_aload_n hx hb dL_law_366 rfl (lv_at hl 0 rfl) ?_
                            refine lv_iload_n hx hb dL_law_367 rfl (lv_at hl 3 rfl) ?_
                            refine lv_iconst (v := 2) hx hb dL_law_368 (by decide) ?_
                            refine lv_iadd hx hb dL_law_369 ?_
                            refine va_sld hx hb hX hbl hbA w.2.2 h_2 dL_law_370 ?_
                            refine lcI (k := 0) (ci := 6) (As := [.int (xs (x3 + 1).toNatClampNeg), .int (xs (x3 + 2).toNatClampNeg)]) (rest := []) C w rfl rfl (c_Km_port l _ D cA tb ad mu nu (xs (x3 + 1).toNatClampNeg) (xs (x3 + 2).toNatClampNeg)) (cwV 2 hts gL_law_X6_port rfl rfl rfl (by decide +kernel) ⟨Nat.le_of_ble_eq_true rfl, Nat.le_of_ble_eq_true rfl⟩) rfl rfl hl.1 (Nat.le_of_ble_eq_true rfl) ⟨Nat.le_of_ble_eq_true rfl, Nat.le_of_ble_eq_true rfl⟩ dL_law_371 (fun H locs w => ?_)
                            refine lv_aload_n hx hb dL_law_374 rfl (lv_at hl 2 rfl) ?_
                            refine lv_aload_n hx hb dL_law_375 rfl (lv_at hl 0 rfl) ?_
                            refine lv_iload_n hx hb dL_law_376 rfl (lv_at hl 3 rfl) ?_
                            refine lv_iconst (v := 1) hx hb dL_law_377 (by decide) ?_
                            refine lv_iadd hx hb dL_law_378 ?_
                            refine va_sld hx hb hX hbl hbA w.2.2 h_1 dL_law_379 ?_
                            refine lv_aload_n hx hb dL_law_380 rfl (lv_at hl 0 rfl) ?_
                            refine lv_iload_n hx hb dL_law_381 rfl (lv_at hl 3 rfl) ?_
                            refine lv_iconst (v := 2) hx hb dL_law_382 (by decide) ?_
                            refine lv_iadd hx hb dL_law_383 ?_
                            refine va_sld hx hb hX hbl hbA w.2.2 h_2 dL_law_384 ?_
                            refine lcI (k := 12) (ci := 7) (As := [.int (xs (x3 + 1).toNatClampNeg), .int (xs (x3 + 2).toNatClampNeg)]) (rest := [.int (F_Km_port (xs (x3 + 1).toNatClampNeg) (xs (x3 + 2).toNatClampNeg) mu)]) C w rfl rfl (c_Md_port l _ D cA tb ad nu mu (xs (x3 + 1).toNatClampNeg) (xs (x3 + 2).toNatClampNeg)) (cwV 2 hts gL_law_X7_port rfl rfl rfl (by decide +kernel) ⟨Nat.le_of_ble_eq_true rfl, Nat.le_of_ble_eq_true rfl⟩) rfl rfl hl.1 (Nat.le_of_ble_eq_true rfl) ⟨Nat.le_of_ble_eq_true rfl, Nat.le_of_ble_eq_true rfl⟩ dL_law_385 (fun H locs w => ?_)
                            refine lv_icmp_eq (tgt := 416) hx hb dL_law_388 (by decide) (fun _ => ?_) (fun q => absurd (api_port (xs (x3 + 1).toNatClampNeg) (xs (x3 + 2).toNatClampNeg) hR) q)
                            exact tail _ _ _ _ hR w
                          · skip
                            by_cases s_11 : sw = 11
                            · refine lv_tableIn (off := 361) (tgt := 393) hx hb dL_law_32 (by rw [s_11]; decide) (by rw [s_11]; decide) (by rw [s_11]; decide) (by decide) ?_
                              refine lv_aload_n hx hb dL_law_393 rfl (lv_at hl 1 rfl) ?_
                              refine lv_aload_n hx hb dL_law_394 rfl (lv_at hl 0 rfl) ?_
                              refine lv_iload_n hx hb dL_law_395 rfl (lv_at hl 3 rfl) ?_
                              refine lv_iconst (v := 1) hx hb dL_law_396 (by decide) ?_
                              refine lv_iadd hx hb dL_law_397 ?_
                              refine va_sld hx hb hX hbl hbA w.2.2 h_1 dL_law_398 ?_
                              refine lcI (k := 0) (ci := 6) (As := [.int (xs (x3 + 1).toNatClampNeg)]) (rest := []) C w rfl rfl (c_Km_serial l _ D cA tb ad mu nu (xs (x3 + 1).toNatClampNeg)) (cwV 1 hts gL_law_X6_serial rfl rfl rfl (by decide +kernel) ⟨Nat.le_of_ble_eq_true rfl, Nat.le_of_ble_eq_true rfl⟩) rfl rfl hl.1 (Nat.le_of_ble_eq_true rfl) ⟨Nat.le_of_ble_eq_true rfl, Nat.le_of_ble_eq_true rfl⟩ dL_law_399 (fun H locs w => ?_)
                              refine lv_aload_n hx hb dL_law_402 rfl (lv_at hl 2 rfl) ?_
                              refine lv_aload_n hx hb dL_law_403 rfl (lv_at hl 0 rfl) ?_
                              refine lv_iload_n hx hb dL_law_404 rfl (lv_at hl 3 rfl) ?_
                              refine lv_iconst (v := 1) hx hb dL_law_405 (by decide) ?_
                              refine lv_iadd hx hb dL_law_406 ?_
                              refine va_sld hx hb hX hbl hbA w.2.2 h_1 dL_law_407 ?_
                              refine lcI (k := 12) (ci := 7) (As := [.int (xs (x3 + 1).toNatClampNeg)]) (rest := [.int (F_Km_serial (xs (x3 + 1).toNatClampNeg) mu)]) C w rfl rfl (c_Md_serial l _ D cA tb ad nu mu (xs (x3 + 1).toNatClampNeg)) (cwV 1 hts gL_law_X7_serial rfl rfl rfl (by decide +kernel) ⟨Nat.le_of_ble_eq_true rfl, Nat.le_of_ble_eq_true rfl⟩) rfl rfl hl.1 (Nat.le_of_ble_eq_true rfl) ⟨Nat.le_of_ble_eq_true rfl, Nat.le_of_ble_eq_true rfl⟩ dL_law_408 (fun H locs w => ?_)
                              refine lv_icmp_eq (tgt := 416) hx hb dL_law_411 (by decide) (fun _ => ?_) (fun q => absurd (api_serial (xs (x3 + 1).toNatClampNeg) hR) q)
                              exact tail _ _ _ _ hR w
                            · skip
                              refine lv_tableOut (tgt := 416) hx hb dL_law_32 (by have := lv_neT s_0 (a := 0) rfl; have := lv_neT s_1 (a := 1) rfl; have := lv_neT s_2 (a := 2) rfl; have := lv_neT s_3 (a := 3) rfl; have := lv_neT s_4 (a := 4) rfl; have := lv_neT s_5 (a := 5) rfl; have := lv_neT s_6 (a := 6) rfl; have := lv_neT s_7 (a := 7) rfl; have := lv_neT s_8 (a := 8) rfl; have := lv_neT s_9 (a := 9) rfl; have := lv_neT s_10 (a := 10) rfl; have := lv_neT s_11 (a := 11) rfl; omega) (by decide) ?_
                              exact tail _ _ _ _ hR w
