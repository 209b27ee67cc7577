-- deps: 12 13
/-! sets of bits as an int -/
def s_bt (x : Int32) (b : Nat) : Bool := x.toBitVec.getLsbD b
theorem s_1c : ∀ c, c < 10 → ((1 : Int32) <<< (nI c &&& 31)).toBitVec = BitVec.twoPow 32 c := by decide +kernel
theorem s_sm : ∀ c, c < 10 → ((nI c &&& 31).toBitVec.smod 32) = BitVec.ofNat 32 c := by decide +kernel
theorem s_bt_or (x : Int32) {b c : Nat} (hc : c < 10) : s_bt (x ||| ((1 : Int32) <<< (nI c &&& 31))) b = (s_bt x b || (b == c)) := by
  unfold s_bt
  rw [Int32.toBitVec_or, s_1c c hc, BitVec.getLsbD_or, BitVec.getLsbD_twoPow]
  congr 1
  have : c < 32 := by omega
  by_cases hbc : b = c
  · subst hbc
    simp [this]
  · have h2 : ¬ c = b := fun q => hbc q.symm
    simp [hbc, h2]
theorem s_bt_0 (b : Nat) : s_bt 0 b = false := by
  unfold s_bt
  show (0#32).getLsbD b = false
  simp
theorem s_bt_shr (x : Int32) {b : Nat} (hb : b < 10) : (x >>> (nI b &&& 31)) &&& 1 = if s_bt x b = true then 1 else 0 := by
  apply Int32.toBitVec_inj.mp
  rw [Int32.toBitVec_and, Int32.toBitVec_shiftRight, s_sm b hb]
  have e : x.toBitVec.sshiftRight' (BitVec.ofNat 32 b) = x.toBitVec.sshiftRight b := by
    show x.toBitVec.sshiftRight (BitVec.ofNat 32 b).toNat = _
    rw [BitVec.toNat_ofNat, Nat.mod_eq_of_lt (by omega)]
  rw [e]
  apply BitVec.eq_of_getLsbD_eq
  intro i hi
  rw [BitVec.getLsbD_and, BitVec.getLsbD_sshiftRight]
  have e1 : (1 : Int32).toBitVec.getLsbD i = decide (i = 0) := by
    show (1#32).getLsbD i = _
    rw [BitVec.getLsbD_one]
    by_cases h0 : i = 0 <;> simp [h0]
  have e0 : (0 : Int32).toBitVec.getLsbD i = false := by
    show (0#32).getLsbD i = _
    simp
  rw [e1]
  unfold s_bt
  by_cases h0 : i = 0
  · subst h0
    have h32 : b < 32 := by omega
    have hge : ¬ (32 ≤ (0 : Nat)) := by omega
    cases hx : x.toBitVec.getLsbD b with
    | true => simp [hx, h32]
    | false => simp [hx, h32]
  · have hc : (decide (i = 0)) = false := by simp [h0]
    rw [hc, Bool.and_false]
    split
    · rw [e1, hc]
    · rw [e0]
theorem s_bt_and (x : Int32) {b : Nat} (hb : b < 10) : (x &&& ((1 : Int32) <<< (nI b &&& 31)) = 0) ↔ ¬ s_bt x b = true := by
  rw [← Int32.toBitVec_inj, Int32.toBitVec_and, s_1c b hb, BitVec.and_twoPow]
  unfold s_bt
  have e0 : (0 : Int32).toBitVec = 0#32 := rfl
  rw [e0]
  cases hx : x.toBitVec.getLsbD b with
  | true =>
    simp
    intro q
    have := congrArg (fun z => BitVec.getLsbD z b) q
    simp [BitVec.getLsbD_twoPow] at this
    omega
  | false => simp
theorem s_bt_set : ∀ (l : List Nat) (a : Int32) {b : Nat}, (∀ c ∈ l, c < 10) → s_bt (s_set l a) b = (s_bt a b || decide (b ∈ l))
  | [], a, b, _ => by simp [s_set]
  | c :: r, a, b, hl => by
    show s_bt (s_set r (a ||| (1 <<< (nI c &&& 31)))) b = _
    rw [s_bt_set r _ (fun x hx => hl x (List.mem_cons_of_mem _ hx)), s_bt_or _ (hl c List.mem_cons_self)]
    by_cases h1 : b = c
    · subst h1
      simp
    · have e : (b == c) = false := by simp [h1]
      simp [h1, e]
theorem s_mask_bt {P : Nat → Bool} : ∀ n, n ≤ 10 → ∀ b, s_bt (s_mask n P) b = (decide (b < n) && P b)
  | 0, _, b => by rw [s_mask_0, s_bt_0]; simp
  | n + 1, hn, b => by
    rw [s_mask_s]
    have ih := s_mask_bt (P := P) n (by omega) b
    by_cases hb : b = n
    · subst hb
      split
      · rename_i h
        rw [s_bt_or _ (by omega), ih, h]
        simp
      · rename_i h
        rw [ih]
        simp [h]
    · have e : decide (b < n + 1) = decide (b < n) := by
        by_cases h2 : b < n
        · simp [h2]; omega
        · simp [h2]; omega
      rw [e, ← ih]
      split
      · rw [s_bt_or _ (by omega)]
        simp [hb]
      · rfl
theorem oi_n (a : Nat) : nI a = Int32.ofInt (a : Int) := rfl
theorem oi_drw (z : Int) (a b c : Nat) : Int32.ofInt z + ((5 : Int32) * nI a - 2 * nI b - (9 - nI c)) = Int32.ofInt (z + (5 * (a : Int) - 2 * (b : Int) - (9 - (c : Int)))) := by
  rw [oi_n, oi_n, oi_n, show (5 : Int32) = Int32.ofInt 5 from rfl, show (2 : Int32) = Int32.ofInt 2 from rfl, show (9 : Int32) = Int32.ofInt 9 from rfl, ← Int32.ofInt_mul, ← Int32.ofInt_mul, ← Int32.ofInt_sub, ← Int32.ofInt_sub, ← Int32.ofInt_sub, ← Int32.ofInt_add]
theorem s_drw_c (B : SB) (c : Nat) (l : List Nat) : s_drw B (c :: l) = (5 * (B c 2 : Int) - 2 * (B c 4 : Int) - (9 - (s_iw B c : Int))) + s_drw B l := by
  unfold s_drw
  rw [List.map_cons, List.sum_cons]
section MB3
variable {G : AG} {h : AH} {n : Nat} {B : SB} {T r : Nat} {X E : Nat → Nat → Nat}
set_option maxRecDepth 100000 in
set_option maxHeartbeats 400000 in
theorem c_X7_keeps (M0 : TopM h) : AC G jX7_keeps 1 0 0 [.ref 100] h (fun v h' => v = none ∧ Sm [133] h h' ∧ ∀ k, k < 10 → h'.2.1 133 k = h.2.1 107 k) := by
  have lp : ∀ (m k : Nat) (h1 : AH), k + m = 10 → Sm [133] h h1 → (∀ j, j < k → h1.2.1 133 j = h.2.1 107 j) → AW G 6 2 false cX7_keeps (Option.none : Option FieldType) 1 (fun v h' => v = none ∧ Sm [133] h h' ∧ ∀ k, k < 10 → h'.2.1 133 k = h.2.1 107 k) 0 0 2 [(0, .ref 100), (1, .int (nI k))] [] h1 := by
    intro m
    induction m with
    | zero =>
      intro k h1 hk S1 hb
      have M1 := TopM_Sm S1 M0
      unfold TopM at M1
      have e : k = 10 := by omega
      subst e
      have ge : (10 : Int32) ≤ nI 10 := by decide
      refine ax_wp_ok (cuts := [ 2]) 40 ?_
      simp only [lv_args, fn0, fn1, fn2, fn3, ax_wp_s, ax_step, ax_ins, ax_nx, ax_cut, ax_lk, ax_st1, ax_st2, ax_ins0, ax_tg, ax_go, ax_sw, ax_lsw, ax_kc_s, ax_kc_n, ax_rf_rf, ax_isR_rf, ct_int, ct_long, ct_ref, ct_null, ct_rf, rf_ref, rf_null, isR_ref, isR_null, va_rf_s, va_rf_n, gv_0, gv_1, gv_2, pv_i, pv_r, pv_n, pv_q, pk_0, pk_2, pk_2n, pk_2q, pk_10, pk_11, rok_i, rok_z0, rok_z1, ex_eq, ex_z, ex_z2, ex_cz, List.filter_cons, List.filter_nil, List.take_succ_cons, List.take_zero, List.drop_succ_cons, List.drop_zero, List.reverse_cons, List.reverse_nil, List.nil_append, List.cons_append, List.append_nil, List.length_cons, List.length_nil, List.map_cons, List.map_nil, List.sum_cons, List.sum_nil, Bool.not_true, Bool.not_false, Bool.and_true, Bool.true_and, Bool.and_false, Bool.false_and, Bool.or_false, Bool.false_or, Bool.true_or, Bool.or_true, beq_self_eq_true, Nat.reduceBEq, Nat.reduceAdd, Nat.reduceSub, Nat.reduceLT, Nat.reduceLeDiff, Nat.reduceEqDiff, Int.reduceAdd, Int.reduceNeg, Int.reduceToNat, Int.reduceLE, Int.reduceNatCast, Int.reduceNatCast', ite_true, ite_false, if_true, if_false, reduceIte, true_and, and_true, false_and, and_false, true_or, or_true, false_or, or_false, Nat.sub_zero, Nat.le_refl, Bool.false_eq_true, Bool.true_eq_false, false_implies, true_implies, implies_true, not_true_eq_false, not_false_eq_true, eq_self, Fin.isValue, Nat.zero_add, Nat.add_zero, and_self, ne_eq, b01, Int32.reduceLT, Int32.reduceLE, z32, z64, vl_0, tl_0, vl_1, tl_1, vl_2, tl_2, vl_3, tl_3, vl_4, tl_4, vl_5, tl_5, vl_6, tl_6, vl_7, tl_7, vl_8, tl_8, vl_9, tl_9, m_X7_keeps, dX7_keeps_0, ki_0, dX7_keeps_1, dX7_keeps_2, dX7_keeps_3, kb_10, dX7_keeps_5, dX7_keeps_8, dX7_keeps_9, fl_6_67, dX7_keeps_12, dX7_keeps_13, dX7_keeps_14, fl_6_28, dX7_keeps_17, dX7_keeps_18, dX7_keeps_19, dX7_keeps_20, ki_1, dX7_keeps_23, dX7_keeps_26, M1, ge]
      exact ⟨S1, hb⟩
    | succ m ih =>
      intro k h1 hk S1 hb
      have M1 := TopM_Sm S1 M0
      unfold TopM at M1
      have ge : ¬ (10 : Int32) ≤ nI k := fun q => by
        have := (i_Lle (n := 10) (by omega) (by decide)).mp q
        omega
      have hc : (nI k).toNatClampNeg = k := nI_clamp (by omega)
      have hin : vp_in (nI k) 10 := vp_in_nI (by omega) (by decide)
      have e2 : h1.2.1 107 = h.2.1 107 := S1.2.2 107 (by decide)
      refine ax_wp_ok (cuts := [ 2]) 40 ?_
      simp only [lv_args, fn0, fn1, fn2, fn3, ax_wp_s, ax_step, ax_ins, ax_nx, ax_cut, ax_lk, ax_st1, ax_st2, ax_ins0, ax_tg, ax_go, ax_sw, ax_lsw, ax_kc_s, ax_kc_n, ax_rf_rf, ax_isR_rf, ct_int, ct_long, ct_ref, ct_null, ct_rf, rf_ref, rf_null, isR_ref, isR_null, va_rf_s, va_rf_n, gv_0, gv_1, gv_2, pv_i, pv_r, pv_n, pv_q, pk_0, pk_2, pk_2n, pk_2q, pk_10, pk_11, rok_i, rok_z0, rok_z1, ex_eq, ex_z, ex_z2, ex_cz, List.filter_cons, List.filter_nil, List.take_succ_cons, List.take_zero, List.drop_succ_cons, List.drop_zero, List.reverse_cons, List.reverse_nil, List.nil_append, List.cons_append, List.append_nil, List.length_cons, List.length_nil, List.map_cons, List.map_nil, List.sum_cons, List.sum_nil, Bool.not_true, Bool.not_false, Bool.and_true, Bool.true_and, Bool.and_false, Bool.false_and, Bool.or_false, Bool.false_or, Bool.true_or, Bool.or_true, beq_self_eq_true, Nat.reduceBEq, Nat.reduceAdd, Nat.reduceSub, Nat.reduceLT, Nat.reduceLeDiff, Nat.reduceEqDiff, Int.reduceAdd, Int.reduceNeg, Int.reduceToNat, Int.reduceLE, Int.reduceNatCast, Int.reduceNatCast', ite_true, ite_false, if_true, if_false, reduceIte, true_and, and_true, false_and, and_false, true_or, or_true, false_or, or_false, Nat.sub_zero, Nat.le_refl, Bool.false_eq_true, Bool.true_eq_false, false_implies, true_implies, implies_true, not_true_eq_false, not_false_eq_true, eq_self, Fin.isValue, Nat.zero_add, Nat.add_zero, and_self, ne_eq, b01, Int32.reduceLT, Int32.reduceLE, z32, z64, vl_0, tl_0, vl_1, tl_1, vl_2, tl_2, vl_3, tl_3, vl_4, tl_4, vl_5, tl_5, vl_6, tl_6, vl_7, tl_7, vl_8, tl_8, vl_9, tl_9, m_X7_keeps, dX7_keeps_0, ki_0, dX7_keeps_1, dX7_keeps_2, dX7_keeps_3, kb_10, dX7_keeps_5, dX7_keeps_8, dX7_keeps_9, fl_6_67, dX7_keeps_12, dX7_keeps_13, dX7_keeps_14, fl_6_28, dX7_keeps_17, dX7_keeps_18, dX7_keeps_19, dX7_keeps_20, ki_1, dX7_keeps_23, dX7_keeps_26, M1, ge, hc, hin, nI_1]
      refine ih (k + 1) _ (by omega) (Sm_st S1 (.head _)) (fun j hj => ?_)
      rw [setI_at]
      by_cases hjk : j = k
      · rw [if_pos ⟨rfl, hjk⟩, e2, hjk]
      · rw [if_neg (fun q => hjk q.2)]
        exact hb j (by omega)
  have M := M0
  unfold TopM at M
  refine ax_intro 6 false cdX7_keeps (by decide +kernel) (by decide +kernel) (by decide +kernel) (Nat.le_of_ble_eq_true rfl) ?_
  refine ax_wp_ok (cuts := [ 2]) 30 ?_
  simp only [lv_args, fn0, fn1, fn2, fn3, ax_wp_s, ax_step, ax_ins, ax_nx, ax_cut, ax_lk, ax_st1, ax_st2, ax_ins0, ax_tg, ax_go, ax_sw, ax_lsw, ax_kc_s, ax_kc_n, ax_rf_rf, ax_isR_rf, ct_int, ct_long, ct_ref, ct_null, ct_rf, rf_ref, rf_null, isR_ref, isR_null, va_rf_s, va_rf_n, gv_0, gv_1, gv_2, pv_i, pv_r, pv_n, pv_q, pk_0, pk_2, pk_2n, pk_2q, pk_10, pk_11, rok_i, rok_z0, rok_z1, ex_eq, ex_z, ex_z2, ex_cz, List.filter_cons, List.filter_nil, List.take_succ_cons, List.take_zero, List.drop_succ_cons, List.drop_zero, List.reverse_cons, List.reverse_nil, List.nil_append, List.cons_append, List.append_nil, List.length_cons, List.length_nil, List.map_cons, List.map_nil, List.sum_cons, List.sum_nil, Bool.not_true, Bool.not_false, Bool.and_true, Bool.true_and, Bool.and_false, Bool.false_and, Bool.or_false, Bool.false_or, Bool.true_or, Bool.or_true, beq_self_eq_true, Nat.reduceBEq, Nat.reduceAdd, Nat.reduceSub, Nat.reduceLT, Nat.reduceLeDiff, Nat.reduceEqDiff, Int.reduceAdd, Int.reduceNeg, Int.reduceToNat, Int.reduceLE, Int.reduceNatCast, Int.reduceNatCast', ite_true, ite_false, if_true, if_false, reduceIte, true_and, and_true, false_and, and_false, true_or, or_true, false_or, or_false, Nat.sub_zero, Nat.le_refl, Bool.false_eq_true, Bool.true_eq_false, false_implies, true_implies, implies_true, not_true_eq_false, not_false_eq_true, eq_self, Fin.isValue, Nat.zero_add, Nat.add_zero, and_self, ne_eq, b01, Int32.reduceLT, Int32.reduceLE, z32, z64, vl_0, tl_0, vl_1, tl_1, vl_2, tl_2, vl_3, tl_3, vl_4, tl_4, vl_5, tl_5, vl_6, tl_6, vl_7, tl_7, vl_8, tl_8, vl_9, tl_9, m_X7_keeps, dX7_keeps_0, ki_0, dX7_keeps_1, dX7_keeps_2, dX7_keeps_3, kb_10, dX7_keeps_5, dX7_keeps_8, dX7_keeps_9, fl_6_67, dX7_keeps_12, dX7_keeps_13, dX7_keeps_14, fl_6_28, dX7_keeps_17, dX7_keeps_18, dX7_keeps_19, dX7_keeps_20, ki_1, dX7_keeps_23, dX7_keeps_26, M]
  exact lp 10 0 h rfl (Sm_rf _ _) (fun j hj => by omega)
set_option maxRecDepth 100000 in
set_option maxHeartbeats 400000 in
theorem c_X7_laysBack (M0 : TopM h) : AC G jX7_laysBack 1 0 0 [.ref 100] h (fun v h' => v = none ∧ Sm [107] h h' ∧ ∀ k, k < 10 → h'.2.1 107 k = h.2.1 133 k) := by
  have lp : ∀ (m k : Nat) (h1 : AH), k + m = 10 → Sm [107] h h1 → (∀ j, j < k → h1.2.1 107 j = h.2.1 133 j) → AW G 6 2 false cX7_laysBack (Option.none : Option FieldType) 1 (fun v h' => v = none ∧ Sm [107] h h' ∧ ∀ k, k < 10 → h'.2.1 107 k = h.2.1 133 k) 0 0 2 [(0, .ref 100), (1, .int (nI k))] [] h1 := by
    intro m
    induction m with
    | zero =>
      intro k h1 hk S1 hb
      have M1 := TopM_Sm S1 M0
      unfold TopM at M1
      have e : k = 10 := by omega
      subst e
      have ge : (10 : Int32) ≤ nI 10 := by decide
      refine ax_wp_ok (cuts := [ 2]) 40 ?_
      simp only [lv_args, fn0, fn1, fn2, fn3, ax_wp_s, ax_step, ax_ins, ax_nx, ax_cut, ax_lk, ax_st1, ax_st2, ax_ins0, ax_tg, ax_go, ax_sw, ax_lsw, ax_kc_s, ax_kc_n, ax_rf_rf, ax_isR_rf, ct_int, ct_long, ct_ref, ct_null, ct_rf, rf_ref, rf_null, isR_ref, isR_null, va_rf_s, va_rf_n, gv_0, gv_1, gv_2, pv_i, pv_r, pv_n, pv_q, pk_0, pk_2, pk_2n, pk_2q, pk_10, pk_11, rok_i, rok_z0, rok_z1, ex_eq, ex_z, ex_z2, ex_cz, List.filter_cons, List.filter_nil, List.take_succ_cons, List.take_zero, List.drop_succ_cons, List.drop_zero, List.reverse_cons, List.reverse_nil, List.nil_append, List.cons_append, List.append_nil, List.length_cons, List.length_nil, List.map_cons, List.map_nil, List.sum_cons, List.sum_nil, Bool.not_true, Bool.not_false, Bool.and_true, Bool.true_and, Bool.and_false, Bool.false_and, Bool.or_false, Bool.false_or, Bool.true_or, Bool.or_true, beq_self_eq_true, Nat.reduceBEq, Nat.reduceAdd, Nat.reduceSub, Nat.reduceLT, Nat.reduceLeDiff, Nat.reduceEqDiff, Int.reduceAdd, Int.reduceNeg, Int.reduceToNat, Int.reduceLE, Int.reduceNatCast, Int.reduceNatCast', ite_true, ite_false, if_true, if_false, reduceIte, true_and, and_true, false_and, and_false, true_or, or_true, false_or, or_false, Nat.sub_zero, Nat.le_refl, Bool.false_eq_true, Bool.true_eq_false, false_implies, true_implies, implies_true, not_true_eq_false, not_false_eq_true, eq_self, Fin.isValue, Nat.zero_add, Nat.add_zero, and_self, ne_eq, b01, Int32.reduceLT, Int32.reduceLE, z32, z64, vl_0, tl_0, vl_1, tl_1, vl_2, tl_2, vl_3, tl_3, vl_4, tl_4, vl_5, tl_5, vl_6, tl_6, vl_7, tl_7, vl_8, tl_8, vl_9, tl_9, m_X7_laysBack, dX7_laysBack_0, ki_0, dX7_laysBack_1, dX7_laysBack_2, dX7_laysBack_3, kb_10, dX7_laysBack_5, dX7_laysBack_8, dX7_laysBack_9, fl_6_28, dX7_laysBack_12, dX7_laysBack_13, dX7_laysBack_14, fl_6_67, dX7_laysBack_17, dX7_laysBack_18, dX7_laysBack_19, dX7_laysBack_20, ki_1, dX7_laysBack_23, dX7_laysBack_26, M1, ge]
      exact ⟨S1, hb⟩
    | succ m ih =>
      intro k h1 hk S1 hb
      have M1 := TopM_Sm S1 M0
      unfold TopM at M1
      have ge : ¬ (10 : Int32) ≤ nI k := fun q => by
        have := (i_Lle (n := 10) (by omega) (by decide)).mp q
        omega
      have hc : (nI k).toNatClampNeg = k := nI_clamp (by omega)
      have hin : vp_in (nI k) 10 := vp_in_nI (by omega) (by decide)
      have e2 : h1.2.1 133 = h.2.1 133 := S1.2.2 133 (by decide)
      refine ax_wp_ok (cuts := [ 2]) 40 ?_
      simp only [lv_args, fn0, fn1, fn2, fn3, ax_wp_s, ax_step, ax_ins, ax_nx, ax_cut, ax_lk, ax_st1, ax_st2, ax_ins0, ax_tg, ax_go, ax_sw, ax_lsw, ax_kc_s, ax_kc_n, ax_rf_rf, ax_isR_rf, ct_int, ct_long, ct_ref, ct_null, ct_rf, rf_ref, rf_null, isR_ref, isR_null, va_rf_s, va_rf_n, gv_0, gv_1, gv_2, pv_i, pv_r, pv_n, pv_q, pk_0, pk_2, pk_2n, pk_2q, pk_10, pk_11, rok_i, rok_z0, rok_z1, ex_eq, ex_z, ex_z2, ex_cz, List.filter_cons, List.filter_nil, List.take_succ_cons, List.take_zero, List.drop_succ_cons, List.drop_zero, List.reverse_cons, List.reverse_nil, List.nil_append, List.cons_append, List.append_nil, List.length_cons, List.length_nil, List.map_cons, List.map_nil, List.sum_cons, List.sum_nil, Bool.not_true, Bool.not_false, Bool.and_true, Bool.true_and, Bool.and_false, Bool.false_and, Bool.or_false, Bool.false_or, Bool.true_or, Bool.or_true, beq_self_eq_true, Nat.reduceBEq, Nat.reduceAdd, Nat.reduceSub, Nat.reduceLT, Nat.reduceLeDiff, Nat.reduceEqDiff, Int.reduceAdd, Int.reduceNeg, Int.reduceToNat, Int.reduceLE, Int.reduceNatCast, Int.reduceNatCast', ite_true, ite_false, if_true, if_false, reduceIte, true_and, and_true, false_and, and_false, true_or, or_true, false_or, or_false, Nat.sub_zero, Nat.le_refl, Bool.false_eq_true, Bool.true_eq_false, false_implies, true_implies, implies_true, not_true_eq_false, not_false_eq_true, eq_self, Fin.isValue, Nat.zero_add, Nat.add_zero, and_self, ne_eq, b01, Int32.reduceLT, Int32.reduceLE, z32, z64, vl_0, tl_0, vl_1, tl_1, vl_2, tl_2, vl_3, tl_3, vl_4, tl_4, vl_5, tl_5, vl_6, tl_6, vl_7, tl_7, vl_8, tl_8, vl_9, tl_9, m_X7_laysBack, dX7_laysBack_0, ki_0, dX7_laysBack_1, dX7_laysBack_2, dX7_laysBack_3, kb_10, dX7_laysBack_5, dX7_laysBack_8, dX7_laysBack_9, fl_6_28, dX7_laysBack_12, dX7_laysBack_13, dX7_laysBack_14, fl_6_67, dX7_laysBack_17, dX7_laysBack_18, dX7_laysBack_19, dX7_laysBack_20, ki_1, dX7_laysBack_23, dX7_laysBack_26, M1, ge, hc, hin, nI_1]
      refine ih (k + 1) _ (by omega) (Sm_st S1 (.head _)) (fun j hj => ?_)
      rw [setI_at]
      by_cases hjk : j = k
      · rw [if_pos ⟨rfl, hjk⟩, e2, hjk]
      · rw [if_neg (fun q => hjk q.2)]
        exact hb j (by omega)
  have M := M0
  unfold TopM at M
  refine ax_intro 6 false cdX7_laysBack (by decide +kernel) (by decide +kernel) (by decide +kernel) (Nat.le_of_ble_eq_true rfl) ?_
  refine ax_wp_ok (cuts := [ 2]) 30 ?_
  simp only [lv_args, fn0, fn1, fn2, fn3, ax_wp_s, ax_step, ax_ins, ax_nx, ax_cut, ax_lk, ax_st1, ax_st2, ax_ins0, ax_tg, ax_go, ax_sw, ax_lsw, ax_kc_s, ax_kc_n, ax_rf_rf, ax_isR_rf, ct_int, ct_long, ct_ref, ct_null, ct_rf, rf_ref, rf_null, isR_ref, isR_null, va_rf_s, va_rf_n, gv_0, gv_1, gv_2, pv_i, pv_r, pv_n, pv_q, pk_0, pk_2, pk_2n, pk_2q, pk_10, pk_11, rok_i, rok_z0, rok_z1, ex_eq, ex_z, ex_z2, ex_cz, List.filter_cons, List.filter_nil, List.take_succ_cons, List.take_zero, List.drop_succ_cons, List.drop_zero, List.reverse_cons, List.reverse_nil, List.nil_append, List.cons_append, List.append_nil, List.length_cons, List.length_nil, List.map_cons, List.map_nil, List.sum_cons, List.sum_nil, Bool.not_true, Bool.not_false, Bool.and_true, Bool.true_and, Bool.and_false, Bool.false_and, Bool.or_false, Bool.false_or, Bool.true_or, Bool.or_true, beq_self_eq_true, Nat.reduceBEq, Nat.reduceAdd, Nat.reduceSub, Nat.reduceLT, Nat.reduceLeDiff, Nat.reduceEqDiff, Int.reduceAdd, Int.reduceNeg, Int.reduceToNat, Int.reduceLE, Int.reduceNatCast, Int.reduceNatCast', ite_true, ite_false, if_true, if_false, reduceIte, true_and, and_true, false_and, and_false, true_or, or_true, false_or, or_false, Nat.sub_zero, Nat.le_refl, Bool.false_eq_true, Bool.true_eq_false, false_implies, true_implies, implies_true, not_true_eq_false, not_false_eq_true, eq_self, Fin.isValue, Nat.zero_add, Nat.add_zero, and_self, ne_eq, b01, Int32.reduceLT, Int32.reduceLE, z32, z64, vl_0, tl_0, vl_1, tl_1, vl_2, tl_2, vl_3, tl_3, vl_4, tl_4, vl_5, tl_5, vl_6, tl_6, vl_7, tl_7, vl_8, tl_8, vl_9, tl_9, m_X7_laysBack, dX7_laysBack_0, ki_0, dX7_laysBack_1, dX7_laysBack_2, dX7_laysBack_3, kb_10, dX7_laysBack_5, dX7_laysBack_8, dX7_laysBack_9, fl_6_28, dX7_laysBack_12, dX7_laysBack_13, dX7_laysBack_14, fl_6_67, dX7_laysBack_17, dX7_laysBack_18, dX7_laysBack_19, dX7_laysBack_20, ki_1, dX7_laysBack_23, dX7_laysBack_26, M]
  exact lp 10 0 h rfl (Sm_rf _ _) (fun j hj => by omega)
set_option maxRecDepth 100000 in
set_option maxHeartbeats 400000 in
theorem c_X7_mostSoot (T : TopM h) (W : WFB n B) (R : RMB n B h) : AC G jX7_mostSoot 1 0 0 [.ref 100] h (Pu (.int (nI (s_mst B n))) h) := by
  unfold TopM at T
  have h31 := n31 W
  have lp : ∀ (m o : Nat), o + m = n → AW G 6 3 false cX7_mostSoot (Option.some FieldType.int) 1 (Pu (.int (nI (s_mst B n))) h) 0 0 4 [(0, .ref 100), (1, .int (nI (s_mst B o))), (2, .int (nI o))] [] h := by
    intro m
    induction m with
    | zero =>
      intro o ho
      have e : o = n := by omega
      subst e
      refine ax_wp_ok (cuts := [ 4]) 40 ?_
      simp only [lv_args, fn0, fn1, fn2, fn3, ax_wp_s, ax_step, ax_ins, ax_nx, ax_cut, ax_lk, ax_st1, ax_st2, ax_ins0, ax_tg, ax_go, ax_sw, ax_lsw, ax_kc_s, ax_kc_n, ax_rf_rf, ax_isR_rf, ct_int, ct_long, ct_ref, ct_null, ct_rf, rf_ref, rf_null, isR_ref, isR_null, va_rf_s, va_rf_n, gv_0, gv_1, gv_2, pv_i, pv_r, pv_n, pv_q, pk_0, pk_2, pk_2n, pk_2q, pk_10, pk_11, rok_i, rok_z0, rok_z1, ex_eq, ex_z, ex_z2, ex_cz, List.filter_cons, List.filter_nil, List.take_succ_cons, List.take_zero, List.drop_succ_cons, List.drop_zero, List.reverse_cons, List.reverse_nil, List.nil_append, List.cons_append, List.append_nil, List.length_cons, List.length_nil, List.map_cons, List.map_nil, List.sum_cons, List.sum_nil, Bool.not_true, Bool.not_false, Bool.and_true, Bool.true_and, Bool.and_false, Bool.false_and, Bool.or_false, Bool.false_or, Bool.true_or, Bool.or_true, beq_self_eq_true, Nat.reduceBEq, Nat.reduceAdd, Nat.reduceSub, Nat.reduceLT, Nat.reduceLeDiff, Nat.reduceEqDiff, Int.reduceAdd, Int.reduceNeg, Int.reduceToNat, Int.reduceLE, Int.reduceNatCast, Int.reduceNatCast', ite_true, ite_false, if_true, if_false, reduceIte, true_and, and_true, false_and, and_false, true_or, or_true, false_or, or_false, Nat.sub_zero, Nat.le_refl, Bool.false_eq_true, Bool.true_eq_false, false_implies, true_implies, implies_true, not_true_eq_false, not_false_eq_true, eq_self, Fin.isValue, Nat.zero_add, Nat.add_zero, and_self, ne_eq, b01, Int32.reduceLT, Int32.reduceLE, z32, z64, vl_0, tl_0, vl_1, tl_1, vl_2, tl_2, vl_3, tl_3, vl_4, tl_4, vl_5, tl_5, vl_6, tl_6, vl_7, tl_7, vl_8, tl_8, vl_9, tl_9, m_X7_mostSoot, dX7_mostSoot_0, ki_0, dX7_mostSoot_1, dX7_mostSoot_2, dX7_mostSoot_3, dX7_mostSoot_4, dX7_mostSoot_5, dX7_mostSoot_6, fl_6_84, dX7_mostSoot_9, dX7_mostSoot_12, dX7_mostSoot_13, fl_6_28, dX7_mostSoot_16, dX7_mostSoot_17, dX7_mostSoot_18, dX7_mostSoot_19, dX7_mostSoot_22, dX7_mostSoot_23, dX7_mostSoot_26, dX7_mostSoot_27, dX7_mostSoot_28, dX7_mostSoot_31, dX7_mostSoot_32, dX7_mostSoot_33, ki_1, dX7_mostSoot_36, dX7_mostSoot_39, dX7_mostSoot_40, T, Pu, R.1, Int32.le_refl]
    | succ m ih =>
      intro o ho
      have hV : o < n := by omega
      have hlt : ¬ nI n ≤ nI o := nI_ge hV h31
      have hv31 : o < 2 ^ 31 := by have := W.1; omega
      have hc : (nI o).toNatClampNeg = o := nI_clamp hv31
      have hin : vp_in (nI o) 10 := vp_in_nI (by have := W.1; omega) (by decide)
      have hm1 : ¬ nI o = -1 := i_nm1 hv31
      obtain ⟨r0, r1, r2, r3, r4, r5, r6⟩ := R.2 o hV
      obtain ⟨w0, w1, w2, w2b, w3, w4, w5, w6⟩ := W.2 o hV
      have lm := s_mst_le W o (by omega)
      have e6 := nI_leI (a := B o 6) (b := s_mst B o) (by omega) (by omega)
      have := ih (o + 1) (by omega)
      rw [show s_mst B (o + 1) = max (s_mst B o) (B o 6) from rfl] at this
      refine ax_wp_ok (cuts := [ 4]) 40 ?_
      simp only [lv_args, fn0, fn1, fn2, fn3, ax_wp_s, ax_step, ax_ins, ax_nx, ax_cut, ax_lk, ax_st1, ax_st2, ax_ins0, ax_tg, ax_go, ax_sw, ax_lsw, ax_kc_s, ax_kc_n, ax_rf_rf, ax_isR_rf, ct_int, ct_long, ct_ref, ct_null, ct_rf, rf_ref, rf_null, isR_ref, isR_null, va_rf_s, va_rf_n, gv_0, gv_1, gv_2, pv_i, pv_r, pv_n, pv_q, pk_0, pk_2, pk_2n, pk_2q, pk_10, pk_11, rok_i, rok_z0, rok_z1, ex_eq, ex_z, ex_z2, ex_cz, List.filter_cons, List.filter_nil, List.take_succ_cons, List.take_zero, List.drop_succ_cons, List.drop_zero, List.reverse_cons, List.reverse_nil, List.nil_append, List.cons_append, List.append_nil, List.length_cons, List.length_nil, List.map_cons, List.map_nil, List.sum_cons, List.sum_nil, Bool.not_true, Bool.not_false, Bool.and_true, Bool.true_and, Bool.and_false, Bool.false_and, Bool.or_false, Bool.false_or, Bool.true_or, Bool.or_true, beq_self_eq_true, Nat.reduceBEq, Nat.reduceAdd, Nat.reduceSub, Nat.reduceLT, Nat.reduceLeDiff, Nat.reduceEqDiff, Int.reduceAdd, Int.reduceNeg, Int.reduceToNat, Int.reduceLE, Int.reduceNatCast, Int.reduceNatCast', ite_true, ite_false, if_true, if_false, reduceIte, true_and, and_true, false_and, and_false, true_or, or_true, false_or, or_false, Nat.sub_zero, Nat.le_refl, Bool.false_eq_true, Bool.true_eq_false, false_implies, true_implies, implies_true, not_true_eq_false, not_false_eq_true, eq_self, Fin.isValue, Nat.zero_add, Nat.add_zero, and_self, ne_eq, b01, Int32.reduceLT, Int32.reduceLE, z32, z64, vl_0, tl_0, vl_1, tl_1, vl_2, tl_2, vl_3, tl_3, vl_4, tl_4, vl_5, tl_5, vl_6, tl_6, vl_7, tl_7, vl_8, tl_8, vl_9, tl_9, m_X7_mostSoot, dX7_mostSoot_0, ki_0, dX7_mostSoot_1, dX7_mostSoot_2, dX7_mostSoot_3, dX7_mostSoot_4, dX7_mostSoot_5, dX7_mostSoot_6, fl_6_84, dX7_mostSoot_9, dX7_mostSoot_12, dX7_mostSoot_13, fl_6_28, dX7_mostSoot_16, dX7_mostSoot_17, dX7_mostSoot_18, dX7_mostSoot_19, dX7_mostSoot_22, dX7_mostSoot_23, dX7_mostSoot_26, dX7_mostSoot_27, dX7_mostSoot_28, dX7_mostSoot_31, dX7_mostSoot_32, dX7_mostSoot_33, ki_1, dX7_mostSoot_36, dX7_mostSoot_39, dX7_mostSoot_40, T, R.1, hlt, hc, hin, r6, nI_1, e6]
      refine ⟨fun z => ?_, fun z => ?_⟩
      · rw [Nat.max_eq_left z] at this
        exact this
      · rw [Nat.max_eq_right (by omega)] at this
        exact this
  refine ax_intro 6 false cdX7_mostSoot (by decide +kernel) (by decide +kernel) (by decide +kernel) (Nat.le_of_ble_eq_true rfl) ?_
  refine ax_wp_ok (cuts := [ 4]) 30 ?_
  simp only [lv_args, fn0, fn1, fn2, fn3, ax_wp_s, ax_step, ax_ins, ax_nx, ax_cut, ax_lk, ax_st1, ax_st2, ax_ins0, ax_tg, ax_go, ax_sw, ax_lsw, ax_kc_s, ax_kc_n, ax_rf_rf, ax_isR_rf, ct_int, ct_long, ct_ref, ct_null, ct_rf, rf_ref, rf_null, isR_ref, isR_null, va_rf_s, va_rf_n, gv_0, gv_1, gv_2, pv_i, pv_r, pv_n, pv_q, pk_0, pk_2, pk_2n, pk_2q, pk_10, pk_11, rok_i, rok_z0, rok_z1, ex_eq, ex_z, ex_z2, ex_cz, List.filter_cons, List.filter_nil, List.take_succ_cons, List.take_zero, List.drop_succ_cons, List.drop_zero, List.reverse_cons, List.reverse_nil, List.nil_append, List.cons_append, List.append_nil, List.length_cons, List.length_nil, List.map_cons, List.map_nil, List.sum_cons, List.sum_nil, Bool.not_true, Bool.not_false, Bool.and_true, Bool.true_and, Bool.and_false, Bool.false_and, Bool.or_false, Bool.false_or, Bool.true_or, Bool.or_true, beq_self_eq_true, Nat.reduceBEq, Nat.reduceAdd, Nat.reduceSub, Nat.reduceLT, Nat.reduceLeDiff, Nat.reduceEqDiff, Int.reduceAdd, Int.reduceNeg, Int.reduceToNat, Int.reduceLE, Int.reduceNatCast, Int.reduceNatCast', ite_true, ite_false, if_true, if_false, reduceIte, true_and, and_true, false_and, and_false, true_or, or_true, false_or, or_false, Nat.sub_zero, Nat.le_refl, Bool.false_eq_true, Bool.true_eq_false, false_implies, true_implies, implies_true, not_true_eq_false, not_false_eq_true, eq_self, Fin.isValue, Nat.zero_add, Nat.add_zero, and_self, ne_eq, b01, Int32.reduceLT, Int32.reduceLE, z32, z64, vl_0, tl_0, vl_1, tl_1, vl_2, tl_2, vl_3, tl_3, vl_4, tl_4, vl_5, tl_5, vl_6, tl_6, vl_7, tl_7, vl_8, tl_8, vl_9, tl_9, m_X7_mostSoot, dX7_mostSoot_0, ki_0, dX7_mostSoot_1, dX7_mostSoot_2, dX7_mostSoot_3, dX7_mostSoot_4, dX7_mostSoot_5, dX7_mostSoot_6, fl_6_84, dX7_mostSoot_9, dX7_mostSoot_12, dX7_mostSoot_13, fl_6_28, dX7_mostSoot_16, dX7_mostSoot_17, dX7_mostSoot_18, dX7_mostSoot_19, dX7_mostSoot_22, dX7_mostSoot_23, dX7_mostSoot_26, dX7_mostSoot_27, dX7_mostSoot_28, dX7_mostSoot_31, dX7_mostSoot_32, dX7_mostSoot_33, ki_1, dX7_mostSoot_36, dX7_mostSoot_39, dX7_mostSoot_40, T]
  exact lp n 0 (by omega)
set_option maxRecDepth 100000 in
set_option maxHeartbeats 400000 in
theorem c_X7_below (T : TopM h) (W : WFB n B) (R : RMB n B h) {k : Nat} (hk : k < n) : AC G jX7_below 1 0 0 [.ref 100, .int (nI k)] h (Pu (.int (nI (s_bel B k 0 n) - 1)) h) := by
  unfold TopM at T
  have h31 := n31 W
  have lp : ∀ (m o : Nat), o + m = n → AW G 6 3 false cX7_below (Option.some FieldType.int) 1 (Pu (.int (nI (s_bel B k o m) - 1)) h) 0 0 2 [(0, .ref 100), (1, .int (nI k)), (2, .int (nI o))] [] h := by
    intro m
    induction m with
    | zero =>
      intro o ho
      have e : o = n := by omega
      subst e
      refine ax_wp_ok (cuts := [ 2]) 40 ?_
      simp only [lv_args, fn0, fn1, fn2, fn3, ax_wp_s, ax_step, ax_ins, ax_nx, ax_cut, ax_lk, ax_st1, ax_st2, ax_ins0, ax_tg, ax_go, ax_sw, ax_lsw, ax_kc_s, ax_kc_n, ax_rf_rf, ax_isR_rf, ct_int, ct_long, ct_ref, ct_null, ct_rf, rf_ref, rf_null, isR_ref, isR_null, va_rf_s, va_rf_n, gv_0, gv_1, gv_2, pv_i, pv_r, pv_n, pv_q, pk_0, pk_2, pk_2n, pk_2q, pk_10, pk_11, rok_i, rok_z0, rok_z1, ex_eq, ex_z, ex_z2, ex_cz, List.filter_cons, List.filter_nil, List.take_succ_cons, List.take_zero, List.drop_succ_cons, List.drop_zero, List.reverse_cons, List.reverse_nil, List.nil_append, List.cons_append, List.append_nil, List.length_cons, List.length_nil, List.map_cons, List.map_nil, List.sum_cons, List.sum_nil, Bool.not_true, Bool.not_false, Bool.and_true, Bool.true_and, Bool.and_false, Bool.false_and, Bool.or_false, Bool.false_or, Bool.true_or, Bool.or_true, beq_self_eq_true, Nat.reduceBEq, Nat.reduceAdd, Nat.reduceSub, Nat.reduceLT, Nat.reduceLeDiff, Nat.reduceEqDiff, Int.reduceAdd, Int.reduceNeg, Int.reduceToNat, Int.reduceLE, Int.reduceNatCast, Int.reduceNatCast', ite_true, ite_false, if_true, if_false, reduceIte, true_and, and_true, false_and, and_false, true_or, or_true, false_or, or_false, Nat.sub_zero, Nat.le_refl, Bool.false_eq_true, Bool.true_eq_false, false_implies, true_implies, implies_true, not_true_eq_false, not_false_eq_true, eq_self, Fin.isValue, Nat.zero_add, Nat.add_zero, and_self, ne_eq, b01, Int32.reduceLT, Int32.reduceLE, z32, z64, vl_0, tl_0, vl_1, tl_1, vl_2, tl_2, vl_3, tl_3, vl_4, tl_4, vl_5, tl_5, vl_6, tl_6, vl_7, tl_7, vl_8, tl_8, vl_9, tl_9, m_X7_below, dX7_below_0, ki_0, dX7_below_1, dX7_below_2, dX7_below_3, dX7_below_4, fl_6_84, dX7_below_7, dX7_below_10, dX7_below_11, fl_6_7, dX7_below_14, dX7_below_15, dX7_below_16, dX7_below_17, dX7_below_20, dX7_below_21, dX7_below_22, ki_1, dX7_below_25, dX7_below_28, ki_m1, dX7_below_29, T, Pu, R.1, Int32.le_refl]
      rfl
    | succ m ih =>
      intro o ho
      have hV : o < n := by omega
      have hlt : ¬ nI n ≤ nI o := nI_ge hV h31
      have hv31 : o < 2 ^ 31 := by have := W.1; omega
      have hc : (nI o).toNatClampNeg = o := nI_clamp hv31
      have hin : vp_in (nI o) 10 := vp_in_nI (by have := W.1; omega) (by decide)
      have hm1 : ¬ nI o = -1 := i_nm1 hv31
      obtain ⟨r0, r1, r2, r3, r4, r5, r6⟩ := R.2 o hV
      obtain ⟨w0, w1, w2, w2b, w3, w4, w5, w6⟩ := W.2 o hV
      have key : (nI (B o 0) - 1 = nI k) ↔ B o 0 = k + 1 := by
        cases hB : B o 0 with
        | zero => rw [i_m1m]; exact ⟨fun z => absurd z.symm (i_nm1 (by omega)), fun z => by omega⟩
        | succ w =>
          rw [i_m1, nI_eq (by omega) (by omega)]
          omega
      have := ih (o + 1) (by omega)
      refine ax_wp_ok (cuts := [ 2]) 40 ?_
      simp only [lv_args, fn0, fn1, fn2, fn3, ax_wp_s, ax_step, ax_ins, ax_nx, ax_cut, ax_lk, ax_st1, ax_st2, ax_ins0, ax_tg, ax_go, ax_sw, ax_lsw, ax_kc_s, ax_kc_n, ax_rf_rf, ax_isR_rf, ct_int, ct_long, ct_ref, ct_null, ct_rf, rf_ref, rf_null, isR_ref, isR_null, va_rf_s, va_rf_n, gv_0, gv_1, gv_2, pv_i, pv_r, pv_n, pv_q, pk_0, pk_2, pk_2n, pk_2q, pk_10, pk_11, rok_i, rok_z0, rok_z1, ex_eq, ex_z, ex_z2, ex_cz, List.filter_cons, List.filter_nil, List.take_succ_cons, List.take_zero, List.drop_succ_cons, List.drop_zero, List.reverse_cons, List.reverse_nil, List.nil_append, List.cons_append, List.append_nil, List.length_cons, List.length_nil, List.map_cons, List.map_nil, List.sum_cons, List.sum_nil, Bool.not_true, Bool.not_false, Bool.and_true, Bool.true_and, Bool.and_false, Bool.false_and, Bool.or_false, Bool.false_or, Bool.true_or, Bool.or_true, beq_self_eq_true, Nat.reduceBEq, Nat.reduceAdd, Nat.reduceSub, Nat.reduceLT, Nat.reduceLeDiff, Nat.reduceEqDiff, Int.reduceAdd, Int.reduceNeg, Int.reduceToNat, Int.reduceLE, Int.reduceNatCast, Int.reduceNatCast', ite_true, ite_false, if_true, if_false, reduceIte, true_and, and_true, false_and, and_false, true_or, or_true, false_or, or_false, Nat.sub_zero, Nat.le_refl, Bool.false_eq_true, Bool.true_eq_false, false_implies, true_implies, implies_true, not_true_eq_false, not_false_eq_true, eq_self, Fin.isValue, Nat.zero_add, Nat.add_zero, and_self, ne_eq, b01, Int32.reduceLT, Int32.reduceLE, z32, z64, vl_0, tl_0, vl_1, tl_1, vl_2, tl_2, vl_3, tl_3, vl_4, tl_4, vl_5, tl_5, vl_6, tl_6, vl_7, tl_7, vl_8, tl_8, vl_9, tl_9, m_X7_below, dX7_below_0, ki_0, dX7_below_1, dX7_below_2, dX7_below_3, dX7_below_4, fl_6_84, dX7_below_7, dX7_below_10, dX7_below_11, fl_6_7, dX7_below_14, dX7_below_15, dX7_below_16, dX7_below_17, dX7_below_20, dX7_below_21, dX7_below_22, ki_1, dX7_below_25, dX7_below_28, ki_m1, dX7_below_29, T, Pu, R.1, hlt, hc, hin, r0, nI_1, key]
      rw [show s_bel B k o (m + 1) = if B o 0 = k + 1 then o + 1 else s_bel B k (o + 1) m from rfl]
      refine ⟨fun z => ?_, fun z => ?_⟩
      · rw [if_neg z]
        exact this
      · rw [if_pos z, i_m1]
  refine ax_intro 6 false cdX7_below (by decide +kernel) (by decide +kernel) (by decide +kernel) (Nat.le_of_ble_eq_true rfl) ?_
  refine ax_wp_ok (cuts := [ 2]) 30 ?_
  simp only [lv_args, fn0, fn1, fn2, fn3, ax_wp_s, ax_step, ax_ins, ax_nx, ax_cut, ax_lk, ax_st1, ax_st2, ax_ins0, ax_tg, ax_go, ax_sw, ax_lsw, ax_kc_s, ax_kc_n, ax_rf_rf, ax_isR_rf, ct_int, ct_long, ct_ref, ct_null, ct_rf, rf_ref, rf_null, isR_ref, isR_null, va_rf_s, va_rf_n, gv_0, gv_1, gv_2, pv_i, pv_r, pv_n, pv_q, pk_0, pk_2, pk_2n, pk_2q, pk_10, pk_11, rok_i, rok_z0, rok_z1, ex_eq, ex_z, ex_z2, ex_cz, List.filter_cons, List.filter_nil, List.take_succ_cons, List.take_zero, List.drop_succ_cons, List.drop_zero, List.reverse_cons, List.reverse_nil, List.nil_append, List.cons_append, List.append_nil, List.length_cons, List.length_nil, List.map_cons, List.map_nil, List.sum_cons, List.sum_nil, Bool.not_true, Bool.not_false, Bool.and_true, Bool.true_and, Bool.and_false, Bool.false_and, Bool.or_false, Bool.false_or, Bool.true_or, Bool.or_true, beq_self_eq_true, Nat.reduceBEq, Nat.reduceAdd, Nat.reduceSub, Nat.reduceLT, Nat.reduceLeDiff, Nat.reduceEqDiff, Int.reduceAdd, Int.reduceNeg, Int.reduceToNat, Int.reduceLE, Int.reduceNatCast, Int.reduceNatCast', ite_true, ite_false, if_true, if_false, reduceIte, true_and, and_true, false_and, and_false, true_or, or_true, false_or, or_false, Nat.sub_zero, Nat.le_refl, Bool.false_eq_true, Bool.true_eq_false, false_implies, true_implies, implies_true, not_true_eq_false, not_false_eq_true, eq_self, Fin.isValue, Nat.zero_add, Nat.add_zero, and_self, ne_eq, b01, Int32.reduceLT, Int32.reduceLE, z32, z64, vl_0, tl_0, vl_1, tl_1, vl_2, tl_2, vl_3, tl_3, vl_4, tl_4, vl_5, tl_5, vl_6, tl_6, vl_7, tl_7, vl_8, tl_8, vl_9, tl_9, m_X7_below, dX7_below_0, ki_0, dX7_below_1, dX7_below_2, dX7_below_3, dX7_below_4, fl_6_84, dX7_below_7, dX7_below_10, dX7_below_11, fl_6_7, dX7_below_14, dX7_below_15, dX7_below_16, dX7_below_17, dX7_below_20, dX7_below_21, dX7_below_22, ki_1, dX7_below_25, dX7_below_28, ki_m1, dX7_below_29, T]
  exact lp n 0 (by omega)
set_option maxRecDepth 100000 in
set_option maxHeartbeats 400000 in
theorem c_X7_drawOf (T : TopM h) (W : WFB n B) (R : RMB n B h) {k wd : Nat} (hk : k < n) : AC G jX7_drawOf 3 0 0 [.ref 100, .int (nI k), .int (nI wd)] h (Pu (.int (Int32.ofInt (s_drw B (s_fl B (k + 1)) - wd))) h) := by
  have T' := T
  unfold TopM at T
  have lp : ∀ (u : Nat) (z : Int), u ≤ n → z + s_drw B (s_fl B u) = s_drw B (s_fl B (k + 1)) - wd → AW G 6 5 false cX7_drawOf (Option.some FieldType.int) 3 (Pu (.int (Int32.ofInt (s_drw B (s_fl B (k + 1)) - wd))) h) 0 0 6 [(0, .ref 100), (1, .int (nI k)), (2, .int (nI wd)), (3, .int (Int32.ofInt z)), (4, .int (nI u - 1))] [] h := by
    intro u
    induction u using Nat.strongRecOn with
    | _ u ih =>
      intro z hu ha
      cases u with
      | zero =>
        refine ax_wp_ok (cuts := [ 6]) 40 ?_
        simp only [lv_args, fn0, fn1, fn2, fn3, ax_wp_s, ax_step, ax_ins, ax_nx, ax_cut, ax_lk, ax_st1, ax_st2, ax_ins0, ax_tg, ax_go, ax_sw, ax_lsw, ax_kc_s, ax_kc_n, ax_rf_rf, ax_isR_rf, ct_int, ct_long, ct_ref, ct_null, ct_rf, rf_ref, rf_null, isR_ref, isR_null, va_rf_s, va_rf_n, gv_0, gv_1, gv_2, pv_i, pv_r, pv_n, pv_q, pk_0, pk_2, pk_2n, pk_2q, pk_10, pk_11, rok_i, rok_z0, rok_z1, ex_eq, ex_z, ex_z2, ex_cz, List.filter_cons, List.filter_nil, List.take_succ_cons, List.take_zero, List.drop_succ_cons, List.drop_zero, List.reverse_cons, List.reverse_nil, List.nil_append, List.cons_append, List.append_nil, List.length_cons, List.length_nil, List.map_cons, List.map_nil, List.sum_cons, List.sum_nil, Bool.not_true, Bool.not_false, Bool.and_true, Bool.true_and, Bool.and_false, Bool.false_and, Bool.or_false, Bool.false_or, Bool.true_or, Bool.or_true, beq_self_eq_true, Nat.reduceBEq, Nat.reduceAdd, Nat.reduceSub, Nat.reduceLT, Nat.reduceLeDiff, Nat.reduceEqDiff, Int.reduceAdd, Int.reduceNeg, Int.reduceToNat, Int.reduceLE, Int.reduceNatCast, Int.reduceNatCast', ite_true, ite_false, if_true, if_false, reduceIte, true_and, and_true, false_and, and_false, true_or, or_true, false_or, or_false, Nat.sub_zero, Nat.le_refl, Bool.false_eq_true, Bool.true_eq_false, false_implies, true_implies, implies_true, not_true_eq_false, not_false_eq_true, eq_self, Fin.isValue, Nat.zero_add, Nat.add_zero, and_self, ne_eq, b01, Int32.reduceLT, Int32.reduceLE, z32, z64, vl_0, tl_0, vl_1, tl_1, vl_2, tl_2, vl_3, tl_3, vl_4, tl_4, vl_5, tl_5, vl_6, tl_6, vl_7, tl_7, vl_8, tl_8, vl_9, tl_9, m_X7_drawOf, dX7_drawOf_0, dX7_drawOf_1, dX7_drawOf_2, dX7_drawOf_3, dX7_drawOf_4, dX7_drawOf_6, dX7_drawOf_8, ki_m1, dX7_drawOf_9, dX7_drawOf_12, dX7_drawOf_13, ki_5, dX7_drawOf_14, dX7_drawOf_15, fl_6_16, dX7_drawOf_18, dX7_drawOf_20, dX7_drawOf_21, dX7_drawOf_22, ki_2, dX7_drawOf_23, dX7_drawOf_24, fl_6_22, dX7_drawOf_27, dX7_drawOf_29, dX7_drawOf_30, dX7_drawOf_31, dX7_drawOf_32, kb_9, dX7_drawOf_34, dX7_drawOf_35, dX7_drawOf_37, cl_6_179, dX7_drawOf_40, dX7_drawOf_41, dX7_drawOf_42, dX7_drawOf_43, dX7_drawOf_44, dX7_drawOf_45, fl_6_7, dX7_drawOf_48, dX7_drawOf_50, dX7_drawOf_51, dX7_drawOf_53, dX7_drawOf_56, dX7_drawOf_57, T, Pu, i_m1m]
        rw [← ha]
        rw [show s_drw B (s_fl B 0) = 0 from rfl, Int.add_zero]
      | succ v =>
        have hV : v < n := by omega
        have hv31 : v < 2 ^ 31 := by have := W.1; omega
        have hc : (nI v).toNatClampNeg = v := nI_clamp hv31
        have hin : vp_in (nI v) 10 := vp_in_nI (by have := W.1; omega) (by decide)
        have hm1 : ¬ nI v = -1 := i_nm1 hv31
        obtain ⟨r0, r1, r2, r3, r4, r5, r6⟩ := R.2 v hV
        obtain ⟨w0, w1, w2, w2b, w3, w4, w5, w6⟩ := W.2 v hV
        rw [i_m1]
        refine ax_wp_ok (cuts := [ 6]) 60 ?_
        simp only [lv_args, fn0, fn1, fn2, fn3, ax_wp_s, ax_step, ax_ins, ax_nx, ax_cut, ax_lk, ax_st1, ax_st2, ax_ins0, ax_tg, ax_go, ax_sw, ax_lsw, ax_kc_s, ax_kc_n, ax_rf_rf, ax_isR_rf, ct_int, ct_long, ct_ref, ct_null, ct_rf, rf_ref, rf_null, isR_ref, isR_null, va_rf_s, va_rf_n, gv_0, gv_1, gv_2, pv_i, pv_r, pv_n, pv_q, pk_0, pk_2, pk_2n, pk_2q, pk_10, pk_11, rok_i, rok_z0, rok_z1, ex_eq, ex_z, ex_z2, ex_cz, List.filter_cons, List.filter_nil, List.take_succ_cons, List.take_zero, List.drop_succ_cons, List.drop_zero, List.reverse_cons, List.reverse_nil, List.nil_append, List.cons_append, List.append_nil, List.length_cons, List.length_nil, List.map_cons, List.map_nil, List.sum_cons, List.sum_nil, Bool.not_true, Bool.not_false, Bool.and_true, Bool.true_and, Bool.and_false, Bool.false_and, Bool.or_false, Bool.false_or, Bool.true_or, Bool.or_true, beq_self_eq_true, Nat.reduceBEq, Nat.reduceAdd, Nat.reduceSub, Nat.reduceLT, Nat.reduceLeDiff, Nat.reduceEqDiff, Int.reduceAdd, Int.reduceNeg, Int.reduceToNat, Int.reduceLE, Int.reduceNatCast, Int.reduceNatCast', ite_true, ite_false, if_true, if_false, reduceIte, true_and, and_true, false_and, and_false, true_or, or_true, false_or, or_false, Nat.sub_zero, Nat.le_refl, Bool.false_eq_true, Bool.true_eq_false, false_implies, true_implies, implies_true, not_true_eq_false, not_false_eq_true, eq_self, Fin.isValue, Nat.zero_add, Nat.add_zero, and_self, ne_eq, b01, Int32.reduceLT, Int32.reduceLE, z32, z64, vl_0, tl_0, vl_1, tl_1, vl_2, tl_2, vl_3, tl_3, vl_4, tl_4, vl_5, tl_5, vl_6, tl_6, vl_7, tl_7, vl_8, tl_8, vl_9, tl_9, m_X7_drawOf, dX7_drawOf_0, dX7_drawOf_1, dX7_drawOf_2, dX7_drawOf_3, dX7_drawOf_4, dX7_drawOf_6, dX7_drawOf_8, ki_m1, dX7_drawOf_9, dX7_drawOf_12, dX7_drawOf_13, ki_5, dX7_drawOf_14, dX7_drawOf_15, fl_6_16, dX7_drawOf_18, dX7_drawOf_20, dX7_drawOf_21, dX7_drawOf_22, ki_2, dX7_drawOf_23, dX7_drawOf_24, fl_6_22, dX7_drawOf_27, dX7_drawOf_29, dX7_drawOf_30, dX7_drawOf_31, dX7_drawOf_32, kb_9, dX7_drawOf_34, dX7_drawOf_35, dX7_drawOf_37, cl_6_179, dX7_drawOf_40, dX7_drawOf_41, dX7_drawOf_42, dX7_drawOf_43, dX7_drawOf_44, dX7_drawOf_45, fl_6_7, dX7_drawOf_48, dX7_drawOf_50, dX7_drawOf_51, dX7_drawOf_53, dX7_drawOf_56, dX7_drawOf_57, T, hc, hin, hm1, r2, r4]
        refine ax_pu (c_X7_is T' W R hV) (by decide) ?_
        simp only [lv_args, fn0, fn1, fn2, fn3, ax_wp_s, ax_step, ax_ins, ax_nx, ax_cut, ax_lk, ax_st1, ax_st2, ax_ins0, ax_tg, ax_go, ax_sw, ax_lsw, ax_kc_s, ax_kc_n, ax_rf_rf, ax_isR_rf, ct_int, ct_long, ct_ref, ct_null, ct_rf, rf_ref, rf_null, isR_ref, isR_null, va_rf_s, va_rf_n, gv_0, gv_1, gv_2, pv_i, pv_r, pv_n, pv_q, pk_0, pk_2, pk_2n, pk_2q, pk_10, pk_11, rok_i, rok_z0, rok_z1, ex_eq, ex_z, ex_z2, ex_cz, List.filter_cons, List.filter_nil, List.take_succ_cons, List.take_zero, List.drop_succ_cons, List.drop_zero, List.reverse_cons, List.reverse_nil, List.nil_append, List.cons_append, List.append_nil, List.length_cons, List.length_nil, List.map_cons, List.map_nil, List.sum_cons, List.sum_nil, Bool.not_true, Bool.not_false, Bool.and_true, Bool.true_and, Bool.and_false, Bool.false_and, Bool.or_false, Bool.false_or, Bool.true_or, Bool.or_true, beq_self_eq_true, Nat.reduceBEq, Nat.reduceAdd, Nat.reduceSub, Nat.reduceLT, Nat.reduceLeDiff, Nat.reduceEqDiff, Int.reduceAdd, Int.reduceNeg, Int.reduceToNat, Int.reduceLE, Int.reduceNatCast, Int.reduceNatCast', ite_true, ite_false, if_true, if_false, reduceIte, true_and, and_true, false_and, and_false, true_or, or_true, false_or, or_false, Nat.sub_zero, Nat.le_refl, Bool.false_eq_true, Bool.true_eq_false, false_implies, true_implies, implies_true, not_true_eq_false, not_false_eq_true, eq_self, Fin.isValue, Nat.zero_add, Nat.add_zero, and_self, ne_eq, b01, Int32.reduceLT, Int32.reduceLE, z32, z64, vl_0, tl_0, vl_1, tl_1, vl_2, tl_2, vl_3, tl_3, vl_4, tl_4, vl_5, tl_5, vl_6, tl_6, vl_7, tl_7, vl_8, tl_8, vl_9, tl_9, m_X7_drawOf, dX7_drawOf_0, dX7_drawOf_1, dX7_drawOf_2, dX7_drawOf_3, dX7_drawOf_4, dX7_drawOf_6, dX7_drawOf_8, ki_m1, dX7_drawOf_9, dX7_drawOf_12, dX7_drawOf_13, ki_5, dX7_drawOf_14, dX7_drawOf_15, fl_6_16, dX7_drawOf_18, dX7_drawOf_20, dX7_drawOf_21, dX7_drawOf_22, ki_2, dX7_drawOf_23, dX7_drawOf_24, fl_6_22, dX7_drawOf_27, dX7_drawOf_29, dX7_drawOf_30, dX7_drawOf_31, dX7_drawOf_32, kb_9, dX7_drawOf_34, dX7_drawOf_35, dX7_drawOf_37, cl_6_179, dX7_drawOf_40, dX7_drawOf_41, dX7_drawOf_42, dX7_drawOf_43, dX7_drawOf_44, dX7_drawOf_45, fl_6_7, dX7_drawOf_48, dX7_drawOf_50, dX7_drawOf_51, dX7_drawOf_53, dX7_drawOf_56, dX7_drawOf_57, T, hc, hin, r0, oi_drw]
        refine ih (B v 0) (by omega) _ (by omega) ?_
        rw [← ha, s_fl_s W hV, s_drw_c]
        omega
  refine ax_intro 6 false cdX7_drawOf (by decide +kernel) (by decide +kernel) (by decide +kernel) (Nat.le_of_ble_eq_true rfl) ?_
  refine ax_wp_ok (cuts := [ 6]) 30 ?_
  simp only [lv_args, fn0, fn1, fn2, fn3, ax_wp_s, ax_step, ax_ins, ax_nx, ax_cut, ax_lk, ax_st1, ax_st2, ax_ins0, ax_tg, ax_go, ax_sw, ax_lsw, ax_kc_s, ax_kc_n, ax_rf_rf, ax_isR_rf, ct_int, ct_long, ct_ref, ct_null, ct_rf, rf_ref, rf_null, isR_ref, isR_null, va_rf_s, va_rf_n, gv_0, gv_1, gv_2, pv_i, pv_r, pv_n, pv_q, pk_0, pk_2, pk_2n, pk_2q, pk_10, pk_11, rok_i, rok_z0, rok_z1, ex_eq, ex_z, ex_z2, ex_cz, List.filter_cons, List.filter_nil, List.take_succ_cons, List.take_zero, List.drop_succ_cons, List.drop_zero, List.reverse_cons, List.reverse_nil, List.nil_append, List.cons_append, List.append_nil, List.length_cons, List.length_nil, List.map_cons, List.map_nil, List.sum_cons, List.sum_nil, Bool.not_true, Bool.not_false, Bool.and_true, Bool.true_and, Bool.and_false, Bool.false_and, Bool.or_false, Bool.false_or, Bool.true_or, Bool.or_true, beq_self_eq_true, Nat.reduceBEq, Nat.reduceAdd, Nat.reduceSub, Nat.reduceLT, Nat.reduceLeDiff, Nat.reduceEqDiff, Int.reduceAdd, Int.reduceNeg, Int.reduceToNat, Int.reduceLE, Int.reduceNatCast, Int.reduceNatCast', ite_true, ite_false, if_true, if_false, reduceIte, true_and, and_true, false_and, and_false, true_or, or_true, false_or, or_false, Nat.sub_zero, Nat.le_refl, Bool.false_eq_true, Bool.true_eq_false, false_implies, true_implies, implies_true, not_true_eq_false, not_false_eq_true, eq_self, Fin.isValue, Nat.zero_add, Nat.add_zero, and_self, ne_eq, b01, Int32.reduceLT, Int32.reduceLE, z32, z64, vl_0, tl_0, vl_1, tl_1, vl_2, tl_2, vl_3, tl_3, vl_4, tl_4, vl_5, tl_5, vl_6, tl_6, vl_7, tl_7, vl_8, tl_8, vl_9, tl_9, m_X7_drawOf, dX7_drawOf_0, dX7_drawOf_1, dX7_drawOf_2, dX7_drawOf_3, dX7_drawOf_4, dX7_drawOf_6, dX7_drawOf_8, ki_m1, dX7_drawOf_9, dX7_drawOf_12, dX7_drawOf_13, ki_5, dX7_drawOf_14, dX7_drawOf_15, fl_6_16, dX7_drawOf_18, dX7_drawOf_20, dX7_drawOf_21, dX7_drawOf_22, ki_2, dX7_drawOf_23, dX7_drawOf_24, fl_6_22, dX7_drawOf_27, dX7_drawOf_29, dX7_drawOf_30, dX7_drawOf_31, dX7_drawOf_32, kb_9, dX7_drawOf_34, dX7_drawOf_35, dX7_drawOf_37, cl_6_179, dX7_drawOf_40, dX7_drawOf_41, dX7_drawOf_42, dX7_drawOf_43, dX7_drawOf_44, dX7_drawOf_45, fl_6_7, dX7_drawOf_48, dX7_drawOf_50, dX7_drawOf_51, dX7_drawOf_53, dX7_drawOf_56, dX7_drawOf_57, T]
  have := lp (k + 1) (-(wd : Int)) (by omega) (by omega)
  rw [i_m1, Int32.ofInt_neg, ← oi_n] at this
  exact this
set_option maxRecDepth 100000 in
set_option maxHeartbeats 400000 in
theorem c_X7_fireplacesOf (T : TopM h) (W : WFB n B) (R : RMB n B h) {b : Nat} (hb : b < n) : AC G jX7_fireplacesOf 4 0 0 [.ref 100, .int (nI b)] h (Pu (.int (s_mask n (fun f => s_fp n B f && decide (b ∈ s_fl B (f + 1))))) h) := by
  have T' := T
  unfold TopM at T
  have h31 := n31 W
  have lp : ∀ (m o : Nat), o + m = n → AW G 6 4 false cX7_fireplacesOf (Option.some FieldType.int) 4 (Pu (.int (s_mask n (fun f => s_fp n B f && decide (b ∈ s_fl B (f + 1))))) h) 0 0 4 [(0, .ref 100), (1, .int (nI b)), (2, .int (s_mask o (fun f => s_fp n B f && decide (b ∈ s_fl B (f + 1))))), (3, .int (nI o))] [] h := by
    intro m
    induction m with
    | zero =>
      intro o ho
      have e : o = n := by omega
      subst e
      refine ax_wp_ok (cuts := [ 4]) 40 ?_
      simp only [lv_args, fn0, fn1, fn2, fn3, ax_wp_s, ax_step, ax_ins, ax_nx, ax_cut, ax_lk, ax_st1, ax_st2, ax_ins0, ax_tg, ax_go, ax_sw, ax_lsw, ax_kc_s, ax_kc_n, ax_rf_rf, ax_isR_rf, ct_int, ct_long, ct_ref, ct_null, ct_rf, rf_ref, rf_null, isR_ref, isR_null, va_rf_s, va_rf_n, gv_0, gv_1, gv_2, pv_i, pv_r, pv_n, pv_q, pk_0, pk_2, pk_2n, pk_2q, pk_10, pk_11, rok_i, rok_z0, rok_z1, ex_eq, ex_z, ex_z2, ex_cz, List.filter_cons, List.filter_nil, List.take_succ_cons, List.take_zero, List.drop_succ_cons, List.drop_zero, List.reverse_cons, List.reverse_nil, List.nil_append, List.cons_append, List.append_nil, List.length_cons, List.length_nil, List.map_cons, List.map_nil, List.sum_cons, List.sum_nil, Bool.not_true, Bool.not_false, Bool.and_true, Bool.true_and, Bool.and_false, Bool.false_and, Bool.or_false, Bool.false_or, Bool.true_or, Bool.or_true, beq_self_eq_true, Nat.reduceBEq, Nat.reduceAdd, Nat.reduceSub, Nat.reduceLT, Nat.reduceLeDiff, Nat.reduceEqDiff, Int.reduceAdd, Int.reduceNeg, Int.reduceToNat, Int.reduceLE, Int.reduceNatCast, Int.reduceNatCast', ite_true, ite_false, if_true, if_false, reduceIte, true_and, and_true, false_and, and_false, true_or, or_true, false_or, or_false, Nat.sub_zero, Nat.le_refl, Bool.false_eq_true, Bool.true_eq_false, false_implies, true_implies, implies_true, not_true_eq_false, not_false_eq_true, eq_self, Fin.isValue, Nat.zero_add, Nat.add_zero, and_self, ne_eq, b01, Int32.reduceLT, Int32.reduceLE, z32, z64, vl_0, tl_0, vl_1, tl_1, vl_2, tl_2, vl_3, tl_3, vl_4, tl_4, vl_5, tl_5, vl_6, tl_6, vl_7, tl_7, vl_8, tl_8, vl_9, tl_9, m_X7_fireplacesOf, dX7_fireplacesOf_0, ki_0, dX7_fireplacesOf_1, dX7_fireplacesOf_2, dX7_fireplacesOf_3, dX7_fireplacesOf_4, dX7_fireplacesOf_5, dX7_fireplacesOf_6, fl_6_84, dX7_fireplacesOf_9, dX7_fireplacesOf_12, dX7_fireplacesOf_13, dX7_fireplacesOf_14, dX7_fireplacesOf_15, cl_6_95, dX7_fireplacesOf_18, dX7_fireplacesOf_21, dX7_fireplacesOf_22, dX7_fireplacesOf_23, cl_6_196, dX7_fireplacesOf_26, dX7_fireplacesOf_27, dX7_fireplacesOf_28, ki_1, dX7_fireplacesOf_29, dX7_fireplacesOf_30, dX7_fireplacesOf_31, dX7_fireplacesOf_34, dX7_fireplacesOf_35, dX7_fireplacesOf_36, dX7_fireplacesOf_37, dX7_fireplacesOf_40, dX7_fireplacesOf_41, dX7_fireplacesOf_42, dX7_fireplacesOf_43, dX7_fireplacesOf_46, dX7_fireplacesOf_49, dX7_fireplacesOf_50, T, Pu, R.1, Int32.le_refl]
    | succ m ih =>
      intro o ho
      have hV : o < n := by omega
      have hlt : ¬ nI n ≤ nI o := nI_ge hV h31
      have hw10 := W.1
      have this := ih (o + 1) (by omega)
      rw [s_mask_s] at this
      refine ax_wp_ok (cuts := [ 4]) 60 ?_
      simp only [lv_args, fn0, fn1, fn2, fn3, ax_wp_s, ax_step, ax_ins, ax_nx, ax_cut, ax_lk, ax_st1, ax_st2, ax_ins0, ax_tg, ax_go, ax_sw, ax_lsw, ax_kc_s, ax_kc_n, ax_rf_rf, ax_isR_rf, ct_int, ct_long, ct_ref, ct_null, ct_rf, rf_ref, rf_null, isR_ref, isR_null, va_rf_s, va_rf_n, gv_0, gv_1, gv_2, pv_i, pv_r, pv_n, pv_q, pk_0, pk_2, pk_2n, pk_2q, pk_10, pk_11, rok_i, rok_z0, rok_z1, ex_eq, ex_z, ex_z2, ex_cz, List.filter_cons, List.filter_nil, List.take_succ_cons, List.take_zero, List.drop_succ_cons, List.drop_zero, List.reverse_cons, List.reverse_nil, List.nil_append, List.cons_append, List.append_nil, List.length_cons, List.length_nil, List.map_cons, List.map_nil, List.sum_cons, List.sum_nil, Bool.not_true, Bool.not_false, Bool.and_true, Bool.true_and, Bool.and_false, Bool.false_and, Bool.or_false, Bool.false_or, Bool.true_or, Bool.or_true, beq_self_eq_true, Nat.reduceBEq, Nat.reduceAdd, Nat.reduceSub, Nat.reduceLT, Nat.reduceLeDiff, Nat.reduceEqDiff, Int.reduceAdd, Int.reduceNeg, Int.reduceToNat, Int.reduceLE, Int.reduceNatCast, Int.reduceNatCast', ite_true, ite_false, if_true, if_false, reduceIte, true_and, and_true, false_and, and_false, true_or, or_true, false_or, or_false, Nat.sub_zero, Nat.le_refl, Bool.false_eq_true, Bool.true_eq_false, false_implies, true_implies, implies_true, not_true_eq_false, not_false_eq_true, eq_self, Fin.isValue, Nat.zero_add, Nat.add_zero, and_self, ne_eq, b01, Int32.reduceLT, Int32.reduceLE, z32, z64, vl_0, tl_0, vl_1, tl_1, vl_2, tl_2, vl_3, tl_3, vl_4, tl_4, vl_5, tl_5, vl_6, tl_6, vl_7, tl_7, vl_8, tl_8, vl_9, tl_9, m_X7_fireplacesOf, dX7_fireplacesOf_0, ki_0, dX7_fireplacesOf_1, dX7_fireplacesOf_2, dX7_fireplacesOf_3, dX7_fireplacesOf_4, dX7_fireplacesOf_5, dX7_fireplacesOf_6, fl_6_84, dX7_fireplacesOf_9, dX7_fireplacesOf_12, dX7_fireplacesOf_13, dX7_fireplacesOf_14, dX7_fireplacesOf_15, cl_6_95, dX7_fireplacesOf_18, dX7_fireplacesOf_21, dX7_fireplacesOf_22, dX7_fireplacesOf_23, cl_6_196, dX7_fireplacesOf_26, dX7_fireplacesOf_27, dX7_fireplacesOf_28, ki_1, dX7_fireplacesOf_29, dX7_fireplacesOf_30, dX7_fireplacesOf_31, dX7_fireplacesOf_34, dX7_fireplacesOf_35, dX7_fireplacesOf_36, dX7_fireplacesOf_37, dX7_fireplacesOf_40, dX7_fireplacesOf_41, dX7_fireplacesOf_42, dX7_fireplacesOf_43, dX7_fireplacesOf_46, dX7_fireplacesOf_49, dX7_fireplacesOf_50, T, R.1, hlt]
      refine ax_pu (c_X7_isFireplace_n T' W R hV) (by decide) ?_
      simp only [lv_args, fn0, fn1, fn2, fn3, ax_wp_s, ax_step, ax_ins, ax_nx, ax_cut, ax_lk, ax_st1, ax_st2, ax_ins0, ax_tg, ax_go, ax_sw, ax_lsw, ax_kc_s, ax_kc_n, ax_rf_rf, ax_isR_rf, ct_int, ct_long, ct_ref, ct_null, ct_rf, rf_ref, rf_null, isR_ref, isR_null, va_rf_s, va_rf_n, gv_0, gv_1, gv_2, pv_i, pv_r, pv_n, pv_q, pk_0, pk_2, pk_2n, pk_2q, pk_10, pk_11, rok_i, rok_z0, rok_z1, ex_eq, ex_z, ex_z2, ex_cz, List.filter_cons, List.filter_nil, List.take_succ_cons, List.take_zero, List.drop_succ_cons, List.drop_zero, List.reverse_cons, List.reverse_nil, List.nil_append, List.cons_append, List.append_nil, List.length_cons, List.length_nil, List.map_cons, List.map_nil, List.sum_cons, List.sum_nil, Bool.not_true, Bool.not_false, Bool.and_true, Bool.true_and, Bool.and_false, Bool.false_and, Bool.or_false, Bool.false_or, Bool.true_or, Bool.or_true, beq_self_eq_true, Nat.reduceBEq, Nat.reduceAdd, Nat.reduceSub, Nat.reduceLT, Nat.reduceLeDiff, Nat.reduceEqDiff, Int.reduceAdd, Int.reduceNeg, Int.reduceToNat, Int.reduceLE, Int.reduceNatCast, Int.reduceNatCast', ite_true, ite_false, if_true, if_false, reduceIte, true_and, and_true, false_and, and_false, true_or, or_true, false_or, or_false, Nat.sub_zero, Nat.le_refl, Bool.false_eq_true, Bool.true_eq_false, false_implies, true_implies, implies_true, not_true_eq_false, not_false_eq_true, eq_self, Fin.isValue, Nat.zero_add, Nat.add_zero, and_self, ne_eq, b01, Int32.reduceLT, Int32.reduceLE, z32, z64, vl_0, tl_0, vl_1, tl_1, vl_2, tl_2, vl_3, tl_3, vl_4, tl_4, vl_5, tl_5, vl_6, tl_6, vl_7, tl_7, vl_8, tl_8, vl_9, tl_9, m_X7_fireplacesOf, dX7_fireplacesOf_0, ki_0, dX7_fireplacesOf_1, dX7_fireplacesOf_2, dX7_fireplacesOf_3, dX7_fireplacesOf_4, dX7_fireplacesOf_5, dX7_fireplacesOf_6, fl_6_84, dX7_fireplacesOf_9, dX7_fireplacesOf_12, dX7_fireplacesOf_13, dX7_fireplacesOf_14, dX7_fireplacesOf_15, cl_6_95, dX7_fireplacesOf_18, dX7_fireplacesOf_21, dX7_fireplacesOf_22, dX7_fireplacesOf_23, cl_6_196, dX7_fireplacesOf_26, dX7_fireplacesOf_27, dX7_fireplacesOf_28, ki_1, dX7_fireplacesOf_29, dX7_fireplacesOf_30, dX7_fireplacesOf_31, dX7_fireplacesOf_34, dX7_fireplacesOf_35, dX7_fireplacesOf_36, dX7_fireplacesOf_37, dX7_fireplacesOf_40, dX7_fireplacesOf_41, dX7_fireplacesOf_42, dX7_fireplacesOf_43, dX7_fireplacesOf_46, dX7_fireplacesOf_49, dX7_fireplacesOf_50, T, nI_1, or_0]
      refine ⟨fun z => ?_, fun z => ?_⟩
      · rw [if_neg (by simp [z])] at this
        exact this
      · refine ax_pu (c_X7_flueOf T' W R hV) (by decide) ?_
        rw [Decidable.not_not] at z
        have hs := s_bt_shr (s_set (s_fl B (o + 1)) 0) (b := b) (by omega)
        rw [s_bt_set (s_fl B (o + 1)) 0 (fun c hc => by have := s_fl_lt W (o + 1) c (by omega) hc; omega), s_bt_0, Bool.false_or] at hs
        simp only [lv_args, fn0, fn1, fn2, fn3, ax_wp_s, ax_step, ax_ins, ax_nx, ax_cut, ax_lk, ax_st1, ax_st2, ax_ins0, ax_tg, ax_go, ax_sw, ax_lsw, ax_kc_s, ax_kc_n, ax_rf_rf, ax_isR_rf, ct_int, ct_long, ct_ref, ct_null, ct_rf, rf_ref, rf_null, isR_ref, isR_null, va_rf_s, va_rf_n, gv_0, gv_1, gv_2, pv_i, pv_r, pv_n, pv_q, pk_0, pk_2, pk_2n, pk_2q, pk_10, pk_11, rok_i, rok_z0, rok_z1, ex_eq, ex_z, ex_z2, ex_cz, List.filter_cons, List.filter_nil, List.take_succ_cons, List.take_zero, List.drop_succ_cons, List.drop_zero, List.reverse_cons, List.reverse_nil, List.nil_append, List.cons_append, List.append_nil, List.length_cons, List.length_nil, List.map_cons, List.map_nil, List.sum_cons, List.sum_nil, Bool.not_true, Bool.not_false, Bool.and_true, Bool.true_and, Bool.and_false, Bool.false_and, Bool.or_false, Bool.false_or, Bool.true_or, Bool.or_true, beq_self_eq_true, Nat.reduceBEq, Nat.reduceAdd, Nat.reduceSub, Nat.reduceLT, Nat.reduceLeDiff, Nat.reduceEqDiff, Int.reduceAdd, Int.reduceNeg, Int.reduceToNat, Int.reduceLE, Int.reduceNatCast, Int.reduceNatCast', ite_true, ite_false, if_true, if_false, reduceIte, true_and, and_true, false_and, and_false, true_or, or_true, false_or, or_false, Nat.sub_zero, Nat.le_refl, Bool.false_eq_true, Bool.true_eq_false, false_implies, true_implies, implies_true, not_true_eq_false, not_false_eq_true, eq_self, Fin.isValue, Nat.zero_add, Nat.add_zero, and_self, ne_eq, b01, Int32.reduceLT, Int32.reduceLE, z32, z64, vl_0, tl_0, vl_1, tl_1, vl_2, tl_2, vl_3, tl_3, vl_4, tl_4, vl_5, tl_5, vl_6, tl_6, vl_7, tl_7, vl_8, tl_8, vl_9, tl_9, m_X7_fireplacesOf, dX7_fireplacesOf_0, ki_0, dX7_fireplacesOf_1, dX7_fireplacesOf_2, dX7_fireplacesOf_3, dX7_fireplacesOf_4, dX7_fireplacesOf_5, dX7_fireplacesOf_6, fl_6_84, dX7_fireplacesOf_9, dX7_fireplacesOf_12, dX7_fireplacesOf_13, dX7_fireplacesOf_14, dX7_fireplacesOf_15, cl_6_95, dX7_fireplacesOf_18, dX7_fireplacesOf_21, dX7_fireplacesOf_22, dX7_fireplacesOf_23, cl_6_196, dX7_fireplacesOf_26, dX7_fireplacesOf_27, dX7_fireplacesOf_28, ki_1, dX7_fireplacesOf_29, dX7_fireplacesOf_30, dX7_fireplacesOf_31, dX7_fireplacesOf_34, dX7_fireplacesOf_35, dX7_fireplacesOf_36, dX7_fireplacesOf_37, dX7_fireplacesOf_40, dX7_fireplacesOf_41, dX7_fireplacesOf_42, dX7_fireplacesOf_43, dX7_fireplacesOf_46, dX7_fireplacesOf_49, dX7_fireplacesOf_50, T, nI_1, or_0, hs]
        by_cases hm : b ∈ s_fl B (o + 1)
        · rw [if_pos (by simp [z, hm])] at this
          simp only [hm, decide_true, if_true, not_true_eq_false, false_implies, true_implies, and_true, true_and, eq_self]
          exact this
        · rw [if_neg (by simp [hm])] at this
          have e01 : ((0 : Int32) = 1) = False := eq_false (by decide)
          simp only [hm, decide_false, Bool.false_eq_true, if_false, e01, not_false_eq_true, true_implies, false_implies, and_true]
          exact this
  refine ax_intro 6 false cdX7_fireplacesOf (by decide +kernel) (by decide +kernel) (by decide +kernel) (Nat.le_of_ble_eq_true rfl) ?_
  refine ax_wp_ok (cuts := [ 4]) 30 ?_
  simp only [lv_args, fn0, fn1, fn2, fn3, ax_wp_s, ax_step, ax_ins, ax_nx, ax_cut, ax_lk, ax_st1, ax_st2, ax_ins0, ax_tg, ax_go, ax_sw, ax_lsw, ax_kc_s, ax_kc_n, ax_rf_rf, ax_isR_rf, ct_int, ct_long, ct_ref, ct_null, ct_rf, rf_ref, rf_null, isR_ref, isR_null, va_rf_s, va_rf_n, gv_0, gv_1, gv_2, pv_i, pv_r, pv_n, pv_q, pk_0, pk_2, pk_2n, pk_2q, pk_10, pk_11, rok_i, rok_z0, rok_z1, ex_eq, ex_z, ex_z2, ex_cz, List.filter_cons, List.filter_nil, List.take_succ_cons, List.take_zero, List.drop_succ_cons, List.drop_zero, List.reverse_cons, List.reverse_nil, List.nil_append, List.cons_append, List.append_nil, List.length_cons, List.length_nil, List.map_cons, List.map_nil, List.sum_cons, List.sum_nil, Bool.not_true, Bool.not_false, Bool.and_true, Bool.true_and, Bool.and_false, Bool.false_and, Bool.or_false, Bool.false_or, Bool.true_or, Bool.or_true, beq_self_eq_true, Nat.reduceBEq, Nat.reduceAdd, Nat.reduceSub, Nat.reduceLT, Nat.reduceLeDiff, Nat.reduceEqDiff, Int.reduceAdd, Int.reduceNeg, Int.reduceToNat, Int.reduceLE, Int.reduceNatCast, Int.reduceNatCast', ite_true, ite_false, if_true, if_false, reduceIte, true_and, and_true, false_and, and_false, true_or, or_true, false_or, or_false, Nat.sub_zero, Nat.le_refl, Bool.false_eq_true, Bool.true_eq_false, false_implies, true_implies, implies_true, not_true_eq_false, not_false_eq_true, eq_self, Fin.isValue, Nat.zero_add, Nat.add_zero, and_self, ne_eq, b01, Int32.reduceLT, Int32.reduceLE, z32, z64, vl_0, tl_0, vl_1, tl_1, vl_2, tl_2, vl_3, tl_3, vl_4, tl_4, vl_5, tl_5, vl_6, tl_6, vl_7, tl_7, vl_8, tl_8, vl_9, tl_9, m_X7_fireplacesOf, dX7_fireplacesOf_0, ki_0, dX7_fireplacesOf_1, dX7_fireplacesOf_2, dX7_fireplacesOf_3, dX7_fireplacesOf_4, dX7_fireplacesOf_5, dX7_fireplacesOf_6, fl_6_84, dX7_fireplacesOf_9, dX7_fireplacesOf_12, dX7_fireplacesOf_13, dX7_fireplacesOf_14, dX7_fireplacesOf_15, cl_6_95, dX7_fireplacesOf_18, dX7_fireplacesOf_21, dX7_fireplacesOf_22, dX7_fireplacesOf_23, cl_6_196, dX7_fireplacesOf_26, dX7_fireplacesOf_27, dX7_fireplacesOf_28, ki_1, dX7_fireplacesOf_29, dX7_fireplacesOf_30, dX7_fireplacesOf_31, dX7_fireplacesOf_34, dX7_fireplacesOf_35, dX7_fireplacesOf_36, dX7_fireplacesOf_37, dX7_fireplacesOf_40, dX7_fireplacesOf_41, dX7_fireplacesOf_42, dX7_fireplacesOf_43, dX7_fireplacesOf_46, dX7_fireplacesOf_49, dX7_fireplacesOf_50, T]
  exact lp n 0 (by omega)
set_option maxRecDepth 100000 in
set_option maxHeartbeats 400000 in
theorem c_X7_heavyAt (W : WC n B T r X E) (R : RC n B T r X E h) {k rods : Nat} (hk : k < n) (hl : rods < 100) : AC G jX7_heavyAt 5 0 0 [.ref 100, .int (nI k), .int (nI rods)] h (fun v h' => v = some (.int (nI (s_hv (s_L X E r) B (s_fl B (k + 1)) rods) - 1)) ∧ Sm [131, 132] h h') := by
  have M := R.1
  unfold TopM at M
  refine ax_intro 6 false cdX7_heavyAt (by decide +kernel) (by decide +kernel) (by decide +kernel) (Nat.le_of_ble_eq_true rfl) ?_
  refine ax_wp_ok (cuts := []) 30 ?_
  simp only [lv_args, fn0, fn1, fn2, fn3, ax_wp_s, ax_step, ax_ins, ax_nx, ax_cut, ax_lk, ax_st1, ax_st2, ax_ins0, ax_tg, ax_go, ax_sw, ax_lsw, ax_kc_s, ax_kc_n, ax_rf_rf, ax_isR_rf, ct_int, ct_long, ct_ref, ct_null, ct_rf, rf_ref, rf_null, isR_ref, isR_null, va_rf_s, va_rf_n, gv_0, gv_1, gv_2, pv_i, pv_r, pv_n, pv_q, pk_0, pk_2, pk_2n, pk_2q, pk_10, pk_11, rok_i, rok_z0, rok_z1, ex_eq, ex_z, ex_z2, ex_cz, List.filter_cons, List.filter_nil, List.take_succ_cons, List.take_zero, List.drop_succ_cons, List.drop_zero, List.reverse_cons, List.reverse_nil, List.nil_append, List.cons_append, List.append_nil, List.length_cons, List.length_nil, List.map_cons, List.map_nil, List.sum_cons, List.sum_nil, Bool.not_true, Bool.not_false, Bool.and_true, Bool.true_and, Bool.and_false, Bool.false_and, Bool.or_false, Bool.false_or, Bool.true_or, Bool.or_true, beq_self_eq_true, Nat.reduceBEq, Nat.reduceAdd, Nat.reduceSub, Nat.reduceLT, Nat.reduceLeDiff, Nat.reduceEqDiff, Int.reduceAdd, Int.reduceNeg, Int.reduceToNat, Int.reduceLE, Int.reduceNatCast, Int.reduceNatCast', ite_true, ite_false, if_true, if_false, reduceIte, true_and, and_true, false_and, and_false, true_or, or_true, false_or, or_false, Nat.sub_zero, Nat.le_refl, Bool.false_eq_true, Bool.true_eq_false, false_implies, true_implies, implies_true, not_true_eq_false, not_false_eq_true, eq_self, Fin.isValue, Nat.zero_add, Nat.add_zero, and_self, ne_eq, b01, Int32.reduceLT, Int32.reduceLE, z32, z64, vl_0, tl_0, vl_1, tl_1, vl_2, tl_2, vl_3, tl_3, vl_4, tl_4, vl_5, tl_5, vl_6, tl_6, vl_7, tl_7, vl_8, tl_8, vl_9, tl_9, m_X7_heavyAt, dX7_heavyAt_0, dX7_heavyAt_1, dX7_heavyAt_2, dX7_heavyAt_3, cl_6_208, dX7_heavyAt_6, dX7_heavyAt_7, dX7_heavyAt_8, ki_m1, dX7_heavyAt_9, dX7_heavyAt_12, dX7_heavyAt_13, dX7_heavyAt_16, dX7_heavyAt_17, dX7_heavyAt_18, cl_6_211, dX7_heavyAt_21, M]
  refine ax_pu (c_X7_reached R.1 W.1 R.2.1 hk hl) (by decide) ?_
  simp only [lv_args, fn0, fn1, fn2, fn3, ax_wp_s, ax_step, ax_ins, ax_nx, ax_cut, ax_lk, ax_st1, ax_st2, ax_ins0, ax_tg, ax_go, ax_sw, ax_lsw, ax_kc_s, ax_kc_n, ax_rf_rf, ax_isR_rf, ct_int, ct_long, ct_ref, ct_null, ct_rf, rf_ref, rf_null, isR_ref, isR_null, va_rf_s, va_rf_n, gv_0, gv_1, gv_2, pv_i, pv_r, pv_n, pv_q, pk_0, pk_2, pk_2n, pk_2q, pk_10, pk_11, rok_i, rok_z0, rok_z1, ex_eq, ex_z, ex_z2, ex_cz, List.filter_cons, List.filter_nil, List.take_succ_cons, List.take_zero, List.drop_succ_cons, List.drop_zero, List.reverse_cons, List.reverse_nil, List.nil_append, List.cons_append, List.append_nil, List.length_cons, List.length_nil, List.map_cons, List.map_nil, List.sum_cons, List.sum_nil, Bool.not_true, Bool.not_false, Bool.and_true, Bool.true_and, Bool.and_false, Bool.false_and, Bool.or_false, Bool.false_or, Bool.true_or, Bool.or_true, beq_self_eq_true, Nat.reduceBEq, Nat.reduceAdd, Nat.reduceSub, Nat.reduceLT, Nat.reduceLeDiff, Nat.reduceEqDiff, Int.reduceAdd, Int.reduceNeg, Int.reduceToNat, Int.reduceLE, Int.reduceNatCast, Int.reduceNatCast', ite_true, ite_false, if_true, if_false, reduceIte, true_and, and_true, false_and, and_false, true_or, or_true, false_or, or_false, Nat.sub_zero, Nat.le_refl, Bool.false_eq_true, Bool.true_eq_false, false_implies, true_implies, implies_true, not_true_eq_false, not_false_eq_true, eq_self, Fin.isValue, Nat.zero_add, Nat.add_zero, and_self, ne_eq, b01, Int32.reduceLT, Int32.reduceLE, z32, z64, vl_0, tl_0, vl_1, tl_1, vl_2, tl_2, vl_3, tl_3, vl_4, tl_4, vl_5, tl_5, vl_6, tl_6, vl_7, tl_7, vl_8, tl_8, vl_9, tl_9, m_X7_heavyAt, dX7_heavyAt_0, dX7_heavyAt_1, dX7_heavyAt_2, dX7_heavyAt_3, cl_6_208, dX7_heavyAt_6, dX7_heavyAt_7, dX7_heavyAt_8, ki_m1, dX7_heavyAt_9, dX7_heavyAt_12, dX7_heavyAt_13, dX7_heavyAt_16, dX7_heavyAt_17, dX7_heavyAt_18, cl_6_211, dX7_heavyAt_21, M]
  unfold s_hv
  rcases s_rch_in B (s_fl B (k + 1)) rods with z | ⟨c, z1, z2⟩
  · rw [z]
    simp only [i_m1m, not_true_eq_false, false_implies, true_implies, and_true, true_and, eq_self, if_true]
    exact Sm_rf _ _
  · have hc := s_fl_lt W.1 (k + 1) c (by omega) z1
    rw [z2, i_m1]
    have hm1 : ¬ nI c = -1 := i_nm1 (by have := W.1.1; omega)
    simp only [hm1, not_false_eq_true, false_implies, true_implies, and_true, true_and]
    refine ax_cv (c_X7_heavy R.1 W.1 R.2.1 W.2 R.2.2 (show c < n by omega)) (by decide) (fun h2 S2 => ?_)
    simp only [lv_args, fn0, fn1, fn2, fn3, ax_wp_s, ax_step, ax_ins, ax_nx, ax_cut, ax_lk, ax_st1, ax_st2, ax_ins0, ax_tg, ax_go, ax_sw, ax_lsw, ax_kc_s, ax_kc_n, ax_rf_rf, ax_isR_rf, ct_int, ct_long, ct_ref, ct_null, ct_rf, rf_ref, rf_null, isR_ref, isR_null, va_rf_s, va_rf_n, gv_0, gv_1, gv_2, pv_i, pv_r, pv_n, pv_q, pk_0, pk_2, pk_2n, pk_2q, pk_10, pk_11, rok_i, rok_z0, rok_z1, ex_eq, ex_z, ex_z2, ex_cz, List.filter_cons, List.filter_nil, List.take_succ_cons, List.take_zero, List.drop_succ_cons, List.drop_zero, List.reverse_cons, List.reverse_nil, List.nil_append, List.cons_append, List.append_nil, List.length_cons, List.length_nil, List.map_cons, List.map_nil, List.sum_cons, List.sum_nil, Bool.not_true, Bool.not_false, Bool.and_true, Bool.true_and, Bool.and_false, Bool.false_and, Bool.or_false, Bool.false_or, Bool.true_or, Bool.or_true, beq_self_eq_true, Nat.reduceBEq, Nat.reduceAdd, Nat.reduceSub, Nat.reduceLT, Nat.reduceLeDiff, Nat.reduceEqDiff, Int.reduceAdd, Int.reduceNeg, Int.reduceToNat, Int.reduceLE, Int.reduceNatCast, Int.reduceNatCast', ite_true, ite_false, if_true, if_false, reduceIte, true_and, and_true, false_and, and_false, true_or, or_true, false_or, or_false, Nat.sub_zero, Nat.le_refl, Bool.false_eq_true, Bool.true_eq_false, false_implies, true_implies, implies_true, not_true_eq_false, not_false_eq_true, eq_self, Fin.isValue, Nat.zero_add, Nat.add_zero, and_self, ne_eq, b01, Int32.reduceLT, Int32.reduceLE, z32, z64, vl_0, tl_0, vl_1, tl_1, vl_2, tl_2, vl_3, tl_3, vl_4, tl_4, vl_5, tl_5, vl_6, tl_6, vl_7, tl_7, vl_8, tl_8, vl_9, tl_9, m_X7_heavyAt, dX7_heavyAt_0, dX7_heavyAt_1, dX7_heavyAt_2, dX7_heavyAt_3, cl_6_208, dX7_heavyAt_6, dX7_heavyAt_7, dX7_heavyAt_8, ki_m1, dX7_heavyAt_9, dX7_heavyAt_12, dX7_heavyAt_13, dX7_heavyAt_16, dX7_heavyAt_17, dX7_heavyAt_18, cl_6_211, dX7_heavyAt_21]
    refine ⟨?_, S2⟩
    rw [i_m1]
    rfl
end MB3
