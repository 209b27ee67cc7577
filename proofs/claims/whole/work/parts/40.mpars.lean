-- deps: 14 15 16 17 18 19 20 21 28 29 30 31 32 37 38 39
/-! the parser's parts: signs held (the last one first), codes -/
def s_rk (c : Nat) : Nat := if c = 0 then 0 else if c = 11 then 1 else if c = 12 then 2 else if c = 13 then 3 else if c ≤ 15 then 4 else if c ≤ 17 then 5 else if c = 18 then 6 else 7
def s_op1 (c : Nat) : Nat := if c = 0 ∨ (c = 13 ∨ c = 19) then 1 else 0
def s_opn : List Nat → Nat
  | [] => 0
  | x :: r => s_op1 x + s_opn r
def s_arN (f : Nat → Int32) : List Nat → Prop
  | [] => True
  | x :: r => f r.length = nI x ∧ s_arN f r
def s_unw (least : Nat) : List Nat → List Nat → List Nat × List Nat
  | [], cs => ([], cs)
  | x :: r, cs => if least ≤ s_rk x then s_unw least r (cs ++ [x]) else (x :: r, cs)
def PST (T : Nat) (F : Nat → Int32) (l cs : List Nat) (h : AH) : Prop := h.2.1 100 12 = nI T ∧ h.2.1 100 28 = nI l.length ∧ s_arN (h.2.1 127) l ∧ h.2.1 100 29 = nI (s_opn l) ∧ h.2.1 100 30 = nI cs.length ∧ ∀ k, k < 200 * T + cs.length → h.2.1 110 k = if k < 200 * T then F k else nI (cs.getD (k - 200 * T) 0)
theorem s_rk_le (c : Nat) : s_rk c ≤ 7 := by
  unfold s_rk
  (repeat' split) <;> omega
theorem s_opn_le : ∀ l : List Nat, s_opn l ≤ l.length
  | [] => Nat.le_refl _
  | x :: r => by
    have := s_opn_le r
    show s_op1 x + s_opn r ≤ r.length + 1
    unfold s_op1
    split <;> omega
theorem s_arN_upd {f : Nat → Int32} {k : Nat} {x : Int32} : ∀ {s : List Nat}, s.length ≤ k → s_arN f s → s_arN (upd f k x) s
  | [], _, _ => trivial
  | y :: r, hk, ha => by
    have hk' : r.length + 1 ≤ k := hk
    exact ⟨by rw [← ha.1]; exact if_neg (by omega), s_arN_upd (by omega) ha.2⟩
theorem s_unw_len (least : Nat) : ∀ (l cs : List Nat), (s_unw least l cs).1.length + (s_unw least l cs).2.length = l.length + cs.length ∧ cs.length ≤ (s_unw least l cs).2.length
  | [], cs => ⟨rfl, Nat.le_refl _⟩
  | x :: r, cs => by
    unfold s_unw
    split
    · have := s_unw_len least r (cs ++ [x])
      rw [List.length_append] at this
      have e1 : [x].length = 1 := rfl
      have e2 : (x :: r).length = r.length + 1 := rfl
      omega
    · exact ⟨rfl, Nat.le_refl _⟩
theorem s_unw_mem (least : Nat) : ∀ (l cs : List Nat), ∀ y ∈ (s_unw least l cs).1, y ∈ l
  | [], cs, y, h => h
  | x :: r, cs, y, h => by
    unfold s_unw at h
    split at h
    · exact List.mem_cons_of_mem _ (s_unw_mem least r _ y h)
    · exact h
theorem PST_Sq {l fs : List Nat} {T : Nat} {F : Nat → Int32} {hl cs : List Nat} {h h' : AH} (S : Sq l fs h h') (P : PST T F hl cs h) (h1 : 110 ∉ l ∧ 127 ∉ l) (h2 : 12 ∉ fs ∧ 28 ∉ fs ∧ 29 ∉ fs ∧ 30 ∉ fs) : PST T F hl cs h' := by
  unfold PST at P ⊢
  rw [S.2.2.2 12 h2.1, S.2.2.2 28 h2.2.1, S.2.2.2 29 h2.2.2.1, S.2.2.2 30 h2.2.2.2, S.2.2.1 127 h1.2 (by decide), S.2.2.1 110 h1.1 (by decide)]
  exact P
theorem PST_lo {T : Nat} {F : Nat → Int32} {l cs : List Nat} {h : AH} (P : PST T F l cs h) : ∀ i, i < 200 * T → h.2.1 110 i = F i := fun i hi => by
  rw [P.2.2.2.2.2 i (by omega), if_pos hi]
/-- the sign of a token between two -/
def s_sg (k : Nat) : Nat := if k = 4 then 11 else if k = 5 then 12 else if k = 60 then 14 else if k = 61 then 15 else if k = 43 then 16 else if k = 45 then 17 else if k = 42 then 18 else 0
section MT3
variable {G : AG} {h : AH} {T : Nat} {F : Nat → Int32}
set_option maxRecDepth 100000 in
set_option maxHeartbeats 400000 in
theorem c_X7_rank {c : Nat} (hc : c < 100) : AC G jX7_rank 1 0 0 [.int (nI c)] h (Pu (.int (nI (s_rk c))) h) := by
  have e0 := i_eqL (a := c) (n := 0) (by omega) (by decide)
  have e1 := i_eqL (a := c) (n := 11) (by omega) (by decide)
  have e2 := i_eqL (a := c) (n := 12) (by omega) (by decide)
  have e3 := i_eqL (a := c) (n := 13) (by omega) (by decide)
  have e4 := i_Llt (a := c) (n := 15) (by omega) (by decide)
  have e5 := i_Llt (a := c) (n := 17) (by omega) (by decide)
  have e6 := i_eqL (a := c) (n := 18) (by omega) (by decide)
  refine ax_intro 6 false cdX7_rank (by decide +kernel) (by decide +kernel) (by decide +kernel) (Nat.le_of_ble_eq_true rfl) ?_
  refine ax_wq_ok (cuts := []) 60 ?_
  (simp only [lv_args, fn0, fn1, fn2, fn3, ax_wq_s, ax_step2, ax_ins2_u, ax_ins, ax_nx, ax_cut, ax_lk, ax_st1, ax_st2, ax_ins0, ax_tg, ax_go, ax_sw2, ax_lsw2, ax_kc_s, ax_kc_n, ax_rf_rf, ax_isR_rf, ct_int, ct_long, ct_ref, ct_null, ct_rf, rf_ref, rf_null, isR_ref, isR_null, va_rf_s, va_rf_n, gv_0, gv_1, gv_2, pv_i, pv_r, pv_n, pv_q, pk_0, pk_2, pk_2n, pk_2q, pk_10, pk_11, rok_i, rok_z0, rok_z1, ex_eq, ex_z, ex_z2, ex_cz, List.filter_cons, List.filter_nil, List.take_succ_cons, List.take_zero, List.drop_succ_cons, List.drop_zero, List.reverse_cons, List.reverse_nil, List.nil_append, List.cons_append, List.append_nil, List.length_cons, List.length_nil, List.map_cons, List.map_nil, List.sum_cons, List.sum_nil, Bool.not_true, Bool.not_false, Bool.and_true, Bool.true_and, Bool.and_false, Bool.false_and, Bool.or_false, Bool.false_or, Bool.true_or, Bool.or_true, beq_self_eq_true, Nat.reduceBEq, Nat.reduceAdd, Nat.reduceSub, Nat.reduceLT, Nat.reduceLeDiff, Nat.reduceEqDiff, Int.reduceAdd, Int.reduceNeg, Int.reduceToNat, Int.reduceLE, Int.reduceNatCast, Int.reduceNatCast', ↓reduceIte, if_true, if_false, true_and, and_true, false_and, and_false, true_or, or_true, false_or, or_false, Nat.sub_zero, Nat.le_refl, Bool.false_eq_true, Bool.true_eq_false, false_implies, true_implies, implies_true, not_true_eq_false, not_false_eq_true, eq_self, Fin.isValue, Nat.zero_add, Nat.add_zero, and_self, ne_eq, b01, Int32.reduceLT, Int32.reduceLE, z32, z64, vl_0, tl_0, vl_1, tl_1, vl_2, tl_2, vl_3, tl_3, vl_4, tl_4, vl_5, tl_5, vl_6, tl_6, vl_7, tl_7, vl_8, tl_8, vl_9, tl_9, Int.reduceSub, Int.reduceEq, Int.reduceLT, m_X7_rank, dX7_rank_0, dX7_rank_1, dX7_rank_4, ki_0, dX7_rank_5, dX7_rank_8, dX7_rank_9, kb_11, dX7_rank_11, dX7_rank_14, ki_1, dX7_rank_15, dX7_rank_18, dX7_rank_19, kb_12, dX7_rank_21, dX7_rank_24, ki_2, dX7_rank_25, dX7_rank_28, dX7_rank_29, kb_13, dX7_rank_31, dX7_rank_34, ki_3, dX7_rank_35, dX7_rank_38, dX7_rank_39, kb_15, dX7_rank_41, dX7_rank_44, ki_4, dX7_rank_45, dX7_rank_48, dX7_rank_49, kb_17, dX7_rank_51, dX7_rank_54, ki_5, dX7_rank_55, dX7_rank_58, dX7_rank_59, kb_18, dX7_rank_61, dX7_rank_64, kb_6, dX7_rank_66, dX7_rank_69, kb_7, dX7_rank_71, Pu, e0, e1, e2, e3, e4, e5, e6]; try simp only [ax_ife, if_true, if_false, true_implies, implies_true, false_implies, and_true, true_and, not_true_eq_false, not_false_eq_true])
  unfold s_rk
  (repeat' (with_reducible (first | apply And.intro | intro _)))
  all_goals ((repeat' split) <;> first | rfl | exact ⟨rfl, rfl⟩ | contradiction | omega)
set_option maxRecDepth 100000 in
set_option maxHeartbeats 400000 in
theorem c_X7_puts (M0 : TopM h) (hT : T < 6) {o c : Nat} (q12 : h.2.1 100 12 = nI T) (q30 : h.2.1 100 30 = nI o) (ho : o < 200) : AC G jX7_puts 1 0 0 [.ref 100, .int (nI c)] h (fun v h' => v = none ∧ h' = ax_setI (ax_setI h 110 (200 * T + o) (nI c)) 100 30 (nI (o + 1))) := by
  have M := M0
  unfold TopM at M
  have f1 : (200 : Int32) * nI T + nI o = nI (200 * T + o) := by
    rw [show (200 : Int32) = nI 200 from rfl, pk_mul, nI_add]
  have f2 : (nI (200 * T + o)).toNatClampNeg = 200 * T + o := nI_clamp (by omega)
  have f3 : vp_in (nI (200 * T + o)) 1200 := vp_in_nI (by omega) (by decide)
  refine ax_intro 6 false cdX7_puts (by decide +kernel) (by decide +kernel) (by decide +kernel) (Nat.le_of_ble_eq_true rfl) ?_
  refine ax_wq_ok (cuts := []) 60 ?_
  (simp only [lv_args, fn0, fn1, fn2, fn3, ax_wq_s, ax_step2, ax_ins2_u, ax_ins, ax_nx, ax_cut, ax_lk, ax_st1, ax_st2, ax_ins0, ax_tg, ax_go, ax_sw2, ax_lsw2, ax_kc_s, ax_kc_n, ax_rf_rf, ax_isR_rf, ct_int, ct_long, ct_ref, ct_null, ct_rf, rf_ref, rf_null, isR_ref, isR_null, va_rf_s, va_rf_n, gv_0, gv_1, gv_2, pv_i, pv_r, pv_n, pv_q, pk_0, pk_2, pk_2n, pk_2q, pk_10, pk_11, rok_i, rok_z0, rok_z1, ex_eq, ex_z, ex_z2, ex_cz, List.filter_cons, List.filter_nil, List.take_succ_cons, List.take_zero, List.drop_succ_cons, List.drop_zero, List.reverse_cons, List.reverse_nil, List.nil_append, List.cons_append, List.append_nil, List.length_cons, List.length_nil, List.map_cons, List.map_nil, List.sum_cons, List.sum_nil, Bool.not_true, Bool.not_false, Bool.and_true, Bool.true_and, Bool.and_false, Bool.false_and, Bool.or_false, Bool.false_or, Bool.true_or, Bool.or_true, beq_self_eq_true, Nat.reduceBEq, Nat.reduceAdd, Nat.reduceSub, Nat.reduceLT, Nat.reduceLeDiff, Nat.reduceEqDiff, Int.reduceAdd, Int.reduceNeg, Int.reduceToNat, Int.reduceLE, Int.reduceNatCast, Int.reduceNatCast', ↓reduceIte, if_true, if_false, true_and, and_true, false_and, and_false, true_or, or_true, false_or, or_false, Nat.sub_zero, Nat.le_refl, Bool.false_eq_true, Bool.true_eq_false, false_implies, true_implies, implies_true, not_true_eq_false, not_false_eq_true, eq_self, Fin.isValue, Nat.zero_add, Nat.add_zero, and_self, ne_eq, b01, Int32.reduceLT, Int32.reduceLE, z32, z64, vl_0, tl_0, vl_1, tl_1, vl_2, tl_2, vl_3, tl_3, vl_4, tl_4, vl_5, tl_5, vl_6, tl_6, vl_7, tl_7, vl_8, tl_8, vl_9, tl_9, Int.reduceSub, Int.reduceEq, Int.reduceLT, m_X7_puts, dX7_puts_0, dX7_puts_1, fl_6_34, dX7_puts_4, ks_200, dX7_puts_7, dX7_puts_8, fl_6_108, dX7_puts_11, dX7_puts_12, dX7_puts_13, fl_6_133, dX7_puts_16, dX7_puts_17, dX7_puts_18, dX7_puts_19, dX7_puts_20, dX7_puts_21, dX7_puts_24, ki_1, dX7_puts_25, dX7_puts_26, dX7_puts_29, M, q12, q30, f1, f2, f3, setI_at, setI_1, setI_22, nI_1]; try simp only [ax_ife, if_true, if_false, true_implies, implies_true, false_implies, and_true, true_and, not_true_eq_false, not_false_eq_true])
theorem PST_put {l cs : List Nat} (P : PST T F l cs h) {x : Nat} : ∀ {h' : AH}, h' = ax_setI (ax_setI h 110 (200 * T + cs.length) (nI x)) 100 30 (nI (cs.length + 1)) → PST T F l (cs ++ [x]) h' := by
  rintro _ rfl
  obtain ⟨p1, p2, p3, p4, p5, p6⟩ := P
  have e1 : (cs ++ [x]).length = cs.length + 1 := by rw [List.length_append]; rfl
  refine ⟨?_, ?_, ?_, ?_, ?_, fun k hk => ?_⟩
  · simp only [setI_at]
    exact p1
  · simp only [setI_at]
    exact p2
  · have : (ax_setI (ax_setI h 110 (200 * T + cs.length) (nI x)) 100 30 (nI (cs.length + 1))).2.1 127 = h.2.1 127 := by
      funext k
      simp only [setI_at]
      rfl
    rw [this]
    exact p3
  · simp only [setI_at]
    exact p4
  · rw [setI_at, if_pos ⟨rfl, rfl⟩, e1]
  · rw [e1] at hk
    rw [setI_at, if_neg (fun y => absurd y.1 (by decide)), setI_at]
    by_cases ek : k = 200 * T + cs.length
    · rw [if_pos ⟨rfl, ek⟩, if_neg (by omega), ek, show 200 * T + cs.length - 200 * T = cs.length by omega, s_getD_r]
    · rw [if_neg (fun y => ek y.2), p6 k (by omega)]
      by_cases e2 : k < 200 * T
      · rw [if_pos e2, if_pos e2]
      · rw [if_neg e2, if_neg e2, s_getD_l (by omega)]
set_option maxRecDepth 100000 in
set_option maxHeartbeats 400000 in
theorem c_X7_unwinds (M0 : TopM h) (hT : T < 6) {least : Nat} (hl1 : 1 ≤ least) (hl7 : least ≤ 7) {l0 cs0 : List Nat} (hsz : l0.length + cs0.length ≤ 190) (hx : ∀ x ∈ l0, x < 100) (P0 : PST T F l0 cs0 h) : AC G jX7_unwinds 2 0 0 [.ref 100, .int (nI least)] h (fun v h' => v = none ∧ Sq [110] [28, 29, 30] h h' ∧ PST T F (s_unw least l0 cs0).1 (s_unw least l0 cs0).2 h') := by
  generalize htt : s_unw least l0 cs0 = tt
  have lp : ∀ (l cs : List Nat) (h1 : AH), l.length + cs.length ≤ 190 → (∀ x ∈ l, x < 100) → Sq [110] [28, 29, 30] h h1 → PST T F l cs h1 → s_unw least l cs = tt → AW G 6 3 false cX7_unwinds (Option.none : Option FieldType) 2 (fun v h' => v = none ∧ Sq [110] [28, 29, 30] h h' ∧ PST T F tt.1 tt.2 h') 0 0 0 [(0, .ref 100), (1, .int (nI least))] [] h1 := by
    intro l
    induction l with
    | nil =>
      intro cs h1 hsz hx S1 P ha
      have M1 := TopM_Sq S1 M0
      unfold TopM at M1
      have q28 : h1.2.1 100 28 = 0 := P.2.1
      have le0 : ((0 : Int32) ≤ 0) = True := eq_true (by decide)
      subst ha
      refine ax_wq_ok (cuts := [ 0]) 60 ?_
      (simp only [lv_args, fn0, fn1, fn2, fn3, ax_wq_s, ax_step2, ax_ins2_u, ax_ins, ax_nx, ax_cut, ax_lk, ax_st1, ax_st2, ax_ins0, ax_tg, ax_go, ax_sw2, ax_lsw2, ax_kc_s, ax_kc_n, ax_rf_rf, ax_isR_rf, ct_int, ct_long, ct_ref, ct_null, ct_rf, rf_ref, rf_null, isR_ref, isR_null, va_rf_s, va_rf_n, gv_0, gv_1, gv_2, pv_i, pv_r, pv_n, pv_q, pk_0, pk_2, pk_2n, pk_2q, pk_10, pk_11, rok_i, rok_z0, rok_z1, ex_eq, ex_z, ex_z2, ex_cz, List.filter_cons, List.filter_nil, List.take_succ_cons, List.take_zero, List.drop_succ_cons, List.drop_zero, List.reverse_cons, List.reverse_nil, List.nil_append, List.cons_append, List.append_nil, List.length_cons, List.length_nil, List.map_cons, List.map_nil, List.sum_cons, List.sum_nil, Bool.not_true, Bool.not_false, Bool.and_true, Bool.true_and, Bool.and_false, Bool.false_and, Bool.or_false, Bool.false_or, Bool.true_or, Bool.or_true, beq_self_eq_true, Nat.reduceBEq, Nat.reduceAdd, Nat.reduceSub, Nat.reduceLT, Nat.reduceLeDiff, Nat.reduceEqDiff, Int.reduceAdd, Int.reduceNeg, Int.reduceToNat, Int.reduceLE, Int.reduceNatCast, Int.reduceNatCast', ↓reduceIte, if_true, if_false, true_and, and_true, false_and, and_false, true_or, or_true, false_or, or_false, Nat.sub_zero, Nat.le_refl, Bool.false_eq_true, Bool.true_eq_false, false_implies, true_implies, implies_true, not_true_eq_false, not_false_eq_true, eq_self, Fin.isValue, Nat.zero_add, Nat.add_zero, and_self, ne_eq, b01, Int32.reduceLT, Int32.reduceLE, z32, z64, vl_0, tl_0, vl_1, tl_1, vl_2, tl_2, vl_3, tl_3, vl_4, tl_4, vl_5, tl_5, vl_6, tl_6, vl_7, tl_7, vl_8, tl_8, vl_9, tl_9, Int.reduceSub, Int.reduceEq, Int.reduceLT, m_X7_unwinds, dX7_unwinds_0, dX7_unwinds_1, fl_6_136, dX7_unwinds_4, dX7_unwinds_7, dX7_unwinds_8, fl_6_58, dX7_unwinds_11, dX7_unwinds_12, dX7_unwinds_15, ki_1, dX7_unwinds_16, dX7_unwinds_17, dX7_unwinds_18, cl_6_139, dX7_unwinds_21, dX7_unwinds_22, dX7_unwinds_25, dX7_unwinds_26, dX7_unwinds_27, dX7_unwinds_30, dX7_unwinds_31, dX7_unwinds_32, dX7_unwinds_35, dX7_unwinds_36, dX7_unwinds_39, dX7_unwinds_40, dX7_unwinds_43, dX7_unwinds_44, dX7_unwinds_45, dX7_unwinds_46, dX7_unwinds_47, fl_6_142, dX7_unwinds_50, dX7_unwinds_51, kb_13, dX7_unwinds_53, dX7_unwinds_56, dX7_unwinds_57, kb_19, dX7_unwinds_59, dX7_unwinds_62, dX7_unwinds_63, dX7_unwinds_66, ki_0, dX7_unwinds_67, dX7_unwinds_68, dX7_unwinds_71, dX7_unwinds_72, dX7_unwinds_73, cl_6_145, dX7_unwinds_76, dX7_unwinds_79, M1, q28, le0]; try simp only [ax_ife, if_true, if_false, true_implies, implies_true, false_implies, and_true, true_and, not_true_eq_false, not_false_eq_true])
      exact ⟨S1, P⟩
    | cons x r ih =>
      intro cs h1 hsz hx S1 P ha
      have M1 := TopM_Sq S1 M0
      have M1' := M1
      unfold TopM at M1
      have el : (x :: r).length = r.length + 1 := rfl
      have hx0 := hx x List.mem_cons_self
      have q28 : h1.2.1 100 28 = nI (r.length + 1) := P.2.1
      have q28m : nI (r.length + 1) - 1 = nI r.length := i_m1 _
      have le0 : (nI (r.length + 1) ≤ 0) = False := eq_false (nI_nle (by omega) (by omega))
      have hc : (nI r.length).toNatClampNeg = r.length := nI_clamp (by omega)
      have hin : vp_in (nI r.length) 200 := vp_in_nI (by omega) (by decide)
      have ev : h1.2.1 127 r.length = nI x := P.2.2.1.1
      have rk := s_rk_le x
      have lk := nI_ltI (a := s_rk x) (b := least) (by omega) (by omega)
      rw [show s_unw least (x :: r) cs = if least ≤ s_rk x then s_unw least r (cs ++ [x]) else (x :: r, cs) from rfl] at ha
      refine ax_wq_ok (cuts := [ 0]) 60 ?_
      (simp only [lv_args, fn0, fn1, fn2, fn3, ax_wq_s, ax_step2, ax_ins2_u, ax_ins, ax_nx, ax_cut, ax_lk, ax_st1, ax_st2, ax_ins0, ax_tg, ax_go, ax_sw2, ax_lsw2, ax_kc_s, ax_kc_n, ax_rf_rf, ax_isR_rf, ct_int, ct_long, ct_ref, ct_null, ct_rf, rf_ref, rf_null, isR_ref, isR_null, va_rf_s, va_rf_n, gv_0, gv_1, gv_2, pv_i, pv_r, pv_n, pv_q, pk_0, pk_2, pk_2n, pk_2q, pk_10, pk_11, rok_i, rok_z0, rok_z1, ex_eq, ex_z, ex_z2, ex_cz, List.filter_cons, List.filter_nil, List.take_succ_cons, List.take_zero, List.drop_succ_cons, List.drop_zero, List.reverse_cons, List.reverse_nil, List.nil_append, List.cons_append, List.append_nil, List.length_cons, List.length_nil, List.map_cons, List.map_nil, List.sum_cons, List.sum_nil, Bool.not_true, Bool.not_false, Bool.and_true, Bool.true_and, Bool.and_false, Bool.false_and, Bool.or_false, Bool.false_or, Bool.true_or, Bool.or_true, beq_self_eq_true, Nat.reduceBEq, Nat.reduceAdd, Nat.reduceSub, Nat.reduceLT, Nat.reduceLeDiff, Nat.reduceEqDiff, Int.reduceAdd, Int.reduceNeg, Int.reduceToNat, Int.reduceLE, Int.reduceNatCast, Int.reduceNatCast', ↓reduceIte, if_true, if_false, true_and, and_true, false_and, and_false, true_or, or_true, false_or, or_false, Nat.sub_zero, Nat.le_refl, Bool.false_eq_true, Bool.true_eq_false, false_implies, true_implies, implies_true, not_true_eq_false, not_false_eq_true, eq_self, Fin.isValue, Nat.zero_add, Nat.add_zero, and_self, ne_eq, b01, Int32.reduceLT, Int32.reduceLE, z32, z64, vl_0, tl_0, vl_1, tl_1, vl_2, tl_2, vl_3, tl_3, vl_4, tl_4, vl_5, tl_5, vl_6, tl_6, vl_7, tl_7, vl_8, tl_8, vl_9, tl_9, Int.reduceSub, Int.reduceEq, Int.reduceLT, m_X7_unwinds, dX7_unwinds_0, dX7_unwinds_1, fl_6_136, dX7_unwinds_4, dX7_unwinds_7, dX7_unwinds_8, fl_6_58, dX7_unwinds_11, dX7_unwinds_12, dX7_unwinds_15, ki_1, dX7_unwinds_16, dX7_unwinds_17, dX7_unwinds_18, cl_6_139, dX7_unwinds_21, dX7_unwinds_22, dX7_unwinds_25, dX7_unwinds_26, dX7_unwinds_27, dX7_unwinds_30, dX7_unwinds_31, dX7_unwinds_32, dX7_unwinds_35, dX7_unwinds_36, dX7_unwinds_39, dX7_unwinds_40, dX7_unwinds_43, dX7_unwinds_44, dX7_unwinds_45, dX7_unwinds_46, dX7_unwinds_47, fl_6_142, dX7_unwinds_50, dX7_unwinds_51, kb_13, dX7_unwinds_53, dX7_unwinds_56, dX7_unwinds_57, kb_19, dX7_unwinds_59, dX7_unwinds_62, dX7_unwinds_63, dX7_unwinds_66, ki_0, dX7_unwinds_67, dX7_unwinds_68, dX7_unwinds_71, dX7_unwinds_72, dX7_unwinds_73, cl_6_145, dX7_unwinds_76, dX7_unwinds_79, M1, q28, q28m, le0, hc, hin, ev]; try simp only [ax_ife, if_true, if_false, true_implies, implies_true, false_implies, and_true, true_and, not_true_eq_false, not_false_eq_true])
      refine ax_pu (c_X7_rank hx0) (by decide) ?_
      by_cases hle : least ≤ s_rk x
      · rw [if_pos hle] at ha
        have lk' := eq_false (fun q => by have := lk.mp q; omega)
        have e13 := i_eqL (a := x) (n := 13) (by omega) (by decide)
        have e19 := i_eqL (a := x) (n := 19) (by omega) (by decide)
        have q29 : h1.2.1 100 29 = nI (s_op1 x + s_opn r) := P.2.2.2.1
        have ole := s_opn_le r
        have ho1 : s_op1 x ≤ 1 := by unfold s_op1; split <;> omega
        have P2 : PST T F r cs (ax_setI (ax_setI h1 100 28 (nI r.length)) 100 29 (nI (s_opn r))) := by
          obtain ⟨p1, p2, p3, p4, p5, p6⟩ := P
          refine ⟨?_, ?_, ?_, ?_, ?_, fun k hk => ?_⟩
          · simp only [setI_at]
            exact p1
          · simp only [setI_at]
            rfl
          · have : (ax_setI (ax_setI h1 100 28 (nI r.length)) 100 29 (nI (s_opn r))).2.1 127 = h1.2.1 127 := by
              funext k
              simp only [setI_at]
              rfl
            rw [this]
            exact p3.2
          · simp only [setI_at]
            rfl
          · simp only [setI_at]
            exact p5
          · simp only [setI_at]
            exact p6 k hk
        have S2 : Sq [110] [28, 29, 30] h (ax_setI (ax_setI h1 100 28 (nI r.length)) 100 29 (nI (s_opn r))) := Sq_f (Sq_f S1 (by decide)) (by decide)
        have hp := c_X7_puts (G := G) (c := x) (TopM_Sq S2 M0) hT P2.1 P2.2.2.2.2.1 (by omega)
        have g := fun h' q => ih (cs ++ [x]) h' (by rw [List.length_append]; have : [x].length = 1 := rfl; omega) (fun y hy => hx y (List.mem_cons_of_mem _ hy)) (by rw [q]; exact Sq_f (Sq_st S2 (.head _) (by decide)) (by decide)) (PST_put P2 q) ha
        by_cases a1 : x = 13
        · have b1 : (nI x = 13) = True := eq_true (e13.mpr a1)
          have o1 : s_op1 x = 1 := by rw [a1]; rfl
          have es : nI (s_op1 x + s_opn r) - 1 = nI (s_opn r) := by rw [o1, Nat.add_comm]; exact i_m1 _
          (simp only [lv_args, fn0, fn1, fn2, fn3, ax_wq_s, ax_step2, ax_ins2_u, ax_ins, ax_nx, ax_cut, ax_lk, ax_st1, ax_st2, ax_ins0, ax_tg, ax_go, ax_sw2, ax_lsw2, ax_kc_s, ax_kc_n, ax_rf_rf, ax_isR_rf, ct_int, ct_long, ct_ref, ct_null, ct_rf, rf_ref, rf_null, isR_ref, isR_null, va_rf_s, va_rf_n, gv_0, gv_1, gv_2, pv_i, pv_r, pv_n, pv_q, pk_0, pk_2, pk_2n, pk_2q, pk_10, pk_11, rok_i, rok_z0, rok_z1, ex_eq, ex_z, ex_z2, ex_cz, List.filter_cons, List.filter_nil, List.take_succ_cons, List.take_zero, List.drop_succ_cons, List.drop_zero, List.reverse_cons, List.reverse_nil, List.nil_append, List.cons_append, List.append_nil, List.length_cons, List.length_nil, List.map_cons, List.map_nil, List.sum_cons, List.sum_nil, Bool.not_true, Bool.not_false, Bool.and_true, Bool.true_and, Bool.and_false, Bool.false_and, Bool.or_false, Bool.false_or, Bool.true_or, Bool.or_true, beq_self_eq_true, Nat.reduceBEq, Nat.reduceAdd, Nat.reduceSub, Nat.reduceLT, Nat.reduceLeDiff, Nat.reduceEqDiff, Int.reduceAdd, Int.reduceNeg, Int.reduceToNat, Int.reduceLE, Int.reduceNatCast, Int.reduceNatCast', ↓reduceIte, if_true, if_false, true_and, and_true, false_and, and_false, true_or, or_true, false_or, or_false, Nat.sub_zero, Nat.le_refl, Bool.false_eq_true, Bool.true_eq_false, false_implies, true_implies, implies_true, not_true_eq_false, not_false_eq_true, eq_self, Fin.isValue, Nat.zero_add, Nat.add_zero, and_self, ne_eq, b01, Int32.reduceLT, Int32.reduceLE, z32, z64, vl_0, tl_0, vl_1, tl_1, vl_2, tl_2, vl_3, tl_3, vl_4, tl_4, vl_5, tl_5, vl_6, tl_6, vl_7, tl_7, vl_8, tl_8, vl_9, tl_9, Int.reduceSub, Int.reduceEq, Int.reduceLT, m_X7_unwinds, dX7_unwinds_0, dX7_unwinds_1, fl_6_136, dX7_unwinds_4, dX7_unwinds_7, dX7_unwinds_8, fl_6_58, dX7_unwinds_11, dX7_unwinds_12, dX7_unwinds_15, ki_1, dX7_unwinds_16, dX7_unwinds_17, dX7_unwinds_18, cl_6_139, dX7_unwinds_21, dX7_unwinds_22, dX7_unwinds_25, dX7_unwinds_26, dX7_unwinds_27, dX7_unwinds_30, dX7_unwinds_31, dX7_unwinds_32, dX7_unwinds_35, dX7_unwinds_36, dX7_unwinds_39, dX7_unwinds_40, dX7_unwinds_43, dX7_unwinds_44, dX7_unwinds_45, dX7_unwinds_46, dX7_unwinds_47, fl_6_142, dX7_unwinds_50, dX7_unwinds_51, kb_13, dX7_unwinds_53, dX7_unwinds_56, dX7_unwinds_57, kb_19, dX7_unwinds_59, dX7_unwinds_62, dX7_unwinds_63, dX7_unwinds_66, ki_0, dX7_unwinds_67, dX7_unwinds_68, dX7_unwinds_71, dX7_unwinds_72, dX7_unwinds_73, cl_6_145, dX7_unwinds_76, dX7_unwinds_79, M1, q28, q28m, lk', hc, hin, ev, q29, b1, es, setI_at, setI_1, setI_22]; try simp only [ax_ife, if_true, if_false, true_implies, implies_true, false_implies, and_true, true_and, not_true_eq_false, not_false_eq_true])
          refine ax_c0 hp (by decide) (fun h' q => ?_)
          (simp only [lv_args, fn0, fn1, fn2, fn3, ax_wq_s, ax_step2, ax_ins2_u, ax_ins, ax_nx, ax_cut, ax_lk, ax_st1, ax_st2, ax_ins0, ax_tg, ax_go, ax_sw2, ax_lsw2, ax_kc_s, ax_kc_n, ax_rf_rf, ax_isR_rf, ct_int, ct_long, ct_ref, ct_null, ct_rf, rf_ref, rf_null, isR_ref, isR_null, va_rf_s, va_rf_n, gv_0, gv_1, gv_2, pv_i, pv_r, pv_n, pv_q, pk_0, pk_2, pk_2n, pk_2q, pk_10, pk_11, rok_i, rok_z0, rok_z1, ex_eq, ex_z, ex_z2, ex_cz, List.filter_cons, List.filter_nil, List.take_succ_cons, List.take_zero, List.drop_succ_cons, List.drop_zero, List.reverse_cons, List.reverse_nil, List.nil_append, List.cons_append, List.append_nil, List.length_cons, List.length_nil, List.map_cons, List.map_nil, List.sum_cons, List.sum_nil, Bool.not_true, Bool.not_false, Bool.and_true, Bool.true_and, Bool.and_false, Bool.false_and, Bool.or_false, Bool.false_or, Bool.true_or, Bool.or_true, beq_self_eq_true, Nat.reduceBEq, Nat.reduceAdd, Nat.reduceSub, Nat.reduceLT, Nat.reduceLeDiff, Nat.reduceEqDiff, Int.reduceAdd, Int.reduceNeg, Int.reduceToNat, Int.reduceLE, Int.reduceNatCast, Int.reduceNatCast', ↓reduceIte, if_true, if_false, true_and, and_true, false_and, and_false, true_or, or_true, false_or, or_false, Nat.sub_zero, Nat.le_refl, Bool.false_eq_true, Bool.true_eq_false, false_implies, true_implies, implies_true, not_true_eq_false, not_false_eq_true, eq_self, Fin.isValue, Nat.zero_add, Nat.add_zero, and_self, ne_eq, b01, Int32.reduceLT, Int32.reduceLE, z32, z64, vl_0, tl_0, vl_1, tl_1, vl_2, tl_2, vl_3, tl_3, vl_4, tl_4, vl_5, tl_5, vl_6, tl_6, vl_7, tl_7, vl_8, tl_8, vl_9, tl_9, Int.reduceSub, Int.reduceEq, Int.reduceLT, m_X7_unwinds, dX7_unwinds_0, dX7_unwinds_1, fl_6_136, dX7_unwinds_4, dX7_unwinds_7, dX7_unwinds_8, fl_6_58, dX7_unwinds_11, dX7_unwinds_12, dX7_unwinds_15, ki_1, dX7_unwinds_16, dX7_unwinds_17, dX7_unwinds_18, cl_6_139, dX7_unwinds_21, dX7_unwinds_22, dX7_unwinds_25, dX7_unwinds_26, dX7_unwinds_27, dX7_unwinds_30, dX7_unwinds_31, dX7_unwinds_32, dX7_unwinds_35, dX7_unwinds_36, dX7_unwinds_39, dX7_unwinds_40, dX7_unwinds_43, dX7_unwinds_44, dX7_unwinds_45, dX7_unwinds_46, dX7_unwinds_47, fl_6_142, dX7_unwinds_50, dX7_unwinds_51, kb_13, dX7_unwinds_53, dX7_unwinds_56, dX7_unwinds_57, kb_19, dX7_unwinds_59, dX7_unwinds_62, dX7_unwinds_63, dX7_unwinds_66, ki_0, dX7_unwinds_67, dX7_unwinds_68, dX7_unwinds_71, dX7_unwinds_72, dX7_unwinds_73, cl_6_145, dX7_unwinds_76, dX7_unwinds_79]; try simp only [ax_ife, if_true, if_false, true_implies, implies_true, false_implies, and_true, true_and, not_true_eq_false, not_false_eq_true])
          exact ax_sub (fun q hq => by simp only [List.mem_cons, List.not_mem_nil, or_false] at hq ⊢; rcases hq with hq | hq <;> simp [hq]) (g h' q)
        · have b1 : (nI x = 13) = False := eq_false (fun q => a1 (e13.mp q))
          by_cases a2 : x = 19
          · have b2 : (nI x = 19) = True := eq_true (e19.mpr a2)
            have o1 : s_op1 x = 1 := by rw [a2]; rfl
            have es : nI (s_op1 x + s_opn r) - 1 = nI (s_opn r) := by rw [o1, Nat.add_comm]; exact i_m1 _
            (simp only [lv_args, fn0, fn1, fn2, fn3, ax_wq_s, ax_step2, ax_ins2_u, ax_ins, ax_nx, ax_cut, ax_lk, ax_st1, ax_st2, ax_ins0, ax_tg, ax_go, ax_sw2, ax_lsw2, ax_kc_s, ax_kc_n, ax_rf_rf, ax_isR_rf, ct_int, ct_long, ct_ref, ct_null, ct_rf, rf_ref, rf_null, isR_ref, isR_null, va_rf_s, va_rf_n, gv_0, gv_1, gv_2, pv_i, pv_r, pv_n, pv_q, pk_0, pk_2, pk_2n, pk_2q, pk_10, pk_11, rok_i, rok_z0, rok_z1, ex_eq, ex_z, ex_z2, ex_cz, List.filter_cons, List.filter_nil, List.take_succ_cons, List.take_zero, List.drop_succ_cons, List.drop_zero, List.reverse_cons, List.reverse_nil, List.nil_append, List.cons_append, List.append_nil, List.length_cons, List.length_nil, List.map_cons, List.map_nil, List.sum_cons, List.sum_nil, Bool.not_true, Bool.not_false, Bool.and_true, Bool.true_and, Bool.and_false, Bool.false_and, Bool.or_false, Bool.false_or, Bool.true_or, Bool.or_true, beq_self_eq_true, Nat.reduceBEq, Nat.reduceAdd, Nat.reduceSub, Nat.reduceLT, Nat.reduceLeDiff, Nat.reduceEqDiff, Int.reduceAdd, Int.reduceNeg, Int.reduceToNat, Int.reduceLE, Int.reduceNatCast, Int.reduceNatCast', ↓reduceIte, if_true, if_false, true_and, and_true, false_and, and_false, true_or, or_true, false_or, or_false, Nat.sub_zero, Nat.le_refl, Bool.false_eq_true, Bool.true_eq_false, false_implies, true_implies, implies_true, not_true_eq_false, not_false_eq_true, eq_self, Fin.isValue, Nat.zero_add, Nat.add_zero, and_self, ne_eq, b01, Int32.reduceLT, Int32.reduceLE, z32, z64, vl_0, tl_0, vl_1, tl_1, vl_2, tl_2, vl_3, tl_3, vl_4, tl_4, vl_5, tl_5, vl_6, tl_6, vl_7, tl_7, vl_8, tl_8, vl_9, tl_9, Int.reduceSub, Int.reduceEq, Int.reduceLT, m_X7_unwinds, dX7_unwinds_0, dX7_unwinds_1, fl_6_136, dX7_unwinds_4, dX7_unwinds_7, dX7_unwinds_8, fl_6_58, dX7_unwinds_11, dX7_unwinds_12, dX7_unwinds_15, ki_1, dX7_unwinds_16, dX7_unwinds_17, dX7_unwinds_18, cl_6_139, dX7_unwinds_21, dX7_unwinds_22, dX7_unwinds_25, dX7_unwinds_26, dX7_unwinds_27, dX7_unwinds_30, dX7_unwinds_31, dX7_unwinds_32, dX7_unwinds_35, dX7_unwinds_36, dX7_unwinds_39, dX7_unwinds_40, dX7_unwinds_43, dX7_unwinds_44, dX7_unwinds_45, dX7_unwinds_46, dX7_unwinds_47, fl_6_142, dX7_unwinds_50, dX7_unwinds_51, kb_13, dX7_unwinds_53, dX7_unwinds_56, dX7_unwinds_57, kb_19, dX7_unwinds_59, dX7_unwinds_62, dX7_unwinds_63, dX7_unwinds_66, ki_0, dX7_unwinds_67, dX7_unwinds_68, dX7_unwinds_71, dX7_unwinds_72, dX7_unwinds_73, cl_6_145, dX7_unwinds_76, dX7_unwinds_79, M1, q28, q28m, lk', hc, hin, ev, q29, b1, b2, es, setI_at, setI_1, setI_22]; try simp only [ax_ife, if_true, if_false, true_implies, implies_true, false_implies, and_true, true_and, not_true_eq_false, not_false_eq_true])
            refine ax_c0 hp (by decide) (fun h' q => ?_)
            (simp only [lv_args, fn0, fn1, fn2, fn3, ax_wq_s, ax_step2, ax_ins2_u, ax_ins, ax_nx, ax_cut, ax_lk, ax_st1, ax_st2, ax_ins0, ax_tg, ax_go, ax_sw2, ax_lsw2, ax_kc_s, ax_kc_n, ax_rf_rf, ax_isR_rf, ct_int, ct_long, ct_ref, ct_null, ct_rf, rf_ref, rf_null, isR_ref, isR_null, va_rf_s, va_rf_n, gv_0, gv_1, gv_2, pv_i, pv_r, pv_n, pv_q, pk_0, pk_2, pk_2n, pk_2q, pk_10, pk_11, rok_i, rok_z0, rok_z1, ex_eq, ex_z, ex_z2, ex_cz, List.filter_cons, List.filter_nil, List.take_succ_cons, List.take_zero, List.drop_succ_cons, List.drop_zero, List.reverse_cons, List.reverse_nil, List.nil_append, List.cons_append, List.append_nil, List.length_cons, List.length_nil, List.map_cons, List.map_nil, List.sum_cons, List.sum_nil, Bool.not_true, Bool.not_false, Bool.and_true, Bool.true_and, Bool.and_false, Bool.false_and, Bool.or_false, Bool.false_or, Bool.true_or, Bool.or_true, beq_self_eq_true, Nat.reduceBEq, Nat.reduceAdd, Nat.reduceSub, Nat.reduceLT, Nat.reduceLeDiff, Nat.reduceEqDiff, Int.reduceAdd, Int.reduceNeg, Int.reduceToNat, Int.reduceLE, Int.reduceNatCast, Int.reduceNatCast', ↓reduceIte, if_true, if_false, true_and, and_true, false_and, and_false, true_or, or_true, false_or, or_false, Nat.sub_zero, Nat.le_refl, Bool.false_eq_true, Bool.true_eq_false, false_implies, true_implies, implies_true, not_true_eq_false, not_false_eq_true, eq_self, Fin.isValue, Nat.zero_add, Nat.add_zero, and_self, ne_eq, b01, Int32.reduceLT, Int32.reduceLE, z32, z64, vl_0, tl_0, vl_1, tl_1, vl_2, tl_2, vl_3, tl_3, vl_4, tl_4, vl_5, tl_5, vl_6, tl_6, vl_7, tl_7, vl_8, tl_8, vl_9, tl_9, Int.reduceSub, Int.reduceEq, Int.reduceLT, m_X7_unwinds, dX7_unwinds_0, dX7_unwinds_1, fl_6_136, dX7_unwinds_4, dX7_unwinds_7, dX7_unwinds_8, fl_6_58, dX7_unwinds_11, dX7_unwinds_12, dX7_unwinds_15, ki_1, dX7_unwinds_16, dX7_unwinds_17, dX7_unwinds_18, cl_6_139, dX7_unwinds_21, dX7_unwinds_22, dX7_unwinds_25, dX7_unwinds_26, dX7_unwinds_27, dX7_unwinds_30, dX7_unwinds_31, dX7_unwinds_32, dX7_unwinds_35, dX7_unwinds_36, dX7_unwinds_39, dX7_unwinds_40, dX7_unwinds_43, dX7_unwinds_44, dX7_unwinds_45, dX7_unwinds_46, dX7_unwinds_47, fl_6_142, dX7_unwinds_50, dX7_unwinds_51, kb_13, dX7_unwinds_53, dX7_unwinds_56, dX7_unwinds_57, kb_19, dX7_unwinds_59, dX7_unwinds_62, dX7_unwinds_63, dX7_unwinds_66, ki_0, dX7_unwinds_67, dX7_unwinds_68, dX7_unwinds_71, dX7_unwinds_72, dX7_unwinds_73, cl_6_145, dX7_unwinds_76, dX7_unwinds_79]; try simp only [ax_ife, if_true, if_false, true_implies, implies_true, false_implies, and_true, true_and, not_true_eq_false, not_false_eq_true])
            exact ax_sub (fun q hq => by simp only [List.mem_cons, List.not_mem_nil, or_false] at hq ⊢; rcases hq with hq | hq <;> simp [hq]) (g h' q)
          · have b2 : (nI x = 19) = False := eq_false (fun q => a2 (e19.mp q))
            by_cases a3 : x = 0
            · exfalso
              -- a bracket binds not at all: least is 0 then, which is never asked
              subst a3
              exact absurd hle (by have : s_rk 0 = 0 := rfl; omega)
            · have o1 : s_op1 x = 0 := by unfold s_op1; rw [if_neg (by omega)]
              have es : nI (s_op1 x + s_opn r) - 0 = nI (s_opn r) := by rw [o1, Nat.zero_add]; exact pk_sub (b := 0) (by omega)
              (simp only [lv_args, fn0, fn1, fn2, fn3, ax_wq_s, ax_step2, ax_ins2_u, ax_ins, ax_nx, ax_cut, ax_lk, ax_st1, ax_st2, ax_ins0, ax_tg, ax_go, ax_sw2, ax_lsw2, ax_kc_s, ax_kc_n, ax_rf_rf, ax_isR_rf, ct_int, ct_long, ct_ref, ct_null, ct_rf, rf_ref, rf_null, isR_ref, isR_null, va_rf_s, va_rf_n, gv_0, gv_1, gv_2, pv_i, pv_r, pv_n, pv_q, pk_0, pk_2, pk_2n, pk_2q, pk_10, pk_11, rok_i, rok_z0, rok_z1, ex_eq, ex_z, ex_z2, ex_cz, List.filter_cons, List.filter_nil, List.take_succ_cons, List.take_zero, List.drop_succ_cons, List.drop_zero, List.reverse_cons, List.reverse_nil, List.nil_append, List.cons_append, List.append_nil, List.length_cons, List.length_nil, List.map_cons, List.map_nil, List.sum_cons, List.sum_nil, Bool.not_true, Bool.not_false, Bool.and_true, Bool.true_and, Bool.and_false, Bool.false_and, Bool.or_false, Bool.false_or, Bool.true_or, Bool.or_true, beq_self_eq_true, Nat.reduceBEq, Nat.reduceAdd, Nat.reduceSub, Nat.reduceLT, Nat.reduceLeDiff, Nat.reduceEqDiff, Int.reduceAdd, Int.reduceNeg, Int.reduceToNat, Int.reduceLE, Int.reduceNatCast, Int.reduceNatCast', ↓reduceIte, if_true, if_false, true_and, and_true, false_and, and_false, true_or, or_true, false_or, or_false, Nat.sub_zero, Nat.le_refl, Bool.false_eq_true, Bool.true_eq_false, false_implies, true_implies, implies_true, not_true_eq_false, not_false_eq_true, eq_self, Fin.isValue, Nat.zero_add, Nat.add_zero, and_self, ne_eq, b01, Int32.reduceLT, Int32.reduceLE, z32, z64, vl_0, tl_0, vl_1, tl_1, vl_2, tl_2, vl_3, tl_3, vl_4, tl_4, vl_5, tl_5, vl_6, tl_6, vl_7, tl_7, vl_8, tl_8, vl_9, tl_9, Int.reduceSub, Int.reduceEq, Int.reduceLT, m_X7_unwinds, dX7_unwinds_0, dX7_unwinds_1, fl_6_136, dX7_unwinds_4, dX7_unwinds_7, dX7_unwinds_8, fl_6_58, dX7_unwinds_11, dX7_unwinds_12, dX7_unwinds_15, ki_1, dX7_unwinds_16, dX7_unwinds_17, dX7_unwinds_18, cl_6_139, dX7_unwinds_21, dX7_unwinds_22, dX7_unwinds_25, dX7_unwinds_26, dX7_unwinds_27, dX7_unwinds_30, dX7_unwinds_31, dX7_unwinds_32, dX7_unwinds_35, dX7_unwinds_36, dX7_unwinds_39, dX7_unwinds_40, dX7_unwinds_43, dX7_unwinds_44, dX7_unwinds_45, dX7_unwinds_46, dX7_unwinds_47, fl_6_142, dX7_unwinds_50, dX7_unwinds_51, kb_13, dX7_unwinds_53, dX7_unwinds_56, dX7_unwinds_57, kb_19, dX7_unwinds_59, dX7_unwinds_62, dX7_unwinds_63, dX7_unwinds_66, ki_0, dX7_unwinds_67, dX7_unwinds_68, dX7_unwinds_71, dX7_unwinds_72, dX7_unwinds_73, cl_6_145, dX7_unwinds_76, dX7_unwinds_79, M1, q28, q28m, lk', hc, hin, ev, q29, b1, b2, es, setI_at, setI_1, setI_22]; try simp only [ax_ife, if_true, if_false, true_implies, implies_true, false_implies, and_true, true_and, not_true_eq_false, not_false_eq_true])
              refine ax_c0 hp (by decide) (fun h' q => ?_)
              (simp only [lv_args, fn0, fn1, fn2, fn3, ax_wq_s, ax_step2, ax_ins2_u, ax_ins, ax_nx, ax_cut, ax_lk, ax_st1, ax_st2, ax_ins0, ax_tg, ax_go, ax_sw2, ax_lsw2, ax_kc_s, ax_kc_n, ax_rf_rf, ax_isR_rf, ct_int, ct_long, ct_ref, ct_null, ct_rf, rf_ref, rf_null, isR_ref, isR_null, va_rf_s, va_rf_n, gv_0, gv_1, gv_2, pv_i, pv_r, pv_n, pv_q, pk_0, pk_2, pk_2n, pk_2q, pk_10, pk_11, rok_i, rok_z0, rok_z1, ex_eq, ex_z, ex_z2, ex_cz, List.filter_cons, List.filter_nil, List.take_succ_cons, List.take_zero, List.drop_succ_cons, List.drop_zero, List.reverse_cons, List.reverse_nil, List.nil_append, List.cons_append, List.append_nil, List.length_cons, List.length_nil, List.map_cons, List.map_nil, List.sum_cons, List.sum_nil, Bool.not_true, Bool.not_false, Bool.and_true, Bool.true_and, Bool.and_false, Bool.false_and, Bool.or_false, Bool.false_or, Bool.true_or, Bool.or_true, beq_self_eq_true, Nat.reduceBEq, Nat.reduceAdd, Nat.reduceSub, Nat.reduceLT, Nat.reduceLeDiff, Nat.reduceEqDiff, Int.reduceAdd, Int.reduceNeg, Int.reduceToNat, Int.reduceLE, Int.reduceNatCast, Int.reduceNatCast', ↓reduceIte, if_true, if_false, true_and, and_true, false_and, and_false, true_or, or_true, false_or, or_false, Nat.sub_zero, Nat.le_refl, Bool.false_eq_true, Bool.true_eq_false, false_implies, true_implies, implies_true, not_true_eq_false, not_false_eq_true, eq_self, Fin.isValue, Nat.zero_add, Nat.add_zero, and_self, ne_eq, b01, Int32.reduceLT, Int32.reduceLE, z32, z64, vl_0, tl_0, vl_1, tl_1, vl_2, tl_2, vl_3, tl_3, vl_4, tl_4, vl_5, tl_5, vl_6, tl_6, vl_7, tl_7, vl_8, tl_8, vl_9, tl_9, Int.reduceSub, Int.reduceEq, Int.reduceLT, m_X7_unwinds, dX7_unwinds_0, dX7_unwinds_1, fl_6_136, dX7_unwinds_4, dX7_unwinds_7, dX7_unwinds_8, fl_6_58, dX7_unwinds_11, dX7_unwinds_12, dX7_unwinds_15, ki_1, dX7_unwinds_16, dX7_unwinds_17, dX7_unwinds_18, cl_6_139, dX7_unwinds_21, dX7_unwinds_22, dX7_unwinds_25, dX7_unwinds_26, dX7_unwinds_27, dX7_unwinds_30, dX7_unwinds_31, dX7_unwinds_32, dX7_unwinds_35, dX7_unwinds_36, dX7_unwinds_39, dX7_unwinds_40, dX7_unwinds_43, dX7_unwinds_44, dX7_unwinds_45, dX7_unwinds_46, dX7_unwinds_47, fl_6_142, dX7_unwinds_50, dX7_unwinds_51, kb_13, dX7_unwinds_53, dX7_unwinds_56, dX7_unwinds_57, kb_19, dX7_unwinds_59, dX7_unwinds_62, dX7_unwinds_63, dX7_unwinds_66, ki_0, dX7_unwinds_67, dX7_unwinds_68, dX7_unwinds_71, dX7_unwinds_72, dX7_unwinds_73, cl_6_145, dX7_unwinds_76, dX7_unwinds_79]; try simp only [ax_ife, if_true, if_false, true_implies, implies_true, false_implies, and_true, true_and, not_true_eq_false, not_false_eq_true])
              exact ax_sub (fun q hq => by simp only [List.mem_cons, List.not_mem_nil, or_false] at hq ⊢; rcases hq with hq | hq <;> simp [hq]) (g h' q)
      · rw [if_neg hle] at ha
        subst ha
        have lk' := eq_true (lk.mpr (by omega))
        (simp only [lv_args, fn0, fn1, fn2, fn3, ax_wq_s, ax_step2, ax_ins2_u, ax_ins, ax_nx, ax_cut, ax_lk, ax_st1, ax_st2, ax_ins0, ax_tg, ax_go, ax_sw2, ax_lsw2, ax_kc_s, ax_kc_n, ax_rf_rf, ax_isR_rf, ct_int, ct_long, ct_ref, ct_null, ct_rf, rf_ref, rf_null, isR_ref, isR_null, va_rf_s, va_rf_n, gv_0, gv_1, gv_2, pv_i, pv_r, pv_n, pv_q, pk_0, pk_2, pk_2n, pk_2q, pk_10, pk_11, rok_i, rok_z0, rok_z1, ex_eq, ex_z, ex_z2, ex_cz, List.filter_cons, List.filter_nil, List.take_succ_cons, List.take_zero, List.drop_succ_cons, List.drop_zero, List.reverse_cons, List.reverse_nil, List.nil_append, List.cons_append, List.append_nil, List.length_cons, List.length_nil, List.map_cons, List.map_nil, List.sum_cons, List.sum_nil, Bool.not_true, Bool.not_false, Bool.and_true, Bool.true_and, Bool.and_false, Bool.false_and, Bool.or_false, Bool.false_or, Bool.true_or, Bool.or_true, beq_self_eq_true, Nat.reduceBEq, Nat.reduceAdd, Nat.reduceSub, Nat.reduceLT, Nat.reduceLeDiff, Nat.reduceEqDiff, Int.reduceAdd, Int.reduceNeg, Int.reduceToNat, Int.reduceLE, Int.reduceNatCast, Int.reduceNatCast', ↓reduceIte, if_true, if_false, true_and, and_true, false_and, and_false, true_or, or_true, false_or, or_false, Nat.sub_zero, Nat.le_refl, Bool.false_eq_true, Bool.true_eq_false, false_implies, true_implies, implies_true, not_true_eq_false, not_false_eq_true, eq_self, Fin.isValue, Nat.zero_add, Nat.add_zero, and_self, ne_eq, b01, Int32.reduceLT, Int32.reduceLE, z32, z64, vl_0, tl_0, vl_1, tl_1, vl_2, tl_2, vl_3, tl_3, vl_4, tl_4, vl_5, tl_5, vl_6, tl_6, vl_7, tl_7, vl_8, tl_8, vl_9, tl_9, Int.reduceSub, Int.reduceEq, Int.reduceLT, m_X7_unwinds, dX7_unwinds_0, dX7_unwinds_1, fl_6_136, dX7_unwinds_4, dX7_unwinds_7, dX7_unwinds_8, fl_6_58, dX7_unwinds_11, dX7_unwinds_12, dX7_unwinds_15, ki_1, dX7_unwinds_16, dX7_unwinds_17, dX7_unwinds_18, cl_6_139, dX7_unwinds_21, dX7_unwinds_22, dX7_unwinds_25, dX7_unwinds_26, dX7_unwinds_27, dX7_unwinds_30, dX7_unwinds_31, dX7_unwinds_32, dX7_unwinds_35, dX7_unwinds_36, dX7_unwinds_39, dX7_unwinds_40, dX7_unwinds_43, dX7_unwinds_44, dX7_unwinds_45, dX7_unwinds_46, dX7_unwinds_47, fl_6_142, dX7_unwinds_50, dX7_unwinds_51, kb_13, dX7_unwinds_53, dX7_unwinds_56, dX7_unwinds_57, kb_19, dX7_unwinds_59, dX7_unwinds_62, dX7_unwinds_63, dX7_unwinds_66, ki_0, dX7_unwinds_67, dX7_unwinds_68, dX7_unwinds_71, dX7_unwinds_72, dX7_unwinds_73, cl_6_145, dX7_unwinds_76, dX7_unwinds_79, M1, lk']; try simp only [ax_ife, if_true, if_false, true_implies, implies_true, false_implies, and_true, true_and, not_true_eq_false, not_false_eq_true])
        exact ⟨S1, P⟩
  refine ax_intro 6 false cdX7_unwinds (by decide +kernel) (by decide +kernel) (by decide +kernel) (Nat.le_of_ble_eq_true rfl) ?_
  simp only [lv_args, m_X7_unwinds, ct_int, ct_long, ct_ref, ct_null, Nat.reduceAdd, Nat.zero_add]
  exact lp l0 cs0 h hsz hx (Sq_rf _ _ _) P0 htt
end MT3
