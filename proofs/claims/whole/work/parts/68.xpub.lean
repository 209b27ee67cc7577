-- deps: 14 15 16 17 18 19 20 21 22 23 24 25 26 27 28 29 30 31 32 33 34 37 50 51 52 53 54 55 56 57 58 60 61 62 63 65 66 67
/-- a frame with rows of references apart -/
def FY (P Q : Nat → Nat → Prop) (h h' : AH) : Prop := h'.1 = h.1 ∧ (∀ a k, ¬ Q a k → h'.2.2 a k = h.2.2 a k) ∧ ∀ a k, ¬ P a k → h'.2.1 a k = h.2.1 a k
theorem FY_of {P Q : Nat → Nat → Prop} {h h' : AH} (F : FX P h h') : FY P Q h h' := ⟨F.1, fun a k _ => by rw [F.2.1], F.2.2⟩
theorem FY_R {P Q : Nat → Nat → Prop} {h h' : AH} (F : FY P Q h h') {a k : Nat} {x : Option Nat} (hq : Q a k) : FY P Q h (ax_setR h' a k x) := ⟨F.1, fun b j q => by
  show ax_up h'.2.2 a k x b j = _
  unfold ax_up
  rw [if_neg (by rintro ⟨rfl, rfl⟩; exact q hq)]
  exact F.2.1 b j q, F.2.2⟩
theorem setR_at (h : AH) (a k : Nat) (x : Option Nat) (b j : Nat) : (ax_setR h a k x).2.2 b j = if b = a ∧ j = k then x else h.2.2 b j := rfl
theorem setR_1 (h : AH) (a k : Nat) (x : Option Nat) : (ax_setR h a k x).1 = h.1 := rfl
theorem setR_21 (h : AH) (a k : Nat) (x : Option Nat) : (ax_setR h a k x).2.1 = h.2.1 := rfl
def PBk (b k : Nat) : Prop := (b = 10 ∧ k = 5) ∨ (b = 11 ∧ k = 1) ∨ (200 ≤ b ∧ (k = 5 ∨ (k = 6 ∨ k = 7)))
section XPM
variable {G : AG} {n : Nat} {B : SB} {p : Nat → Nat} {T r : Nat} {X E : Nat → Nat → Nat} {z : SZ} {h : AH} {I : SI}
theorem BX_split {n : Nat} {B C : SB} {p : Nat → Nat} {h : AH} {o : Nat} (h1 : ∀ b, b < n → b < o → XB C p b h) (h2 : ∀ b, b < n → o ≤ b → XB B p b h) : BX n (fun b => if b < o then C b else B b) p h := fun b hb => by
  by_cases q : b < o
  · have := h1 b hb q
    unfold XB at this ⊢
    simp only [q, if_true]
    exact this
  · have := h2 b hb (by omega)
    unfold XB at this ⊢
    simp only [q, if_false]
    exact this
set_option maxRecDepth 100000 in
set_option maxHeartbeats 400000 in
theorem c_X1_goBack (W : WH n B p T r X E) (R : XX n B p T r X E h) (WI : WSI I n T) (RI : XI I p h) (hI : I.1 = true) : AC G jX1_goBack 3 0 0 [.ref 11] h (fun v h' => v = none ∧ FX PBk h h' ∧ h'.2.1 10 5 = h.2.1 10 5 ∧ HX I.2.1 p (30 + 8 * r) h' ∧ BX I.2.1 (s_bk B I.2.2.2) p h') := by
  have h10 := W.1.1
  obtain ⟨hn', hr', hb'⟩ := WI hI
  obtain ⟨e2, eb⟩ := RI.2 hI
  generalize hn2 : I.2.1 = n' at *
  generalize hIB : I.2.2.2 = IB at *
  have M := R.2.1
  unfold HX at M
  have lp : ∀ (j o : Nat) (h1 : AH), o + j = 10 → FX PBk h h1 → h1.2.1 10 5 = h.2.1 10 5 → HX n' p (30 + 8 * r) h1 → (∀ b, b < n' → b < o → XB (s_bk B IB) p b h1) → (∀ b, b < n' → o ≤ b → XB B p b h1) → AW G 1 3 false cX1_goBack (Option.none : Option FieldType) 3 (fun v h' => v = none ∧ FX PBk h h' ∧ h'.2.1 10 5 = h.2.1 10 5 ∧ HX n' p (30 + 8 * r) h' ∧ BX n' (s_bk B IB) p h') 0 0 10 [(0, .ref 11), (1, .int (nI o))] [] h1 := by
    intro j
    induction j with
    | zero =>
      intro o h1 ho F1 e5 M1' c1 c2
      have e : o = 10 := by omega
      subst e
      have M1 := M1'
      unfold HX at M1
      refine ax_wq_ok (cuts := [ 10]) 40 ?_
      (simp only [lv_args, fn0, fn1, fn2, fn3, ax_wq_s, ax_step2, ax_ins2_u, ax_ins, ax_nx, ax_cut, ax_lk, ax_st1, ax_st2, ax_ins0, ax_tg, ax_go, ax_sw2, ax_lsw2, ax_kc_s, ax_kc_n, ax_rf_rf, ax_isR_rf, ct_int, ct_long, ct_ref, ct_null, ct_rf, rf_ref, rf_null, isR_ref, isR_null, va_rf_s, va_rf_n, gv_0, gv_1, gv_2, pv_i, pv_r, pv_n, pv_q, pk_0, pk_2, pk_2n, pk_2q, pk_10, pk_11, rok_i, rok_z0, rok_z1, ex_eq, ex_z, ex_z2, ex_cz, List.filter_cons, List.filter_nil, List.take_succ_cons, List.take_zero, List.drop_succ_cons, List.drop_zero, List.reverse_cons, List.reverse_nil, List.nil_append, List.cons_append, List.append_nil, List.length_cons, List.length_nil, List.map_cons, List.map_nil, List.sum_cons, List.sum_nil, Bool.not_true, Bool.not_false, Bool.and_true, Bool.true_and, Bool.and_false, Bool.false_and, Bool.or_false, Bool.false_or, Bool.true_or, Bool.or_true, beq_self_eq_true, Nat.reduceBEq, Nat.reduceAdd, Nat.reduceSub, Nat.reduceLT, Nat.reduceLeDiff, Nat.reduceEqDiff, Int.reduceAdd, Int.reduceNeg, Int.reduceToNat, Int.reduceLE, Int.reduceNatCast, Int.reduceNatCast', ↓reduceIte, if_true, if_false, true_and, and_true, false_and, and_false, true_or, or_true, false_or, or_false, Nat.sub_zero, Nat.le_refl, Bool.false_eq_true, Bool.true_eq_false, false_implies, true_implies, implies_true, not_true_eq_false, not_false_eq_true, eq_self, Fin.isValue, Nat.zero_add, Nat.add_zero, and_self, ne_eq, b01, Int32.reduceLT, Int32.reduceLE, z32, z64, vl_0, tl_0, vl_1, tl_1, vl_2, tl_2, vl_3, tl_3, vl_4, tl_4, vl_5, tl_5, vl_6, tl_6, vl_7, tl_7, vl_8, tl_8, vl_9, tl_9, Int.reduceSub, Int.reduceEq, Int.reduceLT, reduceCtorEq, ro_obj, m_X1_goBack, dX1_goBack_0, dX1_goBack_1, dX1_goBack_2, fl_1_67, dX1_goBack_5, fl_1_31, dX1_goBack_8, ki_0, dX1_goBack_9, dX1_goBack_10, dX1_goBack_11, dX1_goBack_12, fl_1_11, dX1_goBack_15, dX1_goBack_16, dX1_goBack_19, dX1_goBack_20, dX1_goBack_21, cl_1_35, dX1_goBack_24, dX1_goBack_25, dX1_goBack_26, dX1_goBack_29, dX1_goBack_30, dX1_goBack_31, fl_1_73, dX1_goBack_34, fl_1_70, dX1_goBack_37, dX1_goBack_38, dX1_goBack_39, fl_1_79, dX1_goBack_42, fl_1_76, dX1_goBack_45, dX1_goBack_46, dX1_goBack_47, fl_1_82, dX1_goBack_50, fl_1_61, dX1_goBack_53, ki_1, dX1_goBack_56, dX1_goBack_59, M1, i10e]; try simp only [ax_ife, if_true, if_false, true_implies, implies_true, false_implies, and_true, true_and, not_true_eq_false, not_false_eq_true])
      exact ⟨F1, e5, M1', fun b hb => c1 b hb (by omega)⟩
    | succ j ih =>
      intro o h1 ho F1 e5 M1' c1 c2
      have M1 := M1'
      unfold HX at M1
      have ge := i10 (show o < 10 by omega)
      have cb := c_X1_bitAt (G := G) M1' (show n' ≤ 10 by omega) (nI o)
      refine ax_wq_ok (cuts := [ 10]) 60 ?_
      (simp only [lv_args, fn0, fn1, fn2, fn3, ax_wq_s, ax_step2, ax_ins2_u, ax_ins, ax_nx, ax_cut, ax_lk, ax_st1, ax_st2, ax_ins0, ax_tg, ax_go, ax_sw2, ax_lsw2, ax_kc_s, ax_kc_n, ax_rf_rf, ax_isR_rf, ct_int, ct_long, ct_ref, ct_null, ct_rf, rf_ref, rf_null, isR_ref, isR_null, va_rf_s, va_rf_n, gv_0, gv_1, gv_2, pv_i, pv_r, pv_n, pv_q, pk_0, pk_2, pk_2n, pk_2q, pk_10, pk_11, rok_i, rok_z0, rok_z1, ex_eq, ex_z, ex_z2, ex_cz, List.filter_cons, List.filter_nil, List.take_succ_cons, List.take_zero, List.drop_succ_cons, List.drop_zero, List.reverse_cons, List.reverse_nil, List.nil_append, List.cons_append, List.append_nil, List.length_cons, List.length_nil, List.map_cons, List.map_nil, List.sum_cons, List.sum_nil, Bool.not_true, Bool.not_false, Bool.and_true, Bool.true_and, Bool.and_false, Bool.false_and, Bool.or_false, Bool.false_or, Bool.true_or, Bool.or_true, beq_self_eq_true, Nat.reduceBEq, Nat.reduceAdd, Nat.reduceSub, Nat.reduceLT, Nat.reduceLeDiff, Nat.reduceEqDiff, Int.reduceAdd, Int.reduceNeg, Int.reduceToNat, Int.reduceLE, Int.reduceNatCast, Int.reduceNatCast', ↓reduceIte, if_true, if_false, true_and, and_true, false_and, and_false, true_or, or_true, false_or, or_false, Nat.sub_zero, Nat.le_refl, Bool.false_eq_true, Bool.true_eq_false, false_implies, true_implies, implies_true, not_true_eq_false, not_false_eq_true, eq_self, Fin.isValue, Nat.zero_add, Nat.add_zero, and_self, ne_eq, b01, Int32.reduceLT, Int32.reduceLE, z32, z64, vl_0, tl_0, vl_1, tl_1, vl_2, tl_2, vl_3, tl_3, vl_4, tl_4, vl_5, tl_5, vl_6, tl_6, vl_7, tl_7, vl_8, tl_8, vl_9, tl_9, Int.reduceSub, Int.reduceEq, Int.reduceLT, reduceCtorEq, ro_obj, m_X1_goBack, dX1_goBack_0, dX1_goBack_1, dX1_goBack_2, fl_1_67, dX1_goBack_5, fl_1_31, dX1_goBack_8, ki_0, dX1_goBack_9, dX1_goBack_10, dX1_goBack_11, dX1_goBack_12, fl_1_11, dX1_goBack_15, dX1_goBack_16, dX1_goBack_19, dX1_goBack_20, dX1_goBack_21, cl_1_35, dX1_goBack_24, dX1_goBack_25, dX1_goBack_26, dX1_goBack_29, dX1_goBack_30, dX1_goBack_31, fl_1_73, dX1_goBack_34, fl_1_70, dX1_goBack_37, dX1_goBack_38, dX1_goBack_39, fl_1_79, dX1_goBack_42, fl_1_76, dX1_goBack_45, dX1_goBack_46, dX1_goBack_47, fl_1_82, dX1_goBack_50, fl_1_61, dX1_goBack_53, ki_1, dX1_goBack_56, dX1_goBack_59, M1, ge]; try simp only [ax_ife, if_true, if_false, true_implies, implies_true, false_implies, and_true, true_and, not_true_eq_false, not_false_eq_true])
      refine ax_pu cb (by decide) ?_
      by_cases hV : o < n'
      · rw [s_ix_n hV (by omega), s_pr_s, va_rf_s]
        obtain ⟨x1, y0, y1, y2, y3, y4, y5, y6, y7⟩ := c2 o hV (Nat.le_refl _)
        obtain ⟨i8, i9, ia⟩ := eb o hV
        have hb0 := W.2.2.1 o (by omega)
        have fr : ∀ k, 8 ≤ k → h1.2.1 (p o) k = h.2.1 (p o) k := fun k hk => F1.2.2 _ _ (fun q => by unfold PBk at q; omega)
        have i8' : h1.2.1 (p o) 8 = nI (IB o 1) := by rw [fr 8 (by decide), i8]
        have i9' : (ax_setI h1 (p o) 5 (nI (IB o 1))).2.1 (p o) 9 = nI (IB o 5) := by rw [setI_at, if_neg (fun q => absurd q.2 (by decide)), fr 9 (by decide), i9]
        have ia' : (ax_setI (ax_setI h1 (p o) 5 (nI (IB o 1))) (p o) 6 (nI (IB o 5))).2.1 (p o) 10 = nI (IB o 6) := by rw [setI_at, if_neg (fun q => absurd q.2 (by decide)), setI_at, if_neg (fun q => absurd q.2 (by decide)), fr 10 (by decide), ia]
        have F3 : FX (fun b k => 200 ≤ b ∧ (k = 5 ∨ (k = 6 ∨ k = 7))) h1 (ax_setI (ax_setI (ax_setI h1 (p o) 5 (nI (IB o 1))) (p o) 6 (nI (IB o 5))) (p o) 7 (nI (IB o 6))) := FX_st (FX_st (FX_I ⟨hb0, Or.inl rfl⟩) ⟨hb0, Or.inr (Or.inl rfl)⟩) ⟨hb0, Or.inr (Or.inr rfl)⟩
        have nb : ∀ b, b < n' → b ≠ o → ∀ C : SB, XB C p b h1 → XB C p b (ax_setI (ax_setI (ax_setI h1 (p o) 5 (nI (IB o 1))) (p o) 6 (nI (IB o 5))) (p o) 7 (nI (IB o 6))) := fun b hb hne C q => by
          have e2 : (p b = p o) = False := eq_false (fun q => hne (W.2.2.2 b o (by omega) (by omega) q))
          unfold XB at q ⊢
          simp only [setI_at, setI_1, setI_22, e2, false_and, if_false]
          exact q
        (simp only [lv_args, fn0, fn1, fn2, fn3, ax_wq_s, ax_step2, ax_ins2_u, ax_ins, ax_nx, ax_cut, ax_lk, ax_st1, ax_st2, ax_ins0, ax_tg, ax_go, ax_sw2, ax_lsw2, ax_kc_s, ax_kc_n, ax_rf_rf, ax_isR_rf, ct_int, ct_long, ct_ref, ct_null, ct_rf, rf_ref, rf_null, isR_ref, isR_null, va_rf_s, va_rf_n, gv_0, gv_1, gv_2, pv_i, pv_r, pv_n, pv_q, pk_0, pk_2, pk_2n, pk_2q, pk_10, pk_11, rok_i, rok_z0, rok_z1, ex_eq, ex_z, ex_z2, ex_cz, List.filter_cons, List.filter_nil, List.take_succ_cons, List.take_zero, List.drop_succ_cons, List.drop_zero, List.reverse_cons, List.reverse_nil, List.nil_append, List.cons_append, List.append_nil, List.length_cons, List.length_nil, List.map_cons, List.map_nil, List.sum_cons, List.sum_nil, Bool.not_true, Bool.not_false, Bool.and_true, Bool.true_and, Bool.and_false, Bool.false_and, Bool.or_false, Bool.false_or, Bool.true_or, Bool.or_true, beq_self_eq_true, Nat.reduceBEq, Nat.reduceAdd, Nat.reduceSub, Nat.reduceLT, Nat.reduceLeDiff, Nat.reduceEqDiff, Int.reduceAdd, Int.reduceNeg, Int.reduceToNat, Int.reduceLE, Int.reduceNatCast, Int.reduceNatCast', ↓reduceIte, if_true, if_false, true_and, and_true, false_and, and_false, true_or, or_true, false_or, or_false, Nat.sub_zero, Nat.le_refl, Bool.false_eq_true, Bool.true_eq_false, false_implies, true_implies, implies_true, not_true_eq_false, not_false_eq_true, eq_self, Fin.isValue, Nat.zero_add, Nat.add_zero, and_self, ne_eq, b01, Int32.reduceLT, Int32.reduceLE, z32, z64, vl_0, tl_0, vl_1, tl_1, vl_2, tl_2, vl_3, tl_3, vl_4, tl_4, vl_5, tl_5, vl_6, tl_6, vl_7, tl_7, vl_8, tl_8, vl_9, tl_9, Int.reduceSub, Int.reduceEq, Int.reduceLT, reduceCtorEq, ro_obj, m_X1_goBack, dX1_goBack_0, dX1_goBack_1, dX1_goBack_2, fl_1_67, dX1_goBack_5, fl_1_31, dX1_goBack_8, ki_0, dX1_goBack_9, dX1_goBack_10, dX1_goBack_11, dX1_goBack_12, fl_1_11, dX1_goBack_15, dX1_goBack_16, dX1_goBack_19, dX1_goBack_20, dX1_goBack_21, cl_1_35, dX1_goBack_24, dX1_goBack_25, dX1_goBack_26, dX1_goBack_29, dX1_goBack_30, dX1_goBack_31, fl_1_73, dX1_goBack_34, fl_1_70, dX1_goBack_37, dX1_goBack_38, dX1_goBack_39, fl_1_79, dX1_goBack_42, fl_1_76, dX1_goBack_45, dX1_goBack_46, dX1_goBack_47, fl_1_82, dX1_goBack_50, fl_1_61, dX1_goBack_53, ki_1, dX1_goBack_56, dX1_goBack_59, x1, i8', i9', ia', fr, setI_1, setI_22, nI_1]; try simp only [ax_ife, if_true, if_false, true_implies, implies_true, false_implies, and_true, true_and, not_true_eq_false, not_false_eq_true])
        refine ax_sub (fun q hq => by simp only [List.mem_cons, List.not_mem_nil, or_false] at hq ⊢; rcases hq with hq | hq <;> simp [hq]) (ih (o + 1) _ (by omega) (FX_t2 F1 F3 (fun b k q => Or.inr (Or.inr q))) ?_ (HX_FX F3 M1' (fun q => by have := q.1; omega)) ?_ ?_)
        · simp only [setI_at]
          rw [if_neg (fun q => by have := q.1; omega), if_neg (fun q => by have := q.1; omega), if_neg (fun q => by have := q.1; omega)]
          exact e5
        · intro b hb hbo
          by_cases e : b = o
          · subst e
            unfold XB
            simp only [setI_at, setI_1, setI_22, Nat.reduceEqDiff, and_false, if_false, and_true, if_true]
            exact ⟨x1, y0, y1, y2, y3, y4, rfl, rfl, rfl⟩
          · exact nb b hb e _ (c1 b hb (by omega))
        · intro b hb hbo
          exact nb b hb (by omega) _ (c2 b hb (by omega))
      · rw [s_ix_o (by omega) (by omega), s_pr_0]
        (simp only [lv_args, fn0, fn1, fn2, fn3, ax_wq_s, ax_step2, ax_ins2_u, ax_ins, ax_nx, ax_cut, ax_lk, ax_st1, ax_st2, ax_ins0, ax_tg, ax_go, ax_sw2, ax_lsw2, ax_kc_s, ax_kc_n, ax_rf_rf, ax_isR_rf, ct_int, ct_long, ct_ref, ct_null, ct_rf, rf_ref, rf_null, isR_ref, isR_null, va_rf_s, va_rf_n, gv_0, gv_1, gv_2, pv_i, pv_r, pv_n, pv_q, pk_0, pk_2, pk_2n, pk_2q, pk_10, pk_11, rok_i, rok_z0, rok_z1, ex_eq, ex_z, ex_z2, ex_cz, List.filter_cons, List.filter_nil, List.take_succ_cons, List.take_zero, List.drop_succ_cons, List.drop_zero, List.reverse_cons, List.reverse_nil, List.nil_append, List.cons_append, List.append_nil, List.length_cons, List.length_nil, List.map_cons, List.map_nil, List.sum_cons, List.sum_nil, Bool.not_true, Bool.not_false, Bool.and_true, Bool.true_and, Bool.and_false, Bool.false_and, Bool.or_false, Bool.false_or, Bool.true_or, Bool.or_true, beq_self_eq_true, Nat.reduceBEq, Nat.reduceAdd, Nat.reduceSub, Nat.reduceLT, Nat.reduceLeDiff, Nat.reduceEqDiff, Int.reduceAdd, Int.reduceNeg, Int.reduceToNat, Int.reduceLE, Int.reduceNatCast, Int.reduceNatCast', ↓reduceIte, if_true, if_false, true_and, and_true, false_and, and_false, true_or, or_true, false_or, or_false, Nat.sub_zero, Nat.le_refl, Bool.false_eq_true, Bool.true_eq_false, false_implies, true_implies, implies_true, not_true_eq_false, not_false_eq_true, eq_self, Fin.isValue, Nat.zero_add, Nat.add_zero, and_self, ne_eq, b01, Int32.reduceLT, Int32.reduceLE, z32, z64, vl_0, tl_0, vl_1, tl_1, vl_2, tl_2, vl_3, tl_3, vl_4, tl_4, vl_5, tl_5, vl_6, tl_6, vl_7, tl_7, vl_8, tl_8, vl_9, tl_9, Int.reduceSub, Int.reduceEq, Int.reduceLT, reduceCtorEq, ro_obj, m_X1_goBack, dX1_goBack_0, dX1_goBack_1, dX1_goBack_2, fl_1_67, dX1_goBack_5, fl_1_31, dX1_goBack_8, ki_0, dX1_goBack_9, dX1_goBack_10, dX1_goBack_11, dX1_goBack_12, fl_1_11, dX1_goBack_15, dX1_goBack_16, dX1_goBack_19, dX1_goBack_20, dX1_goBack_21, cl_1_35, dX1_goBack_24, dX1_goBack_25, dX1_goBack_26, dX1_goBack_29, dX1_goBack_30, dX1_goBack_31, fl_1_73, dX1_goBack_34, fl_1_70, dX1_goBack_37, dX1_goBack_38, dX1_goBack_39, fl_1_79, dX1_goBack_42, fl_1_76, dX1_goBack_45, dX1_goBack_46, dX1_goBack_47, fl_1_82, dX1_goBack_50, fl_1_61, dX1_goBack_53, ki_1, dX1_goBack_56, dX1_goBack_59, nI_1]; try simp only [ax_ife, if_true, if_false, true_implies, implies_true, false_implies, and_true, true_and, not_true_eq_false, not_false_eq_true])
        exact ax_sub (fun q hq => by simp only [List.mem_cons, List.not_mem_nil, or_false] at hq ⊢; rcases hq with hq | hq <;> simp [hq]) (ih (o + 1) h1 (by omega) F1 e5 M1' (fun b hb q => c1 b hb (by omega)) (fun b hb q => by omega))
  refine ax_intro 1 false cdX1_goBack (by decide +kernel) (by decide +kernel) (by decide +kernel) (Nat.le_of_ble_eq_true rfl) ?_
  refine ax_wq_ok (cuts := [ 10]) 40 ?_
  (simp only [lv_args, fn0, fn1, fn2, fn3, ax_wq_s, ax_step2, ax_ins2_u, ax_ins, ax_nx, ax_cut, ax_lk, ax_st1, ax_st2, ax_ins0, ax_tg, ax_go, ax_sw2, ax_lsw2, ax_kc_s, ax_kc_n, ax_rf_rf, ax_isR_rf, ct_int, ct_long, ct_ref, ct_null, ct_rf, rf_ref, rf_null, isR_ref, isR_null, va_rf_s, va_rf_n, gv_0, gv_1, gv_2, pv_i, pv_r, pv_n, pv_q, pk_0, pk_2, pk_2n, pk_2q, pk_10, pk_11, rok_i, rok_z0, rok_z1, ex_eq, ex_z, ex_z2, ex_cz, List.filter_cons, List.filter_nil, List.take_succ_cons, List.take_zero, List.drop_succ_cons, List.drop_zero, List.reverse_cons, List.reverse_nil, List.nil_append, List.cons_append, List.append_nil, List.length_cons, List.length_nil, List.map_cons, List.map_nil, List.sum_cons, List.sum_nil, Bool.not_true, Bool.not_false, Bool.and_true, Bool.true_and, Bool.and_false, Bool.false_and, Bool.or_false, Bool.false_or, Bool.true_or, Bool.or_true, beq_self_eq_true, Nat.reduceBEq, Nat.reduceAdd, Nat.reduceSub, Nat.reduceLT, Nat.reduceLeDiff, Nat.reduceEqDiff, Int.reduceAdd, Int.reduceNeg, Int.reduceToNat, Int.reduceLE, Int.reduceNatCast, Int.reduceNatCast', ↓reduceIte, if_true, if_false, true_and, and_true, false_and, and_false, true_or, or_true, false_or, or_false, Nat.sub_zero, Nat.le_refl, Bool.false_eq_true, Bool.true_eq_false, false_implies, true_implies, implies_true, not_true_eq_false, not_false_eq_true, eq_self, Fin.isValue, Nat.zero_add, Nat.add_zero, and_self, ne_eq, b01, Int32.reduceLT, Int32.reduceLE, z32, z64, vl_0, tl_0, vl_1, tl_1, vl_2, tl_2, vl_3, tl_3, vl_4, tl_4, vl_5, tl_5, vl_6, tl_6, vl_7, tl_7, vl_8, tl_8, vl_9, tl_9, Int.reduceSub, Int.reduceEq, Int.reduceLT, reduceCtorEq, ro_obj, m_X1_goBack, dX1_goBack_0, dX1_goBack_1, dX1_goBack_2, fl_1_67, dX1_goBack_5, fl_1_31, dX1_goBack_8, ki_0, dX1_goBack_9, dX1_goBack_10, dX1_goBack_11, dX1_goBack_12, fl_1_11, dX1_goBack_15, dX1_goBack_16, dX1_goBack_19, dX1_goBack_20, dX1_goBack_21, cl_1_35, dX1_goBack_24, dX1_goBack_25, dX1_goBack_26, dX1_goBack_29, dX1_goBack_30, dX1_goBack_31, fl_1_73, dX1_goBack_34, fl_1_70, dX1_goBack_37, dX1_goBack_38, dX1_goBack_39, fl_1_79, dX1_goBack_42, fl_1_76, dX1_goBack_45, dX1_goBack_46, dX1_goBack_47, fl_1_82, dX1_goBack_50, fl_1_61, dX1_goBack_53, ki_1, dX1_goBack_56, dX1_goBack_59, M, e2]; try simp only [ax_ife, if_true, if_false, true_implies, implies_true, false_implies, and_true, true_and, not_true_eq_false, not_false_eq_true])
  have F0 : FX PBk h (ax_setI h 11 1 (nI n')) := FX_I (Or.inr (Or.inl ⟨rfl, rfl⟩))
  refine lp 10 0 _ rfl F0 ?_ ?_ (fun b hb q => by omega) (fun b hb _ => ?_)
  · rw [setI_at, if_neg (fun q => absurd q.1 (by decide))]
  · unfold HX
    rw [setI_at, if_pos ⟨rfl, rfl⟩, setI_1, setI_22]
    obtain ⟨m1, m2, m3, m4, m5, m6, m7, m8, m9, ma, mb, mc⟩ := R.2.1
    exact ⟨m1, m2, m3, m4, m5, m6, m7, m8, m9, ma, rfl, fun i hi => mc i (by omega)⟩
  · have hb0 := W.2.2.1 b (by omega)
    have := R.2.2.1 b (by omega)
    have e2 : (p b = 11) = False := eq_false (by omega)
    unfold XB at this ⊢
    simp only [setI_at, setI_1, setI_22, e2, false_and, if_false]
    exact this
set_option maxRecDepth 100000 in
set_option maxHeartbeats 400000 in
theorem c_X6_back (W : WH n B p T r X E) (R : XX n B p T r X E h) (WI : WSI I n T) (RI : XI I p h) : AC G jX6_back 4 0 0 [.ref 10] h (fun v h' => v = some (.int (s_bckR I)) ∧ FY PBk (fun a k => a = 11 ∧ k = 0) h h' ∧ XX (s_bckn I n) (s_bckB I B) p T (s_bckr I r) X E h') := by
  have M := And.intro R.1 R.2.1
  unfold XO HX at M
  have hT := W.2.1.2.1
  have e6 := RI.1
  unfold s_bckR s_bckn s_bckB s_bckr
  refine ax_intro 5 false cdX6_back (by decide +kernel) (by decide +kernel) (by decide +kernel) (Nat.le_of_ble_eq_true rfl) ?_
  refine ax_wq_ok (cuts := []) 40 ?_
  by_cases hI : I.1 = true
  · simp only [if_pos hI] at e6 ⊢
    obtain ⟨hn', hr', hb'⟩ := WI hI
    have ct := c_X6_textAt (G := G) R.1 hT (nI I.2.2.1)
    rw [if_pos (ib_n (by omega) hr'), i_nt (show I.2.2.1 < 2 ^ 31 by omega), va_rf_s] at ct
    (simp only [lv_args, fn0, fn1, fn2, fn3, ax_wq_s, ax_step2, ax_ins2_u, ax_ins, ax_nx, ax_cut, ax_lk, ax_st1, ax_st2, ax_ins0, ax_tg, ax_go, ax_sw2, ax_lsw2, ax_kc_s, ax_kc_n, ax_rf_rf, ax_isR_rf, ct_int, ct_long, ct_ref, ct_null, ct_rf, rf_ref, rf_null, isR_ref, isR_null, va_rf_s, va_rf_n, gv_0, gv_1, gv_2, pv_i, pv_r, pv_n, pv_q, pk_0, pk_2, pk_2n, pk_2q, pk_10, pk_11, rok_i, rok_z0, rok_z1, ex_eq, ex_z, ex_z2, ex_cz, List.filter_cons, List.filter_nil, List.take_succ_cons, List.take_zero, List.drop_succ_cons, List.drop_zero, List.reverse_cons, List.reverse_nil, List.nil_append, List.cons_append, List.append_nil, List.length_cons, List.length_nil, List.map_cons, List.map_nil, List.sum_cons, List.sum_nil, Bool.not_true, Bool.not_false, Bool.and_true, Bool.true_and, Bool.and_false, Bool.false_and, Bool.or_false, Bool.false_or, Bool.true_or, Bool.or_true, beq_self_eq_true, Nat.reduceBEq, Nat.reduceAdd, Nat.reduceSub, Nat.reduceLT, Nat.reduceLeDiff, Nat.reduceEqDiff, Int.reduceAdd, Int.reduceNeg, Int.reduceToNat, Int.reduceLE, Int.reduceNatCast, Int.reduceNatCast', ↓reduceIte, if_true, if_false, true_and, and_true, false_and, and_false, true_or, or_true, false_or, or_false, Nat.sub_zero, Nat.le_refl, Bool.false_eq_true, Bool.true_eq_false, false_implies, true_implies, implies_true, not_true_eq_false, not_false_eq_true, eq_self, Fin.isValue, Nat.zero_add, Nat.add_zero, and_self, ne_eq, b01, Int32.reduceLT, Int32.reduceLE, z32, z64, vl_0, tl_0, vl_1, tl_1, vl_2, tl_2, vl_3, tl_3, vl_4, tl_4, vl_5, tl_5, vl_6, tl_6, vl_7, tl_7, vl_8, tl_8, vl_9, tl_9, Int.reduceSub, Int.reduceEq, Int.reduceLT, reduceCtorEq, ro_obj, m_X6_back, dX6_back_0, dX6_back_1, dX6_back_2, fl_5_35, dX6_back_5, dX6_back_6, fl_5_28, dX6_back_9, cl_5_88, dX6_back_12, dX6_back_13, dX6_back_14, dX6_back_17, kb_m3, dX6_back_19, dX6_back_20, dX6_back_21, fl_5_55, dX6_back_24, cl_5_263, dX6_back_27, dX6_back_28, dX6_back_29, dX6_back_32, fl_5_32, dX6_back_35, dX6_back_36, dX6_back_39, dX6_back_40, fl_5_92, dX6_back_43, dX6_back_44, dX6_back_47, fl_5_59, dX6_back_50, M, e6]; try simp only [ax_ife, if_true, if_false, true_implies, implies_true, false_implies, and_true, true_and, not_true_eq_false, not_false_eq_true])
    refine ax_pu ct (by decide) ?_
    have cg := c_X1_goBack (G := G) W R WI RI hI
    have lo := (R.2.2.2 _ hr').1.1
    (simp only [lv_args, fn0, fn1, fn2, fn3, ax_wq_s, ax_step2, ax_ins2_u, ax_ins, ax_nx, ax_cut, ax_lk, ax_st1, ax_st2, ax_ins0, ax_tg, ax_go, ax_sw2, ax_lsw2, ax_kc_s, ax_kc_n, ax_rf_rf, ax_isR_rf, ct_int, ct_long, ct_ref, ct_null, ct_rf, rf_ref, rf_null, isR_ref, isR_null, va_rf_s, va_rf_n, gv_0, gv_1, gv_2, pv_i, pv_r, pv_n, pv_q, pk_0, pk_2, pk_2n, pk_2q, pk_10, pk_11, rok_i, rok_z0, rok_z1, ex_eq, ex_z, ex_z2, ex_cz, List.filter_cons, List.filter_nil, List.take_succ_cons, List.take_zero, List.drop_succ_cons, List.drop_zero, List.reverse_cons, List.reverse_nil, List.nil_append, List.cons_append, List.append_nil, List.length_cons, List.length_nil, List.map_cons, List.map_nil, List.sum_cons, List.sum_nil, Bool.not_true, Bool.not_false, Bool.and_true, Bool.true_and, Bool.and_false, Bool.false_and, Bool.or_false, Bool.false_or, Bool.true_or, Bool.or_true, beq_self_eq_true, Nat.reduceBEq, Nat.reduceAdd, Nat.reduceSub, Nat.reduceLT, Nat.reduceLeDiff, Nat.reduceEqDiff, Int.reduceAdd, Int.reduceNeg, Int.reduceToNat, Int.reduceLE, Int.reduceNatCast, Int.reduceNatCast', ↓reduceIte, if_true, if_false, true_and, and_true, false_and, and_false, true_or, or_true, false_or, or_false, Nat.sub_zero, Nat.le_refl, Bool.false_eq_true, Bool.true_eq_false, false_implies, true_implies, implies_true, not_true_eq_false, not_false_eq_true, eq_self, Fin.isValue, Nat.zero_add, Nat.add_zero, and_self, ne_eq, b01, Int32.reduceLT, Int32.reduceLE, z32, z64, vl_0, tl_0, vl_1, tl_1, vl_2, tl_2, vl_3, tl_3, vl_4, tl_4, vl_5, tl_5, vl_6, tl_6, vl_7, tl_7, vl_8, tl_8, vl_9, tl_9, Int.reduceSub, Int.reduceEq, Int.reduceLT, reduceCtorEq, ro_obj, m_X6_back, dX6_back_0, dX6_back_1, dX6_back_2, fl_5_35, dX6_back_5, dX6_back_6, fl_5_28, dX6_back_9, cl_5_88, dX6_back_12, dX6_back_13, dX6_back_14, dX6_back_17, kb_m3, dX6_back_19, dX6_back_20, dX6_back_21, fl_5_55, dX6_back_24, cl_5_263, dX6_back_27, dX6_back_28, dX6_back_29, dX6_back_32, fl_5_32, dX6_back_35, dX6_back_36, dX6_back_39, dX6_back_40, fl_5_92, dX6_back_43, dX6_back_44, dX6_back_47, fl_5_59, dX6_back_50, M, lo]; try simp only [ax_ife, if_true, if_false, true_implies, implies_true, false_implies, and_true, true_and, not_true_eq_false, not_false_eq_true])
    refine ax_c0 cg (by decide) (fun h1 ⟨F1, e5, H1, B1⟩ => ?_)
    have M1 := M
    rw [← F1.1, ← F1.2.1] at M1
    have x6 : h1.2.1 10 6 = nI I.2.2.1 := by rw [F1.2.2 _ _ (by unfold PBk; omega), e6]
    have hs := H1.2.2.2.2.2.2.2.2.2.2.1
    have lo1 := lo
    rw [← F1.1] at lo1
    have hs2 : (ax_setI h1 10 5 (nI I.2.2.1)).2.1 11 1 = nI I.2.1 := by rw [setI_at, if_neg (fun q => absurd q.1 (by decide)), hs]
    have F2 : FX PBk h (ax_setI h1 10 5 (nI I.2.2.1)) := FX_st F1 (Or.inl ⟨rfl, rfl⟩)
    have F3 : FY PBk (fun a k => a = 11 ∧ k = 0) h (ax_setR (ax_setI h1 10 5 (nI I.2.2.1)) 11 0 (some (30 + 8 * I.2.2.1))) := FY_R (FY_of F2) ⟨rfl, rfl⟩
    have R3 : XX I.2.1 (s_bk B I.2.2.2) p T I.2.2.1 X E (ax_setR (ax_setI h1 10 5 (nI I.2.2.1)) 11 0 (some (30 + 8 * I.2.2.1))) := by
      have F4 : FX (fun b k => b = 10 ∧ k = 5) h1 (ax_setI h1 10 5 (nI I.2.2.1)) := FX_I ⟨rfl, rfl⟩
      have H2 := HX_FX F4 H1 (fun q => absurd q.1 (by decide))
      have L2 := LXs_FX F2 (fun b k q => by unfold PBk at q; omega) hT R.2.2.2
      refine ⟨?_, ?_, ?_, ?_⟩
      · obtain ⟨m1, m2, m3, m4, m5, m6, m7, m8, m9, ma, mb⟩ := R.1
        unfold XO
        simp only [setR_1, setR_21, setR_at, setI_1, setI_22, setI_at, F1.1, F1.2.1, Nat.reduceEqDiff, false_and, if_false, and_false, and_self, if_true]
        exact ⟨m1, m2, m3, m4, m5, m6, m7, by rw [F1.2.2 _ _ (by unfold PBk; omega)]; exact m8, trivial, ma, mb⟩
      · obtain ⟨m1, m2, m3, m4, m5, m6, m7, m8, m9, ma, mb, mc⟩ := H2
        unfold HX
        simp only [setR_1, setR_21, setR_at, Nat.reduceEqDiff, false_and, if_false, and_false, and_self, if_true]
        exact ⟨m1, trivial, m3, m4, m5, m6, m7, m8, m9, ma, mb, mc⟩
      · intro b hb
        have hb0 := W.2.2.1 b (by omega)
        have := B1 b hb
        have n1 : (p b = 10) = False := eq_false (by omega)
        have n2 : (p b = 11) = False := eq_false (by omega)
        unfold XB at this ⊢
        simp only [setR_1, setR_21, setR_at, setI_1, setI_22, setI_at, n1, n2, false_and, if_false]
        exact this
      · intro t ht
        obtain ⟨l1, l2⟩ := L2 t ht
        have n2 : ∀ d, (30 + 8 * t + d = 11) = False := fun d => eq_false (by omega)
        have n3 : (30 + 8 * t = 11) = False := eq_false (by omega)
        unfold LO LC at *
        simp only [setR_1, setR_21, setR_at, n2, n3, false_and, if_false]
        exact ⟨l1, l2⟩
    have m10 : (ax_setR (ax_setI h1 10 5 (nI I.2.2.1)) 11 0 (some (30 + 8 * I.2.2.1))).2.2 10 0 = some 11 := by
      rw [setR_at, if_neg (fun q => absurd q.1 (by decide)), setI_22]
      exact M1.1.2.1
    (simp only [lv_args, fn0, fn1, fn2, fn3, ax_wq_s, ax_step2, ax_ins2_u, ax_ins, ax_nx, ax_cut, ax_lk, ax_st1, ax_st2, ax_ins0, ax_tg, ax_go, ax_sw2, ax_lsw2, ax_kc_s, ax_kc_n, ax_rf_rf, ax_isR_rf, ct_int, ct_long, ct_ref, ct_null, ct_rf, rf_ref, rf_null, isR_ref, isR_null, va_rf_s, va_rf_n, gv_0, gv_1, gv_2, pv_i, pv_r, pv_n, pv_q, pk_0, pk_2, pk_2n, pk_2q, pk_10, pk_11, rok_i, rok_z0, rok_z1, ex_eq, ex_z, ex_z2, ex_cz, List.filter_cons, List.filter_nil, List.take_succ_cons, List.take_zero, List.drop_succ_cons, List.drop_zero, List.reverse_cons, List.reverse_nil, List.nil_append, List.cons_append, List.append_nil, List.length_cons, List.length_nil, List.map_cons, List.map_nil, List.sum_cons, List.sum_nil, Bool.not_true, Bool.not_false, Bool.and_true, Bool.true_and, Bool.and_false, Bool.false_and, Bool.or_false, Bool.false_or, Bool.true_or, Bool.or_true, beq_self_eq_true, Nat.reduceBEq, Nat.reduceAdd, Nat.reduceSub, Nat.reduceLT, Nat.reduceLeDiff, Nat.reduceEqDiff, Int.reduceAdd, Int.reduceNeg, Int.reduceToNat, Int.reduceLE, Int.reduceNatCast, Int.reduceNatCast', ↓reduceIte, if_true, if_false, true_and, and_true, false_and, and_false, true_or, or_true, false_or, or_false, Nat.sub_zero, Nat.le_refl, Bool.false_eq_true, Bool.true_eq_false, false_implies, true_implies, implies_true, not_true_eq_false, not_false_eq_true, eq_self, Fin.isValue, Nat.zero_add, Nat.add_zero, and_self, ne_eq, b01, Int32.reduceLT, Int32.reduceLE, z32, z64, vl_0, tl_0, vl_1, tl_1, vl_2, tl_2, vl_3, tl_3, vl_4, tl_4, vl_5, tl_5, vl_6, tl_6, vl_7, tl_7, vl_8, tl_8, vl_9, tl_9, Int.reduceSub, Int.reduceEq, Int.reduceLT, reduceCtorEq, ro_obj, m_X6_back, dX6_back_0, dX6_back_1, dX6_back_2, fl_5_35, dX6_back_5, dX6_back_6, fl_5_28, dX6_back_9, cl_5_88, dX6_back_12, dX6_back_13, dX6_back_14, dX6_back_17, kb_m3, dX6_back_19, dX6_back_20, dX6_back_21, fl_5_55, dX6_back_24, cl_5_263, dX6_back_27, dX6_back_28, dX6_back_29, dX6_back_32, fl_5_32, dX6_back_35, dX6_back_36, dX6_back_39, dX6_back_40, fl_5_92, dX6_back_43, dX6_back_44, dX6_back_47, fl_5_59, dX6_back_50, M1, lo1, x6, hs, hs2, setI_1, setI_22, setR_1, setR_21, m10]; try simp only [ax_ife, if_true, if_false, true_implies, implies_true, false_implies, and_true, true_and, not_true_eq_false, not_false_eq_true])
    exact ⟨F3, R3⟩
  · simp only [if_neg hI] at e6 ⊢
    have ct := c_X6_textAt (G := G) R.1 hT (-1)
    rw [if_neg (fun q => absurd q.1 (by decide))] at ct
    (simp only [lv_args, fn0, fn1, fn2, fn3, ax_wq_s, ax_step2, ax_ins2_u, ax_ins, ax_nx, ax_cut, ax_lk, ax_st1, ax_st2, ax_ins0, ax_tg, ax_go, ax_sw2, ax_lsw2, ax_kc_s, ax_kc_n, ax_rf_rf, ax_isR_rf, ct_int, ct_long, ct_ref, ct_null, ct_rf, rf_ref, rf_null, isR_ref, isR_null, va_rf_s, va_rf_n, gv_0, gv_1, gv_2, pv_i, pv_r, pv_n, pv_q, pk_0, pk_2, pk_2n, pk_2q, pk_10, pk_11, rok_i, rok_z0, rok_z1, ex_eq, ex_z, ex_z2, ex_cz, List.filter_cons, List.filter_nil, List.take_succ_cons, List.take_zero, List.drop_succ_cons, List.drop_zero, List.reverse_cons, List.reverse_nil, List.nil_append, List.cons_append, List.append_nil, List.length_cons, List.length_nil, List.map_cons, List.map_nil, List.sum_cons, List.sum_nil, Bool.not_true, Bool.not_false, Bool.and_true, Bool.true_and, Bool.and_false, Bool.false_and, Bool.or_false, Bool.false_or, Bool.true_or, Bool.or_true, beq_self_eq_true, Nat.reduceBEq, Nat.reduceAdd, Nat.reduceSub, Nat.reduceLT, Nat.reduceLeDiff, Nat.reduceEqDiff, Int.reduceAdd, Int.reduceNeg, Int.reduceToNat, Int.reduceLE, Int.reduceNatCast, Int.reduceNatCast', ↓reduceIte, if_true, if_false, true_and, and_true, false_and, and_false, true_or, or_true, false_or, or_false, Nat.sub_zero, Nat.le_refl, Bool.false_eq_true, Bool.true_eq_false, false_implies, true_implies, implies_true, not_true_eq_false, not_false_eq_true, eq_self, Fin.isValue, Nat.zero_add, Nat.add_zero, and_self, ne_eq, b01, Int32.reduceLT, Int32.reduceLE, z32, z64, vl_0, tl_0, vl_1, tl_1, vl_2, tl_2, vl_3, tl_3, vl_4, tl_4, vl_5, tl_5, vl_6, tl_6, vl_7, tl_7, vl_8, tl_8, vl_9, tl_9, Int.reduceSub, Int.reduceEq, Int.reduceLT, reduceCtorEq, ro_obj, m_X6_back, dX6_back_0, dX6_back_1, dX6_back_2, fl_5_35, dX6_back_5, dX6_back_6, fl_5_28, dX6_back_9, cl_5_88, dX6_back_12, dX6_back_13, dX6_back_14, dX6_back_17, kb_m3, dX6_back_19, dX6_back_20, dX6_back_21, fl_5_55, dX6_back_24, cl_5_263, dX6_back_27, dX6_back_28, dX6_back_29, dX6_back_32, fl_5_32, dX6_back_35, dX6_back_36, dX6_back_39, dX6_back_40, fl_5_92, dX6_back_43, dX6_back_44, dX6_back_47, fl_5_59, dX6_back_50, M, e6]; try simp only [ax_ife, if_true, if_false, true_implies, implies_true, false_implies, and_true, true_and, not_true_eq_false, not_false_eq_true])
    refine ax_pu ct (by decide) ?_
    (simp only [lv_args, fn0, fn1, fn2, fn3, ax_wq_s, ax_step2, ax_ins2_u, ax_ins, ax_nx, ax_cut, ax_lk, ax_st1, ax_st2, ax_ins0, ax_tg, ax_go, ax_sw2, ax_lsw2, ax_kc_s, ax_kc_n, ax_rf_rf, ax_isR_rf, ct_int, ct_long, ct_ref, ct_null, ct_rf, rf_ref, rf_null, isR_ref, isR_null, va_rf_s, va_rf_n, gv_0, gv_1, gv_2, pv_i, pv_r, pv_n, pv_q, pk_0, pk_2, pk_2n, pk_2q, pk_10, pk_11, rok_i, rok_z0, rok_z1, ex_eq, ex_z, ex_z2, ex_cz, List.filter_cons, List.filter_nil, List.take_succ_cons, List.take_zero, List.drop_succ_cons, List.drop_zero, List.reverse_cons, List.reverse_nil, List.nil_append, List.cons_append, List.append_nil, List.length_cons, List.length_nil, List.map_cons, List.map_nil, List.sum_cons, List.sum_nil, Bool.not_true, Bool.not_false, Bool.and_true, Bool.true_and, Bool.and_false, Bool.false_and, Bool.or_false, Bool.false_or, Bool.true_or, Bool.or_true, beq_self_eq_true, Nat.reduceBEq, Nat.reduceAdd, Nat.reduceSub, Nat.reduceLT, Nat.reduceLeDiff, Nat.reduceEqDiff, Int.reduceAdd, Int.reduceNeg, Int.reduceToNat, Int.reduceLE, Int.reduceNatCast, Int.reduceNatCast', ↓reduceIte, if_true, if_false, true_and, and_true, false_and, and_false, true_or, or_true, false_or, or_false, Nat.sub_zero, Nat.le_refl, Bool.false_eq_true, Bool.true_eq_false, false_implies, true_implies, implies_true, not_true_eq_false, not_false_eq_true, eq_self, Fin.isValue, Nat.zero_add, Nat.add_zero, and_self, ne_eq, b01, Int32.reduceLT, Int32.reduceLE, z32, z64, vl_0, tl_0, vl_1, tl_1, vl_2, tl_2, vl_3, tl_3, vl_4, tl_4, vl_5, tl_5, vl_6, tl_6, vl_7, tl_7, vl_8, tl_8, vl_9, tl_9, Int.reduceSub, Int.reduceEq, Int.reduceLT, reduceCtorEq, ro_obj, m_X6_back, dX6_back_0, dX6_back_1, dX6_back_2, fl_5_35, dX6_back_5, dX6_back_6, fl_5_28, dX6_back_9, cl_5_88, dX6_back_12, dX6_back_13, dX6_back_14, dX6_back_17, kb_m3, dX6_back_19, dX6_back_20, dX6_back_21, fl_5_55, dX6_back_24, cl_5_263, dX6_back_27, dX6_back_28, dX6_back_29, dX6_back_32, fl_5_32, dX6_back_35, dX6_back_36, dX6_back_39, dX6_back_40, fl_5_92, dX6_back_43, dX6_back_44, dX6_back_47, fl_5_59, dX6_back_50]; try simp only [ax_ife, if_true, if_false, true_implies, implies_true, false_implies, and_true, true_and, not_true_eq_false, not_false_eq_true])
    exact ⟨FY_of (FX_rf _ _), R⟩
end XPM
