-- deps: 14 15 16 17 18 19 20 21 28 29 30 31 32 37 38 39 40 41 42 43 44
theorem s_cs_c (f : Nat → Nat) (k m : Nat) : s_cs f k (m + 1) = f k :: s_cs f (k + 1) m := rfl
theorem s_cs_l (cs d : List Nat) : ∀ m i, i + m ≤ cs.length → s_cs (fun k => (cs ++ d).getD k 0) i m = s_cs (fun k => cs.getD k 0) i m
  | 0, _, _ => rfl
  | m + 1, i, h => by
    rw [s_cs_c, s_cs_c, s_cs_l cs d m (i + 1) (by omega), s_getD_l (by omega)]
theorem s_cs_r : ∀ (d cs : List Nat), s_cs (fun k => (cs ++ d).getD k 0) cs.length d.length = d
  | [], _ => rfl
  | x :: r, cs => by
    have ih := s_cs_r r (cs ++ [x])
    have e1 : cs ++ x :: r = (cs ++ [x]) ++ r := by rw [List.append_assoc]; rfl
    have e2 : (cs ++ [x]).length = cs.length + 1 := by rw [List.length_append]; rfl
    rw [e2] at ih
    show s_cs _ cs.length (r.length + 1) = _
    rw [s_cs_c, e1, ih]
    congr 1
    show ((cs ++ [x]) ++ r).getD cs.length 0 = x
    rw [s_getD_l (by omega), s_getD_r]
theorem s_cs_e {f g : Nat → Nat} : ∀ m i, (∀ k, i ≤ k → k < i + m → f k = g k) → s_cs f i m = s_cs g i m
  | 0, _, _ => rfl
  | m + 1, i, h => by
    rw [s_cs_c, s_cs_c, h i (Nat.le_refl _) (by omega), s_cs_e m (i + 1) (fun k h1 h2 => h k (by omega) (by omega))]
def s_nx (p : Nat) (cs : List Nat) (E : Nat → Nat) (q : Nat) : Nat := if q + 1 = p then cs.length else E (q + 1)
def SEG (p : Nat) (cs : List Nat) (E : Nat → Nat) : Prop := (p = 0 → cs = []) ∧ (0 < p → E 0 = 0) ∧ ∀ q, q < p → E q ≤ s_nx p cs E q ∧ s_nx p cs E q ≤ cs.length ∧ EV (s_cs (fun k => cs.getD k 0) (E q) (s_nx p cs E q - E q)) 1
theorem s_tx_ok {tn : Nat} {tb : Nat → Nat} (hb : ∀ i, i < tn → tb i ≤ 255) : ∀ (m p a : Nat) (cs : List Nat) (E : Nat → Nat), p + m = 3 → a ≤ tn → cs.length ≤ a → SEG p cs E → (s_tx tn tb m p a cs E).1 = true → (s_tx tn tb m p a cs E).2.2.1.length ≤ tn ∧ (s_tx tn tb m p a cs E).2.2.2 3 = (s_tx tn tb m p a cs E).2.2.1.length ∧ SEG 3 (s_tx tn tb m p a cs E).2.2.1 (s_tx tn tb m p a cs E).2.2.2 := by
  intro m
  induction m with
  | zero =>
    intro p a cs E hp ha hsz hS h
    have ep : p = 3 := by omega
    subst ep
    refine ⟨Nat.le_trans hsz ha, (show (if (3 : Nat) = 3 then cs.length else E 3) = cs.length from if_pos rfl), hS.1, fun _ => ?_, fun q hq => ?_⟩
    · show (if (0 : Nat) = 3 then cs.length else E 0) = 0
      rw [if_neg (by omega)]
      exact hS.2.1 (by omega)
    · obtain ⟨s1, s2, s3⟩ := hS.2.2 q hq
      have e1 : s_nx 3 cs (fun q => if q = 3 then cs.length else E q) q = s_nx 3 cs E q := by
        unfold s_nx
        by_cases e : q + 1 = 3
        · rw [if_pos e, if_pos e]
        · rw [if_neg e, if_neg e]
          show (if q + 1 = 3 then _ else _) = _
          rw [if_neg e]
      have e2 : (fun q => if q = 3 then cs.length else E q) q = E q := if_neg (by omega)
      show (fun q => if q = 3 then cs.length else E q) q ≤ s_nx 3 cs (fun q => if q = 3 then cs.length else E q) q ∧ s_nx 3 cs (fun q => if q = 3 then cs.length else E q) q ≤ cs.length ∧ EV (s_cs (fun k => cs.getD k 0) ((fun q => if q = 3 then cs.length else E q) q) (s_nx 3 cs (fun q => if q = 3 then cs.length else E q) q - (fun q => if q = 3 then cs.length else E q) q)) 1
      rw [e1, e2]
      exact ⟨s1, s2, s3⟩
  | succ m ih =>
    intro p a cs E hp ha hsz hS h
    obtain ⟨b1, b2, b3, b4, b5⟩ := s_tok_b hb ha
    rw [show s_tx tn tb (m + 1) p a cs E = if (s_tok tn tb a).1 = 3 ∧ (s_tok tn tb a).2.1 = p then (if (s_eR tn tb (tn + 1) (s_tok tn tb a).2.2.2 [] cs true true).1 = true then s_tx tn tb m (p + 1) (s_eR tn tb (tn + 1) (s_tok tn tb a).2.2.2 [] cs true true).2.1 (s_eR tn tb (tn + 1) (s_tok tn tb a).2.2.2 [] cs true true).2.2.2 (fun q => if q = p then cs.length else E q) else (false, (s_eR tn tb (tn + 1) (s_tok tn tb a).2.2.2 [] cs true true).2.2.1, cs, E)) else (false, (s_tok tn tb a).2.2.1, cs, E) from rfl] at h ⊢
    generalize s_tok tn tb a = tk at *
    obtain ⟨k, v, b, e⟩ := tk
    simp only at *
    by_cases kk : k = 3 ∧ v = p
    · simp only [if_pos kk] at h ⊢
      have hbk := b5 (by omega)
      have ok := s_eR_ok (tn := tn) (tb := tb) hb cs (tn + 1) e [] [] true true b4 (by rw [List.append_nil]; show 0 + _ ≤ _; omega) (fun x hx => by cases hx) (fun nm => ⟨[], rfl, rfl⟩)
      rw [List.append_nil] at ok
      generalize s_eR tn tb (tn + 1) e [] cs true true = rr at *
      by_cases hr : rr.1 = true
      · simp only [if_pos hr] at h ⊢
        obtain ⟨d', o1, o2, o3, o4⟩ := ok hr
        rw [o1] at h ⊢
        have e1 : (cs ++ d').length = cs.length + d'.length := List.length_append
        refine ih (p + 1) rr.2.1 (cs ++ d') _ (by omega) o4 o3 ⟨fun q => by omega, fun _ => ?_, fun q hq => ?_⟩ h
        · show (if 0 = p then cs.length else E 0) = 0
          by_cases p0 : 0 = p
          · rw [if_pos p0, hS.1 p0.symm]
            rfl
          · rw [if_neg p0]
            exact hS.2.1 (by omega)
        · by_cases eq : q = p
          · subst eq
            have n1 : s_nx (q + 1) (cs ++ d') (fun q_1 => if q_1 = q then cs.length else E q_1) q = (cs ++ d').length := if_pos rfl
            rw [n1]
            simp only [if_true]
            refine ⟨by omega, Nat.le_refl _, ?_⟩
            rw [e1, show cs.length + d'.length - cs.length = d'.length by omega, s_cs_r]
            exact o2
          · obtain ⟨s1, s2, s3⟩ := hS.2.2 q (by omega)
            have n1 : s_nx (p + 1) (cs ++ d') (fun q_1 => if q_1 = p then cs.length else E q_1) q = s_nx p cs E q := by
              unfold s_nx
              rw [if_neg (by omega)]
            rw [n1]
            simp only [if_neg eq]
            refine ⟨s1, by omega, ?_⟩
            rw [s_cs_l cs d' _ _ (by omega)]
            exact s3
      · simp only [if_neg hr] at h
        cases h
    · simp only [if_neg kk] at h
      cases h
theorem EV_1 {d : List Nat} (h : EV d 1) (nm : Nat → Int32) : ∃ v, s_ev nm d [] = some [v] := by
  obtain ⟨st, h1, h2⟩ := h nm
  cases st with
  | nil => cases h2
  | cons x r =>
    cases r with
    | nil => exact ⟨x, h1⟩
    | cons y r => cases h2
theorem WFL_txt {T r tn : Nat} {tb : Nat → Nat} {X E : Nat → Nat → Nat} (W : WFL T r X E) (hb : ∀ i, i < tn → tb i ≤ 255) (h160 : tn ≤ 160) : WFL (s_txT T tn tb) r (s_txX T tn tb X) (s_txE T tn tb E) := by
  unfold s_txT s_txX s_txE
  by_cases hg : s_txG T tn tb = true
  · simp only [if_pos hg]
    unfold s_txG at hg
    rw [Bool.and_eq_true, decide_eq_true_eq] at hg
    obtain ⟨hT, hg⟩ := hg
    have ok := s_tx_ok (tn := tn) (tb := tb) hb 3 0 0 [] (fun _ => 0) rfl (Nat.zero_le _) (Nat.zero_le _) ⟨fun _ => rfl, fun q => absurd q (by decide), fun q hq => absurd hq (Nat.not_lt_zero q)⟩ hg
    rw [show s_tx tn tb 3 0 0 [] (fun _ => 0) = s_txt tn tb from rfl] at ok
    generalize s_txt tn tb = tt at *
    obtain ⟨o1, o2, -, o3, o4⟩ := ok
    refine ⟨by have := W.1; omega, by have := W.2.1; omega, fun t ht => ?_⟩
    by_cases et : t = T
    · subst et
      have nx : ∀ q, q < 3 → s_nx 3 tt.2.2.1 tt.2.2.2 q = tt.2.2.2 (q + 1) := fun q hq => by
        unfold s_nx
        by_cases e : q + 1 = 3
        · rw [if_pos e, e, o2]
        · rw [if_neg e]
      have s0 := o4 0 (by decide)
      have s1 := o4 1 (by decide)
      have s2 := o4 2 (by decide)
      rw [nx 0 (by decide)] at s0
      rw [nx 1 (by decide)] at s1
      rw [nx 2 (by decide)] at s2
      unfold WFT
      simp only [if_true]
      refine ⟨o3 (by decide), s0.1, s1.1, s2.1, by rw [o2]; omega, fun p hp nm => ?_⟩
      have s := (o4 p hp).2.2
      rw [nx p hp] at s
      have e : s_L (fun t_1 k => if t_1 = t then tt.2.2.1.getD k 0 else X t_1 k) (fun t_1 p => if t_1 = t then tt.2.2.2 p else E t_1 p) t p = s_cs (fun k => tt.2.2.1.getD k 0) (tt.2.2.2 p) (tt.2.2.2 (p + 1) - tt.2.2.2 p) := by
        unfold s_L
        simp only [if_true]
      rw [e]
      exact EV_1 s nm
    · have := W.2.2 t (by omega)
      unfold WFT at this ⊢
      simp only [if_neg et]
      refine ⟨this.1, this.2.1, this.2.2.1, this.2.2.2.1, this.2.2.2.2.1, fun p hp nm => ?_⟩
      have h := this.2.2.2.2.2 p hp nm
      have e : s_L (fun t_1 k => if t_1 = T then tt.2.2.1.getD k 0 else X t_1 k) (fun t_1 p => if t_1 = T then tt.2.2.2 p else E t_1 p) t p = s_L X E t p := by
        unfold s_L
        simp only [if_neg et]
      rw [e]
      exact h
  · simp only [if_neg hg]
    exact W
section MT7
variable {G : AG} {h : AH} {n : Nat} {B : SB} {T r : Nat} {X E : Nat → Nat → Nat} {tn : Nat} {tb : Nat → Nat}
set_option maxRecDepth 100000 in
set_option maxHeartbeats 400000 in
theorem c_X7_text (hTM : TopM h) (hT6 : T ≤ 6) (hE : ∀ t, t < T → E t 3 ≤ 160) (RL12 : h.2.1 100 12 = nI T) (RLX : ∀ t, t < T → ∀ k, k < E t 3 → h.2.1 110 (200 * t + k) = nI (X t k)) (RLE : ∀ t, t < T → ∀ p, p < 4 → h.2.1 111 (4 * t + p) = nI (E t p)) (RW : RMW h) (RT : RMT tn tb h) (WT : WTT tn tb) : AC G jX7_text 5 0 0 [.ref 100] h (fun v h' => v = some (.int (s_txR T tn tb)) ∧ Sq [110, 111, 127] [9, 12, 22, 23, 24, 25, 28, 29, 30] h h' ∧ h'.2.1 100 12 = nI (s_txT T tn tb) ∧ (∀ t, t < s_txT T tn tb → ∀ k, k < s_txE T tn tb E t 3 → h'.2.1 110 (200 * t + k) = nI (s_txX T tn tb X t k)) ∧ (∀ t, t < s_txT T tn tb → ∀ p, p < 4 → h'.2.1 111 (4 * t + p) = nI (s_txE T tn tb E t p)) ∧ RMT (s_txn T tn) tb h') := by
  have M := hTM
  unfold TopM at M
  have e6 := i_eqL (a := T) (n := 6) (by omega) (by decide)
  by_cases h6 : T = 6
  · have z6 : (nI T = 6) = True := eq_true (e6.mpr h6)
    have hG : s_txG T tn tb = false := by
      unfold s_txG
      rw [h6]
      rfl
    unfold s_txR s_txT s_txX s_txE s_txn
    rw [hG]
    simp only [if_pos h6, Bool.false_eq_true, if_false]
    refine ax_intro 6 false cdX7_text (by decide +kernel) (by decide +kernel) (by decide +kernel) (Nat.le_of_ble_eq_true rfl) ?_
    refine ax_wq_ok (cuts := [ 26]) 60 ?_
    (simp only [lv_args, fn0, fn1, fn2, fn3, ax_wq_s, ax_step2, ax_ins2_u, ax_ins, ax_nx, ax_cut, ax_lk, ax_st1, ax_st2, ax_ins0, ax_tg, ax_go, ax_sw2, ax_lsw2, ax_kc_s, ax_kc_n, ax_rf_rf, ax_isR_rf, ct_int, ct_long, ct_ref, ct_null, ct_rf, rf_ref, rf_null, isR_ref, isR_null, va_rf_s, va_rf_n, gv_0, gv_1, gv_2, pv_i, pv_r, pv_n, pv_q, pk_0, pk_2, pk_2n, pk_2q, pk_10, pk_11, rok_i, rok_z0, rok_z1, ex_eq, ex_z, ex_z2, ex_cz, List.filter_cons, List.filter_nil, List.take_succ_cons, List.take_zero, List.drop_succ_cons, List.drop_zero, List.reverse_cons, List.reverse_nil, List.nil_append, List.cons_append, List.append_nil, List.length_cons, List.length_nil, List.map_cons, List.map_nil, List.sum_cons, List.sum_nil, Bool.not_true, Bool.not_false, Bool.and_true, Bool.true_and, Bool.and_false, Bool.false_and, Bool.or_false, Bool.false_or, Bool.true_or, Bool.or_true, beq_self_eq_true, Nat.reduceBEq, Nat.reduceAdd, Nat.reduceSub, Nat.reduceLT, Nat.reduceLeDiff, Nat.reduceEqDiff, Int.reduceAdd, Int.reduceNeg, Int.reduceToNat, Int.reduceLE, Int.reduceNatCast, Int.reduceNatCast', ↓reduceIte, if_true, if_false, true_and, and_true, false_and, and_false, true_or, or_true, false_or, or_false, Nat.sub_zero, Nat.le_refl, Bool.false_eq_true, Bool.true_eq_false, false_implies, true_implies, implies_true, not_true_eq_false, not_false_eq_true, eq_self, Fin.isValue, Nat.zero_add, Nat.add_zero, and_self, ne_eq, b01, Int32.reduceLT, Int32.reduceLE, z32, z64, vl_0, tl_0, vl_1, tl_1, vl_2, tl_2, vl_3, tl_3, vl_4, tl_4, vl_5, tl_5, vl_6, tl_6, vl_7, tl_7, vl_8, tl_8, vl_9, tl_9, Int.reduceSub, Int.reduceEq, Int.reduceLT, m_X7_text, dX7_text_0, dX7_text_1, fl_6_108, dX7_text_4, kb_6, dX7_text_6, dX7_text_9, kb_m4, dX7_text_11, dX7_text_12, dX7_text_13, ki_0, dX7_text_14, fl_6_117, dX7_text_17, dX7_text_18, dX7_text_19, fl_6_133, dX7_text_22, ki_1, dX7_text_23, dX7_text_24, dX7_text_25, dX7_text_26, dX7_text_27, ki_3, dX7_text_28, dX7_text_31, dX7_text_32, dX7_text_35, dX7_text_36, cl_6_155, dX7_text_39, dX7_text_40, fl_6_123, dX7_text_43, dX7_text_44, dX7_text_47, dX7_text_48, fl_6_126, dX7_text_51, dX7_text_52, dX7_text_55, dX7_text_56, dX7_text_59, dX7_text_60, dX7_text_61, dX7_text_62, fl_6_37, dX7_text_65, ki_4, dX7_text_66, dX7_text_67, dX7_text_70, dX7_text_71, dX7_text_72, dX7_text_73, dX7_text_74, dX7_text_77, dX7_text_78, dX7_text_79, dX7_text_82, dX7_text_83, cl_6_168, dX7_text_86, dX7_text_89, dX7_text_90, dX7_text_93, dX7_text_94, dX7_text_95, dX7_text_98, dX7_text_101, dX7_text_102, dX7_text_105, dX7_text_106, dX7_text_109, dX7_text_110, dX7_text_113, dX7_text_116, dX7_text_117, dX7_text_120, dX7_text_121, dX7_text_122, dX7_text_123, dX7_text_126, dX7_text_127, dX7_text_128, dX7_text_131, dX7_text_132, dX7_text_133, dX7_text_134, dX7_text_135, dX7_text_138, dX7_text_139, dX7_text_140, dX7_text_141, fl_6_76, dX7_text_144, dX7_text_145, dX7_text_148, kb_m100, dX7_text_150, dX7_text_151, fl_6_120, dX7_text_154, dX7_text_155, dX7_text_156, dX7_text_157, dX7_text_158, dX7_text_161, dX7_text_162, dX7_text_163, dX7_text_166, dX7_text_167, dX7_text_170, dX7_text_171, dX7_text_172, M, RL12, z6]; try simp only [ax_ife, if_true, if_false, true_implies, implies_true, false_implies, and_true, true_and, not_true_eq_false, not_false_eq_true])
    exact ⟨Sq_rf _ _ _, RLX, RLE, RT⟩
  · have z6 : (nI T = 6) = False := eq_false (fun q => h6 (e6.mp q))
    have hT : T < 6 := by omega
    generalize hh1 : ax_setI (ax_setI h 100 22 0) 100 30 0 = h1
    have S1 : Sq [110, 111, 127] [22, 23, 24, 25, 28, 29, 30] h h1 := by rw [← hh1]; exact Sq_f (Sq_f (Sq_rf _ _ _) (by decide)) (by decide)
    have g := i_X7_text (G := G) (F := h.2.1 110) hTM hT RW RT WT.2 WT.1 (s_txt tn tb) (fun _ _ => rfl) 3 0 0 [] (fun _ => 0) h1 rfl (Nat.zero_le _) (Nat.zero_le _) S1 (by rw [← hh1]; simp only [setI_at]; rfl) ⟨by rw [← hh1]; simp only [setI_at]; exact RL12, by rw [← hh1]; simp only [setI_at]; rfl, fun k hk => by rw [if_pos (by simpa using hk), ← hh1]; rfl⟩ (fun q hq => by cases hq) (fun i hi => by rw [← hh1]; rfl) rfl
    have hcs := fun hg => s_tx_ok (tn := tn) (tb := tb) WT.2 3 0 0 [] (fun _ => 0) rfl (Nat.zero_le _) (Nat.zero_le _) ⟨fun _ => rfl, fun q => absurd q (by decide), fun q hq => absurd hq (Nat.not_lt_zero q)⟩ hg
    rw [show s_tx tn tb 3 0 0 [] (fun _ => 0) = s_txt tn tb from rfl] at hcs
    have hG : s_txG T tn tb = (s_txt tn tb).1 := by
      unfold s_txG
      rw [decide_eq_true h6, Bool.true_and]
    unfold s_txR s_txT s_txX s_txE s_txn
    rw [hG]
    simp only [if_neg h6]
    generalize s_txt tn tb = tt at *
    refine ax_intro 6 false cdX7_text (by decide +kernel) (by decide +kernel) (by decide +kernel) (Nat.le_of_ble_eq_true rfl) ?_
    refine ax_wq_ok (cuts := [ 26]) 60 ?_
    (simp only [lv_args, fn0, fn1, fn2, fn3, ax_wq_s, ax_step2, ax_ins2_u, ax_ins, ax_nx, ax_cut, ax_lk, ax_st1, ax_st2, ax_ins0, ax_tg, ax_go, ax_sw2, ax_lsw2, ax_kc_s, ax_kc_n, ax_rf_rf, ax_isR_rf, ct_int, ct_long, ct_ref, ct_null, ct_rf, rf_ref, rf_null, isR_ref, isR_null, va_rf_s, va_rf_n, gv_0, gv_1, gv_2, pv_i, pv_r, pv_n, pv_q, pk_0, pk_2, pk_2n, pk_2q, pk_10, pk_11, rok_i, rok_z0, rok_z1, ex_eq, ex_z, ex_z2, ex_cz, List.filter_cons, List.filter_nil, List.take_succ_cons, List.take_zero, List.drop_succ_cons, List.drop_zero, List.reverse_cons, List.reverse_nil, List.nil_append, List.cons_append, List.append_nil, List.length_cons, List.length_nil, List.map_cons, List.map_nil, List.sum_cons, List.sum_nil, Bool.not_true, Bool.not_false, Bool.and_true, Bool.true_and, Bool.and_false, Bool.false_and, Bool.or_false, Bool.false_or, Bool.true_or, Bool.or_true, beq_self_eq_true, Nat.reduceBEq, Nat.reduceAdd, Nat.reduceSub, Nat.reduceLT, Nat.reduceLeDiff, Nat.reduceEqDiff, Int.reduceAdd, Int.reduceNeg, Int.reduceToNat, Int.reduceLE, Int.reduceNatCast, Int.reduceNatCast', ↓reduceIte, if_true, if_false, true_and, and_true, false_and, and_false, true_or, or_true, false_or, or_false, Nat.sub_zero, Nat.le_refl, Bool.false_eq_true, Bool.true_eq_false, false_implies, true_implies, implies_true, not_true_eq_false, not_false_eq_true, eq_self, Fin.isValue, Nat.zero_add, Nat.add_zero, and_self, ne_eq, b01, Int32.reduceLT, Int32.reduceLE, z32, z64, vl_0, tl_0, vl_1, tl_1, vl_2, tl_2, vl_3, tl_3, vl_4, tl_4, vl_5, tl_5, vl_6, tl_6, vl_7, tl_7, vl_8, tl_8, vl_9, tl_9, Int.reduceSub, Int.reduceEq, Int.reduceLT, m_X7_text, dX7_text_0, dX7_text_1, fl_6_108, dX7_text_4, kb_6, dX7_text_6, dX7_text_9, kb_m4, dX7_text_11, dX7_text_12, dX7_text_13, ki_0, dX7_text_14, fl_6_117, dX7_text_17, dX7_text_18, dX7_text_19, fl_6_133, dX7_text_22, ki_1, dX7_text_23, dX7_text_24, dX7_text_25, dX7_text_26, dX7_text_27, ki_3, dX7_text_28, dX7_text_31, dX7_text_32, dX7_text_35, dX7_text_36, cl_6_155, dX7_text_39, dX7_text_40, fl_6_123, dX7_text_43, dX7_text_44, dX7_text_47, dX7_text_48, fl_6_126, dX7_text_51, dX7_text_52, dX7_text_55, dX7_text_56, dX7_text_59, dX7_text_60, dX7_text_61, dX7_text_62, fl_6_37, dX7_text_65, ki_4, dX7_text_66, dX7_text_67, dX7_text_70, dX7_text_71, dX7_text_72, dX7_text_73, dX7_text_74, dX7_text_77, dX7_text_78, dX7_text_79, dX7_text_82, dX7_text_83, cl_6_168, dX7_text_86, dX7_text_89, dX7_text_90, dX7_text_93, dX7_text_94, dX7_text_95, dX7_text_98, dX7_text_101, dX7_text_102, dX7_text_105, dX7_text_106, dX7_text_109, dX7_text_110, dX7_text_113, dX7_text_116, dX7_text_117, dX7_text_120, dX7_text_121, dX7_text_122, dX7_text_123, dX7_text_126, dX7_text_127, dX7_text_128, dX7_text_131, dX7_text_132, dX7_text_133, dX7_text_134, dX7_text_135, dX7_text_138, dX7_text_139, dX7_text_140, dX7_text_141, fl_6_76, dX7_text_144, dX7_text_145, dX7_text_148, kb_m100, dX7_text_150, dX7_text_151, fl_6_120, dX7_text_154, dX7_text_155, dX7_text_156, dX7_text_157, dX7_text_158, dX7_text_161, dX7_text_162, dX7_text_163, dX7_text_166, dX7_text_167, dX7_text_170, dX7_text_171, dX7_text_172, M, RL12, z6, setI_1, setI_22, hh1]; try simp only [ax_ife, if_true, if_false, true_implies, implies_true, false_implies, and_true, true_and, not_true_eq_false, not_false_eq_true])
    refine ax_post (fun v h' q => ?_) g
    obtain ⟨q1, q2, q3, q4, q5, q6, q7⟩ := q
    refine ⟨q1, q2, q4, ?_, ?_, q3, fun i hi => absurd hi (Nat.not_lt_zero i)⟩
    · by_cases hg : tt.1 = true
      · simp only [if_pos hg]
        obtain ⟨u1, u2⟩ := q5 hg
        obtain ⟨o1, o2, o3⟩ := hcs hg
        intro t ht k hk
        by_cases et : t = T
        · subst et
          simp only [if_true] at hk ⊢
          exact u1 k (by omega)
        · simp only [if_neg et] at hk ⊢
          have := hE t (by omega)
          rw [q7 _ (by omega)]
          exact RLX t (by omega) k hk
      · simp only [if_neg hg]
        intro t ht k hk
        have := hE t ht
        rw [q7 _ (by omega)]
        exact RLX t ht k hk
    · by_cases hg : tt.1 = true
      · simp only [if_pos hg]
        obtain ⟨u1, u2⟩ := q5 hg
        intro t ht p hp
        by_cases et : t = T
        · subst et
          simp only [if_true]
          exact u2 p hp
        · simp only [if_neg et]
          rw [q6 _ (by omega)]
          exact RLE t (by omega) p hp
      · simp only [if_neg hg]
        intro t ht p hp
        rw [q6 _ (by omega)]
        exact RLE t ht p hp
end MT7
