/-! the law: texts as codes (0 .. 5 names, 11 .. 19 signs, 100000 and the number) -/
def s_two (c : Nat) (a b : Int32) : Int32 := if c = 11 then (if ¬ a = 0 ∨ ¬ b = 0 then 1 else 0) else if c = 12 then (if ¬ a = 0 ∧ ¬ b = 0 then 1 else 0) else if c = 14 then (if a < b then 1 else 0) else if c = 15 then (if a = b then 1 else 0) else if c = 16 then a + b else if c = 17 then a - b else a * b
def s_stp (nm : Nat → Int32) (c : Nat) (s : List Int32) : Option (List Int32) :=
  if 100000 ≤ c ∧ c < 110000 then some (nI (c - 100000) :: s)
  else if c < 6 then some (nm c :: s)
  else if c = 13 then (match s with | x :: r => some ((if x = 0 then 1 else 0) :: r) | [] => none)
  else if c = 19 then (match s with | x :: r => some ((-x) :: r) | [] => none)
  else if 11 ≤ c ∧ c ≤ 18 then (match s with | y :: x :: r => some (s_two c x y :: r) | _ => none)
  else none
def s_ev (nm : Nat → Int32) : List Nat → List Int32 → Option (List Int32)
  | [], s => some s
  | c :: r, s => (match s_stp nm c s with | some s' => s_ev nm r s' | none => none)
def s_cs (f : Nat → Nat) (k : Nat) : Nat → List Nat
  | 0 => []
  | m + 1 => f k :: s_cs f (k + 1) m
/-- part p of text t -/
def s_L (X E : Nat → Nat → Nat) (t p : Nat) : List Nat := s_cs (X t) (E t p) (E t (p + 1) - E t p)
def s_val (nm : Nat → Int32) (l : List Nat) : Int32 := match s_ev nm l [] with | some (v :: _) => v | _ => 0
/-- texts: how many, which is the law, codes, ends -/
def RML (T r : Nat) (X E : Nat → Nat → Nat) (h : AH) : Prop := h.2.1 100 12 = nI T ∧ h.2.1 100 13 = nI r ∧ (∀ t, t < T → ∀ k, k < E t 3 → h.2.1 110 (200 * t + k) = nI (X t k)) ∧ ∀ t, t < T → ∀ p, p < 4 → h.2.1 111 (4 * t + p) = nI (E t p)
def WFT (X E : Nat → Nat → Nat) (t : Nat) : Prop := E t 0 = 0 ∧ E t 0 ≤ E t 1 ∧ E t 1 ≤ E t 2 ∧ E t 2 ≤ E t 3 ∧ E t 3 ≤ 160 ∧ ∀ p, p < 3 → ∀ nm, ∃ v, s_ev nm (s_L X E t p) [] = some [v]
def WFL (T r : Nat) (X E : Nat → Nat → Nat) : Prop := r < T ∧ T ≤ 6 ∧ ∀ t, t < T → WFT X E t
theorem RML_Sm {l : List Nat} {T r : Nat} {X E : Nat → Nat → Nat} {h h' : AH} (S : Sm l h h') (R : RML T r X E h) (hl : 100 ∉ l ∧ 110 ∉ l ∧ 111 ∉ l) : RML T r X E h' := by
  obtain ⟨l0, l1, l2⟩ := hl
  unfold RML at R ⊢
  rw [S.2.2 _ l0, S.2.2 _ l1, S.2.2 _ l2]
  exact R
/-- a stack in a row, its top the last -/
def s_ar (f : Nat → Int32) : List Int32 → Prop
  | [] => True
  | x :: r => f r.length = x ∧ s_ar f r
theorem s_ar_upd {f : Nat → Int32} {k : Nat} {x : Int32} : ∀ {s : List Int32}, s.length ≤ k → s_ar f s → s_ar (upd f k x) s
  | [], _, _ => trivial
  | y :: r, hk, ha => by
    have hk' : r.length + 1 ≤ k := hk
    exact ⟨by rw [← ha.1]; exact if_neg (by omega), s_ar_upd (by omega) ha.2⟩
theorem s_ar_push {f : Nat → Int32} {x : Int32} {s : List Int32} (ha : s_ar f s) : s_ar (upd f s.length x) (x :: s) := ⟨if_pos rfl, s_ar_upd (Nat.le_refl _) ha⟩
section ML
variable {G : AG} {h : AH}
set_option maxRecDepth 100000 in
set_option maxHeartbeats 400000 in
theorem c_X7_two {c : Nat} (hc1 : 11 ≤ c) (hc2 : c ≤ 18) (hc3 : c ≠ 13) (a b : Int32) : AC G jX7_two 1 0 0 [.int (nI c), .int a, .int b] h (Pu (.int (s_two c a b)) h) := by
  have e0 : (nI c).toInt = (c : Int) := i_n (by omega)
  refine ax_intro 6 false cdX7_two (by decide +kernel) (by decide +kernel) (by decide +kernel) (Nat.le_of_ble_eq_true rfl) ?_
  refine ax_wp_ok (cuts := []) 20 ?_
  simp only [lv_args, fn0, fn1, fn2, fn3, ax_wp_s, ax_step, ax_ins, ax_nx, ax_cut, ax_lk, ax_st1, ax_st2, ax_ins0, ax_tg, ax_go, ax_sw, ax_lsw, ax_kc_s, ax_kc_n, ax_rf_rf, ax_isR_rf, ct_int, ct_long, ct_ref, ct_null, ct_rf, rf_ref, rf_null, isR_ref, isR_null, va_rf_s, va_rf_n, gv_0, gv_1, gv_2, pv_i, pv_r, pv_n, pv_q, pk_0, pk_2, pk_2n, pk_2q, pk_10, pk_11, rok_i, rok_z0, rok_z1, ex_eq, ex_z, ex_z2, ex_cz, List.filter_cons, List.filter_nil, List.take_succ_cons, List.take_zero, List.drop_succ_cons, List.drop_zero, List.reverse_cons, List.reverse_nil, List.nil_append, List.cons_append, List.append_nil, List.length_cons, List.length_nil, List.map_cons, List.map_nil, List.sum_cons, List.sum_nil, Bool.not_true, Bool.not_false, Bool.and_true, Bool.true_and, Bool.and_false, Bool.false_and, Bool.or_false, Bool.false_or, Bool.true_or, Bool.or_true, beq_self_eq_true, Nat.reduceBEq, Nat.reduceAdd, Nat.reduceSub, Nat.reduceLT, Nat.reduceLeDiff, Nat.reduceEqDiff, Int.reduceAdd, Int.reduceNeg, Int.reduceToNat, Int.reduceLE, Int.reduceNatCast, Int.reduceNatCast', ite_true, ite_false, if_true, if_false, reduceIte, true_and, and_true, false_and, and_false, true_or, or_true, false_or, or_false, Nat.sub_zero, Nat.le_refl, Bool.false_eq_true, Bool.true_eq_false, false_implies, true_implies, implies_true, not_true_eq_false, not_false_eq_true, eq_self, Fin.isValue, Nat.zero_add, Nat.add_zero, and_self, ne_eq, b01, Int32.reduceLT, Int32.reduceLE, z32, z64, m_X7_two, dX7_two_0, dX7_two_1, dX7_two_44, dX7_two_45, dX7_two_48, dX7_two_49, dX7_two_52, ki_1, dX7_two_53, dX7_two_56, ki_0, dX7_two_57, dX7_two_58, dX7_two_59, dX7_two_62, dX7_two_63, dX7_two_66, dX7_two_67, dX7_two_70, dX7_two_71, dX7_two_72, dX7_two_73, dX7_two_74, dX7_two_77, dX7_two_78, dX7_two_81, dX7_two_82, dX7_two_83, dX7_two_84, dX7_two_85, dX7_two_88, dX7_two_89, dX7_two_92, dX7_two_93, dX7_two_94, dX7_two_95, dX7_two_96, dX7_two_97, dX7_two_98, dX7_two_99, dX7_two_100, dX7_two_101, dX7_two_102, dX7_two_103, dX7_two_104, dX7_two_105, Pu, e0]
  rcases (show c = 11 ∨ c = 12 ∨ c = 14 ∨ c = 15 ∨ c = 16 ∨ c = 17 ∨ c = 18 by omega) with rfl | rfl | rfl | rfl | rfl | rfl | rfl
  all_goals (by_cases ha : a = 0 <;> by_cases hb : b = 0 <;> simp [s_two, ha, hb])
theorem s_ev_cons {nm : Nat → Int32} {c : Nat} {l : List Nat} {s t : List Int32} (he : s_ev nm (c :: l) s = some t) : ∃ s', s_stp nm c s = some s' ∧ s_ev nm l s' = some t := by
  unfold s_ev at he
  cases hs : s_stp nm c s with
  | none => rw [hs] at he; cases he
  | some s' => rw [hs] at he; exact ⟨s', rfl, he⟩
theorem s_stp_cases {nm : Nat → Int32} {c : Nat} {s s' : List Int32} (he : s_stp nm c s = some s') :
    (100000 ≤ c ∧ c < 110000 ∧ s' = nI (c - 100000) :: s) ∨ (c < 6 ∧ s' = nm c :: s) ∨ (c = 13 ∧ ∃ x r, s = x :: r ∧ s' = (if x = 0 then 1 else 0) :: r) ∨ (c = 19 ∧ ∃ x r, s = x :: r ∧ s' = (-x) :: r) ∨ (11 ≤ c ∧ c ≤ 18 ∧ c ≠ 13 ∧ ∃ y x r, s = y :: x :: r ∧ s' = s_two c x y :: r) := by
  unfold s_stp at he
  by_cases h1 : 100000 ≤ c ∧ c < 110000
  · rw [if_pos h1] at he
    cases he
    exact Or.inl ⟨h1.1, h1.2, rfl⟩
  · rw [if_neg h1] at he
    by_cases h2 : c < 6
    · rw [if_pos h2] at he
      cases he
      exact Or.inr (Or.inl ⟨h2, rfl⟩)
    · rw [if_neg h2] at he
      by_cases h3 : c = 13
      · rw [if_pos h3] at he
        cases s with
        | nil => cases he
        | cons x r => cases he; exact Or.inr (Or.inr (Or.inl ⟨h3, x, r, rfl, rfl⟩))
      · rw [if_neg h3] at he
        by_cases h4 : c = 19
        · rw [if_pos h4] at he
          cases s with
          | nil => cases he
          | cons x r => cases he; exact Or.inr (Or.inr (Or.inr (Or.inl ⟨h4, x, r, rfl, rfl⟩)))
        · rw [if_neg h4] at he
          by_cases h5 : 11 ≤ c ∧ c ≤ 18
          · rw [if_pos h5] at he
            cases s with
            | nil => cases he
            | cons y r =>
              cases r with
              | nil => cases he
              | cons x r => cases he; exact Or.inr (Or.inr (Or.inr (Or.inr ⟨h5.1, h5.2, h3, y, x, r, rfl, rfl⟩)))
          · rw [if_neg h5] at he
            cases he
set_option maxRecDepth 100000 in
set_option maxHeartbeats 4000000 in
theorem c_X7_worth {T r p : Nat} {X E : Nat → Nat → Nat} (M : TopM h) (W : WFL T r X E) (R : RML T r X E h) (hp : p < 3) : AC G jX7_worth 2 0 0 [.ref 100, .int (nI p)] h (fun v h' => v = some (.int (s_val (h.2.1 132) (s_L X E r p))) ∧ Sm [131] h h') := by
  obtain ⟨W1, W2, W3⟩ := W
  obtain ⟨E0, E1, E2, E3, E4, E5⟩ := W3 r W1
  obtain ⟨v, hv⟩ := E5 p hp (h.2.1 132)
  have hval : s_val (h.2.1 132) (s_L X E r p) = v := by unfold s_val; rw [hv]
  rw [hval]
  have hEp : E r p ≤ E r (p + 1) ∧ E r (p + 1) ≤ E r 3 := by
    rcases (show p = 0 ∨ p = 1 ∨ p = 2 by omega) with rfl | rfl | rfl
    · exact ⟨E1, Nat.le_trans E2 E3⟩
    · exact ⟨E2, E3⟩
    · exact ⟨E3, Nat.le_refl _⟩
  have hge : ∀ k, k < E r (p + 1) → ¬ nI (E r (p + 1)) ≤ nI k := fun k hk => nI_ge hk (by omega)
  have lp : ∀ (m k : Nat) (s : List Int32) (h1 : AH), Sm [131] h h1 → s_ar (h1.2.1 131) s → s_ev (h.2.1 132) (s_cs (X r) k m) s = some [v] → s.length + m ≤ 160 → k + m = E r (p + 1) → AW G 6 5 false cX7_worth (Option.some FieldType.int) 2 (fun q h' => q = some (.int v) ∧ Sm [131] h h') 0 0 16 [(0, .ref 100), (1, .int (nI p)), (2, .int (nI s.length)), (3, .int (nI k))] [] h1 := by
    intro m
    induction m with
    | zero =>
      intro k s h1 S1 ha he hl hk
      have M1 := TopM_Sm S1 M
      obtain ⟨R1, R2, R3, R4⟩ := RML_Sm S1 R (by decide)
      unfold TopM at M1
      have ee : k = E r (p + 1) := by omega
      have e1 : (4 : Int32) * nI r + nI p + 1 = nI (4 * r + (p + 1)) := by
        rw [show (4 : Int32) = nI 4 from rfl, pk_mul, nI_add, nI_1]
        rfl
      have e2 : (nI (4 * r + (p + 1))).toNatClampNeg = 4 * r + (p + 1) := nI_clamp (by omega)
      have e3 : vp_in (nI (4 * r + (p + 1))) 24 := vp_in_nI (by omega) (by decide)
      have e4 := R4 r W1 (p + 1) (by omega)
      have e5 : vp_in (0 : Int32) 200 := vp_in_nI (n := 0) (by decide) (by decide)
      have e6 : (0 : Int32).toNatClampNeg = 0 := by decide
      cases he
      subst ee
      refine ax_wp_ok (cuts := [ 16]) 60 ?_
      simp only [lv_args, fn0, fn1, fn2, fn3, ax_wp_s, ax_step, ax_ins, ax_nx, ax_cut, ax_lk, ax_st1, ax_st2, ax_ins0, ax_tg, ax_go, ax_sw, ax_lsw, ax_kc_s, ax_kc_n, ax_rf_rf, ax_isR_rf, ct_int, ct_long, ct_ref, ct_null, ct_rf, rf_ref, rf_null, isR_ref, isR_null, va_rf_s, va_rf_n, gv_0, gv_1, gv_2, pv_i, pv_r, pv_n, pv_q, pk_0, pk_2, pk_2n, pk_2q, pk_10, pk_11, rok_i, rok_z0, rok_z1, ex_eq, ex_z, ex_z2, ex_cz, List.filter_cons, List.filter_nil, List.take_succ_cons, List.take_zero, List.drop_succ_cons, List.drop_zero, List.reverse_cons, List.reverse_nil, List.nil_append, List.cons_append, List.append_nil, List.length_cons, List.length_nil, List.map_cons, List.map_nil, List.sum_cons, List.sum_nil, Bool.not_true, Bool.not_false, Bool.and_true, Bool.true_and, Bool.and_false, Bool.false_and, Bool.or_false, Bool.false_or, Bool.true_or, Bool.or_true, beq_self_eq_true, Nat.reduceBEq, Nat.reduceAdd, Nat.reduceSub, Nat.reduceLT, Nat.reduceLeDiff, Nat.reduceEqDiff, Int.reduceAdd, Int.reduceNeg, Int.reduceToNat, Int.reduceLE, Int.reduceNatCast, Int.reduceNatCast', ite_true, ite_false, if_true, if_false, reduceIte, true_and, and_true, false_and, and_false, true_or, or_true, false_or, or_false, Nat.sub_zero, Nat.le_refl, Bool.false_eq_true, Bool.true_eq_false, false_implies, true_implies, implies_true, not_true_eq_false, not_false_eq_true, eq_self, Fin.isValue, Nat.zero_add, Nat.add_zero, and_self, ne_eq, b01, Int32.reduceLT, Int32.reduceLE, z32, z64, m_X7_worth, dX7_worth_0, ki_0, dX7_worth_1, dX7_worth_2, dX7_worth_3, fl_6_37, dX7_worth_6, ki_4, dX7_worth_7, dX7_worth_8, fl_6_111, dX7_worth_11, dX7_worth_12, dX7_worth_13, dX7_worth_14, dX7_worth_15, dX7_worth_16, dX7_worth_17, dX7_worth_18, dX7_worth_21, dX7_worth_22, dX7_worth_23, dX7_worth_26, dX7_worth_27, dX7_worth_28, dX7_worth_29, ki_1, dX7_worth_30, dX7_worth_31, dX7_worth_32, dX7_worth_35, dX7_worth_36, fl_6_34, dX7_worth_39, ks_200, dX7_worth_42, dX7_worth_43, dX7_worth_46, dX7_worth_47, dX7_worth_48, dX7_worth_49, dX7_worth_50, dX7_worth_52, dX7_worth_54, il_6_158, sl_6_158, dX7_worth_56, dX7_worth_59, dX7_worth_61, kb_11, dX7_worth_63, dX7_worth_66, dX7_worth_67, fl_6_61, dX7_worth_70, dX7_worth_71, dX7_worth_73, dX7_worth_75, dX7_worth_78, dX7_worth_79, fl_6_64, dX7_worth_82, dX7_worth_84, dX7_worth_85, dX7_worth_88, dX7_worth_90, dX7_worth_92, dX7_worth_93, dX7_worth_94, dX7_worth_97, dX7_worth_100, dX7_worth_102, kb_13, dX7_worth_104, dX7_worth_107, dX7_worth_108, dX7_worth_111, dX7_worth_112, dX7_worth_113, dX7_worth_114, dX7_worth_115, dX7_worth_118, dX7_worth_119, dX7_worth_120, dX7_worth_121, dX7_worth_122, dX7_worth_125, dX7_worth_126, dX7_worth_129, dX7_worth_130, dX7_worth_131, dX7_worth_134, dX7_worth_136, kb_19, dX7_worth_138, dX7_worth_141, dX7_worth_142, dX7_worth_145, dX7_worth_146, dX7_worth_147, dX7_worth_148, dX7_worth_149, dX7_worth_152, dX7_worth_153, dX7_worth_154, dX7_worth_155, dX7_worth_156, dX7_worth_157, dX7_worth_158, dX7_worth_161, ki_m1, dX7_worth_164, dX7_worth_165, dX7_worth_168, dX7_worth_169, dX7_worth_170, dX7_worth_171, dX7_worth_173, dX7_worth_174, dX7_worth_177, dX7_worth_178, dX7_worth_179, dX7_worth_180, dX7_worth_181, dX7_worth_182, dX7_worth_185, dX7_worth_186, dX7_worth_187, cl_6_172, dX7_worth_190, dX7_worth_191, dX7_worth_194, dX7_worth_197, dX7_worth_198, dX7_worth_201, dX7_worth_202, dX7_worth_203, M1, R2, e1, e2, e3, e4, e5, e6, Int32.le_refl]
      exact ⟨congrArg (fun z => some (Value.int z)) ha.1, S1⟩
    | succ m ih =>
      intro k s h1 S1 ha he hl hk
      have M1 := TopM_Sm S1 M
      obtain ⟨R1, R2, R3, R4⟩ := RML_Sm S1 R (by decide)
      have h132 : h1.2.1 132 = h.2.1 132 := S1.2.2 132 (by decide)
      unfold TopM at M1
      have hk2 : k < E r 3 := by omega
      have e1 : (4 : Int32) * nI r + nI p + 1 = nI (4 * r + (p + 1)) := by
        rw [show (4 : Int32) = nI 4 from rfl, pk_mul, nI_add, nI_1]
        rfl
      have e2 : (nI (4 * r + (p + 1))).toNatClampNeg = 4 * r + (p + 1) := nI_clamp (by omega)
      have e3 : vp_in (nI (4 * r + (p + 1))) 24 := vp_in_nI (by omega) (by decide)
      have e4 := R4 r W1 (p + 1) (by omega)
      have f1 : (200 : Int32) * nI r + nI k = nI (200 * r + k) := by
        rw [show (200 : Int32) = nI 200 from rfl, pk_mul, nI_add]
      have f2 : (nI (200 * r + k)).toNatClampNeg = 200 * r + k := nI_clamp (by omega)
      have f3 : vp_in (nI (200 * r + k)) 1200 := vp_in_nI (by omega) (by decide)
      have f4 := R3 r W1 k hk2
      have g0 := hge k (by omega)
      obtain ⟨s', hs', he'⟩ := s_ev_cons (show s_ev (h.2.1 132) (X r k :: s_cs (X r) (k + 1) m) s = some [v] from he)
      have go : ∀ (h2 : AH) (x : Int32), s_ar (h2.2.1 131) s' → Sm [131] h h2 → s'.length ≤ s.length + 1 → AW G 6 5 false cX7_worth (Option.some FieldType.int) 2 (fun q h' => q = some (.int v) ∧ Sm [131] h h') 0 0 16 [(0, .ref 100), (1, .int (nI p)), (2, .int (nI s'.length)), (3, .int (nI (k + 1))), (4, .int x)] [] h2 := fun h2 x q1 q2 q3 => ax_sub (fun q hq => by simp at hq ⊢; rcases hq with hq | hq | hq | hq <;> simp [hq]) (ih (k + 1) s' h2 q2 q1 he' (by omega) (by omega))
      have n2 : (nI s.length).toNatClampNeg = s.length := nI_clamp (by omega)
      have n3 : vp_in (nI s.length) 200 := vp_in_nI (by omega) (by decide)
      rcases s_stp_cases hs' with ⟨c1, c2, rfl⟩ | ⟨c1, rfl⟩ | ⟨c1, x, r', rfl, rfl⟩ | ⟨c1, x, r', rfl, rfl⟩ | ⟨c1, c2, c3, y, x, r', rfl, rfl⟩
      · have d1 : (100000 : Int32) ≤ nI (X r k) := (i_Lle (n := 100000) (by omega) (by decide)).mpr c1
        have d2 : (11 : Int32) ≤ nI (X r k) := (i_Lle (n := 11) (by omega) (by decide)).mpr (by omega)
        have d3 : nI (X r k) - 100000 = nI (X r k - 100000) := pk_sub (b := 100000) c1
        refine ax_wp_ok (cuts := [ 16]) 90 ?_
        simp only [lv_args, fn0, fn1, fn2, fn3, ax_wp_s, ax_step, ax_ins, ax_nx, ax_cut, ax_lk, ax_st1, ax_st2, ax_ins0, ax_tg, ax_go, ax_sw, ax_lsw, ax_kc_s, ax_kc_n, ax_rf_rf, ax_isR_rf, ct_int, ct_long, ct_ref, ct_null, ct_rf, rf_ref, rf_null, isR_ref, isR_null, va_rf_s, va_rf_n, gv_0, gv_1, gv_2, pv_i, pv_r, pv_n, pv_q, pk_0, pk_2, pk_2n, pk_2q, pk_10, pk_11, rok_i, rok_z0, rok_z1, ex_eq, ex_z, ex_z2, ex_cz, List.filter_cons, List.filter_nil, List.take_succ_cons, List.take_zero, List.drop_succ_cons, List.drop_zero, List.reverse_cons, List.reverse_nil, List.nil_append, List.cons_append, List.append_nil, List.length_cons, List.length_nil, List.map_cons, List.map_nil, List.sum_cons, List.sum_nil, Bool.not_true, Bool.not_false, Bool.and_true, Bool.true_and, Bool.and_false, Bool.false_and, Bool.or_false, Bool.false_or, Bool.true_or, Bool.or_true, beq_self_eq_true, Nat.reduceBEq, Nat.reduceAdd, Nat.reduceSub, Nat.reduceLT, Nat.reduceLeDiff, Nat.reduceEqDiff, Int.reduceAdd, Int.reduceNeg, Int.reduceToNat, Int.reduceLE, Int.reduceNatCast, Int.reduceNatCast', ite_true, ite_false, if_true, if_false, reduceIte, true_and, and_true, false_and, and_false, true_or, or_true, false_or, or_false, Nat.sub_zero, Nat.le_refl, Bool.false_eq_true, Bool.true_eq_false, false_implies, true_implies, implies_true, not_true_eq_false, not_false_eq_true, eq_self, Fin.isValue, Nat.zero_add, Nat.add_zero, and_self, ne_eq, b01, Int32.reduceLT, Int32.reduceLE, z32, z64, m_X7_worth, dX7_worth_0, ki_0, dX7_worth_1, dX7_worth_2, dX7_worth_3, fl_6_37, dX7_worth_6, ki_4, dX7_worth_7, dX7_worth_8, fl_6_111, dX7_worth_11, dX7_worth_12, dX7_worth_13, dX7_worth_14, dX7_worth_15, dX7_worth_16, dX7_worth_17, dX7_worth_18, dX7_worth_21, dX7_worth_22, dX7_worth_23, dX7_worth_26, dX7_worth_27, dX7_worth_28, dX7_worth_29, ki_1, dX7_worth_30, dX7_worth_31, dX7_worth_32, dX7_worth_35, dX7_worth_36, fl_6_34, dX7_worth_39, ks_200, dX7_worth_42, dX7_worth_43, dX7_worth_46, dX7_worth_47, dX7_worth_48, dX7_worth_49, dX7_worth_50, dX7_worth_52, dX7_worth_54, il_6_158, sl_6_158, dX7_worth_56, dX7_worth_59, dX7_worth_61, kb_11, dX7_worth_63, dX7_worth_66, dX7_worth_67, fl_6_61, dX7_worth_70, dX7_worth_71, dX7_worth_73, dX7_worth_75, dX7_worth_78, dX7_worth_79, fl_6_64, dX7_worth_82, dX7_worth_84, dX7_worth_85, dX7_worth_88, dX7_worth_90, dX7_worth_92, dX7_worth_93, dX7_worth_94, dX7_worth_97, dX7_worth_100, dX7_worth_102, kb_13, dX7_worth_104, dX7_worth_107, dX7_worth_108, dX7_worth_111, dX7_worth_112, dX7_worth_113, dX7_worth_114, dX7_worth_115, dX7_worth_118, dX7_worth_119, dX7_worth_120, dX7_worth_121, dX7_worth_122, dX7_worth_125, dX7_worth_126, dX7_worth_129, dX7_worth_130, dX7_worth_131, dX7_worth_134, dX7_worth_136, kb_19, dX7_worth_138, dX7_worth_141, dX7_worth_142, dX7_worth_145, dX7_worth_146, dX7_worth_147, dX7_worth_148, dX7_worth_149, dX7_worth_152, dX7_worth_153, dX7_worth_154, dX7_worth_155, dX7_worth_156, dX7_worth_157, dX7_worth_158, dX7_worth_161, ki_m1, dX7_worth_164, dX7_worth_165, dX7_worth_168, dX7_worth_169, dX7_worth_170, dX7_worth_171, dX7_worth_173, dX7_worth_174, dX7_worth_177, dX7_worth_178, dX7_worth_179, dX7_worth_180, dX7_worth_181, dX7_worth_182, dX7_worth_185, dX7_worth_186, dX7_worth_187, cl_6_172, dX7_worth_190, dX7_worth_191, dX7_worth_194, dX7_worth_197, dX7_worth_198, dX7_worth_201, dX7_worth_202, dX7_worth_203, M1, R2, e1, e2, e3, e4, f1, f2, f3, f4, g0, n2, n3, d1, d2, d3, nI_1]
        refine go _ _ ?_ (Sm_tr S1 (Sm_I (l := [131]) (a := 131) (by decide)) (fun _ q => q) (fun _ q => q)) (Nat.le_refl _)
        show s_ar (ax_up h1.2.1 131 s.length (nI (X r k - 100000)) 131) _
        rw [ax_up_row]
        exact s_ar_push ha
      · have d1 : ¬ (100000 : Int32) ≤ nI (X r k) := fun z => by have := (i_Lle (n := 100000) (by omega) (by decide)).mp z; omega
        have d2 : ¬ (11 : Int32) ≤ nI (X r k) := fun z => by have := (i_Lle (n := 11) (by omega) (by decide)).mp z; omega
        have d3 : vp_in (nI (X r k)) 6 := vp_in_nI c1 (by decide)
        have d4 : (nI (X r k)).toNatClampNeg = X r k := nI_clamp (by omega)
        refine ax_wp_ok (cuts := [ 16]) 90 ?_
        simp only [lv_args, fn0, fn1, fn2, fn3, ax_wp_s, ax_step, ax_ins, ax_nx, ax_cut, ax_lk, ax_st1, ax_st2, ax_ins0, ax_tg, ax_go, ax_sw, ax_lsw, ax_kc_s, ax_kc_n, ax_rf_rf, ax_isR_rf, ct_int, ct_long, ct_ref, ct_null, ct_rf, rf_ref, rf_null, isR_ref, isR_null, va_rf_s, va_rf_n, gv_0, gv_1, gv_2, pv_i, pv_r, pv_n, pv_q, pk_0, pk_2, pk_2n, pk_2q, pk_10, pk_11, rok_i, rok_z0, rok_z1, ex_eq, ex_z, ex_z2, ex_cz, List.filter_cons, List.filter_nil, List.take_succ_cons, List.take_zero, List.drop_succ_cons, List.drop_zero, List.reverse_cons, List.reverse_nil, List.nil_append, List.cons_append, List.append_nil, List.length_cons, List.length_nil, List.map_cons, List.map_nil, List.sum_cons, List.sum_nil, Bool.not_true, Bool.not_false, Bool.and_true, Bool.true_and, Bool.and_false, Bool.false_and, Bool.or_false, Bool.false_or, Bool.true_or, Bool.or_true, beq_self_eq_true, Nat.reduceBEq, Nat.reduceAdd, Nat.reduceSub, Nat.reduceLT, Nat.reduceLeDiff, Nat.reduceEqDiff, Int.reduceAdd, Int.reduceNeg, Int.reduceToNat, Int.reduceLE, Int.reduceNatCast, Int.reduceNatCast', ite_true, ite_false, if_true, if_false, reduceIte, true_and, and_true, false_and, and_false, true_or, or_true, false_or, or_false, Nat.sub_zero, Nat.le_refl, Bool.false_eq_true, Bool.true_eq_false, false_implies, true_implies, implies_true, not_true_eq_false, not_false_eq_true, eq_self, Fin.isValue, Nat.zero_add, Nat.add_zero, and_self, ne_eq, b01, Int32.reduceLT, Int32.reduceLE, z32, z64, m_X7_worth, dX7_worth_0, ki_0, dX7_worth_1, dX7_worth_2, dX7_worth_3, fl_6_37, dX7_worth_6, ki_4, dX7_worth_7, dX7_worth_8, fl_6_111, dX7_worth_11, dX7_worth_12, dX7_worth_13, dX7_worth_14, dX7_worth_15, dX7_worth_16, dX7_worth_17, dX7_worth_18, dX7_worth_21, dX7_worth_22, dX7_worth_23, dX7_worth_26, dX7_worth_27, dX7_worth_28, dX7_worth_29, ki_1, dX7_worth_30, dX7_worth_31, dX7_worth_32, dX7_worth_35, dX7_worth_36, fl_6_34, dX7_worth_39, ks_200, dX7_worth_42, dX7_worth_43, dX7_worth_46, dX7_worth_47, dX7_worth_48, dX7_worth_49, dX7_worth_50, dX7_worth_52, dX7_worth_54, il_6_158, sl_6_158, dX7_worth_56, dX7_worth_59, dX7_worth_61, kb_11, dX7_worth_63, dX7_worth_66, dX7_worth_67, fl_6_61, dX7_worth_70, dX7_worth_71, dX7_worth_73, dX7_worth_75, dX7_worth_78, dX7_worth_79, fl_6_64, dX7_worth_82, dX7_worth_84, dX7_worth_85, dX7_worth_88, dX7_worth_90, dX7_worth_92, dX7_worth_93, dX7_worth_94, dX7_worth_97, dX7_worth_100, dX7_worth_102, kb_13, dX7_worth_104, dX7_worth_107, dX7_worth_108, dX7_worth_111, dX7_worth_112, dX7_worth_113, dX7_worth_114, dX7_worth_115, dX7_worth_118, dX7_worth_119, dX7_worth_120, dX7_worth_121, dX7_worth_122, dX7_worth_125, dX7_worth_126, dX7_worth_129, dX7_worth_130, dX7_worth_131, dX7_worth_134, dX7_worth_136, kb_19, dX7_worth_138, dX7_worth_141, dX7_worth_142, dX7_worth_145, dX7_worth_146, dX7_worth_147, dX7_worth_148, dX7_worth_149, dX7_worth_152, dX7_worth_153, dX7_worth_154, dX7_worth_155, dX7_worth_156, dX7_worth_157, dX7_worth_158, dX7_worth_161, ki_m1, dX7_worth_164, dX7_worth_165, dX7_worth_168, dX7_worth_169, dX7_worth_170, dX7_worth_171, dX7_worth_173, dX7_worth_174, dX7_worth_177, dX7_worth_178, dX7_worth_179, dX7_worth_180, dX7_worth_181, dX7_worth_182, dX7_worth_185, dX7_worth_186, dX7_worth_187, cl_6_172, dX7_worth_190, dX7_worth_191, dX7_worth_194, dX7_worth_197, dX7_worth_198, dX7_worth_201, dX7_worth_202, dX7_worth_203, M1, R2, e1, e2, e3, e4, f1, f2, f3, f4, g0, n2, n3, d1, d2, d3, d4, nI_1, h132]
        refine go _ _ ?_ (Sm_tr S1 (Sm_I (l := [131]) (a := 131) (by decide)) (fun _ q => q) (fun _ q => q)) (Nat.le_refl _)
        show s_ar (ax_up h1.2.1 131 s.length _ 131) _
        rw [ax_up_row]
        exact s_ar_push ha
      · have d1 : ¬ (100000 : Int32) ≤ nI (X r k) := fun z => by have := (i_Lle (n := 100000) (by omega) (by decide)).mp z; omega
        have d2 : (11 : Int32) ≤ nI (X r k) := (i_Lle (n := 11) (by omega) (by decide)).mpr (by omega)
        have d3 : nI (X r k) = 13 := by rw [c1]; rfl
        have n4 : nI (r'.length + 1) - 1 = nI r'.length := i_m1 _
        have n5 : (nI r'.length).toNatClampNeg = r'.length := nI_clamp (by have : (x :: r').length = r'.length + 1 := rfl; omega)
        have n6 : vp_in (nI r'.length) 200 := vp_in_nI (by have : (x :: r').length = r'.length + 1 := rfl; omega) (by decide)
        refine ax_wp_ok (cuts := [ 16]) 90 ?_
        simp only [lv_args, fn0, fn1, fn2, fn3, ax_wp_s, ax_step, ax_ins, ax_nx, ax_cut, ax_lk, ax_st1, ax_st2, ax_ins0, ax_tg, ax_go, ax_sw, ax_lsw, ax_kc_s, ax_kc_n, ax_rf_rf, ax_isR_rf, ct_int, ct_long, ct_ref, ct_null, ct_rf, rf_ref, rf_null, isR_ref, isR_null, va_rf_s, va_rf_n, gv_0, gv_1, gv_2, pv_i, pv_r, pv_n, pv_q, pk_0, pk_2, pk_2n, pk_2q, pk_10, pk_11, rok_i, rok_z0, rok_z1, ex_eq, ex_z, ex_z2, ex_cz, List.filter_cons, List.filter_nil, List.take_succ_cons, List.take_zero, List.drop_succ_cons, List.drop_zero, List.reverse_cons, List.reverse_nil, List.nil_append, List.cons_append, List.append_nil, List.length_cons, List.length_nil, List.map_cons, List.map_nil, List.sum_cons, List.sum_nil, Bool.not_true, Bool.not_false, Bool.and_true, Bool.true_and, Bool.and_false, Bool.false_and, Bool.or_false, Bool.false_or, Bool.true_or, Bool.or_true, beq_self_eq_true, Nat.reduceBEq, Nat.reduceAdd, Nat.reduceSub, Nat.reduceLT, Nat.reduceLeDiff, Nat.reduceEqDiff, Int.reduceAdd, Int.reduceNeg, Int.reduceToNat, Int.reduceLE, Int.reduceNatCast, Int.reduceNatCast', ite_true, ite_false, if_true, if_false, reduceIte, true_and, and_true, false_and, and_false, true_or, or_true, false_or, or_false, Nat.sub_zero, Nat.le_refl, Bool.false_eq_true, Bool.true_eq_false, false_implies, true_implies, implies_true, not_true_eq_false, not_false_eq_true, eq_self, Fin.isValue, Nat.zero_add, Nat.add_zero, and_self, ne_eq, b01, Int32.reduceLT, Int32.reduceLE, z32, z64, m_X7_worth, dX7_worth_0, ki_0, dX7_worth_1, dX7_worth_2, dX7_worth_3, fl_6_37, dX7_worth_6, ki_4, dX7_worth_7, dX7_worth_8, fl_6_111, dX7_worth_11, dX7_worth_12, dX7_worth_13, dX7_worth_14, dX7_worth_15, dX7_worth_16, dX7_worth_17, dX7_worth_18, dX7_worth_21, dX7_worth_22, dX7_worth_23, dX7_worth_26, dX7_worth_27, dX7_worth_28, dX7_worth_29, ki_1, dX7_worth_30, dX7_worth_31, dX7_worth_32, dX7_worth_35, dX7_worth_36, fl_6_34, dX7_worth_39, ks_200, dX7_worth_42, dX7_worth_43, dX7_worth_46, dX7_worth_47, dX7_worth_48, dX7_worth_49, dX7_worth_50, dX7_worth_52, dX7_worth_54, il_6_158, sl_6_158, dX7_worth_56, dX7_worth_59, dX7_worth_61, kb_11, dX7_worth_63, dX7_worth_66, dX7_worth_67, fl_6_61, dX7_worth_70, dX7_worth_71, dX7_worth_73, dX7_worth_75, dX7_worth_78, dX7_worth_79, fl_6_64, dX7_worth_82, dX7_worth_84, dX7_worth_85, dX7_worth_88, dX7_worth_90, dX7_worth_92, dX7_worth_93, dX7_worth_94, dX7_worth_97, dX7_worth_100, dX7_worth_102, kb_13, dX7_worth_104, dX7_worth_107, dX7_worth_108, dX7_worth_111, dX7_worth_112, dX7_worth_113, dX7_worth_114, dX7_worth_115, dX7_worth_118, dX7_worth_119, dX7_worth_120, dX7_worth_121, dX7_worth_122, dX7_worth_125, dX7_worth_126, dX7_worth_129, dX7_worth_130, dX7_worth_131, dX7_worth_134, dX7_worth_136, kb_19, dX7_worth_138, dX7_worth_141, dX7_worth_142, dX7_worth_145, dX7_worth_146, dX7_worth_147, dX7_worth_148, dX7_worth_149, dX7_worth_152, dX7_worth_153, dX7_worth_154, dX7_worth_155, dX7_worth_156, dX7_worth_157, dX7_worth_158, dX7_worth_161, ki_m1, dX7_worth_164, dX7_worth_165, dX7_worth_168, dX7_worth_169, dX7_worth_170, dX7_worth_171, dX7_worth_173, dX7_worth_174, dX7_worth_177, dX7_worth_178, dX7_worth_179, dX7_worth_180, dX7_worth_181, dX7_worth_182, dX7_worth_185, dX7_worth_186, dX7_worth_187, cl_6_172, dX7_worth_190, dX7_worth_191, dX7_worth_194, dX7_worth_197, dX7_worth_198, dX7_worth_201, dX7_worth_202, dX7_worth_203, M1, R2, e1, e2, e3, e4, f1, f2, f3, f4, g0, n4, n5, n6, d1, d2, d3, nI_1, ha.1]
        refine ⟨fun z => ?_, fun z => ?_⟩
        · rw [if_neg z] at go
          refine go _ _ ?_ (Sm_tr S1 (Sm_I (l := [131]) (a := 131) (by decide)) (fun _ q => q) (fun _ q => q)) (Nat.le_succ _)
          show s_ar (ax_up h1.2.1 131 r'.length 0 131) _
          rw [ax_up_row]
          exact s_ar_push ha.2
        · rw [if_pos z] at go
          refine go _ _ ?_ (Sm_tr S1 (Sm_I (l := [131]) (a := 131) (by decide)) (fun _ q => q) (fun _ q => q)) (Nat.le_succ _)
          show s_ar (ax_up h1.2.1 131 r'.length 1 131) _
          rw [ax_up_row]
          exact s_ar_push ha.2
      · have d1 : ¬ (100000 : Int32) ≤ nI (X r k) := fun z => by have := (i_Lle (n := 100000) (by omega) (by decide)).mp z; omega
        have d2 : (11 : Int32) ≤ nI (X r k) := (i_Lle (n := 11) (by omega) (by decide)).mpr (by omega)
        have d3 : nI (X r k) = 19 := by rw [c1]; rfl
        have d4 : ¬ (19 : Int32) = 13 := by decide
        have n4 : nI (r'.length + 1) - 1 = nI r'.length := i_m1 _
        have n5 : (nI r'.length).toNatClampNeg = r'.length := nI_clamp (by have : (x :: r').length = r'.length + 1 := rfl; omega)
        have n6 : vp_in (nI r'.length) 200 := vp_in_nI (by have : (x :: r').length = r'.length + 1 := rfl; omega) (by decide)
        refine ax_wp_ok (cuts := [ 16]) 90 ?_
        simp only [lv_args, fn0, fn1, fn2, fn3, ax_wp_s, ax_step, ax_ins, ax_nx, ax_cut, ax_lk, ax_st1, ax_st2, ax_ins0, ax_tg, ax_go, ax_sw, ax_lsw, ax_kc_s, ax_kc_n, ax_rf_rf, ax_isR_rf, ct_int, ct_long, ct_ref, ct_null, ct_rf, rf_ref, rf_null, isR_ref, isR_null, va_rf_s, va_rf_n, gv_0, gv_1, gv_2, pv_i, pv_r, pv_n, pv_q, pk_0, pk_2, pk_2n, pk_2q, pk_10, pk_11, rok_i, rok_z0, rok_z1, ex_eq, ex_z, ex_z2, ex_cz, List.filter_cons, List.filter_nil, List.take_succ_cons, List.take_zero, List.drop_succ_cons, List.drop_zero, List.reverse_cons, List.reverse_nil, List.nil_append, List.cons_append, List.append_nil, List.length_cons, List.length_nil, List.map_cons, List.map_nil, List.sum_cons, List.sum_nil, Bool.not_true, Bool.not_false, Bool.and_true, Bool.true_and, Bool.and_false, Bool.false_and, Bool.or_false, Bool.false_or, Bool.true_or, Bool.or_true, beq_self_eq_true, Nat.reduceBEq, Nat.reduceAdd, Nat.reduceSub, Nat.reduceLT, Nat.reduceLeDiff, Nat.reduceEqDiff, Int.reduceAdd, Int.reduceNeg, Int.reduceToNat, Int.reduceLE, Int.reduceNatCast, Int.reduceNatCast', ite_true, ite_false, if_true, if_false, reduceIte, true_and, and_true, false_and, and_false, true_or, or_true, false_or, or_false, Nat.sub_zero, Nat.le_refl, Bool.false_eq_true, Bool.true_eq_false, false_implies, true_implies, implies_true, not_true_eq_false, not_false_eq_true, eq_self, Fin.isValue, Nat.zero_add, Nat.add_zero, and_self, ne_eq, b01, Int32.reduceLT, Int32.reduceLE, z32, z64, m_X7_worth, dX7_worth_0, ki_0, dX7_worth_1, dX7_worth_2, dX7_worth_3, fl_6_37, dX7_worth_6, ki_4, dX7_worth_7, dX7_worth_8, fl_6_111, dX7_worth_11, dX7_worth_12, dX7_worth_13, dX7_worth_14, dX7_worth_15, dX7_worth_16, dX7_worth_17, dX7_worth_18, dX7_worth_21, dX7_worth_22, dX7_worth_23, dX7_worth_26, dX7_worth_27, dX7_worth_28, dX7_worth_29, ki_1, dX7_worth_30, dX7_worth_31, dX7_worth_32, dX7_worth_35, dX7_worth_36, fl_6_34, dX7_worth_39, ks_200, dX7_worth_42, dX7_worth_43, dX7_worth_46, dX7_worth_47, dX7_worth_48, dX7_worth_49, dX7_worth_50, dX7_worth_52, dX7_worth_54, il_6_158, sl_6_158, dX7_worth_56, dX7_worth_59, dX7_worth_61, kb_11, dX7_worth_63, dX7_worth_66, dX7_worth_67, fl_6_61, dX7_worth_70, dX7_worth_71, dX7_worth_73, dX7_worth_75, dX7_worth_78, dX7_worth_79, fl_6_64, dX7_worth_82, dX7_worth_84, dX7_worth_85, dX7_worth_88, dX7_worth_90, dX7_worth_92, dX7_worth_93, dX7_worth_94, dX7_worth_97, dX7_worth_100, dX7_worth_102, kb_13, dX7_worth_104, dX7_worth_107, dX7_worth_108, dX7_worth_111, dX7_worth_112, dX7_worth_113, dX7_worth_114, dX7_worth_115, dX7_worth_118, dX7_worth_119, dX7_worth_120, dX7_worth_121, dX7_worth_122, dX7_worth_125, dX7_worth_126, dX7_worth_129, dX7_worth_130, dX7_worth_131, dX7_worth_134, dX7_worth_136, kb_19, dX7_worth_138, dX7_worth_141, dX7_worth_142, dX7_worth_145, dX7_worth_146, dX7_worth_147, dX7_worth_148, dX7_worth_149, dX7_worth_152, dX7_worth_153, dX7_worth_154, dX7_worth_155, dX7_worth_156, dX7_worth_157, dX7_worth_158, dX7_worth_161, ki_m1, dX7_worth_164, dX7_worth_165, dX7_worth_168, dX7_worth_169, dX7_worth_170, dX7_worth_171, dX7_worth_173, dX7_worth_174, dX7_worth_177, dX7_worth_178, dX7_worth_179, dX7_worth_180, dX7_worth_181, dX7_worth_182, dX7_worth_185, dX7_worth_186, dX7_worth_187, cl_6_172, dX7_worth_190, dX7_worth_191, dX7_worth_194, dX7_worth_197, dX7_worth_198, dX7_worth_201, dX7_worth_202, dX7_worth_203, M1, R2, e1, e2, e3, e4, f1, f2, f3, f4, g0, n4, n5, n6, d1, d2, d3, d4, nI_1, ha.1]
        refine go _ _ ?_ (Sm_tr S1 (Sm_I (l := [131]) (a := 131) (by decide)) (fun _ q => q) (fun _ q => q)) (Nat.le_succ _)
        show s_ar (ax_up h1.2.1 131 r'.length (-x) 131) _
        rw [ax_up_row]
        exact s_ar_push ha.2
      · have d1 : ¬ (100000 : Int32) ≤ nI (X r k) := fun z => by have := (i_Lle (n := 100000) (by omega) (by decide)).mp z; omega
        have d2 : (11 : Int32) ≤ nI (X r k) := (i_Lle (n := 11) (by omega) (by decide)).mpr (by omega)
        have d4 : ¬ nI (X r k) = 13 := fun z => c3 ((i_eqL (n := 13) (by omega) (by decide)).mp z)
        have d5 : ¬ nI (X r k) = 19 := fun z => by have := (i_eqL (n := 19) (by omega) (by decide)).mp z; omega
        have hl' : r'.length + 2 ≤ 160 := by have : (y :: x :: r').length = r'.length + 2 := rfl; omega
        have n4b : nI (r'.length + 1 + 1) + -1 = nI (r'.length + 1) := pk_m1 _
        have n5 : (nI (r'.length + 1)).toNatClampNeg = r'.length + 1 := nI_clamp (by omega)
        have n6 : vp_in (nI (r'.length + 1)) 200 := vp_in_nI (by omega) (by decide)
        have n7 : nI (r'.length + 1) - 1 = nI r'.length := i_m1 _
        have n8 : (nI r'.length).toNatClampNeg = r'.length := nI_clamp (by omega)
        have n9 : vp_in (nI r'.length) 200 := vp_in_nI (by omega) (by decide)
        have hy : h1.2.1 131 (r'.length + 1) = y := ha.1
        refine ax_wp_ok (cuts := [ 16]) 90 ?_
        simp only [lv_args, fn0, fn1, fn2, fn3, ax_wp_s, ax_step, ax_ins, ax_nx, ax_cut, ax_lk, ax_st1, ax_st2, ax_ins0, ax_tg, ax_go, ax_sw, ax_lsw, ax_kc_s, ax_kc_n, ax_rf_rf, ax_isR_rf, ct_int, ct_long, ct_ref, ct_null, ct_rf, rf_ref, rf_null, isR_ref, isR_null, va_rf_s, va_rf_n, gv_0, gv_1, gv_2, pv_i, pv_r, pv_n, pv_q, pk_0, pk_2, pk_2n, pk_2q, pk_10, pk_11, rok_i, rok_z0, rok_z1, ex_eq, ex_z, ex_z2, ex_cz, List.filter_cons, List.filter_nil, List.take_succ_cons, List.take_zero, List.drop_succ_cons, List.drop_zero, List.reverse_cons, List.reverse_nil, List.nil_append, List.cons_append, List.append_nil, List.length_cons, List.length_nil, List.map_cons, List.map_nil, List.sum_cons, List.sum_nil, Bool.not_true, Bool.not_false, Bool.and_true, Bool.true_and, Bool.and_false, Bool.false_and, Bool.or_false, Bool.false_or, Bool.true_or, Bool.or_true, beq_self_eq_true, Nat.reduceBEq, Nat.reduceAdd, Nat.reduceSub, Nat.reduceLT, Nat.reduceLeDiff, Nat.reduceEqDiff, Int.reduceAdd, Int.reduceNeg, Int.reduceToNat, Int.reduceLE, Int.reduceNatCast, Int.reduceNatCast', ite_true, ite_false, if_true, if_false, reduceIte, true_and, and_true, false_and, and_false, true_or, or_true, false_or, or_false, Nat.sub_zero, Nat.le_refl, Bool.false_eq_true, Bool.true_eq_false, false_implies, true_implies, implies_true, not_true_eq_false, not_false_eq_true, eq_self, Fin.isValue, Nat.zero_add, Nat.add_zero, and_self, ne_eq, b01, Int32.reduceLT, Int32.reduceLE, z32, z64, m_X7_worth, dX7_worth_0, ki_0, dX7_worth_1, dX7_worth_2, dX7_worth_3, fl_6_37, dX7_worth_6, ki_4, dX7_worth_7, dX7_worth_8, fl_6_111, dX7_worth_11, dX7_worth_12, dX7_worth_13, dX7_worth_14, dX7_worth_15, dX7_worth_16, dX7_worth_17, dX7_worth_18, dX7_worth_21, dX7_worth_22, dX7_worth_23, dX7_worth_26, dX7_worth_27, dX7_worth_28, dX7_worth_29, ki_1, dX7_worth_30, dX7_worth_31, dX7_worth_32, dX7_worth_35, dX7_worth_36, fl_6_34, dX7_worth_39, ks_200, dX7_worth_42, dX7_worth_43, dX7_worth_46, dX7_worth_47, dX7_worth_48, dX7_worth_49, dX7_worth_50, dX7_worth_52, dX7_worth_54, il_6_158, sl_6_158, dX7_worth_56, dX7_worth_59, dX7_worth_61, kb_11, dX7_worth_63, dX7_worth_66, dX7_worth_67, fl_6_61, dX7_worth_70, dX7_worth_71, dX7_worth_73, dX7_worth_75, dX7_worth_78, dX7_worth_79, fl_6_64, dX7_worth_82, dX7_worth_84, dX7_worth_85, dX7_worth_88, dX7_worth_90, dX7_worth_92, dX7_worth_93, dX7_worth_94, dX7_worth_97, dX7_worth_100, dX7_worth_102, kb_13, dX7_worth_104, dX7_worth_107, dX7_worth_108, dX7_worth_111, dX7_worth_112, dX7_worth_113, dX7_worth_114, dX7_worth_115, dX7_worth_118, dX7_worth_119, dX7_worth_120, dX7_worth_121, dX7_worth_122, dX7_worth_125, dX7_worth_126, dX7_worth_129, dX7_worth_130, dX7_worth_131, dX7_worth_134, dX7_worth_136, kb_19, dX7_worth_138, dX7_worth_141, dX7_worth_142, dX7_worth_145, dX7_worth_146, dX7_worth_147, dX7_worth_148, dX7_worth_149, dX7_worth_152, dX7_worth_153, dX7_worth_154, dX7_worth_155, dX7_worth_156, dX7_worth_157, dX7_worth_158, dX7_worth_161, ki_m1, dX7_worth_164, dX7_worth_165, dX7_worth_168, dX7_worth_169, dX7_worth_170, dX7_worth_171, dX7_worth_173, dX7_worth_174, dX7_worth_177, dX7_worth_178, dX7_worth_179, dX7_worth_180, dX7_worth_181, dX7_worth_182, dX7_worth_185, dX7_worth_186, dX7_worth_187, cl_6_172, dX7_worth_190, dX7_worth_191, dX7_worth_194, dX7_worth_197, dX7_worth_198, dX7_worth_201, dX7_worth_202, dX7_worth_203, M1, R2, e1, e2, e3, e4, f1, f2, f3, f4, g0, n4b, n5, n6, n7, n8, n9, d1, d2, d4, d5, nI_1, hy, ha.2.1]
        refine ax_pu (c_X7_two c1 c2 c3 _ _) (by decide) ?_
        simp only [lv_args, fn0, fn1, fn2, fn3, ax_wp_s, ax_step, ax_ins, ax_nx, ax_cut, ax_lk, ax_st1, ax_st2, ax_ins0, ax_tg, ax_go, ax_sw, ax_lsw, ax_kc_s, ax_kc_n, ax_rf_rf, ax_isR_rf, ct_int, ct_long, ct_ref, ct_null, ct_rf, rf_ref, rf_null, isR_ref, isR_null, va_rf_s, va_rf_n, gv_0, gv_1, gv_2, pv_i, pv_r, pv_n, pv_q, pk_0, pk_2, pk_2n, pk_2q, pk_10, pk_11, rok_i, rok_z0, rok_z1, ex_eq, ex_z, ex_z2, ex_cz, List.filter_cons, List.filter_nil, List.take_succ_cons, List.take_zero, List.drop_succ_cons, List.drop_zero, List.reverse_cons, List.reverse_nil, List.nil_append, List.cons_append, List.append_nil, List.length_cons, List.length_nil, List.map_cons, List.map_nil, List.sum_cons, List.sum_nil, Bool.not_true, Bool.not_false, Bool.and_true, Bool.true_and, Bool.and_false, Bool.false_and, Bool.or_false, Bool.false_or, Bool.true_or, Bool.or_true, beq_self_eq_true, Nat.reduceBEq, Nat.reduceAdd, Nat.reduceSub, Nat.reduceLT, Nat.reduceLeDiff, Nat.reduceEqDiff, Int.reduceAdd, Int.reduceNeg, Int.reduceToNat, Int.reduceLE, Int.reduceNatCast, Int.reduceNatCast', ite_true, ite_false, if_true, if_false, reduceIte, true_and, and_true, false_and, and_false, true_or, or_true, false_or, or_false, Nat.sub_zero, Nat.le_refl, Bool.false_eq_true, Bool.true_eq_false, false_implies, true_implies, implies_true, not_true_eq_false, not_false_eq_true, eq_self, Fin.isValue, Nat.zero_add, Nat.add_zero, and_self, ne_eq, b01, Int32.reduceLT, Int32.reduceLE, z32, z64, m_X7_worth, dX7_worth_0, ki_0, dX7_worth_1, dX7_worth_2, dX7_worth_3, fl_6_37, dX7_worth_6, ki_4, dX7_worth_7, dX7_worth_8, fl_6_111, dX7_worth_11, dX7_worth_12, dX7_worth_13, dX7_worth_14, dX7_worth_15, dX7_worth_16, dX7_worth_17, dX7_worth_18, dX7_worth_21, dX7_worth_22, dX7_worth_23, dX7_worth_26, dX7_worth_27, dX7_worth_28, dX7_worth_29, ki_1, dX7_worth_30, dX7_worth_31, dX7_worth_32, dX7_worth_35, dX7_worth_36, fl_6_34, dX7_worth_39, ks_200, dX7_worth_42, dX7_worth_43, dX7_worth_46, dX7_worth_47, dX7_worth_48, dX7_worth_49, dX7_worth_50, dX7_worth_52, dX7_worth_54, il_6_158, sl_6_158, dX7_worth_56, dX7_worth_59, dX7_worth_61, kb_11, dX7_worth_63, dX7_worth_66, dX7_worth_67, fl_6_61, dX7_worth_70, dX7_worth_71, dX7_worth_73, dX7_worth_75, dX7_worth_78, dX7_worth_79, fl_6_64, dX7_worth_82, dX7_worth_84, dX7_worth_85, dX7_worth_88, dX7_worth_90, dX7_worth_92, dX7_worth_93, dX7_worth_94, dX7_worth_97, dX7_worth_100, dX7_worth_102, kb_13, dX7_worth_104, dX7_worth_107, dX7_worth_108, dX7_worth_111, dX7_worth_112, dX7_worth_113, dX7_worth_114, dX7_worth_115, dX7_worth_118, dX7_worth_119, dX7_worth_120, dX7_worth_121, dX7_worth_122, dX7_worth_125, dX7_worth_126, dX7_worth_129, dX7_worth_130, dX7_worth_131, dX7_worth_134, dX7_worth_136, kb_19, dX7_worth_138, dX7_worth_141, dX7_worth_142, dX7_worth_145, dX7_worth_146, dX7_worth_147, dX7_worth_148, dX7_worth_149, dX7_worth_152, dX7_worth_153, dX7_worth_154, dX7_worth_155, dX7_worth_156, dX7_worth_157, dX7_worth_158, dX7_worth_161, ki_m1, dX7_worth_164, dX7_worth_165, dX7_worth_168, dX7_worth_169, dX7_worth_170, dX7_worth_171, dX7_worth_173, dX7_worth_174, dX7_worth_177, dX7_worth_178, dX7_worth_179, dX7_worth_180, dX7_worth_181, dX7_worth_182, dX7_worth_185, dX7_worth_186, dX7_worth_187, cl_6_172, dX7_worth_190, dX7_worth_191, dX7_worth_194, dX7_worth_197, dX7_worth_198, dX7_worth_201, dX7_worth_202, dX7_worth_203, M1, n8, n9, nI_1, hy]
        refine go _ _ ?_ (Sm_tr S1 (Sm_I (l := [131]) (a := 131) (by decide)) (fun _ q => q) (fun _ q => q)) (by show r'.length + 1 ≤ r'.length + 2 + 1; omega)
        show s_ar (ax_up h1.2.1 131 r'.length _ 131) _
        rw [ax_up_row]
        exact s_ar_push ha.2.2
  have M1 := M
  unfold TopM at M1
  obtain ⟨R1, R2, R3, R4⟩ := R
  have e1 : (4 : Int32) * nI r + nI p = nI (4 * r + p) := by
    rw [show (4 : Int32) = nI 4 from rfl, pk_mul, nI_add]
  have e2 : (nI (4 * r + p)).toNatClampNeg = 4 * r + p := nI_clamp (by omega)
  have e3 : vp_in (nI (4 * r + p)) 24 := vp_in_nI (by omega) (by decide)
  have e4 := R4 r W1 p (by omega)
  refine ax_intro 6 false cdX7_worth (by decide +kernel) (by decide +kernel) (by decide +kernel) (Nat.le_of_ble_eq_true rfl) ?_
  refine ax_wp_ok (cuts := [ 16]) 40 ?_
  simp only [lv_args, fn0, fn1, fn2, fn3, ax_wp_s, ax_step, ax_ins, ax_nx, ax_cut, ax_lk, ax_st1, ax_st2, ax_ins0, ax_tg, ax_go, ax_sw, ax_lsw, ax_kc_s, ax_kc_n, ax_rf_rf, ax_isR_rf, ct_int, ct_long, ct_ref, ct_null, ct_rf, rf_ref, rf_null, isR_ref, isR_null, va_rf_s, va_rf_n, gv_0, gv_1, gv_2, pv_i, pv_r, pv_n, pv_q, pk_0, pk_2, pk_2n, pk_2q, pk_10, pk_11, rok_i, rok_z0, rok_z1, ex_eq, ex_z, ex_z2, ex_cz, List.filter_cons, List.filter_nil, List.take_succ_cons, List.take_zero, List.drop_succ_cons, List.drop_zero, List.reverse_cons, List.reverse_nil, List.nil_append, List.cons_append, List.append_nil, List.length_cons, List.length_nil, List.map_cons, List.map_nil, List.sum_cons, List.sum_nil, Bool.not_true, Bool.not_false, Bool.and_true, Bool.true_and, Bool.and_false, Bool.false_and, Bool.or_false, Bool.false_or, Bool.true_or, Bool.or_true, beq_self_eq_true, Nat.reduceBEq, Nat.reduceAdd, Nat.reduceSub, Nat.reduceLT, Nat.reduceLeDiff, Nat.reduceEqDiff, Int.reduceAdd, Int.reduceNeg, Int.reduceToNat, Int.reduceLE, Int.reduceNatCast, Int.reduceNatCast', ite_true, ite_false, if_true, if_false, reduceIte, true_and, and_true, false_and, and_false, true_or, or_true, false_or, or_false, Nat.sub_zero, Nat.le_refl, Bool.false_eq_true, Bool.true_eq_false, false_implies, true_implies, implies_true, not_true_eq_false, not_false_eq_true, eq_self, Fin.isValue, Nat.zero_add, Nat.add_zero, and_self, ne_eq, b01, Int32.reduceLT, Int32.reduceLE, z32, z64, m_X7_worth, dX7_worth_0, ki_0, dX7_worth_1, dX7_worth_2, dX7_worth_3, fl_6_37, dX7_worth_6, ki_4, dX7_worth_7, dX7_worth_8, fl_6_111, dX7_worth_11, dX7_worth_12, dX7_worth_13, dX7_worth_14, dX7_worth_15, dX7_worth_16, dX7_worth_17, dX7_worth_18, dX7_worth_21, dX7_worth_22, dX7_worth_23, dX7_worth_26, dX7_worth_27, dX7_worth_28, dX7_worth_29, ki_1, dX7_worth_30, dX7_worth_31, dX7_worth_32, dX7_worth_35, dX7_worth_36, fl_6_34, dX7_worth_39, ks_200, dX7_worth_42, dX7_worth_43, dX7_worth_46, dX7_worth_47, dX7_worth_48, dX7_worth_49, dX7_worth_50, dX7_worth_52, dX7_worth_54, il_6_158, sl_6_158, dX7_worth_56, dX7_worth_59, dX7_worth_61, kb_11, dX7_worth_63, dX7_worth_66, dX7_worth_67, fl_6_61, dX7_worth_70, dX7_worth_71, dX7_worth_73, dX7_worth_75, dX7_worth_78, dX7_worth_79, fl_6_64, dX7_worth_82, dX7_worth_84, dX7_worth_85, dX7_worth_88, dX7_worth_90, dX7_worth_92, dX7_worth_93, dX7_worth_94, dX7_worth_97, dX7_worth_100, dX7_worth_102, kb_13, dX7_worth_104, dX7_worth_107, dX7_worth_108, dX7_worth_111, dX7_worth_112, dX7_worth_113, dX7_worth_114, dX7_worth_115, dX7_worth_118, dX7_worth_119, dX7_worth_120, dX7_worth_121, dX7_worth_122, dX7_worth_125, dX7_worth_126, dX7_worth_129, dX7_worth_130, dX7_worth_131, dX7_worth_134, dX7_worth_136, kb_19, dX7_worth_138, dX7_worth_141, dX7_worth_142, dX7_worth_145, dX7_worth_146, dX7_worth_147, dX7_worth_148, dX7_worth_149, dX7_worth_152, dX7_worth_153, dX7_worth_154, dX7_worth_155, dX7_worth_156, dX7_worth_157, dX7_worth_158, dX7_worth_161, ki_m1, dX7_worth_164, dX7_worth_165, dX7_worth_168, dX7_worth_169, dX7_worth_170, dX7_worth_171, dX7_worth_173, dX7_worth_174, dX7_worth_177, dX7_worth_178, dX7_worth_179, dX7_worth_180, dX7_worth_181, dX7_worth_182, dX7_worth_185, dX7_worth_186, dX7_worth_187, cl_6_172, dX7_worth_190, dX7_worth_191, dX7_worth_194, dX7_worth_197, dX7_worth_198, dX7_worth_201, dX7_worth_202, dX7_worth_203, M1, R2, e1, e2, e3, e4]
  exact lp (E r (p + 1) - E r p) (E r p) [] h (Sm_rf _ _) trivial hv (by show 0 + _ ≤ 160; omega) (by omega)
end ML
