-- deps: 15 30 31 50 51 52 53 54 57 68 74
/-! the class: the round -/
theorem FY_tr {P Q : Nat → Nat → Prop} {h h1 h2 : AH} (a : FY P Q h h1) (b : FY P Q h1 h2) : FY P Q h h2 := ⟨b.1.trans a.1, fun x k q => (b.2.1 x k q).trans (a.2.1 x k q), fun x k q => (b.2.2 x k q).trans (a.2.2 x k q)⟩
theorem FY_mo {P Q P' Q' : Nat → Nat → Prop} {h h1 : AH} (a : FY P Q h h1) (s1 : ∀ x k, P x k → P' x k) (s2 : ∀ x k, Q x k → Q' x k) : FY P' Q' h h1 := ⟨a.1, fun x k q => a.2.1 x k (fun z => q (s2 x k z)), fun x k q => a.2.2 x k (fun z => q (s1 x k z))⟩
theorem FY_rf (P Q : Nat → Nat → Prop) (h : AH) : FY P Q h h := ⟨rfl, fun _ _ _ => rfl, fun _ _ _ => rfl⟩
theorem LO_FY {P Q : Nat → Nat → Prop} {a : Nat} {h h' : AH} (F : FY P Q h h') (hQ : ∀ j, ¬ Q a j) (R : LO a h) : LO a h' := by
  unfold LO at R ⊢
  rw [F.1, F.2.1 a 0 (hQ 0), F.2.1 a 1 (hQ 1), F.2.1 a 2 (hQ 2), F.2.1 a 3 (hQ 3)]
  exact R
theorem XH_FY {P Q : Nat → Nat → Prop} {n : Nat} {B : SB} {p : Nat → Nat} {T r : Nat} {X E : Nat → Nat → Nat} {h h' : AH} (F : FY P Q h h') (hP : ∀ b k, P b k → PS b k) (hQ : ∀ b k, Q b k → b = 16 ∨ b = 17) (W : WH n B p T r X E) (R : XH n B p T r X E h) : XH n B p T r X E h' := by
  have nQ : ∀ b k, b ≠ 16 → b ≠ 17 → ¬ Q b k := fun b k h1 h2 z => by
    rcases hQ b k z with y | y
    · exact h1 y
    · exact h2 y
  refine ⟨?_, fun i hi => ?_, fun t ht => ?_⟩
  · obtain ⟨m1, m2, m3, m4, m5, m6, m7, m8, m9, ma, mb, mc⟩ := R.1
    unfold HX
    rw [F.1, F.2.1 11 _ (nQ _ _ (by decide) (by decide)), F.2.1 11 _ (nQ _ _ (by decide) (by decide)), F.2.1 11 _ (nQ _ _ (by decide) (by decide)), F.2.1 11 _ (nQ _ _ (by decide) (by decide)), F.2.1 11 _ (nQ _ _ (by decide) (by decide)), F.2.2 11 1 (fun q => by have := hP _ _ q; unfold PS PT at this; omega)]
    exact ⟨m1, m2, m3, m4, m5, m6, m7, m8, m9, ma, mb, fun i hi => by rw [F.2.1 15 _ (nQ _ _ (by decide) (by decide))]; exact mc i hi⟩
  · have h2 := W.2.2.1 i hi
    have e : ∀ k, k < 8 → h'.2.1 (p i) k = h.2.1 (p i) k := fun k hk => F.2.2 (p i) k (fun q => by have := hP _ _ q; unfold PS PT at this; omega)
    have := R.2.1 i hi
    unfold XB at this ⊢
    rw [F.1, F.2.1 _ _ (nQ _ _ (by omega) (by omega)), e 0 (by decide), e 2 (by decide), e 3 (by decide), e 4 (by decide), e 5 (by decide), e 6 (by decide), e 7 (by decide)]
    exact this
  · obtain ⟨l1, l2⟩ := R.2.2 t ht
    have hT := W.2.1.2.1
    refine ⟨LO_FY F (fun j => nQ _ _ (by omega) (by omega)) l1, fun q hq => ?_, fun k hk => ?_⟩
    · rw [F.2.2 _ _ (fun z => by have := hP _ _ z; unfold PS PT at this; omega)]
      exact l2.1 q hq
    · rw [F.2.2 _ _ (fun z => by have := hP _ _ z; unfold PS PT at this; omega)]
      exact l2.2 k hk
/-! permutations, as the codes spell them -/
def s_lay (k : Nat) : Nat → Nat → List Nat → Option (List Nat)
  | 0, _, q => some q
  | j + 1, rest, q => if rest % k ∈ q then none else s_lay k j (rest / k) ((rest % k) :: q)
def s_pm (k c : Nat) : Option (List Nat) := s_lay k k c []
theorem s_lay_ok {k : Nat} (hk : 0 < k) : ∀ (j rest : Nat) (q r : List Nat), (∀ x ∈ q, x < k) → s_lay k j rest q = some r → r.length = j + q.length ∧ ∀ x ∈ r, x < k
  | 0, rest, q, r, hq, h => by
    cases h
    exact ⟨(Nat.zero_add _).symm, hq⟩
  | j + 1, rest, q, r, hq, h => by
    rw [show s_lay k (j + 1) rest q = if rest % k ∈ q then none else s_lay k j (rest / k) ((rest % k) :: q) from rfl] at h
    split at h
    · cases h
    · obtain ⟨h1, h2⟩ := s_lay_ok hk j (rest / k) ((rest % k) :: q) r (fun x hx => by
        rcases List.mem_cons.mp hx with rfl | hx
        · exact Nat.mod_lt _ hk
        · exact hq x hx) h
      rw [List.length_cons] at h1
      exact ⟨by omega, h2⟩
theorem s_pm_ok {k c : Nat} (hk : 0 < k) {q : List Nat} (h : s_pm k c = some q) : q.length = k ∧ ∀ i, i < k → q.getD i 0 < k := by
  obtain ⟨h1, h2⟩ := s_lay_ok hk k c [] q (fun x hx => by cases hx) h
  rw [List.length_nil, Nat.add_zero] at h1
  exact ⟨h1, fun i hi => s_getD_in h2 (by omega)⟩
def s_plp (g : Nat → List (List Nat)) : Nat → Nat → List (List Nat)
  | _, 0 => []
  | i, c + 1 => g i ++ s_plp g (i + 1) c
def s_pl (k : Nat) : Nat → List Nat → List (List Nat)
  | 0, p => [p]
  | m + 1, p => s_plp (fun i => if i ∈ p then [] else s_pl k m (p ++ [i])) 0 k
theorem s_lp_fold {α : Type} {u : α → List Nat → α} {f : Nat → α → α} {g : Nat → List (List Nat)} (hf : ∀ j t, f j t = (g j).foldl u t) : ∀ (c i : Nat) (t : α), s_lp f i c t = (s_plp g i c).foldl u t
  | 0, _, _ => rfl
  | c + 1, i, t => by
    show s_lp f (i + 1) c (f i t) = (g i ++ s_plp g (i + 1) c).foldl u t
    rw [s_lp_fold hf c (i + 1), List.foldl_append, hf]
theorem s_or_fold {α : Type} (u : α → List Nat → α) (k : Nat) : ∀ (m : Nat) (p : List Nat) (t : α), s_or u k m p t = (s_pl k m p).foldl u t
  | 0, _, _ => rfl
  | m + 1, p, t => by
    show s_lp (fun i t => if i ∈ p then t else s_or u k m (p ++ [i]) t) 0 k t = (s_plp (fun i => if i ∈ p then [] else s_pl k m (p ++ [i])) 0 k).foldl u t
    refine s_lp_fold (fun j t => ?_) k 0 t
    by_cases q : j ∈ p
    · simp only [if_pos q, List.foldl_nil]
    · simp only [if_neg q]
      exact s_or_fold u k m (p ++ [j]) t
def s_clo (k : Nat) : List (List Nat) := (List.range (k ^ k)).filterMap (s_pm k)
set_option maxRecDepth 100000 in
theorem s_pl_clo : ∀ k, k < 5 → 0 < k → s_pl k k [] = s_clo k := by decide +kernel
/-- so far, codes 0 .. c - 1 -/
def s_tc {α : Type} (u : α → List Nat → α) (k c : Nat) (t : α) : α := ((List.range c).filterMap (s_pm k)).foldl u t
theorem s_tc_s {α : Type} (u : α → List Nat → α) (k c : Nat) (t : α) : s_tc u k (c + 1) t = match s_pm k c with | some q => u (s_tc u k c t) q | none => s_tc u k c t := by
  unfold s_tc
  rw [List.range_succ, List.filterMap_append, List.foldl_append]
  cases h : s_pm k c with
  | none => simp [List.filterMap_cons, h]
  | some q => simp [List.filterMap_cons, h]
theorem s_gt_len_s (P : Nat → Bool) (o : Nat) : (s_gt P o).length ≤ (s_gt P (o + 1)).length := by
  rw [show s_gt P (o + 1) = if P o = true ∧ (s_gt P o).length < 4 then s_gt P o ++ [o] else s_gt P o from rfl]
  split
  · rw [List.length_append]
    omega
  · exact Nat.le_refl _
theorem s_gt_4 (P : Nat → Bool) (o : Nat) (h : (s_gt P o).length = 4) : ∀ d, s_gt P (o + d) = s_gt P o
  | 0 => rfl
  | d + 1 => by
    have ih := s_gt_4 P o h d
    show (if P (o + d) = true ∧ (s_gt P (o + d)).length < 4 then s_gt P (o + d) ++ [o + d] else s_gt P (o + d)) = _
    rw [ih, if_neg (by omega)]
section XRO
variable {G : AG} {n : Nat} {B : SB} {p : Nat → Nat} {T r : Nat} {X E : Nat → Nat → Nat} {h : AH}
theorem s_fx_fp (W : WFB n B) {o : Nat} (ho : o < n) : s_fx n B (nI o) = if s_fp n B o = true then o + 1 else 0 := by
  have h10 := W.1
  unfold s_fx s_isf
  rw [i_nt (by omega)]
  by_cases q : s_fp n B o = true
  · rw [if_pos ⟨ib_n (by omega) ho, q⟩, if_pos q]
  · rw [if_neg (fun z => q z.2), if_neg q]
abbrev QG (a _k : Nat) : Prop := a = 16 ∨ a = 17
set_option maxRecDepth 100000 in
set_option maxHeartbeats 400000 in
theorem c_X1_gatherPlaces (W : WH n B p T r X E) (R : XH n B p T r X E h) : AC G jX1_gatherPlaces 4 0 0 [.ref 11] h (fun v h' => v = some (.int (nI (s_gt (s_fp n B) n).length)) ∧ FY (fun _ _ => False) QG h h' ∧ ∀ i, i < (s_gt (s_fp n B) n).length → h'.2.2 16 i = some (p ((s_gt (s_fp n B) n).getD i 0))) := by
  have h10 := W.1.1
  generalize hg : s_gt (s_fp n B) = gt
  have gs : ∀ o, gt (o + 1) = if s_fp n B o = true ∧ (gt o).length < 4 then gt o ++ [o] else gt o := fun o => by rw [← hg]; rfl
  have glen : ∀ o, (gt o).length ≤ 4 := fun o => by rw [← hg]; exact s_gt_len _ o
  have g4 : ∀ o d, (gt o).length = 4 → gt (o + d) = gt o := fun o d q => by rw [← hg] at q ⊢; exact s_gt_4 _ o q d
  have lp : ∀ (j o : Nat) (h1 : AH), o + j = 10 → FY (fun _ _ => False) QG h h1 → (∀ i, i < (gt (min o n)).length → h1.2.2 16 i = some (p ((gt (min o n)).getD i 0))) → AW G 1 4 false cX1_gatherPlaces (Option.some FieldType.int) 4 (fun v h' => v = some (.int (nI (gt n).length)) ∧ FY (fun _ _ => False) QG h h' ∧ ∀ i, i < (gt n).length → h'.2.2 16 i = some (p ((gt n).getD i 0))) 0 0 4 [(0, .ref 11), (1, .int (nI (gt (min o n)).length)), (2, .int (nI o))] [] h1 := by
    intro j
    induction j with
    | zero =>
      intro o h1 ho F1 q
      have e : o = 10 := by omega
      subst e
      have M1 := (XH_FY F1 (fun _ _ z => z.elim) (fun _ _ z => z) W R).1
      unfold HX at M1
      rw [show min 10 n = n by omega] at q ⊢
      refine ax_wq_ok (cuts := [ 4]) 30 ?_
      (simp only [lv_args, fn0, fn1, fn2, fn3, ax_wq_s, ax_step2, ax_ins2_u, ax_ins, ax_nx, ax_cut, ax_lk, ax_st1, ax_st2, ax_ins0, ax_tg, ax_go, ax_sw2, ax_lsw2, ax_kc_s, ax_kc_n, ax_rf_rf, ax_isR_rf, ct_int, ct_long, ct_ref, ct_null, ct_rf, rf_ref, rf_null, isR_ref, isR_null, va_rf_s, va_rf_n, gv_0, gv_1, gv_2, pv_i, pv_r, pv_n, pv_q, pk_0, pk_2, pk_2n, pk_2q, pk_10, pk_11, rok_i, rok_z0, rok_z1, ex_eq, ex_z, ex_z2, ex_cz, List.filter_cons, List.filter_nil, List.take_succ_cons, List.take_zero, List.drop_succ_cons, List.drop_zero, List.reverse_cons, List.reverse_nil, List.nil_append, List.cons_append, List.append_nil, List.length_cons, List.length_nil, List.map_cons, List.map_nil, List.sum_cons, List.sum_nil, Bool.not_true, Bool.not_false, Bool.and_true, Bool.true_and, Bool.and_false, Bool.false_and, Bool.or_false, Bool.false_or, Bool.true_or, Bool.or_true, beq_self_eq_true, Nat.reduceBEq, Nat.reduceAdd, Nat.reduceSub, Nat.reduceLT, Nat.reduceLeDiff, Nat.reduceEqDiff, Int.reduceAdd, Int.reduceNeg, Int.reduceToNat, Int.reduceLE, Int.reduceNatCast, Int.reduceNatCast', ↓reduceIte, if_true, if_false, true_and, and_true, false_and, and_false, true_or, or_true, false_or, or_false, Nat.sub_zero, Nat.le_refl, Bool.false_eq_true, Bool.true_eq_false, false_implies, true_implies, implies_true, not_true_eq_false, not_false_eq_true, eq_self, Fin.isValue, Nat.zero_add, Nat.add_zero, and_self, ne_eq, b01, Int32.reduceLT, Int32.reduceLE, z32, z64, vl_0, tl_0, vl_1, tl_1, vl_2, tl_2, vl_3, tl_3, vl_4, tl_4, vl_5, tl_5, vl_6, tl_6, vl_7, tl_7, vl_8, tl_8, vl_9, tl_9, Int.reduceSub, Int.reduceEq, Int.reduceLT, reduceCtorEq, ro_obj, m_X1_gatherPlaces, dX1_gatherPlaces_0, ki_0, dX1_gatherPlaces_1, dX1_gatherPlaces_2, dX1_gatherPlaces_3, dX1_gatherPlaces_4, dX1_gatherPlaces_5, dX1_gatherPlaces_6, fl_1_11, dX1_gatherPlaces_9, dX1_gatherPlaces_10, dX1_gatherPlaces_13, dX1_gatherPlaces_14, dX1_gatherPlaces_15, fl_1_17, dX1_gatherPlaces_18, dX1_gatherPlaces_19, dX1_gatherPlaces_22, dX1_gatherPlaces_23, dX1_gatherPlaces_24, cl_1_54, dX1_gatherPlaces_27, dX1_gatherPlaces_28, dX1_gatherPlaces_29, dX1_gatherPlaces_32, dX1_gatherPlaces_33, dX1_gatherPlaces_36, dX1_gatherPlaces_37, dX1_gatherPlaces_38, dX1_gatherPlaces_39, ki_1, dX1_gatherPlaces_42, dX1_gatherPlaces_45, dX1_gatherPlaces_48, dX1_gatherPlaces_49, M1, i10e]; try simp only [ax_ife, if_true, if_false, true_implies, implies_true, false_implies, and_true, true_and, not_true_eq_false, not_false_eq_true])
      all_goals exact ⟨F1, q⟩
    | succ j ih =>
      intro o h1 ho F1 q
      have R1 := XH_FY F1 (fun _ _ z => z.elim) (fun _ _ z => z) W R
      have M1 := R1.1
      unfold HX at M1
      have ge := i10 (show o < 10 by omega)
      have gl := glen (min o n)
      by_cases f4 : (gt (min o n)).length = 4
      · have z4 : (Int32.ofNat 4 ≤ nI (gt (min o n)).length) = True := eq_true (by rw [f4]; decide)
        have en : gt n = gt (min o n) := by
          have := g4 (min o n) (n - min o n) f4
          rw [show min o n + (n - min o n) = n by omega] at this
          exact this
        rw [en]
        refine ax_wq_ok (cuts := [ 4]) 30 ?_
        (simp only [lv_args, fn0, fn1, fn2, fn3, ax_wq_s, ax_step2, ax_ins2_u, ax_ins, ax_nx, ax_cut, ax_lk, ax_st1, ax_st2, ax_ins0, ax_tg, ax_go, ax_sw2, ax_lsw2, ax_kc_s, ax_kc_n, ax_rf_rf, ax_isR_rf, ct_int, ct_long, ct_ref, ct_null, ct_rf, rf_ref, rf_null, isR_ref, isR_null, va_rf_s, va_rf_n, gv_0, gv_1, gv_2, pv_i, pv_r, pv_n, pv_q, pk_0, pk_2, pk_2n, pk_2q, pk_10, pk_11, rok_i, rok_z0, rok_z1, ex_eq, ex_z, ex_z2, ex_cz, List.filter_cons, List.filter_nil, List.take_succ_cons, List.take_zero, List.drop_succ_cons, List.drop_zero, List.reverse_cons, List.reverse_nil, List.nil_append, List.cons_append, List.append_nil, List.length_cons, List.length_nil, List.map_cons, List.map_nil, List.sum_cons, List.sum_nil, Bool.not_true, Bool.not_false, Bool.and_true, Bool.true_and, Bool.and_false, Bool.false_and, Bool.or_false, Bool.false_or, Bool.true_or, Bool.or_true, beq_self_eq_true, Nat.reduceBEq, Nat.reduceAdd, Nat.reduceSub, Nat.reduceLT, Nat.reduceLeDiff, Nat.reduceEqDiff, Int.reduceAdd, Int.reduceNeg, Int.reduceToNat, Int.reduceLE, Int.reduceNatCast, Int.reduceNatCast', ↓reduceIte, if_true, if_false, true_and, and_true, false_and, and_false, true_or, or_true, false_or, or_false, Nat.sub_zero, Nat.le_refl, Bool.false_eq_true, Bool.true_eq_false, false_implies, true_implies, implies_true, not_true_eq_false, not_false_eq_true, eq_self, Fin.isValue, Nat.zero_add, Nat.add_zero, and_self, ne_eq, b01, Int32.reduceLT, Int32.reduceLE, z32, z64, vl_0, tl_0, vl_1, tl_1, vl_2, tl_2, vl_3, tl_3, vl_4, tl_4, vl_5, tl_5, vl_6, tl_6, vl_7, tl_7, vl_8, tl_8, vl_9, tl_9, Int.reduceSub, Int.reduceEq, Int.reduceLT, reduceCtorEq, ro_obj, m_X1_gatherPlaces, dX1_gatherPlaces_0, ki_0, dX1_gatherPlaces_1, dX1_gatherPlaces_2, dX1_gatherPlaces_3, dX1_gatherPlaces_4, dX1_gatherPlaces_5, dX1_gatherPlaces_6, fl_1_11, dX1_gatherPlaces_9, dX1_gatherPlaces_10, dX1_gatherPlaces_13, dX1_gatherPlaces_14, dX1_gatherPlaces_15, fl_1_17, dX1_gatherPlaces_18, dX1_gatherPlaces_19, dX1_gatherPlaces_22, dX1_gatherPlaces_23, dX1_gatherPlaces_24, cl_1_54, dX1_gatherPlaces_27, dX1_gatherPlaces_28, dX1_gatherPlaces_29, dX1_gatherPlaces_32, dX1_gatherPlaces_33, dX1_gatherPlaces_36, dX1_gatherPlaces_37, dX1_gatherPlaces_38, dX1_gatherPlaces_39, ki_1, dX1_gatherPlaces_42, dX1_gatherPlaces_45, dX1_gatherPlaces_48, dX1_gatherPlaces_49, M1, ge, z4]; try simp only [ax_ife, if_true, if_false, true_implies, implies_true, false_implies, and_true, true_and, not_true_eq_false, not_false_eq_true])
        all_goals exact ⟨F1, q⟩
      · have z4 : (Int32.ofNat 4 ≤ nI (gt (min o n)).length) = False := eq_false (nI_ge (b := 4) (by omega) (by decide))
        have cf := c_X1_fireplaceAt (G := G) R1.1 R1.2.1 W.1 W.2.2 (nI o)
        refine ax_wq_ok (cuts := [ 4]) 60 ?_
        (simp only [lv_args, fn0, fn1, fn2, fn3, ax_wq_s, ax_step2, ax_ins2_u, ax_ins, ax_nx, ax_cut, ax_lk, ax_st1, ax_st2, ax_ins0, ax_tg, ax_go, ax_sw2, ax_lsw2, ax_kc_s, ax_kc_n, ax_rf_rf, ax_isR_rf, ct_int, ct_long, ct_ref, ct_null, ct_rf, rf_ref, rf_null, isR_ref, isR_null, va_rf_s, va_rf_n, gv_0, gv_1, gv_2, pv_i, pv_r, pv_n, pv_q, pk_0, pk_2, pk_2n, pk_2q, pk_10, pk_11, rok_i, rok_z0, rok_z1, ex_eq, ex_z, ex_z2, ex_cz, List.filter_cons, List.filter_nil, List.take_succ_cons, List.take_zero, List.drop_succ_cons, List.drop_zero, List.reverse_cons, List.reverse_nil, List.nil_append, List.cons_append, List.append_nil, List.length_cons, List.length_nil, List.map_cons, List.map_nil, List.sum_cons, List.sum_nil, Bool.not_true, Bool.not_false, Bool.and_true, Bool.true_and, Bool.and_false, Bool.false_and, Bool.or_false, Bool.false_or, Bool.true_or, Bool.or_true, beq_self_eq_true, Nat.reduceBEq, Nat.reduceAdd, Nat.reduceSub, Nat.reduceLT, Nat.reduceLeDiff, Nat.reduceEqDiff, Int.reduceAdd, Int.reduceNeg, Int.reduceToNat, Int.reduceLE, Int.reduceNatCast, Int.reduceNatCast', ↓reduceIte, if_true, if_false, true_and, and_true, false_and, and_false, true_or, or_true, false_or, or_false, Nat.sub_zero, Nat.le_refl, Bool.false_eq_true, Bool.true_eq_false, false_implies, true_implies, implies_true, not_true_eq_false, not_false_eq_true, eq_self, Fin.isValue, Nat.zero_add, Nat.add_zero, and_self, ne_eq, b01, Int32.reduceLT, Int32.reduceLE, z32, z64, vl_0, tl_0, vl_1, tl_1, vl_2, tl_2, vl_3, tl_3, vl_4, tl_4, vl_5, tl_5, vl_6, tl_6, vl_7, tl_7, vl_8, tl_8, vl_9, tl_9, Int.reduceSub, Int.reduceEq, Int.reduceLT, reduceCtorEq, ro_obj, m_X1_gatherPlaces, dX1_gatherPlaces_0, ki_0, dX1_gatherPlaces_1, dX1_gatherPlaces_2, dX1_gatherPlaces_3, dX1_gatherPlaces_4, dX1_gatherPlaces_5, dX1_gatherPlaces_6, fl_1_11, dX1_gatherPlaces_9, dX1_gatherPlaces_10, dX1_gatherPlaces_13, dX1_gatherPlaces_14, dX1_gatherPlaces_15, fl_1_17, dX1_gatherPlaces_18, dX1_gatherPlaces_19, dX1_gatherPlaces_22, dX1_gatherPlaces_23, dX1_gatherPlaces_24, cl_1_54, dX1_gatherPlaces_27, dX1_gatherPlaces_28, dX1_gatherPlaces_29, dX1_gatherPlaces_32, dX1_gatherPlaces_33, dX1_gatherPlaces_36, dX1_gatherPlaces_37, dX1_gatherPlaces_38, dX1_gatherPlaces_39, ki_1, dX1_gatherPlaces_42, dX1_gatherPlaces_45, dX1_gatherPlaces_48, dX1_gatherPlaces_49, M1, ge, z4]; try simp only [ax_ife, if_true, if_false, true_implies, implies_true, false_implies, and_true, true_and, not_true_eq_false, not_false_eq_true])
        refine ax_pu cf (by decide) ?_
        by_cases hV : o < n
        · rw [s_fx_fp W.1 hV]
          have em : min o n = o := by omega
          have em1 : min (o + 1) n = o + 1 := by omega
          by_cases hf : s_fp n B o = true
          · rw [if_pos hf, s_pr_s, va_rf_s]
            have x1 := (R1.2.1 o hV).1
            have hc : (nI (gt (min o n)).length).toNatClampNeg = (gt (min o n)).length := nI_clamp (by omega)
            have hin : vp_in (nI (gt (min o n)).length) 4 := vp_in_nI (by omega) (by decide)
            have eg : gt (min (o + 1) n) = gt (min o n) ++ [o] := by
              rw [em1, gs o, em, if_pos ⟨hf, by rw [em] at f4 gl; omega⟩]
            have el : (gt (min o n) ++ [o]).length = (gt (min o n)).length + 1 := by rw [List.length_append]; rfl
            have g := ih (o + 1) (ax_setR h1 16 (gt (min o n)).length (some (p o))) (by omega) (FY_R F1 (Or.inl rfl)) (fun i hi => by
              rw [eg] at hi ⊢
              rw [setR_at]
              by_cases e : i = (gt (min o n)).length
              · rw [if_pos ⟨rfl, e⟩, e, s_getD_r]
              · rw [if_neg (fun z => e z.2), s_getD_l (by omega)]
                exact q i (by omega))
            rw [eg, el] at g
            (simp only [lv_args, fn0, fn1, fn2, fn3, ax_wq_s, ax_step2, ax_ins2_u, ax_ins, ax_nx, ax_cut, ax_lk, ax_st1, ax_st2, ax_ins0, ax_tg, ax_go, ax_sw2, ax_lsw2, ax_kc_s, ax_kc_n, ax_rf_rf, ax_isR_rf, ct_int, ct_long, ct_ref, ct_null, ct_rf, rf_ref, rf_null, isR_ref, isR_null, va_rf_s, va_rf_n, gv_0, gv_1, gv_2, pv_i, pv_r, pv_n, pv_q, pk_0, pk_2, pk_2n, pk_2q, pk_10, pk_11, rok_i, rok_z0, rok_z1, ex_eq, ex_z, ex_z2, ex_cz, List.filter_cons, List.filter_nil, List.take_succ_cons, List.take_zero, List.drop_succ_cons, List.drop_zero, List.reverse_cons, List.reverse_nil, List.nil_append, List.cons_append, List.append_nil, List.length_cons, List.length_nil, List.map_cons, List.map_nil, List.sum_cons, List.sum_nil, Bool.not_true, Bool.not_false, Bool.and_true, Bool.true_and, Bool.and_false, Bool.false_and, Bool.or_false, Bool.false_or, Bool.true_or, Bool.or_true, beq_self_eq_true, Nat.reduceBEq, Nat.reduceAdd, Nat.reduceSub, Nat.reduceLT, Nat.reduceLeDiff, Nat.reduceEqDiff, Int.reduceAdd, Int.reduceNeg, Int.reduceToNat, Int.reduceLE, Int.reduceNatCast, Int.reduceNatCast', ↓reduceIte, if_true, if_false, true_and, and_true, false_and, and_false, true_or, or_true, false_or, or_false, Nat.sub_zero, Nat.le_refl, Bool.false_eq_true, Bool.true_eq_false, false_implies, true_implies, implies_true, not_true_eq_false, not_false_eq_true, eq_self, Fin.isValue, Nat.zero_add, Nat.add_zero, and_self, ne_eq, b01, Int32.reduceLT, Int32.reduceLE, z32, z64, vl_0, tl_0, vl_1, tl_1, vl_2, tl_2, vl_3, tl_3, vl_4, tl_4, vl_5, tl_5, vl_6, tl_6, vl_7, tl_7, vl_8, tl_8, vl_9, tl_9, Int.reduceSub, Int.reduceEq, Int.reduceLT, reduceCtorEq, ro_obj, m_X1_gatherPlaces, dX1_gatherPlaces_0, ki_0, dX1_gatherPlaces_1, dX1_gatherPlaces_2, dX1_gatherPlaces_3, dX1_gatherPlaces_4, dX1_gatherPlaces_5, dX1_gatherPlaces_6, fl_1_11, dX1_gatherPlaces_9, dX1_gatherPlaces_10, dX1_gatherPlaces_13, dX1_gatherPlaces_14, dX1_gatherPlaces_15, fl_1_17, dX1_gatherPlaces_18, dX1_gatherPlaces_19, dX1_gatherPlaces_22, dX1_gatherPlaces_23, dX1_gatherPlaces_24, cl_1_54, dX1_gatherPlaces_27, dX1_gatherPlaces_28, dX1_gatherPlaces_29, dX1_gatherPlaces_32, dX1_gatherPlaces_33, dX1_gatherPlaces_36, dX1_gatherPlaces_37, dX1_gatherPlaces_38, dX1_gatherPlaces_39, ki_1, dX1_gatherPlaces_42, dX1_gatherPlaces_45, dX1_gatherPlaces_48, dX1_gatherPlaces_49, M1, hc, hin, fa_eq, ec_53, x1, nI_1]; try simp only [ax_ife, if_true, if_false, true_implies, implies_true, false_implies, and_true, true_and, not_true_eq_false, not_false_eq_true])
            exact ax_sub (fun q hq => by simp only [List.mem_cons, List.not_mem_nil, or_false] at hq ⊢; rcases hq with hq | hq | hq <;> simp [hq]) g
          · rw [if_neg hf, s_pr_0]
            have eg : gt (min (o + 1) n) = gt (min o n) := by
              rw [em1, gs o, em, if_neg (fun z => hf z.1)]
            have g := ih (o + 1) h1 (by omega) F1 (by rw [eg]; exact q)
            rw [eg] at g
            (simp only [lv_args, fn0, fn1, fn2, fn3, ax_wq_s, ax_step2, ax_ins2_u, ax_ins, ax_nx, ax_cut, ax_lk, ax_st1, ax_st2, ax_ins0, ax_tg, ax_go, ax_sw2, ax_lsw2, ax_kc_s, ax_kc_n, ax_rf_rf, ax_isR_rf, ct_int, ct_long, ct_ref, ct_null, ct_rf, rf_ref, rf_null, isR_ref, isR_null, va_rf_s, va_rf_n, gv_0, gv_1, gv_2, pv_i, pv_r, pv_n, pv_q, pk_0, pk_2, pk_2n, pk_2q, pk_10, pk_11, rok_i, rok_z0, rok_z1, ex_eq, ex_z, ex_z2, ex_cz, List.filter_cons, List.filter_nil, List.take_succ_cons, List.take_zero, List.drop_succ_cons, List.drop_zero, List.reverse_cons, List.reverse_nil, List.nil_append, List.cons_append, List.append_nil, List.length_cons, List.length_nil, List.map_cons, List.map_nil, List.sum_cons, List.sum_nil, Bool.not_true, Bool.not_false, Bool.and_true, Bool.true_and, Bool.and_false, Bool.false_and, Bool.or_false, Bool.false_or, Bool.true_or, Bool.or_true, beq_self_eq_true, Nat.reduceBEq, Nat.reduceAdd, Nat.reduceSub, Nat.reduceLT, Nat.reduceLeDiff, Nat.reduceEqDiff, Int.reduceAdd, Int.reduceNeg, Int.reduceToNat, Int.reduceLE, Int.reduceNatCast, Int.reduceNatCast', ↓reduceIte, if_true, if_false, true_and, and_true, false_and, and_false, true_or, or_true, false_or, or_false, Nat.sub_zero, Nat.le_refl, Bool.false_eq_true, Bool.true_eq_false, false_implies, true_implies, implies_true, not_true_eq_false, not_false_eq_true, eq_self, Fin.isValue, Nat.zero_add, Nat.add_zero, and_self, ne_eq, b01, Int32.reduceLT, Int32.reduceLE, z32, z64, vl_0, tl_0, vl_1, tl_1, vl_2, tl_2, vl_3, tl_3, vl_4, tl_4, vl_5, tl_5, vl_6, tl_6, vl_7, tl_7, vl_8, tl_8, vl_9, tl_9, Int.reduceSub, Int.reduceEq, Int.reduceLT, reduceCtorEq, ro_obj, m_X1_gatherPlaces, dX1_gatherPlaces_0, ki_0, dX1_gatherPlaces_1, dX1_gatherPlaces_2, dX1_gatherPlaces_3, dX1_gatherPlaces_4, dX1_gatherPlaces_5, dX1_gatherPlaces_6, fl_1_11, dX1_gatherPlaces_9, dX1_gatherPlaces_10, dX1_gatherPlaces_13, dX1_gatherPlaces_14, dX1_gatherPlaces_15, fl_1_17, dX1_gatherPlaces_18, dX1_gatherPlaces_19, dX1_gatherPlaces_22, dX1_gatherPlaces_23, dX1_gatherPlaces_24, cl_1_54, dX1_gatherPlaces_27, dX1_gatherPlaces_28, dX1_gatherPlaces_29, dX1_gatherPlaces_32, dX1_gatherPlaces_33, dX1_gatherPlaces_36, dX1_gatherPlaces_37, dX1_gatherPlaces_38, dX1_gatherPlaces_39, ki_1, dX1_gatherPlaces_42, dX1_gatherPlaces_45, dX1_gatherPlaces_48, dX1_gatherPlaces_49, nI_1]; try simp only [ax_ife, if_true, if_false, true_implies, implies_true, false_implies, and_true, true_and, not_true_eq_false, not_false_eq_true])
            exact ax_sub (fun q hq => by simp only [List.mem_cons, List.not_mem_nil, or_false] at hq ⊢; rcases hq with hq | hq | hq <;> simp [hq]) g
        · rw [s_fx_o (by omega) (by omega), s_pr_0]
          have eg : min (o + 1) n = min o n := by omega
          have g := ih (o + 1) h1 (by omega) F1 (by rw [eg]; exact q)
          rw [eg] at g
          (simp only [lv_args, fn0, fn1, fn2, fn3, ax_wq_s, ax_step2, ax_ins2_u, ax_ins, ax_nx, ax_cut, ax_lk, ax_st1, ax_st2, ax_ins0, ax_tg, ax_go, ax_sw2, ax_lsw2, ax_kc_s, ax_kc_n, ax_rf_rf, ax_isR_rf, ct_int, ct_long, ct_ref, ct_null, ct_rf, rf_ref, rf_null, isR_ref, isR_null, va_rf_s, va_rf_n, gv_0, gv_1, gv_2, pv_i, pv_r, pv_n, pv_q, pk_0, pk_2, pk_2n, pk_2q, pk_10, pk_11, rok_i, rok_z0, rok_z1, ex_eq, ex_z, ex_z2, ex_cz, List.filter_cons, List.filter_nil, List.take_succ_cons, List.take_zero, List.drop_succ_cons, List.drop_zero, List.reverse_cons, List.reverse_nil, List.nil_append, List.cons_append, List.append_nil, List.length_cons, List.length_nil, List.map_cons, List.map_nil, List.sum_cons, List.sum_nil, Bool.not_true, Bool.not_false, Bool.and_true, Bool.true_and, Bool.and_false, Bool.false_and, Bool.or_false, Bool.false_or, Bool.true_or, Bool.or_true, beq_self_eq_true, Nat.reduceBEq, Nat.reduceAdd, Nat.reduceSub, Nat.reduceLT, Nat.reduceLeDiff, Nat.reduceEqDiff, Int.reduceAdd, Int.reduceNeg, Int.reduceToNat, Int.reduceLE, Int.reduceNatCast, Int.reduceNatCast', ↓reduceIte, if_true, if_false, true_and, and_true, false_and, and_false, true_or, or_true, false_or, or_false, Nat.sub_zero, Nat.le_refl, Bool.false_eq_true, Bool.true_eq_false, false_implies, true_implies, implies_true, not_true_eq_false, not_false_eq_true, eq_self, Fin.isValue, Nat.zero_add, Nat.add_zero, and_self, ne_eq, b01, Int32.reduceLT, Int32.reduceLE, z32, z64, vl_0, tl_0, vl_1, tl_1, vl_2, tl_2, vl_3, tl_3, vl_4, tl_4, vl_5, tl_5, vl_6, tl_6, vl_7, tl_7, vl_8, tl_8, vl_9, tl_9, Int.reduceSub, Int.reduceEq, Int.reduceLT, reduceCtorEq, ro_obj, m_X1_gatherPlaces, dX1_gatherPlaces_0, ki_0, dX1_gatherPlaces_1, dX1_gatherPlaces_2, dX1_gatherPlaces_3, dX1_gatherPlaces_4, dX1_gatherPlaces_5, dX1_gatherPlaces_6, fl_1_11, dX1_gatherPlaces_9, dX1_gatherPlaces_10, dX1_gatherPlaces_13, dX1_gatherPlaces_14, dX1_gatherPlaces_15, fl_1_17, dX1_gatherPlaces_18, dX1_gatherPlaces_19, dX1_gatherPlaces_22, dX1_gatherPlaces_23, dX1_gatherPlaces_24, cl_1_54, dX1_gatherPlaces_27, dX1_gatherPlaces_28, dX1_gatherPlaces_29, dX1_gatherPlaces_32, dX1_gatherPlaces_33, dX1_gatherPlaces_36, dX1_gatherPlaces_37, dX1_gatherPlaces_38, dX1_gatherPlaces_39, ki_1, dX1_gatherPlaces_42, dX1_gatherPlaces_45, dX1_gatherPlaces_48, dX1_gatherPlaces_49, nI_1]; try simp only [ax_ife, if_true, if_false, true_implies, implies_true, false_implies, and_true, true_and, not_true_eq_false, not_false_eq_true])
          exact ax_sub (fun q hq => by simp only [List.mem_cons, List.not_mem_nil, or_false] at hq ⊢; rcases hq with hq | hq | hq <;> simp [hq]) g
  have g0 : gt (min 0 n) = [] := by rw [Nat.zero_min, ← hg]; rfl
  have g := lp 10 0 h rfl (FY_rf _ _ _) (fun i hi => by rw [g0] at hi; exact absurd hi (Nat.not_lt_zero i))
  rw [g0] at g
  refine ax_intro 1 false cdX1_gatherPlaces (by decide +kernel) (by decide +kernel) (by decide +kernel) (Nat.le_of_ble_eq_true rfl) ?_
  refine ax_wq_ok (cuts := [ 4]) 10 ?_
  (simp only [lv_args, fn0, fn1, fn2, fn3, ax_wq_s, ax_step2, ax_ins2_u, ax_ins, ax_nx, ax_cut, ax_lk, ax_st1, ax_st2, ax_ins0, ax_tg, ax_go, ax_sw2, ax_lsw2, ax_kc_s, ax_kc_n, ax_rf_rf, ax_isR_rf, ct_int, ct_long, ct_ref, ct_null, ct_rf, rf_ref, rf_null, isR_ref, isR_null, va_rf_s, va_rf_n, gv_0, gv_1, gv_2, pv_i, pv_r, pv_n, pv_q, pk_0, pk_2, pk_2n, pk_2q, pk_10, pk_11, rok_i, rok_z0, rok_z1, ex_eq, ex_z, ex_z2, ex_cz, List.filter_cons, List.filter_nil, List.take_succ_cons, List.take_zero, List.drop_succ_cons, List.drop_zero, List.reverse_cons, List.reverse_nil, List.nil_append, List.cons_append, List.append_nil, List.length_cons, List.length_nil, List.map_cons, List.map_nil, List.sum_cons, List.sum_nil, Bool.not_true, Bool.not_false, Bool.and_true, Bool.true_and, Bool.and_false, Bool.false_and, Bool.or_false, Bool.false_or, Bool.true_or, Bool.or_true, beq_self_eq_true, Nat.reduceBEq, Nat.reduceAdd, Nat.reduceSub, Nat.reduceLT, Nat.reduceLeDiff, Nat.reduceEqDiff, Int.reduceAdd, Int.reduceNeg, Int.reduceToNat, Int.reduceLE, Int.reduceNatCast, Int.reduceNatCast', ↓reduceIte, if_true, if_false, true_and, and_true, false_and, and_false, true_or, or_true, false_or, or_false, Nat.sub_zero, Nat.le_refl, Bool.false_eq_true, Bool.true_eq_false, false_implies, true_implies, implies_true, not_true_eq_false, not_false_eq_true, eq_self, Fin.isValue, Nat.zero_add, Nat.add_zero, and_self, ne_eq, b01, Int32.reduceLT, Int32.reduceLE, z32, z64, vl_0, tl_0, vl_1, tl_1, vl_2, tl_2, vl_3, tl_3, vl_4, tl_4, vl_5, tl_5, vl_6, tl_6, vl_7, tl_7, vl_8, tl_8, vl_9, tl_9, Int.reduceSub, Int.reduceEq, Int.reduceLT, reduceCtorEq, ro_obj, m_X1_gatherPlaces, dX1_gatherPlaces_0, ki_0, dX1_gatherPlaces_1, dX1_gatherPlaces_2, dX1_gatherPlaces_3, dX1_gatherPlaces_4, dX1_gatherPlaces_5, dX1_gatherPlaces_6, fl_1_11, dX1_gatherPlaces_9, dX1_gatherPlaces_10, dX1_gatherPlaces_13, dX1_gatherPlaces_14, dX1_gatherPlaces_15, fl_1_17, dX1_gatherPlaces_18, dX1_gatherPlaces_19, dX1_gatherPlaces_22, dX1_gatherPlaces_23, dX1_gatherPlaces_24, cl_1_54, dX1_gatherPlaces_27, dX1_gatherPlaces_28, dX1_gatherPlaces_29, dX1_gatherPlaces_32, dX1_gatherPlaces_33, dX1_gatherPlaces_36, dX1_gatherPlaces_37, dX1_gatherPlaces_38, dX1_gatherPlaces_39, ki_1, dX1_gatherPlaces_42, dX1_gatherPlaces_45, dX1_gatherPlaces_48, dX1_gatherPlaces_49]; try simp only [ax_ife, if_true, if_false, true_implies, implies_true, false_implies, and_true, true_and, not_true_eq_false, not_false_eq_true])
  exact g
set_option maxRecDepth 100000 in
set_option maxHeartbeats 400000 in
theorem c_X1_layOrder (W : WH n B p T r X E) (R : XH n B p T r X E h) {k c : Nat} (hk0 : 0 < k) (hk4 : k ≤ 4) (hc : c < 2 ^ 31) {F : Nat → Nat} (hF : ∀ i, i < k → F i < n) (hpl : ∀ i, i < k → h.2.2 16 i = some (p (F i))) : AC G jX1_layOrder 0 0 0 [.ref 11, .int (nI c), .int (nI k)] h (fun v h' => v = some (.int (if (s_pm k c).isSome = true then 1 else 0)) ∧ FY (fun _ _ => False) (fun a _ => a = 17) h h' ∧ ∀ q, s_pm k c = some q → ∀ i, i < k → h'.2.2 17 i = some (p (F (q.getD i 0)))) := by
  generalize htt : s_pm k c = tt
  have kz : (nI k = 0) = False := eq_false (nI_ne0 (by omega) (by omega))
  have k0 : (nI k ≤ 0) = False := eq_false (nI_nle (by omega) (by omega))
  have lp : ∀ (j rest : Nat) (q : List Nat) (used : Int32) (h1 : AH), j + q.length = k → rest < 2 ^ 31 → (∀ b, b < 10 → s_bt used b = decide (b ∈ q)) → (∀ x ∈ q, x < k) → FY (fun _ _ => False) (fun a _ => a = 17) h h1 → (∀ i, i < q.length → h1.2.2 17 (j + i) = some (p (F (q.getD i 0)))) → s_lay k j rest q = tt → AW G 1 7 false cX1_layOrder (Option.some FieldType.boolean) 0 (fun v h' => v = some (.int (if tt.isSome = true then 1 else 0)) ∧ FY (fun _ _ => False) (fun a _ => a = 17) h h' ∧ ∀ q, tt = some q → ∀ i, i < k → h'.2.2 17 i = some (p (F (q.getD i 0)))) 0 0 10 [(0, .ref 11), (1, .int (nI c)), (2, .int (nI k)), (3, .int (nI rest)), (4, .int used), (5, .int (nI j - 1))] [] h1 := by
    intro j
    induction j with
    | zero =>
      intro rest q used h1 hj hr hu hq F1 ho ht
      have ht2 : some q = tt := ht
      subst ht2
      have m : (nI 0 - 1 < 0) = True := eq_true (by decide)
      refine ax_wq_ok (cuts := [ 10]) 20 ?_
      (simp only [lv_args, fn0, fn1, fn2, fn3, ax_wq_s, ax_step2, ax_ins2_u, ax_ins, ax_nx, ax_cut, ax_lk, ax_st1, ax_st2, ax_ins0, ax_tg, ax_go, ax_sw2, ax_lsw2, ax_kc_s, ax_kc_n, ax_rf_rf, ax_isR_rf, ct_int, ct_long, ct_ref, ct_null, ct_rf, rf_ref, rf_null, isR_ref, isR_null, va_rf_s, va_rf_n, gv_0, gv_1, gv_2, pv_i, pv_r, pv_n, pv_q, pk_0, pk_2, pk_2n, pk_2q, pk_10, pk_11, rok_i, rok_z0, rok_z1, ex_eq, ex_z, ex_z2, ex_cz, List.filter_cons, List.filter_nil, List.take_succ_cons, List.take_zero, List.drop_succ_cons, List.drop_zero, List.reverse_cons, List.reverse_nil, List.nil_append, List.cons_append, List.append_nil, List.length_cons, List.length_nil, List.map_cons, List.map_nil, List.sum_cons, List.sum_nil, Bool.not_true, Bool.not_false, Bool.and_true, Bool.true_and, Bool.and_false, Bool.false_and, Bool.or_false, Bool.false_or, Bool.true_or, Bool.or_true, beq_self_eq_true, Nat.reduceBEq, Nat.reduceAdd, Nat.reduceSub, Nat.reduceLT, Nat.reduceLeDiff, Nat.reduceEqDiff, Int.reduceAdd, Int.reduceNeg, Int.reduceToNat, Int.reduceLE, Int.reduceNatCast, Int.reduceNatCast', ↓reduceIte, if_true, if_false, true_and, and_true, false_and, and_false, true_or, or_true, false_or, or_false, Nat.sub_zero, Nat.le_refl, Bool.false_eq_true, Bool.true_eq_false, false_implies, true_implies, implies_true, not_true_eq_false, not_false_eq_true, eq_self, Fin.isValue, Nat.zero_add, Nat.add_zero, and_self, ne_eq, b01, Int32.reduceLT, Int32.reduceLE, z32, z64, vl_0, tl_0, vl_1, tl_1, vl_2, tl_2, vl_3, tl_3, vl_4, tl_4, vl_5, tl_5, vl_6, tl_6, vl_7, tl_7, vl_8, tl_8, vl_9, tl_9, Int.reduceSub, Int.reduceEq, Int.reduceLT, reduceCtorEq, ro_obj, m_X1_layOrder, dX1_layOrder_0, dX1_layOrder_1, dX1_layOrder_2, ki_0, dX1_layOrder_3, dX1_layOrder_5, dX1_layOrder_6, ki_1, dX1_layOrder_7, dX1_layOrder_8, dX1_layOrder_10, dX1_layOrder_12, dX1_layOrder_15, dX1_layOrder_17, dX1_layOrder_18, fl_1_20, dX1_layOrder_21, dX1_layOrder_22, dX1_layOrder_25, dX1_layOrder_26, dX1_layOrder_29, dX1_layOrder_30, dX1_layOrder_31, dX1_layOrder_32, dX1_layOrder_34, dX1_layOrder_35, dX1_layOrder_36, dX1_layOrder_37, dX1_layOrder_38, dX1_layOrder_40, dX1_layOrder_41, dX1_layOrder_43, dX1_layOrder_44, dX1_layOrder_45, dX1_layOrder_48, dX1_layOrder_50, dX1_layOrder_53, dX1_layOrder_55, dX1_layOrder_56, fl_1_17, dX1_layOrder_59, dX1_layOrder_60, dX1_layOrder_63, dX1_layOrder_64, dX1_layOrder_65, dX1_layOrder_67, dX1_layOrder_68, dX1_layOrder_70, dX1_layOrder_71, dX1_layOrder_72, dX1_layOrder_74, dX1_layOrder_75, dX1_layOrder_78, dX1_layOrder_80, dX1_layOrder_81, dX1_layOrder_84, dX1_layOrder_86, dX1_layOrder_87, dX1_layOrder_88, ki_m1, dX1_layOrder_91, dX1_layOrder_94, dX1_layOrder_95, m, Option.isSome_some]; try simp only [ax_ife, if_true, if_false, true_implies, implies_true, false_implies, and_true, true_and, not_true_eq_false, not_false_eq_true])
      refine ⟨F1, fun q' hq' i hi => ?_⟩
      cases hq'
      have := ho i (by omega)
      rw [Nat.zero_add] at this
      exact this
    | succ j ih =>
      intro rest q used h1 hj hr hu hq F1 ho ht
      have R1 := XH_FY F1 (fun _ _ z => z.elim) (fun _ _ z => Or.inr z) W R
      have M1 := R1.1
      unfold HX at M1
      rw [show s_lay k (j + 1) rest q = if rest % k ∈ q then none else s_lay k j (rest / k) ((rest % k) :: q) from rfl] at ht
      have hd : rest % k < k := Nat.mod_lt _ hk0
      have hdr : rest / k ≤ rest := Nat.div_le_self _ _
      have z0 : (nI j < 0) = False := eq_false (nI_pos (by omega))
      have z1 : (Int32.ofNat 4 ≤ nI j) = False := eq_false (nI_ge (b := 4) (by omega) (by decide))
      have d1 : nI rest / nI k = nI (rest / k) := pk_div (a := rest) (d := k) hr hk0 (by omega)
      have d2 : nI rest - nI (rest / k) * nI k = nI (rest % k) := by
        rw [← d1]
        exact pk_rem (a := rest) (d := k) hr hk0 (by omega)
      have ub := s_bt_and used (b := rest % k) (by omega)
      rw [hu _ (by omega), decide_eq_true_eq] at ub
      have y0 : (nI (rest % k) < 0) = False := eq_false (nI_pos (by omega))
      have y1 : (nI (rest % k) < Int32.ofNat 4) = True := eq_true (nI_lt (b := 4) (by omega) (by decide))
      have c1 : (nI (rest % k)).toNatClampNeg = rest % k := nI_clamp (by omega)
      have c2 : vp_in (nI (rest % k)) 4 := vp_in_nI (by omega) (by decide)
      have c3 : (nI j).toNatClampNeg = j := nI_clamp (by omega)
      have c4 : vp_in (nI j) 4 := vp_in_nI (by omega) (by decide)
      have pl : h1.2.2 16 (rest % k) = some (p (F (rest % k))) := by rw [F1.2.1 16 _ (by show ¬ (16 : Nat) = 17; decide)]; exact hpl _ hd
      have x1 := (R1.2.1 _ (hF _ hd)).1
      have m2 : nI j + -1 = nI j - 1 := by rw [Int32.sub_eq_add_neg]
      rw [i_m1]
      refine ax_wq_ok (cuts := [ 10]) 60 ?_
      by_cases e : rest % k ∈ q
      · rw [if_pos e] at ht
        subst ht
        have ez := eq_false (fun y => (ub.mp y) e)
        (simp only [lv_args, fn0, fn1, fn2, fn3, ax_wq_s, ax_step2, ax_ins2_u, ax_ins, ax_nx, ax_cut, ax_lk, ax_st1, ax_st2, ax_ins0, ax_tg, ax_go, ax_sw2, ax_lsw2, ax_kc_s, ax_kc_n, ax_rf_rf, ax_isR_rf, ct_int, ct_long, ct_ref, ct_null, ct_rf, rf_ref, rf_null, isR_ref, isR_null, va_rf_s, va_rf_n, gv_0, gv_1, gv_2, pv_i, pv_r, pv_n, pv_q, pk_0, pk_2, pk_2n, pk_2q, pk_10, pk_11, rok_i, rok_z0, rok_z1, ex_eq, ex_z, ex_z2, ex_cz, List.filter_cons, List.filter_nil, List.take_succ_cons, List.take_zero, List.drop_succ_cons, List.drop_zero, List.reverse_cons, List.reverse_nil, List.nil_append, List.cons_append, List.append_nil, List.length_cons, List.length_nil, List.map_cons, List.map_nil, List.sum_cons, List.sum_nil, Bool.not_true, Bool.not_false, Bool.and_true, Bool.true_and, Bool.and_false, Bool.false_and, Bool.or_false, Bool.false_or, Bool.true_or, Bool.or_true, beq_self_eq_true, Nat.reduceBEq, Nat.reduceAdd, Nat.reduceSub, Nat.reduceLT, Nat.reduceLeDiff, Nat.reduceEqDiff, Int.reduceAdd, Int.reduceNeg, Int.reduceToNat, Int.reduceLE, Int.reduceNatCast, Int.reduceNatCast', ↓reduceIte, if_true, if_false, true_and, and_true, false_and, and_false, true_or, or_true, false_or, or_false, Nat.sub_zero, Nat.le_refl, Bool.false_eq_true, Bool.true_eq_false, false_implies, true_implies, implies_true, not_true_eq_false, not_false_eq_true, eq_self, Fin.isValue, Nat.zero_add, Nat.add_zero, and_self, ne_eq, b01, Int32.reduceLT, Int32.reduceLE, z32, z64, vl_0, tl_0, vl_1, tl_1, vl_2, tl_2, vl_3, tl_3, vl_4, tl_4, vl_5, tl_5, vl_6, tl_6, vl_7, tl_7, vl_8, tl_8, vl_9, tl_9, Int.reduceSub, Int.reduceEq, Int.reduceLT, reduceCtorEq, ro_obj, m_X1_layOrder, dX1_layOrder_0, dX1_layOrder_1, dX1_layOrder_2, ki_0, dX1_layOrder_3, dX1_layOrder_5, dX1_layOrder_6, ki_1, dX1_layOrder_7, dX1_layOrder_8, dX1_layOrder_10, dX1_layOrder_12, dX1_layOrder_15, dX1_layOrder_17, dX1_layOrder_18, fl_1_20, dX1_layOrder_21, dX1_layOrder_22, dX1_layOrder_25, dX1_layOrder_26, dX1_layOrder_29, dX1_layOrder_30, dX1_layOrder_31, dX1_layOrder_32, dX1_layOrder_34, dX1_layOrder_35, dX1_layOrder_36, dX1_layOrder_37, dX1_layOrder_38, dX1_layOrder_40, dX1_layOrder_41, dX1_layOrder_43, dX1_layOrder_44, dX1_layOrder_45, dX1_layOrder_48, dX1_layOrder_50, dX1_layOrder_53, dX1_layOrder_55, dX1_layOrder_56, fl_1_17, dX1_layOrder_59, dX1_layOrder_60, dX1_layOrder_63, dX1_layOrder_64, dX1_layOrder_65, dX1_layOrder_67, dX1_layOrder_68, dX1_layOrder_70, dX1_layOrder_71, dX1_layOrder_72, dX1_layOrder_74, dX1_layOrder_75, dX1_layOrder_78, dX1_layOrder_80, dX1_layOrder_81, dX1_layOrder_84, dX1_layOrder_86, dX1_layOrder_87, dX1_layOrder_88, ki_m1, dX1_layOrder_91, dX1_layOrder_94, dX1_layOrder_95, M1, z0, z1, k0, kz, d1, d2, ez, Option.isSome_none, Bool.false_eq_true]; try simp only [ax_ife, if_true, if_false, true_implies, implies_true, false_implies, and_true, true_and, not_true_eq_false, not_false_eq_true])
        all_goals first | exact F1 | exact ⟨F1, fun q' hq' => by cases hq'⟩
      · rw [if_neg e] at ht
        have ez := eq_true (ub.mpr e)
        have g := ih (rest / k) ((rest % k) :: q) (used ||| (1 <<< (nI (rest % k) &&& 31))) (ax_setR h1 17 j (some (p (F (rest % k))))) (by rw [List.length_cons]; omega) (by omega) (fun b hb => by
          rw [s_bt_or _ (by omega), hu b hb]
          by_cases eb : b = rest % k
          · rw [eb]
            simp
          · simp [eb]) (fun x hx => by
          rcases List.mem_cons.mp hx with rfl | hx
          · exact hd
          · exact hq x hx) (FY_R F1 rfl) (fun i hi => by
          rw [setR_at]
          cases i with
          | zero =>
            rw [if_pos ⟨rfl, by omega⟩]
            rfl
          | succ i =>
            rw [if_neg (fun z => by have := z.2; omega), show j + (i + 1) = j + 1 + i by omega]
            rw [List.length_cons] at hi
            exact ho i (by omega)) ht
        (simp only [lv_args, fn0, fn1, fn2, fn3, ax_wq_s, ax_step2, ax_ins2_u, ax_ins, ax_nx, ax_cut, ax_lk, ax_st1, ax_st2, ax_ins0, ax_tg, ax_go, ax_sw2, ax_lsw2, ax_kc_s, ax_kc_n, ax_rf_rf, ax_isR_rf, ct_int, ct_long, ct_ref, ct_null, ct_rf, rf_ref, rf_null, isR_ref, isR_null, va_rf_s, va_rf_n, gv_0, gv_1, gv_2, pv_i, pv_r, pv_n, pv_q, pk_0, pk_2, pk_2n, pk_2q, pk_10, pk_11, rok_i, rok_z0, rok_z1, ex_eq, ex_z, ex_z2, ex_cz, List.filter_cons, List.filter_nil, List.take_succ_cons, List.take_zero, List.drop_succ_cons, List.drop_zero, List.reverse_cons, List.reverse_nil, List.nil_append, List.cons_append, List.append_nil, List.length_cons, List.length_nil, List.map_cons, List.map_nil, List.sum_cons, List.sum_nil, Bool.not_true, Bool.not_false, Bool.and_true, Bool.true_and, Bool.and_false, Bool.false_and, Bool.or_false, Bool.false_or, Bool.true_or, Bool.or_true, beq_self_eq_true, Nat.reduceBEq, Nat.reduceAdd, Nat.reduceSub, Nat.reduceLT, Nat.reduceLeDiff, Nat.reduceEqDiff, Int.reduceAdd, Int.reduceNeg, Int.reduceToNat, Int.reduceLE, Int.reduceNatCast, Int.reduceNatCast', ↓reduceIte, if_true, if_false, true_and, and_true, false_and, and_false, true_or, or_true, false_or, or_false, Nat.sub_zero, Nat.le_refl, Bool.false_eq_true, Bool.true_eq_false, false_implies, true_implies, implies_true, not_true_eq_false, not_false_eq_true, eq_self, Fin.isValue, Nat.zero_add, Nat.add_zero, and_self, ne_eq, b01, Int32.reduceLT, Int32.reduceLE, z32, z64, vl_0, tl_0, vl_1, tl_1, vl_2, tl_2, vl_3, tl_3, vl_4, tl_4, vl_5, tl_5, vl_6, tl_6, vl_7, tl_7, vl_8, tl_8, vl_9, tl_9, Int.reduceSub, Int.reduceEq, Int.reduceLT, reduceCtorEq, ro_obj, m_X1_layOrder, dX1_layOrder_0, dX1_layOrder_1, dX1_layOrder_2, ki_0, dX1_layOrder_3, dX1_layOrder_5, dX1_layOrder_6, ki_1, dX1_layOrder_7, dX1_layOrder_8, dX1_layOrder_10, dX1_layOrder_12, dX1_layOrder_15, dX1_layOrder_17, dX1_layOrder_18, fl_1_20, dX1_layOrder_21, dX1_layOrder_22, dX1_layOrder_25, dX1_layOrder_26, dX1_layOrder_29, dX1_layOrder_30, dX1_layOrder_31, dX1_layOrder_32, dX1_layOrder_34, dX1_layOrder_35, dX1_layOrder_36, dX1_layOrder_37, dX1_layOrder_38, dX1_layOrder_40, dX1_layOrder_41, dX1_layOrder_43, dX1_layOrder_44, dX1_layOrder_45, dX1_layOrder_48, dX1_layOrder_50, dX1_layOrder_53, dX1_layOrder_55, dX1_layOrder_56, fl_1_17, dX1_layOrder_59, dX1_layOrder_60, dX1_layOrder_63, dX1_layOrder_64, dX1_layOrder_65, dX1_layOrder_67, dX1_layOrder_68, dX1_layOrder_70, dX1_layOrder_71, dX1_layOrder_72, dX1_layOrder_74, dX1_layOrder_75, dX1_layOrder_78, dX1_layOrder_80, dX1_layOrder_81, dX1_layOrder_84, dX1_layOrder_86, dX1_layOrder_87, dX1_layOrder_88, ki_m1, dX1_layOrder_91, dX1_layOrder_94, dX1_layOrder_95, M1, z0, z1, k0, kz, d1, d2, ez, y0, y1, c1, c2, c3, c4, pl, fa_eq, ec_53, x1, m2]; try simp only [ax_ife, if_true, if_false, true_implies, implies_true, false_implies, and_true, true_and, not_true_eq_false, not_false_eq_true])
        exact ax_sub (fun q hq => by simp only [List.mem_cons, List.not_mem_nil, or_false] at hq ⊢; rcases hq with hq | hq | hq | hq | hq | hq <;> simp [hq]) g
  have M := R.1
  unfold HX at M
  refine ax_intro 1 false cdX1_layOrder (by decide +kernel) (by decide +kernel) (by decide +kernel) (Nat.le_of_ble_eq_true rfl) ?_
  refine ax_wq_ok (cuts := [ 10]) 20 ?_
  (simp only [lv_args, fn0, fn1, fn2, fn3, ax_wq_s, ax_step2, ax_ins2_u, ax_ins, ax_nx, ax_cut, ax_lk, ax_st1, ax_st2, ax_ins0, ax_tg, ax_go, ax_sw2, ax_lsw2, ax_kc_s, ax_kc_n, ax_rf_rf, ax_isR_rf, ct_int, ct_long, ct_ref, ct_null, ct_rf, rf_ref, rf_null, isR_ref, isR_null, va_rf_s, va_rf_n, gv_0, gv_1, gv_2, pv_i, pv_r, pv_n, pv_q, pk_0, pk_2, pk_2n, pk_2q, pk_10, pk_11, rok_i, rok_z0, rok_z1, ex_eq, ex_z, ex_z2, ex_cz, List.filter_cons, List.filter_nil, List.take_succ_cons, List.take_zero, List.drop_succ_cons, List.drop_zero, List.reverse_cons, List.reverse_nil, List.nil_append, List.cons_append, List.append_nil, List.length_cons, List.length_nil, List.map_cons, List.map_nil, List.sum_cons, List.sum_nil, Bool.not_true, Bool.not_false, Bool.and_true, Bool.true_and, Bool.and_false, Bool.false_and, Bool.or_false, Bool.false_or, Bool.true_or, Bool.or_true, beq_self_eq_true, Nat.reduceBEq, Nat.reduceAdd, Nat.reduceSub, Nat.reduceLT, Nat.reduceLeDiff, Nat.reduceEqDiff, Int.reduceAdd, Int.reduceNeg, Int.reduceToNat, Int.reduceLE, Int.reduceNatCast, Int.reduceNatCast', ↓reduceIte, if_true, if_false, true_and, and_true, false_and, and_false, true_or, or_true, false_or, or_false, Nat.sub_zero, Nat.le_refl, Bool.false_eq_true, Bool.true_eq_false, false_implies, true_implies, implies_true, not_true_eq_false, not_false_eq_true, eq_self, Fin.isValue, Nat.zero_add, Nat.add_zero, and_self, ne_eq, b01, Int32.reduceLT, Int32.reduceLE, z32, z64, vl_0, tl_0, vl_1, tl_1, vl_2, tl_2, vl_3, tl_3, vl_4, tl_4, vl_5, tl_5, vl_6, tl_6, vl_7, tl_7, vl_8, tl_8, vl_9, tl_9, Int.reduceSub, Int.reduceEq, Int.reduceLT, reduceCtorEq, ro_obj, m_X1_layOrder, dX1_layOrder_0, dX1_layOrder_1, dX1_layOrder_2, ki_0, dX1_layOrder_3, dX1_layOrder_5, dX1_layOrder_6, ki_1, dX1_layOrder_7, dX1_layOrder_8, dX1_layOrder_10, dX1_layOrder_12, dX1_layOrder_15, dX1_layOrder_17, dX1_layOrder_18, fl_1_20, dX1_layOrder_21, dX1_layOrder_22, dX1_layOrder_25, dX1_layOrder_26, dX1_layOrder_29, dX1_layOrder_30, dX1_layOrder_31, dX1_layOrder_32, dX1_layOrder_34, dX1_layOrder_35, dX1_layOrder_36, dX1_layOrder_37, dX1_layOrder_38, dX1_layOrder_40, dX1_layOrder_41, dX1_layOrder_43, dX1_layOrder_44, dX1_layOrder_45, dX1_layOrder_48, dX1_layOrder_50, dX1_layOrder_53, dX1_layOrder_55, dX1_layOrder_56, fl_1_17, dX1_layOrder_59, dX1_layOrder_60, dX1_layOrder_63, dX1_layOrder_64, dX1_layOrder_65, dX1_layOrder_67, dX1_layOrder_68, dX1_layOrder_70, dX1_layOrder_71, dX1_layOrder_72, dX1_layOrder_74, dX1_layOrder_75, dX1_layOrder_78, dX1_layOrder_80, dX1_layOrder_81, dX1_layOrder_84, dX1_layOrder_86, dX1_layOrder_87, dX1_layOrder_88, ki_m1, dX1_layOrder_91, dX1_layOrder_94, dX1_layOrder_95]; try simp only [ax_ife, if_true, if_false, true_implies, implies_true, false_implies, and_true, true_and, not_true_eq_false, not_false_eq_true])
  exact lp k c [] 0 h (by rw [List.length_nil]; omega) hc (fun b hb => by rw [s_bt_0]; rfl) (fun x hx => by cases hx) (FY_rf _ _ _) (fun i hi => absurd hi (Nat.not_lt_zero i)) htt
set_option maxRecDepth 100000 in
set_option maxHeartbeats 400000 in
theorem c_X1_orderAsDigits (W : WH n B p T r X E) (R : XH n B p T r X E h) {k : Nat} (hk4 : k ≤ 4) {F : Nat → Nat} {q : List Nat} (hq : q.length = k) (hF : ∀ i, i < k → F (q.getD i 0) < n) (hor : ∀ i, i < k → h.2.2 17 i = some (p (F (q.getD i 0)))) : AC G jX1_orderAsDigits 2 0 0 [.ref 11, .int (nI k)] h (Pu (.int (nI (s_dg F q))) h) := by
  have M := R.1
  unfold HX at M
  generalize htt : s_dg F q = tt
  have lp : ∀ (l : List Nat) (i d : Nat), i + l.length = k → (∀ j, j < l.length → l.getD j 0 = q.getD (i + j) 0) → l.foldl (fun d x => 10 * d + F x) d = tt → AW G 1 4 false cX1_orderAsDigits (Option.some FieldType.int) 2 (Pu (.int (nI tt)) h) 0 0 4 [(0, .ref 11), (1, .int (nI k)), (2, .int (nI d)), (3, .int (nI i))] [] h := by
    intro l
    induction l with
    | nil =>
      intro i d hi hl ht
      have e : i = k := by rw [List.length_nil] at hi; omega
      subst e
      have ht2 : d = tt := ht
      subst ht2
      refine ax_wq_ok (cuts := [ 4]) 20 ?_
      (simp only [lv_args, fn0, fn1, fn2, fn3, ax_wq_s, ax_step2, ax_ins2_u, ax_ins, ax_nx, ax_cut, ax_lk, ax_st1, ax_st2, ax_ins0, ax_tg, ax_go, ax_sw2, ax_lsw2, ax_kc_s, ax_kc_n, ax_rf_rf, ax_isR_rf, ct_int, ct_long, ct_ref, ct_null, ct_rf, rf_ref, rf_null, isR_ref, isR_null, va_rf_s, va_rf_n, gv_0, gv_1, gv_2, pv_i, pv_r, pv_n, pv_q, pk_0, pk_2, pk_2n, pk_2q, pk_10, pk_11, rok_i, rok_z0, rok_z1, ex_eq, ex_z, ex_z2, ex_cz, List.filter_cons, List.filter_nil, List.take_succ_cons, List.take_zero, List.drop_succ_cons, List.drop_zero, List.reverse_cons, List.reverse_nil, List.nil_append, List.cons_append, List.append_nil, List.length_cons, List.length_nil, List.map_cons, List.map_nil, List.sum_cons, List.sum_nil, Bool.not_true, Bool.not_false, Bool.and_true, Bool.true_and, Bool.and_false, Bool.false_and, Bool.or_false, Bool.false_or, Bool.true_or, Bool.or_true, beq_self_eq_true, Nat.reduceBEq, Nat.reduceAdd, Nat.reduceSub, Nat.reduceLT, Nat.reduceLeDiff, Nat.reduceEqDiff, Int.reduceAdd, Int.reduceNeg, Int.reduceToNat, Int.reduceLE, Int.reduceNatCast, Int.reduceNatCast', ↓reduceIte, if_true, if_false, true_and, and_true, false_and, and_false, true_or, or_true, false_or, or_false, Nat.sub_zero, Nat.le_refl, Bool.false_eq_true, Bool.true_eq_false, false_implies, true_implies, implies_true, not_true_eq_false, not_false_eq_true, eq_self, Fin.isValue, Nat.zero_add, Nat.add_zero, and_self, ne_eq, b01, Int32.reduceLT, Int32.reduceLE, z32, z64, vl_0, tl_0, vl_1, tl_1, vl_2, tl_2, vl_3, tl_3, vl_4, tl_4, vl_5, tl_5, vl_6, tl_6, vl_7, tl_7, vl_8, tl_8, vl_9, tl_9, Int.reduceSub, Int.reduceEq, Int.reduceLT, reduceCtorEq, ro_obj, m_X1_orderAsDigits, dX1_orderAsDigits_0, ki_0, dX1_orderAsDigits_1, dX1_orderAsDigits_2, dX1_orderAsDigits_3, dX1_orderAsDigits_4, dX1_orderAsDigits_5, dX1_orderAsDigits_6, dX1_orderAsDigits_9, dX1_orderAsDigits_10, dX1_orderAsDigits_11, fl_1_20, dX1_orderAsDigits_14, dX1_orderAsDigits_15, dX1_orderAsDigits_18, kb_10, dX1_orderAsDigits_20, dX1_orderAsDigits_21, dX1_orderAsDigits_22, dX1_orderAsDigits_23, dX1_orderAsDigits_26, dX1_orderAsDigits_27, dX1_orderAsDigits_28, cl_1_149, dX1_orderAsDigits_31, dX1_orderAsDigits_32, dX1_orderAsDigits_33, ki_1, dX1_orderAsDigits_36, dX1_orderAsDigits_39, dX1_orderAsDigits_40, Int32.le_refl]; try simp only [ax_ife, if_true, if_false, true_implies, implies_true, false_implies, and_true, true_and, not_true_eq_false, not_false_eq_true])
      all_goals exact ⟨rfl, rfl⟩
    | cons x l ih =>
      intro i d hi hl ht
      rw [List.length_cons] at hi
      have ge : (nI k ≤ nI i) = False := eq_false (nI_ge (by omega) (by omega))
      have z1 : (Int32.ofNat 4 ≤ nI i) = False := eq_false (nI_ge (b := 4) (by omega) (by decide))
      have hc : (nI i).toNatClampNeg = i := nI_clamp (by omega)
      have hin : vp_in (nI i) 4 := vp_in_nI (by omega) (by decide)
      have ex : x = q.getD i 0 := by
        have := hl 0 (by rw [List.length_cons]; omega)
        rw [Nat.add_zero] at this
        exact this
      have hx : F x < n := by rw [ex]; exact hF i (by omega)
      have eo : h.2.2 17 i = some (p (F x)) := by rw [ex]; exact hor i (by omega)
      have cn := c_X6_numberOf (G := G) R.2.1 (u := F x + 1) (by omega)
      rw [s_pr_s, va_rf_s, i_m1] at cn
      have e1 : (10 : Int32) * nI d + nI (F x) = nI (10 * d + F x) := by
        rw [show (10 : Int32) = nI 10 from rfl, pk_mul, nI_add]
      have g := ih (i + 1) (10 * d + F x) (by omega) (fun j hj => by
        have := hl (j + 1) (by rw [List.length_cons]; omega)
        rw [show i + (j + 1) = i + 1 + j by omega] at this
        exact this) ht
      refine ax_wq_ok (cuts := [ 4]) 40 ?_
      (simp only [lv_args, fn0, fn1, fn2, fn3, ax_wq_s, ax_step2, ax_ins2_u, ax_ins, ax_nx, ax_cut, ax_lk, ax_st1, ax_st2, ax_ins0, ax_tg, ax_go, ax_sw2, ax_lsw2, ax_kc_s, ax_kc_n, ax_rf_rf, ax_isR_rf, ct_int, ct_long, ct_ref, ct_null, ct_rf, rf_ref, rf_null, isR_ref, isR_null, va_rf_s, va_rf_n, gv_0, gv_1, gv_2, pv_i, pv_r, pv_n, pv_q, pk_0, pk_2, pk_2n, pk_2q, pk_10, pk_11, rok_i, rok_z0, rok_z1, ex_eq, ex_z, ex_z2, ex_cz, List.filter_cons, List.filter_nil, List.take_succ_cons, List.take_zero, List.drop_succ_cons, List.drop_zero, List.reverse_cons, List.reverse_nil, List.nil_append, List.cons_append, List.append_nil, List.length_cons, List.length_nil, List.map_cons, List.map_nil, List.sum_cons, List.sum_nil, Bool.not_true, Bool.not_false, Bool.and_true, Bool.true_and, Bool.and_false, Bool.false_and, Bool.or_false, Bool.false_or, Bool.true_or, Bool.or_true, beq_self_eq_true, Nat.reduceBEq, Nat.reduceAdd, Nat.reduceSub, Nat.reduceLT, Nat.reduceLeDiff, Nat.reduceEqDiff, Int.reduceAdd, Int.reduceNeg, Int.reduceToNat, Int.reduceLE, Int.reduceNatCast, Int.reduceNatCast', ↓reduceIte, if_true, if_false, true_and, and_true, false_and, and_false, true_or, or_true, false_or, or_false, Nat.sub_zero, Nat.le_refl, Bool.false_eq_true, Bool.true_eq_false, false_implies, true_implies, implies_true, not_true_eq_false, not_false_eq_true, eq_self, Fin.isValue, Nat.zero_add, Nat.add_zero, and_self, ne_eq, b01, Int32.reduceLT, Int32.reduceLE, z32, z64, vl_0, tl_0, vl_1, tl_1, vl_2, tl_2, vl_3, tl_3, vl_4, tl_4, vl_5, tl_5, vl_6, tl_6, vl_7, tl_7, vl_8, tl_8, vl_9, tl_9, Int.reduceSub, Int.reduceEq, Int.reduceLT, reduceCtorEq, ro_obj, m_X1_orderAsDigits, dX1_orderAsDigits_0, ki_0, dX1_orderAsDigits_1, dX1_orderAsDigits_2, dX1_orderAsDigits_3, dX1_orderAsDigits_4, dX1_orderAsDigits_5, dX1_orderAsDigits_6, dX1_orderAsDigits_9, dX1_orderAsDigits_10, dX1_orderAsDigits_11, fl_1_20, dX1_orderAsDigits_14, dX1_orderAsDigits_15, dX1_orderAsDigits_18, kb_10, dX1_orderAsDigits_20, dX1_orderAsDigits_21, dX1_orderAsDigits_22, dX1_orderAsDigits_23, dX1_orderAsDigits_26, dX1_orderAsDigits_27, dX1_orderAsDigits_28, cl_1_149, dX1_orderAsDigits_31, dX1_orderAsDigits_32, dX1_orderAsDigits_33, ki_1, dX1_orderAsDigits_36, dX1_orderAsDigits_39, dX1_orderAsDigits_40, M, ge, z1, hc, hin, eo]; try simp only [ax_ife, if_true, if_false, true_implies, implies_true, false_implies, and_true, true_and, not_true_eq_false, not_false_eq_true])
      refine ax_pu cn (by decide) ?_
      (simp only [lv_args, fn0, fn1, fn2, fn3, ax_wq_s, ax_step2, ax_ins2_u, ax_ins, ax_nx, ax_cut, ax_lk, ax_st1, ax_st2, ax_ins0, ax_tg, ax_go, ax_sw2, ax_lsw2, ax_kc_s, ax_kc_n, ax_rf_rf, ax_isR_rf, ct_int, ct_long, ct_ref, ct_null, ct_rf, rf_ref, rf_null, isR_ref, isR_null, va_rf_s, va_rf_n, gv_0, gv_1, gv_2, pv_i, pv_r, pv_n, pv_q, pk_0, pk_2, pk_2n, pk_2q, pk_10, pk_11, rok_i, rok_z0, rok_z1, ex_eq, ex_z, ex_z2, ex_cz, List.filter_cons, List.filter_nil, List.take_succ_cons, List.take_zero, List.drop_succ_cons, List.drop_zero, List.reverse_cons, List.reverse_nil, List.nil_append, List.cons_append, List.append_nil, List.length_cons, List.length_nil, List.map_cons, List.map_nil, List.sum_cons, List.sum_nil, Bool.not_true, Bool.not_false, Bool.and_true, Bool.true_and, Bool.and_false, Bool.false_and, Bool.or_false, Bool.false_or, Bool.true_or, Bool.or_true, beq_self_eq_true, Nat.reduceBEq, Nat.reduceAdd, Nat.reduceSub, Nat.reduceLT, Nat.reduceLeDiff, Nat.reduceEqDiff, Int.reduceAdd, Int.reduceNeg, Int.reduceToNat, Int.reduceLE, Int.reduceNatCast, Int.reduceNatCast', ↓reduceIte, if_true, if_false, true_and, and_true, false_and, and_false, true_or, or_true, false_or, or_false, Nat.sub_zero, Nat.le_refl, Bool.false_eq_true, Bool.true_eq_false, false_implies, true_implies, implies_true, not_true_eq_false, not_false_eq_true, eq_self, Fin.isValue, Nat.zero_add, Nat.add_zero, and_self, ne_eq, b01, Int32.reduceLT, Int32.reduceLE, z32, z64, vl_0, tl_0, vl_1, tl_1, vl_2, tl_2, vl_3, tl_3, vl_4, tl_4, vl_5, tl_5, vl_6, tl_6, vl_7, tl_7, vl_8, tl_8, vl_9, tl_9, Int.reduceSub, Int.reduceEq, Int.reduceLT, reduceCtorEq, ro_obj, m_X1_orderAsDigits, dX1_orderAsDigits_0, ki_0, dX1_orderAsDigits_1, dX1_orderAsDigits_2, dX1_orderAsDigits_3, dX1_orderAsDigits_4, dX1_orderAsDigits_5, dX1_orderAsDigits_6, dX1_orderAsDigits_9, dX1_orderAsDigits_10, dX1_orderAsDigits_11, fl_1_20, dX1_orderAsDigits_14, dX1_orderAsDigits_15, dX1_orderAsDigits_18, kb_10, dX1_orderAsDigits_20, dX1_orderAsDigits_21, dX1_orderAsDigits_22, dX1_orderAsDigits_23, dX1_orderAsDigits_26, dX1_orderAsDigits_27, dX1_orderAsDigits_28, cl_1_149, dX1_orderAsDigits_31, dX1_orderAsDigits_32, dX1_orderAsDigits_33, ki_1, dX1_orderAsDigits_36, dX1_orderAsDigits_39, dX1_orderAsDigits_40, e1, nI_1]; try simp only [ax_ife, if_true, if_false, true_implies, implies_true, false_implies, and_true, true_and, not_true_eq_false, not_false_eq_true])
      exact g
  refine ax_intro 1 false cdX1_orderAsDigits (by decide +kernel) (by decide +kernel) (by decide +kernel) (Nat.le_of_ble_eq_true rfl) ?_
  refine ax_wq_ok (cuts := [ 4]) 10 ?_
  (simp only [lv_args, fn0, fn1, fn2, fn3, ax_wq_s, ax_step2, ax_ins2_u, ax_ins, ax_nx, ax_cut, ax_lk, ax_st1, ax_st2, ax_ins0, ax_tg, ax_go, ax_sw2, ax_lsw2, ax_kc_s, ax_kc_n, ax_rf_rf, ax_isR_rf, ct_int, ct_long, ct_ref, ct_null, ct_rf, rf_ref, rf_null, isR_ref, isR_null, va_rf_s, va_rf_n, gv_0, gv_1, gv_2, pv_i, pv_r, pv_n, pv_q, pk_0, pk_2, pk_2n, pk_2q, pk_10, pk_11, rok_i, rok_z0, rok_z1, ex_eq, ex_z, ex_z2, ex_cz, List.filter_cons, List.filter_nil, List.take_succ_cons, List.take_zero, List.drop_succ_cons, List.drop_zero, List.reverse_cons, List.reverse_nil, List.nil_append, List.cons_append, List.append_nil, List.length_cons, List.length_nil, List.map_cons, List.map_nil, List.sum_cons, List.sum_nil, Bool.not_true, Bool.not_false, Bool.and_true, Bool.true_and, Bool.and_false, Bool.false_and, Bool.or_false, Bool.false_or, Bool.true_or, Bool.or_true, beq_self_eq_true, Nat.reduceBEq, Nat.reduceAdd, Nat.reduceSub, Nat.reduceLT, Nat.reduceLeDiff, Nat.reduceEqDiff, Int.reduceAdd, Int.reduceNeg, Int.reduceToNat, Int.reduceLE, Int.reduceNatCast, Int.reduceNatCast', ↓reduceIte, if_true, if_false, true_and, and_true, false_and, and_false, true_or, or_true, false_or, or_false, Nat.sub_zero, Nat.le_refl, Bool.false_eq_true, Bool.true_eq_false, false_implies, true_implies, implies_true, not_true_eq_false, not_false_eq_true, eq_self, Fin.isValue, Nat.zero_add, Nat.add_zero, and_self, ne_eq, b01, Int32.reduceLT, Int32.reduceLE, z32, z64, vl_0, tl_0, vl_1, tl_1, vl_2, tl_2, vl_3, tl_3, vl_4, tl_4, vl_5, tl_5, vl_6, tl_6, vl_7, tl_7, vl_8, tl_8, vl_9, tl_9, Int.reduceSub, Int.reduceEq, Int.reduceLT, reduceCtorEq, ro_obj, m_X1_orderAsDigits, dX1_orderAsDigits_0, ki_0, dX1_orderAsDigits_1, dX1_orderAsDigits_2, dX1_orderAsDigits_3, dX1_orderAsDigits_4, dX1_orderAsDigits_5, dX1_orderAsDigits_6, dX1_orderAsDigits_9, dX1_orderAsDigits_10, dX1_orderAsDigits_11, fl_1_20, dX1_orderAsDigits_14, dX1_orderAsDigits_15, dX1_orderAsDigits_18, kb_10, dX1_orderAsDigits_20, dX1_orderAsDigits_21, dX1_orderAsDigits_22, dX1_orderAsDigits_23, dX1_orderAsDigits_26, dX1_orderAsDigits_27, dX1_orderAsDigits_28, cl_1_149, dX1_orderAsDigits_31, dX1_orderAsDigits_32, dX1_orderAsDigits_33, ki_1, dX1_orderAsDigits_36, dX1_orderAsDigits_39, dX1_orderAsDigits_40]; try simp only [ax_ife, if_true, if_false, true_implies, implies_true, false_implies, and_true, true_and, not_true_eq_false, not_false_eq_true])
  exact lp q 0 0 (by omega) (fun j hj => by rw [Nat.zero_add]) htt
end XRO
