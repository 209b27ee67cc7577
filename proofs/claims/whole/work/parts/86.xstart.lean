-- deps: 11 45 50 51 52 56 57 66 67 72 73 74 76 77 81 82 85
theorem WFL_X0 : WFL 1 0 s_X0 s_E0 := by
  have ok := s_tx_ok (tn := 74) (tb := s_lw) s_lw_le 3 0 0 [] (fun _ => 0) rfl (Nat.zero_le _) (Nat.zero_le _) ⟨fun _ => rfl, fun q => absurd q (by decide), fun q hq => absurd hq (Nat.not_lt_zero q)⟩ s_lw_ok
  rw [show s_tx 74 s_lw 3 0 0 [] (fun _ => 0) = s_txt 74 s_lw from rfl] at ok
  unfold s_X0 s_E0 s_txX s_txE
  simp only [if_pos s_lw_G]
  generalize s_txt 74 s_lw = tt at *
  obtain ⟨o1, o2, -, o3, o4⟩ := ok
  refine ⟨by decide, by decide, fun t ht => ?_⟩
  have et : t = 0 := by omega
  subst et
  have nx : ∀ q, q < 3 → s_nx 3 tt.2.2.1 tt.2.2.2 q = tt.2.2.2 (q + 1) := fun q hq => by
    unfold s_nx
    by_cases e : q + 1 = 3
    · rw [if_pos e, e, o2]
    · rw [if_neg e]
  have s0 := o4 0 (by decide)
  have s1 := o4 1 (by decide)
  have s2 := o4 2 (by decide)
  rw [nx 0 (by decide)] at s0
  rw [nx 1 (by decide)] at s1
  rw [nx 2 (by decide)] at s2
  unfold WFT
  simp only [if_true]
  refine ⟨o3 (by decide), s0.1, s1.1, s2.1, by rw [o2]; omega, fun p hp nm => ?_⟩
  have s := (o4 p hp).2.2
  rw [nx p hp] at s
  have e : s_L (fun t_1 k => if t_1 = 0 then tt.2.2.1.getD k 0 else 0) (fun t_1 p => if t_1 = 0 then tt.2.2.2 p else 0) 0 p = s_cs (fun k => tt.2.2.1.getD k 0) (tt.2.2.2 p) (tt.2.2.2 (p + 1) - tt.2.2.2 p) := by
    unfold s_L
    simp only [if_true]
  rw [e]
  exact EV_1 s nm
theorem WH_X0 (p : Nat → Nat) : WH 0 s_B0 p 1 0 s_X0 s_E0 := ⟨⟨by decide, fun i hi => absurd hi (Nat.not_lt_zero i)⟩, WFL_X0, fun i hi => absurd hi (Nat.not_lt_zero i), fun i j hi => absurd hi (Nat.not_lt_zero i)⟩
theorem IV_0 {h h1 h2 h4 h5 : AH} (x0 : h.1 10 = some (5, 0)) (xs : ∀ b, 11 ≤ b → b < 100 → h.1 b = none) (s3 : h.1 3 = some (60, 1)) (O1 : OU (fun b => b = 12) h h1) (z1 : h1.2.1 12 0 = 0) (O2 : OU (fun b => b = 12 ∨ (b = 19 ∨ b = 20)) h1 h2) (d2 : h2.1 12 = some (3, 0) ∧ h2.2.2 12 1 = some 19 ∧ h2.2.2 12 6 = some 20 ∧ h2.1 19 = some (50, 160) ∧ h2.1 20 = some (50, 160)) (e2 : h2.2.1 12 = h1.2.1 12) (n4 : NW 10 2 13 (51, 6) (ax_setR h2 10 1 (some 12)) h4) (n5 : NW 10 3 14 (52, 4) h4 h5) : IV 0 0 h (ax_setI (ax_setI (ax_setI h5 10 4 1) 10 5 0) 10 6 (-1)) := by
  have OA : OU (fun b => b = 12 ∨ (b = 19 ∨ b = 20)) h h2 := OU_tr (OU_mo O1 (fun b q => Or.inl q)) O2
  have OB : OU (fun b => 10 ≤ b ∧ b < 100) h (ax_setI (ax_setI (ax_setI h5 10 4 1) 10 5 0) 10 6 (-1)) := OU_tr (OU_tr (OU_tr (OU_tr (OU_tr (OU_tr (OU_mo OA (fun b q => by omega)) (OU_mo (OU_R h2 10 1 (some 12)) (fun b q => by omega))) (OU_mo (NW_OU n4) (fun b q => by omega))) (OU_mo (NW_OU n5) (fun b q => by omega))) (OU_mo (OU_I h5 10 4 1) (fun b q => by omega))) (OU_mo (OU_I _ 10 5 0) (fun b q => by omega))) (OU_mo (OU_I _ 10 6 (-1)) (fun b q => by omega))
  have q10 : h2.1 10 = some (5, 0) := by rw [(OA 10 (by omega)).1]; exact x0
  have q3 : h2.1 3 = some (60, 1) := by rw [(OA 3 (by omega)).1]; exact s3
  have f1 : ∀ b, (ax_setI (ax_setI (ax_setI h5 10 4 1) 10 5 0) 10 6 (-1)).1 b = if b = 14 then some (52, 4) else if b = 13 then some (51, 6) else h2.1 b := fun b => by
    show h5.1 b = _
    rw [n5.1, n4.1]
    rfl
  have f2 : ∀ b j, (ax_setI (ax_setI (ax_setI h5 10 4 1) 10 5 0) 10 6 (-1)).2.2 b j = if b = 10 ∧ j = 3 then some 14 else if b = 14 then none else if b = 10 ∧ j = 2 then some 13 else if b = 13 then none else if b = 10 ∧ j = 1 then some 12 else h2.2.2 b j := fun b j => by
    show h5.2.2 b j = _
    rw [n5.2.2, n4.2.2, setR_in]
  have f3 : ∀ b j, (ax_setI (ax_setI (ax_setI h5 10 4 1) 10 5 0) 10 6 (-1)).2.1 b j = if b = 10 ∧ j = 6 then -1 else if b = 10 ∧ j = 5 then 0 else if b = 10 ∧ j = 4 then 1 else h5.2.1 b j := fun b j => by
    rw [setI_at, setI_at, setI_at]
  have q12 : h5.2.1 12 0 = 0 := by
    rw [n5.2.1, if_neg (by decide), n4.2.1, if_neg (by decide)]
    show h2.2.1 12 0 = 0
    rw [e2]
    exact z1
  generalize ax_setI (ax_setI (ax_setI h5 10 4 1) 10 5 0) 10 6 (-1) = h6 at *
  refine ⟨OB, ⟨?_, ?_, ?_, ?_, ?_, ?_, ?_, ?_, ?_⟩, ⟨?_, ?_, ?_, ?_, ?_, ?_⟩, ?_, fun b hb => ?_, fun k hk => absurd hk (Nat.not_lt_zero k), fun k hk => absurd hk (Nat.not_lt_zero k)⟩
  · rw [f1, if_neg (by decide), if_neg (by decide)]; exact q10
  · rw [f2, if_neg (by decide), if_neg (by decide), if_neg (by decide), if_neg (by decide), if_pos (by decide)]
  · rw [f2, if_neg (by decide), if_neg (by decide), if_pos (by decide)]
  · rw [f2, if_pos (by decide)]
  · rw [f1, if_neg (by decide), if_pos rfl]
  · rw [f1, if_pos rfl]
  · rw [f3, if_neg (by decide), if_neg (by decide), if_pos (by decide)]
  · rw [f3, if_neg (by decide), if_pos (by decide)]
  · rw [f3, if_pos (by decide)]
  · rw [f1, if_neg (by decide), if_neg (by decide)]; exact d2.1
  · rw [f2, if_neg (by decide), if_neg (by decide), if_neg (by decide), if_neg (by decide), if_neg (by decide)]; exact d2.2.1
  · rw [f2, if_neg (by decide), if_neg (by decide), if_neg (by decide), if_neg (by decide), if_neg (by decide)]; exact d2.2.2.1
  · rw [f1, if_neg (by decide), if_neg (by decide)]; exact d2.2.2.2.1
  · rw [f1, if_neg (by decide), if_neg (by decide)]; exact d2.2.2.2.2
  · rw [f1, if_neg (by decide), if_neg (by decide)]; exact q3
  · rw [f3, if_neg (by decide), if_neg (by decide), if_neg (by decide)]; exact q12
  · rw [f1, if_neg (by omega), if_neg (by omega), (OA b (by omega)).1]
    exact xs b (by omega) (by omega)
theorem IV_fin {tb p : Nat → Nat} {h g g3 g5 : AH} (I : IV 6 4 h g) (F : FX (fun b k => b = 19 ∨ PR0 30 b k) g g3) (q0 : g3.2.1 12 0 = 0) (hl : LC 30 (s_X0 0) (s_E0 0) g3) (O : OU (fun b => b = 11 ∨ (15 ≤ b ∧ b ≤ 18)) g3 g5) (H : g5.1 11 = some (1, 0) ∧ g5.2.2 11 0 = some 30 ∧ g5.2.2 11 3 = some 15 ∧ g5.2.2 11 4 = some 16 ∧ g5.2.2 11 5 = some 17 ∧ g5.2.2 11 6 = some 18 ∧ g5.1 15 = some (53, 10) ∧ g5.1 16 = some (53, 4) ∧ g5.1 17 = some (53, 4) ∧ g5.1 18 = some (50, 400)) (H2 : ∀ k, g5.2.1 11 k = 0) : OU (fun b => 10 ≤ b ∧ b < 100) h (ax_setR g5 10 0 (some 11)) ∧ XX 0 s_B0 p 1 0 s_X0 s_E0 (ax_setR g5 10 0 (some 11)) ∧ SXs s_z0 (ax_setR g5 10 0 (some 11)) ∧ RXT 0 tb (ax_setR g5 10 0 (some 11)) ∧ LOA (ax_setR g5 10 0 (some 11)) ∧ XI s_I0 p (ax_setR g5 10 0 (some 11)) := by
  obtain ⟨i1, ⟨m1, m2, m3, m4, m5, m6, m7, m8, m9⟩, i3, i4, i5, i6, i7⟩ := I
  have OR := OU_R g5 10 0 (some 11)
  have r10 : ∀ j, (ax_setR g5 10 0 (some 11)).2.2 10 j = if j = 0 then some 11 else g5.2.2 10 j := fun j => by
    rw [setR_in]
    by_cases e : j = 0
    · rw [if_pos ⟨rfl, e⟩, if_pos e]
    · rw [if_neg (fun z => e z.2), if_neg e]
  have x10 : (ax_setR g5 10 0 (some 11)).1 10 = g5.1 10 := rfl
  have t10 : (ax_setR g5 10 0 (some 11)).2.1 = g5.2.1 := rfl
  have OF : OU (fun b => b = 19 ∨ (b = 12 ∨ (b = 20 ∨ (b = 30 ∨ (b = 31 ∨ b = 33))))) g g3 := OU_mo (OU_FX F) (fun b ⟨k, q⟩ => by unfold PR0 at q; omega)
  generalize ax_setR g5 10 0 (some 11) = g6 at *
  have OG : OU (fun b => (b = 10 ∨ (b = 11 ∨ (15 ≤ b ∧ b ≤ 18))) ∨ (b = 19 ∨ (b = 12 ∨ (b = 20 ∨ (b = 30 ∨ (b = 31 ∨ b = 33)))))) g g6 := OU_tr (OU_tr (OU_mo OF (fun b q => Or.inr q)) (OU_mo O (fun b q => Or.inl (Or.inr q)))) (OU_mo OR (fun b q => Or.inl (Or.inl q)))
  have OH : OU (fun b => b = 10 ∨ (b = 11 ∨ (15 ≤ b ∧ b ≤ 18))) g3 g6 := OU_tr (OU_mo O (fun b q => Or.inr q)) (OU_mo OR (fun b q => Or.inl q))
  have o10 := O 10 (by omega)
  have p10 := OF 10 (by omega)
  have los : ∀ t, t < 6 → LO (30 + 8 * t) g6 := fun t ht => LO_OU OH (fun k hk => by omega) (LO_FX F (i6 t ht).2)
  have ck : ∀ j, j ≠ 0 → g6.2.2 10 j = g.2.2 10 j := fun j hj => by rw [r10, if_neg hj, o10.2.2, p10.2.2]
  have ct : ∀ j, g6.2.1 10 j = g.2.1 10 j := fun j => by rw [t10, o10.2.1, p10.2.1]
  obtain ⟨k1, k2, k3, k4, k5, k6, k7, k8, k9, ka⟩ := H
  refine ⟨OU_tr i1 (OU_mo OG (fun b q => by omega)), ⟨⟨?_, ?_, ?_, ?_, ?_, ?_, ?_, ?_, ?_, fun t ht => ?_, fun s hs => ?_⟩, ⟨?_, ?_, ?_, ?_, ?_, ?_, ?_, ?_, ?_, ?_, ?_, fun i hi => absurd hi (Nat.not_lt_zero i)⟩, fun i hi => absurd hi (Nat.not_lt_zero i), fun t ht => ?_⟩, fun s hs => ?_, ⟨RDO_OU OH (by omega) (by omega) (by omega) (by omega) (RDO_FX F i3), ?_, fun i hi => absurd hi (Nat.not_lt_zero i)⟩, los, ⟨?_, fun q => (by cases q)⟩⟩
  · rw [x10, o10.1, p10.1]; exact m1
  · rw [r10, if_pos rfl]
  · rw [ck 1 (by decide)]; exact m2
  · rw [ck 2 (by decide)]; exact m3
  · rw [ck 3 (by decide)]; exact m4
  · rw [(OG 13 (by omega)).1]; exact m5
  · rw [(OG 14 (by omega)).1]; exact m6
  · rw [ct]; exact m7
  · rw [ct]; exact m8
  · rw [(OG 13 (by omega)).2.2]; exact (i6 t ht).1
  · rw [(OG 14 (by omega)).2.2]; exact (i7 s hs).1
  · rw [(OR 11 (by omega)).1]; exact k1
  · rw [(OR 11 (by omega)).2.2]; exact k2
  · rw [(OR 11 (by omega)).2.2]; exact k3
  · rw [(OR 11 (by omega)).2.2]; exact k4
  · rw [(OR 11 (by omega)).2.2]; exact k5
  · rw [(OR 11 (by omega)).2.2]; exact k6
  · rw [(OR 15 (by omega)).1]; exact k7
  · rw [(OR 16 (by omega)).1]; exact k8
  · rw [(OR 17 (by omega)).1]; exact k9
  · rw [(OR 18 (by omega)).1]; exact ka
  · rw [(OR 11 (by omega)).2.1]; exact H2 1
  · have et : t = 0 := by omega
    subst et
    refine ⟨los 0 (by decide), ?_⟩
    show LC 30 (s_X0 0) (s_E0 0) g6
    unfold LC at hl ⊢
    rw [(OH 33 (by omega)).2.1, (OH 31 (by omega)).2.1]
    exact hl
  · obtain ⟨-, l2, l3, l4, l5⟩ := i7 s hs
    have o0 := OG (80 + 2 * s) (by omega)
    have o1 := OG (81 + 2 * s) (by omega)
    unfold SO at l2 ⊢
    rw [o0.1, o0.2.1, o0.2.2, o1.1, o1.2.1]
    exact ⟨l2, l3, l4, fun k _ => l5 k⟩
  · rw [(OH 12 (by omega)).2.1]; exact q0
  · rw [ct]; exact m9
section XIT
variable {G : AG} {h : AH}
set_option maxRecDepth 100000 in
set_option maxHeartbeats 400000 in
theorem i_X6_init_t {t rc rs : Nat} {Q : Option Value → AH → Prop} {h0 h1 : AH} (hr1 : 5 ≤ rc) (hr2 : 334 ≤ rs) (ht : t < 6) (I : IV t 0 h0 h1) (fin : ∀ h2, IV (t + 1) 0 h0 h2 → AW G 5 2 true cX6_init (Option.none : Option FieldType) 10 Q (rc - 5) (rs - 334) 49 [(0, .ref 10), (1, .int (nI (t + 1)))] [] h2) : AW G 5 2 true cX6_init (Option.none : Option FieldType) 10 Q rc rs 49 [(0, .ref 10), (1, .int (nI t))] [] h1 := by
  have M := I.2.1
  have no := I.2.2.2.2.1
  have ge : (Int32.ofNat 6 ≤ nI t) = False := eq_false (nI_ge (b := 6) (by omega) (by decide))
  have hc : (nI t).toNatClampNeg = t := nI_clamp (by omega)
  have hin : vp_in (nI t) 6 := vp_in_nI (by omega) (by decide)
  have i5 := no (30 + 8 * t) (by omega)
  have l1 : (1 ≤ rc) = True := eq_true (by omega)
  have l2 : (5 ≤ rs) = True := eq_true (by omega)
  have e1 : rc - 1 - 4 = rc - 5 := by omega
  have e2 : rs - 5 - 329 = rs - 334 := by omega
  refine ax_wq_ok (cuts := [ 49, 66, 77]) 60 ?_
  (simp only [lv_args, fn0, fn1, fn2, fn3, ax_wq_s, ax_step2, ax_ins2_u, ax_ins, ax_nx, ax_cut, ax_lk, ax_st1, ax_st2, ax_ins0, ax_tg, ax_go, ax_sw2, ax_lsw2, ax_kc_s, ax_kc_n, ax_rf_rf, ax_isR_rf, ct_int, ct_long, ct_ref, ct_null, ct_rf, rf_ref, rf_null, isR_ref, isR_null, va_rf_s, va_rf_n, gv_0, gv_1, gv_2, pv_i, pv_r, pv_n, pv_q, pk_0, pk_2, pk_2n, pk_2q, pk_10, pk_11, rok_i, rok_z0, rok_z1, ex_eq, ex_z, ex_z2, ex_cz, List.filter_cons, List.filter_nil, List.take_succ_cons, List.take_zero, List.drop_succ_cons, List.drop_zero, List.reverse_cons, List.reverse_nil, List.nil_append, List.cons_append, List.append_nil, List.length_cons, List.length_nil, List.map_cons, List.map_nil, List.sum_cons, List.sum_nil, Bool.not_true, Bool.not_false, Bool.and_true, Bool.true_and, Bool.and_false, Bool.false_and, Bool.or_false, Bool.false_or, Bool.true_or, Bool.or_true, beq_self_eq_true, Nat.reduceBEq, Nat.reduceAdd, Nat.reduceSub, Nat.reduceLT, Nat.reduceLeDiff, Nat.reduceEqDiff, Int.reduceAdd, Int.reduceNeg, Int.reduceToNat, Int.reduceLE, Int.reduceNatCast, Int.reduceNatCast', ↓reduceIte, if_true, if_false, true_and, and_true, false_and, and_false, true_or, or_true, false_or, or_false, Nat.sub_zero, Nat.le_refl, Bool.false_eq_true, Bool.true_eq_false, false_implies, true_implies, implies_true, not_true_eq_false, not_false_eq_true, eq_self, Fin.isValue, Nat.zero_add, Nat.add_zero, and_self, ne_eq, b01, Int32.reduceLT, Int32.reduceLE, z32, z64, vl_0, tl_0, vl_1, tl_1, vl_2, tl_2, vl_3, tl_3, vl_4, tl_4, vl_5, tl_5, vl_6, tl_6, vl_7, tl_7, vl_8, tl_8, vl_9, tl_9, Int.reduceSub, Int.reduceEq, Int.reduceLT, reduceCtorEq, ro_obj, m_X6_init, dX6_init_49, dX6_init_50, dX6_init_51, fl_5_18, dX6_init_54, dX6_init_55, dX6_init_58, dX6_init_59, dX6_init_62, dX6_init_63, kl_5_16, M, ge, aN_2, l1, l2]; try simp only [ax_ife, if_true, if_false, true_implies, implies_true, false_implies, and_true, true_and, not_true_eq_false, not_false_eq_true])
  first | refine ⟨30 + 8 * t, i5, ?_⟩ | refine ⟨30 + 8 * t, i5, by omega, by omega, ?_⟩
  have O1 := OU_new h1 (30 + 8 * t) (2, 0)
  have z1 : (ax_new h1 (30 + 8 * t) (2, 0)).1 (30 + 8 * t) = some (2, 0) := by rw [new_1, if_pos rfl]
  have zs : ∀ k, 1 ≤ k → k ≤ 4 → (ax_new h1 (30 + 8 * t) (2, 0)).1 (30 + 8 * t + k) = none := fun k a b => by
    rw [new_1, if_neg (by omega)]
    exact no _ (by omega)
  generalize ax_new h1 (30 + 8 * t) (2, 0) = h2 at O1 z1 zs ⊢
  refine ax_wq_ok (cuts := [ 49]) 30 ?_
  (simp only [lv_args, fn0, fn1, fn2, fn3, ax_wq_s, ax_step2, ax_ins2_u, ax_ins, ax_nx, ax_cut, ax_lk, ax_st1, ax_st2, ax_ins0, ax_tg, ax_go, ax_sw2, ax_lsw2, ax_kc_s, ax_kc_n, ax_rf_rf, ax_isR_rf, ct_int, ct_long, ct_ref, ct_null, ct_rf, rf_ref, rf_null, isR_ref, isR_null, va_rf_s, va_rf_n, gv_0, gv_1, gv_2, pv_i, pv_r, pv_n, pv_q, pk_0, pk_2, pk_2n, pk_2q, pk_10, pk_11, rok_i, rok_z0, rok_z1, ex_eq, ex_z, ex_z2, ex_cz, List.filter_cons, List.filter_nil, List.take_succ_cons, List.take_zero, List.drop_succ_cons, List.drop_zero, List.reverse_cons, List.reverse_nil, List.nil_append, List.cons_append, List.append_nil, List.length_cons, List.length_nil, List.map_cons, List.map_nil, List.sum_cons, List.sum_nil, Bool.not_true, Bool.not_false, Bool.and_true, Bool.true_and, Bool.and_false, Bool.false_and, Bool.or_false, Bool.false_or, Bool.true_or, Bool.or_true, beq_self_eq_true, Nat.reduceBEq, Nat.reduceAdd, Nat.reduceSub, Nat.reduceLT, Nat.reduceLeDiff, Nat.reduceEqDiff, Int.reduceAdd, Int.reduceNeg, Int.reduceToNat, Int.reduceLE, Int.reduceNatCast, Int.reduceNatCast', ↓reduceIte, if_true, if_false, true_and, and_true, false_and, and_false, true_or, or_true, false_or, or_false, Nat.sub_zero, Nat.le_refl, Bool.false_eq_true, Bool.true_eq_false, false_implies, true_implies, implies_true, not_true_eq_false, not_false_eq_true, eq_self, Fin.isValue, Nat.zero_add, Nat.add_zero, and_self, ne_eq, b01, Int32.reduceLT, Int32.reduceLE, z32, z64, vl_0, tl_0, vl_1, tl_1, vl_2, tl_2, vl_3, tl_3, vl_4, tl_4, vl_5, tl_5, vl_6, tl_6, vl_7, tl_7, vl_8, tl_8, vl_9, tl_9, Int.reduceSub, Int.reduceEq, Int.reduceLT, reduceCtorEq, ro_obj, m_X6_init, dX6_init_66, dX6_init_67, cl_5_38, z1]; try simp only [ax_ife, if_true, if_false, true_implies, implies_true, false_implies, and_true, true_and, not_true_eq_false, not_false_eq_true])
  refine ax_c0B (c_X2_init z1 zs) (by decide) (by omega) (by omega) (fun h3 ⟨O3, L3⟩ => ?_)
  have OO : OU (fun b => 30 + 8 * t ≤ b ∧ b ≤ 30 + 8 * t + 4) h1 h3 := OU_tr (OU_mo O1 (fun b q => by omega)) O3
  have x13 : h3.1 13 = some (51, 6) := by rw [(OO 13 (by omega)).1]; exact M.2.2.2.2.1
  have xy : h3.1 (30 + 8 * t) = some (2, 0) := L3.1
  have g := fin _ (IV_t I ht OO L3)
  (simp only [lv_args, fn0, fn1, fn2, fn3, ax_wq_s, ax_step2, ax_ins2_u, ax_ins, ax_nx, ax_cut, ax_lk, ax_st1, ax_st2, ax_ins0, ax_tg, ax_go, ax_sw2, ax_lsw2, ax_kc_s, ax_kc_n, ax_rf_rf, ax_isR_rf, ct_int, ct_long, ct_ref, ct_null, ct_rf, rf_ref, rf_null, isR_ref, isR_null, va_rf_s, va_rf_n, gv_0, gv_1, gv_2, pv_i, pv_r, pv_n, pv_q, pk_0, pk_2, pk_2n, pk_2q, pk_10, pk_11, rok_i, rok_z0, rok_z1, ex_eq, ex_z, ex_z2, ex_cz, List.filter_cons, List.filter_nil, List.take_succ_cons, List.take_zero, List.drop_succ_cons, List.drop_zero, List.reverse_cons, List.reverse_nil, List.nil_append, List.cons_append, List.append_nil, List.length_cons, List.length_nil, List.map_cons, List.map_nil, List.sum_cons, List.sum_nil, Bool.not_true, Bool.not_false, Bool.and_true, Bool.true_and, Bool.and_false, Bool.false_and, Bool.or_false, Bool.false_or, Bool.true_or, Bool.or_true, beq_self_eq_true, Nat.reduceBEq, Nat.reduceAdd, Nat.reduceSub, Nat.reduceLT, Nat.reduceLeDiff, Nat.reduceEqDiff, Int.reduceAdd, Int.reduceNeg, Int.reduceToNat, Int.reduceLE, Int.reduceNatCast, Int.reduceNatCast', ↓reduceIte, if_true, if_false, true_and, and_true, false_and, and_false, true_or, or_true, false_or, or_false, Nat.sub_zero, Nat.le_refl, Bool.false_eq_true, Bool.true_eq_false, false_implies, true_implies, implies_true, not_true_eq_false, not_false_eq_true, eq_self, Fin.isValue, Nat.zero_add, Nat.add_zero, and_self, ne_eq, b01, Int32.reduceLT, Int32.reduceLE, z32, z64, vl_0, tl_0, vl_1, tl_1, vl_2, tl_2, vl_3, tl_3, vl_4, tl_4, vl_5, tl_5, vl_6, tl_6, vl_7, tl_7, vl_8, tl_8, vl_9, tl_9, Int.reduceSub, Int.reduceEq, Int.reduceLT, reduceCtorEq, ro_obj, m_X6_init, dX6_init_70, dX6_init_71, ki_1, dX6_init_74, x13, xy, hc, hin, fa_eq, ec_51, nI_1, e1, e2]; try simp only [ax_ife, if_true, if_false, true_implies, implies_true, false_implies, and_true, true_and, not_true_eq_false, not_false_eq_true])
  exact g
set_option maxRecDepth 100000 in
set_option maxHeartbeats 400000 in
theorem i_X6_init_s {s rc rs : Nat} {Q : Option Value → AH → Prop} {h0 h1 : AH} (hr1 : 2 ≤ rc) (hr2 : 43 ≤ rs) (hs : s < 4) (I : IV 6 s h0 h1) (fin : ∀ h2, IV 6 (s + 1) h0 h2 → AW G 5 2 true cX6_init (Option.none : Option FieldType) 10 Q (rc - 2) (rs - 43) 79 [(0, .ref 10), (1, .int (nI (s + 1)))] [] h2) : AW G 5 2 true cX6_init (Option.none : Option FieldType) 10 Q rc rs 79 [(0, .ref 10), (1, .int (nI s))] [] h1 := by
  have M := I.2.1
  have no := I.2.2.2.2.1
  have ge : (Int32.ofNat 4 ≤ nI s) = False := eq_false (nI_ge (b := 4) (by omega) (by decide))
  have hc : (nI s).toNatClampNeg = s := nI_clamp (by omega)
  have hin : vp_in (nI s) 4 := vp_in_nI (by omega) (by decide)
  have i5 := no (80 + 2 * s) (by omega)
  have l1 : (1 ≤ rc) = True := eq_true (by omega)
  have l2 : (3 ≤ rs) = True := eq_true (by omega)
  have e1 : rc - 1 - 1 = rc - 2 := by omega
  have e2 : rs - 3 - 40 = rs - 43 := by omega
  refine ax_wq_ok (cuts := [ 79, 96, 107]) 60 ?_
  (simp only [lv_args, fn0, fn1, fn2, fn3, ax_wq_s, ax_step2, ax_ins2_u, ax_ins, ax_nx, ax_cut, ax_lk, ax_st1, ax_st2, ax_ins0, ax_tg, ax_go, ax_sw2, ax_lsw2, ax_kc_s, ax_kc_n, ax_rf_rf, ax_isR_rf, ct_int, ct_long, ct_ref, ct_null, ct_rf, rf_ref, rf_null, isR_ref, isR_null, va_rf_s, va_rf_n, gv_0, gv_1, gv_2, pv_i, pv_r, pv_n, pv_q, pk_0, pk_2, pk_2n, pk_2q, pk_10, pk_11, rok_i, rok_z0, rok_z1, ex_eq, ex_z, ex_z2, ex_cz, List.filter_cons, List.filter_nil, List.take_succ_cons, List.take_zero, List.drop_succ_cons, List.drop_zero, List.reverse_cons, List.reverse_nil, List.nil_append, List.cons_append, List.append_nil, List.length_cons, List.length_nil, List.map_cons, List.map_nil, List.sum_cons, List.sum_nil, Bool.not_true, Bool.not_false, Bool.and_true, Bool.true_and, Bool.and_false, Bool.false_and, Bool.or_false, Bool.false_or, Bool.true_or, Bool.or_true, beq_self_eq_true, Nat.reduceBEq, Nat.reduceAdd, Nat.reduceSub, Nat.reduceLT, Nat.reduceLeDiff, Nat.reduceEqDiff, Int.reduceAdd, Int.reduceNeg, Int.reduceToNat, Int.reduceLE, Int.reduceNatCast, Int.reduceNatCast', ↓reduceIte, if_true, if_false, true_and, and_true, false_and, and_false, true_or, or_true, false_or, or_false, Nat.sub_zero, Nat.le_refl, Bool.false_eq_true, Bool.true_eq_false, false_implies, true_implies, implies_true, not_true_eq_false, not_false_eq_true, eq_self, Fin.isValue, Nat.zero_add, Nat.add_zero, and_self, ne_eq, b01, Int32.reduceLT, Int32.reduceLE, z32, z64, vl_0, tl_0, vl_1, tl_1, vl_2, tl_2, vl_3, tl_3, vl_4, tl_4, vl_5, tl_5, vl_6, tl_6, vl_7, tl_7, vl_8, tl_8, vl_9, tl_9, Int.reduceSub, Int.reduceEq, Int.reduceLT, reduceCtorEq, ro_obj, m_X6_init, dX6_init_79, dX6_init_80, dX6_init_81, fl_5_24, dX6_init_84, dX6_init_85, dX6_init_88, dX6_init_89, dX6_init_92, dX6_init_93, kl_5_22, M, ge, aN_4, l1, l2]; try simp only [ax_ife, if_true, if_false, true_implies, implies_true, false_implies, and_true, true_and, not_true_eq_false, not_false_eq_true])
  first | refine ⟨80 + 2 * s, i5, ?_⟩ | refine ⟨80 + 2 * s, i5, by omega, by omega, ?_⟩
  have O1 := OU_new h1 (80 + 2 * s) (4, 0)
  have z1 : (ax_new h1 (80 + 2 * s) (4, 0)).1 (80 + 2 * s) = some (4, 0) := by rw [new_1, if_pos rfl]
  have z2 : (ax_new h1 (80 + 2 * s) (4, 0)).2.1 (80 + 2 * s) 1 = 0 := by rw [new_21, if_pos rfl]
  have zs : (ax_new h1 (80 + 2 * s) (4, 0)).1 (80 + 2 * s + 1) = none := by
    rw [new_1, if_neg (by omega)]
    exact no _ (by omega)
  generalize ax_new h1 (80 + 2 * s) (4, 0) = h2 at O1 z1 z2 zs ⊢
  have cx := c_X4_init (G := G) z1 zs
  rw [show 80 + 2 * s + 1 = 81 + 2 * s by omega] at cx
  refine ax_wq_ok (cuts := [ 79]) 30 ?_
  (simp only [lv_args, fn0, fn1, fn2, fn3, ax_wq_s, ax_step2, ax_ins2_u, ax_ins, ax_nx, ax_cut, ax_lk, ax_st1, ax_st2, ax_ins0, ax_tg, ax_go, ax_sw2, ax_lsw2, ax_kc_s, ax_kc_n, ax_rf_rf, ax_isR_rf, ct_int, ct_long, ct_ref, ct_null, ct_rf, rf_ref, rf_null, isR_ref, isR_null, va_rf_s, va_rf_n, gv_0, gv_1, gv_2, pv_i, pv_r, pv_n, pv_q, pk_0, pk_2, pk_2n, pk_2q, pk_10, pk_11, rok_i, rok_z0, rok_z1, ex_eq, ex_z, ex_z2, ex_cz, List.filter_cons, List.filter_nil, List.take_succ_cons, List.take_zero, List.drop_succ_cons, List.drop_zero, List.reverse_cons, List.reverse_nil, List.nil_append, List.cons_append, List.append_nil, List.length_cons, List.length_nil, List.map_cons, List.map_nil, List.sum_cons, List.sum_nil, Bool.not_true, Bool.not_false, Bool.and_true, Bool.true_and, Bool.and_false, Bool.false_and, Bool.or_false, Bool.false_or, Bool.true_or, Bool.or_true, beq_self_eq_true, Nat.reduceBEq, Nat.reduceAdd, Nat.reduceSub, Nat.reduceLT, Nat.reduceLeDiff, Nat.reduceEqDiff, Int.reduceAdd, Int.reduceNeg, Int.reduceToNat, Int.reduceLE, Int.reduceNatCast, Int.reduceNatCast', ↓reduceIte, if_true, if_false, true_and, and_true, false_and, and_false, true_or, or_true, false_or, or_false, Nat.sub_zero, Nat.le_refl, Bool.false_eq_true, Bool.true_eq_false, false_implies, true_implies, implies_true, not_true_eq_false, not_false_eq_true, eq_self, Fin.isValue, Nat.zero_add, Nat.add_zero, and_self, ne_eq, b01, Int32.reduceLT, Int32.reduceLE, z32, z64, vl_0, tl_0, vl_1, tl_1, vl_2, tl_2, vl_3, tl_3, vl_4, tl_4, vl_5, tl_5, vl_6, tl_6, vl_7, tl_7, vl_8, tl_8, vl_9, tl_9, Int.reduceSub, Int.reduceEq, Int.reduceLT, reduceCtorEq, ro_obj, m_X6_init, dX6_init_96, dX6_init_97, cl_5_39, z1]; try simp only [ax_ife, if_true, if_false, true_implies, implies_true, false_implies, and_true, true_and, not_true_eq_false, not_false_eq_true])
  refine ax_c0B cx (by decide) (by omega) (by omega) (fun h3 ⟨O3, L3, y0, y1, y2⟩ => ?_)
  have OO : OU (fun b => b = 80 + 2 * s ∨ b = 81 + 2 * s) h1 h3 := OU_tr (OU_mo O1 (fun b q => Or.inl q)) O3
  have x14 : h3.1 14 = some (52, 4) := by rw [(OO 14 (by omega)).1]; exact M.2.2.2.2.2.1
  have xy : h3.1 (80 + 2 * s) = some (4, 0) := L3.1
  have g := fin _ (IV_s I hs OO L3 y0 (y1.trans z2) y2)
  (simp only [lv_args, fn0, fn1, fn2, fn3, ax_wq_s, ax_step2, ax_ins2_u, ax_ins, ax_nx, ax_cut, ax_lk, ax_st1, ax_st2, ax_ins0, ax_tg, ax_go, ax_sw2, ax_lsw2, ax_kc_s, ax_kc_n, ax_rf_rf, ax_isR_rf, ct_int, ct_long, ct_ref, ct_null, ct_rf, rf_ref, rf_null, isR_ref, isR_null, va_rf_s, va_rf_n, gv_0, gv_1, gv_2, pv_i, pv_r, pv_n, pv_q, pk_0, pk_2, pk_2n, pk_2q, pk_10, pk_11, rok_i, rok_z0, rok_z1, ex_eq, ex_z, ex_z2, ex_cz, List.filter_cons, List.filter_nil, List.take_succ_cons, List.take_zero, List.drop_succ_cons, List.drop_zero, List.reverse_cons, List.reverse_nil, List.nil_append, List.cons_append, List.append_nil, List.length_cons, List.length_nil, List.map_cons, List.map_nil, List.sum_cons, List.sum_nil, Bool.not_true, Bool.not_false, Bool.and_true, Bool.true_and, Bool.and_false, Bool.false_and, Bool.or_false, Bool.false_or, Bool.true_or, Bool.or_true, beq_self_eq_true, Nat.reduceBEq, Nat.reduceAdd, Nat.reduceSub, Nat.reduceLT, Nat.reduceLeDiff, Nat.reduceEqDiff, Int.reduceAdd, Int.reduceNeg, Int.reduceToNat, Int.reduceLE, Int.reduceNatCast, Int.reduceNatCast', ↓reduceIte, if_true, if_false, true_and, and_true, false_and, and_false, true_or, or_true, false_or, or_false, Nat.sub_zero, Nat.le_refl, Bool.false_eq_true, Bool.true_eq_false, false_implies, true_implies, implies_true, not_true_eq_false, not_false_eq_true, eq_self, Fin.isValue, Nat.zero_add, Nat.add_zero, and_self, ne_eq, b01, Int32.reduceLT, Int32.reduceLE, z32, z64, vl_0, tl_0, vl_1, tl_1, vl_2, tl_2, vl_3, tl_3, vl_4, tl_4, vl_5, tl_5, vl_6, tl_6, vl_7, tl_7, vl_8, tl_8, vl_9, tl_9, Int.reduceSub, Int.reduceEq, Int.reduceLT, reduceCtorEq, ro_obj, m_X6_init, dX6_init_100, dX6_init_101, ki_1, dX6_init_104, x14, xy, hc, hin, fa_eq, ec_52, nI_1, e1, e2]; try simp only [ax_ife, if_true, if_false, true_implies, implies_true, false_implies, and_true, true_and, not_true_eq_false, not_false_eq_true])
  exact g
set_option maxRecDepth 100000 in
set_option maxHeartbeats 400000 in
theorem i_X6_init_e {tb p : Nat → Nat} {h g : AH} (I : IV 6 4 h g) (s2 : h.1 2 = some (60, 0)) : AW G 5 2 true cX6_init (Option.none : Option FieldType) 10 (fun v h' => v = none ∧ OU (fun b => 10 ≤ b ∧ b < 100) h h' ∧ XX 0 s_B0 p 1 0 s_X0 s_E0 h' ∧ SXs s_z0 h' ∧ RXT 0 tb h' ∧ LOA h' ∧ XI s_I0 p h') 5 425 79 [(0, .ref 10), (1, .int (nI 4))] [] g := by
  have M := I.2.1
  have s2g : g.1 2 = some (60, 0) := by rw [(I.1 2 (by omega)).1]; exact s2
  have ge : (Int32.ofNat 4 ≤ nI 4) = True := eq_true (by decide)
  have RT : RXT 0 tb g := ⟨I.2.2.1, I.2.2.2.1, fun i hi => absurd hi (Nat.not_lt_zero i)⟩
  have mr := I.2.2.1
  unfold RDO at mr
  have v6 : vp_in (0 : Int32) 6 = True := eq_true (show vp_in (nI 0) 6 from vp_in_nI (by decide) (by decide))
  have k0 : g.2.2 13 0 = some 30 := (I.2.2.2.2.2.1 0 (by decide)).1
  have lo : LO 30 g := (I.2.2.2.2.2.1 0 (by decide)).2
  refine ax_wq_ok (cuts := [ 113]) 30 ?_
  (simp only [lv_args, fn0, fn1, fn2, fn3, ax_wq_s, ax_step2, ax_ins2_u, ax_ins, ax_nx, ax_cut, ax_lk, ax_st1, ax_st2, ax_ins0, ax_tg, ax_go, ax_sw2, ax_lsw2, ax_kc_s, ax_kc_n, ax_rf_rf, ax_isR_rf, ct_int, ct_long, ct_ref, ct_null, ct_rf, rf_ref, rf_null, isR_ref, isR_null, va_rf_s, va_rf_n, gv_0, gv_1, gv_2, pv_i, pv_r, pv_n, pv_q, pk_0, pk_2, pk_2n, pk_2q, pk_10, pk_11, rok_i, rok_z0, rok_z1, ex_eq, ex_z, ex_z2, ex_cz, List.filter_cons, List.filter_nil, List.take_succ_cons, List.take_zero, List.drop_succ_cons, List.drop_zero, List.reverse_cons, List.reverse_nil, List.nil_append, List.cons_append, List.append_nil, List.length_cons, List.length_nil, List.map_cons, List.map_nil, List.sum_cons, List.sum_nil, Bool.not_true, Bool.not_false, Bool.and_true, Bool.true_and, Bool.and_false, Bool.false_and, Bool.or_false, Bool.false_or, Bool.true_or, Bool.or_true, beq_self_eq_true, Nat.reduceBEq, Nat.reduceAdd, Nat.reduceSub, Nat.reduceLT, Nat.reduceLeDiff, Nat.reduceEqDiff, Int.reduceAdd, Int.reduceNeg, Int.reduceToNat, Int.reduceLE, Int.reduceNatCast, Int.reduceNatCast', ↓reduceIte, if_true, if_false, true_and, and_true, false_and, and_false, true_or, or_true, false_or, or_false, Nat.sub_zero, Nat.le_refl, Bool.false_eq_true, Bool.true_eq_false, false_implies, true_implies, implies_true, not_true_eq_false, not_false_eq_true, eq_self, Fin.isValue, Nat.zero_add, Nat.add_zero, and_self, ne_eq, b01, Int32.reduceLT, Int32.reduceLE, z32, z64, vl_0, tl_0, vl_1, tl_1, vl_2, tl_2, vl_3, tl_3, vl_4, tl_4, vl_5, tl_5, vl_6, tl_6, vl_7, tl_7, vl_8, tl_8, vl_9, tl_9, Int.reduceSub, Int.reduceEq, Int.reduceLT, reduceCtorEq, ro_obj, m_X6_init, dX6_init_79, dX6_init_80, dX6_init_81, fl_5_24, dX6_init_84, dX6_init_85, dX6_init_88, dX6_init_89, dX6_init_92, dX6_init_93, kl_5_22, dX6_init_96, dX6_init_97, cl_5_39, dX6_init_100, dX6_init_101, ki_1, dX6_init_104, dX6_init_107, dX6_init_108, fl_5_10, dX6_init_111, sl_5_40, M, ge]; try simp only [ax_ife, if_true, if_false, true_implies, implies_true, false_implies, and_true, true_and, not_true_eq_false, not_false_eq_true])
  refine ⟨2, s2g, ?_⟩
  refine ax_wq_ok (cuts := [ 134]) 60 ?_
  (simp only [lv_args, fn0, fn1, fn2, fn3, ax_wq_s, ax_step2, ax_ins2_u, ax_ins, ax_nx, ax_cut, ax_lk, ax_st1, ax_st2, ax_ins0, ax_tg, ax_go, ax_sw2, ax_lsw2, ax_kc_s, ax_kc_n, ax_rf_rf, ax_isR_rf, ct_int, ct_long, ct_ref, ct_null, ct_rf, rf_ref, rf_null, isR_ref, isR_null, va_rf_s, va_rf_n, gv_0, gv_1, gv_2, pv_i, pv_r, pv_n, pv_q, pk_0, pk_2, pk_2n, pk_2q, pk_10, pk_11, rok_i, rok_z0, rok_z1, ex_eq, ex_z, ex_z2, ex_cz, List.filter_cons, List.filter_nil, List.take_succ_cons, List.take_zero, List.drop_succ_cons, List.drop_zero, List.reverse_cons, List.reverse_nil, List.nil_append, List.cons_append, List.append_nil, List.length_cons, List.length_nil, List.map_cons, List.map_nil, List.sum_cons, List.sum_nil, Bool.not_true, Bool.not_false, Bool.and_true, Bool.true_and, Bool.and_false, Bool.false_and, Bool.or_false, Bool.false_or, Bool.true_or, Bool.or_true, beq_self_eq_true, Nat.reduceBEq, Nat.reduceAdd, Nat.reduceSub, Nat.reduceLT, Nat.reduceLeDiff, Nat.reduceEqDiff, Int.reduceAdd, Int.reduceNeg, Int.reduceToNat, Int.reduceLE, Int.reduceNatCast, Int.reduceNatCast', ↓reduceIte, if_true, if_false, true_and, and_true, false_and, and_false, true_or, or_true, false_or, or_false, Nat.sub_zero, Nat.le_refl, Bool.false_eq_true, Bool.true_eq_false, false_implies, true_implies, implies_true, not_true_eq_false, not_false_eq_true, eq_self, Fin.isValue, Nat.zero_add, Nat.add_zero, and_self, ne_eq, b01, Int32.reduceLT, Int32.reduceLE, z32, z64, vl_0, tl_0, vl_1, tl_1, vl_2, tl_2, vl_3, tl_3, vl_4, tl_4, vl_5, tl_5, vl_6, tl_6, vl_7, tl_7, vl_8, tl_8, vl_9, tl_9, Int.reduceSub, Int.reduceEq, Int.reduceLT, reduceCtorEq, ro_obj, m_X6_init, dX6_init_113, cl_5_42, M, mr]; try simp only [ax_ife, if_true, if_false, true_implies, implies_true, false_implies, and_true, true_and, not_true_eq_false, not_false_eq_true])
  refine ax_c0 (c_X3_write RT s2g) (by decide) (fun g2 ⟨F2, R2⟩ => ?_)
  have M2 := M
  rw [← F2.1, ← F2.2.1, ← F2.2.2 10 4 (by omega), ← F2.2.2 10 5 (by omega), ← F2.2.2 10 6 (by omega)] at M2
  have mr2 := R2.1
  unfold RDO at mr2
  have k2 : g2.2.2 13 0 = some 30 := by rw [F2.2.1]; exact k0
  have lo2 : LO 30 g2 := LO_FX F2 lo
  have y30 : g2.1 30 = some (2, 0) := lo2.1
  have cr := c_X3_read (G := G) R2 (by decide) s_lw_le (t := 30) (by decide) lo2
  have ok := s_lw_ok
  have eX : s_X0 0 = fun k => (s_txt 74 s_lw).2.2.1.getD k 0 := by
    unfold s_X0 s_txX
    simp only [if_pos s_lw_G, if_true]
  have eE : s_E0 0 = (s_txt 74 s_lw).2.2.2 := by
    unfold s_E0 s_txE
    simp only [if_pos s_lw_G, if_true]
  unfold TQ at cr
  generalize s_txt 74 s_lw = tt at *
  (simp only [lv_args, fn0, fn1, fn2, fn3, ax_wq_s, ax_step2, ax_ins2_u, ax_ins, ax_nx, ax_cut, ax_lk, ax_st1, ax_st2, ax_ins0, ax_tg, ax_go, ax_sw2, ax_lsw2, ax_kc_s, ax_kc_n, ax_rf_rf, ax_isR_rf, ct_int, ct_long, ct_ref, ct_null, ct_rf, rf_ref, rf_null, isR_ref, isR_null, va_rf_s, va_rf_n, gv_0, gv_1, gv_2, pv_i, pv_r, pv_n, pv_q, pk_0, pk_2, pk_2n, pk_2q, pk_10, pk_11, rok_i, rok_z0, rok_z1, ex_eq, ex_z, ex_z2, ex_cz, List.filter_cons, List.filter_nil, List.take_succ_cons, List.take_zero, List.drop_succ_cons, List.drop_zero, List.reverse_cons, List.reverse_nil, List.nil_append, List.cons_append, List.append_nil, List.length_cons, List.length_nil, List.map_cons, List.map_nil, List.sum_cons, List.sum_nil, Bool.not_true, Bool.not_false, Bool.and_true, Bool.true_and, Bool.and_false, Bool.false_and, Bool.or_false, Bool.false_or, Bool.true_or, Bool.or_true, beq_self_eq_true, Nat.reduceBEq, Nat.reduceAdd, Nat.reduceSub, Nat.reduceLT, Nat.reduceLeDiff, Nat.reduceEqDiff, Int.reduceAdd, Int.reduceNeg, Int.reduceToNat, Int.reduceLE, Int.reduceNatCast, Int.reduceNatCast', ↓reduceIte, if_true, if_false, true_and, and_true, false_and, and_false, true_or, or_true, false_or, or_false, Nat.sub_zero, Nat.le_refl, Bool.false_eq_true, Bool.true_eq_false, false_implies, true_implies, implies_true, not_true_eq_false, not_false_eq_true, eq_self, Fin.isValue, Nat.zero_add, Nat.add_zero, and_self, ne_eq, b01, Int32.reduceLT, Int32.reduceLE, z32, z64, vl_0, tl_0, vl_1, tl_1, vl_2, tl_2, vl_3, tl_3, vl_4, tl_4, vl_5, tl_5, vl_6, tl_6, vl_7, tl_7, vl_8, tl_8, vl_9, tl_9, Int.reduceSub, Int.reduceEq, Int.reduceLT, reduceCtorEq, ro_obj, m_X6_init, dX6_init_116, dX6_init_117, fl_5_10, dX6_init_120, dX6_init_121, fl_5_18, dX6_init_124, ki_0, dX6_init_125, dX6_init_126, cl_5_46, M2, mr2, k2, tc_0, v6, y30]; try simp only [ax_ife, if_true, if_false, true_implies, implies_true, false_implies, and_true, true_and, not_true_eq_false, not_false_eq_true])
  refine ax_cv cr (by decide) (fun g3 ⟨F3, q0, qg⟩ => ?_)
  have hl := qg ok
  rw [← eX, ← eE] at hl
  have F : FX (fun b k => b = 19 ∨ PR0 30 b k) g g3 := FX_tr (FX_mo F2 (fun b k z => by unfold PR0; omega)) (FX_mo F3 (fun b k z => Or.inr z))
  have M3 := M2
  rw [← F3.1, ← F3.2.1, ← F3.2.2 10 4 (by unfold PR0; omega), ← F3.2.2 10 5 (by unfold PR0; omega), ← F3.2.2 10 6 (by unfold PR0; omega)] at M3
  have no3 : ∀ b, (b = 11 ∨ (15 ≤ b ∧ b ≤ 18)) → g3.1 b = none := fun b hb => by rw [F.1]; exact I.2.2.2.2.1 b (by omega)
  have x11 := no3 11 (by omega)
  (simp only [lv_args, fn0, fn1, fn2, fn3, ax_wq_s, ax_step2, ax_ins2_u, ax_ins, ax_nx, ax_cut, ax_lk, ax_st1, ax_st2, ax_ins0, ax_tg, ax_go, ax_sw2, ax_lsw2, ax_kc_s, ax_kc_n, ax_rf_rf, ax_isR_rf, ct_int, ct_long, ct_ref, ct_null, ct_rf, rf_ref, rf_null, isR_ref, isR_null, va_rf_s, va_rf_n, gv_0, gv_1, gv_2, pv_i, pv_r, pv_n, pv_q, pk_0, pk_2, pk_2n, pk_2q, pk_10, pk_11, rok_i, rok_z0, rok_z1, ex_eq, ex_z, ex_z2, ex_cz, List.filter_cons, List.filter_nil, List.take_succ_cons, List.take_zero, List.drop_succ_cons, List.drop_zero, List.reverse_cons, List.reverse_nil, List.nil_append, List.cons_append, List.append_nil, List.length_cons, List.length_nil, List.map_cons, List.map_nil, List.sum_cons, List.sum_nil, Bool.not_true, Bool.not_false, Bool.and_true, Bool.true_and, Bool.and_false, Bool.false_and, Bool.or_false, Bool.false_or, Bool.true_or, Bool.or_true, beq_self_eq_true, Nat.reduceBEq, Nat.reduceAdd, Nat.reduceSub, Nat.reduceLT, Nat.reduceLeDiff, Nat.reduceEqDiff, Int.reduceAdd, Int.reduceNeg, Int.reduceToNat, Int.reduceLE, Int.reduceNatCast, Int.reduceNatCast', ↓reduceIte, if_true, if_false, true_and, and_true, false_and, and_false, true_or, or_true, false_or, or_false, Nat.sub_zero, Nat.le_refl, Bool.false_eq_true, Bool.true_eq_false, false_implies, true_implies, implies_true, not_true_eq_false, not_false_eq_true, eq_self, Fin.isValue, Nat.zero_add, Nat.add_zero, and_self, ne_eq, b01, Int32.reduceLT, Int32.reduceLE, z32, z64, vl_0, tl_0, vl_1, tl_1, vl_2, tl_2, vl_3, tl_3, vl_4, tl_4, vl_5, tl_5, vl_6, tl_6, vl_7, tl_7, vl_8, tl_8, vl_9, tl_9, Int.reduceSub, Int.reduceEq, Int.reduceLT, reduceCtorEq, ro_obj, m_X6_init, dX6_init_129, dX6_init_130, dX6_init_131, kl_5_50, M3, aN_1]; try simp only [ax_ife, if_true, if_false, true_implies, implies_true, false_implies, and_true, true_and, not_true_eq_false, not_false_eq_true])
  first | refine ⟨11, x11, ?_⟩ | refine ⟨11, x11, by omega, by omega, ?_⟩
  have O4 := OU_new g3 11 (1, 0)
  have z0 : (ax_new g3 11 (1, 0)).1 11 = some (1, 0) := by rw [new_1, if_pos rfl]
  have z1 : ∀ k, (ax_new g3 11 (1, 0)).2.1 11 k = 0 := fun k => by rw [new_21, if_pos rfl]
  have k3 : g3.2.2 13 0 = some 30 := by rw [F3.2.1]; exact k2
  have y3 : g3.1 30 = some (2, 0) := by rw [F3.1]; exact y30
  generalize ax_new g3 11 (1, 0) = g4 at O4 z0 z1 ⊢
  have o10 := O4 10 (by omega)
  have o13 := O4 13 (by omega)
  have x10 : g4.1 10 = some (5, 0) := by rw [o10.1]; exact M3.1
  have x10b : g4.2.2 10 2 = some 13 := by rw [o10.2.2]; exact M3.2.2.1
  have x13 : g4.1 13 = some (51, 6) := by rw [o13.1]; exact M3.2.2.2.2.1
  have k4 : g4.2.2 13 0 = some 30 := by rw [o13.2.2]; exact k3
  have y4 : g4.1 30 = some (2, 0) := by rw [(O4 30 (by omega)).1]; exact y3
  refine ax_wq_ok (cuts := []) 30 ?_
  (simp only [lv_args, fn0, fn1, fn2, fn3, ax_wq_s, ax_step2, ax_ins2_u, ax_ins, ax_nx, ax_cut, ax_lk, ax_st1, ax_st2, ax_ins0, ax_tg, ax_go, ax_sw2, ax_lsw2, ax_kc_s, ax_kc_n, ax_rf_rf, ax_isR_rf, ct_int, ct_long, ct_ref, ct_null, ct_rf, rf_ref, rf_null, isR_ref, isR_null, va_rf_s, va_rf_n, gv_0, gv_1, gv_2, pv_i, pv_r, pv_n, pv_q, pk_0, pk_2, pk_2n, pk_2q, pk_10, pk_11, rok_i, rok_z0, rok_z1, ex_eq, ex_z, ex_z2, ex_cz, List.filter_cons, List.filter_nil, List.take_succ_cons, List.take_zero, List.drop_succ_cons, List.drop_zero, List.reverse_cons, List.reverse_nil, List.nil_append, List.cons_append, List.append_nil, List.length_cons, List.length_nil, List.map_cons, List.map_nil, List.sum_cons, List.sum_nil, Bool.not_true, Bool.not_false, Bool.and_true, Bool.true_and, Bool.and_false, Bool.false_and, Bool.or_false, Bool.false_or, Bool.true_or, Bool.or_true, beq_self_eq_true, Nat.reduceBEq, Nat.reduceAdd, Nat.reduceSub, Nat.reduceLT, Nat.reduceLeDiff, Nat.reduceEqDiff, Int.reduceAdd, Int.reduceNeg, Int.reduceToNat, Int.reduceLE, Int.reduceNatCast, Int.reduceNatCast', ↓reduceIte, if_true, if_false, true_and, and_true, false_and, and_false, true_or, or_true, false_or, or_false, Nat.sub_zero, Nat.le_refl, Bool.false_eq_true, Bool.true_eq_false, false_implies, true_implies, implies_true, not_true_eq_false, not_false_eq_true, eq_self, Fin.isValue, Nat.zero_add, Nat.add_zero, and_self, ne_eq, b01, Int32.reduceLT, Int32.reduceLE, z32, z64, vl_0, tl_0, vl_1, tl_1, vl_2, tl_2, vl_3, tl_3, vl_4, tl_4, vl_5, tl_5, vl_6, tl_6, vl_7, tl_7, vl_8, tl_8, vl_9, tl_9, Int.reduceSub, Int.reduceEq, Int.reduceLT, reduceCtorEq, ro_obj, m_X6_init, dX6_init_134, dX6_init_135, dX6_init_136, fl_5_18, dX6_init_139, ki_0, dX6_init_140, dX6_init_141, cl_5_52, x10, x10b, x13, k4, tc_0, v6, y4, z0]; try simp only [ax_ife, if_true, if_false, true_implies, implies_true, false_implies, and_true, true_and, not_true_eq_false, not_false_eq_true])
  refine ax_c0B (c_X1_init y4 (by decide) z0 (fun b b1 b2 => by rw [(O4 b (by omega)).1]; exact no3 b (by omega))) (by decide) (by omega) (by omega) (fun g5 ⟨O5, H5, e5⟩ => ?_)
  have OO : OU (fun b => b = 11 ∨ (15 ≤ b ∧ b ≤ 18)) g3 g5 := OU_tr (OU_mo O4 (fun b q => Or.inl q)) O5
  have x5 : g5.1 10 = some (5, 0) := by rw [(O5 10 (by omega)).1]; exact x10
  have w5 : g5.1 11 = some (1, 0) := H5.1
  have f := IV_fin (tb := tb) (p := p) I F q0 hl OO H5 (fun k => by rw [e5]; exact z1 k)
  (simp only [lv_args, fn0, fn1, fn2, fn3, ax_wq_s, ax_step2, ax_ins2_u, ax_ins, ax_nx, ax_cut, ax_lk, ax_st1, ax_st2, ax_ins0, ax_tg, ax_go, ax_sw2, ax_lsw2, ax_kc_s, ax_kc_n, ax_rf_rf, ax_isR_rf, ct_int, ct_long, ct_ref, ct_null, ct_rf, rf_ref, rf_null, isR_ref, isR_null, va_rf_s, va_rf_n, gv_0, gv_1, gv_2, pv_i, pv_r, pv_n, pv_q, pk_0, pk_2, pk_2n, pk_2q, pk_10, pk_11, rok_i, rok_z0, rok_z1, ex_eq, ex_z, ex_z2, ex_cz, List.filter_cons, List.filter_nil, List.take_succ_cons, List.take_zero, List.drop_succ_cons, List.drop_zero, List.reverse_cons, List.reverse_nil, List.nil_append, List.cons_append, List.append_nil, List.length_cons, List.length_nil, List.map_cons, List.map_nil, List.sum_cons, List.sum_nil, Bool.not_true, Bool.not_false, Bool.and_true, Bool.true_and, Bool.and_false, Bool.false_and, Bool.or_false, Bool.false_or, Bool.true_or, Bool.or_true, beq_self_eq_true, Nat.reduceBEq, Nat.reduceAdd, Nat.reduceSub, Nat.reduceLT, Nat.reduceLeDiff, Nat.reduceEqDiff, Int.reduceAdd, Int.reduceNeg, Int.reduceToNat, Int.reduceLE, Int.reduceNatCast, Int.reduceNatCast', ↓reduceIte, if_true, if_false, true_and, and_true, false_and, and_false, true_or, or_true, false_or, or_false, Nat.sub_zero, Nat.le_refl, Bool.false_eq_true, Bool.true_eq_false, false_implies, true_implies, implies_true, not_true_eq_false, not_false_eq_true, eq_self, Fin.isValue, Nat.zero_add, Nat.add_zero, and_self, ne_eq, b01, Int32.reduceLT, Int32.reduceLE, z32, z64, vl_0, tl_0, vl_1, tl_1, vl_2, tl_2, vl_3, tl_3, vl_4, tl_4, vl_5, tl_5, vl_6, tl_6, vl_7, tl_7, vl_8, tl_8, vl_9, tl_9, Int.reduceSub, Int.reduceEq, Int.reduceLT, reduceCtorEq, ro_obj, m_X6_init, dX6_init_144, fl_5_55, dX6_init_147, x5, w5]; try simp only [ax_ife, if_true, if_false, true_implies, implies_true, false_implies, and_true, true_and, not_true_eq_false, not_false_eq_true])
  all_goals first | exact f | exact ⟨rfl, f⟩
set_option maxRecDepth 100000 in
set_option maxHeartbeats 400000 in
theorem c_X6_init {tb p : Nat → Nat} (x0 : h.1 10 = some (5, 0)) (xs : ∀ b, 11 ≤ b → b < 100 → h.1 b = none) (s2 : h.1 2 = some (60, 0)) (s3 : h.1 3 = some (60, 1)) : AC G jX6_init 10 48 2940 [.ref 10] h (fun v h' => v = none ∧ OU (fun b => 10 ≤ b ∧ b < 100) h h' ∧ XX 0 s_B0 p 1 0 s_X0 s_E0 h' ∧ SXs s_z0 h' ∧ RXT 0 tb h' ∧ LOA h' ∧ XI s_I0 p h') := by
  have i12 := xs 12 (by decide) (by decide)
  refine ax_intro 5 true cdX6_init (by decide +kernel) (by decide +kernel) (by decide +kernel) (Nat.le_of_ble_eq_true rfl) ?_
  refine ax_wq_ok (cuts := [ 8]) 30 ?_
  (simp only [lv_args, fn0, fn1, fn2, fn3, ax_wq_s, ax_step2, ax_ins2_u, ax_ins, ax_nx, ax_cut, ax_lk, ax_st1, ax_st2, ax_ins0, ax_tg, ax_go, ax_sw2, ax_lsw2, ax_kc_s, ax_kc_n, ax_rf_rf, ax_isR_rf, ct_int, ct_long, ct_ref, ct_null, ct_rf, rf_ref, rf_null, isR_ref, isR_null, va_rf_s, va_rf_n, gv_0, gv_1, gv_2, pv_i, pv_r, pv_n, pv_q, pk_0, pk_2, pk_2n, pk_2q, pk_10, pk_11, rok_i, rok_z0, rok_z1, ex_eq, ex_z, ex_z2, ex_cz, List.filter_cons, List.filter_nil, List.take_succ_cons, List.take_zero, List.drop_succ_cons, List.drop_zero, List.reverse_cons, List.reverse_nil, List.nil_append, List.cons_append, List.append_nil, List.length_cons, List.length_nil, List.map_cons, List.map_nil, List.sum_cons, List.sum_nil, Bool.not_true, Bool.not_false, Bool.and_true, Bool.true_and, Bool.and_false, Bool.false_and, Bool.or_false, Bool.false_or, Bool.true_or, Bool.or_true, beq_self_eq_true, Nat.reduceBEq, Nat.reduceAdd, Nat.reduceSub, Nat.reduceLT, Nat.reduceLeDiff, Nat.reduceEqDiff, Int.reduceAdd, Int.reduceNeg, Int.reduceToNat, Int.reduceLE, Int.reduceNatCast, Int.reduceNatCast', ↓reduceIte, if_true, if_false, true_and, and_true, false_and, and_false, true_or, or_true, false_or, or_false, Nat.sub_zero, Nat.le_refl, Bool.false_eq_true, Bool.true_eq_false, false_implies, true_implies, implies_true, not_true_eq_false, not_false_eq_true, eq_self, Fin.isValue, Nat.zero_add, Nat.add_zero, and_self, ne_eq, b01, Int32.reduceLT, Int32.reduceLE, z32, z64, vl_0, tl_0, vl_1, tl_1, vl_2, tl_2, vl_3, tl_3, vl_4, tl_4, vl_5, tl_5, vl_6, tl_6, vl_7, tl_7, vl_8, tl_8, vl_9, tl_9, Int.reduceSub, Int.reduceEq, Int.reduceLT, reduceCtorEq, ro_obj, m_X6_init, dX6_init_0, dX6_init_1, cl_5_1, dX6_init_4, dX6_init_5, kl_5_7, x0, aN_3]; try simp only [ax_ife, if_true, if_false, true_implies, implies_true, false_implies, and_true, true_and, not_true_eq_false, not_false_eq_true])
  refine ⟨12, i12, ?_⟩
  have O1 := OU_new h 12 (3, 0)
  have z0 : (ax_new h 12 (3, 0)).1 12 = some (3, 0) := by rw [new_1, if_pos rfl]
  have z1 : (ax_new h 12 (3, 0)).2.1 12 0 = 0 := by rw [new_21, if_pos rfl]
  generalize ax_new h 12 (3, 0) = h1 at O1 z0 z1 ⊢
  refine ax_wq_ok (cuts := [ 21]) 30 ?_
  (simp only [lv_args, fn0, fn1, fn2, fn3, ax_wq_s, ax_step2, ax_ins2_u, ax_ins, ax_nx, ax_cut, ax_lk, ax_st1, ax_st2, ax_ins0, ax_tg, ax_go, ax_sw2, ax_lsw2, ax_kc_s, ax_kc_n, ax_rf_rf, ax_isR_rf, ct_int, ct_long, ct_ref, ct_null, ct_rf, rf_ref, rf_null, isR_ref, isR_null, va_rf_s, va_rf_n, gv_0, gv_1, gv_2, pv_i, pv_r, pv_n, pv_q, pk_0, pk_2, pk_2n, pk_2q, pk_10, pk_11, rok_i, rok_z0, rok_z1, ex_eq, ex_z, ex_z2, ex_cz, List.filter_cons, List.filter_nil, List.take_succ_cons, List.take_zero, List.drop_succ_cons, List.drop_zero, List.reverse_cons, List.reverse_nil, List.nil_append, List.cons_append, List.append_nil, List.length_cons, List.length_nil, List.map_cons, List.map_nil, List.sum_cons, List.sum_nil, Bool.not_true, Bool.not_false, Bool.and_true, Bool.true_and, Bool.and_false, Bool.false_and, Bool.or_false, Bool.false_or, Bool.true_or, Bool.or_true, beq_self_eq_true, Nat.reduceBEq, Nat.reduceAdd, Nat.reduceSub, Nat.reduceLT, Nat.reduceLeDiff, Nat.reduceEqDiff, Int.reduceAdd, Int.reduceNeg, Int.reduceToNat, Int.reduceLE, Int.reduceNatCast, Int.reduceNatCast', ↓reduceIte, if_true, if_false, true_and, and_true, false_and, and_false, true_or, or_true, false_or, or_false, Nat.sub_zero, Nat.le_refl, Bool.false_eq_true, Bool.true_eq_false, false_implies, true_implies, implies_true, not_true_eq_false, not_false_eq_true, eq_self, Fin.isValue, Nat.zero_add, Nat.add_zero, and_self, ne_eq, b01, Int32.reduceLT, Int32.reduceLE, z32, z64, vl_0, tl_0, vl_1, tl_1, vl_2, tl_2, vl_3, tl_3, vl_4, tl_4, vl_5, tl_5, vl_6, tl_6, vl_7, tl_7, vl_8, tl_8, vl_9, tl_9, Int.reduceSub, Int.reduceEq, Int.reduceLT, reduceCtorEq, ro_obj, m_X6_init, dX6_init_8, dX6_init_9, cl_5_9, z0]; try simp only [ax_ife, if_true, if_false, true_implies, implies_true, false_implies, and_true, true_and, not_true_eq_false, not_false_eq_true])
  refine ax_c0B (c_X3_init z0 (by rw [(O1 19 (by omega)).1]; exact xs 19 (by decide) (by decide)) (by rw [(O1 20 (by omega)).1]; exact xs 20 (by decide) (by decide))) (by decide) (by omega) (by omega) (fun h2 ⟨O2, d2, e2⟩ => ?_)
  have x2 : h2.1 10 = some (5, 0) := by rw [(O2 10 (by omega)).1, (O1 10 (by omega)).1]; exact x0
  have y2 := d2.1
  have no : ∀ b, 13 ≤ b → b ≤ 14 → h2.1 b = none := fun b b1 b2 => by
    rw [(O2 b (by omega)).1, (O1 b (by omega)).1]
    exact xs b (by omega) (by omega)
  (simp only [lv_args, fn0, fn1, fn2, fn3, ax_wq_s, ax_step2, ax_ins2_u, ax_ins, ax_nx, ax_cut, ax_lk, ax_st1, ax_st2, ax_ins0, ax_tg, ax_go, ax_sw2, ax_lsw2, ax_kc_s, ax_kc_n, ax_rf_rf, ax_isR_rf, ct_int, ct_long, ct_ref, ct_null, ct_rf, rf_ref, rf_null, isR_ref, isR_null, va_rf_s, va_rf_n, gv_0, gv_1, gv_2, pv_i, pv_r, pv_n, pv_q, pk_0, pk_2, pk_2n, pk_2q, pk_10, pk_11, rok_i, rok_z0, rok_z1, ex_eq, ex_z, ex_z2, ex_cz, List.filter_cons, List.filter_nil, List.take_succ_cons, List.take_zero, List.drop_succ_cons, List.drop_zero, List.reverse_cons, List.reverse_nil, List.nil_append, List.cons_append, List.append_nil, List.length_cons, List.length_nil, List.map_cons, List.map_nil, List.sum_cons, List.sum_nil, Bool.not_true, Bool.not_false, Bool.and_true, Bool.true_and, Bool.and_false, Bool.false_and, Bool.or_false, Bool.false_or, Bool.true_or, Bool.or_true, beq_self_eq_true, Nat.reduceBEq, Nat.reduceAdd, Nat.reduceSub, Nat.reduceLT, Nat.reduceLeDiff, Nat.reduceEqDiff, Int.reduceAdd, Int.reduceNeg, Int.reduceToNat, Int.reduceLE, Int.reduceNatCast, Int.reduceNatCast', ↓reduceIte, if_true, if_false, true_and, and_true, false_and, and_false, true_or, or_true, false_or, or_false, Nat.sub_zero, Nat.le_refl, Bool.false_eq_true, Bool.true_eq_false, false_implies, true_implies, implies_true, not_true_eq_false, not_false_eq_true, eq_self, Fin.isValue, Nat.zero_add, Nat.add_zero, and_self, ne_eq, b01, Int32.reduceLT, Int32.reduceLE, z32, z64, vl_0, tl_0, vl_1, tl_1, vl_2, tl_2, vl_3, tl_3, vl_4, tl_4, vl_5, tl_5, vl_6, tl_6, vl_7, tl_7, vl_8, tl_8, vl_9, tl_9, Int.reduceSub, Int.reduceEq, Int.reduceLT, reduceCtorEq, ro_obj, m_X6_init, dX6_init_12, fl_5_10, dX6_init_15, dX6_init_16, kb_6, dX6_init_18, kl_5_16, x2, y2, setR_1]; try simp only [ax_ife, if_true, if_false, true_implies, implies_true, false_implies, and_true, true_and, not_true_eq_false, not_false_eq_true])
  refine ⟨13, 6, 51, ⟨by decide, by decide⟩, by first | rfl | decide, by first | rfl | decide, by decide, no 13 (by decide) (by decide), by decide, ?_⟩
  have w3 : (ax_new (ax_setR h2 10 1 (some 12)) 13 (51, 6)).1 10 = some (5, 0) := by rw [new_1, if_neg (by decide)]; exact x2
  have w3b : (ax_new (ax_setR h2 10 1 (some 12)) 13 (51, 6)).1 13 = some (51, 6) := by rw [new_1, if_pos rfl]
  refine ax_wq_ok (cuts := [ 29]) 30 ?_
  (simp only [lv_args, fn0, fn1, fn2, fn3, ax_wq_s, ax_step2, ax_ins2_u, ax_ins, ax_nx, ax_cut, ax_lk, ax_st1, ax_st2, ax_ins0, ax_tg, ax_go, ax_sw2, ax_lsw2, ax_kc_s, ax_kc_n, ax_rf_rf, ax_isR_rf, ct_int, ct_long, ct_ref, ct_null, ct_rf, rf_ref, rf_null, isR_ref, isR_null, va_rf_s, va_rf_n, gv_0, gv_1, gv_2, pv_i, pv_r, pv_n, pv_q, pk_0, pk_2, pk_2n, pk_2q, pk_10, pk_11, rok_i, rok_z0, rok_z1, ex_eq, ex_z, ex_z2, ex_cz, List.filter_cons, List.filter_nil, List.take_succ_cons, List.take_zero, List.drop_succ_cons, List.drop_zero, List.reverse_cons, List.reverse_nil, List.nil_append, List.cons_append, List.append_nil, List.length_cons, List.length_nil, List.map_cons, List.map_nil, List.sum_cons, List.sum_nil, Bool.not_true, Bool.not_false, Bool.and_true, Bool.true_and, Bool.and_false, Bool.false_and, Bool.or_false, Bool.false_or, Bool.true_or, Bool.or_true, beq_self_eq_true, Nat.reduceBEq, Nat.reduceAdd, Nat.reduceSub, Nat.reduceLT, Nat.reduceLeDiff, Nat.reduceEqDiff, Int.reduceAdd, Int.reduceNeg, Int.reduceToNat, Int.reduceLE, Int.reduceNatCast, Int.reduceNatCast', ↓reduceIte, if_true, if_false, true_and, and_true, false_and, and_false, true_or, or_true, false_or, or_false, Nat.sub_zero, Nat.le_refl, Bool.false_eq_true, Bool.true_eq_false, false_implies, true_implies, implies_true, not_true_eq_false, not_false_eq_true, eq_self, Fin.isValue, Nat.zero_add, Nat.add_zero, and_self, ne_eq, b01, Int32.reduceLT, Int32.reduceLE, z32, z64, vl_0, tl_0, vl_1, tl_1, vl_2, tl_2, vl_3, tl_3, vl_4, tl_4, vl_5, tl_5, vl_6, tl_6, vl_7, tl_7, vl_8, tl_8, vl_9, tl_9, Int.reduceSub, Int.reduceEq, Int.reduceLT, reduceCtorEq, ro_obj, m_X6_init, dX6_init_21, fl_5_18, dX6_init_24, dX6_init_25, ki_4, dX6_init_26, kl_5_22, w3, w3b]; try simp only [ax_ife, if_true, if_false, true_implies, implies_true, false_implies, and_true, true_and, not_true_eq_false, not_false_eq_true])
  have n4 := nw (ax_setR h2 10 1 (some 12)) 10 2 13 (51, 6)
  generalize ax_setR (ax_new (ax_setR h2 10 1 (some 12)) 13 (51, 6)) 10 2 (some 13) = h4 at n4 ⊢
  have x4 : h4.1 10 = some (5, 0) := by rw [n4.1, if_neg (by decide)]; exact x2
  have v4 : h4.1 14 = none := by rw [n4.1, if_neg (by decide)]; exact no 14 (by decide) (by decide)
  refine ⟨14, 4, 52, ⟨by decide, by decide⟩, by first | rfl | decide, by first | rfl | decide, by decide, v4, by decide, ?_⟩
  have w4 : (ax_new h4 14 (52, 4)).1 10 = some (5, 0) := by rw [new_1, if_neg (by decide)]; exact x4
  have w4b : (ax_new h4 14 (52, 4)).1 14 = some (52, 4) := by rw [new_1, if_pos rfl]
  have n5 := nw h4 10 3 14 (52, 4)
  refine ax_wq_ok (cuts := [ 32]) 30 ?_
  (simp only [lv_args, fn0, fn1, fn2, fn3, ax_wq_s, ax_step2, ax_ins2_u, ax_ins, ax_nx, ax_cut, ax_lk, ax_st1, ax_st2, ax_ins0, ax_tg, ax_go, ax_sw2, ax_lsw2, ax_kc_s, ax_kc_n, ax_rf_rf, ax_isR_rf, ct_int, ct_long, ct_ref, ct_null, ct_rf, rf_ref, rf_null, isR_ref, isR_null, va_rf_s, va_rf_n, gv_0, gv_1, gv_2, pv_i, pv_r, pv_n, pv_q, pk_0, pk_2, pk_2n, pk_2q, pk_10, pk_11, rok_i, rok_z0, rok_z1, ex_eq, ex_z, ex_z2, ex_cz, List.filter_cons, List.filter_nil, List.take_succ_cons, List.take_zero, List.drop_succ_cons, List.drop_zero, List.reverse_cons, List.reverse_nil, List.nil_append, List.cons_append, List.append_nil, List.length_cons, List.length_nil, List.map_cons, List.map_nil, List.sum_cons, List.sum_nil, Bool.not_true, Bool.not_false, Bool.and_true, Bool.true_and, Bool.and_false, Bool.false_and, Bool.or_false, Bool.false_or, Bool.true_or, Bool.or_true, beq_self_eq_true, Nat.reduceBEq, Nat.reduceAdd, Nat.reduceSub, Nat.reduceLT, Nat.reduceLeDiff, Nat.reduceEqDiff, Int.reduceAdd, Int.reduceNeg, Int.reduceToNat, Int.reduceLE, Int.reduceNatCast, Int.reduceNatCast', ↓reduceIte, if_true, if_false, true_and, and_true, false_and, and_false, true_or, or_true, false_or, or_false, Nat.sub_zero, Nat.le_refl, Bool.false_eq_true, Bool.true_eq_false, false_implies, true_implies, implies_true, not_true_eq_false, not_false_eq_true, eq_self, Fin.isValue, Nat.zero_add, Nat.add_zero, and_self, ne_eq, b01, Int32.reduceLT, Int32.reduceLE, z32, z64, vl_0, tl_0, vl_1, tl_1, vl_2, tl_2, vl_3, tl_3, vl_4, tl_4, vl_5, tl_5, vl_6, tl_6, vl_7, tl_7, vl_8, tl_8, vl_9, tl_9, Int.reduceSub, Int.reduceEq, Int.reduceLT, reduceCtorEq, ro_obj, m_X6_init, dX6_init_29, fl_5_24, w4, w4b]; try simp only [ax_ife, if_true, if_false, true_implies, implies_true, false_implies, and_true, true_and, not_true_eq_false, not_false_eq_true])
  generalize ax_setR (ax_new h4 14 (52, 4)) 10 3 (some 14) = h5 at n5 ⊢
  have x5 : h5.1 10 = some (5, 0) := by rw [n5.1, if_neg (by decide)]; exact x4
  have I0 := IV_0 x0 xs s3 O1 z1 O2 d2 e2 n4 n5
  refine ax_wq_ok (cuts := [ 49]) 30 ?_
  (simp only [lv_args, fn0, fn1, fn2, fn3, ax_wq_s, ax_step2, ax_ins2_u, ax_ins, ax_nx, ax_cut, ax_lk, ax_st1, ax_st2, ax_ins0, ax_tg, ax_go, ax_sw2, ax_lsw2, ax_kc_s, ax_kc_n, ax_rf_rf, ax_isR_rf, ct_int, ct_long, ct_ref, ct_null, ct_rf, rf_ref, rf_null, isR_ref, isR_null, va_rf_s, va_rf_n, gv_0, gv_1, gv_2, pv_i, pv_r, pv_n, pv_q, pk_0, pk_2, pk_2n, pk_2q, pk_10, pk_11, rok_i, rok_z0, rok_z1, ex_eq, ex_z, ex_z2, ex_cz, List.filter_cons, List.filter_nil, List.take_succ_cons, List.take_zero, List.drop_succ_cons, List.drop_zero, List.reverse_cons, List.reverse_nil, List.nil_append, List.cons_append, List.append_nil, List.length_cons, List.length_nil, List.map_cons, List.map_nil, List.sum_cons, List.sum_nil, Bool.not_true, Bool.not_false, Bool.and_true, Bool.true_and, Bool.and_false, Bool.false_and, Bool.or_false, Bool.false_or, Bool.true_or, Bool.or_true, beq_self_eq_true, Nat.reduceBEq, Nat.reduceAdd, Nat.reduceSub, Nat.reduceLT, Nat.reduceLeDiff, Nat.reduceEqDiff, Int.reduceAdd, Int.reduceNeg, Int.reduceToNat, Int.reduceLE, Int.reduceNatCast, Int.reduceNatCast', ↓reduceIte, if_true, if_false, true_and, and_true, false_and, and_false, true_or, or_true, false_or, or_false, Nat.sub_zero, Nat.le_refl, Bool.false_eq_true, Bool.true_eq_false, false_implies, true_implies, implies_true, not_true_eq_false, not_false_eq_true, eq_self, Fin.isValue, Nat.zero_add, Nat.add_zero, and_self, ne_eq, b01, Int32.reduceLT, Int32.reduceLE, z32, z64, vl_0, tl_0, vl_1, tl_1, vl_2, tl_2, vl_3, tl_3, vl_4, tl_4, vl_5, tl_5, vl_6, tl_6, vl_7, tl_7, vl_8, tl_8, vl_9, tl_9, Int.reduceSub, Int.reduceEq, Int.reduceLT, reduceCtorEq, ro_obj, m_X6_init, dX6_init_32, dX6_init_33, ki_1, dX6_init_34, fl_5_28, dX6_init_37, dX6_init_38, ki_0, dX6_init_39, fl_5_32, dX6_init_42, dX6_init_43, ki_m1, dX6_init_44, fl_5_35, dX6_init_47, dX6_init_48, x5, setI_1]; try simp only [ax_ife, if_true, if_false, true_implies, implies_true, false_implies, and_true, true_and, not_true_eq_false, not_false_eq_true])
  generalize ax_setI (ax_setI (ax_setI h5 10 4 1) 10 5 0) 10 6 (-1) = h6 at I0 ⊢
  refine i_X6_init_t (t := 0) (rc := 43) (rs := 2601) (by decide) (by decide) (by decide) I0 (fun g1 I1 => ?_)
  refine i_X6_init_t (t := 1) (rc := 38) (rs := 2267) (by decide) (by decide) (by decide) I1 (fun g2 I2 => ?_)
  refine i_X6_init_t (t := 2) (rc := 33) (rs := 1933) (by decide) (by decide) (by decide) I2 (fun g3 I3 => ?_)
  refine i_X6_init_t (t := 3) (rc := 28) (rs := 1599) (by decide) (by decide) (by decide) I3 (fun g4 I4 => ?_)
  refine i_X6_init_t (t := 4) (rc := 23) (rs := 1265) (by decide) (by decide) (by decide) I4 (fun g5 I5 => ?_)
  refine i_X6_init_t (t := 5) (rc := 18) (rs := 931) (by decide) (by decide) (by decide) I5 (fun g6 I6 => ?_)
  have M6 := I6.2.1
  have ge : (Int32.ofNat 6 ≤ nI (5 + 1)) = True := eq_true (by decide)
  refine ax_wq_ok (cuts := [ 79]) 30 ?_
  (simp only [lv_args, fn0, fn1, fn2, fn3, ax_wq_s, ax_step2, ax_ins2_u, ax_ins, ax_nx, ax_cut, ax_lk, ax_st1, ax_st2, ax_ins0, ax_tg, ax_go, ax_sw2, ax_lsw2, ax_kc_s, ax_kc_n, ax_rf_rf, ax_isR_rf, ct_int, ct_long, ct_ref, ct_null, ct_rf, rf_ref, rf_null, isR_ref, isR_null, va_rf_s, va_rf_n, gv_0, gv_1, gv_2, pv_i, pv_r, pv_n, pv_q, pk_0, pk_2, pk_2n, pk_2q, pk_10, pk_11, rok_i, rok_z0, rok_z1, ex_eq, ex_z, ex_z2, ex_cz, List.filter_cons, List.filter_nil, List.take_succ_cons, List.take_zero, List.drop_succ_cons, List.drop_zero, List.reverse_cons, List.reverse_nil, List.nil_append, List.cons_append, List.append_nil, List.length_cons, List.length_nil, List.map_cons, List.map_nil, List.sum_cons, List.sum_nil, Bool.not_true, Bool.not_false, Bool.and_true, Bool.true_and, Bool.and_false, Bool.false_and, Bool.or_false, Bool.false_or, Bool.true_or, Bool.or_true, beq_self_eq_true, Nat.reduceBEq, Nat.reduceAdd, Nat.reduceSub, Nat.reduceLT, Nat.reduceLeDiff, Nat.reduceEqDiff, Int.reduceAdd, Int.reduceNeg, Int.reduceToNat, Int.reduceLE, Int.reduceNatCast, Int.reduceNatCast', ↓reduceIte, if_true, if_false, true_and, and_true, false_and, and_false, true_or, or_true, false_or, or_false, Nat.sub_zero, Nat.le_refl, Bool.false_eq_true, Bool.true_eq_false, false_implies, true_implies, implies_true, not_true_eq_false, not_false_eq_true, eq_self, Fin.isValue, Nat.zero_add, Nat.add_zero, and_self, ne_eq, b01, Int32.reduceLT, Int32.reduceLE, z32, z64, vl_0, tl_0, vl_1, tl_1, vl_2, tl_2, vl_3, tl_3, vl_4, tl_4, vl_5, tl_5, vl_6, tl_6, vl_7, tl_7, vl_8, tl_8, vl_9, tl_9, Int.reduceSub, Int.reduceEq, Int.reduceLT, reduceCtorEq, ro_obj, m_X6_init, dX6_init_49, dX6_init_50, dX6_init_51, fl_5_18, dX6_init_54, dX6_init_55, dX6_init_58, dX6_init_59, dX6_init_62, dX6_init_63, kl_5_16, dX6_init_66, dX6_init_67, cl_5_38, dX6_init_70, dX6_init_71, ki_1, dX6_init_74, dX6_init_77, ki_0, dX6_init_78, M6, ge]; try simp only [ax_ife, if_true, if_false, true_implies, implies_true, false_implies, and_true, true_and, not_true_eq_false, not_false_eq_true])
  refine i_X6_init_s (s := 0) (rc := 13) (rs := 597) (by decide) (by decide) (by decide) I6 (fun k1 J1 => ?_)
  refine i_X6_init_s (s := 1) (rc := 11) (rs := 554) (by decide) (by decide) (by decide) J1 (fun k2 J2 => ?_)
  refine i_X6_init_s (s := 2) (rc := 9) (rs := 511) (by decide) (by decide) (by decide) J2 (fun k3 J3 => ?_)
  refine i_X6_init_s (s := 3) (rc := 7) (rs := 468) (by decide) (by decide) (by decide) J3 (fun k4 J4 => ?_)
  exact i_X6_init_e J4 s2
end XIT
