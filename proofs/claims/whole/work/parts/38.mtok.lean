-- deps: 14 15 16 17 18 19 20 21 28 29 32 37
/-! tokens -/
def s_wh (P : Nat → Bool) (tb : Nat → Nat) : Nat → Nat → Nat
  | 0, i => i
  | f + 1, i => if P (tb i) = true then s_wh P tb f (i + 1) else i
def s_isb (c : Nat) : Bool := c == 32 || c == 10
def s_isl (c : Nat) : Bool := decide (97 ≤ c ∧ c ≤ 122)
def s_isd (c : Nat) : Bool := decide (48 ≤ c ∧ c ≤ 57)
def s_iss (c : Nat) : Bool := c == 40 || (c == 41 || (c == 59 || (c == 43 || (c == 45 || (c == 42 || (c == 60 || c == 61))))))
def s_v10 (tb : Nat → Nat) (b : Nat) : Nat → Nat
  | 0 => 0
  | m + 1 => 10 * s_v10 tb b m + (tb (b + m) - 48)
/-- the words, eight bytes each -/
def s_wdl : List Nat := [97,100,100,115,32,32,32,32, 104,101,97,118,121,32,32,32, 98,117,114,110,115,32,32,32, 115,111,111,116,32,32,32,32, 119,105,100,101,32,32,32,32, 98,101,110,100,32,32,32,32, 109,111,114,101,32,32,32,32, 104,101,97,116,32,32,32,32, 119,101,116,32,32,32,32,32, 111,114,32,32,32,32,32,32, 97,110,100,32,32,32,32,32, 110,111,116,32,32,32,32,32]
def s_wd (k c : Nat) : Nat := s_wdl.getD (8 * k + c) 0
def s_pd (tb : Nat → Nat) (b e c : Nat) : Nat := if b + c < e then tb (b + c) else 32
def s_wc (tb : Nat → Nat) (b e k : Nat) : Nat → Nat → Bool
  | _, 0 => true
  | c, m + 1 => (s_wd k c == s_pd tb b e c) && s_wc tb b e k (c + 1) m
def s_wk (tb : Nat → Nat) (b e k : Nat) : Bool := decide (e - b ≤ 8) && s_wc tb b e k 0 8
/-- which word; 12: none -/
def s_fw (tb : Nat → Nat) (b e : Nat) : Nat → Nat → Nat
  | _, 0 => 12
  | k, m + 1 => if s_wk tb b e k = true then k else s_fw tb b e (k + 1) m
def s_wK (k : Nat) : Nat := if k < 3 then 3 else if k < 9 then 2 else if k = 12 then 7 else 4 + (k - 9)
def s_wV (k : Nat) : Nat := if k < 3 then k else k - 3
/-- kind (0 end, 1 number, 2 name, 3 key, 4 or, 5 and, 6 not, 7 wrong, signs as bytes), value, where it begins, where it ends -/
def s_tk1 (tn : Nat) (tb : Nat → Nat) (b : Nat) : Nat × (Nat × (Nat × Nat)) :=
  if tn ≤ b then (0, 0, b, b)
  else if s_isl (tb b) = true then (s_wK (s_fw tb b (s_wh s_isl tb (tn - b) b) 0 12), s_wV (s_fw tb b (s_wh s_isl tb (tn - b) b) 0 12), b, s_wh s_isl tb (tn - b) b)
  else if s_isd (tb b) = true then ((if s_wh s_isd tb (tn - b) b - b ≤ 4 then 1 else 7), s_v10 tb b (s_wh s_isd tb (tn - b) b - b), b, s_wh s_isd tb (tn - b) b)
  else ((if s_iss (tb b) = true then tb b else 7), 0, b, b + 1)
def s_tok (tn : Nat) (tb : Nat → Nat) (at' : Nat) : Nat × (Nat × (Nat × Nat)) := s_tk1 tn tb (s_wh s_isb tb (tn - at') at')
theorem s_wh_b (P : Nat → Bool) (tb : Nat → Nat) : ∀ f i, i ≤ s_wh P tb f i ∧ s_wh P tb f i ≤ i + f
  | 0, i => ⟨Nat.le_refl _, Nat.le_refl _⟩
  | f + 1, i => by
    unfold s_wh
    split
    · have := s_wh_b P tb f (i + 1)
      omega
    · omega
theorem s_wh_s (P : Nat → Bool) (tb : Nat → Nat) {f i : Nat} (hf : 0 < f) (hP : P (tb i) = true) : i + 1 ≤ s_wh P tb f i := by
  obtain ⟨g, rfl⟩ : ∃ g, f = g + 1 := ⟨f - 1, by omega⟩
  unfold s_wh
  rw [if_pos hP]
  exact (s_wh_b P tb g (i + 1)).1
theorem s_wh_P (P : Nat → Bool) (tb : Nat → Nat) : ∀ f i j, i ≤ j → j < s_wh P tb f i → P (tb j) = true
  | 0, i, j, h1, h2 => by
    have : s_wh P tb 0 i = i := rfl
    omega
  | f + 1, i, j, h1, h2 => by
    unfold s_wh at h2
    split at h2
    · rename_i h
      by_cases e : i = j
      · rw [← e]
        exact h
      · exact s_wh_P P tb f (i + 1) j (by omega) h2
    · omega
theorem s_wdl_le : ∀ i, i < 96 → s_wdl.getD i 0 ≤ 122 := by decide
theorem s_wd_le {k c : Nat} (hk : k < 12) (hc : c < 8) : s_wd k c ≤ 122 := s_wdl_le _ (by omega)
theorem s_fw_le (tb : Nat → Nat) (b e : Nat) : ∀ m k, k + m = 12 → s_fw tb b e k m ≤ 12
  | 0, _, _ => Nat.le_refl _
  | m + 1, k, h => by
    unfold s_fw
    split
    · omega
    · exact s_fw_le tb b e m (k + 1) (by omega)
/-- bounds of a token -/
theorem s_tok_b {tn : Nat} {tb : Nat → Nat} (hb : ∀ i, i < tn → tb i ≤ 255) {a : Nat} (ha : a ≤ tn) : (s_tok tn tb a).1 ≤ 255 ∧ a ≤ (s_tok tn tb a).2.2.1 ∧ (s_tok tn tb a).2.2.1 ≤ (s_tok tn tb a).2.2.2 ∧ (s_tok tn tb a).2.2.2 ≤ tn ∧ ((s_tok tn tb a).1 ≠ 0 → a + 1 ≤ (s_tok tn tb a).2.2.2) := by
  have h1 := s_wh_b s_isb tb (tn - a) a
  unfold s_tok
  generalize s_wh s_isb tb (tn - a) a = b at h1
  unfold s_tk1
  by_cases e1 : tn ≤ b
  · rw [if_pos e1]
    exact ⟨by show 0 ≤ 255; omega, h1.1, Nat.le_refl _, by show b ≤ tn; omega, fun q => absurd rfl q⟩
  · rw [if_neg e1]
    by_cases e2 : s_isl (tb b) = true
    · rw [if_pos e2]
      have h2 := s_wh_b s_isl tb (tn - b) b
      have h3 := s_wh_s s_isl tb (f := tn - b) (i := b) (by omega) e2
      generalize s_wh s_isl tb (tn - b) b = e at h2 h3
      have h4 := s_fw_le tb b e 12 0 rfl
      generalize s_fw tb b e 0 12 = k at h4
      refine ⟨?_, h1.1, h2.1, by show e ≤ tn; omega, fun _ => by show a + 1 ≤ e; omega⟩
      show s_wK k ≤ 255
      unfold s_wK
      (repeat' split) <;> omega
    · rw [if_neg e2]
      by_cases e3 : s_isd (tb b) = true
      · rw [if_pos e3]
        have h2 := s_wh_b s_isd tb (tn - b) b
        have h3 := s_wh_s s_isd tb (f := tn - b) (i := b) (by omega) e3
        generalize s_wh s_isd tb (tn - b) b = e at h2 h3
        refine ⟨?_, h1.1, h2.1, by show e ≤ tn; omega, fun _ => by show a + 1 ≤ e; omega⟩
        show (if e - b ≤ 4 then 1 else 7) ≤ 255
        split <;> omega
      · rw [if_neg e3]
        refine ⟨?_, h1.1, by show b ≤ b + 1; omega, by show b + 1 ≤ tn; omega, fun _ => by show a + 1 ≤ b + 1; omega⟩
        show (if s_iss (tb b) = true then tb b else 7) ≤ 255
        split
        · exact hb b (by omega)
        · omega
def RMW (h : AH) : Prop := ∀ i, i < 96 → h.2.1 126 i = nI (s_wdl.getD i 0)
theorem RMW_Sq {l fs : List Nat} {h h' : AH} (S : Sq l fs h h') (R : RMW h) (hl : 126 ∉ l) : RMW h' := by
  unfold RMW at R ⊢
  rw [S.2.2.1 _ hl (by decide)]
  exact R
theorem RMT_Sq {l fs : List Nat} {tn : Nat} {tb : Nat → Nat} {h h' : AH} (S : Sq l fs h h') (R : RMT tn tb h) (hl : 108 ∉ l) (hf : 9 ∉ fs) : RMT tn tb h' := by
  unfold RMT at R ⊢
  rw [S.2.2.1 _ hl (by decide), S.2.2.2 9 hf]
  exact R
section MT1
variable {G : AG} {h : AH} {tn : Nat} {tb : Nat → Nat}
set_option maxRecDepth 100000 in
set_option maxHeartbeats 400000 in
theorem c_X7_wordFrom (M0 : TopM h) (RW : RMW h) (RT : RMT tn tb h) (hb : ∀ i, i < tn → tb i ≤ 255) {b e : Nat} (h1 : b ≤ e) (h2 : e ≤ tn) (h3 : tn ≤ 160) : AC G jX7_wordFrom 1 0 0 [.ref 100, .int (nI b), .int (nI e)] h (Pu (.int (nI (s_fw tb b e 0 12))) h) := by
  have M := M0
  unfold TopM at M
  have inner : ∀ (k : Nat), k < 12 → ∀ (m c : Nat) (lk : Bool) (Q : Option Value → AH → Prop), c + m = 8 → AW G 6 6 false cX7_wordFrom (Option.some FieldType.int) 1 Q 0 0 88 [(0, .ref 100), (1, .int (nI b)), (2, .int (nI e)), (3, .int (nI k)), (4, .int (if (lk && s_wc tb b e k c m) = true then 1 else 0))] [] h → AW G 6 6 false cX7_wordFrom (Option.some FieldType.int) 1 Q 0 0 26 [(0, .ref 100), (1, .int (nI b)), (2, .int (nI e)), (3, .int (nI k)), (4, .int (if lk = true then 1 else 0)), (5, .int (nI c))] [] h := by
    intro k hk m
    induction m with
    | zero =>
      intro c lk Q hc fin
      have ec : c = 8 := by omega
      subst ec
      have ge : ((8 : Int32) ≤ nI 8) = True := eq_true (by decide)
      rw [show s_wc tb b e k 8 0 = true from rfl, Bool.and_true] at fin
      refine ax_wq_ok (cuts := [ 2, 26, 88]) 60 ?_
      (simp only [lv_args, fn0, fn1, fn2, fn3, ax_wq_s, ax_step2, ax_ins2_u, ax_ins, ax_nx, ax_cut, ax_lk, ax_st1, ax_st2, ax_ins0, ax_tg, ax_go, ax_sw2, ax_lsw2, ax_kc_s, ax_kc_n, ax_rf_rf, ax_isR_rf, ct_int, ct_long, ct_ref, ct_null, ct_rf, rf_ref, rf_null, isR_ref, isR_null, va_rf_s, va_rf_n, gv_0, gv_1, gv_2, pv_i, pv_r, pv_n, pv_q, pk_0, pk_2, pk_2n, pk_2q, pk_10, pk_11, rok_i, rok_z0, rok_z1, ex_eq, ex_z, ex_z2, ex_cz, List.filter_cons, List.filter_nil, List.take_succ_cons, List.take_zero, List.drop_succ_cons, List.drop_zero, List.reverse_cons, List.reverse_nil, List.nil_append, List.cons_append, List.append_nil, List.length_cons, List.length_nil, List.map_cons, List.map_nil, List.sum_cons, List.sum_nil, Bool.not_true, Bool.not_false, Bool.and_true, Bool.true_and, Bool.and_false, Bool.false_and, Bool.or_false, Bool.false_or, Bool.true_or, Bool.or_true, beq_self_eq_true, Nat.reduceBEq, Nat.reduceAdd, Nat.reduceSub, Nat.reduceLT, Nat.reduceLeDiff, Nat.reduceEqDiff, Int.reduceAdd, Int.reduceNeg, Int.reduceToNat, Int.reduceLE, Int.reduceNatCast, Int.reduceNatCast', ↓reduceIte, if_true, if_false, true_and, and_true, false_and, and_false, true_or, or_true, false_or, or_false, Nat.sub_zero, Nat.le_refl, Bool.false_eq_true, Bool.true_eq_false, false_implies, true_implies, implies_true, not_true_eq_false, not_false_eq_true, eq_self, Fin.isValue, Nat.zero_add, Nat.add_zero, and_self, ne_eq, b01, Int32.reduceLT, Int32.reduceLE, z32, z64, vl_0, tl_0, vl_1, tl_1, vl_2, tl_2, vl_3, tl_3, vl_4, tl_4, vl_5, tl_5, vl_6, tl_6, vl_7, tl_7, vl_8, tl_8, vl_9, tl_9, Int.reduceSub, Int.reduceEq, Int.reduceLT, m_X7_wordFrom, dX7_wordFrom_0, ki_0, dX7_wordFrom_1, dX7_wordFrom_2, dX7_wordFrom_3, kb_12, dX7_wordFrom_5, dX7_wordFrom_8, dX7_wordFrom_9, dX7_wordFrom_10, dX7_wordFrom_11, kb_8, dX7_wordFrom_13, dX7_wordFrom_16, ki_1, dX7_wordFrom_17, dX7_wordFrom_20, dX7_wordFrom_21, dX7_wordFrom_23, dX7_wordFrom_24, dX7_wordFrom_26, dX7_wordFrom_28, dX7_wordFrom_30, dX7_wordFrom_33, dX7_wordFrom_35, dX7_wordFrom_38, dX7_wordFrom_39, fl_6_55, dX7_wordFrom_42, dX7_wordFrom_44, dX7_wordFrom_45, dX7_wordFrom_46, dX7_wordFrom_48, dX7_wordFrom_49, dX7_wordFrom_50, dX7_wordFrom_51, dX7_wordFrom_53, dX7_wordFrom_54, dX7_wordFrom_55, dX7_wordFrom_58, dX7_wordFrom_59, fl_6_31, dX7_wordFrom_62, dX7_wordFrom_63, dX7_wordFrom_65, dX7_wordFrom_66, dX7_wordFrom_67, dX7_wordFrom_70, kb_32, dX7_wordFrom_72, dX7_wordFrom_75, dX7_wordFrom_76, dX7_wordFrom_79, dX7_wordFrom_80, dX7_wordFrom_82, dX7_wordFrom_85, dX7_wordFrom_88, dX7_wordFrom_90, dX7_wordFrom_93, dX7_wordFrom_94, dX7_wordFrom_95, dX7_wordFrom_98, dX7_wordFrom_101, dX7_wordFrom_103, M, ge]; try simp only [ax_ife, if_true, if_false, true_implies, implies_true, false_implies, and_true, true_and, not_true_eq_false, not_false_eq_true])
      exact ax_sub (fun q hq => by simp only [List.mem_cons, List.not_mem_nil, or_false] at hq ⊢; rcases hq with hq | hq | hq | hq | hq <;> simp [hq]) fin
    | succ m ih =>
      intro c lk Q hc fin
      have ge : ((8 : Int32) ≤ nI c) = False := eq_false (fun q => by
        have := (i_Lle (n := 8) (by omega) (by decide)).mp q
        omega)
      cases lk with
      | false =>
        rw [Bool.false_and] at fin
        refine ax_wq_ok (cuts := [ 2, 26, 88]) 60 ?_
        (simp only [lv_args, fn0, fn1, fn2, fn3, ax_wq_s, ax_step2, ax_ins2_u, ax_ins, ax_nx, ax_cut, ax_lk, ax_st1, ax_st2, ax_ins0, ax_tg, ax_go, ax_sw2, ax_lsw2, ax_kc_s, ax_kc_n, ax_rf_rf, ax_isR_rf, ct_int, ct_long, ct_ref, ct_null, ct_rf, rf_ref, rf_null, isR_ref, isR_null, va_rf_s, va_rf_n, gv_0, gv_1, gv_2, pv_i, pv_r, pv_n, pv_q, pk_0, pk_2, pk_2n, pk_2q, pk_10, pk_11, rok_i, rok_z0, rok_z1, ex_eq, ex_z, ex_z2, ex_cz, List.filter_cons, List.filter_nil, List.take_succ_cons, List.take_zero, List.drop_succ_cons, List.drop_zero, List.reverse_cons, List.reverse_nil, List.nil_append, List.cons_append, List.append_nil, List.length_cons, List.length_nil, List.map_cons, List.map_nil, List.sum_cons, List.sum_nil, Bool.not_true, Bool.not_false, Bool.and_true, Bool.true_and, Bool.and_false, Bool.false_and, Bool.or_false, Bool.false_or, Bool.true_or, Bool.or_true, beq_self_eq_true, Nat.reduceBEq, Nat.reduceAdd, Nat.reduceSub, Nat.reduceLT, Nat.reduceLeDiff, Nat.reduceEqDiff, Int.reduceAdd, Int.reduceNeg, Int.reduceToNat, Int.reduceLE, Int.reduceNatCast, Int.reduceNatCast', ↓reduceIte, if_true, if_false, true_and, and_true, false_and, and_false, true_or, or_true, false_or, or_false, Nat.sub_zero, Nat.le_refl, Bool.false_eq_true, Bool.true_eq_false, false_implies, true_implies, implies_true, not_true_eq_false, not_false_eq_true, eq_self, Fin.isValue, Nat.zero_add, Nat.add_zero, and_self, ne_eq, b01, Int32.reduceLT, Int32.reduceLE, z32, z64, vl_0, tl_0, vl_1, tl_1, vl_2, tl_2, vl_3, tl_3, vl_4, tl_4, vl_5, tl_5, vl_6, tl_6, vl_7, tl_7, vl_8, tl_8, vl_9, tl_9, Int.reduceSub, Int.reduceEq, Int.reduceLT, m_X7_wordFrom, dX7_wordFrom_0, ki_0, dX7_wordFrom_1, dX7_wordFrom_2, dX7_wordFrom_3, kb_12, dX7_wordFrom_5, dX7_wordFrom_8, dX7_wordFrom_9, dX7_wordFrom_10, dX7_wordFrom_11, kb_8, dX7_wordFrom_13, dX7_wordFrom_16, ki_1, dX7_wordFrom_17, dX7_wordFrom_20, dX7_wordFrom_21, dX7_wordFrom_23, dX7_wordFrom_24, dX7_wordFrom_26, dX7_wordFrom_28, dX7_wordFrom_30, dX7_wordFrom_33, dX7_wordFrom_35, dX7_wordFrom_38, dX7_wordFrom_39, fl_6_55, dX7_wordFrom_42, dX7_wordFrom_44, dX7_wordFrom_45, dX7_wordFrom_46, dX7_wordFrom_48, dX7_wordFrom_49, dX7_wordFrom_50, dX7_wordFrom_51, dX7_wordFrom_53, dX7_wordFrom_54, dX7_wordFrom_55, dX7_wordFrom_58, dX7_wordFrom_59, fl_6_31, dX7_wordFrom_62, dX7_wordFrom_63, dX7_wordFrom_65, dX7_wordFrom_66, dX7_wordFrom_67, dX7_wordFrom_70, kb_32, dX7_wordFrom_72, dX7_wordFrom_75, dX7_wordFrom_76, dX7_wordFrom_79, dX7_wordFrom_80, dX7_wordFrom_82, dX7_wordFrom_85, dX7_wordFrom_88, dX7_wordFrom_90, dX7_wordFrom_93, dX7_wordFrom_94, dX7_wordFrom_95, dX7_wordFrom_98, dX7_wordFrom_101, dX7_wordFrom_103, M, ge]; try simp only [ax_ife, if_true, if_false, true_implies, implies_true, false_implies, and_true, true_and, not_true_eq_false, not_false_eq_true])
        exact ax_sub (fun q hq => by simp only [List.mem_cons, List.not_mem_nil, or_false] at hq ⊢; rcases hq with hq | hq | hq | hq | hq <;> simp [hq]) fin
      | true =>
        rw [Bool.true_and] at fin
        have f1 : (8 : Int32) * nI k + nI c = nI (8 * k + c) := by
          rw [show (8 : Int32) = nI 8 from rfl, pk_mul, nI_add]
        have f2 : (nI (8 * k + c)).toNatClampNeg = 8 * k + c := nI_clamp (by omega)
        have f3 : vp_in (nI (8 * k + c)) 96 := vp_in_nI (by omega) (by decide)
        have f4 : h.2.1 126 (8 * k + c) = nI (s_wd k c) := RW _ (by omega)
        have lw := s_wd_le hk (show c < 8 by omega)
        have g1 : nI b + nI c = nI (b + c) := nI_add _ _
        have ge2 : (nI e ≤ nI (b + c)) ↔ e ≤ b + c := nI_leI (by omega) (by omega)
        rw [show s_wc tb b e k c (m + 1) = ((s_wd k c == s_pd tb b e c) && s_wc tb b e k (c + 1) m) from rfl] at fin
        have one : ((1 : Int32) = 0) = False := eq_false (by decide)
        have go : ∀ lk', lk' = (s_wd k c == s_pd tb b e c) → AW G 6 6 false cX7_wordFrom (Option.some FieldType.int) 1 Q 0 0 26 [(0, .ref 100), (1, .int (nI b)), (2, .int (nI e)), (3, .int (nI k)), (4, .int (if lk' = true then 1 else 0)), (5, .int (nI (c + 1)))] [] h := fun lk' e => ih (c + 1) lk' Q (by omega) (by rw [e]; exact fin)
        by_cases hlt : b + c < e
        · have epd : s_pd tb b e c = tb (b + c) := if_pos hlt
          have g2 : (nI (b + c)).toNatClampNeg = b + c := nI_clamp (by omega)
          have g3 : vp_in (nI (b + c)) 160 := vp_in_nI (by omega) (by decide)
          have g4 := RT.2 (b + c) (by omega)
          have g5 := hb (b + c) (by omega)
          have g6 : (nI e ≤ nI (b + c)) = False := eq_false (fun q => by have := ge2.mp q; omega)
          have eq1 := nI_eq (a := s_wd k c) (b := tb (b + c)) (by omega) (by omega)
          rw [epd] at go
          by_cases hq : s_wd k c = tb (b + c)
          · have q2 := eq_true (eq1.mpr hq)
            have := go true (by simp [hq])
            refine ax_wq_ok (cuts := [ 2, 26, 88]) 60 ?_
            (simp only [lv_args, fn0, fn1, fn2, fn3, ax_wq_s, ax_step2, ax_ins2_u, ax_ins, ax_nx, ax_cut, ax_lk, ax_st1, ax_st2, ax_ins0, ax_tg, ax_go, ax_sw2, ax_lsw2, ax_kc_s, ax_kc_n, ax_rf_rf, ax_isR_rf, ct_int, ct_long, ct_ref, ct_null, ct_rf, rf_ref, rf_null, isR_ref, isR_null, va_rf_s, va_rf_n, gv_0, gv_1, gv_2, pv_i, pv_r, pv_n, pv_q, pk_0, pk_2, pk_2n, pk_2q, pk_10, pk_11, rok_i, rok_z0, rok_z1, ex_eq, ex_z, ex_z2, ex_cz, List.filter_cons, List.filter_nil, List.take_succ_cons, List.take_zero, List.drop_succ_cons, List.drop_zero, List.reverse_cons, List.reverse_nil, List.nil_append, List.cons_append, List.append_nil, List.length_cons, List.length_nil, List.map_cons, List.map_nil, List.sum_cons, List.sum_nil, Bool.not_true, Bool.not_false, Bool.and_true, Bool.true_and, Bool.and_false, Bool.false_and, Bool.or_false, Bool.false_or, Bool.true_or, Bool.or_true, beq_self_eq_true, Nat.reduceBEq, Nat.reduceAdd, Nat.reduceSub, Nat.reduceLT, Nat.reduceLeDiff, Nat.reduceEqDiff, Int.reduceAdd, Int.reduceNeg, Int.reduceToNat, Int.reduceLE, Int.reduceNatCast, Int.reduceNatCast', ↓reduceIte, if_true, if_false, true_and, and_true, false_and, and_false, true_or, or_true, false_or, or_false, Nat.sub_zero, Nat.le_refl, Bool.false_eq_true, Bool.true_eq_false, false_implies, true_implies, implies_true, not_true_eq_false, not_false_eq_true, eq_self, Fin.isValue, Nat.zero_add, Nat.add_zero, and_self, ne_eq, b01, Int32.reduceLT, Int32.reduceLE, z32, z64, vl_0, tl_0, vl_1, tl_1, vl_2, tl_2, vl_3, tl_3, vl_4, tl_4, vl_5, tl_5, vl_6, tl_6, vl_7, tl_7, vl_8, tl_8, vl_9, tl_9, Int.reduceSub, Int.reduceEq, Int.reduceLT, m_X7_wordFrom, dX7_wordFrom_0, ki_0, dX7_wordFrom_1, dX7_wordFrom_2, dX7_wordFrom_3, kb_12, dX7_wordFrom_5, dX7_wordFrom_8, dX7_wordFrom_9, dX7_wordFrom_10, dX7_wordFrom_11, kb_8, dX7_wordFrom_13, dX7_wordFrom_16, ki_1, dX7_wordFrom_17, dX7_wordFrom_20, dX7_wordFrom_21, dX7_wordFrom_23, dX7_wordFrom_24, dX7_wordFrom_26, dX7_wordFrom_28, dX7_wordFrom_30, dX7_wordFrom_33, dX7_wordFrom_35, dX7_wordFrom_38, dX7_wordFrom_39, fl_6_55, dX7_wordFrom_42, dX7_wordFrom_44, dX7_wordFrom_45, dX7_wordFrom_46, dX7_wordFrom_48, dX7_wordFrom_49, dX7_wordFrom_50, dX7_wordFrom_51, dX7_wordFrom_53, dX7_wordFrom_54, dX7_wordFrom_55, dX7_wordFrom_58, dX7_wordFrom_59, fl_6_31, dX7_wordFrom_62, dX7_wordFrom_63, dX7_wordFrom_65, dX7_wordFrom_66, dX7_wordFrom_67, dX7_wordFrom_70, kb_32, dX7_wordFrom_72, dX7_wordFrom_75, dX7_wordFrom_76, dX7_wordFrom_79, dX7_wordFrom_80, dX7_wordFrom_82, dX7_wordFrom_85, dX7_wordFrom_88, dX7_wordFrom_90, dX7_wordFrom_93, dX7_wordFrom_94, dX7_wordFrom_95, dX7_wordFrom_98, dX7_wordFrom_101, dX7_wordFrom_103, M, ge, f1, f2, f3, f4, g1, g2, g3, g4, g6, q2, one, nI_1]; try simp only [ax_ife, if_true, if_false, true_implies, implies_true, false_implies, and_true, true_and, not_true_eq_false, not_false_eq_true])
            exact this
          · have q2 := eq_false (fun q => hq (eq1.mp q))
            have := go false (by simp [hq])
            refine ax_wq_ok (cuts := [ 2, 26, 88]) 60 ?_
            (simp only [lv_args, fn0, fn1, fn2, fn3, ax_wq_s, ax_step2, ax_ins2_u, ax_ins, ax_nx, ax_cut, ax_lk, ax_st1, ax_st2, ax_ins0, ax_tg, ax_go, ax_sw2, ax_lsw2, ax_kc_s, ax_kc_n, ax_rf_rf, ax_isR_rf, ct_int, ct_long, ct_ref, ct_null, ct_rf, rf_ref, rf_null, isR_ref, isR_null, va_rf_s, va_rf_n, gv_0, gv_1, gv_2, pv_i, pv_r, pv_n, pv_q, pk_0, pk_2, pk_2n, pk_2q, pk_10, pk_11, rok_i, rok_z0, rok_z1, ex_eq, ex_z, ex_z2, ex_cz, List.filter_cons, List.filter_nil, List.take_succ_cons, List.take_zero, List.drop_succ_cons, List.drop_zero, List.reverse_cons, List.reverse_nil, List.nil_append, List.cons_append, List.append_nil, List.length_cons, List.length_nil, List.map_cons, List.map_nil, List.sum_cons, List.sum_nil, Bool.not_true, Bool.not_false, Bool.and_true, Bool.true_and, Bool.and_false, Bool.false_and, Bool.or_false, Bool.false_or, Bool.true_or, Bool.or_true, beq_self_eq_true, Nat.reduceBEq, Nat.reduceAdd, Nat.reduceSub, Nat.reduceLT, Nat.reduceLeDiff, Nat.reduceEqDiff, Int.reduceAdd, Int.reduceNeg, Int.reduceToNat, Int.reduceLE, Int.reduceNatCast, Int.reduceNatCast', ↓reduceIte, if_true, if_false, true_and, and_true, false_and, and_false, true_or, or_true, false_or, or_false, Nat.sub_zero, Nat.le_refl, Bool.false_eq_true, Bool.true_eq_false, false_implies, true_implies, implies_true, not_true_eq_false, not_false_eq_true, eq_self, Fin.isValue, Nat.zero_add, Nat.add_zero, and_self, ne_eq, b01, Int32.reduceLT, Int32.reduceLE, z32, z64, vl_0, tl_0, vl_1, tl_1, vl_2, tl_2, vl_3, tl_3, vl_4, tl_4, vl_5, tl_5, vl_6, tl_6, vl_7, tl_7, vl_8, tl_8, vl_9, tl_9, Int.reduceSub, Int.reduceEq, Int.reduceLT, m_X7_wordFrom, dX7_wordFrom_0, ki_0, dX7_wordFrom_1, dX7_wordFrom_2, dX7_wordFrom_3, kb_12, dX7_wordFrom_5, dX7_wordFrom_8, dX7_wordFrom_9, dX7_wordFrom_10, dX7_wordFrom_11, kb_8, dX7_wordFrom_13, dX7_wordFrom_16, ki_1, dX7_wordFrom_17, dX7_wordFrom_20, dX7_wordFrom_21, dX7_wordFrom_23, dX7_wordFrom_24, dX7_wordFrom_26, dX7_wordFrom_28, dX7_wordFrom_30, dX7_wordFrom_33, dX7_wordFrom_35, dX7_wordFrom_38, dX7_wordFrom_39, fl_6_55, dX7_wordFrom_42, dX7_wordFrom_44, dX7_wordFrom_45, dX7_wordFrom_46, dX7_wordFrom_48, dX7_wordFrom_49, dX7_wordFrom_50, dX7_wordFrom_51, dX7_wordFrom_53, dX7_wordFrom_54, dX7_wordFrom_55, dX7_wordFrom_58, dX7_wordFrom_59, fl_6_31, dX7_wordFrom_62, dX7_wordFrom_63, dX7_wordFrom_65, dX7_wordFrom_66, dX7_wordFrom_67, dX7_wordFrom_70, kb_32, dX7_wordFrom_72, dX7_wordFrom_75, dX7_wordFrom_76, dX7_wordFrom_79, dX7_wordFrom_80, dX7_wordFrom_82, dX7_wordFrom_85, dX7_wordFrom_88, dX7_wordFrom_90, dX7_wordFrom_93, dX7_wordFrom_94, dX7_wordFrom_95, dX7_wordFrom_98, dX7_wordFrom_101, dX7_wordFrom_103, M, ge, f1, f2, f3, f4, g1, g2, g3, g4, g6, q2, one, nI_1]; try simp only [ax_ife, if_true, if_false, true_implies, implies_true, false_implies, and_true, true_and, not_true_eq_false, not_false_eq_true])
            exact this
        · have epd : s_pd tb b e c = 32 := if_neg hlt
          have g6 : (nI e ≤ nI (b + c)) = True := eq_true (ge2.mpr (by omega))
          have eq1 := i_eqL (a := s_wd k c) (n := 32) (by omega) (by decide)
          rw [epd] at go
          by_cases hq : s_wd k c = 32
          · have q2 : (nI (s_wd k c) = 32) = True := eq_true (eq1.mpr hq)
            have := go true (by simp [hq])
            refine ax_wq_ok (cuts := [ 2, 26, 88]) 60 ?_
            (simp only [lv_args, fn0, fn1, fn2, fn3, ax_wq_s, ax_step2, ax_ins2_u, ax_ins, ax_nx, ax_cut, ax_lk, ax_st1, ax_st2, ax_ins0, ax_tg, ax_go, ax_sw2, ax_lsw2, ax_kc_s, ax_kc_n, ax_rf_rf, ax_isR_rf, ct_int, ct_long, ct_ref, ct_null, ct_rf, rf_ref, rf_null, isR_ref, isR_null, va_rf_s, va_rf_n, gv_0, gv_1, gv_2, pv_i, pv_r, pv_n, pv_q, pk_0, pk_2, pk_2n, pk_2q, pk_10, pk_11, rok_i, rok_z0, rok_z1, ex_eq, ex_z, ex_z2, ex_cz, List.filter_cons, List.filter_nil, List.take_succ_cons, List.take_zero, List.drop_succ_cons, List.drop_zero, List.reverse_cons, List.reverse_nil, List.nil_append, List.cons_append, List.append_nil, List.length_cons, List.length_nil, List.map_cons, List.map_nil, List.sum_cons, List.sum_nil, Bool.not_true, Bool.not_false, Bool.and_true, Bool.true_and, Bool.and_false, Bool.false_and, Bool.or_false, Bool.false_or, Bool.true_or, Bool.or_true, beq_self_eq_true, Nat.reduceBEq, Nat.reduceAdd, Nat.reduceSub, Nat.reduceLT, Nat.reduceLeDiff, Nat.reduceEqDiff, Int.reduceAdd, Int.reduceNeg, Int.reduceToNat, Int.reduceLE, Int.reduceNatCast, Int.reduceNatCast', ↓reduceIte, if_true, if_false, true_and, and_true, false_and, and_false, true_or, or_true, false_or, or_false, Nat.sub_zero, Nat.le_refl, Bool.false_eq_true, Bool.true_eq_false, false_implies, true_implies, implies_true, not_true_eq_false, not_false_eq_true, eq_self, Fin.isValue, Nat.zero_add, Nat.add_zero, and_self, ne_eq, b01, Int32.reduceLT, Int32.reduceLE, z32, z64, vl_0, tl_0, vl_1, tl_1, vl_2, tl_2, vl_3, tl_3, vl_4, tl_4, vl_5, tl_5, vl_6, tl_6, vl_7, tl_7, vl_8, tl_8, vl_9, tl_9, Int.reduceSub, Int.reduceEq, Int.reduceLT, m_X7_wordFrom, dX7_wordFrom_0, ki_0, dX7_wordFrom_1, dX7_wordFrom_2, dX7_wordFrom_3, kb_12, dX7_wordFrom_5, dX7_wordFrom_8, dX7_wordFrom_9, dX7_wordFrom_10, dX7_wordFrom_11, kb_8, dX7_wordFrom_13, dX7_wordFrom_16, ki_1, dX7_wordFrom_17, dX7_wordFrom_20, dX7_wordFrom_21, dX7_wordFrom_23, dX7_wordFrom_24, dX7_wordFrom_26, dX7_wordFrom_28, dX7_wordFrom_30, dX7_wordFrom_33, dX7_wordFrom_35, dX7_wordFrom_38, dX7_wordFrom_39, fl_6_55, dX7_wordFrom_42, dX7_wordFrom_44, dX7_wordFrom_45, dX7_wordFrom_46, dX7_wordFrom_48, dX7_wordFrom_49, dX7_wordFrom_50, dX7_wordFrom_51, dX7_wordFrom_53, dX7_wordFrom_54, dX7_wordFrom_55, dX7_wordFrom_58, dX7_wordFrom_59, fl_6_31, dX7_wordFrom_62, dX7_wordFrom_63, dX7_wordFrom_65, dX7_wordFrom_66, dX7_wordFrom_67, dX7_wordFrom_70, kb_32, dX7_wordFrom_72, dX7_wordFrom_75, dX7_wordFrom_76, dX7_wordFrom_79, dX7_wordFrom_80, dX7_wordFrom_82, dX7_wordFrom_85, dX7_wordFrom_88, dX7_wordFrom_90, dX7_wordFrom_93, dX7_wordFrom_94, dX7_wordFrom_95, dX7_wordFrom_98, dX7_wordFrom_101, dX7_wordFrom_103, M, ge, f1, f2, f3, f4, g1, g6, q2, one, nI_1]; try simp only [ax_ife, if_true, if_false, true_implies, implies_true, false_implies, and_true, true_and, not_true_eq_false, not_false_eq_true])
            exact this
          · have q2 : (nI (s_wd k c) = 32) = False := eq_false (fun q => hq (eq1.mp q))
            have := go false (by simp [hq])
            refine ax_wq_ok (cuts := [ 2, 26, 88]) 60 ?_
            (simp only [lv_args, fn0, fn1, fn2, fn3, ax_wq_s, ax_step2, ax_ins2_u, ax_ins, ax_nx, ax_cut, ax_lk, ax_st1, ax_st2, ax_ins0, ax_tg, ax_go, ax_sw2, ax_lsw2, ax_kc_s, ax_kc_n, ax_rf_rf, ax_isR_rf, ct_int, ct_long, ct_ref, ct_null, ct_rf, rf_ref, rf_null, isR_ref, isR_null, va_rf_s, va_rf_n, gv_0, gv_1, gv_2, pv_i, pv_r, pv_n, pv_q, pk_0, pk_2, pk_2n, pk_2q, pk_10, pk_11, rok_i, rok_z0, rok_z1, ex_eq, ex_z, ex_z2, ex_cz, List.filter_cons, List.filter_nil, List.take_succ_cons, List.take_zero, List.drop_succ_cons, List.drop_zero, List.reverse_cons, List.reverse_nil, List.nil_append, List.cons_append, List.append_nil, List.length_cons, List.length_nil, List.map_cons, List.map_nil, List.sum_cons, List.sum_nil, Bool.not_true, Bool.not_false, Bool.and_true, Bool.true_and, Bool.and_false, Bool.false_and, Bool.or_false, Bool.false_or, Bool.true_or, Bool.or_true, beq_self_eq_true, Nat.reduceBEq, Nat.reduceAdd, Nat.reduceSub, Nat.reduceLT, Nat.reduceLeDiff, Nat.reduceEqDiff, Int.reduceAdd, Int.reduceNeg, Int.reduceToNat, Int.reduceLE, Int.reduceNatCast, Int.reduceNatCast', ↓reduceIte, if_true, if_false, true_and, and_true, false_and, and_false, true_or, or_true, false_or, or_false, Nat.sub_zero, Nat.le_refl, Bool.false_eq_true, Bool.true_eq_false, false_implies, true_implies, implies_true, not_true_eq_false, not_false_eq_true, eq_self, Fin.isValue, Nat.zero_add, Nat.add_zero, and_self, ne_eq, b01, Int32.reduceLT, Int32.reduceLE, z32, z64, vl_0, tl_0, vl_1, tl_1, vl_2, tl_2, vl_3, tl_3, vl_4, tl_4, vl_5, tl_5, vl_6, tl_6, vl_7, tl_7, vl_8, tl_8, vl_9, tl_9, Int.reduceSub, Int.reduceEq, Int.reduceLT, m_X7_wordFrom, dX7_wordFrom_0, ki_0, dX7_wordFrom_1, dX7_wordFrom_2, dX7_wordFrom_3, kb_12, dX7_wordFrom_5, dX7_wordFrom_8, dX7_wordFrom_9, dX7_wordFrom_10, dX7_wordFrom_11, kb_8, dX7_wordFrom_13, dX7_wordFrom_16, ki_1, dX7_wordFrom_17, dX7_wordFrom_20, dX7_wordFrom_21, dX7_wordFrom_23, dX7_wordFrom_24, dX7_wordFrom_26, dX7_wordFrom_28, dX7_wordFrom_30, dX7_wordFrom_33, dX7_wordFrom_35, dX7_wordFrom_38, dX7_wordFrom_39, fl_6_55, dX7_wordFrom_42, dX7_wordFrom_44, dX7_wordFrom_45, dX7_wordFrom_46, dX7_wordFrom_48, dX7_wordFrom_49, dX7_wordFrom_50, dX7_wordFrom_51, dX7_wordFrom_53, dX7_wordFrom_54, dX7_wordFrom_55, dX7_wordFrom_58, dX7_wordFrom_59, fl_6_31, dX7_wordFrom_62, dX7_wordFrom_63, dX7_wordFrom_65, dX7_wordFrom_66, dX7_wordFrom_67, dX7_wordFrom_70, kb_32, dX7_wordFrom_72, dX7_wordFrom_75, dX7_wordFrom_76, dX7_wordFrom_79, dX7_wordFrom_80, dX7_wordFrom_82, dX7_wordFrom_85, dX7_wordFrom_88, dX7_wordFrom_90, dX7_wordFrom_93, dX7_wordFrom_94, dX7_wordFrom_95, dX7_wordFrom_98, dX7_wordFrom_101, dX7_wordFrom_103, M, ge, f1, f2, f3, f4, g1, g6, q2, one, nI_1]; try simp only [ax_ife, if_true, if_false, true_implies, implies_true, false_implies, and_true, true_and, not_true_eq_false, not_false_eq_true])
            exact this
  have es : nI e - nI b = nI (e - b) := pk_sub h1
  have e8 : ((8 : Int32) < nI (e - b)) ↔ 8 < e - b := i_Llt (n := 8) (by omega) (by decide)
  have lp : ∀ (m k : Nat), k + m = 12 → AW G 6 6 false cX7_wordFrom (Option.some FieldType.int) 1 (Pu (.int (nI (s_fw tb b e k m))) h) 0 0 2 [(0, .ref 100), (1, .int (nI b)), (2, .int (nI e)), (3, .int (nI k))] [] h := by
    intro m
    induction m with
    | zero =>
      intro k hk
      have ec : k = 12 := by omega
      subst ec
      have ge : ((12 : Int32) ≤ nI 12) = True := eq_true (by decide)
      refine ax_wq_ok (cuts := [ 2, 26]) 60 ?_
      (simp only [lv_args, fn0, fn1, fn2, fn3, ax_wq_s, ax_step2, ax_ins2_u, ax_ins, ax_nx, ax_cut, ax_lk, ax_st1, ax_st2, ax_ins0, ax_tg, ax_go, ax_sw2, ax_lsw2, ax_kc_s, ax_kc_n, ax_rf_rf, ax_isR_rf, ct_int, ct_long, ct_ref, ct_null, ct_rf, rf_ref, rf_null, isR_ref, isR_null, va_rf_s, va_rf_n, gv_0, gv_1, gv_2, pv_i, pv_r, pv_n, pv_q, pk_0, pk_2, pk_2n, pk_2q, pk_10, pk_11, rok_i, rok_z0, rok_z1, ex_eq, ex_z, ex_z2, ex_cz, List.filter_cons, List.filter_nil, List.take_succ_cons, List.take_zero, List.drop_succ_cons, List.drop_zero, List.reverse_cons, List.reverse_nil, List.nil_append, List.cons_append, List.append_nil, List.length_cons, List.length_nil, List.map_cons, List.map_nil, List.sum_cons, List.sum_nil, Bool.not_true, Bool.not_false, Bool.and_true, Bool.true_and, Bool.and_false, Bool.false_and, Bool.or_false, Bool.false_or, Bool.true_or, Bool.or_true, beq_self_eq_true, Nat.reduceBEq, Nat.reduceAdd, Nat.reduceSub, Nat.reduceLT, Nat.reduceLeDiff, Nat.reduceEqDiff, Int.reduceAdd, Int.reduceNeg, Int.reduceToNat, Int.reduceLE, Int.reduceNatCast, Int.reduceNatCast', ↓reduceIte, if_true, if_false, true_and, and_true, false_and, and_false, true_or, or_true, false_or, or_false, Nat.sub_zero, Nat.le_refl, Bool.false_eq_true, Bool.true_eq_false, false_implies, true_implies, implies_true, not_true_eq_false, not_false_eq_true, eq_self, Fin.isValue, Nat.zero_add, Nat.add_zero, and_self, ne_eq, b01, Int32.reduceLT, Int32.reduceLE, z32, z64, vl_0, tl_0, vl_1, tl_1, vl_2, tl_2, vl_3, tl_3, vl_4, tl_4, vl_5, tl_5, vl_6, tl_6, vl_7, tl_7, vl_8, tl_8, vl_9, tl_9, Int.reduceSub, Int.reduceEq, Int.reduceLT, m_X7_wordFrom, dX7_wordFrom_0, ki_0, dX7_wordFrom_1, dX7_wordFrom_2, dX7_wordFrom_3, kb_12, dX7_wordFrom_5, dX7_wordFrom_8, dX7_wordFrom_9, dX7_wordFrom_10, dX7_wordFrom_11, kb_8, dX7_wordFrom_13, dX7_wordFrom_16, ki_1, dX7_wordFrom_17, dX7_wordFrom_20, dX7_wordFrom_21, dX7_wordFrom_23, dX7_wordFrom_24, dX7_wordFrom_26, dX7_wordFrom_28, dX7_wordFrom_30, dX7_wordFrom_33, dX7_wordFrom_35, dX7_wordFrom_38, dX7_wordFrom_39, fl_6_55, dX7_wordFrom_42, dX7_wordFrom_44, dX7_wordFrom_45, dX7_wordFrom_46, dX7_wordFrom_48, dX7_wordFrom_49, dX7_wordFrom_50, dX7_wordFrom_51, dX7_wordFrom_53, dX7_wordFrom_54, dX7_wordFrom_55, dX7_wordFrom_58, dX7_wordFrom_59, fl_6_31, dX7_wordFrom_62, dX7_wordFrom_63, dX7_wordFrom_65, dX7_wordFrom_66, dX7_wordFrom_67, dX7_wordFrom_70, kb_32, dX7_wordFrom_72, dX7_wordFrom_75, dX7_wordFrom_76, dX7_wordFrom_79, dX7_wordFrom_80, dX7_wordFrom_82, dX7_wordFrom_85, dX7_wordFrom_88, dX7_wordFrom_90, dX7_wordFrom_93, dX7_wordFrom_94, dX7_wordFrom_95, dX7_wordFrom_98, dX7_wordFrom_101, dX7_wordFrom_103, M, ge]; try simp only [ax_ife, if_true, if_false, true_implies, implies_true, false_implies, and_true, true_and, not_true_eq_false, not_false_eq_true])
      exact ⟨rfl, rfl⟩
    | succ m ih =>
      intro k hk
      have ge : ((12 : Int32) ≤ nI k) = False := eq_false (fun q => by
        have := (i_Lle (n := 12) (by omega) (by decide)).mp q
        omega)
      have fin : AW G 6 6 false cX7_wordFrom (Option.some FieldType.int) 1 (Pu (.int (nI (s_fw tb b e k (m + 1)))) h) 0 0 88 [(0, .ref 100), (1, .int (nI b)), (2, .int (nI e)), (3, .int (nI k)), (4, .int (if s_wk tb b e k = true then 1 else 0))] [] h := by
        rw [show s_fw tb b e k (m + 1) = if s_wk tb b e k = true then k else s_fw tb b e (k + 1) m from rfl]
        by_cases q : s_wk tb b e k = true
        · rw [if_pos q, if_pos q]
          refine ax_wq_ok (cuts := [ 2, 26]) 60 ?_
          (simp only [lv_args, fn0, fn1, fn2, fn3, ax_wq_s, ax_step2, ax_ins2_u, ax_ins, ax_nx, ax_cut, ax_lk, ax_st1, ax_st2, ax_ins0, ax_tg, ax_go, ax_sw2, ax_lsw2, ax_kc_s, ax_kc_n, ax_rf_rf, ax_isR_rf, ct_int, ct_long, ct_ref, ct_null, ct_rf, rf_ref, rf_null, isR_ref, isR_null, va_rf_s, va_rf_n, gv_0, gv_1, gv_2, pv_i, pv_r, pv_n, pv_q, pk_0, pk_2, pk_2n, pk_2q, pk_10, pk_11, rok_i, rok_z0, rok_z1, ex_eq, ex_z, ex_z2, ex_cz, List.filter_cons, List.filter_nil, List.take_succ_cons, List.take_zero, List.drop_succ_cons, List.drop_zero, List.reverse_cons, List.reverse_nil, List.nil_append, List.cons_append, List.append_nil, List.length_cons, List.length_nil, List.map_cons, List.map_nil, List.sum_cons, List.sum_nil, Bool.not_true, Bool.not_false, Bool.and_true, Bool.true_and, Bool.and_false, Bool.false_and, Bool.or_false, Bool.false_or, Bool.true_or, Bool.or_true, beq_self_eq_true, Nat.reduceBEq, Nat.reduceAdd, Nat.reduceSub, Nat.reduceLT, Nat.reduceLeDiff, Nat.reduceEqDiff, Int.reduceAdd, Int.reduceNeg, Int.reduceToNat, Int.reduceLE, Int.reduceNatCast, Int.reduceNatCast', ↓reduceIte, if_true, if_false, true_and, and_true, false_and, and_false, true_or, or_true, false_or, or_false, Nat.sub_zero, Nat.le_refl, Bool.false_eq_true, Bool.true_eq_false, false_implies, true_implies, implies_true, not_true_eq_false, not_false_eq_true, eq_self, Fin.isValue, Nat.zero_add, Nat.add_zero, and_self, ne_eq, b01, Int32.reduceLT, Int32.reduceLE, z32, z64, vl_0, tl_0, vl_1, tl_1, vl_2, tl_2, vl_3, tl_3, vl_4, tl_4, vl_5, tl_5, vl_6, tl_6, vl_7, tl_7, vl_8, tl_8, vl_9, tl_9, Int.reduceSub, Int.reduceEq, Int.reduceLT, m_X7_wordFrom, dX7_wordFrom_0, ki_0, dX7_wordFrom_1, dX7_wordFrom_2, dX7_wordFrom_3, kb_12, dX7_wordFrom_5, dX7_wordFrom_8, dX7_wordFrom_9, dX7_wordFrom_10, dX7_wordFrom_11, kb_8, dX7_wordFrom_13, dX7_wordFrom_16, ki_1, dX7_wordFrom_17, dX7_wordFrom_20, dX7_wordFrom_21, dX7_wordFrom_23, dX7_wordFrom_24, dX7_wordFrom_26, dX7_wordFrom_28, dX7_wordFrom_30, dX7_wordFrom_33, dX7_wordFrom_35, dX7_wordFrom_38, dX7_wordFrom_39, fl_6_55, dX7_wordFrom_42, dX7_wordFrom_44, dX7_wordFrom_45, dX7_wordFrom_46, dX7_wordFrom_48, dX7_wordFrom_49, dX7_wordFrom_50, dX7_wordFrom_51, dX7_wordFrom_53, dX7_wordFrom_54, dX7_wordFrom_55, dX7_wordFrom_58, dX7_wordFrom_59, fl_6_31, dX7_wordFrom_62, dX7_wordFrom_63, dX7_wordFrom_65, dX7_wordFrom_66, dX7_wordFrom_67, dX7_wordFrom_70, kb_32, dX7_wordFrom_72, dX7_wordFrom_75, dX7_wordFrom_76, dX7_wordFrom_79, dX7_wordFrom_80, dX7_wordFrom_82, dX7_wordFrom_85, dX7_wordFrom_88, dX7_wordFrom_90, dX7_wordFrom_93, dX7_wordFrom_94, dX7_wordFrom_95, dX7_wordFrom_98, dX7_wordFrom_101, dX7_wordFrom_103, show ((1 : Int32) = 0) = False from eq_false (by decide)]; try simp only [ax_ife, if_true, if_false, true_implies, implies_true, false_implies, and_true, true_and, not_true_eq_false, not_false_eq_true])
          exact ⟨rfl, rfl⟩
        · rw [if_neg q, if_neg q]
          have := ih (k + 1) (by omega)
          refine ax_wq_ok (cuts := [ 2, 26]) 60 ?_
          (simp only [lv_args, fn0, fn1, fn2, fn3, ax_wq_s, ax_step2, ax_ins2_u, ax_ins, ax_nx, ax_cut, ax_lk, ax_st1, ax_st2, ax_ins0, ax_tg, ax_go, ax_sw2, ax_lsw2, ax_kc_s, ax_kc_n, ax_rf_rf, ax_isR_rf, ct_int, ct_long, ct_ref, ct_null, ct_rf, rf_ref, rf_null, isR_ref, isR_null, va_rf_s, va_rf_n, gv_0, gv_1, gv_2, pv_i, pv_r, pv_n, pv_q, pk_0, pk_2, pk_2n, pk_2q, pk_10, pk_11, rok_i, rok_z0, rok_z1, ex_eq, ex_z, ex_z2, ex_cz, List.filter_cons, List.filter_nil, List.take_succ_cons, List.take_zero, List.drop_succ_cons, List.drop_zero, List.reverse_cons, List.reverse_nil, List.nil_append, List.cons_append, List.append_nil, List.length_cons, List.length_nil, List.map_cons, List.map_nil, List.sum_cons, List.sum_nil, Bool.not_true, Bool.not_false, Bool.and_true, Bool.true_and, Bool.and_false, Bool.false_and, Bool.or_false, Bool.false_or, Bool.true_or, Bool.or_true, beq_self_eq_true, Nat.reduceBEq, Nat.reduceAdd, Nat.reduceSub, Nat.reduceLT, Nat.reduceLeDiff, Nat.reduceEqDiff, Int.reduceAdd, Int.reduceNeg, Int.reduceToNat, Int.reduceLE, Int.reduceNatCast, Int.reduceNatCast', ↓reduceIte, if_true, if_false, true_and, and_true, false_and, and_false, true_or, or_true, false_or, or_false, Nat.sub_zero, Nat.le_refl, Bool.false_eq_true, Bool.true_eq_false, false_implies, true_implies, implies_true, not_true_eq_false, not_false_eq_true, eq_self, Fin.isValue, Nat.zero_add, Nat.add_zero, and_self, ne_eq, b01, Int32.reduceLT, Int32.reduceLE, z32, z64, vl_0, tl_0, vl_1, tl_1, vl_2, tl_2, vl_3, tl_3, vl_4, tl_4, vl_5, tl_5, vl_6, tl_6, vl_7, tl_7, vl_8, tl_8, vl_9, tl_9, Int.reduceSub, Int.reduceEq, Int.reduceLT, m_X7_wordFrom, dX7_wordFrom_0, ki_0, dX7_wordFrom_1, dX7_wordFrom_2, dX7_wordFrom_3, kb_12, dX7_wordFrom_5, dX7_wordFrom_8, dX7_wordFrom_9, dX7_wordFrom_10, dX7_wordFrom_11, kb_8, dX7_wordFrom_13, dX7_wordFrom_16, ki_1, dX7_wordFrom_17, dX7_wordFrom_20, dX7_wordFrom_21, dX7_wordFrom_23, dX7_wordFrom_24, dX7_wordFrom_26, dX7_wordFrom_28, dX7_wordFrom_30, dX7_wordFrom_33, dX7_wordFrom_35, dX7_wordFrom_38, dX7_wordFrom_39, fl_6_55, dX7_wordFrom_42, dX7_wordFrom_44, dX7_wordFrom_45, dX7_wordFrom_46, dX7_wordFrom_48, dX7_wordFrom_49, dX7_wordFrom_50, dX7_wordFrom_51, dX7_wordFrom_53, dX7_wordFrom_54, dX7_wordFrom_55, dX7_wordFrom_58, dX7_wordFrom_59, fl_6_31, dX7_wordFrom_62, dX7_wordFrom_63, dX7_wordFrom_65, dX7_wordFrom_66, dX7_wordFrom_67, dX7_wordFrom_70, kb_32, dX7_wordFrom_72, dX7_wordFrom_75, dX7_wordFrom_76, dX7_wordFrom_79, dX7_wordFrom_80, dX7_wordFrom_82, dX7_wordFrom_85, dX7_wordFrom_88, dX7_wordFrom_90, dX7_wordFrom_93, dX7_wordFrom_94, dX7_wordFrom_95, dX7_wordFrom_98, dX7_wordFrom_101, dX7_wordFrom_103, nI_1]; try simp only [ax_ife, if_true, if_false, true_implies, implies_true, false_implies, and_true, true_and, not_true_eq_false, not_false_eq_true])
          exact ax_sub (fun q hq => by simp only [List.mem_cons, List.not_mem_nil, or_false] at hq ⊢; rcases hq with hq | hq | hq | hq <;> simp [hq]) this
      have g := inner k (by omega) 8 0
      refine ax_wq_ok (cuts := [ 2, 26]) 60 ?_
      by_cases q : 8 < e - b
      · have e8' := eq_true (e8.mpr q)
        have := g false _ rfl (by
          rw [Bool.false_and]
          have hwk : s_wk tb b e k = false := by
            unfold s_wk
            rw [decide_eq_false (by omega), Bool.false_and]
          rw [hwk] at fin
          exact fin)
        (simp only [lv_args, fn0, fn1, fn2, fn3, ax_wq_s, ax_step2, ax_ins2_u, ax_ins, ax_nx, ax_cut, ax_lk, ax_st1, ax_st2, ax_ins0, ax_tg, ax_go, ax_sw2, ax_lsw2, ax_kc_s, ax_kc_n, ax_rf_rf, ax_isR_rf, ct_int, ct_long, ct_ref, ct_null, ct_rf, rf_ref, rf_null, isR_ref, isR_null, va_rf_s, va_rf_n, gv_0, gv_1, gv_2, pv_i, pv_r, pv_n, pv_q, pk_0, pk_2, pk_2n, pk_2q, pk_10, pk_11, rok_i, rok_z0, rok_z1, ex_eq, ex_z, ex_z2, ex_cz, List.filter_cons, List.filter_nil, List.take_succ_cons, List.take_zero, List.drop_succ_cons, List.drop_zero, List.reverse_cons, List.reverse_nil, List.nil_append, List.cons_append, List.append_nil, List.length_cons, List.length_nil, List.map_cons, List.map_nil, List.sum_cons, List.sum_nil, Bool.not_true, Bool.not_false, Bool.and_true, Bool.true_and, Bool.and_false, Bool.false_and, Bool.or_false, Bool.false_or, Bool.true_or, Bool.or_true, beq_self_eq_true, Nat.reduceBEq, Nat.reduceAdd, Nat.reduceSub, Nat.reduceLT, Nat.reduceLeDiff, Nat.reduceEqDiff, Int.reduceAdd, Int.reduceNeg, Int.reduceToNat, Int.reduceLE, Int.reduceNatCast, Int.reduceNatCast', ↓reduceIte, if_true, if_false, true_and, and_true, false_and, and_false, true_or, or_true, false_or, or_false, Nat.sub_zero, Nat.le_refl, Bool.false_eq_true, Bool.true_eq_false, false_implies, true_implies, implies_true, not_true_eq_false, not_false_eq_true, eq_self, Fin.isValue, Nat.zero_add, Nat.add_zero, and_self, ne_eq, b01, Int32.reduceLT, Int32.reduceLE, z32, z64, vl_0, tl_0, vl_1, tl_1, vl_2, tl_2, vl_3, tl_3, vl_4, tl_4, vl_5, tl_5, vl_6, tl_6, vl_7, tl_7, vl_8, tl_8, vl_9, tl_9, Int.reduceSub, Int.reduceEq, Int.reduceLT, m_X7_wordFrom, dX7_wordFrom_0, ki_0, dX7_wordFrom_1, dX7_wordFrom_2, dX7_wordFrom_3, kb_12, dX7_wordFrom_5, dX7_wordFrom_8, dX7_wordFrom_9, dX7_wordFrom_10, dX7_wordFrom_11, kb_8, dX7_wordFrom_13, dX7_wordFrom_16, ki_1, dX7_wordFrom_17, dX7_wordFrom_20, dX7_wordFrom_21, dX7_wordFrom_23, dX7_wordFrom_24, dX7_wordFrom_26, dX7_wordFrom_28, dX7_wordFrom_30, dX7_wordFrom_33, dX7_wordFrom_35, dX7_wordFrom_38, dX7_wordFrom_39, fl_6_55, dX7_wordFrom_42, dX7_wordFrom_44, dX7_wordFrom_45, dX7_wordFrom_46, dX7_wordFrom_48, dX7_wordFrom_49, dX7_wordFrom_50, dX7_wordFrom_51, dX7_wordFrom_53, dX7_wordFrom_54, dX7_wordFrom_55, dX7_wordFrom_58, dX7_wordFrom_59, fl_6_31, dX7_wordFrom_62, dX7_wordFrom_63, dX7_wordFrom_65, dX7_wordFrom_66, dX7_wordFrom_67, dX7_wordFrom_70, kb_32, dX7_wordFrom_72, dX7_wordFrom_75, dX7_wordFrom_76, dX7_wordFrom_79, dX7_wordFrom_80, dX7_wordFrom_82, dX7_wordFrom_85, dX7_wordFrom_88, dX7_wordFrom_90, dX7_wordFrom_93, dX7_wordFrom_94, dX7_wordFrom_95, dX7_wordFrom_98, dX7_wordFrom_101, dX7_wordFrom_103, M, ge, es, e8']; try simp only [ax_ife, if_true, if_false, true_implies, implies_true, false_implies, and_true, true_and, not_true_eq_false, not_false_eq_true])
        exact this
      · have e8' := eq_false (fun y => q (e8.mp y))
        have := g true _ rfl (by
          have hwk : s_wk tb b e k = (true && s_wc tb b e k 0 8) := by
            unfold s_wk
            rw [decide_eq_true (by omega)]
          rw [← hwk]
          exact fin)
        (simp only [lv_args, fn0, fn1, fn2, fn3, ax_wq_s, ax_step2, ax_ins2_u, ax_ins, ax_nx, ax_cut, ax_lk, ax_st1, ax_st2, ax_ins0, ax_tg, ax_go, ax_sw2, ax_lsw2, ax_kc_s, ax_kc_n, ax_rf_rf, ax_isR_rf, ct_int, ct_long, ct_ref, ct_null, ct_rf, rf_ref, rf_null, isR_ref, isR_null, va_rf_s, va_rf_n, gv_0, gv_1, gv_2, pv_i, pv_r, pv_n, pv_q, pk_0, pk_2, pk_2n, pk_2q, pk_10, pk_11, rok_i, rok_z0, rok_z1, ex_eq, ex_z, ex_z2, ex_cz, List.filter_cons, List.filter_nil, List.take_succ_cons, List.take_zero, List.drop_succ_cons, List.drop_zero, List.reverse_cons, List.reverse_nil, List.nil_append, List.cons_append, List.append_nil, List.length_cons, List.length_nil, List.map_cons, List.map_nil, List.sum_cons, List.sum_nil, Bool.not_true, Bool.not_false, Bool.and_true, Bool.true_and, Bool.and_false, Bool.false_and, Bool.or_false, Bool.false_or, Bool.true_or, Bool.or_true, beq_self_eq_true, Nat.reduceBEq, Nat.reduceAdd, Nat.reduceSub, Nat.reduceLT, Nat.reduceLeDiff, Nat.reduceEqDiff, Int.reduceAdd, Int.reduceNeg, Int.reduceToNat, Int.reduceLE, Int.reduceNatCast, Int.reduceNatCast', ↓reduceIte, if_true, if_false, true_and, and_true, false_and, and_false, true_or, or_true, false_or, or_false, Nat.sub_zero, Nat.le_refl, Bool.false_eq_true, Bool.true_eq_false, false_implies, true_implies, implies_true, not_true_eq_false, not_false_eq_true, eq_self, Fin.isValue, Nat.zero_add, Nat.add_zero, and_self, ne_eq, b01, Int32.reduceLT, Int32.reduceLE, z32, z64, vl_0, tl_0, vl_1, tl_1, vl_2, tl_2, vl_3, tl_3, vl_4, tl_4, vl_5, tl_5, vl_6, tl_6, vl_7, tl_7, vl_8, tl_8, vl_9, tl_9, Int.reduceSub, Int.reduceEq, Int.reduceLT, m_X7_wordFrom, dX7_wordFrom_0, ki_0, dX7_wordFrom_1, dX7_wordFrom_2, dX7_wordFrom_3, kb_12, dX7_wordFrom_5, dX7_wordFrom_8, dX7_wordFrom_9, dX7_wordFrom_10, dX7_wordFrom_11, kb_8, dX7_wordFrom_13, dX7_wordFrom_16, ki_1, dX7_wordFrom_17, dX7_wordFrom_20, dX7_wordFrom_21, dX7_wordFrom_23, dX7_wordFrom_24, dX7_wordFrom_26, dX7_wordFrom_28, dX7_wordFrom_30, dX7_wordFrom_33, dX7_wordFrom_35, dX7_wordFrom_38, dX7_wordFrom_39, fl_6_55, dX7_wordFrom_42, dX7_wordFrom_44, dX7_wordFrom_45, dX7_wordFrom_46, dX7_wordFrom_48, dX7_wordFrom_49, dX7_wordFrom_50, dX7_wordFrom_51, dX7_wordFrom_53, dX7_wordFrom_54, dX7_wordFrom_55, dX7_wordFrom_58, dX7_wordFrom_59, fl_6_31, dX7_wordFrom_62, dX7_wordFrom_63, dX7_wordFrom_65, dX7_wordFrom_66, dX7_wordFrom_67, dX7_wordFrom_70, kb_32, dX7_wordFrom_72, dX7_wordFrom_75, dX7_wordFrom_76, dX7_wordFrom_79, dX7_wordFrom_80, dX7_wordFrom_82, dX7_wordFrom_85, dX7_wordFrom_88, dX7_wordFrom_90, dX7_wordFrom_93, dX7_wordFrom_94, dX7_wordFrom_95, dX7_wordFrom_98, dX7_wordFrom_101, dX7_wordFrom_103, M, ge, es, e8']; try simp only [ax_ife, if_true, if_false, true_implies, implies_true, false_implies, and_true, true_and, not_true_eq_false, not_false_eq_true])
        exact this
  refine ax_intro 6 false cdX7_wordFrom (by decide +kernel) (by decide +kernel) (by decide +kernel) (Nat.le_of_ble_eq_true rfl) ?_
  refine ax_wq_ok (cuts := [ 2]) 60 ?_
  (simp only [lv_args, fn0, fn1, fn2, fn3, ax_wq_s, ax_step2, ax_ins2_u, ax_ins, ax_nx, ax_cut, ax_lk, ax_st1, ax_st2, ax_ins0, ax_tg, ax_go, ax_sw2, ax_lsw2, ax_kc_s, ax_kc_n, ax_rf_rf, ax_isR_rf, ct_int, ct_long, ct_ref, ct_null, ct_rf, rf_ref, rf_null, isR_ref, isR_null, va_rf_s, va_rf_n, gv_0, gv_1, gv_2, pv_i, pv_r, pv_n, pv_q, pk_0, pk_2, pk_2n, pk_2q, pk_10, pk_11, rok_i, rok_z0, rok_z1, ex_eq, ex_z, ex_z2, ex_cz, List.filter_cons, List.filter_nil, List.take_succ_cons, List.take_zero, List.drop_succ_cons, List.drop_zero, List.reverse_cons, List.reverse_nil, List.nil_append, List.cons_append, List.append_nil, List.length_cons, List.length_nil, List.map_cons, List.map_nil, List.sum_cons, List.sum_nil, Bool.not_true, Bool.not_false, Bool.and_true, Bool.true_and, Bool.and_false, Bool.false_and, Bool.or_false, Bool.false_or, Bool.true_or, Bool.or_true, beq_self_eq_true, Nat.reduceBEq, Nat.reduceAdd, Nat.reduceSub, Nat.reduceLT, Nat.reduceLeDiff, Nat.reduceEqDiff, Int.reduceAdd, Int.reduceNeg, Int.reduceToNat, Int.reduceLE, Int.reduceNatCast, Int.reduceNatCast', ↓reduceIte, if_true, if_false, true_and, and_true, false_and, and_false, true_or, or_true, false_or, or_false, Nat.sub_zero, Nat.le_refl, Bool.false_eq_true, Bool.true_eq_false, false_implies, true_implies, implies_true, not_true_eq_false, not_false_eq_true, eq_self, Fin.isValue, Nat.zero_add, Nat.add_zero, and_self, ne_eq, b01, Int32.reduceLT, Int32.reduceLE, z32, z64, vl_0, tl_0, vl_1, tl_1, vl_2, tl_2, vl_3, tl_3, vl_4, tl_4, vl_5, tl_5, vl_6, tl_6, vl_7, tl_7, vl_8, tl_8, vl_9, tl_9, Int.reduceSub, Int.reduceEq, Int.reduceLT, m_X7_wordFrom, dX7_wordFrom_0, ki_0, dX7_wordFrom_1, dX7_wordFrom_2, dX7_wordFrom_3, kb_12, dX7_wordFrom_5, dX7_wordFrom_8, dX7_wordFrom_9, dX7_wordFrom_10, dX7_wordFrom_11, kb_8, dX7_wordFrom_13, dX7_wordFrom_16, ki_1, dX7_wordFrom_17, dX7_wordFrom_20, dX7_wordFrom_21, dX7_wordFrom_23, dX7_wordFrom_24, dX7_wordFrom_26, dX7_wordFrom_28, dX7_wordFrom_30, dX7_wordFrom_33, dX7_wordFrom_35, dX7_wordFrom_38, dX7_wordFrom_39, fl_6_55, dX7_wordFrom_42, dX7_wordFrom_44, dX7_wordFrom_45, dX7_wordFrom_46, dX7_wordFrom_48, dX7_wordFrom_49, dX7_wordFrom_50, dX7_wordFrom_51, dX7_wordFrom_53, dX7_wordFrom_54, dX7_wordFrom_55, dX7_wordFrom_58, dX7_wordFrom_59, fl_6_31, dX7_wordFrom_62, dX7_wordFrom_63, dX7_wordFrom_65, dX7_wordFrom_66, dX7_wordFrom_67, dX7_wordFrom_70, kb_32, dX7_wordFrom_72, dX7_wordFrom_75, dX7_wordFrom_76, dX7_wordFrom_79, dX7_wordFrom_80, dX7_wordFrom_82, dX7_wordFrom_85, dX7_wordFrom_88, dX7_wordFrom_90, dX7_wordFrom_93, dX7_wordFrom_94, dX7_wordFrom_95, dX7_wordFrom_98, dX7_wordFrom_101, dX7_wordFrom_103, M]; try simp only [ax_ife, if_true, if_false, true_implies, implies_true, false_implies, and_true, true_and, not_true_eq_false, not_false_eq_true])
  exact lp 12 0 rfl
end MT1
