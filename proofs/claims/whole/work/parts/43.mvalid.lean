-- deps: 14 15 16 17 18 19 20 21 28 29 30 31 32 37 38 39 40 41 42
/-! what has been read gives one value -/
theorem s_ev_c (nm : Nat → Int32) (c : Nat) (l : List Nat) (s : List Int32) : s_ev nm (c :: l) s = (match s_stp nm c s with | some s' => s_ev nm l s' | none => none) := rfl
theorem s_ev_app (nm : Nat → Int32) : ∀ (a b : List Nat) (s : List Int32), s_ev nm (a ++ b) s = (match s_ev nm a s with | some s' => s_ev nm b s' | none => none)
  | [], b, s => rfl
  | c :: a, b, s => by
    rw [List.cons_append, s_ev_c, s_ev_c]
    cases h : s_stp nm c s with
    | none => rfl
    | some s' => exact s_ev_app nm a b s'
def s_bi (x : Nat) : Nat := if 11 ≤ x ∧ x ≤ 18 ∧ x ≠ 13 then 1 else 0
def s_bin : List Nat → Nat
  | [] => 0
  | x :: r => s_bi x + s_bin r
def EV (d : List Nat) (k : Nat) : Prop := ∀ nm, ∃ st, s_ev nm d [] = some st ∧ st.length = k
theorem EV_app {d : List Nat} {k m c : Nat} (h : EV d k) (hs : ∀ nm (st : List Int32), st.length = k → ∃ st', s_stp nm c st = some st' ∧ st'.length = m) : EV (d ++ [c]) m := fun nm => by
  obtain ⟨st, h1, h2⟩ := h nm
  obtain ⟨st', h3, h4⟩ := hs nm st h2
  refine ⟨st', ?_, h4⟩
  rw [s_ev_app, h1]
  show s_ev nm [c] st = some st'
  unfold s_ev
  rw [h3]
  rfl
theorem EV_num {d : List Nat} {k v : Nat} (h : EV d k) (hv : v < 10000) : EV (d ++ [100000 + v]) (k + 1) := EV_app h (fun nm st hl => ⟨nI (100000 + v - 100000) :: st, by unfold s_stp; rw [if_pos ⟨by omega, by omega⟩], by rw [List.length_cons, hl]⟩)
theorem EV_nam {d : List Nat} {k v : Nat} (h : EV d k) (hv : v < 6) : EV (d ++ [v]) (k + 1) := EV_app h (fun nm st hl => ⟨nm v :: st, by unfold s_stp; rw [if_neg (by omega), if_pos hv], by rw [List.length_cons, hl]⟩)
theorem EV_una {d : List Nat} {k x : Nat} (h : EV d (k + 1)) (hx : x = 13 ∨ x = 19) : EV (d ++ [x]) (k + 1) := EV_app h (fun nm st hl => by
  cases st with
  | nil => cases hl
  | cons y r =>
    rcases hx with rfl | rfl
    · exact ⟨(if y = 0 then 1 else 0) :: r, rfl, hl⟩
    · exact ⟨(-y) :: r, rfl, hl⟩)
theorem EV_bin {d : List Nat} {k x : Nat} (h : EV d (k + 2)) (hx : 11 ≤ x ∧ x ≤ 18 ∧ x ≠ 13) : EV (d ++ [x]) (k + 1) := EV_app h (fun nm st hl => by
  cases st with
  | nil => cases hl
  | cons y r =>
    cases r with
    | nil => cases hl
    | cons z r =>
      refine ⟨s_two x z y :: r, ?_, ?_⟩
      · unfold s_stp
        rw [if_neg (by omega), if_neg (by omega), if_neg (by omega), if_neg (by omega), if_pos ⟨hx.1, hx.2.1⟩]
      · have : (y :: z :: r).length = r.length + 2 := rfl
        show r.length + 1 = k + 1
        omega)
abbrev s_sgn (l : List Nat) : Prop := ∀ x ∈ l, x = 0 ∨ (11 ≤ x ∧ x ≤ 19)
theorem s_unw_ev {least : Nat} (hl : 1 ≤ least) (cs0 : List Nat) : ∀ (l d : List Nat), s_sgn l → EV d (s_bin l + 1) → ∃ d', (s_unw least l (cs0 ++ d)).2 = cs0 ++ d' ∧ EV d' (s_bin (s_unw least l (cs0 ++ d)).1 + 1)
  | [], d, _, h => ⟨d, rfl, h⟩
  | x :: r, d, hs, h => by
    have hx := hs x List.mem_cons_self
    have eb : s_bin (x :: r) = s_bi x + s_bin r := rfl
    unfold s_unw
    by_cases q : least ≤ s_rk x
    · rw [if_pos q, List.append_assoc]
      have hx0 : x ≠ 0 := by
        rintro rfl
        have : s_rk 0 = 0 := rfl
        omega
      refine s_unw_ev hl cs0 r (d ++ [x]) (fun y hy => hs y (List.mem_cons_of_mem _ hy)) ?_
      by_cases b : 11 ≤ x ∧ x ≤ 18 ∧ x ≠ 13
      · have e1 : s_bi x = 1 := if_pos b
        rw [eb, e1] at h
        exact EV_bin (by rw [show s_bin r + 2 = 1 + s_bin r + 1 by omega]; exact h) b
      · have e1 : s_bi x = 0 := if_neg b
        rw [eb, e1, Nat.zero_add] at h
        exact EV_una h (by omega)
    · rw [if_neg q]
      exact ⟨d, rfl, h⟩
theorem s_v10_lt {tb : Nat → Nat} {b : Nat} : ∀ m, (∀ j, b ≤ j → j < b + m → s_isd (tb j) = true) → s_v10 tb b m < 10 ^ m
  | 0, _ => by
    show 0 < 1
    decide
  | m + 1, h => by
    have ih := s_v10_lt m (fun j h1 h2 => h j h1 (by omega))
    have hd := h (b + m) (by omega) (by omega)
    unfold s_isd at hd
    rw [decide_eq_true_eq] at hd
    show 10 * s_v10 tb b m + (tb (b + m) - 48) < 10 ^ (m + 1)
    rw [Nat.pow_succ]
    omega
theorem s_tok_v {tn : Nat} {tb : Nat → Nat} {a : Nat} (ha : a ≤ tn) : ((s_tok tn tb a).1 = 1 → (s_tok tn tb a).2.1 < 10000) ∧ ((s_tok tn tb a).1 = 2 → (s_tok tn tb a).2.1 < 6) := by
  unfold s_tok
  generalize s_wh s_isb tb (tn - a) a = b
  unfold s_tk1
  by_cases e1 : tn ≤ b
  · rw [if_pos e1]
    exact ⟨fun q => (by cases q), fun q => (by cases q)⟩
  · rw [if_neg e1]
    by_cases e2 : s_isl (tb b) = true
    · rw [if_pos e2]
      generalize s_fw tb b (s_wh s_isl tb (tn - b) b) 0 12 = k
      refine ⟨fun q => ?_, fun q => ?_⟩
      · have q' : s_wK k = 1 := q
        unfold s_wK at q'
        exfalso
        (repeat' split at q') <;> omega
      · have q' : s_wK k = 2 := q
        show s_wV k < 6
        unfold s_wK at q'
        unfold s_wV
        (repeat' split at q') <;> first | omega | (rw [if_neg (by omega)]; omega)
    · rw [if_neg e2]
      by_cases e3 : s_isd (tb b) = true
      · rw [if_pos e3]
        have hP := s_wh_P s_isd tb (tn - b) b
        have h2 := s_wh_b s_isd tb (tn - b) b
        generalize s_wh s_isd tb (tn - b) b = e at hP h2
        refine ⟨fun q => ?_, fun q => ?_⟩
        · have q' : (if e - b ≤ 4 then 1 else 7) = 1 := q
          have h4 : e - b ≤ 4 := by
            by_cases h : e - b ≤ 4
            · exact h
            · rw [if_neg h] at q'
              omega
          have hv := s_v10_lt (tb := tb) (b := b) (e - b) (fun j h1 h2 => hP j h1 (by omega))
          have hp : 10 ^ (e - b) ≤ 10 ^ 4 := Nat.pow_le_pow_right (by decide) h4
          show s_v10 tb b (e - b) < 10000
          omega
        · have q' : (if e - b ≤ 4 then 1 else 7) = 2 := q
          exfalso
          split at q' <;> omega
      · rw [if_neg e3]
        generalize tb b = c
        refine ⟨fun q => ?_, fun q => ?_⟩
        · have q' : (if s_iss c = true then c else 7) = 1 := q
          exfalso
          split at q'
          · rename_i h
            subst q'
            exact absurd h (by decide)
          · omega
        · have q' : (if s_iss c = true then c else 7) = 2 := q
          exfalso
          split at q'
          · rename_i h
            subst q'
            exact absurd h (by decide)
          · omega
theorem s_tok_v3 {tn : Nat} {tb : Nat → Nat} {a : Nat} (ha : a ≤ tn) : (s_tok tn tb a).1 = 3 → (s_tok tn tb a).2.1 < 3 := by
  unfold s_tok
  generalize s_wh s_isb tb (tn - a) a = b
  unfold s_tk1
  by_cases e1 : tn ≤ b
  · rw [if_pos e1]
    exact fun q => (by cases q)
  · rw [if_neg e1]
    by_cases e2 : s_isl (tb b) = true
    · rw [if_pos e2]
      generalize s_fw tb b (s_wh s_isl tb (tn - b) b) 0 12 = k
      intro q
      have q' : s_wK k = 3 := q
      show s_wV k < 3
      unfold s_wK at q'
      unfold s_wV
      (repeat' split at q') <;> first | omega | (rw [if_pos (by omega)]; omega)
    · rw [if_neg e2]
      by_cases e3 : s_isd (tb b) = true
      · rw [if_pos e3]
        intro q
        have q' : (if s_wh s_isd tb (tn - b) b - b ≤ 4 then 1 else 7) = 3 := q
        exfalso
        split at q' <;> omega
      · rw [if_neg e3]
        generalize tb b = c
        intro q
        have q' : (if s_iss c = true then c else 7) = 3 := q
        exfalso
        split at q'
        · rename_i h
          subst q'
          exact absurd h (by decide)
        · omega
/-- an E that has been read -/
theorem s_eR_ok {tn : Nat} {tb : Nat → Nat} (hb : ∀ i, i < tn → tb i ≤ 255) (cs0 : List Nat) : ∀ (f a : Nat) (l d : List Nat) (w mn : Bool), a ≤ tn → l.length + (cs0 ++ d).length ≤ a → s_sgn l → EV d (s_bin l + (if w = true then 0 else 1)) → (s_eR tn tb f a l (cs0 ++ d) w mn).1 = true → ∃ d', (s_eR tn tb f a l (cs0 ++ d) w mn).2.2.2 = cs0 ++ d' ∧ EV d' 1 ∧ (cs0 ++ d').length ≤ (s_eR tn tb f a l (cs0 ++ d) w mn).2.1 ∧ (s_eR tn tb f a l (cs0 ++ d) w mn).2.1 ≤ tn := by
  intro f
  induction f with
  | zero =>
    intro a l d w mn _ _ _ _ h
    cases h
  | succ f ih =>
    intro a l d w mn ha hsz hs hev h
    obtain ⟨b1, b2, b3, b4, b5⟩ := s_tok_b hb ha
    obtain ⟨v1, v2⟩ := s_tok_v (tb := tb) ha
    cases w with
    | true =>
      rw [s_eR] at h ⊢
      generalize s_tok tn tb a = tk at *
      obtain ⟨k, v, b, e⟩ := tk
      simp only at *
      simp only [if_true, Nat.add_zero] at hev
      by_cases k12 : k = 1 ∨ k = 2
      · simp only [if_pos k12] at h ⊢
        rw [List.append_assoc] at h ⊢
        generalize hc : (if k = 1 then 100000 + v else v) = c at *
        have hev2 : EV (d ++ [c]) (s_bin l + 1) := by
          rw [← hc]
          by_cases k1 : k = 1
          · rw [if_pos k1]
            exact EV_num hev (v1 k1)
          · rw [if_neg k1]
            exact EV_nam hev (v2 (by omega))
        obtain ⟨d', u1, u2⟩ := s_unw_ev (least := 7) (by decide) cs0 l (d ++ [c]) hs hev2
        have ln := s_unw_len 7 l (cs0 ++ (d ++ [c]))
        have mem := s_unw_mem 7 l (cs0 ++ (d ++ [c]))
        rw [u1] at h ln ⊢
        have e1 : (cs0 ++ (d ++ [c])).length = (cs0 ++ d).length + 1 := by
          rw [← List.append_assoc, List.length_append]
          rfl
        exact ih e _ d' false mn b4 (by omega) (fun x hx => hs x (mem x hx)) u2 h
      · simp only [if_neg k12] at h ⊢
        have go : ∀ x mn', s_op1 x = 1 → s_bi x = 0 → k ≠ 0 → (x = 0 ∨ (11 ≤ x ∧ x ≤ 19)) → (s_eR tn tb f e (x :: l) (cs0 ++ d) true mn').1 = true → ∃ d', (s_eR tn tb f e (x :: l) (cs0 ++ d) true mn').2.2.2 = cs0 ++ d' ∧ EV d' 1 ∧ (cs0 ++ d').length ≤ (s_eR tn tb f e (x :: l) (cs0 ++ d) true mn').2.1 ∧ (s_eR tn tb f e (x :: l) (cs0 ++ d) true mn').2.1 ≤ tn := fun x mn' _ hx2 k0 hx3 hh => by
          have el : (x :: l).length = l.length + 1 := rfl
          have := b5 k0
          exact ih e (x :: l) d true mn' b4 (by omega) (fun y hy => by
            rcases List.mem_cons.mp hy with rfl | hy
            · exact hx3
            · exact hs y hy) (by
              simp only [if_true, Nat.add_zero]
              show EV d (s_bi x + s_bin l)
              rw [hx2, Nat.zero_add]
              exact hev) hh
        by_cases k6 : k = 6 ∧ mn = true
        · simp only [if_pos k6] at h ⊢
          by_cases h5 : s_opn l = 5
          · simp only [if_pos h5] at h
            cases h
          · simp only [if_neg h5] at h ⊢
            exact go 13 true rfl rfl (by omega) (by omega) h
        · simp only [if_neg k6] at h ⊢
          by_cases k45 : k = 45
          · simp only [if_pos k45] at h ⊢
            by_cases h5 : s_opn l = 5
            · simp only [if_pos h5] at h
              cases h
            · simp only [if_neg h5] at h ⊢
              exact go 19 false rfl rfl (by omega) (by omega) h
          · simp only [if_neg k45] at h ⊢
            by_cases k40 : k = 40
            · simp only [if_pos k40] at h ⊢
              by_cases h5 : s_opn l = 5
              · simp only [if_pos h5] at h
                cases h
              · simp only [if_neg h5] at h ⊢
                exact go 0 true rfl rfl (by omega) (by omega) h
            · simp only [if_neg k40] at h
              cases h
    | false =>
      rw [s_eR] at h ⊢
      generalize s_tok tn tb a = tk at *
      obtain ⟨k, v, b, e⟩ := tk
      simp only at *
      simp only [Bool.false_eq_true, if_false] at hev
      obtain ⟨d1, u1, u2⟩ := s_unw_ev (least := 1) (by decide) cs0 l d hs hev
      have ln := s_unw_len 1 l (cs0 ++ d)
      have mem := s_unw_mem 1 l (cs0 ++ d)
      have top := s_unw_top l (cs0 ++ d)
      by_cases k59 : k = 59
      · simp only [if_pos k59] at h ⊢
        have hnil := of_decide_eq_true h
        have := b5 (by omega)
        rw [hnil] at u2 ln
        refine ⟨d1, u1, u2, ?_, b4⟩
        rw [← u1]
        have : ([] : List Nat).length = 0 := rfl
        omega
      · simp only [if_neg k59] at h ⊢
        by_cases k41 : k = 41
        · simp only [if_pos k41] at h ⊢
          rcases hlu : (s_unw 1 l (cs0 ++ d)).1 with _ | ⟨y, r⟩
          · rw [hlu] at h
            cases h
          · rw [hlu] at h u2 ln mem
            simp only at h ⊢
            have y0 := top y r hlu
            subst y0
            have el : ((0 : Nat) :: r).length = r.length + 1 := rfl
            have u3 : EV d1 (s_bin r + 1) := by
              have e0 : s_bin (0 :: r) = s_bin r := by show s_bi 0 + s_bin r = _; rw [show s_bi 0 = 0 from rfl, Nat.zero_add]
              rw [e0] at u2
              exact u2
            rw [u1] at h ln ⊢
            obtain ⟨d2, w1, w2⟩ := s_unw_ev (least := 7) (by decide) cs0 r d1 (fun x hx => hs x (mem x (List.mem_cons_of_mem _ hx))) u3
            have ln7 := s_unw_len 7 r (cs0 ++ d1)
            have mem7 := s_unw_mem 7 r (cs0 ++ d1)
            rw [w1] at h ln7 ⊢
            have := b5 (by omega)
            exact ih e _ d2 false mn b4 (by omega) (fun x hx => hs x (mem x (List.mem_cons_of_mem _ (mem7 x hx)))) w2 h
        · simp only [if_neg k41] at h ⊢
          by_cases sg0 : s_sg k = 0
          · simp only [if_pos sg0] at h
            cases h
          · simp only [if_neg sg0] at h ⊢
            obtain ⟨x1, x2, x3, k0⟩ := (s_sg_r k).resolve_left sg0
            generalize s_sg k = x at *
            have e5 := b5 k0
            by_cases hbt : s_btw x l (cs0 ++ d) = true
            · simp only [if_pos hbt] at h ⊢
              have hls : 1 ≤ s_ls x := by
                unfold s_ls
                split
                · omega
                · unfold s_rk
                  rw [if_neg (by omega)]
                  (repeat' split) <;> omega
              obtain ⟨d2, w1, w2⟩ := s_unw_ev (least := s_ls x) hls cs0 l d hs hev
              have lnx := s_unw_len (s_ls x) l (cs0 ++ d)
              have memx := s_unw_mem (s_ls x) l (cs0 ++ d)
              rw [w1] at h lnx ⊢
              have el : (x :: (s_unw (s_ls x) l (cs0 ++ d)).1).length = (s_unw (s_ls x) l (cs0 ++ d)).1.length + 1 := rfl
              refine ih e _ d2 true _ b4 (by omega) (fun y hy => ?_) ?_ h
              · rcases List.mem_cons.mp hy with rfl | hy
                · omega
                · exact hs y (memx y hy)
              · simp only [if_true, Nat.add_zero]
                show EV d2 (s_bi x + s_bin _)
                rw [show s_bi x = 1 from if_pos ⟨x1, x2, x3⟩, Nat.add_comm]
                exact w2
            · simp only [if_neg hbt] at h
              cases h
