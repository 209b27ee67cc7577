/-! words, tables -/
theorem ax_G_in {w : Cond} {i : Nat} (h : lw_tbl[i]? = some w) (hg : goodWord w = true) : w ∈ ax_G := List.mem_filter.mpr ⟨List.mem_of_getElem? h, hg⟩
theorem ax_G_ts {G : AG} {U : State} (hE : ax_Env G U) (args : Array Value) : ∀ w ∈ ax_G, w.before args U = true := fun w hw => hE.2.1 w (List.mem_filter.mp hw).1 (List.mem_filter.mp hw).2 args
theorem ax_lt7 {P : Nat → Prop} (h0 : P 0) (h1 : P 1) (h2 : P 2) (h3 : P 3) (h4 : P 4) (h5 : P 5) (h6 : P 6) {c : Nat} (hc : c < 7) : P c := by
  rcases (show c = 0 ∨ c = 1 ∨ c = 2 ∨ c = 3 ∨ c = 4 ∨ c = 5 ∨ c = 6 by omega) with rfl | rfl | rfl | rfl | rfl | rfl | rfl <;> assumption
theorem ax_vc_at {c : Nat} (hc : c < 7) : ax_vc[c]? = some (ax_nm c, ax_T c, ax_N c) := ax_lt7 (P := fun c => ax_vc[c]? = some (ax_nm c, ax_T c, ax_N c)) rfl rfl rfl rfl rfl rfl rfl hc
theorem ax_lay_in {C : String} {T : u_T} {N : Nat} {l : List Nat} (h : u_ws C T N = l.filterMap (fun i => lw_tbl[i]?)) (hg : (u_ws C T N).all goodWord = true) : ∀ w ∈ u_ws C T N, w ∈ ax_G := fun w hw => by
  have h1 := List.all_eq_true.mp hg w hw
  rw [h] at hw
  obtain ⟨i, -, hi⟩ := List.mem_filterMap.mp hw
  exact ax_G_in hi h1
theorem ax_lays {c : Nat} (hc : c < 7) : ∀ w ∈ u_ws (ax_nm c) (ax_T c) (ax_N c), w ∈ ax_G :=
  ax_lt7 (P := fun c => ∀ w ∈ u_ws (ax_nm c) (ax_T c) (ax_N c), w ∈ ax_G) (ax_lay_in ax_lay0 (by decide +kernel)) (ax_lay_in ax_lay1 (by decide +kernel)) (ax_lay_in ax_lay2 (by decide +kernel)) (ax_lay_in ax_lay3 (by decide +kernel)) (ax_lay_in ax_lay4 (by decide +kernel)) (ax_lay_in ax_lay5 (by decide +kernel)) (ax_lay_in ax_lay6 (by decide +kernel)) hc
theorem ax_ty_ok {c : Nat} (hc : c < 7) : ∀ k, k < ax_N c → parseFieldDescriptor (ax_T c k).2.2.1 = some (ax_ft c k) :=
  ax_lt7 (P := fun c => ∀ k, k < ax_N c → parseFieldDescriptor (ax_T c k).2.2.1 = some (ax_ft c k)) tyX0_ok tyX1_ok tyX2_ok tyX3_ok tyX4_ok tyX6_ok tyX7_ok hc
theorem ax_nm_ok {c : Nat} (hc : c < 7) : ∀ a, a < ax_N c → ∀ b, b < ax_N c → a ≠ b → (ax_T c a).2.1 ≠ (ax_T c b).2.1 :=
  ax_lt7 (P := fun c => ∀ a, a < ax_N c → ∀ b, b < ax_N c → a ≠ b → (ax_T c a).2.1 ≠ (ax_T c b).2.1) nmX0 nmX1 nmX2 nmX3 nmX4 nmX6 nmX7 hc
def ax_ftk (t : FieldType) : Nat := match t with
  | .int => 0
  | .boolean => 1
  | .object _ => 2
  | .array _ => 2
  | _ => 9
set_option maxRecDepth 100000 in
theorem ax_fT_ok : ax_fT.all (fun e => decide (e.2.1.1 < 7 ∧ e.2.1.2.1 < ax_N e.2.1.1 ∧ (ax_T e.2.1.1 e.2.1.2.1).2.2.2 = e.2.1.2.2.2 ∧ ax_ftk (ax_ft e.2.1.1 e.2.1.2.1) = e.2.1.2.2.1 ∧ e.2.1.2.2.1 < 3 ∧ (ax_T e.2.1.1 e.2.1.2.1).1 = ax_nm e.2.1.1) && decide (lw_tbl[e.2.2]? = some (Cond.fieldLink (ax_nm e.1.1) e.1.2 (ax_nm e.2.1.1) (ax_T e.2.1.1 e.2.1.2.1).2.1 (ax_T e.2.1.1 e.2.1.2.1).2.2.1))) = true := by decide +kernel
theorem ax_find {α : Type} {l : List ((Nat × Nat) × α)} {o i : Nat} {e : (Nat × Nat) × α} (h : l.find? (fun e => e.1.1 == o && e.1.2 == i) = some e) : e ∈ l ∧ e.1.1 = o ∧ e.1.2 = i := by
  have h1 := List.find?_some h
  simp only [Bool.and_eq_true, beq_iff_eq] at h1
  exact ⟨List.mem_of_find?_eq_some h, h1⟩
theorem ax_fld_ok {o i c k t : Nat} {f : Bool} (h : ax_fld o i = some (c, k, t, f)) : c < 7 ∧ k < ax_N c ∧ (ax_T c k).2.2.2 = f ∧ ax_ftk (ax_ft c k) = t ∧ t < 3 ∧ (ax_T c k).1 = ax_nm c ∧ Cond.fieldLink (ax_nm o) i (ax_nm c) (ax_T c k).2.1 (ax_T c k).2.2.1 ∈ ax_G := by
  unfold ax_fld at h
  cases hf : ax_fT.find? (fun e => e.1.1 == o && e.1.2 == i) with
  | none => rw [hf] at h; cases h
  | some e =>
    rw [hf] at h
    simp only [Option.map_some, Option.some.injEq] at h
    obtain ⟨hm, rfl, rfl⟩ := ax_find hf
    have h1 := List.all_eq_true.mp ax_fT_ok e hm
    simp only [Bool.and_eq_true, decide_eq_true_eq] at h1
    obtain ⟨⟨h2, h3, h4, h5, h6, h7⟩, h8⟩ := h1
    rw [h] at h2 h3 h4 h5 h6 h7 h8
    exact ⟨h2, h3, h4, h5, h6, h7, ax_G_in h8 rfl⟩
theorem ax_ftk_rt {t : FieldType} (h : ax_ftk t < 3) : ax_isRT t = true ↔ ax_ftk t = 2 := by cases t <;> simp [ax_ftk, ax_isRT] at h ⊢
/-! the heap's picture -/
theorem ax_e_obj {G : AG} {ad : Nat → Nat} {h : AH} {a c n : Nat} (ha : h.1 a = some (c, n)) (hc : c < 7) : ax_e G ad h a = .inr (c, ax_fs ad h c a) := by
  unfold ax_e
  rw [ha]
  exact if_pos hc
theorem ax_e_int {G : AG} {ad : Nat → Nat} {h : AH} {a n : Nat} (ha : h.1 a = some (50, n)) : ax_e G ad h a = .inl (G.2.2.1 50, n, .inl (h.2.1 a)) := by
  unfold ax_e
  rw [ha]
  rfl
theorem ax_e_ref {G : AG} {ad : Nat → Nat} {h : AH} {a c n : Nat} (ha : h.1 a = some (c, n)) (hc : 51 ≤ c) : ax_e G ad h a = .inl (G.2.2.1 c, n, .inr (.inr (.inr (.inr (fun k => (h.2.2 a k).map ad))))) := by
  unfold ax_e
  rw [ha]
  show (if c < 7 then _ else if c = 50 then _ else _) = _
  rw [if_neg (by omega), if_neg (by omega)]
theorem ax_ws_at {G : AG} {ad : Nat → Nat} {h : AH} {dom : List Nat} {q0 a : Nat} (hq : dom[q0]? = some a) : (ax_ws G ad h dom)[q0]? = some (ad a, ax_e G ad h a) := by
  unfold ax_ws
  rw [List.getElem?_map, hq]
  rfl
theorem ax_ws_set {G : AG} {ad : Nat → Nat} {h h' : AH} {dom : List Nat} {q0 a : Nat} (nd : dom.Nodup) (hq : dom[q0]? = some a) (he : ∀ b, b ≠ a → ax_e G ad h' b = ax_e G ad h b) : (ax_ws G ad h dom).set q0 (ad a, ax_e G ad h' a) = ax_ws G ad h' dom := by
  have hlt : q0 < dom.length := (List.getElem?_eq_some_iff.mp hq).1
  apply List.ext_getElem?
  intro i
  by_cases hi : i = q0
  · subst hi
    rw [List.getElem?_set_self (by unfold ax_ws; rw [List.length_map]; exact hlt), ax_ws_at hq]
  · rw [List.getElem?_set_ne (Ne.symm hi)]
    unfold ax_ws
    rw [List.getElem?_map, List.getElem?_map]
    cases hb : dom[i]? with
    | none => rfl
    | some b =>
      have hne : b ≠ a := fun e => by
        subst e
        have h1 : i < dom.length := (List.getElem?_eq_some_iff.mp hb).1
        have e1 := (List.getElem?_eq_some_iff.mp hb).2
        have e2 := (List.getElem?_eq_some_iff.mp hq).2
        rcases Nat.lt_or_gt_of_ne hi with z | z
        · exact (List.pairwise_iff_getElem.mp nd i q0 h1 hlt z) (e1.trans e2.symm)
        · exact (List.pairwise_iff_getElem.mp nd q0 i hlt h1 z) (e2.trans e1.symm)
      simp only [Option.map_some]
      rw [he b hne]
theorem ax_fs_at {ad : Nat → Nat} {h : AH} {c a k : Nat} (hk : k < ax_N c) : (ax_fs ad h c a)[k]? = some (ax_fv ad h c a k) := by
  unfold ax_fs
  rw [List.getElem?_map, List.getElem?_range hk]
  rfl
theorem ax_fs_set {f g : Nat → Value} {N k : Nat} {v : Value} (hk : g k = v) (ho : ∀ j, j ≠ k → g j = f j) : ((List.range N).map f).set k v = (List.range N).map g := by
  apply List.ext_getElem?
  intro i
  by_cases hi : i = k
  · subst hi
    by_cases hN : i < N
    · rw [List.getElem?_set_self (by simpa using hN), List.getElem?_map, List.getElem?_range hN, ← hk]
      rfl
    · rw [List.getElem?_eq_none (by simpa using hN), List.getElem?_eq_none (by simpa using hN)]
  · rw [List.getElem?_set_ne (Ne.symm hi), List.getElem?_map, List.getElem?_map]
    by_cases hN : i < N
    · rw [List.getElem?_range hN]
      simp only [Option.map_some]
      rw [ho i hi]
    · rw [List.getElem?_eq_none (by simpa using hN)]
      rfl
theorem ax_e_other {G : AG} {ad : Nat → Nat} {h h' : AH} {b : Nat} (h1 : h'.1 b = h.1 b) (h2 : h'.2.1 b = h.2.1 b) (h3 : h'.2.2 b = h.2.2 b) : ax_e G ad h' b = ax_e G ad h b := by
  have h4 : ∀ c, ax_fs ad h' c b = ax_fs ad h c b := fun c => List.map_congr_left fun k _ => by unfold ax_fv; rw [h2, h3]
  unfold ax_e
  rw [h1, h2, h3]
  cases h.1 b with
  | none => rfl
  | some q => simp only [h4]
theorem ax_up_ne {α : Type} {f : Nat → Nat → α} {a k b : Nat} {x : α} (hb : b ≠ a) : ax_up f a k x b = f b := funext fun j => if_neg (fun q => hb q.1)
theorem ax_up_at {α : Type} {f : Nat → Nat → α} {a k j : Nat} {x : α} : ax_up f a k x a j = if j = k then x else f a j := by
  unfold ax_up
  simp
theorem ax_up_row {f : Nat → Nat → Int32} {a k : Nat} {x : Int32} : ax_up f a k x a = upd (f a) k x := funext fun j => by
  rw [ax_up_at]
  rfl
theorem ax_up_rowR {f : Nat → Nat → Option Nat} {a k : Nat} {x : Option Nat} : ax_up f a k x a = va_up (f a) k x := funext fun j => by
  rw [ax_up_at]
  rfl
/-- a cell written: what lies where stays -/
theorem ax_Rel_put {G : AG} {ad : Nat → Nat} {h h' : AH} {H1 : Heap} {dom : List Nat} {q0 a c n : Nat} (nd : dom.Nodup) (hd : ∀ a, a ∈ dom ↔ ∃ c n, h.1 a = some (c, n) ∧ ax_own c = true) (hq : dom[q0]? = some a) (ha : h.1 a = some (c, n)) (hc : ax_own c = true) (h1 : h'.1 = h.1) (h2 : ∀ b, b ≠ a → h'.2.1 b = h.2.1 b) (h3 : ∀ b, b ≠ a → h'.2.2 b = h.2.2 b) {e : va_E} (he : e = ax_e G ad h' a)
    (hP : va_P G.2.1 ax_vc ((ax_ws G ad h dom).set q0 (ad a, e)) H1) (hD : va_D (ax_A G) ((ax_ws G ad h dom).set q0 (ad a, e))) (ho : ax_old G ad h) (hcl : ax_closed h') : ax_Rel G ad h' H1 := by
  subst he
  rw [ax_ws_set nd hq fun b hb => ax_e_other (by rw [h1]) (h2 b hb) (h3 b hb)] at hP hD
  refine ⟨dom, nd, by rw [h1]; exact hd, hP, hD, fun b c' n' hb hn => ?_, hcl⟩
  rw [h1] at hb
  have hba : b ≠ a := fun e => by
    subst e
    rw [ha] at hb
    cases hb
    rw [hc] at hn
    cases hn
  rcases ho b c' n' hb hn with ⟨q1, q2, q3, q4⟩ | q
  · exact Or.inl ⟨q1, q2, q3, fun k hk => by rw [h2 b hba]; exact q4 k hk⟩
  · exact Or.inr q
theorem ax_closed_I {h : AH} {a k : Nat} {x : Int32} (hc : ax_closed h) : ax_closed (ax_setI h a k x) := hc
theorem ax_closed_R {h : AH} {a k : Nat} {r : Option Nat} (hc : ax_closed h) (hr : ∀ b, r = some b → (h.1 b).isSome = true) : ax_closed (ax_setR h a k r) := fun x b j hx hb => by
  unfold ax_setR at hb
  simp only [ax_up] at hb
  by_cases q : x = a ∧ j = k
  · rw [if_pos q] at hb
    exact hr b hb
  · rw [if_neg q] at hb
    exact hc x b j hx hb
def ax_gv (h : AH) (a k t : Nat) : Value := if t = 2 then va_rf (h.2.2 a k) else .int (h.2.1 a k)
def ax_pv (h : AH) (a k t : Nat) (v : Value) : AH := match v with
  | .int x => ax_setI h a k x
  | w => ax_setR h a k (ax_rf w)
/-- what may be put into a field: an int; 0 or 1; a reference -/
def ax_pk (t : Nat) (v : Value) : Prop := match t with
  | 0 => ∃ x, v = .int x
  | 1 => v = .int 0 ∨ v = .int 1
  | _ => ax_isR v = true
section AXH
variable {G : AG} {o nL : Nat} {ini : Bool} {cc : ByteArray} {ret : Option FieldType} {d : Nat} {Q : Option Value → AH → Prop} {rc rs pc : Nat} {L : AL} {S : List Value} {h : AH}
theorem ax_r_getfield {i c k t n a : Nat} {f : Bool} {v : Value} (hd : decode cc pc = .ok (.getfield i, 3)) (hf : ax_fld o i = some (c, k, t, f)) (hv : ax_rf v = some a) (ha : h.1 a = some (c, n)) (kk : AW G o nL ini cc ret d Q rc rs (pc + 3) L (ax_gv h a k t :: S) h) : AW G o nL ini cc ret d Q rc rs pc L (v :: S) h := by
  intro p l e R s m args below meth c0 Z mc ms ad0 h0 C Rt k1 n1 ad H locs ls A
  obtain ⟨hx, hb, hml, hown, hini, hE, hB, hR1, hR2, hR3, hR4⟩ := id C
  obtain ⟨a1, a2, a3, a4, a5, a6, a7, a8, a9⟩ := id A
  obtain ⟨g1, g2, g3, g4, g5, g6, g7⟩ := ax_fld_ok hf
  obtain ⟨dom, nd, hdm, hP, hD, ho, hcl⟩ := id a3
  have hoc : ax_own c = true := by simp [ax_own, g1]
  obtain ⟨q0, hq0⟩ := List.getElem?_of_mem ((hdm a).mpr ⟨c, n, ha, hoc⟩)
  have hw := ax_ws_at (G := G) (ad := ad) (h := h) hq0
  rw [ax_e_obj ha g1] at hw
  have hv' := ax_rf_some hv
  subst hv'
  show W p l e R s m args below meth c0 H locs k1 n1 Z (F0 m pc ls (.ref (ad a) :: S.map (ax_vm ad)))
  have hs : ax_fv ad h c a k = ax_vm ad (ax_gv h a k t) := by
    unfold ax_fv ax_gv
    by_cases h2 : t = 2
    · rw [if_pos ((ax_ftk_rt (by omega)).mpr (g4.trans h2)), if_pos h2, ax_vm_rf]
    · rw [if_neg (fun q => h2 (g4.symm.trans ((ax_ftk_rt (by omega)).mp q))), if_neg h2]
      rfl
  refine va_get hx hb (Ts := ax_G) (ax_G_ts hE args) (ax_lays g1) hown hE.1 hP q0 hw (ax_vc_at g1) k g2 (ref := ax_nm c) (ax_G_ts hE args _ g7) (by rw [g6]; exact fun _ q => q) (ax_fs_at g2) hd ?_
  rw [hs]
  refine kk p l e R s m args below meth c0 Z mc ms ad0 h0 C Rt k1 n1 ad H locs ls ⟨a1, a2, a3, a4, a5, a6, a7, List.forall_mem_cons.mpr ⟨?_, fun v hv => a8 v (List.mem_cons_of_mem _ hv)⟩, a9⟩
  unfold ax_gv
  by_cases h2 : t = 2
  · rw [if_pos h2]
    exact ax_wv_rf fun b hb2 => hcl a b k (by rw [ha]; rfl) hb2
  · rw [if_neg h2]
    exact ax_wv_int _ _
theorem ax_r_putfield {i c k t n a : Nat} {f : Bool} {u v : Value} (hd : decode cc pc = .ok (.putfield i, 3)) (hf : ax_fld o i = some (c, k, t, f)) (hfi : f = true → ini = true ∧ c = o) (hu : ax_rf u = some a) (ha : h.1 a = some (c, n)) (hv : ax_pk t v) (kk : AW G o nL ini cc ret d Q rc rs (pc + 3) L S (ax_pv h a k t v)) : AW G o nL ini cc ret d Q rc rs pc L (v :: u :: S) h := by
  intro p l e R s m args below meth c0 Z mc ms ad0 h0 C Rt k1 n1 ad H locs ls A
  obtain ⟨hx, hb, hml, hown, hini, hE, hB, hR1, hR2, hR3, hR4⟩ := id C
  obtain ⟨a1, a2, a3, a4, a5, a6, a7, a8, a9⟩ := id A
  obtain ⟨g1, g2, g3, g4, g5, g6, g7⟩ := ax_fld_ok hf
  obtain ⟨dom, nd, hdm, hP, hD, ho, hcl⟩ := id a3
  have hoc : ax_own c = true := by simp [ax_own, g1]
  obtain ⟨q0, hq0⟩ := List.getElem?_of_mem ((hdm a).mpr ⟨c, n, ha, hoc⟩)
  have hw := ax_ws_at (G := G) (ad := ad) (h := h) hq0
  rw [ax_e_obj ha g1] at hw
  have hu' := ax_rf_some hu
  subst hu'
  have hwv : ax_wv h v := a8 v List.mem_cons_self
  -- the new heap, and its row
  have key : (ax_pv h a k t v).1 = h.1 ∧ (∀ b, b ≠ a → (ax_pv h a k t v).2.1 b = h.2.1 b) ∧ (∀ b, b ≠ a → (ax_pv h a k t v).2.2 b = h.2.2 b) ∧ ax_closed (ax_pv h a k t v) ∧ (ax_fs ad h c a).set k (ax_vm ad v) = ax_fs ad (ax_pv h a k t v) c a ∧ narrow (ax_ft c k) (ax_vm ad v) = ax_vm ad v ∧ fits (ax_ft c k) (ax_vm ad v) = true := by
    have hint : ∀ x : Int32, v = .int x → ¬ ax_isRT (ax_ft c k) = true → (ax_pv h a k t v).1 = h.1 ∧ (∀ b, b ≠ a → (ax_pv h a k t v).2.1 b = h.2.1 b) ∧ (∀ b, b ≠ a → (ax_pv h a k t v).2.2 b = h.2.2 b) ∧ ax_closed (ax_pv h a k t v) ∧ (ax_fs ad h c a).set k (ax_vm ad v) = ax_fs ad (ax_pv h a k t v) c a := by
      intro x hvx hrt
      subst hvx
      refine ⟨rfl, fun b hb2 => ax_up_ne hb2, fun b hb2 => rfl, hcl, ax_fs_set ?_ fun j hj => ?_⟩
      · unfold ax_fv
        rw [if_neg hrt]
        show Value.int (ax_up h.2.1 a k x a k) = _
        rw [ax_up_at, if_pos rfl]
        rfl
      · unfold ax_fv
        show (if _ then _ else Value.int (ax_up h.2.1 a k x a j)) = _
        rw [ax_up_at, if_neg hj]
        rfl
    have hne : t ≠ 2 → ¬ ax_isRT (ax_ft c k) = true := fun q z => q (g4.symm.trans ((ax_ftk_rt (by omega)).mp z))
    rcases (show t = 0 ∨ t = 1 ∨ t = 2 by omega) with ht | ht | ht
    · subst ht
      obtain ⟨x, hvx⟩ := hv
      have h1 := hint x hvx (hne (by decide))
      have hty : ax_ft c k = .int := by
        cases hq : ax_ft c k <;> rw [hq] at g4 <;> first | rfl | (simp [ax_ftk] at g4)
      refine ⟨h1.1, h1.2.1, h1.2.2.1, h1.2.2.2.1, h1.2.2.2.2, ?_, ?_⟩
      · rw [hty, hvx]; exact vp_nar_int x
      · rw [hty, hvx]; rfl
    · subst ht
      have hty : ax_ft c k = .boolean := by
        cases hq : ax_ft c k <;> rw [hq] at g4 <;> first | rfl | (simp [ax_ftk] at g4)
      rcases hv with hvx | hvx
      · have h1 := hint _ hvx (hne (by decide))
        refine ⟨h1.1, h1.2.1, h1.2.2.1, h1.2.2.2.1, h1.2.2.2.2, ?_, ?_⟩
        · rw [hty, hvx]; show narrow FieldType.boolean (Value.int 0) = Value.int 0; decide +kernel
        · rw [hty, hvx]; show fits FieldType.boolean (Value.int 0) = true; decide +kernel
      · have h1 := hint _ hvx (hne (by decide))
        refine ⟨h1.1, h1.2.1, h1.2.2.1, h1.2.2.2.1, h1.2.2.2.2, ?_, ?_⟩
        · rw [hty, hvx]; show narrow FieldType.boolean (Value.int 1) = Value.int 1; decide +kernel
        · rw [hty, hvx]; show fits FieldType.boolean (Value.int 1) = true; decide +kernel
    · subst ht
      have hrt : ax_isRT (ax_ft c k) = true := (ax_ftk_rt (by omega)).mpr g4
      have hv1 : ax_isR v = true := hv
      have hpv : ax_pv h a k 2 v = ax_setR h a k (ax_rf v) := by cases v <;> first | rfl | cases hv1
      rw [hpv]
      refine ⟨rfl, fun b hb2 => rfl, fun b hb2 => ax_up_ne hb2, ax_closed_R hcl fun b hb2 => hwv b (ax_rf_some hb2), ax_fs_set ?_ fun j hj => ?_, ?_, ?_⟩
      · unfold ax_fv
        rw [if_pos hrt]
        show va_rf ((ax_up h.2.2 a k (ax_rf v) a k).map ad) = _
        rw [ax_up_at, if_pos rfl, ← ax_vm_rf, ← ax_isR_eq hv1]
      · unfold ax_fv
        show (if _ then va_rf ((ax_up h.2.2 a k (ax_rf v) a j).map ad) else _) = _
        rw [ax_up_at, if_neg hj]
        rfl
      · cases hq : ax_ft c k <;> rw [hq] at hrt <;> first | (cases hrt; done) | (cases v <;> first | rfl | cases hv1)
      · cases hq : ax_ft c k <;> rw [hq] at hrt <;> first | (cases hrt; done) | (cases v <;> first | rfl | cases hv1)
  obtain ⟨k1', k2', k3', k4', k5', k6', k7'⟩ := key
  show W p l e R s m args below meth c0 H locs k1 n1 Z (F0 m pc ls (ax_vm ad v :: .ref (ad a) :: S.map (ax_vm ad)))
  have fin : ∀ (H1 : Heap) (locs1 : List Loc), va_P G.2.1 ax_vc ((ax_ws G ad h dom).set q0 (ad a, .inr (c, (ax_fs ad h c a).set k (ax_vm ad v)))) H1 → va_D (ax_A G) ((ax_ws G ad h dom).set q0 (ad a, .inr (c, (ax_fs ad h c a).set k (ax_vm ad v)))) → va_S (ax_A G) s.heap H1 locs1 → W p l e R s m args below meth c0 H1 locs1 k1 n1 Z (F0 m (pc + 3) ls (S.map (ax_vm ad))) := by
    intro H1 locs1 hP1 hD1 hS1
    have hR1' : ax_Rel G ad (ax_pv h a k t v) H1 := ax_Rel_put nd hdm hq0 ha hoc k1' k2' k3' (by rw [k5', ax_e_obj (by rw [k1']; exact ha) g1]) hP1 hD1 ho k4'
    have hm : ax_mono h (ax_pv h a k t v) := fun x q hq => by rw [k1']; exact hq
    exact kk p l e R s m args below meth c0 Z mc ms ad0 h0 C Rt k1 n1 ad H1 locs1 ls ⟨a1, a2, hR1', hS1, a5, ax_mono_tr a6 hm, fun q hq => ax_wv_mono hm (a7 q hq), fun w hq => ax_wv_mono hm (a8 w (List.mem_cons_of_mem _ (List.mem_cons_of_mem _ hq))), a9⟩
  have hlen : k < (ax_fs ad h c a).length := by unfold ax_fs; rw [List.length_map, List.length_range]; exact g2
  cases hff : f with
  | false =>
    exact va_put hx hb (Ts := ax_G) (ax_G_ts hE args) (ax_lays g1) (ax_ft c) (ax_ty_ok g1) (ax_nm_ok g1) hown hE.1 hP hD a4 q0 hw (ax_vc_at g1) k g2 (ref := ax_nm c) (ax_G_ts hE args _ g7) (by rw [g6]; exact fun _ q => q) (g3.trans hff) (ax_ty_ok g1 k g2) k6' k7' hlen hd fin
  | true =>
    obtain ⟨i1, i2⟩ := hfi hff
    exact va_putF hx hb (Ts := ax_G) (ax_G_ts hE args) (ax_lays g1) (ax_ft c) (ax_ty_ok g1) (ax_nm_ok g1) hown hE.1 hP hD a4 q0 hw (ax_vc_at g1) k g2 (ref := ax_nm c) (ax_G_ts hE args _ g7) (by rw [g6]; exact fun _ q => q) (g3.trans hff) (hini i1) (g6.trans (by rw [i2])) (ax_ty_ok g1 k g2) k6' k7' hlen hd fin
theorem ax_r_iaload {a n : Nat} {v : Value} {i : Int32} (hd : decode cc pc = .ok (.iaload, 1)) (hv : ax_rf v = some a) (ha : h.1 a = some (50, n)) (hi : vp_in i n) (kk : AW G o nL ini cc ret d Q rc rs (pc + 1) L (.int (h.2.1 a i.toNatClampNeg) :: S) h) : AW G o nL ini cc ret d Q rc rs pc L (.int i :: v :: S) h := by
  intro p l e R s m args below meth c0 Z mc ms ad0 h0 C Rt k1 n1 ad H locs ls A
  obtain ⟨hx, hb, hml, hown, hini, hE, hB, hR1, hR2, hR3, hR4⟩ := id C
  obtain ⟨a1, a2, a3, a4, a5, a6, a7, a8, a9⟩ := id A
  obtain ⟨dom, nd, hdm, hP, hD, ho, hcl⟩ := id a3
  obtain ⟨q0, hq0⟩ := List.getElem?_of_mem ((hdm a).mpr ⟨50, n, ha, rfl⟩)
  have hw := ax_ws_at (G := G) (ad := ad) (h := h) hq0
  rw [ax_e_int ha] at hw
  have hv' := ax_rf_some hv
  subst hv'
  exact va_iald hx hb hE.1 hP q0 0 hw rfl hi hd (kk p l e R s m args below meth c0 Z mc ms ad0 h0 C Rt k1 n1 ad H locs ls ⟨a1, a2, a3, a4, a5, a6, a7, List.forall_mem_cons.mpr ⟨ax_wv_int _ _, fun v hv => a8 v (List.mem_cons_of_mem _ (List.mem_cons_of_mem _ hv))⟩, a9⟩)
/-- the script -/
theorem ax_r_ialoadS {a n : Nat} {v : Value} {i : Int32} (hd : decode cc pc = .ok (.iaload, 1)) (hv : ax_rf v = some a) (ha : h.1 a = some (49, n)) (hi : vp_in i n) (kk : AW G o nL ini cc ret d Q rc rs (pc + 1) L (.int (h.2.1 a i.toNatClampNeg) :: S) h) : AW G o nL ini cc ret d Q rc rs pc L (.int i :: v :: S) h := by
  intro p l e R s m args below meth c0 Z mc ms ad0 h0 C Rt k1 n1 ad H locs ls A
  obtain ⟨hx, hb, hml, hown, hini, hE, hB, hR1, hR2, hR3, hR4⟩ := id C
  obtain ⟨a1, a2, a3, a4, a5, a6, a7, a8, a9⟩ := id A
  obtain ⟨dom, nd, hdm, hP, hD, ho, hcl⟩ := id a3
  rcases ho a 49 n ha rfl with ⟨-, q2, q3, q4⟩ | ⟨q, -⟩
  · have hv' := ax_rf_some hv
    subst hv'
    have hlt : i.toNatClampNeg < n := Nat.not_le.mp fun q => hi (Or.inr q)
    obtain ⟨-, -, -, -, -, -, hX, hbl, -⟩ := hE
    have hX' : va_X G.2.2.2.2.1.1 G.2.2.2.2.1.2.1 G.2.2.2.2.1.2.2 s s.heap := hX.kept (hB.2.2 _ hbl)
    show W p l e R s m args below meth c0 H locs k1 n1 Z (F0 m pc ls (.int i :: .ref (ad a) :: S.map (ax_vm ad)))
    rw [q2]
    refine va_sld hx hb hX' (Nat.lt_of_lt_of_le hbl hB.1) (Nat.not_le.mpr hbl) a4 (by rw [← q3]; exact hi) hd ?_
    rw [← q4 _ hlt]
    exact kk p l e R s m args below meth c0 Z mc ms ad0 h0 C Rt k1 n1 ad H locs ls ⟨a1, a2, a3, a4, a5, a6, a7, List.forall_mem_cons.mpr ⟨ax_wv_int _ _, fun v hv => a8 v (List.mem_cons_of_mem _ (List.mem_cons_of_mem _ hv))⟩, a9⟩
  · cases q
theorem ax_r_iastore {a n : Nat} {v : Value} {i x : Int32} (hd : decode cc pc = .ok (.iastore, 1)) (hv : ax_rf v = some a) (ha : h.1 a = some (50, n)) (hi : vp_in i n) (kk : AW G o nL ini cc ret d Q rc rs (pc + 1) L S (ax_setI h a i.toNatClampNeg x)) : AW G o nL ini cc ret d Q rc rs pc L (.int x :: .int i :: v :: S) h := by
  intro p l e R s m args below meth c0 Z mc ms ad0 h0 C Rt k1 n1 ad H locs ls A
  obtain ⟨hx, hb, hml, hown, hini, hE, hB, hR1, hR2, hR3, hR4⟩ := id C
  obtain ⟨a1, a2, a3, a4, a5, a6, a7, a8, a9⟩ := id A
  obtain ⟨dom, nd, hdm, hP, hD, ho, hcl⟩ := id a3
  obtain ⟨q0, hq0⟩ := List.getElem?_of_mem ((hdm a).mpr ⟨50, n, ha, rfl⟩)
  have hw := ax_ws_at (G := G) (ad := ad) (h := h) hq0
  rw [ax_e_int ha] at hw
  have hv' := ax_rf_some hv
  subst hv'
  refine va_iast hx hb hE.1 hP hD a4 q0 0 hw rfl hi hd fun H1 locs1 hP1 hD1 hS1 => ?_
  have hR1' : ax_Rel G ad (ax_setI h a i.toNatClampNeg x) H1 := ax_Rel_put nd hdm hq0 ha rfl rfl (fun b hb2 => ax_up_ne hb2) (fun b hb2 => rfl) (by
    rw [ax_e_int (h := ax_setI h a i.toNatClampNeg x) (n := n) ha]
    show _ = Sum.inl (_, n, Sum.inl (ax_up h.2.1 a i.toNatClampNeg x a))
    rw [ax_up_row]) hP1 hD1 ho hcl
  exact kk p l e R s m args below meth c0 Z mc ms ad0 h0 C Rt k1 n1 ad H1 locs1 ls ⟨a1, a2, hR1', hS1, a5, a6, a7, fun w hq => a8 w (List.mem_cons_of_mem _ (List.mem_cons_of_mem _ (List.mem_cons_of_mem _ hq))), a9⟩
theorem ax_tys_at {c : Nat} (h1 : 51 ≤ c) (h2 : c < 54) : (ax_tys G)[c - 50]? = some (G.2.2.1 c, ax_el c) := by
  rcases (show c = 51 ∨ c = 52 ∨ c = 53 by omega) with rfl | rfl | rfl <;> rfl
theorem ax_el_at {c : Nat} (h1 : 51 ≤ c) (h2 : c < 54) : ax_el c = .object (ax_nm (ax_ec c)) ∧ ax_ec c < 7 := by
  rcases (show c = 51 ∨ c = 52 ∨ c = 53 by omega) with rfl | rfl | rfl <;> exact ⟨rfl, by decide⟩
theorem ax_r_aaload {a c n : Nat} {v : Value} {i : Int32} (hd : decode cc pc = .ok (.aaload, 1)) (hv : ax_rf v = some a) (ha : h.1 a = some (c, n)) (h1 : 51 ≤ c) (h2 : c < 54) (hi : vp_in i n) (kk : AW G o nL ini cc ret d Q rc rs (pc + 1) L (va_rf (h.2.2 a i.toNatClampNeg) :: S) h) : AW G o nL ini cc ret d Q rc rs pc L (.int i :: v :: S) h := by
  intro p l e R s m args below meth c0 Z mc ms ad0 h0 C Rt k1 n1 ad H locs ls A
  obtain ⟨hx, hb, hml, hown, hini, hE, hB, hR1, hR2, hR3, hR4⟩ := id C
  obtain ⟨a1, a2, a3, a4, a5, a6, a7, a8, a9⟩ := id A
  obtain ⟨dom, nd, hdm, hP, hD, ho, hcl⟩ := id a3
  obtain ⟨q0, hq0⟩ := List.getElem?_of_mem ((hdm a).mpr ⟨c, n, ha, by simp [ax_own]; omega⟩)
  have hw := ax_ws_at (G := G) (ad := ad) (h := h) hq0
  rw [ax_e_ref ha h1] at hw
  have hv' := ax_rf_some hv
  subst hv'
  have ht := ax_tys_at (G := G) h1 h2
  rw [(ax_el_at h1 h2).1] at ht
  refine va_aldq hx hb hE.1 hP q0 (c - 50) hw ht hi hd ?_
  rw [← ax_vm_rf]
  exact kk p l e R s m args below meth c0 Z mc ms ad0 h0 C Rt k1 n1 ad H locs ls ⟨a1, a2, a3, a4, a5, a6, a7, List.forall_mem_cons.mpr ⟨ax_wv_rf fun b hb2 => hcl a b _ (by rw [ha]; rfl) hb2, fun v hv => a8 v (List.mem_cons_of_mem _ (List.mem_cons_of_mem _ hv))⟩, a9⟩
theorem ax_r_aastore {a c n : Nat} {u v : Value} {i : Int32} (hd : decode cc pc = .ok (.aastore, 1)) (hu : ax_rf u = some a) (ha : h.1 a = some (c, n)) (h1 : 51 ≤ c) (h2 : c < 54) (hi : vp_in i n) (hv : ax_isR v = true) (hk : ∀ b, ax_rf v = some b → ∃ z, h.1 b = some (ax_ec c, z)) (kk : AW G o nL ini cc ret d Q rc rs (pc + 1) L S (ax_setR h a i.toNatClampNeg (ax_rf v))) : AW G o nL ini cc ret d Q rc rs pc L (v :: .int i :: u :: S) h := by
  intro p l e R s m args below meth c0 Z mc ms ad0 h0 C Rt k1 n1 ad H locs ls A
  obtain ⟨hx, hb, hml, hown, hini, hE, hB, hR1, hR2, hR3, hR4⟩ := id C
  obtain ⟨a1, a2, a3, a4, a5, a6, a7, a8, a9⟩ := id A
  obtain ⟨dom, nd, hdm, hP, hD, ho, hcl⟩ := id a3
  have hoc : ax_own c = true := by simp [ax_own]; omega
  obtain ⟨q0, hq0⟩ := List.getElem?_of_mem ((hdm a).mpr ⟨c, n, ha, hoc⟩)
  have hw := ax_ws_at (G := G) (ad := ad) (h := h) hq0
  rw [ax_e_ref ha h1] at hw
  have hu' := ax_rf_some hu
  subst hu'
  have ht := ax_tys_at (G := G) h1 h2
  obtain ⟨e1, e2⟩ := ax_el_at h1 h2
  rw [e1] at ht
  have hwv : ax_wv h v := a8 v List.mem_cons_self
  have fin : ∀ (H1 : Heap) (locs1 : List Loc) (f1 : Nat → Option Nat), f1 = va_up (fun k => (h.2.2 a k).map ad) i.toNatClampNeg ((ax_rf v).map ad) → va_P G.2.1 ax_vc ((ax_ws G ad h dom).set q0 (ad a, .inl (G.2.2.1 c, n, .inr (.inr (.inr (.inr f1)))))) H1 → va_D (ax_A G) ((ax_ws G ad h dom).set q0 (ad a, .inl (G.2.2.1 c, n, .inr (.inr (.inr (.inr f1)))))) → va_S (ax_A G) s.heap H1 locs1 → W p l e R s m args below meth c0 H1 locs1 k1 n1 Z (F0 m (pc + 1) ls (S.map (ax_vm ad))) := by
    intro H1 locs1 f1 hf1 hP1 hD1 hS1
    have hR1' : ax_Rel G ad (ax_setR h a i.toNatClampNeg (ax_rf v)) H1 := ax_Rel_put nd hdm hq0 ha hoc rfl (fun b hb2 => rfl) (fun b hb2 => ax_up_ne hb2) (by
      rw [ax_e_ref (h := ax_setR h a i.toNatClampNeg (ax_rf v)) (n := n) ha h1, hf1]
      have : (fun k => ((ax_setR h a i.toNatClampNeg (ax_rf v)).2.2 a k).map ad) = va_up (fun k => (h.2.2 a k).map ad) i.toNatClampNeg ((ax_rf v).map ad) := by
        funext k
        show (ax_up h.2.2 a i.toNatClampNeg (ax_rf v) a k).map ad = _
        rw [ax_up_at]
        unfold va_up
        by_cases q : k = i.toNatClampNeg
        · rw [if_pos q, if_pos q]
        · rw [if_neg q, if_neg q]
      rw [this]) hP1 hD1 ho (ax_closed_R hcl fun b hb2 => hwv b (ax_rf_some hb2))
    exact kk p l e R s m args below meth c0 Z mc ms ad0 h0 C Rt k1 n1 ad H1 locs1 ls ⟨a1, a2, hR1', hS1, a5, a6, a7, fun w hq => a8 w (List.mem_cons_of_mem _ (List.mem_cons_of_mem _ (List.mem_cons_of_mem _ hq))), a9⟩
  cases v with
  | ref b =>
    obtain ⟨z, hz⟩ := hk b rfl
    obtain ⟨q1, hq1⟩ := List.getElem?_of_mem ((hdm b).mpr ⟨_, z, hz, by simp [ax_own, e2]⟩)
    have hw1 := ax_ws_at (G := G) (ad := ad) (h := h) hq1
    rw [ax_e_obj hz e2] at hw1
    exact va_astq hx hb hE.1 hP hD a4 q0 (c - 50) q1 (ax_ec c) hw (r := (ax_nm (ax_ec c), ax_T (ax_ec c), ax_N (ax_ec c))) ht hw1 (ax_vc_at e2) hi hd fun H1 locs1 hP1 hD1 hS1 => fin H1 locs1 _ rfl hP1 hD1 hS1
  | null => exact va_astqN hx hb hE.1 hP hD a4 q0 (c - 50) hw ht hi hd fun H1 locs1 hP1 hD1 hS1 => fin H1 locs1 _ rfl hP1 hD1 hS1
  | int x => cases hv
  | long x => cases hv
  | float x => cases hv
  | double x => cases hv
  | retAddr x => cases hv
theorem ax_r_alen {a c n : Nat} {v : Value} (hd : decode cc pc = .ok (.arraylength, 1)) (hv : ax_rf v = some a) (ha : h.1 a = some (c, n)) (h1 : 50 ≤ c) (h2 : c < 54) (kk : AW G o nL ini cc ret d Q rc rs (pc + 1) L (.int (Int32.ofNat n) :: S) h) : AW G o nL ini cc ret d Q rc rs pc L (v :: S) h := by
  intro p l e R s m args below meth c0 Z mc ms ad0 h0 C Rt k1 n1 ad H locs ls A
  obtain ⟨hx, hb, hml, hown, hini, hE, hB, hR1, hR2, hR3, hR4⟩ := id C
  obtain ⟨a1, a2, a3, a4, a5, a6, a7, a8, a9⟩ := id A
  obtain ⟨dom, nd, hdm, hP, hD, ho, hcl⟩ := id a3
  obtain ⟨q0, hq0⟩ := List.getElem?_of_mem ((hdm a).mpr ⟨c, n, ha, by simp [ax_own]; omega⟩)
  have hw := ax_ws_at (G := G) (ad := ad) (h := h) hq0
  have hv' := ax_rf_some hv
  subst hv'
  have kk' := kk p l e R s m args below meth c0 Z mc ms ad0 h0 C Rt k1 n1 ad H locs ls ⟨a1, a2, a3, a4, a5, a6, a7, List.forall_mem_cons.mpr ⟨ax_wv_int _ _, fun v hv => a8 v (List.mem_cons_of_mem _ hv)⟩, a9⟩
  by_cases h5 : c = 50
  · subst h5
    rw [ax_e_int ha] at hw
    exact va_alen hx hb hE.1 hP q0 0 hw rfl rfl hd kk'
  · rw [ax_e_ref ha (by omega)] at hw
    exact va_alen hx hb hE.1 hP q0 (c - 50) hw (ax_tys_at (G := G) (by omega) h2) rfl hd kk'
theorem ax_r_alenS {a n : Nat} {v : Value} (hd : decode cc pc = .ok (.arraylength, 1)) (hv : ax_rf v = some a) (ha : h.1 a = some (49, n)) (kk : AW G o nL ini cc ret d Q rc rs (pc + 1) L (.int (Int32.ofNat n) :: S) h) : AW G o nL ini cc ret d Q rc rs pc L (v :: S) h := by
  intro p l e R s m args below meth c0 Z mc ms ad0 h0 C Rt k1 n1 ad H locs ls A
  obtain ⟨hx, hb, hml, hown, hini, hE, hB, hR1, hR2, hR3, hR4⟩ := id C
  obtain ⟨a1, a2, a3, a4, a5, a6, a7, a8, a9⟩ := id A
  obtain ⟨dom, nd, hdm, hP, hD, ho, hcl⟩ := id a3
  rcases ho a 49 n ha rfl with ⟨-, q2, q3, q4⟩ | ⟨q, -⟩
  · have hv' := ax_rf_some hv
    subst hv'
    obtain ⟨-, -, -, -, -, -, hX, hbl, -⟩ := hE
    have hX' : va_X G.2.2.2.2.1.1 G.2.2.2.2.1.2.1 G.2.2.2.2.1.2.2 s s.heap := hX.kept (hB.2.2 _ hbl)
    show W p l e R s m args below meth c0 H locs k1 n1 Z (F0 m pc ls (.ref (ad a) :: S.map (ax_vm ad)))
    rw [q2]
    refine va_slen hx hb hX' (Nat.lt_of_lt_of_le hbl hB.1) (Nat.not_le.mpr hbl) a4 hd ?_
    rw [← q3]
    exact kk p l e R s m args below meth c0 Z mc ms ad0 h0 C Rt k1 n1 ad H locs ls ⟨a1, a2, a3, a4, a5, a6, a7, List.forall_mem_cons.mpr ⟨ax_wv_int _ _, fun v hv => a8 v (List.mem_cons_of_mem _ hv)⟩, a9⟩
  · cases q
end AXH
/-! making objects and arrays -/
def ax_ad (ad : Nat → Nat) (a q : Nat) : Nat → Nat := fun b => if b = a then q else ad b
theorem ax_ad_ne {ad : Nat → Nat} {a q b : Nat} (h : b ≠ a) : ax_ad ad a q b = ad b := if_neg h
theorem ax_ad_at {ad : Nat → Nat} {a q : Nat} : ax_ad ad a q a = q := if_pos rfl
theorem ax_ne_of {h : AH} {a b : Nat} (ha : h.1 a = none) (hb : (h.1 b).isSome = true) : b ≠ a := fun e => by
  subst e
  rw [ha] at hb
  cases hb
theorem ax_ad_ext {h : AH} {ad : Nat → Nat} {a q : Nat} (ha : h.1 a = none) : ax_ext h ad (ax_ad ad a q) := fun b hb => ax_ad_ne (ax_ne_of ha hb)
theorem ax_new_mono {h : AH} {a : Nat} {w : Nat × Nat} (ha : h.1 a = none) : ax_mono h (ax_new h a w) := fun b q hb => by
  show (if b = a then some w else h.1 b) = some q
  rw [if_neg (ax_ne_of ha (by rw [hb]; rfl))]
  exact hb
theorem ax_new_e {G : AG} {ad : Nat → Nat} {h : AH} {a b q : Nat} {w : Nat × Nat} (ha : h.1 a = none) (hb : (h.1 b).isSome = true) (hc : ax_closed h) : ax_e G (ax_ad ad a q) (ax_new h a w) b = ax_e G ad h b := by
  have hba := ax_ne_of ha hb
  have h1 : (ax_new h a w).1 b = h.1 b := if_neg hba
  have h2 : (ax_new h a w).2.1 b = h.2.1 b := funext fun k => if_neg hba
  have h3 : (ax_new h a w).2.2 b = h.2.2 b := funext fun k => if_neg hba
  have h4 : ∀ k, ((ax_new h a w).2.2 b k).map (ax_ad ad a q) = (h.2.2 b k).map ad := fun k => by
    rw [h3]
    cases hk : h.2.2 b k with
    | none => rfl
    | some x =>
      simp only [Option.map_some]
      rw [ax_ad_ne (ax_ne_of ha (hc b x k hb hk))]
  have h5 : ∀ c, ax_fs (ax_ad ad a q) (ax_new h a w) c b = ax_fs ad h c b := fun c => List.map_congr_left fun k _ => by unfold ax_fv; rw [h4, h2]
  have h6 : (fun k => ((ax_new h a w).2.2 b k).map (ax_ad ad a q)) = (fun k => (h.2.2 b k).map ad) := funext h4
  unfold ax_e
  rw [h1, h2, h6]
  cases h.1 b with
  | none => rfl
  | some q => simp only [h5]
theorem ax_Rel_new {G : AG} {ad : Nat → Nat} {h : AH} {H1 : Heap} {dom : List Nat} {a c n q : Nat} {e : va_E} (nd : dom.Nodup) (hd : ∀ a, a ∈ dom ↔ ∃ c n, h.1 a = some (c, n) ∧ ax_own c = true) (ho : ax_old G ad h) (hcl : ax_closed h) (ha : h.1 a = none) (hc : ax_own c = true) (he : e = ax_e G (ax_ad ad a q) (ax_new h a (c, n)) a)
    (hP : va_P G.2.1 ax_vc (ax_ws G ad h dom ++ [(q, e)]) H1) (hD : va_D (ax_A G) (ax_ws G ad h dom ++ [(q, e)])) : ax_Rel G (ax_ad ad a q) (ax_new h a (c, n)) H1 := by
  have hw : ax_ws G (ax_ad ad a q) (ax_new h a (c, n)) (dom ++ [a]) = ax_ws G ad h dom ++ [(q, e)] := by
    unfold ax_ws
    rw [List.map_append]
    congr 1
    · refine List.map_congr_left fun b hb => ?_
      obtain ⟨c', n', h1, h2⟩ := (hd b).mp hb
      have hs : (h.1 b).isSome = true := by rw [h1]; rfl
      rw [ax_new_e ha hs hcl, ax_ad_ne (ax_ne_of ha hs)]
    · show [(ax_ad ad a q a, _)] = _
      rw [ax_ad_at, he]
  have hna : a ∉ dom := fun hm => by
    obtain ⟨c', n', h1, h2⟩ := (hd a).mp hm
    rw [ha] at h1
    cases h1
  refine ⟨dom ++ [a], ?_, fun x => ?_, by rw [hw]; exact hP, by rw [hw]; exact hD, fun x c' n' hx hn => ?_, fun x y k hx hy => ?_⟩
  · refine List.nodup_append.mpr ⟨nd, by simp, fun x hx y hy => ?_⟩
    rw [List.mem_singleton.mp hy]
    intro e
    subst e
    exact hna hx
  · rw [List.mem_append, List.mem_singleton]
    show _ ↔ ∃ c' n', (if x = a then some (c, n) else h.1 x) = some (c', n') ∧ _
    by_cases hx : x = a
    · rw [if_pos hx]
      exact ⟨fun _ => ⟨c, n, rfl, hc⟩, fun _ => Or.inr hx⟩
    · rw [if_neg hx]
      exact ⟨fun q => (hd x).mp (q.resolve_right hx), fun q => Or.inl ((hd x).mpr q)⟩
  · have hx' : (if x = a then some (c, n) else h.1 x) = some (c', n') := hx
    by_cases hxa : x = a
    · rw [if_pos hxa] at hx'
      cases hx'
      rw [hc] at hn
      cases hn
    · rw [if_neg hxa] at hx'
      rw [ax_ad_ne hxa]
      rcases ho x c' n' hx' hn with ⟨q1, q2, q3, q4⟩ | q
      · exact Or.inl ⟨q1, q2, q3, fun k hk => by
          show (if x = a then 0 else h.2.1 x k) = _
          rw [if_neg hxa]
          exact q4 k hk⟩
      · exact Or.inr q
  · have hy' : (if x = a then none else h.2.2 x k) = some y := hy
    by_cases hxa : x = a
    · rw [if_pos hxa] at hy'
      cases hy'
    · rw [if_neg hxa] at hy'
      have hx' : (if x = a then some (c, n) else h.1 x).isSome = true := hx
      rw [if_neg hxa] at hx'
      exact ax_mono_some (ax_new_mono ha) (hcl x y k hx' hy')
theorem ax_insts {c : Nat} (hc : c < 7) : Cond.instantiable (ax_nm c) (ax_N c) ∈ ax_G := ax_lt7 (P := fun c => Cond.instantiable (ax_nm c) (ax_N c) ∈ ax_G) (ax_G_in (i := 452) (by decide +kernel) rfl) (ax_G_in (i := 309) (by decide +kernel) rfl) (ax_G_in (i := 129) (by decide +kernel) rfl) (ax_G_in (i := 90) (by decide +kernel) rfl) (ax_G_in (i := 150) (by decide +kernel) rfl) (ax_G_in (i := 82) (by decide +kernel) rfl) (ax_G_in (i := 851) (by decide +kernel) rfl) hc
theorem ax_inits {c : Nat} (hc : c < 7) : Cond.initialized (ax_nm c) ∈ ax_G := ax_lt7 (P := fun c => Cond.initialized (ax_nm c) ∈ ax_G) (ax_G_in (i := 79) (by decide +kernel) rfl) (ax_G_in (i := 75) (by decide +kernel) rfl) (ax_G_in (i := 68) (by decide +kernel) rfl) (ax_G_in (i := 67) (by decide +kernel) rfl) (ax_G_in (i := 69) (by decide +kernel) rfl) (ax_G_in (i := 66) (by decide +kernel) rfl) (ax_G_in (i := 76) (by decide +kernel) rfl) hc
theorem ax_arrInt : Cond.arrayClass .int ∈ ax_G := ax_G_in (i := 124) (by decide +kernel) rfl
theorem ax_defs {c : Nat} (hc : c < 7) : ∀ j, j < ax_N c → defaultValue (ax_ft c j) = if ax_isRT (ax_ft c j) = true then Value.null else .int 0 :=
  ax_lt7 (P := fun c => ∀ j, j < ax_N c → defaultValue (ax_ft c j) = if ax_isRT (ax_ft c j) = true then Value.null else .int 0) (by decide +kernel) (by decide +kernel) (by decide +kernel) (by decide +kernel) (by decide +kernel) (by decide +kernel) (by decide +kernel) hc
theorem ax_cls_ok {o i c : Nat} (h : ax_cls o i = some c) : Cond.classLink (ax_nm o) i (ax_nm c) ∈ ax_G := by
  unfold ax_cls at h
  cases hf : ax_kT.find? (fun e => e.1.1 == o && e.1.2 == i) with
  | none => rw [hf] at h; cases h
  | some e =>
    rw [hf] at h
    simp only [Option.map_some, Option.some.injEq] at h
    obtain ⟨hm, rfl, rfl⟩ := ax_find hf
    have h1 := List.all_eq_true.mp ax_kT_ok e hm
    rw [← h]
    exact ax_G_in (of_decide_eq_true h1) rfl
section AXN
variable {G : AG} {o nL : Nat} {ini : Bool} {cc : ByteArray} {ret : Option FieldType} {d : Nat} {Q : Option Value → AH → Prop} {rc rs pc : Nat} {L : AL} {S : List Value} {h : AH}
theorem ax_r_new {i c : Nat} (a : Nat) (hd : decode cc pc = .ok (.new i, 3)) (hf : ax_cls o i = some c) (hc : c < 7) (ha : h.1 a = none) (hrc : 1 ≤ rc) (hrs : ax_N c ≤ rs) (kk : AW G o nL ini cc ret d Q (rc - 1) (rs - ax_N c) (pc + 3) L (.ref a :: S) (ax_new h a (c, 0))) : AW G o nL ini cc ret d Q rc rs pc L S h := by
  intro p l e R s m args below meth c0 Z mc ms ad0 h0 C Rt k1 n1 ad H locs ls A
  obtain ⟨hx, hb, hml, hown, hini, hE, hB, hR1, hR2, hR3, hR4⟩ := id C
  obtain ⟨a1, a2, a3, a4, a5, a6, a7, a8, a9⟩ := id A
  obtain ⟨dom, nd, hdm, hP, hD, ho, hcl⟩ := id a3
  have hts := ax_G_ts hE args
  have hoc : ax_own c = true := by simp [ax_own, hc]
  refine va_new hx hb (Ts := ax_G) hts (ax_lays hc) (ax_ft c) (ax_ty_ok hc) hown (hts _ (ax_cls_ok hf)) (hts _ (ax_insts hc)) (hts _ (ax_inits hc)) hE.1 hP hD a4 (fun q hq => Nat.le_trans hB.1 hq) (ax_vc_at hc) (fs := (List.range (ax_N c)).map (fun j => if ax_isRT (ax_ft c j) = true then Value.null else .int 0)) (fun j hj => ?_) (by omega) (by omega) hd (fun q H1 hP1 hD1 hS1 => ?_)
  · rw [ax_defs hc j hj]
    unfold vp_V
    rw [List.getD_eq_getElem?_getD, List.getElem?_map, List.getElem?_range hj]
    rfl
  · have hR' : ax_Rel G (ax_ad ad a q) (ax_new h a (c, 0)) H1 := ax_Rel_new nd hdm ho hcl ha hoc (by
      rw [ax_e_obj (c := c) (n := 0) (if_pos rfl) hc]
      congr 2
      refine List.map_congr_left fun j _ => ?_
      unfold ax_fv
      by_cases hr : ax_isRT (ax_ft c j) = true
      · rw [if_pos hr, if_pos hr]
        show _ = va_rf ((if a = a then none else h.2.2 a j).map _)
        rw [if_pos rfl]
        rfl
      · rw [if_neg hr, if_neg hr]
        show _ = Value.int (if a = a then 0 else h.2.1 a j)
        rw [if_pos rfl]) hP1 hD1
    have hext : ax_ext h ad (ax_ad ad a q) := ax_ad_ext ha
    have hm : ax_mono h (ax_new h a (c, 0)) := ax_new_mono ha
    have kk' := kk p l e R s m args below meth c0 Z mc ms ad0 h0 C Rt (k1 + 1) (n1 + ax_N c) (ax_ad ad a q) H1 locs ls ⟨by omega, by omega, hR', hS1, ax_ext_tr a6 a5 hext, ax_mono_tr a6 hm, fun x hq => ax_wv_mono hm (a7 x hq), List.forall_mem_cons.mpr ⟨fun b hb2 => by cases hb2; show (if a = a then some (c, 0) else h.1 a).isSome = true; rw [if_pos rfl]; rfl, fun w hq => ax_wv_mono hm (a8 w hq)⟩, by rw [ax_mapL a7 hext]; exact a9⟩
    have e1 : (Value.ref a :: S).map (ax_vm (ax_ad ad a q)) = .ref q :: S.map (ax_vm ad) := by
      rw [List.map_cons, ax_mapS a8 hext]
      show Value.ref (ax_ad ad a q a) :: _ = _
      rw [ax_ad_at]
    rw [e1] at kk'
    exact kk'
theorem ax_find_int {cA cB : ClassId} {U : State} (h1 : va_RA U cA .int) (h2 : va_RA U cB .int) : cA = cB := Option.some.inj ((show U.vm.findClass _ = some cA from h1).symm.trans h2)
theorem ax_find_obj {cA cB : ClassId} {C : String} {U : State} (h1 : va_RA U cA (.object C)) (h2 : va_RA U cB (.object C)) : cA = cB := by
  obtain ⟨k1, c1, -, -, -, e1⟩ := h1
  obtain ⟨k2, c2, -, -, -, e2⟩ := h2
  exact Option.some.inj (e1.symm.trans e2)
theorem ax_r_newarray {x : Int32} {n : Nat} (a : Nat) (hd : decode cc pc = .ok (.newarray .int, 2)) (hn : x = Int32.ofNat n) (hn2 : n < 10000) (ha : h.1 a = none) (hrc : 1 ≤ rc) (hrs : n ≤ rs) (kk : AW G o nL ini cc ret d Q (rc - 1) (rs - n) (pc + 2) L (.ref a :: S) (ax_new h a (50, n))) : AW G o nL ini cc ret d Q rc rs pc L (.int x :: S) h := by
  intro p l e R s m args below meth c0 Z mc ms ad0 h0 C Rt k1 n1 ad H locs ls A
  obtain ⟨hx, hb, hml, hown, hini, hE, hB, hR1, hR2, hR3, hR4⟩ := id C
  obtain ⟨a1, a2, a3, a4, a5, a6, a7, a8, a9⟩ := id A
  obtain ⟨dom, nd, hdm, hP, hD, ho, hcl⟩ := id a3
  have hts := ax_G_ts hE args
  have hn31 : n < 2 ^ 31 := Nat.lt_trans hn2 (by decide)
  subst hn
  refine va_newa (atype := .int) (ty := .int) hx hb (hts _ ax_arrInt) rfl hE.1 hP hD a4 (fun q hq => Nat.le_trans hB.1 hq) (N' := n) (a0 := (n, .inl (fun _ => 0))) (fun cA => rfl) (nI_pos hn31) (nI_clamp hn31) (by show n * 4 ≤ _; omega) (by omega) (by omega) hd (fun q cA H1 hK1 hP1 hD1 hS1 => ?_)
  have hcA : cA = G.2.2.1 50 := by
    have h1 := (hK1.2 4 (cA, .int) rfl).2
    have h2 := (hE.1.2 0 (G.2.2.1 50, .int) rfl).2
    exact ax_find_int h1 h2
  subst hcA
  have hR' : ax_Rel G (ax_ad ad a q) (ax_new h a (50, n)) H1 := ax_Rel_new nd hdm ho hcl ha rfl (by
    rw [ax_e_int (n := n) (if_pos rfl), show (ax_new h a (50, n)).2.1 a = (fun _ => 0) from funext fun _ => if_pos rfl]) hP1 hD1
  have hext : ax_ext h ad (ax_ad ad a q) := ax_ad_ext ha
  have hm : ax_mono h (ax_new h a (50, n)) := ax_new_mono ha
  have a8' : ∀ v ∈ S, ax_wv h v := fun v hv => a8 v (List.mem_cons_of_mem _ hv)
  have kk' := kk p l e R s m args below meth c0 Z mc ms ad0 h0 C Rt (k1 + 1) (n1 + n) (ax_ad ad a q) H1 locs ls ⟨by omega, by omega, hR', hS1, ax_ext_tr a6 a5 hext, ax_mono_tr a6 hm, fun x hq => ax_wv_mono hm (a7 x hq), List.forall_mem_cons.mpr ⟨fun b hb2 => by cases hb2; show (if a = a then some (50, n) else h.1 a).isSome = true; rw [if_pos rfl]; rfl, fun w hq => ax_wv_mono hm (a8' w hq)⟩, by rw [ax_mapL a7 hext]; exact a9⟩
  have e1 : (Value.ref a :: S).map (ax_vm (ax_ad ad a q)) = .ref q :: S.map (ax_vm ad) := by
    rw [List.map_cons, ax_mapS a8' hext]
    show Value.ref (ax_ad ad a q a) :: _ = _
    rw [ax_ad_at]
  rw [e1] at kk'
  exact kk'
theorem ax_overs {U : State} {c : Nat} (hE : ax_Env G U) (h1 : 51 ≤ c) (h2 : c < 54) : va_AO (ax_nm (ax_ec c)) U := by
  obtain ⟨-, -, -, e1, e2, e3, -⟩ := hE
  rcases (show c = 51 ∨ c = 52 ∨ c = 53 by omega) with rfl | rfl | rfl
  · exact e1
  · exact e2
  · exact e3
theorem ax_r_anewarray {x : Int32} {n i c : Nat} (a : Nat) (hd : decode cc pc = .ok (.anewarray i, 3)) (h1 : 51 ≤ c) (h2 : c < 54) (hf : ax_cls o i = some (ax_ec c)) (hn : x = Int32.ofNat n) (hn2 : n < 10000) (ha : h.1 a = none) (hrc : 1 ≤ rc) (hrs : n ≤ rs) (kk : AW G o nL ini cc ret d Q (rc - 1) (rs - n) (pc + 3) L (.ref a :: S) (ax_new h a (c, n))) : AW G o nL ini cc ret d Q rc rs pc L (.int x :: S) h := by
  intro p l e R s m args below meth c0 Z mc ms ad0 h0 C Rt k1 n1 ad H locs ls A
  obtain ⟨hx, hb, hml, hown, hini, hE, hB, hR1, hR2, hR3, hR4⟩ := id C
  obtain ⟨a1, a2, a3, a4, a5, a6, a7, a8, a9⟩ := id A
  obtain ⟨dom, nd, hdm, hP, hD, ho, hcl⟩ := id a3
  have hts := ax_G_ts hE args
  have hn31 : n < 2 ^ 31 := Nat.lt_trans hn2 (by decide)
  subst hn
  refine va_newq hx hb hown (hts _ (ax_cls_ok hf)) (ax_overs hE h1 h2) hE.1 hP hD a4 (fun q hq => Nat.le_trans hB.1 hq) (N' := n) (nI_pos hn31) (nI_clamp hn31) (by omega) (by omega) (by omega) hd (fun q cA H1 hK1 hP1 hD1 hS1 => ?_)
  have hcA : cA = G.2.2.1 c := by
    have g1 := (hK1.2 4 (cA, .object (ax_nm (ax_ec c))) rfl).2
    have g2 := ax_tys_at (G := G) h1 h2
    rw [(ax_el_at h1 h2).1] at g2
    exact ax_find_obj g1 (hE.1.2 _ _ g2).2
  subst hcA
  have hR' : ax_Rel G (ax_ad ad a q) (ax_new h a (c, n)) H1 := ax_Rel_new nd hdm ho hcl ha (by simp [ax_own]; omega) (by
    rw [ax_e_ref (n := n) (if_pos rfl) h1, show (fun k => ((ax_new h a (c, n)).2.2 a k).map (ax_ad ad a q)) = (fun _ => none) from funext fun k => by
      show (if a = a then none else h.2.2 a k).map _ = none
      rw [if_pos rfl]
      rfl]) hP1 hD1
  have hext : ax_ext h ad (ax_ad ad a q) := ax_ad_ext ha
  have hm : ax_mono h (ax_new h a (c, n)) := ax_new_mono ha
  have a8' : ∀ v ∈ S, ax_wv h v := fun v hv => a8 v (List.mem_cons_of_mem _ hv)
  have kk' := kk p l e R s m args below meth c0 Z mc ms ad0 h0 C Rt (k1 + 1) (n1 + n) (ax_ad ad a q) H1 locs ls ⟨by omega, by omega, hR', hS1, ax_ext_tr a6 a5 hext, ax_mono_tr a6 hm, fun x hq => ax_wv_mono hm (a7 x hq), List.forall_mem_cons.mpr ⟨fun b hb2 => by cases hb2; show (if a = a then some (c, n) else h.1 a).isSome = true; rw [if_pos rfl]; rfl, fun w hq => ax_wv_mono hm (a8' w hq)⟩, by rw [ax_mapL a7 hext]; exact a9⟩
  have e1 : (Value.ref a :: S).map (ax_vm (ax_ad ad a q)) = .ref q :: S.map (ax_vm ad) := by
    rw [List.map_cons, ax_mapS a8' hext]
    show Value.ref (ax_ad ad a q a) :: _ = _
    rw [ax_ad_at]
  rw [e1] at kk'
  exact kk'
end AXN
/-! calls -/
theorem ax_m_row {j : Nat} (h : ax_kd j < 3) : ∃ r ∈ ax_mT, ax_mt j = r := by
  cases hr : ax_mT[j]? with
  | none =>
    exfalso
    unfold ax_kd ax_mt at h
    rw [hr] at h
    exact absurd h (by decide)
  | some r => exact ⟨r, List.mem_of_getElem? hr, by unfold ax_mt; rw [hr]; rfl⟩
theorem ax_m_ok {j : Nat} (h : ax_kd j < 3) : ax_nL j ≤ 41 ∧ plainName (ax_y j).cls = true ∧ ((ax_y j).cls ≠ "java/lang/invoke/MethodHandle" ∧ (ax_y j).cls ≠ "java/lang/invoke/VarHandle" ∧ (parseMethodDescriptor (ax_y j).desc).map (fun d => d.parameters.length) = some (ax_na j)) ∧ Cond.initialized (ax_y j).cls ∈ ax_G := by
  obtain ⟨r, hr, he⟩ := ax_m_row h
  have h1 := List.all_eq_true.mp ax_mT_ok r hr
  simp only [Bool.and_eq_true, decide_eq_true_eq] at h1
  obtain ⟨⟨⟨h0, h2⟩, h3⟩, h4⟩ := h1
  unfold ax_nL ax_y ax_na
  rw [he]
  exact ⟨h0, h2, h3, ax_G_in h4 rfl⟩
theorem ax_m_ok2 {j : Nat} (h : ax_kd j < 3) : (ax_kd j = 0 → Cond.static (ax_y j) ∈ ax_G) ∧ (ax_kd j = 1 → Cond.selects (ax_y j).cls (ax_y j) (ax_y j) ∈ ax_G ∧ Cond.instanceMethod (ax_y j) ∈ ax_G) ∧ (ax_kd j = 2 → ((ax_y j).name = "<init>" ∧ ax_ret j = none) ∧ Cond.instanceMethod (ax_y j) ∈ ax_G) := by
  obtain ⟨r, hr, he⟩ := ax_m_row h
  have h1 := List.all_eq_true.mp ax_mT_ok2 r hr
  simp only [Bool.and_eq_true, Bool.or_eq_true, decide_eq_true_eq, beq_iff_eq] at h1
  unfold ax_kd ax_y ax_ret
  rw [he]
  rcases h1 with ⟨q1, q2⟩ | ⟨⟨q1, q2⟩ | ⟨q1, q2⟩, q3⟩
  · exact ⟨fun _ => ax_G_in q2 rfl, (fun q => by rw [q1] at q; cases q), (fun q => by rw [q1] at q; cases q)⟩
  · exact ⟨(fun q => by rw [q1] at q; cases q), fun _ => ⟨ax_G_in q2 rfl, ax_G_in q3 rfl⟩, (fun q => by rw [q1] at q; cases q)⟩
  · exact ⟨(fun q => by rw [q1] at q; cases q), (fun q => by rw [q1] at q; cases q), fun _ => ⟨q2, ax_G_in q3 rfl⟩⟩
theorem ax_call_ok {o i j kd na c : Nat} (h : ax_call o i = some (j, kd, na, c)) :
    (kd < 3 ∧ Cond.methodLink (ax_nm o) i (ax_y j) ∈ ax_G ∧ ax_kd j = kd ∧ na = ax_na j + (if kd = 0 then 0 else 1) ∧ (kd = 1 → c < 12 → ax_nm c = (ax_y j).cls)) ∨ (kd = 3 ∧ (∃ q ∈ ax_nest, q.1 = ax_nm o ∧ q.2.1 = i ∧ q.2.2.1 = ax_y j) ∧ ax_kd j = 2 ∧ na = ax_na j + 1) ∨ (kd = 6 ∧ (∃ q ∈ ax_nest, q.1 = ax_nm o ∧ q.2.1 = i ∧ q.2.2.1 = ax_y j) ∧ ax_kd j = 0 ∧ na = ax_na j) ∨ (kd = 4 ∧ Cond.methodLink (ax_nm o) i Lib.objectInit ∈ ax_G) ∨ (kd = 5 ∧ Cond.methodLink (ax_nm o) i arraycopyName ∈ ax_G) ∨ (kd = 7 ∧ Cond.methodLink (ax_nm o) i Lib.Math.max.name ∈ ax_G) ∨ (kd = 8 ∧ Cond.methodLink (ax_nm o) i Lib.Math.min.name ∈ ax_G) := by
  unfold ax_call at h
  cases hf : ax_cT.find? (fun e => e.1.1 == o && e.1.2 == i) with
  | none => rw [hf] at h; cases h
  | some e =>
    rw [hf] at h
    simp only [Option.map_some, Option.some.injEq] at h
    obtain ⟨hm, rfl, rfl⟩ := ax_find hf
    have h1 := List.all_eq_true.mp ax_cT_ok e hm
    rw [h] at h1
    simp only [Bool.and_eq_true, Bool.or_eq_true, decide_eq_true_eq, List.any_eq_true] at h1
    rcases h1 with (((((⟨⟨⟨⟨q1, q2⟩, q3⟩, q4⟩, q5⟩ | ⟨⟨⟨q1, q2⟩, q3⟩, q4⟩) | ⟨⟨⟨q1, q2⟩, q3⟩, q4⟩) | ⟨q1, q2⟩) | ⟨q1, q2⟩) | ⟨q1, q2⟩) | ⟨q1, q2⟩
    · exact Or.inl ⟨q1, ax_G_in q2 rfl, q3, q4, q5⟩
    · exact Or.inr (Or.inl ⟨q1, q2, q3, q4⟩)
    · exact Or.inr (Or.inr (Or.inl ⟨q1, q2, q3, q4⟩))
    · exact Or.inr (Or.inr (Or.inr (Or.inl ⟨q1, ax_G_in q2 rfl⟩)))
    · exact Or.inr (Or.inr (Or.inr (Or.inr (Or.inl ⟨q1, ax_G_in q2 rfl⟩))))
    · exact Or.inr (Or.inr (Or.inr (Or.inr (Or.inr (Or.inl ⟨q1, ax_G_in q2 rfl⟩)))))
    · exact Or.inr (Or.inr (Or.inr (Or.inr (Or.inr (Or.inr ⟨q1, ax_G_in q2 rfl⟩)))))
theorem ax_Env_warm {G : AG} {s U : State} (hW : s.WarmedH U.vm) (hE : ax_Env G s) : ax_Env G U := by
  obtain ⟨e1, e2, e3, e4, e5, e6, e7, e8, s1, s2, adV, s3, s4, s5⟩ := hE
  exact ⟨va_K.moved hW.alike e1, fun w hw hg a => word_at hW (good_of_word hg) (e2 w hw hg #[]), fun q hq => va_Nw.warmM hW (e3 q hq), va_AO.moved hW.alike e4, va_AO.moved hW.alike e5, va_AO.moved hW.alike e6, va_X.moved hW.alike e7, e8, vk_R.warm hW s1, vk_R.warm hW s2, adV, vk_S.moved hW.alike s3, va_Z.moved hW.alike s4, va_Zq.moved hW.alike s5⟩
theorem ax_Pc_blind {G : AG} {ad : Nat → Nat} {As : List Value} {h : AH} : FrameBlind (ax_Pc G ad As h) := fun a U g mk q => ⟨q.1, ax_Env_warm (s := U) (U := U.calling g mk a) (State.WarmedH.refl U) q.2.1, q.2.2⟩
theorem ax_below_S {G : AG} {H0 H : Heap} {locs : List Loc} (hB : ax_below G H0) (hS : va_S (ax_A G) H0 H locs) : ax_below G H := ⟨Nat.le_trans hB.1 hS.1, hB.2.1, fun q hq => (hS.2.1 q (Nat.lt_of_lt_of_le hq hB.1) (Nat.not_le.mpr hq)).trans (hB.2.2 q hq)⟩
theorem ax_code_warm {s : State} {args : Array Value} {y : MethodName} {cc : ByteArray} {nL : Nat} {ret : Option FieldType} (h : (Cond.code y cc nL ret).before args s = true) : ∀ w ∈ [Cond.code y cc nL ret], ∀ (a' : Array Value) (U : State), s.WarmedH U.vm → w.before a' U = true := fun w hw a' U hW => by
  rw [List.mem_singleton.mp hw]
  exact word_at hW (Or.inl rfl) h
theorem ax_callB {G : AG} {s : State} {args : Array Value} {R : Room} {o i j d d' mc ms : Nat} (hE : ax_Env G s) (h1 : Cond.code (ax_y j) (ax_cc j) (ax_nL j) (ax_ret j) ∈ ax_G) (hj : ax_kd j < 3) (hl : Cond.methodLink (ax_nm o) i (ax_y j) ∈ ax_G) (hdd : d' + 1 ≤ d) (hR1 : d ≤ R.frames) (hR2 : 60 * d ≤ R.locals) :
    CallB R s args (ax_nm o) i (ax_y j) (ax_cc j) (ax_nL j) (ax_ret j) [Cond.code (ax_y j) (ax_cc j) (ax_nL j) (ax_ret j)] (ax_rm d' mc ms) mc ms (ax_na j) := by
  obtain ⟨h0, h2, h3, h4⟩ := ax_m_ok hj
  have hts := ax_G_ts hE args
  refine ⟨rfl, rfl, Nat.le_trans hdd hR1, ?_, ax_code_warm (hts _ h1), List.mem_cons_self, hts _ h1, hts _ h4, ⟨h3.1, h3.2.1⟩, fun sig hs => ?_, hts _ hl⟩
  · show 8 + (ax_nL j + 11) + 60 * d' ≤ R.locals
    omega
  · have h5 := h3.2.2
    rw [hs] at h5
    exact (Option.some.inj h5).symm
theorem ax_callN {G : AG} {s : State} {args : Array Value} {R : Room} {o i j d d' mc ms : Nat} {host : String} (hE : ax_Env G s) (h1 : Cond.code (ax_y j) (ax_cc j) (ax_nL j) (ax_ret j) ∈ ax_G) (hj : ax_kd j < 3) (hl : (Cond.methodLinkNest (ax_nm o) i (ax_y j) host).before args s = true) (hdd : d' + 1 ≤ d) (hR1 : d ≤ R.frames) (hR2 : 60 * d ≤ R.locals) :
    va_CN R s args (ax_nm o) i (ax_y j) host (ax_cc j) (ax_nL j) (ax_ret j) [Cond.code (ax_y j) (ax_cc j) (ax_nL j) (ax_ret j)] (ax_rm d' mc ms) mc ms (ax_na j) := by
  obtain ⟨h0, h2, h3, h4⟩ := ax_m_ok hj
  have hts := ax_G_ts hE args
  refine ⟨⟨rfl, rfl, Nat.le_trans hdd hR1, ?_, ax_code_warm (hts _ h1), List.mem_cons_self⟩, hts _ h1, hts _ h4, ⟨h3.1, h3.2.1⟩, fun sig hs => ?_, hl⟩
  · show 8 + (ax_nL j + 11) + 60 * d' ≤ R.locals
    omega
  · have h5 := h3.2.2
    rw [hs] at h5
    exact (Option.some.inj h5).symm
section AXCG
variable {p : Program} {l : Launch} {e : Env} {R : Room} {s : State} {m : MethodId} {args : Array Value} {below : List Frame} {meth : Method} {c : Code} {H : Heap} {locs : List Loc} {cells slots : Nat} {Q : State → Prop}
theorem ax_callG {Qa : State → Outcome → State → Prop} {A0 : Nat → Prop} {H0 : Heap} {free : Addr → Prop} {pc : Nat} {ls : Array Slot} {rest st0 : List Value} {mc ms : Nat} (hr : va_Run p l e R s m args below meth c H locs cells slots mc ms (F0 m pc ls st0) rest Qa free) (hS : va_S A0 H0 H locs) (hf : ∀ q, free q → A0 q) (hF : ∀ st oc t, Qa st oc t → va_F A0 st t)
    (kk : ∀ (v : Option Value) (st₀ t : State) (H1 : Heap) (locs1 : List Loc), st₀.heap = H → t.heap = H1 → Qa st₀ (.returned v) t → va_S A0 H0 H1 locs1 → W p l e R s m args below meth c H1 locs1 (cells + mc) (slots + ms) Q (F0 m (pc + 3) ls (v.toList ++ rest))) : W p l e R s m args below meth c H locs cells slots Q (F0 m pc ls st0) := by
  intro T hT X
  obtain ⟨v, st₀, t, T', L, h0, X', hL, e1, e2, hq, st⟩ := hr T hT X
  obtain ⟨hz, hk⟩ := hF _ _ _ hq
  rw [h0] at hz hk
  obtain ⟨t2, a1, b1⟩ := kk v st₀ t T'.heap (locs ++ L) h0 e1.symm hq ⟨Nat.le_trans hS.1 (by rw [e1]; exact hz), fun q h1 h2 => by rw [e1, hk q (Nat.lt_of_lt_of_le h1 hS.1) h2]; exact hS.2.1 q h1 h2, fun q hq => by
      rcases List.mem_append.mp hq with h | h
      · exact hS.2.2 q h
      · exact hf _ (hL q h)⟩ T' rfl X'
  exact ⟨t2, st t2 a1, b1⟩
end AXCG
section AXC
variable {G : AG} {o nL : Nat} {ini : Bool} {cc : ByteArray} {ret : Option FieldType} {d : Nat} {Q : Option Value → AH → Prop} {rc rs pc : Nat} {L : AL} {S : List Value} {h : AH}
/-- behind every call -/
theorem ax_behind {p : Program} {l : Launch} {e : Env} {R : Room} {s : State} {m : MethodId} {args : Array Value} {below : List Frame} {meth : Method} {c0 : Code} {Z : State → Prop} {mc ms : Nat} {ad0 : Nat → Nat} {h0 : AH} {k1 n1 : Nat} {ad : Nat → Nat} {H : Heap} {locs : List Loc} {ls : Array Slot} {mc' ms' : Nat} {As : List Value} {Qj : Option Value → AH → Prop} {av : Array Value} {st0 : List Value}
    (C : ax_Ctx G o nL ini cc d mc ms p R s m meth c0) (Rt : ∀ (pc : Nat) (ls : Array Slot) (H : Heap) (locs : List Loc) (ad : Nat → Nat) (h : AH) (v : Option Value) (k n : Nat), Q v h → ax_rok ret v → (∀ w, v = some w → ax_wv h w) → decode cc pc = .ok (ax_rd v, 1) → ax_At G s nL mc ms 0 0 k n ad0 h0 ad H locs ls [] [] h → W p l e R s m args below meth c0 H locs k n Z (F0 m pc ls (v.map (ax_vm ad)).toList))
    (A : ax_At G s nL mc ms rc rs k1 n1 ad0 h0 ad H locs ls L (As.reverse ++ S) h) (h1 : mc' ≤ rc) (h2 : ms' ≤ rs) (kk : ∀ v h', Qj v h' → ax_mono h h' → AW G o nL ini cc ret d Q (rc - mc') (rs - ms') (pc + 3) L (v.toList ++ S) h')
    (hr : va_Run p l e R s m args below meth c0 H locs k1 n1 mc' ms' (F0 m pc ls st0) (S.map (ax_vm ad)) (ax_Qc G ad h Qj av) (ax_A G)) : W p l e R s m args below meth c0 H locs k1 n1 Z (F0 m pc ls st0) := by
  obtain ⟨a1, a2, a3, a4, a5, a6, a7, a8, a9⟩ := A
  have a8' : ∀ v ∈ S, ax_wv h v := fun v hv => a8 v (List.mem_append_right _ hv)
  refine ax_callG hr a4 (fun _ q => q) (fun st oc t q => by obtain ⟨v, h', ad', q1, q2, q3, q4, q5, q6, q7⟩ := q; exact q7) fun v st₀ t H1 locs1 e1 e2 hq hS1 => ?_
  obtain ⟨w, h', ad', q1, q2, q3, q4, q5, q6, -⟩ := hq
  have hv : v = w.map (ax_vm ad') := by cases q3; rfl
  rw [e2] at q6
  have kk' := kk w h' q1 q5 p l e R s m args below meth c0 Z mc ms ad0 h0 C Rt (k1 + mc') (n1 + ms') ad' H1 locs1 ls ⟨by omega, by omega, q6, hS1, ax_ext_tr a6 a5 q4, ax_mono_tr a6 q5, fun x hx => ax_wv_mono q5 (a7 x hx), fun x hx => by
    rcases List.mem_append.mp hx with hx | hx
    · exact q2 x (by simpa using hx)
    · exact ax_wv_mono q5 (a8' x hx), by rw [ax_mapL a7 q4]; exact a9⟩
  have es : (w.toList ++ S).map (ax_vm ad') = v.toList ++ S.map (ax_vm ad) := by
    rw [List.map_append, ax_mapS a8' q4, hv]
    cases w <;> rfl
  rw [es] at kk'
  exact kk'
theorem ax_catS {ad : Nat → Nat} (hc : (S.map fun v => v.category).sum ≤ 8) : ((S.map (ax_vm ad)).map fun v => v.category).sum ≤ 8 := by
  rw [List.map_map]
  have : ((fun v => v.category) ∘ ax_vm ad) = (fun v => v.category) := funext fun v => ax_vm_cat ad v
  rw [this]
  exact hc
theorem ax_Pre {p : Program} {s : State} {H : Heap} {locs : List Loc} {ad : Nat → Nat} {As : List Value} (hE : ax_Env G s) (hB : ax_below G s.heap) (hS : va_S (ax_A G) s.heap H locs) (hR : ax_Rel G ad h H) : PreS s H (ax_Pc G ad As h) (As.map (ax_vm ad)) := ⟨ax_Pc_blind, fun U hU hW => ⟨rfl, ax_Env_warm hW hE, by rw [hU]; exact hR, by rw [hU]; exact ax_below_S hB hS⟩⟩
theorem ax_r_static {i j na c d' mc' ms' : Nat} {As : List Value} {Qj : Option Value → AH → Prop} (hd : decode cc pc = .ok (.invokestatic i, 3)) (hf : ax_call o i = some (j, 0, na, c)) (hlen : As.length = na) (hcat : (S.map fun v => v.category).sum ≤ 8) (hdd : d' + 1 ≤ d) (h1 : mc' ≤ rc) (h2 : ms' ≤ rs) (hM : AC G j d' mc' ms' As h Qj) (kk : ∀ v h', Qj v h' → ax_mono h h' → AW G o nL ini cc ret d Q (rc - mc') (rs - ms') (pc + 3) L (v.toList ++ S) h') : AW G o nL ini cc ret d Q rc rs pc L (As.reverse ++ S) h := by
  intro p l e R s m args below meth c0 Z mc ms ad0 h0 C Rt k1 n1 ad H locs ls A
  obtain ⟨hx, hb, hml, hown, hini, hE, hB, hR1, hR2, hR3, hR4⟩ := id C
  obtain ⟨a1, a2, a3, a4, a5, a6, a7, a8, a9⟩ := id A
  rcases ax_call_ok hf with ⟨-, g1, g2, g3, -⟩ | ⟨q, -⟩ | ⟨q, -⟩ | ⟨q, -⟩ | ⟨q, -⟩ | ⟨q, -⟩ | ⟨q, -⟩
  · have hj : ax_kd j < 3 := by omega
    rw [if_pos rfl] at g3
    refine ax_behind C Rt A h1 h2 kk (av := (As.map (ax_vm ad)).toArray) ?_
    exact va_runS (As := As.map (ax_vm ad)) (rest := S.map (ax_vm ad)) ⟨hx, hb, hml, hown, ax_G_ts hE args⟩ (hM.2 (fun v hv => a8 v (List.mem_append_left _ (List.mem_reverse.mpr hv))) l ad) ⟨ax_callB hE hM.1 hj g1 hdd hR1 hR2, ax_G_ts hE args _ ((ax_m_ok2 hj).1 g2)⟩ (ax_Pre (p := p) hE hB a4 a3) rfl (by rw [List.length_map]; omega) a9.1 (by simp) (lv_room (ax_catS hcat)) hd ⟨by omega, by omega⟩
  all_goals cases q
theorem ax_r_staticN {i j na c d' mc' ms' : Nat} {As : List Value} {Qj : Option Value → AH → Prop} (hd : decode cc pc = .ok (.invokestatic i, 3)) (hf : ax_call o i = some (j, 6, na, c)) (hlen : As.length = na) (hcat : (S.map fun v => v.category).sum ≤ 8) (hdd : d' + 1 ≤ d) (h1 : mc' ≤ rc) (h2 : ms' ≤ rs) (hM : AC G j d' mc' ms' As h Qj) (kk : ∀ v h', Qj v h' → ax_mono h h' → AW G o nL ini cc ret d Q (rc - mc') (rs - ms') (pc + 3) L (v.toList ++ S) h') : AW G o nL ini cc ret d Q rc rs pc L (As.reverse ++ S) h := by
  intro p l e R s m args below meth c0 Z mc ms ad0 h0 C Rt k1 n1 ad H locs ls A
  obtain ⟨hx, hb, hml, hown, hini, hE, hB, hR1, hR2, hR3, hR4⟩ := id C
  obtain ⟨a1, a2, a3, a4, a5, a6, a7, a8, a9⟩ := id A
  rcases ax_call_ok hf with ⟨q, -⟩ | ⟨q, -⟩ | ⟨-, ⟨w, hw, w1, w2, w3⟩, g2, g3⟩ | ⟨q, -⟩ | ⟨q, -⟩ | ⟨q, -⟩ | ⟨q, -⟩
  · exact absurd q (by decide)
  · cases q
  · have hj : ax_kd j < 3 := by omega
    have hnest := va_Nw.use (A := args) rfl (hE.2.2.1 w hw)
    rw [w1, w2, w3] at hnest
    refine ax_behind C Rt A h1 h2 kk (av := (As.map (ax_vm ad)).toArray) ?_
    exact va_runSN (As := As.map (ax_vm ad)) (rest := S.map (ax_vm ad)) ⟨hx, hb, hml, hown, ax_G_ts hE args⟩ (hM.2 (fun v hv => a8 v (List.mem_append_left _ (List.mem_reverse.mpr hv))) l ad) ⟨ax_callN hE hM.1 hj hnest hdd hR1 hR2, ax_G_ts hE args _ ((ax_m_ok2 hj).1 g2), trivial⟩ (ax_Pre (p := p) hE hB a4 a3) rfl (by rw [List.length_map]; omega) a9.1 (by simp) (lv_room (ax_catS hcat)) hd ⟨by omega, by omega⟩
  all_goals cases q
theorem ax_r_virtual {i j na c n b d' mc' ms' : Nat} {v0 : Value} {As : List Value} {Qj : Option Value → AH → Prop} (hd : decode cc pc = .ok (.invokevirtual i, 3)) (hf : ax_call o i = some (j, 1, na, c)) (hc : c < 7) (hlen : As.length + 1 = na) (hv : ax_rf v0 = some b) (hb0 : h.1 b = some (c, n)) (hcat : (S.map fun v => v.category).sum ≤ 8) (hdd : d' + 1 ≤ d) (h1 : mc' ≤ rc) (h2 : ms' ≤ rs) (hM : AC G j d' mc' ms' (.ref b :: As) h Qj) (kk : ∀ v h', Qj v h' → ax_mono h h' → AW G o nL ini cc ret d Q (rc - mc') (rs - ms') (pc + 3) L (v.toList ++ S) h') : AW G o nL ini cc ret d Q rc rs pc L (As.reverse ++ v0 :: S) h := by
  intro p l e R s m args below meth c0 Z mc ms ad0 h0 C Rt k1 n1 ad H locs ls A
  obtain ⟨hx, hb, hml, hown, hini, hE, hB, hR1, hR2, hR3, hR4⟩ := id C
  have hv' := ax_rf_some hv
  subst hv'
  have es : As.reverse ++ Value.ref b :: S = (Value.ref b :: As).reverse ++ S := by simp
  rw [es] at A ⊢
  obtain ⟨a1, a2, a3, a4, a5, a6, a7, a8, a9⟩ := id A
  rcases ax_call_ok hf with ⟨-, g1, g2, g3, g4⟩ | ⟨q, -⟩ | ⟨q, -⟩ | ⟨q, -⟩ | ⟨q, -⟩ | ⟨q, -⟩ | ⟨q, -⟩
  · have hj : ax_kd j < 3 := by omega
    rw [if_neg (by decide)] at g3
    obtain ⟨dom, nd, hdm, hP, hD, ho, hcl⟩ := id a3
    obtain ⟨q0, hq0⟩ := List.getElem?_of_mem ((hdm b).mpr ⟨c, n, hb0, by simp [ax_own, hc]⟩)
    have hw := ax_ws_at (G := G) (ad := ad) (h := h) hq0
    rw [ax_e_obj hb0 hc] at hw
    have hrec := va_recv hE.1 hP (ax_vc_at hc) hw
    have hpre := ax_Pre (p := p) (As := Value.ref b :: As) hE hB a4 a3
    have hok := (ax_m_ok2 hj).2.1 g2
    refine ax_behind C Rt A h1 h2 kk (av := ((Value.ref b :: As).map (ax_vm ad)).toArray) ?_
    exact va_runV (C := (ax_y j).cls) (b := ad b) (As := As.map (ax_vm ad)) (rest := S.map (ax_vm ad)) ⟨hx, hb, hml, hown, ax_G_ts hE args⟩ (hM.2 (fun v hv => a8 v (List.mem_append_left _ (List.mem_reverse.mpr hv))) l ad) ⟨ax_callB hE hM.1 hj g1 hdd hR1 hR2, ax_G_ts hE args _ hok.2, ax_G_ts hE args _ hok.1⟩ ⟨hpre.1, by rw [← g4 rfl (by omega)]; exact hrec, hpre.2⟩ rfl (by rw [List.length_map]; omega) a9.1 (by simp [ax_vm]) (lv_room (ax_catS hcat)) hd ⟨by omega, by omega⟩
  all_goals cases q
theorem ax_r_virtualS {i j na t b d' mc' ms' : Nat} {v0 : Value} {As : List Value} {Qj : Option Value → AH → Prop} (hd : decode cc pc = .ok (.invokevirtual i, 3)) (hf : ax_call o i = some (j, 1, na, 11)) (hlen : As.length + 1 = na) (hv : ax_rf v0 = some b) (hb0 : h.1 b = some (60, t)) (hcat : (S.map fun v => v.category).sum ≤ 8) (hdd : d' + 1 ≤ d) (h1 : mc' ≤ rc) (h2 : ms' ≤ rs) (hM : AC G j d' mc' ms' (.ref b :: As) h Qj) (kk : ∀ v h', Qj v h' → ax_mono h h' → AW G o nL ini cc ret d Q (rc - mc') (rs - ms') (pc + 3) L (v.toList ++ S) h') : AW G o nL ini cc ret d Q rc rs pc L (As.reverse ++ v0 :: S) h := by
  intro p l e R s m args below meth c0 Z mc ms ad0 h0 C Rt k1 n1 ad H locs ls A
  obtain ⟨hx, hb, hml, hown, hini, hE, hB, hR1, hR2, hR3, hR4⟩ := id C
  have hv' := ax_rf_some hv
  subst hv'
  have es : As.reverse ++ Value.ref b :: S = (Value.ref b :: As).reverse ++ S := by simp
  rw [es] at A ⊢
  obtain ⟨a1, a2, a3, a4, a5, a6, a7, a8, a9⟩ := id A
  rcases ax_call_ok hf with ⟨-, g1, g2, g3, g4⟩ | ⟨q, -⟩ | ⟨q, -⟩ | ⟨q, -⟩ | ⟨q, -⟩ | ⟨q, -⟩ | ⟨q, -⟩
  · have hj : ax_kd j < 3 := by omega
    rw [if_neg (by decide)] at g3
    obtain ⟨dom, nd, hdm, hP, hD, ho, hcl⟩ := id a3
    obtain ⟨had, ht⟩ : ad b = G.2.2.2.2.2 t ∧ t < 2 := by
      rcases ho b 60 t hb0 rfl with ⟨q, -⟩ | ⟨-, q⟩
      · cases q
      · exact q
    obtain ⟨-, -, -, -, -, -, -, -, -, -, adV, s3, -⟩ := id hE
    have hrec := vk_recv (s := s) (H := H) (s3.kept (fun a _ h2 => hB.2.2 a (Nat.not_le.mp h2))) ht a4
    rw [← had] at hrec
    have hpre := ax_Pre (p := p) (As := Value.ref b :: As) hE hB a4 a3
    have hok := (ax_m_ok2 hj).2.1 g2
    have hcls : (ax_y j).cls = "java/lang/String" := (g4 rfl (by decide)).symm
    refine ax_behind C Rt A h1 h2 kk (av := ((Value.ref b :: As).map (ax_vm ad)).toArray) ?_
    exact va_runV (C := (ax_y j).cls) (b := ad b) (As := As.map (ax_vm ad)) (rest := S.map (ax_vm ad)) ⟨hx, hb, hml, hown, ax_G_ts hE args⟩ (hM.2 (fun v hv => a8 v (List.mem_append_left _ (List.mem_reverse.mpr hv))) l ad) ⟨ax_callB hE hM.1 hj g1 hdd hR1 hR2, ax_G_ts hE args _ hok.2, ax_G_ts hE args _ hok.1⟩ ⟨hpre.1, by rw [hcls]; exact hrec, hpre.2⟩ rfl (by rw [List.length_map]; omega) a9.1 (by simp [ax_vm]) (lv_room (ax_catS hcat)) hd ⟨by omega, by omega⟩
  all_goals cases q
theorem ax_r_special {i j na c d' mc' ms' : Nat} {v0 : Value} {b : Nat} {As : List Value} {Qj : Option Value → AH → Prop} (hd : decode cc pc = .ok (.invokespecial i, 3)) (hf : ax_call o i = some (j, 2, na, c)) (hlen : As.length + 1 = na) (hv : ax_rf v0 = some b) (hcat : (S.map fun v => v.category).sum ≤ 8) (hdd : d' + 1 ≤ d) (h1 : mc' ≤ rc) (h2 : ms' ≤ rs) (hM : AC G j d' mc' ms' (.ref b :: As) h Qj) (kk : ∀ v h', Qj v h' → ax_mono h h' → AW G o nL ini cc ret d Q (rc - mc') (rs - ms') (pc + 3) L (v.toList ++ S) h') : AW G o nL ini cc ret d Q rc rs pc L (As.reverse ++ v0 :: S) h := by
  intro p l e R s m args below meth c0 Z mc ms ad0 h0 C Rt k1 n1 ad H locs ls A
  obtain ⟨hx, hb, hml, hown, hini, hE, hB, hR1, hR2, hR3, hR4⟩ := id C
  have hv' := ax_rf_some hv
  subst hv'
  have es : As.reverse ++ Value.ref b :: S = (Value.ref b :: As).reverse ++ S := by simp
  rw [es] at A ⊢
  obtain ⟨a1, a2, a3, a4, a5, a6, a7, a8, a9⟩ := id A
  rcases ax_call_ok hf with ⟨-, g1, g2, g3, g4⟩ | ⟨q, -⟩ | ⟨q, -⟩ | ⟨q, -⟩ | ⟨q, -⟩ | ⟨q, -⟩ | ⟨q, -⟩
  · have hj : ax_kd j < 3 := by omega
    rw [if_neg (by decide)] at g3
    have hpre := ax_Pre (p := p) (As := Value.ref b :: As) hE hB a4 a3
    have hok := (ax_m_ok2 hj).2.2 g2
    have hcb := ax_callB (args := args) (mc := mc') (ms := ms') hE hM.1 hj g1 hdd hR1 hR2
    have hM' := hM.2 (fun v hv => a8 v (List.mem_append_left _ (List.mem_reverse.mpr hv))) l ad
    rw [hok.1.2] at hcb hM'
    refine ax_behind C Rt A h1 h2 kk (av := ((Value.ref b :: As).map (ax_vm ad)).toArray) ?_
    exact va_runI (b := ad b) (As := As.map (ax_vm ad)) (rest := S.map (ax_vm ad)) ⟨hx, hb, hml, hown, ax_G_ts hE args⟩ hM' ⟨hcb, hok.1.1, ax_G_ts hE args _ hok.2⟩ hpre rfl (by rw [List.length_map]; omega) a9.1 (by simp [ax_vm]) (lv_room (ax_catS hcat)) hd ⟨by omega, by omega⟩
  all_goals cases q
theorem ax_r_specialN {i j na c d' mc' ms' : Nat} {v0 : Value} {b : Nat} {As : List Value} {Qj : Option Value → AH → Prop} (hd : decode cc pc = .ok (.invokespecial i, 3)) (hf : ax_call o i = some (j, 3, na, c)) (hlen : As.length + 1 = na) (hv : ax_rf v0 = some b) (hcat : (S.map fun v => v.category).sum ≤ 8) (hdd : d' + 1 ≤ d) (h1 : mc' ≤ rc) (h2 : ms' ≤ rs) (hM : AC G j d' mc' ms' (.ref b :: As) h Qj) (kk : ∀ v h', Qj v h' → ax_mono h h' → AW G o nL ini cc ret d Q (rc - mc') (rs - ms') (pc + 3) L (v.toList ++ S) h') : AW G o nL ini cc ret d Q rc rs pc L (As.reverse ++ v0 :: S) h := by
  intro p l e R s m args below meth c0 Z mc ms ad0 h0 C Rt k1 n1 ad H locs ls A
  obtain ⟨hx, hb, hml, hown, hini, hE, hB, hR1, hR2, hR3, hR4⟩ := id C
  have hv' := ax_rf_some hv
  subst hv'
  have es : As.reverse ++ Value.ref b :: S = (Value.ref b :: As).reverse ++ S := by simp
  rw [es] at A ⊢
  obtain ⟨a1, a2, a3, a4, a5, a6, a7, a8, a9⟩ := id A
  rcases ax_call_ok hf with ⟨q, -⟩ | ⟨-, ⟨w, hw, w1, w2, w3⟩, g2, g3⟩ | ⟨q, -⟩ | ⟨q, -⟩ | ⟨q, -⟩ | ⟨q, -⟩ | ⟨q, -⟩
  · exact absurd q (by decide)
  · have hj : ax_kd j < 3 := by omega
    have hnest := va_Nw.use (A := args) rfl (hE.2.2.1 w hw)
    rw [w1, w2, w3] at hnest
    have hpre := ax_Pre (p := p) (As := Value.ref b :: As) hE hB a4 a3
    have hok := (ax_m_ok2 hj).2.2 g2
    have hcb := ax_callN (args := args) (mc := mc') (ms := ms') hE hM.1 hj hnest hdd hR1 hR2
    have hM' := hM.2 (fun v hv => a8 v (List.mem_append_left _ (List.mem_reverse.mpr hv))) l ad
    rw [hok.1.2] at hcb hM'
    refine ax_behind C Rt A h1 h2 kk (av := ((Value.ref b :: As).map (ax_vm ad)).toArray) ?_
    exact va_runIN (b := ad b) (As := As.map (ax_vm ad)) (rest := S.map (ax_vm ad)) ⟨hx, hb, hml, hown, ax_G_ts hE args⟩ hM' ⟨hcb, hok.1.1, ax_G_ts hE args _ hok.2⟩ hpre rfl (by rw [List.length_map]; omega) a9.1 (by simp [ax_vm]) (lv_room (ax_catS hcat)) hd ⟨by omega, by omega⟩
  all_goals cases q
theorem ax_objW : Cond.instanceMethod Lib.objectInit ∈ ax_G ∧ Cond.code Lib.objectInit ⟨#[0xb1]⟩ 1 none ∈ ax_G := ⟨ax_G_in (i := 87) (by decide +kernel) rfl, ax_G_in (i := 88) (by decide +kernel) rfl⟩
theorem ax_r_objInit {i j na c b : Nat} {v0 : Value} (hd : decode cc pc = .ok (.invokespecial i, 3)) (hf : ax_call o i = some (j, 4, na, c)) (hv : ax_rf v0 = some b) (hcat : (S.map fun v => v.category).sum ≤ 8) (hdd : 1 ≤ d) (kk : AW G o nL ini cc ret d Q rc rs (pc + 3) L S h) : AW G o nL ini cc ret d Q rc rs pc L (v0 :: S) h := by
  intro p l e R s m args below meth c0 Z mc ms ad0 h0 C Rt k1 n1 ad H locs ls A
  obtain ⟨hx, hb, hml, hown, hini, hE, hB, hR1, hR2, hR3, hR4⟩ := id C
  obtain ⟨a1, a2, a3, a4, a5, a6, a7, a8, a9⟩ := id A
  have hv' := ax_rf_some hv
  subst hv'
  have hts := ax_G_ts hE args
  rcases ax_call_ok hf with ⟨q, -⟩ | ⟨q, -⟩ | ⟨q, -⟩ | ⟨-, g1⟩ | ⟨q, -⟩ | ⟨q, -⟩ | ⟨q, -⟩
  · exact absurd q (by decide)
  · cases q
  · cases q
  · refine W.objInit hx hb hown (hts _ g1) (hts _ ax_objW.1) (hts _ ax_objW.2) (g := F0 m pc ls (.ref (ad b) :: S.map (ax_vm ad))) rfl (a9.1.trans hml.symm) rfl hd (by omega) ?_ (kk p l e R s m args below meth c0 Z mc ms ad0 h0 C Rt k1 n1 ad H locs ls ⟨a1, a2, a3, a4, a5, a6, a7, fun v hv => a8 v (List.mem_cons_of_mem _ hv), a9⟩)
    have := ax_catS (ad := ad) hcat
    show 2 * 0 + _ + 12 ≤ R.locals
    omega
  all_goals cases q
theorem ax_acW : Cond.native arraycopyName ∈ ax_G ∧ Cond.static arraycopyName ∈ ax_G ∧ Cond.initialized "java/lang/System" ∈ ax_G := ⟨ax_G_in (i := 838) (by decide +kernel) rfl, ax_G_in (i := 837) (by decide +kernel) rfl, ax_G_in (i := 80) (by decide +kernel) rfl⟩
theorem ax_r_arraycopy {i j na c a b n0 n1 : Nat} {u v : Value} {sp dp n : Int32} (hd : decode cc pc = .ok (.invokestatic i, 3)) (hf : ax_call o i = some (j, 5, na, c)) (hu : ax_rf u = some a) (hv : ax_rf v = some b) (ha : h.1 a = some (50, n0)) (hb0 : h.1 b = some (50, n1)) (h1 : ¬ sp < 0) (h2 : ¬ dp < 0) (h3 : ¬ n < 0) (h4 : sp.toNatClampNeg + n.toNatClampNeg ≤ n0) (h5 : dp.toNatClampNeg + n.toNatClampNeg ≤ n1) (hcat : (S.map fun v => v.category).sum ≤ 8) (hdd : 1 ≤ d) (kk : AW G o nL ini cc ret d Q rc rs (pc + 3) L S (ax_setA h b (va_cpy (h.2.1 a) (h.2.1 b) sp.toNatClampNeg dp.toNatClampNeg n.toNatClampNeg))) : AW G o nL ini cc ret d Q rc rs pc L (.int n :: .int dp :: v :: .int sp :: u :: S) h := by
  intro p l e R s m args below meth c0 Z mc ms ad0 h0 C Rt k1 n1' ad H locs ls A
  obtain ⟨hx, hb, hml, hown, hini, hE, hB, hR1, hR2, hR3, hR4⟩ := id C
  obtain ⟨a1, a2, a3, a4, a5, a6, a7, a8, a9⟩ := id A
  have hu' := ax_rf_some hu
  have hv' := ax_rf_some hv
  subst hu'
  subst hv'
  have hts := ax_G_ts hE args
  rcases ax_call_ok hf with ⟨q, -⟩ | ⟨q, -⟩ | ⟨q, -⟩ | ⟨q, -⟩ | ⟨-, g1⟩ | ⟨q, -⟩ | ⟨q, -⟩
  · exact absurd q (by decide)
  · cases q
  · cases q
  · cases q
  · obtain ⟨dom, nd, hdm, hP, hD, ho, hcl⟩ := id a3
    obtain ⟨q0, hq0⟩ := List.getElem?_of_mem ((hdm a).mpr ⟨50, n0, ha, rfl⟩)
    have hw0 := ax_ws_at (G := G) (ad := ad) (h := h) hq0
    rw [ax_e_int ha] at hw0
    obtain ⟨q1, hq1⟩ := List.getElem?_of_mem ((hdm b).mpr ⟨50, n1, hb0, rfl⟩)
    have hw1 := ax_ws_at (G := G) (ad := ad) (h := h) hq1
    rw [ax_e_int hb0] at hw1
    have hcS := ax_catS (ad := ad) hcat
    refine va_copyi hx hb (hml.trans a9.1.symm) hown (hts _ g1) (hts _ ax_acW.1) (hts _ ax_acW.2.1) (hts _ ax_acW.2.2) hE.1 hP hD a4 q0 q1 0 0 hw0 hw1 rfl rfl rfl h1 h2 h3 h4 h5 (fun i _ => rfl) (by omega) ?_ hd fun H1 locs1 hP1 hD1 hS1 => ?_
    · have : nativeFrameWords "java/lang/System" "arraycopy" 5 + 11 ≤ 40 := by decide +kernel
      omega
    · have hR1' : ax_Rel G ad (ax_setA h b (va_cpy (h.2.1 a) (h.2.1 b) sp.toNatClampNeg dp.toNatClampNeg n.toNatClampNeg)) H1 := ax_Rel_put nd hdm hq1 hb0 rfl rfl (fun x hx2 => if_neg hx2) (fun x hx2 => rfl) (by
        rw [ax_e_int (h := ax_setA h b (va_cpy (h.2.1 a) (h.2.1 b) sp.toNatClampNeg dp.toNatClampNeg n.toNatClampNeg)) (n := n1) hb0]
        show _ = Sum.inl (_, n1, Sum.inl (if b = b then _ else _))
        rw [if_pos rfl]) hP1 hD1 ho hcl
      exact kk p l e R s m args below meth c0 Z mc ms ad0 h0 C Rt k1 n1' ad H1 locs1 ls ⟨a1, a2, hR1', hS1, a5, a6, a7, fun w hq => a8 w (List.mem_cons_of_mem _ (List.mem_cons_of_mem _ (List.mem_cons_of_mem _ (List.mem_cons_of_mem _ (List.mem_cons_of_mem _ hq))))), a9⟩
  all_goals cases q
end AXC
theorem ax_mathW : Cond.static Lib.Math.max.name ∈ ax_G ∧ Cond.static Lib.Math.min.name ∈ ax_G ∧ Cond.initialized "java/lang/Math" ∈ ax_G ∧ Cond.code Lib.Math.max.name Lib.Math.max.code 2 (some .int) ∈ ax_G ∧ Cond.code Lib.Math.min.name Lib.Math.min.code 2 (some .int) ∈ ax_G := ⟨ax_G_in (i := 430) (by decide +kernel) rfl, ax_G_in (i := 440) (by decide +kernel) rfl, ax_G_in (i := 78) (by decide +kernel) rfl, ax_G_in (i := 431) (by decide +kernel) rfl, ax_G_in (i := 441) (by decide +kernel) rfl⟩
section AXM
variable {G : AG} {o nL : Nat} {ini : Bool} {cc : ByteArray} {ret : Option FieldType} {d : Nat} {Q : Option Value → AH → Prop} {rc rs pc : Nat} {L : AL} {S : List Value} {h : AH}
theorem ax_r_max {i j na c : Nat} {x y : Int32} (hd : decode cc pc = .ok (.invokestatic i, 3)) (hf : ax_call o i = some (j, 7, na, c)) (hcat : (S.map fun v => v.category).sum ≤ 8) (hdd : 1 ≤ d) (kk : AW G o nL ini cc ret d Q rc rs (pc + 3) L (.int (if x < y then y else x) :: S) h) : AW G o nL ini cc ret d Q rc rs pc L (.int y :: .int x :: S) h := by
  intro p l e R s m args below meth c0 Z mc ms ad0 h0 C Rt k1 n1 ad H locs ls A
  obtain ⟨hx, hb, hml, hown, hini, hE, hB, hR1, hR2, hR3, hR4⟩ := id C
  obtain ⟨a1, a2, a3, a4, a5, a6, a7, a8, a9⟩ := id A
  have hts := ax_G_ts hE args
  have hcS := ax_catS (ad := ad) hcat
  rcases ax_call_ok hf with ⟨q, -⟩ | ⟨q, -⟩ | ⟨q, -⟩ | ⟨q, -⟩ | ⟨q, -⟩ | ⟨-, g1⟩ | ⟨q, -⟩
  · exact absurd q (by decide)
  · cases q
  · cases q
  · cases q
  · cases q
  · exact va_mmax hx hb (hml.trans a9.1.symm) hown (hts _ g1) (hts _ ax_mathW.1) (hts _ ax_mathW.2.2.1) (hts _ ax_mathW.2.2.2.1) (by omega) (by omega) (by omega) (by omega) hd (kk p l e R s m args below meth c0 Z mc ms ad0 h0 C Rt k1 n1 ad H locs ls ⟨a1, a2, a3, a4, a5, a6, a7, List.forall_mem_cons.mpr ⟨ax_wv_int _ _, fun v hv => a8 v (List.mem_cons_of_mem _ (List.mem_cons_of_mem _ hv))⟩, a9⟩)
  · cases q
theorem ax_r_min {i j na c : Nat} {x y : Int32} (hd : decode cc pc = .ok (.invokestatic i, 3)) (hf : ax_call o i = some (j, 8, na, c)) (hcat : (S.map fun v => v.category).sum ≤ 8) (hdd : 1 ≤ d) (kk : AW G o nL ini cc ret d Q rc rs (pc + 3) L (.int (if y < x then y else x) :: S) h) : AW G o nL ini cc ret d Q rc rs pc L (.int y :: .int x :: S) h := by
  intro p l e R s m args below meth c0 Z mc ms ad0 h0 C Rt k1 n1 ad H locs ls A
  obtain ⟨hx, hb, hml, hown, hini, hE, hB, hR1, hR2, hR3, hR4⟩ := id C
  obtain ⟨a1, a2, a3, a4, a5, a6, a7, a8, a9⟩ := id A
  have hts := ax_G_ts hE args
  have hcS := ax_catS (ad := ad) hcat
  rcases ax_call_ok hf with ⟨q, -⟩ | ⟨q, -⟩ | ⟨q, -⟩ | ⟨q, -⟩ | ⟨q, -⟩ | ⟨q, -⟩ | ⟨-, g1⟩
  · exact absurd q (by decide)
  · cases q
  · cases q
  · cases q
  · cases q
  · cases q
  · exact va_mmin hx hb (hml.trans a9.1.symm) hown (hts _ g1) (hts _ ax_mathW.2.1) (hts _ ax_mathW.2.2.1) (hts _ ax_mathW.2.2.2.2) (by omega) (by omega) (by omega) (by omega) hd (kk p l e R s m args below meth c0 Z mc ms ad0 h0 C Rt k1 n1 ad H locs ls ⟨a1, a2, a3, a4, a5, a6, a7, List.forall_mem_cons.mpr ⟨ax_wv_int _ _, fun v hv => a8 v (List.mem_cons_of_mem _ (List.mem_cons_of_mem _ hv))⟩, a9⟩)
end AXM
/-! constants; a method's start; the steps as a proposition -/
theorem ax_ldc_ok {o i : Nat} {v : Int32} (h : ax_ldc o i = some v) (ho : o ≠ 99) : Cond.constant (ax_nm o) i v ∈ ax_G := by
  unfold ax_ldc at h
  cases hf : ax_iT.find? (fun e => e.1.1 == o && e.1.2 == i) with
  | none => rw [hf] at h; cases h
  | some e =>
    rw [hf] at h
    simp only [Option.map_some, Option.some.injEq] at h
    obtain ⟨hm, rfl, rfl⟩ := ax_find hf
    have h1 := List.all_eq_true.mp ax_iT_ok e hm
    simp only [Bool.or_eq_true, decide_eq_true_eq] at h1
    rw [← h]
    exact ax_G_in (h1.resolve_left ho) rfl
theorem ax_ldc2_ok {o i : Nat} {v : Int64} (h : ax_ldc2 o i = some v) : Cond.constantLong (ax_nm o) i v ∈ ax_G := by
  unfold ax_ldc2 at h
  cases hf : ax_lT.find? (fun e => e.1.1 == o && e.1.2 == i) with
  | none => rw [hf] at h; cases h
  | some e =>
    rw [hf] at h
    simp only [Option.map_some, Option.some.injEq] at h
    obtain ⟨hm, rfl, rfl⟩ := ax_find hf
    have h1 := List.all_eq_true.mp ax_lT_ok e hm
    rw [← h]
    exact ax_G_in (of_decide_eq_true h1) rfl
section AXK
variable {G : AG} {o nL : Nat} {ini : Bool} {cc : ByteArray} {ret : Option FieldType} {d : Nat} {Q : Option Value → AH → Prop} {rc rs pc : Nat} {L : AL} {S : List Value} {h : AH}
theorem ax_r_ldc {i : Nat} {x : Int32} (hd : decode cc pc = .ok (.ldc i, 2)) (hf : ax_ldc o i = some x) (ho : o ≠ 99) (k : AW G o nL ini cc ret d Q rc rs (pc + 2) L (.int x :: S) h) : AW G o nL ini cc ret d Q rc rs pc L S h := by
  intro p l e R s m args below meth c Z mc ms ad0 h0 C Rt k1 n ad H locs ls A
  obtain ⟨hx, hb, hml, hown, hini, hE, hB, hR1, hR2, hR3, hR4⟩ := id C
  obtain ⟨a1, a2, a3, a4, a5, a6, a7, a8, a9⟩ := id A
  exact lv_ldc hx hb hown (ax_G_ts hE args _ (ax_ldc_ok hf ho)) hd (k p l e R s m args below meth c Z mc ms ad0 h0 C Rt k1 n ad H locs ls ⟨a1, a2, a3, a4, a5, a6, a7, List.forall_mem_cons.mpr ⟨ax_wv_int _ _, a8⟩, a9⟩)
theorem ax_r_ldcw {i : Nat} {x : Int32} (hd : decode cc pc = .ok (.ldc_w i, 3)) (hf : ax_ldc o i = some x) (ho : o ≠ 99) (k : AW G o nL ini cc ret d Q rc rs (pc + 3) L (.int x :: S) h) : AW G o nL ini cc ret d Q rc rs pc L S h := by
  intro p l e R s m args below meth c Z mc ms ad0 h0 C Rt k1 n ad H locs ls A
  obtain ⟨hx, hb, hml, hown, hini, hE, hB, hR1, hR2, hR3, hR4⟩ := id C
  obtain ⟨a1, a2, a3, a4, a5, a6, a7, a8, a9⟩ := id A
  exact lv_ldcw hx hb hown (ax_G_ts hE args _ (ax_ldc_ok hf ho)) hd (k p l e R s m args below meth c Z mc ms ad0 h0 C Rt k1 n ad H locs ls ⟨a1, a2, a3, a4, a5, a6, a7, List.forall_mem_cons.mpr ⟨ax_wv_int _ _, a8⟩, a9⟩)
theorem ax_r_ldc2 {i : Nat} {x : Int64} (hd : decode cc pc = .ok (.ldc2_w i, 3)) (hf : ax_ldc2 o i = some x) (k : AW G o nL ini cc ret d Q rc rs (pc + 3) L (.long x :: S) h) : AW G o nL ini cc ret d Q rc rs pc L S h := by
  intro p l e R s m args below meth c Z mc ms ad0 h0 C Rt k1 n ad H locs ls A
  obtain ⟨hx, hb, hml, hown, hini, hE, hB, hR1, hR2, hR3, hR4⟩ := id C
  obtain ⟨a1, a2, a3, a4, a5, a6, a7, a8, a9⟩ := id A
  exact lv_ldc2 hx hb hown (ax_G_ts hE args _ (ax_ldc2_ok hf)) hd (k p l e R s m args below meth c Z mc ms ad0 h0 C Rt k1 n ad H locs ls ⟨a1, a2, a3, a4, a5, a6, a7, List.forall_mem_cons.mpr ⟨ax_wv_long _ _, a8⟩, a9⟩)
/-- the string constants: by own class and pool place -/
def ax_ldcS (o i : Nat) : Option Nat := if o = 5 ∧ i = 40 then some 0 else if o = 3 ∧ i = 127 then some 1 else none
theorem ax_r_ldcS {i t : Nat} (a : Nat) (hd : decode cc pc = .ok (.ldc i, 2)) (hf : ax_ldcS o i = some t) (ha : h.1 a = some (60, t)) (k : AW G o nL ini cc ret d Q rc rs (pc + 2) L (.ref a :: S) h) : AW G o nL ini cc ret d Q rc rs pc L S h := by
  intro p l e R s m args below meth c Z mc ms ad0 h0 C Rt k1 n ad H locs ls A
  obtain ⟨hx, hb, hml, hown, hini, hE, hB, hR1, hR2, hR3, hR4⟩ := id C
  obtain ⟨a1, a2, a3, a4, a5, a6, a7, a8, a9⟩ := id A
  obtain ⟨dom, nd, hdm, hP, hD, ho, hcl⟩ := id a3
  have kk := k p l e R s m args below meth c Z mc ms ad0 h0 C Rt k1 n ad H locs ls ⟨a1, a2, a3, a4, a5, a6, a7, List.forall_mem_cons.mpr ⟨fun b hb2 => by cases hb2; rw [ha]; rfl, a8⟩, a9⟩
  have had : ad a = G.2.2.2.2.2 t := by
    rcases ho a 60 t ha rfl with ⟨q, -⟩ | ⟨-, q, -⟩
    · cases q
    · exact q
  have hS := hE.2.2.2.2.2.2.2.2
  unfold ax_ldcS at hf
  by_cases c1 : o = 5 ∧ i = 40
  · rw [if_pos c1] at hf
    cases hf
    obtain ⟨rfl, rfl⟩ := c1
    refine va_ldcS hx hb hown (q := ad a) (by rw [had]; exact hS.1) hd kk
  · rw [if_neg c1] at hf
    by_cases c2 : o = 3 ∧ i = 127
    · rw [if_pos c2] at hf
      cases hf
      obtain ⟨rfl, rfl⟩ := c2
      refine va_ldcS hx hb hown (q := ad a) (by rw [had]; exact hS.2.1) hd kk
    · rw [if_neg c2] at hf
      cases hf
theorem ax_acmp_map {ad : Nat → Nat} {G : AG} {H : Heap} (hR : ax_Rel G ad h H) {u v : Value} (hu : ∀ a, ax_rf u = some a → ∃ c n, h.1 a = some (c, n) ∧ ax_own c = true) (hv : ∀ a, ax_rf v = some a → ∃ c n, h.1 a = some (c, n) ∧ ax_own c = true) : (ax_rf u).map ad = (ax_rf v).map ad ↔ ax_rf u = ax_rf v := by
  refine ⟨fun q => ?_, fun q => by rw [q]⟩
  obtain ⟨dom, nd, hdm, hP, hD, ho, hcl⟩ := hR
  cases h1 : ax_rf u with
  | none =>
    cases h2 : ax_rf v with
    | none => rfl
    | some b => rw [h1, h2] at q; cases q
  | some a =>
    cases h2 : ax_rf v with
    | none => rw [h1, h2] at q; cases q
    | some b =>
      rw [h1, h2] at q
      have q' : ad a = ad b := Option.some.inj q
      obtain ⟨i, hi⟩ := List.getElem?_of_mem ((hdm a).mpr (hu a h1))
      obtain ⟨j, hj⟩ := List.getElem?_of_mem ((hdm b).mpr (hv b h2))
      have e := hD.1 i j _ _ (ax_ws_at hi) (ax_ws_at hj) q'
      subst e
      rw [hi] at hj
      exact hj
theorem ax_r_acmp_eq {u v : Value} {off : Int} {tgt : Nat} (hd : decode cc pc = .ok (.if_acmp .eq off, 3)) (ht : (pc : Int) + off = (tgt : Int)) (hu : ax_isR u = true) (hv : ax_isR v = true) (gu : ∀ a, ax_rf u = some a → ∃ c n, h.1 a = some (c, n) ∧ ax_own c = true) (gv : ∀ a, ax_rf v = some a → ∃ c n, h.1 a = some (c, n) ∧ ax_own c = true) (kt : ax_rf u = ax_rf v → AW G o nL ini cc ret d Q rc rs tgt L S h) (kf : ¬ ax_rf u = ax_rf v → AW G o nL ini cc ret d Q rc rs (pc + 3) L S h) : AW G o nL ini cc ret d Q rc rs pc L (v :: u :: S) h := by
  intro p l e R s m args below meth c Z mc ms ad0 h0 C Rt k1 n ad H locs ls A
  obtain ⟨hx, hb, hml, hown, hini, hE, hB, hR1, hR2, hR3, hR4⟩ := id C
  obtain ⟨a1, a2, a3, a4, a5, a6, a7, a8, a9⟩ := id A
  have e1 : (v :: u :: S).map (ax_vm ad) = va_rf ((ax_rf v).map ad) :: va_rf ((ax_rf u).map ad) :: S.map (ax_vm ad) := by
    rw [List.map_cons, List.map_cons, ← ax_vm_rf, ← ax_vm_rf, ← ax_isR_eq hu, ← ax_isR_eq hv]
  rw [e1]
  have hm := ax_acmp_map a3 gu gv
  have a8' : ∀ w ∈ S, ax_wv h w := fun w hw => a8 w (List.mem_cons_of_mem _ (List.mem_cons_of_mem _ hw))
  exact lv_acmp_eq hx hb hd ht (fun q => kt (hm.mp q) p l e R s m args below meth c Z mc ms ad0 h0 C Rt k1 n ad H locs ls ⟨a1, a2, a3, a4, a5, a6, a7, a8', a9⟩) (fun q => kf (fun z => q (hm.mpr z)) p l e R s m args below meth c Z mc ms ad0 h0 C Rt k1 n ad H locs ls ⟨a1, a2, a3, a4, a5, a6, a7, a8', a9⟩)
theorem ax_r_acmp_ne {u v : Value} {off : Int} {tgt : Nat} (hd : decode cc pc = .ok (.if_acmp .ne off, 3)) (ht : (pc : Int) + off = (tgt : Int)) (hu : ax_isR u = true) (hv : ax_isR v = true) (gu : ∀ a, ax_rf u = some a → ∃ c n, h.1 a = some (c, n) ∧ ax_own c = true) (gv : ∀ a, ax_rf v = some a → ∃ c n, h.1 a = some (c, n) ∧ ax_own c = true) (kt : ¬ ax_rf u = ax_rf v → AW G o nL ini cc ret d Q rc rs tgt L S h) (kf : ax_rf u = ax_rf v → AW G o nL ini cc ret d Q rc rs (pc + 3) L S h) : AW G o nL ini cc ret d Q rc rs pc L (v :: u :: S) h := by
  intro p l e R s m args below meth c Z mc ms ad0 h0 C Rt k1 n ad H locs ls A
  obtain ⟨hx, hb, hml, hown, hini, hE, hB, hR1, hR2, hR3, hR4⟩ := id C
  obtain ⟨a1, a2, a3, a4, a5, a6, a7, a8, a9⟩ := id A
  have e1 : (v :: u :: S).map (ax_vm ad) = va_rf ((ax_rf v).map ad) :: va_rf ((ax_rf u).map ad) :: S.map (ax_vm ad) := by
    rw [List.map_cons, List.map_cons, ← ax_vm_rf, ← ax_vm_rf, ← ax_isR_eq hu, ← ax_isR_eq hv]
  rw [e1]
  have hm := ax_acmp_map a3 gu gv
  have a8' : ∀ w ∈ S, ax_wv h w := fun w hw => a8 w (List.mem_cons_of_mem _ (List.mem_cons_of_mem _ hw))
  exact lv_acmp_ne hx hb hd ht (fun q => kt (fun z => q (hm.mpr z)) p l e R s m args below meth c Z mc ms ad0 h0 C Rt k1 n ad H locs ls ⟨a1, a2, a3, a4, a5, a6, a7, a8', a9⟩) (fun q => kf (hm.mp q) p l e R s m args below meth c Z mc ms ad0 h0 C Rt k1 n ad H locs ls ⟨a1, a2, a3, a4, a5, a6, a7, a8', a9⟩)
end AXK
theorem ax_args_map {f : Value → Value} (hf : ∀ v, (f v).category = v.category) : ∀ (vs : List Value) (n : Nat), lv_args n (vs.map f) = (lv_args n vs).map (fun q => (q.1, f q.2))
  | [], n => rfl
  | v :: r, n => by
    show (n, f v) :: lv_args (if (f v).category = 2 then n + 2 else n + 1) (r.map f) = (n, f v) :: (lv_args (if v.category = 2 then n + 2 else n + 1) r).map _
    rw [hf v, ax_args_map hf r]
theorem ax_sl_map {f : Value → Value} (hf : ∀ v, (f v).category = v.category) : ∀ vs : List Value, (lg_sl (vs.map f)).length = (lg_sl vs).length
  | [] => rfl
  | v :: r => by
    have ih := ax_sl_map hf r
    unfold lg_sl at ih ⊢
    rw [List.map_cons, List.flatMap_cons, List.flatMap_cons, List.length_append, List.length_append, ih, hf v]
    by_cases h : v.category = 2 <;> simp [h]
theorem ax_args_mem {h : AH} : ∀ {vs : List Value} {n : Nat}, (∀ v ∈ vs, ax_wv h v) → ∀ q ∈ lv_args n vs, ax_wv h q.2
  | [], n, _, q, hq => by cases hq
  | v :: r, n, hv, q, hq => by
    rcases List.mem_cons.mp (show q ∈ (n, v) :: lv_args (if v.category = 2 then n + 2 else n + 1) r from hq) with rfl | hq
    · exact hv v List.mem_cons_self
    · exact ax_args_mem (fun w hw => hv w (List.mem_cons_of_mem _ hw)) q hq
/-- a contract out of the walk from the start -/
theorem ax_intro {G : AG} {j d mc ms : Nat} {As : List Value} {h : AH} {Q : Option Value → AH → Prop} (o : Nat) (ini : Bool) (hcd : Cond.code (ax_y j) (ax_cc j) (ax_nL j) (ax_ret j) ∈ ax_G) (hj : ax_kd j < 3) (ho : (ax_y j).cls = ax_nm o) (hi : ini = true → (ax_y j).name = "<init>") (hL : (lg_sl As).length ≤ ax_nL j) (k : AW G o (ax_nL j) ini (ax_cc j) (ax_ret j) d Q mc ms 0 (lv_args 0 As) [] h) : AC G j d mc ms As h Q := by
  refine ⟨hcd, fun hwf l ad => ?_⟩
  refine Met.ofW (cc := ax_cc j) (maxL := ax_nL j) (ret := ax_ret j) (ax_m_ok hj).2.1 rfl ?_
  intro p e s m args below meth c s₁ B hml hv
  obtain ⟨rfl, hE, hR, hB⟩ := hv
  have hown : s.vm.findClass (ax_y j).cls = some m.cls := findClass_of_methodNamed B.named
  rw [ho] at hown
  have hnm : meth.name = (ax_y j).name := (name_of_methodNamed B.named B.method).1
  have hlocks := B.notSynchronized
  have hr := B.returns
  have hl := lv_entry (As.map (ax_vm ad)) (n := ax_nL j) (by rw [ax_sl_map (ax_vm_cat ad)]; exact hL)
  rw [lg_entry_eq]
  rw [ax_args_map (ax_vm_cat ad)] at hl
  refine k p l e (ax_rm d mc ms) s m _ below meth c _ mc ms ad h ⟨B.exec, B.bytes, hml, hown, fun q => hnm.trans (hi q), hE, hB, Nat.le_refl _, Nat.le_refl _, Nat.le_refl _, Nat.le_refl _⟩ ?_ 0 0 ad s.heap [] _ ⟨by omega, by omega, hR, va_S.rf, (fun _ _ => rfl), ax_mono_rf h, ax_args_mem hwf, (fun _ q => by cases q), hl⟩
  intro pc ls H locs ad' h' v k1 n1 hq hok hwv hdec A
  obtain ⟨a1, a2, a3, a4, a5, a6, a7, a8, a9⟩ := A
  refine W.widen (k := mc) (n := ms) (by omega) (by omega) ?_
  have hQ : ∀ t : State, t.heap = H → s.WarmedH t.vm → ax_Qc G ad h Q (As.map (ax_vm ad)).toArray s (.returned (v.map (ax_vm ad'))) t := fun t ht hW => ⟨v, h', ad', hq, hwv, rfl, a5, a6, by rw [ht]; exact a3, a4.F ht⟩
  cases v with
  | none => exact W.vret B.exec B.bytes (hr.trans hok) hQ a4.2.2 hdec hlocks
  | some w =>
    cases w with
    | int x =>
      obtain ⟨ty, e1, e2⟩ := hok
      exact W.zret B.exec B.bytes (hr.trans e1) e2 hQ a4.2.2 hdec hlocks
    | long x => exact W.lret B.exec B.bytes (hr.trans hok) hQ a4.2.2 hdec hlocks
    | ref x =>
      obtain ⟨e1, e2⟩ := hok
      rcases e1 with ⟨z, e1⟩ | ⟨z, e1⟩
      · exact W.aret B.exec B.bytes (hr.trans e1) (Or.inl ⟨z, rfl⟩) (Or.inr ⟨_, rfl⟩) hQ a4.2.2 hdec hlocks
      · exact W.aret B.exec B.bytes (hr.trans e1) (Or.inr ⟨z, rfl⟩) (Or.inr ⟨_, rfl⟩) hQ a4.2.2 hdec hlocks
    | null =>
      obtain ⟨e1, e2⟩ := hok
      rcases e1 with ⟨z, e1⟩ | ⟨z, e1⟩
      · exact W.aret B.exec B.bytes (hr.trans e1) (Or.inl ⟨z, rfl⟩) (Or.inl rfl) hQ a4.2.2 hdec hlocks
      · exact W.aret B.exec B.bytes (hr.trans e1) (Or.inr ⟨z, rfl⟩) (Or.inl rfl) hQ a4.2.2 hdec hlocks
    | float x => cases hok.2
    | double x => cases hok.2
    | retAddr x => cases hok.2
