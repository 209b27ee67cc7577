-- deps: 12
/-! the soot's changes -/
def s_up (B : SB) (b k v : Nat) : SB := fun i j => if i = b ∧ j = k then v else B i j
theorem s_up_at (B : SB) (b k v i j : Nat) : s_up B b k v i j = if i = b ∧ j = k then v else B i j := rfl
theorem s_up_0 (B : SB) {b k v : Nat} (hk : k ≠ 0) (i : Nat) : s_up B b k v i 0 = B i 0 := if_neg (fun q => hk q.2.symm)
theorem s_wl_0 {B B' : SB} (e : ∀ i, B' i 0 = B i 0) : ∀ (f u : Nat), s_wl B' f u = s_wl B f u
  | 0, _ => rfl
  | f + 1, u => by
    show (if u = 0 then [] else (u - 1) :: s_wl B' f (B' (u - 1) 0)) = (if u = 0 then [] else (u - 1) :: s_wl B f (B (u - 1) 0))
    rw [e, s_wl_0 e f]
theorem s_fl_e {B B' : SB} (e : ∀ i, B' i 0 = B i 0) (u : Nat) : s_fl B' u = s_fl B u := s_wl_0 e u u
theorem s_fl_up (B : SB) {b k v : Nat} (hk : k ≠ 0) (u : Nat) : s_fl (s_up B b k v) u = s_fl B u := s_fl_e (s_up_0 B hk) u
theorem s_wl_lt {B : SB} : ∀ (f u c : Nat), (∀ i, B i 0 ≤ i) → c ∈ s_wl B f u → c < u
  | 0, _, _, _, hc => by cases hc
  | f + 1, u, c, hb, hc => by
    have e : s_wl B (f + 1) u = if u = 0 then [] else (u - 1) :: s_wl B f (B (u - 1) 0) := rfl
    rw [e] at hc
    by_cases h0 : u = 0
    · rw [if_pos h0] at hc
      cases hc
    · rw [if_neg h0] at hc
      rcases List.mem_cons.mp hc with rfl | hc
      · omega
      · have := s_wl_lt f _ c hb hc
        have := hb (u - 1)
        omega
theorem s_fl_lt {n : Nat} {B : SB} (W : WFB n B) : ∀ (u c : Nat), u ≤ n → c ∈ s_fl B u → c < u := by
  intro u
  induction u using Nat.strongRecOn with
  | _ u ih =>
    intro c hu hc
    cases u with
    | zero => cases hc
    | succ v =>
      rw [s_fl_s W (by omega)] at hc
      have hw := (W.2 v (by omega)).1
      rcases List.mem_cons.mp hc with rfl | hc
      · omega
      · have := ih (B v 0) (by omega) c (by omega) hc
        omega
theorem WFB_up6 {n : Nat} {B : SB} (W : WFB n B) {b v : Nat} (hv : v ≤ 99) : WFB n (s_up B b 6 v) := by
  refine ⟨W.1, fun i hi => ?_⟩
  obtain ⟨w0, w1, w2, w2b, w3, w4, w5, w6⟩ := W.2 i hi
  refine ⟨by rw [s_up_at, if_neg (by omega)]; exact w0, by rw [s_up_at, if_neg (by omega)]; exact w1, by rw [s_up_at, if_neg (by omega)]; exact w2, by rw [s_up_at, if_neg (by omega)]; exact w2b, by rw [s_up_at, if_neg (by omega)]; exact w3, by rw [s_up_at, if_neg (by omega)]; exact w4, by rw [s_up_at, if_neg (by omega)]; exact w5, ?_⟩
  rw [s_up_at]
  split
  · exact hv
  · exact w6
theorem RMB_up6 {n : Nat} {B : SB} {h : AH} (R : RMB n B h) (b v : Nat) : RMB n (s_up B b 6 v) (ax_setI h 107 b (nI v)) := by
  refine ⟨R.1, fun i hi => ?_⟩
  obtain ⟨r0, r1, r2, r3, r4, r5, r6⟩ := R.2 i hi
  have e : ∀ k, k ≠ 6 → s_up B b 6 v i k = B i k := fun k hk => by rw [s_up_at, if_neg (by omega)]
  rw [e 0 (by decide), e 1 (by decide), e 2 (by decide), e 3 (by decide), e 4 (by decide), e 5 (by decide)]
  refine ⟨r0, r1, r2, r3, r4, r5, ?_⟩
  rw [setI_at, s_up_at]
  by_cases hi : i = b
  · rw [if_pos ⟨rfl, hi⟩, if_pos ⟨hi, rfl⟩]
  · rw [if_neg (fun q => hi q.2), if_neg (fun q => hi q.1)]
    exact r6
theorem s_within_n {m hi : Nat} (hm : m < 2 ^ 31) (hh : hi < 2 ^ 31) : s_within (nI m) 0 (nI hi) = nI (min hi m) := by
  rw [s_within_cl _ hh]
  unfold s_cl
  rw [i_n hm]
  congr 1
  split
  · omega
  · split <;> omega
def s_burn (A : Nat → List Nat) (hw : Nat) : SB → List Nat → SB
  | B, [] => B
  | B, c :: r => s_burn A hw (s_up B c 6 (min 99 (B c 6 + s_gr A B c hw))) r
theorem s_burn_e (A : Nat → List Nat) (hw : Nat) : ∀ (l : List Nat) (B : SB) (i k : Nat), k ≠ 6 → s_burn A hw B l i k = B i k
  | [], _, _, _, _ => rfl
  | c :: r, B, i, k, hk => by
    show s_burn A hw (s_up B c 6 _) r i k = _
    rw [s_burn_e A hw r _ i k hk, s_up_at, if_neg (fun q => hk q.2)]
theorem WFB_burn {n : Nat} (A : Nat → List Nat) (hw : Nat) : ∀ (l : List Nat) (B : SB), WFB n B → WFB n (s_burn A hw B l)
  | [], _, W => W
  | c :: r, B, W => WFB_burn A hw r _ (WFB_up6 W (Nat.min_le_left _ _))
theorem s_gr_le {n : Nat} (A : Nat → List Nat) {B : SB} (W : WFB n B) {c : Nat} (hc : c < n) (hw : Nat) : s_gr A B c hw ≤ 108 := by
  have h1 := s_ask_le9 A B (p := 0) (by decide) c (hw / 10) (hw % 10)
  have h2 := (W.2 c hc).2.2.2.2.2.2.1
  unfold s_gr
  split
  · omega
  · split <;> omega
/-- the bit and 1 in which a brush stays; 0: through -/
def s_sty (A : Nat → List Nat) (B : SB) (fc : Nat) : List Nat → Nat
  | [] => 0
  | c :: r => if s_iw B c = 0 ∨ fc < s_ask A B 1 c 0 0 then c + 1 else s_sty A B fc r
theorem s_sty_in (A : Nat → List Nat) (B : SB) (fc : Nat) : ∀ (l : List Nat), s_sty A B fc l = 0 ∨ ∃ c, c ∈ l ∧ s_sty A B fc l = c + 1
  | [] => Or.inl rfl
  | c :: r => by
    unfold s_sty
    split
    · exact Or.inr ⟨c, List.mem_cons_self, rfl⟩
    · rcases s_sty_in A B fc r with h | ⟨d, h1, h2⟩
      · exact Or.inl h
      · exact Or.inr ⟨d, List.mem_cons_of_mem _ h1, h2⟩
/-- the bits ahead of the one that stays -/
def s_pre (st : Nat) : List Nat → List Nat
  | [] => []
  | c :: r => if c + 1 = st then [] else c :: s_pre st r
def s_brush : SB → List Nat → SB
  | B, [] => B
  | B, c :: r => s_brush (s_up B c 6 (s_rem B c)) r
def s_went : SB → List Nat → Nat
  | _, [] => 0
  | B, c :: r => (B c 6 - s_rem B c) + s_went (s_up B c 6 (s_rem B c)) r
theorem s_rem_le (B : SB) (c : Nat) : s_rem B c ≤ B c 6 := by
  unfold s_rem
  split
  · exact Nat.le_refl _
  · split <;> omega
theorem s_brush_e : ∀ (l : List Nat) (B : SB) (i k : Nat), k ≠ 6 → s_brush B l i k = B i k
  | [], _, _, _, _ => rfl
  | c :: r, B, i, k, hk => by
    show s_brush (s_up B c 6 _) r i k = _
    rw [s_brush_e r _ i k hk, s_up_at, if_neg (fun q => hk q.2)]
theorem WFB_brush {n : Nat} : ∀ (l : List Nat) (B : SB), (∀ c ∈ l, c < n) → WFB n B → WFB n (s_brush B l)
  | [], _, _, W => W
  | c :: r, B, hl, W => WFB_brush r _ (fun x hx => hl x (List.mem_cons_of_mem _ hx)) (WFB_up6 W (Nat.le_trans (s_rem_le B c) (W.2 c (hl c List.mem_cons_self)).2.2.2.2.2.2.2))
/-- the flue is swept -/
def s_swB (A : Nat → List Nat) (fc : Nat) (B : SB) (l : List Nat) : SB := s_brush B (s_pre (s_sty A B fc l) l)
def s_swN (A : Nat → List Nat) (fc : Nat) (B : SB) (l : List Nat) : Nat := s_went B (s_pre (s_sty A B fc l) l)
theorem s_pre_in (st : Nat) : ∀ (l : List Nat) (c : Nat), c ∈ s_pre st l → c ∈ l
  | [], _, h => h
  | d :: r, c, h => by
    unfold s_pre at h
    split at h
    · cases h
    · rcases List.mem_cons.mp h with rfl | h
      · exact List.mem_cons_self
      · exact List.mem_cons_of_mem _ (s_pre_in st r c h)
theorem WFB_swB {n : Nat} (A : Nat → List Nat) (fc : Nat) {B : SB} (W : WFB n B) {u : Nat} (hu : u ≤ n) : WFB n (s_swB A fc B (s_fl B u)) := WFB_brush _ _ (fun c hc => Nat.lt_of_lt_of_le (s_fl_lt W u c hu (s_pre_in _ _ c hc)) hu) W
theorem s_swB_e (A : Nat → List Nat) (fc : Nat) (B : SB) (l : List Nat) (i k : Nat) (hk : k ≠ 6) : s_swB A fc B l i k = B i k := s_brush_e _ _ _ _ hk
def s_mst (B : SB) : Nat → Nat
  | 0 => 0
  | k + 1 => max (s_mst B k) (B k 6)
theorem s_mst_le {n : Nat} {B : SB} (W : WFB n B) : ∀ k, k ≤ n → s_mst B k ≤ 99
  | 0, _ => Nat.zero_le _
  | k + 1, hk => Nat.max_le.mpr ⟨s_mst_le W k (by omega), (W.2 k hk).2.2.2.2.2.2.2⟩
/-- the first bit (and 1) that bit k is above; 0: none -/
def s_bel (B : SB) (k : Nat) : Nat → Nat → Nat
  | _, 0 => 0
  | o, m + 1 => if B o 0 = k + 1 then o + 1 else s_bel B k (o + 1) m
def s_drw (B : SB) (l : List Nat) : Int := (l.map (fun c => 5 * (B c 2 : Int) - 2 * (B c 4 : Int) - (9 - (s_iw B c : Int)))).sum
def s_hv (A : Nat → List Nat) (B : SB) (l : List Nat) (rods : Nat) : Nat := if s_rch B l rods = 0 then 0 else s_ask A B 1 (s_rch B l rods - 1) 0 0 + 1
/-- first rod of r .. told otherwise; 0: none -/
def s_unl (A : Nat → List Nat) (B : SB) (l : List Nat) (C : Nat → Int32) : Nat → Nat → Nat
  | _, 0 => 0
  | r, m + 1 => if C r = nI (s_hv A B l (r + 1)) - 1 then s_unl A B l C (r + 1) m else r + 1
theorem s_rch_in (B : SB) : ∀ (l : List Nat) (m : Nat), s_rch B l m = 0 ∨ ∃ c, c ∈ l ∧ s_rch B l m = c + 1
  | [], _ => Or.inl rfl
  | c :: r, m => by
    unfold s_rch
    split
    · rcases s_rch_in B r (m - B c 2) with h | ⟨d, h1, h2⟩
      · exact Or.inl h
      · exact Or.inr ⟨d, List.mem_cons_of_mem _ h1, h2⟩
    · exact Or.inr ⟨c, List.mem_cons_self, rfl⟩
/-- what the model holds of house, texts -/
def RC (n : Nat) (B : SB) (T r : Nat) (X E : Nat → Nat → Nat) (h : AH) : Prop := TopM h ∧ RMB n B h ∧ RML T r X E h
def WC (n : Nat) (B : SB) (T r : Nat) (X E : Nat → Nat → Nat) : Prop := WFB n B ∧ WFL T r X E
theorem RC_Sm {l : List Nat} {n : Nat} {B : SB} {T r : Nat} {X E : Nat → Nat → Nat} {h h' : AH} (S : Sm l h h') (R : RC n B T r X E h) (hl : 100 ∉ l ∧ 101 ∉ l ∧ 102 ∉ l ∧ 103 ∉ l ∧ 104 ∉ l ∧ 105 ∉ l ∧ 106 ∉ l ∧ 107 ∉ l ∧ 110 ∉ l ∧ 111 ∉ l) : RC n B T r X E h' := ⟨TopM_Sm S R.1, RMB_Sm S R.2.1 ⟨hl.1, hl.2.1, hl.2.2.1, hl.2.2.2.1, hl.2.2.2.2.1, hl.2.2.2.2.2.1, hl.2.2.2.2.2.2.1, hl.2.2.2.2.2.2.2.1⟩, RML_Sm S R.2.2 ⟨hl.1, hl.2.2.2.2.2.2.2.2.1, hl.2.2.2.2.2.2.2.2.2⟩⟩
theorem RC_up6 {n : Nat} {B : SB} {T r : Nat} {X E : Nat → Nat → Nat} {h : AH} (R : RC n B T r X E h) (b v : Nat) : RC n (s_up B b 6 v) T r X E (ax_setI h 107 b (nI v)) :=
  ⟨TopM_Sm (Sm_I (l := [107]) (.head _)) R.1, RMB_up6 R.2.1 b v, RML_Sm (Sm_I (l := [107]) (.head _)) R.2.2 (by decide)⟩
/-- soot laid back -/
theorem RC_back {l : List Nat} {n : Nat} {B : SB} {T r : Nat} {X E : Nat → Nat → Nat} {h h' : AH} (S : Sm l h h') (R : RC n B T r X E h) (W : WFB n B) (hl : 100 ∉ l ∧ 101 ∉ l ∧ 102 ∉ l ∧ 103 ∉ l ∧ 104 ∉ l ∧ 105 ∉ l ∧ 106 ∉ l ∧ 110 ∉ l ∧ 111 ∉ l) (hb : ∀ k, k < 10 → h'.2.1 107 k = h.2.1 107 k) : RC n B T r X E h' := by
  obtain ⟨l0, l1, l2, l3, l4, l5, l6, l7, l8⟩ := hl
  refine ⟨TopM_Sm S R.1, ⟨?_, fun i hi => ?_⟩, RML_Sm S R.2.2 ⟨l0, l7, l8⟩⟩
  · rw [S.2.2 _ l0]
    exact R.2.1.1
  · rw [S.2.2 _ l1, S.2.2 _ l2, S.2.2 _ l3, S.2.2 _ l4, S.2.2 _ l5, S.2.2 _ l6, hb i (by have := W.1; omega)]
    exact R.2.1.2 i hi
