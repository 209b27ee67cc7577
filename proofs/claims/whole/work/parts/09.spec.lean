/-! the words of the state: bits (number, columns: above and 1, kind, rods, wide, bent, more, soot) -/
abbrev SB : Type := Nat → Nat → Nat
/-- what lies where of the reference's -/
def TopM (h : AH) : Prop := h.1 100 = some (6, 0) ∧ h.1 101 = some (50, 10) ∧ h.1 102 = some (50, 10) ∧ h.1 103 = some (50, 10) ∧ h.1 104 = some (50, 10) ∧ h.1 105 = some (50, 10) ∧ h.1 106 = some (50, 10) ∧ h.1 107 = some (50, 10) ∧ h.1 108 = some (50, 160) ∧ h.1 110 = some (50, 1200) ∧ h.1 111 = some (50, 24) ∧ h.1 117 = some (50, 30) ∧ h.1 118 = some (50, 4) ∧ h.1 119 = some (50, 4) ∧ h.1 120 = some (50, 160) ∧ h.1 121 = some (50, 74) ∧ h.1 126 = some (50, 96) ∧ h.1 127 = some (50, 200) ∧ h.1 131 = some (50, 200) ∧ h.1 132 = some (50, 6) ∧ h.1 133 = some (50, 10) ∧ h.1 134 = some (50, 4) ∧ h.1 136 = some (50, 4) ∧ h.2.2 100 1 = some 101 ∧ h.2.2 100 2 = some 102 ∧ h.2.2 100 3 = some 103 ∧ h.2.2 100 4 = some 104 ∧ h.2.2 100 5 = some 105 ∧ h.2.2 100 6 = some 106 ∧ h.2.2 100 7 = some 107 ∧ h.2.2 100 8 = some 108 ∧ h.2.2 100 10 = some 110 ∧ h.2.2 100 11 = some 111 ∧ h.2.2 100 17 = some 117 ∧ h.2.2 100 18 = some 118 ∧ h.2.2 100 19 = some 119 ∧ h.2.2 100 20 = some 120 ∧ h.2.2 100 21 = some 121 ∧ h.2.2 100 26 = some 126 ∧ h.2.2 100 27 = some 127 ∧ h.2.2 100 31 = some 131 ∧ h.2.2 100 32 = some 132 ∧ h.2.2 100 33 = some 133 ∧ h.2.2 100 34 = some 134 ∧ h.2.2 100 36 = some 136
def RMB (n : Nat) (B : SB) (h : AH) : Prop := h.2.1 100 0 = nI n ∧ ∀ i, i < n → h.2.1 101 i = nI (B i 0) - 1 ∧ h.2.1 102 i = nI (B i 1) ∧ h.2.1 103 i = nI (B i 2) ∧ h.2.1 104 i = nI (B i 3) ∧ h.2.1 105 i = nI (B i 4) ∧ h.2.1 106 i = nI (B i 5) ∧ h.2.1 107 i = nI (B i 6)
def WFB (n : Nat) (B : SB) : Prop := n ≤ 10 ∧ ∀ i, i < n → B i 0 ≤ i ∧ B i 1 ≤ 5 ∧ 1 ≤ B i 2 ∧ B i 2 ≤ 6 ∧ B i 3 ≤ 9 ∧ B i 4 ≤ 4 ∧ B i 5 ≤ 9 ∧ B i 6 ≤ 99
/-- the flue from a bit and 1 on (0: none) -/
def s_wl (B : SB) : Nat → Nat → List Nat
  | 0, _ => []
  | f + 1, u => if u = 0 then [] else (u - 1) :: s_wl B f (B (u - 1) 0)
def s_fl (B : SB) (u : Nat) : List Nat := s_wl B u u
theorem s_wl_more {n : Nat} {B : SB} (hw : WFB n B) : ∀ (f u : Nat), u ≤ n → u ≤ f → s_wl B f u = s_fl B u := by
  intro f
  induction f with
  | zero =>
    intro u _ h
    have : u = 0 := by omega
    subst this
    rfl
  | succ f ih =>
    intro u hn h
    by_cases h0 : u = 0
    · subst h0
      rfl
    · obtain ⟨v, rfl⟩ : ∃ v, u = v + 1 := ⟨u - 1, by omega⟩
      have hb := (hw.2 v (by omega)).1
      show (if v + 1 = 0 then [] else v :: s_wl B f (B v 0)) = (if v + 1 = 0 then [] else v :: s_wl B v (B v 0))
      rw [if_neg h0, if_neg h0, ih _ (by omega) (by omega)]
      congr 1
      by_cases hv : v ≤ f
      · have := ih (B v 0) (by omega) (by omega)
        clear this
        unfold s_fl
        have key : ∀ (m g u : Nat), u ≤ n → u ≤ g → g ≤ m → s_wl B g u = s_wl B u u := by
          intro m
          induction m with
          | zero =>
            intro g u _ a b
            have e1 : g = 0 := by omega
            have e2 : u = 0 := by omega
            subst e1
            subst e2
            rfl
          | succ m im =>
            intro g u hu a b
            by_cases hz : u = 0
            · subst hz
              cases g <;> rfl
            · obtain ⟨w, rfl⟩ : ∃ w, u = w + 1 := ⟨u - 1, by omega⟩
              obtain ⟨g', rfl⟩ : ∃ g', g = g' + 1 := ⟨g - 1, by omega⟩
              have hb2 := (hw.2 w (by omega)).1
              show (if w + 1 = 0 then [] else w :: s_wl B g' (B w 0)) = (if w + 1 = 0 then [] else w :: s_wl B w (B w 0))
              rw [if_neg hz, if_neg hz, im g' (B w 0) (by omega) (by omega) (by omega)]
              by_cases hwm : w ≤ m
              · rw [im w (B w 0) (by omega) (by omega) hwm]
              · omega
        rw [key v v (B v 0) (by omega) (by omega) (Nat.le_refl _)]
      · omega
theorem s_fl_0 (B : SB) : s_fl B 0 = [] := rfl
theorem s_fl_s {n : Nat} {B : SB} (hw : WFB n B) {v : Nat} (hv : v < n) : s_fl B (v + 1) = v :: s_fl B (B v 0) := by
  show (if v + 1 = 0 then [] else v :: s_wl B v (B v 0)) = _
  rw [if_neg (by omega), s_wl_more hw v (B v 0) (by have := (hw.2 v hv).1; omega) (hw.2 v hv).1]
/-! numbers -/
theorem i_le (a b : Int32) : a ≤ b ↔ a.toInt ≤ b.toInt := Int32.le_iff_toInt_le
theorem i_lt (a b : Int32) : a < b ↔ a.toInt < b.toInt := Int32.lt_iff_toInt_lt
theorem i_eq (a b : Int32) : a = b ↔ a.toInt = b.toInt := Int32.toInt_inj.symm
theorem i_n {n : Nat} (h : n < 2 ^ 31) : (nI n).toInt = (n : Int) := nI_toInt h
theorem i_rng (x : Int32) : -2147483648 ≤ x.toInt ∧ x.toInt < 2147483648 := ⟨Int32.le_toInt x, Int32.toInt_lt x⟩
theorem i_of {x : Int32} {m : Nat} (h0 : 0 ≤ x.toInt) (h1 : x.toInt < m) : ∃ k, k < m ∧ x = nI k := by
  refine ⟨x.toInt.toNat, by omega, ?_⟩
  have hr := i_rng x
  rw [i_eq, i_n (by omega)]
  omega
theorem i_m1 (k : Nat) : nI (k + 1) - 1 = nI k := nI_pred k
theorem i_cur {u : Nat} (h : u < 2 ^ 31) : (nI u - 1 = -1) ↔ u = 0 := by
  cases u with
  | zero => exact ⟨fun _ => rfl, fun _ => by decide⟩
  | succ k =>
    rw [i_m1]
    refine ⟨fun q => ?_, fun q => by omega⟩
    have := congrArg Int32.toInt q
    rw [i_n (by omega)] at this
    have e : (-1 : Int32).toInt = -1 := by decide
    omega
theorem i_nm1 {v : Nat} (h : v < 2 ^ 31) : ¬ nI v = -1 := fun q => by
  have := congrArg Int32.toInt q
  rw [i_n h] at this
  have e : (-1 : Int32).toInt = -1 := by decide
  omega
theorem i_m1m : nI 0 - 1 = -1 := by decide
theorem rok_if {c : Prop} [Decidable c] : ax_rok (some .boolean) (some (.int (if c then 1 else 0))) = True := by
  by_cases h : c
  · rw [if_pos h, rok_z1]
  · rw [if_neg h, rok_z0]
/-- an index of a bit -/
abbrev s_ib (n : Nat) (b : Int32) : Prop := 0 ≤ b.toInt ∧ b.toInt < n
/-- the set of a flue's bits -/
def s_set (l : List Nat) (a : Int32) : Int32 := l.foldl (fun s c => s ||| (1 <<< (nI c &&& 31))) a
def s_sum (B : SB) (k : Nat) (l : List Nat) (a : Int32) : Int32 := l.foldl (fun s c => s + nI (B c k)) a
/-- how wide a bit is -/
def s_iw (B : SB) (c : Nat) : Nat := if B c 1 = 2 then B c 3 - B c 5 else if B c 1 = 4 then (B c 3 - B c 5) - B c 6 / 10 else B c 3
/-- no bit is above it -/
def s_fp (n : Nat) (B : SB) (k : Nat) : Bool := (List.range n).all (fun o => B o 0 != k + 1)
theorem s_fp_iff {n : Nat} {B : SB} {k : Nat} : s_fp n B k = true ↔ ∀ o, o < n → B o 0 ≠ k + 1 := by
  unfold s_fp
  rw [List.all_eq_true]
  simp
def s_mask (n : Nat) (P : Nat → Bool) : Int32 := (List.range n).foldl (fun s b => if P b = true then s ||| (1 <<< (nI b &&& 31)) else s) 0
theorem s_mask_0 (P : Nat → Bool) : s_mask 0 P = 0 := rfl
theorem s_mask_s (n : Nat) (P : Nat → Bool) : s_mask (n + 1) P = if P n = true then s_mask n P ||| (1 <<< (nI n &&& 31)) else s_mask n P := by
  unfold s_mask
  rw [List.range_succ, List.foldl_append]
  rfl
def s_ones (x : Int32) : Nat → Int32
  | 0 => 0
  | k + 1 => s_ones x k + ((x >>> (nI k &&& 31)) &&& 1)
/-- by so many rods: the bit that they reach and 1; 0: through -/
def s_rch (B : SB) : List Nat → Nat → Nat
  | [], _ => 0
  | c :: r, left => if B c 2 < left then s_rch B r (left - B c 2) else c + 1
def s_lks (B : SB) (c : Nat) : Nat := if B c 1 = 5 then 10 * B c 5 else 0
def s_rem (B : SB) (c : Nat) : Nat := if B c 1 = 4 then B c 6 else if B c 1 = 3 then B c 6 / 2 else 0
/-- the arrays (and the object) of l apart, nothing is otherwise -/
def Sm (l : List Nat) (h h' : AH) : Prop := h'.1 = h.1 ∧ h'.2.2 = h.2.2 ∧ ∀ a, a ∉ l → h'.2.1 a = h.2.1 a
theorem Sm_rf (l : List Nat) (h : AH) : Sm l h h := ⟨rfl, rfl, fun _ _ => rfl⟩
theorem Sm_tr {l l1 l2 : List Nat} {h h1 h2 : AH} (a : Sm l1 h h1) (b : Sm l2 h1 h2) (s1 : ∀ x ∈ l1, x ∈ l) (s2 : ∀ x ∈ l2, x ∈ l) : Sm l h h2 := ⟨b.1.trans a.1, b.2.1.trans a.2.1, fun x hx => (b.2.2 x (fun q => hx (s2 x q))).trans (a.2.2 x (fun q => hx (s1 x q)))⟩
theorem Sm_I {l : List Nat} {h : AH} {a k : Nat} {x : Int32} (ha : a ∈ l) : Sm l h (ax_setI h a k x) := ⟨rfl, rfl, fun b hb => ax_up_ne (fun e => hb (e ▸ ha))⟩
theorem TopM_Sm {l : List Nat} {h h' : AH} (S : Sm l h h') (T : TopM h) : TopM h' := by
  unfold TopM at T ⊢
  rw [S.1, S.2.1]
  exact T
theorem RMB_Sm {l : List Nat} {n : Nat} {B : SB} {h h' : AH} (S : Sm l h h') (R : RMB n B h) (hl : 100 ∉ l ∧ 101 ∉ l ∧ 102 ∉ l ∧ 103 ∉ l ∧ 104 ∉ l ∧ 105 ∉ l ∧ 106 ∉ l ∧ 107 ∉ l) : RMB n B h' := by
  obtain ⟨l0, l1, l2, l3, l4, l5, l6, l7⟩ := hl
  unfold RMB at R ⊢
  rw [S.2.2 _ l0, S.2.2 _ l1, S.2.2 _ l2, S.2.2 _ l3, S.2.2 _ l4, S.2.2 _ l5, S.2.2 _ l6, S.2.2 _ l7]
  exact R
theorem setI_at (h : AH) (a k : Nat) (x : Int32) (b j : Nat) : (ax_setI h a k x).2.1 b j = if b = a ∧ j = k then x else h.2.1 b j := rfl
theorem setI_1 (h : AH) (a k : Nat) (x : Int32) : (ax_setI h a k x).1 = h.1 := rfl
theorem setI_22 (h : AH) (a k : Nat) (x : Int32) : (ax_setI h a k x).2.2 = h.2.2 := rfl
theorem i_ne0 {n : Nat} (h : n < 2 ^ 31) : (nI n = 0) ↔ n = 0 := nI_eq h (by decide)
theorem i_lit (n : Nat) : (OfNat.ofNat n : Int32) = nI n := rfl
theorem ib_iff {n : Nat} (h31 : n < 2 ^ 31) (b : Int32) : (0 ≤ b ∧ b ≤ nI n - 1) ↔ s_ib n b := by
  unfold s_ib
  cases n with
  | zero =>
    rw [i_le, i_le, i_m1m]
    have e : (-1 : Int32).toInt = -1 := by decide
    have e0 : (0 : Int32).toInt = 0 := by decide
    omega
  | succ k =>
    rw [i_m1, i_le, i_le, i_n (by omega)]
    have e0 : (0 : Int32).toInt = 0 := by decide
    omega
theorem ib_of {n : Nat} {b : Int32} (q : s_ib n b) : ∃ k, k < n ∧ b = nI k := i_of q.1 q.2
theorem n31 {n : Nat} {B : SB} (W : WFB n B) : n < 2 ^ 31 := Nat.lt_of_le_of_lt W.1 (by decide)
theorem ib_n {n : Nat} (h31 : n < 2 ^ 31) {k : Nat} (hk : k < n) : s_ib n (nI k) := by
  unfold s_ib
  rw [i_n (by omega)]
  omega
theorem i_eqL {a n : Nat} (ha : a < 2 ^ 31) (hn : n < 2 ^ 31) : (nI a = (OfNat.ofNat n : Int32)) ↔ a = n := nI_eq ha hn
theorem i_leL {a n : Nat} (ha : a < 2 ^ 31) (hn : n < 2 ^ 31) : (nI a ≤ (OfNat.ofNat n : Int32)) ↔ a ≤ n := nI_leI ha hn
theorem i_Lle {a n : Nat} (ha : a < 2 ^ 31) (hn : n < 2 ^ 31) : ((OfNat.ofNat n : Int32) ≤ nI a) ↔ n ≤ a := nI_leI hn ha
theorem i_ltL {a n : Nat} (ha : a < 2 ^ 31) (hn : n < 2 ^ 31) : (nI a < (OfNat.ofNat n : Int32)) ↔ a < n := nI_ltI ha hn
theorem i_Llt {a n : Nat} (ha : a < 2 ^ 31) (hn : n < 2 ^ 31) : ((OfNat.ofNat n : Int32) < nI a) ↔ n < a := nI_ltI hn ha
