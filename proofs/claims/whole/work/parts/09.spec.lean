/-! the words of the state: bits (number, columns: above and 1, kind, rods, wide, bent, more, soot) -/
abbrev SB : Type := Nat → Nat → Nat
/-- what lies where of the reference's -/
def TopM (h : AH) : Prop := h.1 100 = some (6, 0) ∧ h.1 101 = some (50, 10) ∧ h.1 102 = some (50, 10) ∧ h.1 103 = some (50, 10) ∧ h.1 104 = some (50, 10) ∧ h.1 105 = some (50, 10) ∧ h.1 106 = some (50, 10) ∧ h.1 107 = some (50, 10) ∧ h.1 108 = some (50, 160) ∧ h.1 110 = some (50, 1200) ∧ h.1 111 = some (50, 24) ∧ h.1 117 = some (50, 30) ∧ h.1 118 = some (50, 4) ∧ h.1 119 = some (50, 4) ∧ h.1 120 = some (50, 160) ∧ h.1 121 = some (50, 74) ∧ h.1 126 = some (50, 96) ∧ h.1 127 = some (50, 200) ∧ h.1 131 = some (50, 200) ∧ h.1 132 = some (50, 6) ∧ h.1 133 = some (50, 10) ∧ h.1 134 = some (50, 4) ∧ h.1 136 = some (50, 4) ∧ h.2.2 100 1 = some 101 ∧ h.2.2 100 2 = some 102 ∧ h.2.2 100 3 = some 103 ∧ h.2.2 100 4 = some 104 ∧ h.2.2 100 5 = some 105 ∧ h.2.2 100 6 = some 106 ∧ h.2.2 100 7 = some 107 ∧ h.2.2 100 8 = some 108 ∧ h.2.2 100 10 = some 110 ∧ h.2.2 100 11 = some 111 ∧ h.2.2 100 17 = some 117 ∧ h.2.2 100 18 = some 118 ∧ h.2.2 100 19 = some 119 ∧ h.2.2 100 20 = some 120 ∧ h.2.2 100 21 = some 121 ∧ h.2.2 100 26 = some 126 ∧ h.2.2 100 27 = some 127 ∧ h.2.2 100 31 = some 131 ∧ h.2.2 100 32 = some 132 ∧ h.2.2 100 33 = some 133 ∧ h.2.2 100 34 = some 134 ∧ h.2.2 100 36 = some 136
def RMB (n : Nat) (B : SB) (h : AH) : Prop := h.2.1 100 0 = nI n ∧ ∀ i, i < n → h.2.1 101 i = nI (B i 0) - 1 ∧ h.2.1 102 i = nI (B i 1) ∧ h.2.1 103 i = nI (B i 2) ∧ h.2.1 104 i = nI (B i 3) ∧ h.2.1 105 i = nI (B i 4) ∧ h.2.1 106 i = nI (B i 5) ∧ h.2.1 107 i = nI (B i 6)
def WFB (n : Nat) (B : SB) : Prop := n ≤ 10 ∧ ∀ i, i < n → B i 0 ≤ i ∧ B i 1 ≤ 5 ∧ 1 ≤ B i 2 ∧ B i 2 ≤ 6 ∧ B i 3 ≤ 9 ∧ B i 4 ≤ 4 ∧ B i 5 ≤ 9 ∧ B i 6 ≤ 99
/-- the flue from a bit and 1 on (0: none) -/
def s_wl (B : SB) : Nat → Nat → List Nat
  | 0, _ => []
  | f + 1, u => if u = 0 then [] else (u - 1) :: s_wl B f (B (u - 1) 0)
def s_fl (B : SB) (u : Nat) : List Nat := s_wl B u u
theorem s_wl_more {n : Nat} {B : SB} (hw : WFB n B) : ∀ (f u : Nat), u ≤ n → u ≤ f → s_wl B f u = s_fl B u := by
  intro f
  induction f with
  | zero =>
    intro u _ h
    have : u = 0 := by omega
    subst this
    rfl
  | succ f ih =>
    intro u hn h
    by_cases h0 : u = 0
    · subst h0
      rfl
    · obtain ⟨v, rfl⟩ : ∃ v, u = v + 1 := ⟨u - 1, by omega⟩
      have hb := (hw.2 v (by omega)).1
      show (if v + 1 = 0 then [] else v :: s_wl B f (B v 0)) = (if v + 1 = 0 then [] else v :: s_wl B v (B v 0))
      rw [if_neg h0, if_neg h0, ih _ (by omega) (by omega)]
      congr 1
      by_cases hv : v ≤ f
      · have := ih (B v 0) (by omega) (by omega)
        clear this
        unfold s_fl
        have key : ∀ (m g u : Nat), u ≤ n → u ≤ g → g ≤ m → s_wl B g u = s_wl B u u := by
          intro m
          induction m with
          | zero =>
            intro g u _ a b
            have e1 : g = 0 := by omega
            have e2 : u = 0 := by omega
            subst e1
            subst e2
            rfl
          | succ m im =>
            intro g u hu a b
            by_cases hz : u = 0
            · subst hz
              cases g <;> rfl
            · obtain ⟨w, rfl⟩ : ∃ w, u = w + 1 := ⟨u - 1, by omega⟩
              obtain ⟨g', rfl⟩ : ∃ g', g = g' + 1 := ⟨g - 1, by omega⟩
              have hb2 := (hw.2 w (by omega)).1
              show (if w + 1 = 0 then [] else w :: s_wl B g' (B w 0)) = (if w + 1 = 0 then [] else w :: s_wl B w (B w 0))
              rw [if_neg hz, if_neg hz, im g' (B w 0) (by omega) (by omega) (by omega)]
              by_cases hwm : w ≤ m
              · rw [im w (B w 0) (by omega) (by omega) hwm]
              · omega
        rw [key v v (B v 0) (by omega) (by omega) (Nat.le_refl _)]
      · omega
theorem s_fl_0 (B : SB) : s_fl B 0 = [] := rfl
theorem s_fl_s {n : Nat} {B : SB} (hw : WFB n B) {v : Nat} (hv : v < n) : s_fl B (v + 1) = v :: s_fl B (B v 0) := by
  show (if v + 1 = 0 then [] else v :: s_wl B v (B v 0)) = _
  rw [if_neg (by omega), s_wl_more hw v (B v 0) (by have := (hw.2 v hv).1; omega) (hw.2 v hv).1]
/-! numbers -/
theorem i_le (a b : Int32) : a ≤ b ↔ a.toInt ≤ b.toInt := Int32.le_iff_toInt_le
theorem i_lt (a b : Int32) : a < b ↔ a.toInt < b.toInt := Int32.lt_iff_toInt_lt
theorem i_eq (a b : Int32) : a = b ↔ a.toInt = b.toInt := Int32.toInt_inj.symm
theorem i_n {n : Nat} (h : n < 2 ^ 31) : (nI n).toInt = (n : Int) := nI_toInt h
theorem i_rng (x : Int32) : -2147483648 ≤ x.toInt ∧ x.toInt < 2147483648 := ⟨Int32.le_toInt x, Int32.toInt_lt x⟩
theorem i_of {x : Int32} {m : Nat} (h0 : 0 ≤ x.toInt) (h1 : x.toInt < m) : ∃ k, k < m ∧ x = nI k := by
  refine ⟨x.toInt.toNat, by omega, ?_⟩
  have hr := i_rng x
  rw [i_eq, i_n (by omega)]
  omega
theorem i_m1 (k : Nat) : nI (k + 1) - 1 = nI k := nI_pred k
theorem i_cur {u : Nat} (h : u < 2 ^ 31) : (nI u - 1 = -1) ↔ u = 0 := by
  cases u with
  | zero => exact ⟨fun _ => rfl, fun _ => by decide⟩
  | succ k =>
    rw [i_m1]
    refine ⟨fun q => ?_, fun q => by omega⟩
    have := congrArg Int32.toInt q
    rw [i_n (by omega)] at this
    have e : (-1 : Int32).toInt = -1 := by decide
    omega
