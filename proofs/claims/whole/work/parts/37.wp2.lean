-- deps: 12
/-! the steps with conditions that are decided before what stands behind them is looked at -/
def ax_sw2 (off : Int → Prop) (x : Int) : Int → List Int → Prop
  | _, [] => True
  | k, o :: r => if x = k then off o else ax_sw2 off x (k + 1) r
def ax_lsw2 (off : Int → Prop) (x : Int) (dflt : Int) : List (Int × Int) → Prop
  | [] => off dflt
  | (a, o) :: r => if x = a then off o else ax_lsw2 off x dflt r
theorem ax_sw_lo {off : Int → Prop} {x : Int} : ∀ (l : List Int) (k : Int), x < k → ax_sw off x k l
  | [], _, _ => trivial
  | o :: r, k, h => ⟨fun q => by omega, ax_sw_lo r (k + 1) (by omega)⟩
theorem ax_sw2_ok {off : Int → Prop} {x : Int} : ∀ (l : List Int) (k : Int), ax_sw2 off x k l → ax_sw off x k l
  | [], _, _ => trivial
  | o :: r, k, h => by
    unfold ax_sw2 at h
    by_cases e : x = k
    · rw [if_pos e] at h
      exact ⟨fun _ => h, ax_sw_lo r (k + 1) (by omega)⟩
    · rw [if_neg e] at h
      exact ⟨fun q => absurd q e, ax_sw2_ok r (k + 1) h⟩
theorem ax_lsw2_ok {off : Int → Prop} {x dflt : Int} : ∀ (l : List (Int × Int)), ax_lsw2 off x dflt l → ax_lsw off x dflt l
  | [], h => h
  | (a, o) :: r, h => by
    unfold ax_lsw2 at h
    by_cases e : x = a
    · rw [if_pos e] at h
      exact ⟨fun _ => h, fun q => absurd e q⟩
    · rw [if_neg e] at h
      exact ⟨fun q => absurd q e, fun _ => ax_lsw2_ok r h⟩
theorem ax_ife {c A B : Prop} [Decidable c] : (if c then A else B) = ((c → A) ∧ (¬ c → B)) := by
  by_cases h : c
  · simp [h]
  · simp [h]
theorem ax_if1 {c A B : Prop} [Decidable c] (h : if c then A else B) : (c → A) ∧ (¬ c → B) := by
  rw [← ax_ife]
  exact h
theorem ax_if2 {c A B : Prop} [Decidable c] (h : if c then A else B) : (¬ c → B) ∧ (c → A) := ⟨(ax_if1 h).2, (ax_if1 h).1⟩
def ax_ins2 (G : AG) (o nL : Nat) (ini : Bool) (ret : Option FieldType) (d : Nat) (Q : Option Value → AH → Prop) (K : AK) (rc rs pc : Nat) (L : AL) (S : List Value) (h : AH) (n : Nat) (ins : Instr) : Prop := match ins with
  | .ifCond c off => n = 3 ∧ 0 ≤ (pc : Int) + off ∧ (match c, S with
    | .eq, .int x :: S => if x = 0 then K rc rs (ax_tg pc off) L S h else K rc rs (pc + 3) L S h
    | .ne, .int x :: S => if x = 0 then K rc rs (pc + 3) L S h else K rc rs (ax_tg pc off) L S h
    | .lt, .int x :: S => if x < 0 then K rc rs (ax_tg pc off) L S h else K rc rs (pc + 3) L S h
    | .ge, .int x :: S => if 0 ≤ x then K rc rs (ax_tg pc off) L S h else K rc rs (pc + 3) L S h
    | .gt, .int x :: S => if 0 < x then K rc rs (ax_tg pc off) L S h else K rc rs (pc + 3) L S h
    | .le, .int x :: S => if x ≤ 0 then K rc rs (ax_tg pc off) L S h else K rc rs (pc + 3) L S h
    | _, _ => False)
  | .if_icmp c off => n = 3 ∧ 0 ≤ (pc : Int) + off ∧ (match c, S with
    | .eq, .int y :: .int x :: S => if x = y then K rc rs (ax_tg pc off) L S h else K rc rs (pc + 3) L S h
    | .ne, .int y :: .int x :: S => if x = y then K rc rs (pc + 3) L S h else K rc rs (ax_tg pc off) L S h
    | .lt, .int y :: .int x :: S => if x < y then K rc rs (ax_tg pc off) L S h else K rc rs (pc + 3) L S h
    | .ge, .int y :: .int x :: S => if y ≤ x then K rc rs (ax_tg pc off) L S h else K rc rs (pc + 3) L S h
    | .gt, .int y :: .int x :: S => if y < x then K rc rs (ax_tg pc off) L S h else K rc rs (pc + 3) L S h
    | .le, .int y :: .int x :: S => if x ≤ y then K rc rs (ax_tg pc off) L S h else K rc rs (pc + 3) L S h
    | _, _ => False)
  | .if_acmp c off => n = 3 ∧ 0 ≤ (pc : Int) + off ∧ (match c, S with
    | .eq, v :: u :: S => ax_oR h u ∧ ax_oR h v ∧ if ax_rf u = ax_rf v then K rc rs (ax_tg pc off) L S h else K rc rs (pc + 3) L S h
    | .ne, v :: u :: S => ax_oR h u ∧ ax_oR h v ∧ if ax_rf u = ax_rf v then K rc rs (pc + 3) L S h else K rc rs (ax_tg pc off) L S h
    | _, _ => False)
  | .ifnull off => n = 3 ∧ 0 ≤ (pc : Int) + off ∧ (match S with | v :: S => ax_isR v = true ∧ (if ax_rf v = none then K rc rs (ax_tg pc off) L S h else K rc rs (pc + 3) L S h) | _ => False)
  | .ifnonnull off => n = 3 ∧ 0 ≤ (pc : Int) + off ∧ (match S with | v :: S => ax_isR v = true ∧ (if ax_rf v = none then K rc rs (pc + 3) L S h else K rc rs (ax_tg pc off) L S h) | _ => False)
  | .tableswitch dflt lo hi offs => (match S with | .int x :: S => (offs.toList.length : Int) = hi - lo + 1 ∧ (if x.toInt < lo ∨ hi < x.toInt then ax_go K rc rs pc L S h dflt else ax_sw2 (ax_go K rc rs pc L S h) x.toInt lo offs.toList) | _ => False)
  | .lookupswitch dflt ps => (match S with | .int x :: S => (ps.toList.zip (ps.toList.drop 1)).all (fun (a, next) => a.1 < next.1) = true ∧ ax_lsw2 (ax_go K rc rs pc L S h) x.toInt dflt ps.toList | _ => False)
  | i => ax_ins G o nL ini ret d Q K rc rs pc L S h n i
theorem ax_sw_hi {off : Int → Prop} {x : Int} : ∀ (l : List Int) (k : Int), k + (l.length : Int) ≤ x → ax_sw off x k l
  | [], _, _ => trivial
  | o :: r, k, h => by
    have e : ((o :: r).length : Int) = (r.length : Int) + 1 := rfl
    exact ⟨fun q => by omega, ax_sw_hi r (k + 1) (by omega)⟩
set_option maxHeartbeats 1000000 in
theorem ax_ins2_ok {G : AG} {o nL : Nat} {ini : Bool} {ret : Option FieldType} {d : Nat} {Q : Option Value → AH → Prop} {K : AK} {rc rs pc : Nat} {L : AL} {S : List Value} {h : AH} {n : Nat} {ins : Instr} (hh : ax_ins2 G o nL ini ret d Q K rc rs pc L S h n ins) : ax_ins G o nL ini ret d Q K rc rs pc L S h n ins := by
  cases ins
  case ifCond c off =>
    obtain ⟨h1, h2, h3⟩ := hh
    refine ⟨h1, h2, ?_⟩
    cases c <;> (cases S with
      | nil => exact h3
      | cons v S => cases v <;> first | exact h3 | exact ax_if1 h3 | exact ax_if2 h3)
  case if_icmp c off =>
    obtain ⟨h1, h2, h3⟩ := hh
    refine ⟨h1, h2, ?_⟩
    cases c <;> (cases S with
      | nil => exact h3
      | cons v S => cases v <;> first | exact h3 | (cases S with
        | nil => exact h3
        | cons u S => cases u <;> first | exact h3 | exact ax_if1 h3 | exact ax_if2 h3))
  case if_acmp c off =>
    obtain ⟨h1, h2, h3⟩ := hh
    refine ⟨h1, h2, ?_⟩
    cases c <;> (cases S with
      | nil => exact h3
      | cons v S => first | exact h3 | (cases S with
        | nil => exact h3
        | cons u S => first | exact ⟨h3.1, h3.2.1, ax_if1 h3.2.2⟩ | exact ⟨h3.1, h3.2.1, ax_if2 h3.2.2⟩))
  case ifnull off =>
    obtain ⟨h1, h2, h3⟩ := hh
    refine ⟨h1, h2, ?_⟩
    cases S with
    | nil => exact h3
    | cons v S => exact ⟨h3.1, ax_if1 h3.2⟩
  case ifnonnull off =>
    obtain ⟨h1, h2, h3⟩ := hh
    refine ⟨h1, h2, ?_⟩
    cases S with
    | nil => exact h3
    | cons v S => exact ⟨h3.1, ax_if2 h3.2⟩
  case tableswitch dflt lo hi offs =>
    cases S with
    | nil => exact hh
    | cons v S => cases v <;> first | exact hh | (
        rename_i x
        obtain ⟨h1, h2⟩ := hh
        by_cases e : x.toInt < lo ∨ hi < x.toInt
        · rw [if_pos e] at h2
          refine ⟨fun _ => h2, h1, ?_⟩
          rcases e with e | e
          · exact ax_sw_lo _ _ e
          · exact ax_sw_hi _ _ (by omega)
        · rw [if_neg e] at h2
          exact ⟨fun q => absurd q e, h1, ax_sw2_ok _ _ h2⟩)
  case lookupswitch dflt ps =>
    cases S with
    | nil => exact hh
    | cons v S => cases v <;> first | exact hh | exact ⟨hh.1, ax_lsw2_ok _ hh.2⟩
  all_goals exact hh
def ax_step2 (G : AG) (o nL : Nat) (ini : Bool) (cc : ByteArray) (ret : Option FieldType) (d : Nat) (Q : Option Value → AH → Prop) (K : AK) (rc rs pc : Nat) (L : AL) (S : List Value) (h : AH) : Prop :=
  match decode cc pc with
  | .ok (ins, n) => ax_ins2 G o nL ini ret d Q K rc rs pc L S h n ins
  | .error _ => False
section AXS2
variable {G : AG} {o nL : Nat} {ini : Bool} {cc : ByteArray} {ret : Option FieldType} {d : Nat} {Q : Option Value → AH → Prop} {rc rs pc : Nat} {L : AL} {S : List Value} {h : AH} {K : AK}
theorem ax_step2_ok (hs : ax_step2 G o nL ini cc ret d Q K rc rs pc L S h) : ax_step G o nL ini cc ret d Q K rc rs pc L S h := by
  unfold ax_step2 at hs
  unfold ax_step
  cases hd : decode cc pc with
  | error e => rw [hd] at hs; exact hs
  | ok r =>
    rw [hd] at hs
    exact ax_ins2_ok hs
def ax_wq (G : AG) (o nL : Nat) (ini : Bool) (cc : ByteArray) (ret : Option FieldType) (d : Nat) (Q : Option Value → AH → Prop) (cuts : List Nat) : Nat → AK
  | 0 => fun _ _ _ _ _ _ => False
  | n + 1 => fun rc rs pc L S h => ax_step2 G o nL ini cc ret d Q (ax_nx (AW G o nL ini cc ret d Q) (ax_wq G o nL ini cc ret d Q cuts n) cuts) rc rs pc L S h
theorem ax_wq_s {cuts : List Nat} {n : Nat} : ax_wq G o nL ini cc ret d Q cuts (n + 1) rc rs pc L S h = ax_step2 G o nL ini cc ret d Q (ax_nx (AW G o nL ini cc ret d Q) (ax_wq G o nL ini cc ret d Q cuts n) cuts) rc rs pc L S h := rfl
theorem ax_wq_ok {cuts : List Nat} : ∀ (n : Nat) {rc rs pc : Nat} {L : AL} {S : List Value} {h : AH}, ax_wq G o nL ini cc ret d Q cuts n rc rs pc L S h → AW G o nL ini cc ret d Q rc rs pc L S h
  | 0, _, _, _, _, _, _, hh => hh.elim
  | n + 1, rc, rs, pc, L, S, h, hh => by
    refine ax_step_ok (K := ax_nx (AW G o nL ini cc ret d Q) (ax_wq G o nL ini cc ret d Q cuts n) cuts) (fun rc rs pc L S h q => ?_) (ax_step2_ok hh)
    unfold ax_nx at q
    split at q
    · exact q
    · exact ax_wq_ok n q
end AXS2
theorem ax_ins2_u {G : AG} {o nL : Nat} {ini : Bool} {ret : Option FieldType} {d : Nat} {Q : Option Value → AH → Prop} {K : AK} {rc rs pc : Nat} {L : AL} {S : List Value} {h : AH} {n : Nat} {ins : Instr} : ax_ins2 G o nL ini ret d Q K rc rs pc L S h n ins = (match ins with
  | .ifCond c off => n = 3 ∧ 0 ≤ (pc : Int) + off ∧ (match c, S with
    | .eq, .int x :: S => if x = 0 then K rc rs (ax_tg pc off) L S h else K rc rs (pc + 3) L S h
    | .ne, .int x :: S => if x = 0 then K rc rs (pc + 3) L S h else K rc rs (ax_tg pc off) L S h
    | .lt, .int x :: S => if x < 0 then K rc rs (ax_tg pc off) L S h else K rc rs (pc + 3) L S h
    | .ge, .int x :: S => if 0 ≤ x then K rc rs (ax_tg pc off) L S h else K rc rs (pc + 3) L S h
    | .gt, .int x :: S => if 0 < x then K rc rs (ax_tg pc off) L S h else K rc rs (pc + 3) L S h
    | .le, .int x :: S => if x ≤ 0 then K rc rs (ax_tg pc off) L S h else K rc rs (pc + 3) L S h
    | _, _ => False)
  | .if_icmp c off => n = 3 ∧ 0 ≤ (pc : Int) + off ∧ (match c, S with
    | .eq, .int y :: .int x :: S => if x = y then K rc rs (ax_tg pc off) L S h else K rc rs (pc + 3) L S h
    | .ne, .int y :: .int x :: S => if x = y then K rc rs (pc + 3) L S h else K rc rs (ax_tg pc off) L S h
    | .lt, .int y :: .int x :: S => if x < y then K rc rs (ax_tg pc off) L S h else K rc rs (pc + 3) L S h
    | .ge, .int y :: .int x :: S => if y ≤ x then K rc rs (ax_tg pc off) L S h else K rc rs (pc + 3) L S h
    | .gt, .int y :: .int x :: S => if y < x then K rc rs (ax_tg pc off) L S h else K rc rs (pc + 3) L S h
    | .le, .int y :: .int x :: S => if x ≤ y then K rc rs (ax_tg pc off) L S h else K rc rs (pc + 3) L S h
    | _, _ => False)
  | .if_acmp c off => n = 3 ∧ 0 ≤ (pc : Int) + off ∧ (match c, S with
    | .eq, v :: u :: S => ax_oR h u ∧ ax_oR h v ∧ if ax_rf u = ax_rf v then K rc rs (ax_tg pc off) L S h else K rc rs (pc + 3) L S h
    | .ne, v :: u :: S => ax_oR h u ∧ ax_oR h v ∧ if ax_rf u = ax_rf v then K rc rs (pc + 3) L S h else K rc rs (ax_tg pc off) L S h
    | _, _ => False)
  | .ifnull off => n = 3 ∧ 0 ≤ (pc : Int) + off ∧ (match S with | v :: S => ax_isR v = true ∧ (if ax_rf v = none then K rc rs (ax_tg pc off) L S h else K rc rs (pc + 3) L S h) | _ => False)
  | .ifnonnull off => n = 3 ∧ 0 ≤ (pc : Int) + off ∧ (match S with | v :: S => ax_isR v = true ∧ (if ax_rf v = none then K rc rs (pc + 3) L S h else K rc rs (ax_tg pc off) L S h) | _ => False)
  | .tableswitch dflt lo hi offs => (match S with | .int x :: S => (offs.toList.length : Int) = hi - lo + 1 ∧ (if x.toInt < lo ∨ hi < x.toInt then ax_go K rc rs pc L S h dflt else ax_sw2 (ax_go K rc rs pc L S h) x.toInt lo offs.toList) | _ => False)
  | .lookupswitch dflt ps => (match S with | .int x :: S => (ps.toList.zip (ps.toList.drop 1)).all (fun (a, next) => a.1 < next.1) = true ∧ ax_lsw2 (ax_go K rc rs pc L S h) x.toInt dflt ps.toList | _ => False)
  | i => ax_ins G o nL ini ret d Q K rc rs pc L S h n i) := rfl
