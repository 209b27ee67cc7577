/-! the steps as a proposition, and its soundness -/
abbrev AK : Type := Nat → Nat → Nat → AL → List Value → AH → Prop
def ax_tg (pc : Nat) (off : Int) : Nat := ((pc : Int) + off).toNat
/-- go on with an answer, once it is known -/
def ax_kc (K : AK) (rc rs pc : Nat) (L : AL) (v : Option Value) (S : List Value) (h : AH) : Prop := K rc rs pc L (v.toList ++ S) h
theorem ax_kc_s (K : AK) (rc rs pc : Nat) (L : AL) (v : Value) (S : List Value) (h : AH) : ax_kc K rc rs pc L (some v) S h = K rc rs pc L (v :: S) h := rfl
theorem ax_kc_n (K : AK) (rc rs pc : Nat) (L : AL) (S : List Value) (h : AH) : ax_kc K rc rs pc L none S h = K rc rs pc L S h := rfl
/-- a call: by a contract -/
def ax_cal (G : AG) (d j rc rs pc : Nat) (L : AL) (S : List Value) (As : List Value) (h : AH) (K : AK) : Prop :=
  ∃ (d' mc' ms' : Nat) (Qj : Option Value → AH → Prop), (d' + 1 ≤ d ∧ mc' ≤ rc ∧ ms' ≤ rs) ∧ AC G j d' mc' ms' As h Qj ∧ ∀ v h', Qj v h' → ax_mono h h' → ax_kc K (rc - mc') (rs - ms') pc L v S h'
theorem ax_do {G : AG} {d j rc rs pc : Nat} {L : AL} {S : List Value} {As : List Value} {h : AH} {K : AK} {d' mc' ms' : Nat} {Qj : Option Value → AH → Prop} (hM : AC G j d' mc' ms' As h Qj) (hn : d' + 1 ≤ d ∧ mc' ≤ rc ∧ ms' ≤ rs) (k : ∀ v h', Qj v h' → ax_mono h h' → ax_kc K (rc - mc') (rs - ms') pc L v S h') : ax_cal G d j rc rs pc L S As h K := ⟨d', mc', ms', Qj, hn, hM, k⟩
def ax_sw (off : Int → Prop) (x : Int) : Int → List Int → Prop
  | _, [] => True
  | k, o :: r => (x = k → off o) ∧ ax_sw off x (k + 1) r
def ax_lsw (off : Int → Prop) (x : Int) (dflt : Int) : List (Int × Int) → Prop
  | [] => off dflt
  | (a, o) :: r => (x = a → off o) ∧ (¬ x = a → ax_lsw off x dflt r)
theorem ax_sw_at {off : Int → Prop} {x : Int} : ∀ {l : List Int} {k : Int}, ax_sw off x k l → k ≤ x → ∀ {o : Int}, l[(x - k).toNat]? = some o → off o
  | [], k, _, _, o, h => by simp at h
  | y :: r, k, hs, hk, o, h => by
    by_cases hx : x = k
    · subst hx
      rw [Int.sub_self] at h
      have e : y = o := by simpa using h
      rw [← e]
      exact hs.1 rfl
    · have e1 : (x - k).toNat = (x - (k + 1)).toNat + 1 := by omega
      rw [e1, List.getElem?_cons_succ] at h
      exact ax_sw_at hs.2 (by omega) h
theorem ax_lsw_at {off : Int → Prop} {x dflt : Int} : ∀ {l : List (Int × Int)}, ax_lsw off x dflt l → off (Op.lookupswitch.offset l dflt x)
  | [], h => by
    have e : Op.lookupswitch.offset [] dflt x = dflt := rfl
    rw [e]
    exact h
  | (a, o) :: r, h => by
    rw [Op.lookupswitch.offset_cons]
    by_cases hx : x = a
    · rw [if_pos hx.symm]
      exact h.1 hx
    · rw [if_neg (fun q => hx q.symm)]
      exact ax_lsw_at (h.2 hx)
/-- a jump: there is a place to go to -/
def ax_go (K : AK) (rc rs pc : Nat) (L : AL) (S : List Value) (h : AH) (off : Int) : Prop := 0 ≤ (pc : Int) + off ∧ K rc rs (ax_tg pc off) L S h
def ax_oR (h : AH) (v : Value) : Prop := ax_isR v = true ∧ ∀ a, ax_rf v = some a → ∃ n, h.1 a = some (0, n)
def ax_ins (G : AG) (o nL : Nat) (ini : Bool) (ret : Option FieldType) (d : Nat) (Q : Option Value → AH → Prop) (K : AK) (rc rs pc : Nat) (L : AL) (S : List Value) (h : AH) (n : Nat) : Instr → Prop
  | .iconst v => n = 1 ∧ K rc rs (pc + 1) L (.int (Int32.ofInt v) :: S) h
  | .bipush v => n = 2 ∧ K rc rs (pc + 2) L (.int (Int8.ofInt v).toInt32 :: S) h
  | .sipush v => n = 3 ∧ K rc rs (pc + 3) L (.int (Int16.ofInt v).toInt32 :: S) h
  | .lconst v => n = 1 ∧ K rc rs (pc + 1) L (.long (Int64.ofNat (v : Nat)) :: S) h
  | .aconst_null => n = 1 ∧ K rc rs (pc + 1) L (.null :: S) h
  | .iload_n i => n = 1 ∧ (match ax_lk L i with | some (.int x) => K rc rs (pc + 1) L (.int x :: S) h | _ => False)
  | .iload i => n = 2 ∧ (match ax_lk L i with | some (.int x) => K rc rs (pc + 2) L (.int x :: S) h | _ => False)
  | .lload_n i => n = 1 ∧ (match ax_lk L i with | some (.long x) => K rc rs (pc + 1) L (.long x :: S) h | _ => False)
  | .lload i => n = 2 ∧ (match ax_lk L i with | some (.long x) => K rc rs (pc + 2) L (.long x :: S) h | _ => False)
  | .aload_n i => n = 1 ∧ (match ax_lk L i with | some v => ax_isR v = true ∧ K rc rs (pc + 1) L (v :: S) h | _ => False)
  | .aload i => n = 2 ∧ (match ax_lk L i with | some v => ax_isR v = true ∧ K rc rs (pc + 2) L (v :: S) h | _ => False)
  | .istore_n i => n = 1 ∧ (i : Nat) < nL ∧ (match S with | .int x :: S => K rc rs (pc + 1) (ax_st1 i (.int x) L) S h | _ => False)
  | .istore i => n = 2 ∧ i < nL ∧ (match S with | .int x :: S => K rc rs (pc + 2) (ax_st1 i (.int x) L) S h | _ => False)
  | .lstore_n i => n = 1 ∧ (i : Nat) + 1 < nL ∧ (match S with | .long x :: S => K rc rs (pc + 1) (ax_st2 i (.long x) L) S h | _ => False)
  | .lstore i => n = 2 ∧ i + 1 < nL ∧ (match S with | .long x :: S => K rc rs (pc + 2) (ax_st2 i (.long x) L) S h | _ => False)
  | .astore_n i => n = 1 ∧ (i : Nat) < nL ∧ (match S with | v :: S => ax_isR v = true ∧ K rc rs (pc + 1) (ax_st1 i v L) S h | _ => False)
  | .astore i => n = 2 ∧ i < nL ∧ (match S with | v :: S => ax_isR v = true ∧ K rc rs (pc + 2) (ax_st1 i v L) S h | _ => False)
  | .iinc i z => n = 3 ∧ i < nL ∧ (match ax_lk L i with | some (.int x) => K rc rs (pc + 3) (ax_st1 i (.int (x + Int32.ofInt z)) L) S h | _ => False)
  | .iadd => n = 1 ∧ (match S with | .int y :: .int x :: S => K rc rs (pc + 1) L (.int (x + y) :: S) h | _ => False)
  | .isub => n = 1 ∧ (match S with | .int y :: .int x :: S => K rc rs (pc + 1) L (.int (x - y) :: S) h | _ => False)
  | .imul => n = 1 ∧ (match S with | .int y :: .int x :: S => K rc rs (pc + 1) L (.int (x * y) :: S) h | _ => False)
  | .iand => n = 1 ∧ (match S with | .int y :: .int x :: S => K rc rs (pc + 1) L (.int (x &&& y) :: S) h | _ => False)
  | .ior => n = 1 ∧ (match S with | .int y :: .int x :: S => K rc rs (pc + 1) L (.int (x ||| y) :: S) h | _ => False)
  | .ishl => n = 1 ∧ (match S with | .int y :: .int x :: S => K rc rs (pc + 1) L (.int (x <<< (y &&& 31)) :: S) h | _ => False)
  | .ishr => n = 1 ∧ (match S with | .int y :: .int x :: S => K rc rs (pc + 1) L (.int (x >>> (y &&& 31)) :: S) h | _ => False)
  | .iushr => n = 1 ∧ (match S with | .int y :: .int x :: S => K rc rs (pc + 1) L (.int ((x.toUInt32 >>> (y.toUInt32 &&& Int32.toUInt32 31)).toInt32) :: S) h | _ => False)
  | .idiv => n = 1 ∧ (match S with | .int y :: .int x :: S => ¬ y = 0 ∧ K rc rs (pc + 1) L (.int (x / y) :: S) h | _ => False)
  | .irem => n = 1 ∧ (match S with | .int y :: .int x :: S => ¬ y = 0 ∧ K rc rs (pc + 1) L (.int (x - x / y * y) :: S) h | _ => False)
  | .ineg => n = 1 ∧ (match S with | .int x :: S => K rc rs (pc + 1) L (.int (-x) :: S) h | _ => False)
  | .ladd => n = 1 ∧ (match S with | .long y :: .long x :: S => K rc rs (pc + 1) L (.long (x + y) :: S) h | _ => False)
  | .lsub => n = 1 ∧ (match S with | .long y :: .long x :: S => K rc rs (pc + 1) L (.long (x - y) :: S) h | _ => False)
  | .lmul => n = 1 ∧ (match S with | .long y :: .long x :: S => K rc rs (pc + 1) L (.long (x * y) :: S) h | _ => False)
  | .ldiv => n = 1 ∧ (match S with | .long y :: .long x :: S => ¬ y = 0 ∧ K rc rs (pc + 1) L (.long (x / y) :: S) h | _ => False)
  | .lrem => n = 1 ∧ (match S with | .long y :: .long x :: S => ¬ y = 0 ∧ K rc rs (pc + 1) L (.long (x - x / y * y) :: S) h | _ => False)
  | .lcmp => n = 1 ∧ (match S with | .long y :: .long x :: S => K rc rs (pc + 1) L (.int (lg_cmp x y) :: S) h | _ => False)
  | .i2l => n = 1 ∧ (match S with | .int x :: S => K rc rs (pc + 1) L (.long x.toInt64 :: S) h | _ => False)
  | .i2b => n = 1 ∧ (match S with | .int x :: S => K rc rs (pc + 1) L (.int x.toInt8.toInt32 :: S) h | _ => False)
  | .i2s => n = 1 ∧ (match S with | .int x :: S => K rc rs (pc + 1) L (.int x.toInt16.toInt32 :: S) h | _ => False)
  | .dup => n = 1 ∧ (match S with | u :: S => u.category = 1 ∧ K rc rs (pc + 1) L (u :: u :: S) h | _ => False)
  | .dup_x1 => n = 1 ∧ (match S with | u :: v :: S => u.category = 1 ∧ v.category = 1 ∧ K rc rs (pc + 1) L (u :: v :: u :: S) h | _ => False)
  | .dup2 => n = 1 ∧ (match S with | u :: v :: S => u.category = 1 ∧ v.category = 1 ∧ K rc rs (pc + 1) L (u :: v :: u :: v :: S) h | _ => False)
  | .pop => n = 1 ∧ (match S with | u :: S => u.category = 1 ∧ K rc rs (pc + 1) L S h | _ => False)
  | .ifCond c off => n = 3 ∧ 0 ≤ (pc : Int) + off ∧ (match c, S with
    | .eq, .int x :: S => (x = 0 → K rc rs (ax_tg pc off) L S h) ∧ (¬ x = 0 → K rc rs (pc + 3) L S h)
    | .ne, .int x :: S => (¬ x = 0 → K rc rs (ax_tg pc off) L S h) ∧ (x = 0 → K rc rs (pc + 3) L S h)
    | .lt, .int x :: S => (x < 0 → K rc rs (ax_tg pc off) L S h) ∧ (¬ x < 0 → K rc rs (pc + 3) L S h)
    | .ge, .int x :: S => (0 ≤ x → K rc rs (ax_tg pc off) L S h) ∧ (¬ 0 ≤ x → K rc rs (pc + 3) L S h)
    | .gt, .int x :: S => (0 < x → K rc rs (ax_tg pc off) L S h) ∧ (¬ 0 < x → K rc rs (pc + 3) L S h)
    | .le, .int x :: S => (x ≤ 0 → K rc rs (ax_tg pc off) L S h) ∧ (¬ x ≤ 0 → K rc rs (pc + 3) L S h)
    | _, _ => False)
  | .if_icmp c off => n = 3 ∧ 0 ≤ (pc : Int) + off ∧ (match c, S with
    | .eq, .int y :: .int x :: S => (x = y → K rc rs (ax_tg pc off) L S h) ∧ (¬ x = y → K rc rs (pc + 3) L S h)
    | .ne, .int y :: .int x :: S => (¬ x = y → K rc rs (ax_tg pc off) L S h) ∧ (x = y → K rc rs (pc + 3) L S h)
    | .lt, .int y :: .int x :: S => (x < y → K rc rs (ax_tg pc off) L S h) ∧ (¬ x < y → K rc rs (pc + 3) L S h)
    | .ge, .int y :: .int x :: S => (y ≤ x → K rc rs (ax_tg pc off) L S h) ∧ (¬ y ≤ x → K rc rs (pc + 3) L S h)
    | .gt, .int y :: .int x :: S => (y < x → K rc rs (ax_tg pc off) L S h) ∧ (¬ y < x → K rc rs (pc + 3) L S h)
    | .le, .int y :: .int x :: S => (x ≤ y → K rc rs (ax_tg pc off) L S h) ∧ (¬ x ≤ y → K rc rs (pc + 3) L S h)
    | _, _ => False)
  | .if_acmp c off => n = 3 ∧ 0 ≤ (pc : Int) + off ∧ (match c, S with
    | .eq, v :: u :: S => ax_oR h u ∧ ax_oR h v ∧ (ax_rf u = ax_rf v → K rc rs (ax_tg pc off) L S h) ∧ (¬ ax_rf u = ax_rf v → K rc rs (pc + 3) L S h)
    | .ne, v :: u :: S => ax_oR h u ∧ ax_oR h v ∧ (¬ ax_rf u = ax_rf v → K rc rs (ax_tg pc off) L S h) ∧ (ax_rf u = ax_rf v → K rc rs (pc + 3) L S h)
    | _, _ => False)
  | .ifnull off => n = 3 ∧ 0 ≤ (pc : Int) + off ∧ (match S with | v :: S => ax_isR v = true ∧ (ax_rf v = none → K rc rs (ax_tg pc off) L S h) ∧ (¬ ax_rf v = none → K rc rs (pc + 3) L S h) | _ => False)
  | .ifnonnull off => n = 3 ∧ 0 ≤ (pc : Int) + off ∧ (match S with | v :: S => ax_isR v = true ∧ (¬ ax_rf v = none → K rc rs (ax_tg pc off) L S h) ∧ (ax_rf v = none → K rc rs (pc + 3) L S h) | _ => False)
  | .goto off => n = 3 ∧ 0 ≤ (pc : Int) + off ∧ K rc rs (ax_tg pc off) L S h
  | .tableswitch dflt lo hi offs => (match S with | .int x :: S => ((x.toInt < lo ∨ hi < x.toInt) → ax_go K rc rs pc L S h dflt) ∧ (offs.toList.length : Int) = hi - lo + 1 ∧ ax_sw (ax_go K rc rs pc L S h) x.toInt lo offs.toList | _ => False)
  | .lookupswitch dflt ps => (match S with | .int x :: S => (ps.toList.zip (ps.toList.drop 1)).all (fun (a, next) => a.1 < next.1) = true ∧ ax_lsw (ax_go K rc rs pc L S h) x.toInt dflt ps.toList | _ => False)
  | .ldc i => n = 2 ∧ (match ax_ldcS o i with
    | some t => ∃ a, h.1 a = some (60, t) ∧ K rc rs (pc + 2) L (.ref a :: S) h
    | none => (match ax_ldc o i with | some x => o ≠ 99 ∧ K rc rs (pc + 2) L (.int x :: S) h | none => False))
  | .ldc_w i => n = 3 ∧ (match ax_ldc o i with | some x => o ≠ 99 ∧ K rc rs (pc + 3) L (.int x :: S) h | none => False)
  | .ldc2_w i => n = 3 ∧ (match ax_ldc2 o i with | some x => K rc rs (pc + 3) L (.long x :: S) h | none => False)
  | .getfield i => n = 3 ∧ (match ax_fld o i, S with
    | some (c, k, t, _), v :: S => ∃ a, ax_rf v = some a ∧ (∃ z, h.1 a = some (c, z)) ∧ K rc rs (pc + 3) L (ax_gv h a k t :: S) h
    | _, _ => False)
  | .putfield i => n = 3 ∧ (match ax_fld o i, S with
    | some (c, k, t, f), v :: u :: S => ∃ a, ax_rf u = some a ∧ (∃ z, h.1 a = some (c, z)) ∧ (f = true → ini = true ∧ c = o) ∧ ax_pk t v ∧ K rc rs (pc + 3) L S (ax_pv h a k t v)
    | _, _ => False)
  | .iaload => n = 1 ∧ (match S with | .int i :: v :: S => ∃ a, ax_rf v = some a ∧ ∃ c z, h.1 a = some (c, z) ∧ (c = 50 ∨ c = 49) ∧ vp_in i z ∧ K rc rs (pc + 1) L (.int (h.2.1 a i.toNatClampNeg) :: S) h | _ => False)
  | .iastore => n = 1 ∧ (match S with | .int x :: .int i :: v :: S => ∃ a, ax_rf v = some a ∧ ∃ z, h.1 a = some (50, z) ∧ vp_in i z ∧ K rc rs (pc + 1) L S (ax_setI h a i.toNatClampNeg x) | _ => False)
  | .aaload => n = 1 ∧ (match S with | .int i :: v :: S => ∃ a, ax_rf v = some a ∧ ∃ c z, h.1 a = some (c, z) ∧ (51 ≤ c ∧ c < 54) ∧ vp_in i z ∧ K rc rs (pc + 1) L (va_rf (h.2.2 a i.toNatClampNeg) :: S) h | _ => False)
  | .aastore => n = 1 ∧ (match S with | v :: .int i :: u :: S => ∃ a, ax_rf u = some a ∧ ∃ c z, h.1 a = some (c, z) ∧ (51 ≤ c ∧ c < 54) ∧ vp_in i z ∧ ax_isR v = true ∧ (∀ b, ax_rf v = some b → ∃ z, h.1 b = some (ax_ec c, z)) ∧ K rc rs (pc + 1) L S (ax_setR h a i.toNatClampNeg (ax_rf v)) | _ => False)
  | .arraylength => n = 1 ∧ (match S with | v :: S => ∃ a, ax_rf v = some a ∧ ∃ c z, h.1 a = some (c, z) ∧ (49 ≤ c ∧ c < 54) ∧ K rc rs (pc + 1) L (.int (Int32.ofNat z) :: S) h | _ => False)
  | .new i => n = 3 ∧ (match ax_cls o i with | some c => ∃ a, c < 7 ∧ h.1 a = none ∧ 1 ≤ rc ∧ ax_N c ≤ rs ∧ K (rc - 1) (rs - ax_N c) (pc + 3) L (.ref a :: S) (ax_new h a (c, 0)) | none => False)
  | .newarray t => n = 2 ∧ t = .int ∧ (match S with | .int x :: S => ∃ a z, x = Int32.ofNat z ∧ z < 10000 ∧ h.1 a = none ∧ 1 ≤ rc ∧ z ≤ rs ∧ K (rc - 1) (rs - z) (pc + 2) L (.ref a :: S) (ax_new h a (50, z)) | _ => False)
  | .anewarray i => n = 3 ∧ (match S with | .int x :: S => ∃ a z c, (51 ≤ c ∧ c < 54) ∧ ax_cls o i = some (ax_ec c) ∧ x = Int32.ofNat z ∧ z < 10000 ∧ h.1 a = none ∧ 1 ≤ rc ∧ z ≤ rs ∧ K (rc - 1) (rs - z) (pc + 3) L (.ref a :: S) (ax_new h a (c, z)) | _ => False)
  | .invokestatic i => n = 3 ∧ (match ax_call o i with
    | some (j, 0, na, _) => na ≤ S.length ∧ ((S.drop na).map fun v => v.category).sum ≤ 8 ∧ ax_cal G d j rc rs (pc + 3) L (S.drop na) (S.take na).reverse h K
    | some (j, 6, na, _) => na ≤ S.length ∧ ((S.drop na).map fun v => v.category).sum ≤ 8 ∧ ax_cal G d j rc rs (pc + 3) L (S.drop na) (S.take na).reverse h K
    | some (_, 7, _, _) => (match S with | .int y :: .int x :: S => (S.map fun v => v.category).sum ≤ 8 ∧ 1 ≤ d ∧ K rc rs (pc + 3) L (.int (if x < y then y else x) :: S) h | _ => False)
    | some (_, 8, _, _) => (match S with | .int y :: .int x :: S => (S.map fun v => v.category).sum ≤ 8 ∧ 1 ≤ d ∧ K rc rs (pc + 3) L (.int (if y < x then y else x) :: S) h | _ => False)
    | some (_, 5, _, _) => (match S with | .int z :: .int dp :: v :: .int sp :: u :: S => ∃ a b n0 n1, ax_rf u = some a ∧ ax_rf v = some b ∧ h.1 a = some (50, n0) ∧ h.1 b = some (50, n1) ∧ ¬ sp < 0 ∧ ¬ dp < 0 ∧ ¬ z < 0 ∧ sp.toNatClampNeg + z.toNatClampNeg ≤ n0 ∧ dp.toNatClampNeg + z.toNatClampNeg ≤ n1 ∧ (S.map fun v => v.category).sum ≤ 8 ∧ 1 ≤ d ∧ K rc rs (pc + 3) L S (ax_setA h b (va_cpy (h.2.1 a) (h.2.1 b) sp.toNatClampNeg dp.toNatClampNeg z.toNatClampNeg)) | _ => False)
    | _ => False)
  | .invokevirtual i => n = 3 ∧ (match ax_call o i with
    | some (j, 1, na, c) => (match S.drop (na - 1) with
      | v :: S' => 1 ≤ na ∧ na ≤ S.length ∧ (c < 7 ∨ c = 11) ∧ (S'.map fun v => v.category).sum ≤ 8 ∧ ∃ b, ax_rf v = some b ∧ (∃ z, h.1 b = some (if c = 11 then 60 else c, z)) ∧ ax_cal G d j rc rs (pc + 3) L S' (.ref b :: (S.take (na - 1)).reverse) h K
      | _ => False)
    | _ => False)
  | .invokespecial i => n = 3 ∧ (match ax_call o i with
    | some (j, 2, na, _) => (match S.drop (na - 1) with
      | v :: S' => 1 ≤ na ∧ na ≤ S.length ∧ (S'.map fun v => v.category).sum ≤ 8 ∧ ∃ b, ax_rf v = some b ∧ ax_cal G d j rc rs (pc + 3) L S' (.ref b :: (S.take (na - 1)).reverse) h K
      | _ => False)
    | some (j, 3, na, _) => (match S.drop (na - 1) with
      | v :: S' => 1 ≤ na ∧ na ≤ S.length ∧ (S'.map fun v => v.category).sum ≤ 8 ∧ ∃ b, ax_rf v = some b ∧ ax_cal G d j rc rs (pc + 3) L S' (.ref b :: (S.take (na - 1)).reverse) h K
      | _ => False)
    | some (_, 4, _, _) => (match S with | v :: S' => (S'.map fun v => v.category).sum ≤ 8 ∧ 1 ≤ d ∧ ∃ b, ax_rf v = some b ∧ K rc rs (pc + 3) L S' h | _ => False)
    | _ => False)
  | .return_ => n = 1 ∧ (match S with | [] => ret = none ∧ Q none h | _ => False)
  | .ireturn => n = 1 ∧ (match S with | [.int x] => ax_rok ret (some (.int x)) ∧ Q (some (.int x)) h | _ => False)
  | .lreturn => n = 1 ∧ (match S with | [.long x] => ret = some .long ∧ Q (some (.long x)) h | _ => False)
  | .areturn => n = 1 ∧ (match S with | [v] => ax_isR v = true ∧ ((∃ n, ret = some (.object n)) ∨ ∃ t, ret = some (.array t)) ∧ Q (some v) h | _ => False)
  | _ => False
def ax_step (G : AG) (o nL : Nat) (ini : Bool) (cc : ByteArray) (ret : Option FieldType) (d : Nat) (Q : Option Value → AH → Prop) (K : AK) (rc rs pc : Nat) (L : AL) (S : List Value) (h : AH) : Prop :=
  match decode cc pc with
  | .ok (ins, n) => ax_ins G o nL ini ret d Q K rc rs pc L S h n ins
  | .error _ => False
section AXS
variable {G : AG} {o nL : Nat} {ini : Bool} {cc : ByteArray} {ret : Option FieldType} {d : Nat} {Q : Option Value → AH → Prop} {rc rs pc : Nat} {L : AL} {S : List Value} {h : AH} {K : AK}
theorem ax_tg_ok {pc : Nat} {off : Int} (h0 : 0 ≤ (pc : Int) + off) : (pc : Int) + off = (ax_tg pc off : Int) := (Int.toNat_of_nonneg h0).symm
theorem ax_oR_own {v : Value} (hv : ax_oR h v) : ∀ a, ax_rf v = some a → ∃ c n, h.1 a = some (c, n) ∧ ax_own c = true := fun a q => by
  obtain ⟨n, hn⟩ := hv.2 a q
  exact ⟨0, n, hn, rfl⟩
theorem ax_take {na : Nat} {S : List Value} (h : na ≤ S.length) : (S.take na).reverse.reverse ++ S.drop na = S := by rw [List.reverse_reverse, List.take_append_drop]
theorem ax_take_len {na : Nat} {S : List Value} (h : na ≤ S.length) : (S.take na).reverse.length = na := by rw [List.length_reverse, List.length_take]; omega
theorem ax_takeV {na : Nat} {S S' : List Value} {v : Value} (h0 : 1 ≤ na) (h : S.drop (na - 1) = v :: S') : (S.take (na - 1)).reverse.reverse ++ v :: S' = S := by rw [List.reverse_reverse, ← h, List.take_append_drop]
theorem ax_takeV_len {na : Nat} {S : List Value} (h0 : 1 ≤ na) (h : na ≤ S.length) : (S.take (na - 1)).reverse.length + 1 = na := by rw [List.length_reverse, List.length_take]; omega
set_option maxHeartbeats 4000000 in
theorem ax_step_ok (hK : ∀ rc rs pc L S h, K rc rs pc L S h → AW G o nL ini cc ret d Q rc rs pc L S h) (hs : ax_step G o nL ini cc ret d Q K rc rs pc L S h) : AW G o nL ini cc ret d Q rc rs pc L S h := by
  unfold ax_step at hs
  cases hd : decode cc pc with
  | error e => rw [hd] at hs; exact hs.elim
  | ok r =>
    obtain ⟨ins, n⟩ := r
    rw [hd] at hs
    dsimp only at hs
    cases ins with
    | iconst v =>
      obtain ⟨rfl, k⟩ := hs
      exact ax_r_iconst hd (hK _ _ _ _ _ _ k)
    | bipush v =>
      obtain ⟨rfl, k⟩ := hs
      exact ax_r_bipush hd (hK _ _ _ _ _ _ k)
    | sipush v =>
      obtain ⟨rfl, k⟩ := hs
      exact ax_r_sipush hd (hK _ _ _ _ _ _ k)
    | lconst v =>
      obtain ⟨rfl, k⟩ := hs
      exact ax_r_lconst hd (hK _ _ _ _ _ _ k)
    | aconst_null =>
      obtain ⟨rfl, k⟩ := hs
      exact ax_r_null hd (hK _ _ _ _ _ _ k)
    | iload_n i =>
      obtain ⟨rfl, k⟩ := hs
      cases hl : ax_lk L i with
      | none => rw [hl] at k; exact k.elim
      | some v =>
        rw [hl] at k
        cases v with
        | int x => exact ax_r_iload_n hd hl (hK _ _ _ _ _ _ k)
        | _ => exact k.elim
    | iload i =>
      obtain ⟨rfl, k⟩ := hs
      cases hl : ax_lk L i with
      | none => rw [hl] at k; exact k.elim
      | some v =>
        rw [hl] at k
        cases v with
        | int x => exact ax_r_iload hd hl (hK _ _ _ _ _ _ k)
        | _ => exact k.elim
    | lload_n i =>
      obtain ⟨rfl, k⟩ := hs
      cases hl : ax_lk L i with
      | none => rw [hl] at k; exact k.elim
      | some v =>
        rw [hl] at k
        cases v with
        | long x => exact ax_r_lload_n hd hl (hK _ _ _ _ _ _ k)
        | _ => exact k.elim
    | lload i =>
      obtain ⟨rfl, k⟩ := hs
      cases hl : ax_lk L i with
      | none => rw [hl] at k; exact k.elim
      | some v =>
        rw [hl] at k
        cases v with
        | long x => exact ax_r_lload hd hl (hK _ _ _ _ _ _ k)
        | _ => exact k.elim
    | aload_n i =>
      obtain ⟨rfl, k⟩ := hs
      cases hl : ax_lk L i with
      | none => rw [hl] at k; exact k.elim
      | some v =>
        rw [hl] at k
        exact ax_r_aload_n hd hl k.1 (hK _ _ _ _ _ _ k.2)
    | aload i =>
      obtain ⟨rfl, k⟩ := hs
      cases hl : ax_lk L i with
      | none => rw [hl] at k; exact k.elim
      | some v =>
        rw [hl] at k
        exact ax_r_aload hd hl k.1 (hK _ _ _ _ _ _ k.2)
    | istore_n i =>
      obtain ⟨rfl, hn, k⟩ := hs
      cases S with
      | nil => exact k.elim
      | cons v0 S0 =>
        cases v0 with
        | int x0 =>
          exact ax_r_istore_n hd hn (hK _ _ _ _ _ _ k)
        | _ => exact k.elim
    | istore i =>
      obtain ⟨rfl, hn, k⟩ := hs
      cases S with
      | nil => exact k.elim
      | cons v0 S0 =>
        cases v0 with
        | int x0 =>
          exact ax_r_istore hd hn (hK _ _ _ _ _ _ k)
        | _ => exact k.elim
    | lstore_n i =>
      obtain ⟨rfl, hn, k⟩ := hs
      cases S with
      | nil => exact k.elim
      | cons v0 S0 =>
        cases v0 with
        | long x0 =>
          exact ax_r_lstore_n hd hn (hK _ _ _ _ _ _ k)
        | _ => exact k.elim
    | lstore i =>
      obtain ⟨rfl, hn, k⟩ := hs
      cases S with
      | nil => exact k.elim
      | cons v0 S0 =>
        cases v0 with
        | long x0 =>
          exact ax_r_lstore hd hn (hK _ _ _ _ _ _ k)
        | _ => exact k.elim
    | astore_n i =>
      obtain ⟨rfl, hn, k⟩ := hs
      cases S with
      | nil => exact k.elim
      | cons v0 S0 =>
        exact ax_r_astore_n hd hn k.1 (hK _ _ _ _ _ _ k.2)
    | astore i =>
      obtain ⟨rfl, hn, k⟩ := hs
      cases S with
      | nil => exact k.elim
      | cons v0 S0 =>
        exact ax_r_astore hd hn k.1 (hK _ _ _ _ _ _ k.2)
    | iinc i z =>
      obtain ⟨rfl, hn, k⟩ := hs
      cases hl : ax_lk L i with
      | none => rw [hl] at k; exact k.elim
      | some v =>
        rw [hl] at k
        cases v with
        | int x => exact ax_r_iinc hd hn hl (hK _ _ _ _ _ _ k)
        | _ => exact k.elim
    | iadd =>
      obtain ⟨rfl, k⟩ := hs
      cases S with
      | nil => exact k.elim
      | cons v0 S0 =>
        cases v0 with
        | int x0 =>
          cases S0 with
          | nil => exact k.elim
          | cons v1 S1 =>
            cases v1 with
            | int x1 =>
              exact ax_r_iadd hd (hK _ _ _ _ _ _ k)
            | _ => exact k.elim
        | _ => exact k.elim
    | isub =>
      obtain ⟨rfl, k⟩ := hs
      cases S with
      | nil => exact k.elim
      | cons v0 S0 =>
        cases v0 with
        | int x0 =>
          cases S0 with
          | nil => exact k.elim
          | cons v1 S1 =>
            cases v1 with
            | int x1 =>
              exact ax_r_isub hd (hK _ _ _ _ _ _ k)
            | _ => exact k.elim
        | _ => exact k.elim
    | imul =>
      obtain ⟨rfl, k⟩ := hs
      cases S with
      | nil => exact k.elim
      | cons v0 S0 =>
        cases v0 with
        | int x0 =>
          cases S0 with
          | nil => exact k.elim
          | cons v1 S1 =>
            cases v1 with
            | int x1 =>
              exact ax_r_imul hd (hK _ _ _ _ _ _ k)
            | _ => exact k.elim
        | _ => exact k.elim
    | iand =>
      obtain ⟨rfl, k⟩ := hs
      cases S with
      | nil => exact k.elim
      | cons v0 S0 =>
        cases v0 with
        | int x0 =>
          cases S0 with
          | nil => exact k.elim
          | cons v1 S1 =>
            cases v1 with
            | int x1 =>
              exact ax_r_iand hd (hK _ _ _ _ _ _ k)
            | _ => exact k.elim
        | _ => exact k.elim
    | ior =>
      obtain ⟨rfl, k⟩ := hs
      cases S with
      | nil => exact k.elim
      | cons v0 S0 =>
        cases v0 with
        | int x0 =>
          cases S0 with
          | nil => exact k.elim
          | cons v1 S1 =>
            cases v1 with
            | int x1 =>
              exact ax_r_ior hd (hK _ _ _ _ _ _ k)
            | _ => exact k.elim
        | _ => exact k.elim
    | ishl =>
      obtain ⟨rfl, k⟩ := hs
      cases S with
      | nil => exact k.elim
      | cons v0 S0 =>
        cases v0 with
        | int x0 =>
          cases S0 with
          | nil => exact k.elim
          | cons v1 S1 =>
            cases v1 with
            | int x1 =>
              exact ax_r_ishl hd (hK _ _ _ _ _ _ k)
            | _ => exact k.elim
        | _ => exact k.elim
    | ishr =>
      obtain ⟨rfl, k⟩ := hs
      cases S with
      | nil => exact k.elim
      | cons v0 S0 =>
        cases v0 with
        | int x0 =>
          cases S0 with
          | nil => exact k.elim
          | cons v1 S1 =>
            cases v1 with
            | int x1 =>
              exact ax_r_ishr hd (hK _ _ _ _ _ _ k)
            | _ => exact k.elim
        | _ => exact k.elim
    | iushr =>
      obtain ⟨rfl, k⟩ := hs
      cases S with
      | nil => exact k.elim
      | cons v0 S0 =>
        cases v0 with
        | int x0 =>
          cases S0 with
          | nil => exact k.elim
          | cons v1 S1 =>
            cases v1 with
            | int x1 =>
              exact ax_r_iushr hd (hK _ _ _ _ _ _ k)
            | _ => exact k.elim
        | _ => exact k.elim
    | idiv =>
      obtain ⟨rfl, k⟩ := hs
      cases S with
      | nil => exact k.elim
      | cons v0 S0 =>
        cases v0 with
        | int x0 =>
          cases S0 with
          | nil => exact k.elim
          | cons v1 S1 =>
            cases v1 with
            | int x1 =>
              exact ax_r_idiv hd k.1 (hK _ _ _ _ _ _ k.2)
            | _ => exact k.elim
        | _ => exact k.elim
    | irem =>
      obtain ⟨rfl, k⟩ := hs
      cases S with
      | nil => exact k.elim
      | cons v0 S0 =>
        cases v0 with
        | int x0 =>
          cases S0 with
          | nil => exact k.elim
          | cons v1 S1 =>
            cases v1 with
            | int x1 =>
              exact ax_r_irem hd k.1 (hK _ _ _ _ _ _ k.2)
            | _ => exact k.elim
        | _ => exact k.elim
    | ineg =>
      obtain ⟨rfl, k⟩ := hs
      cases S with
      | nil => exact k.elim
      | cons v0 S0 =>
        cases v0 with
        | int x0 =>
          exact ax_r_ineg hd (hK _ _ _ _ _ _ k)
        | _ => exact k.elim
    | ladd =>
      obtain ⟨rfl, k⟩ := hs
      cases S with
      | nil => exact k.elim
      | cons v0 S0 =>
        cases v0 with
        | long x0 =>
          cases S0 with
          | nil => exact k.elim
          | cons v1 S1 =>
            cases v1 with
            | long x1 =>
              exact ax_r_ladd hd (hK _ _ _ _ _ _ k)
            | _ => exact k.elim
        | _ => exact k.elim
    | lsub =>
      obtain ⟨rfl, k⟩ := hs
      cases S with
      | nil => exact k.elim
      | cons v0 S0 =>
        cases v0 with
        | long x0 =>
          cases S0 with
          | nil => exact k.elim
          | cons v1 S1 =>
            cases v1 with
            | long x1 =>
              exact ax_r_lsub hd (hK _ _ _ _ _ _ k)
            | _ => exact k.elim
        | _ => exact k.elim
    | lmul =>
      obtain ⟨rfl, k⟩ := hs
      cases S with
      | nil => exact k.elim
      | cons v0 S0 =>
        cases v0 with
        | long x0 =>
          cases S0 with
          | nil => exact k.elim
          | cons v1 S1 =>
            cases v1 with
            | long x1 =>
              exact ax_r_lmul hd (hK _ _ _ _ _ _ k)
            | _ => exact k.elim
        | _ => exact k.elim
    | ldiv =>
      obtain ⟨rfl, k⟩ := hs
      cases S with
      | nil => exact k.elim
      | cons v0 S0 =>
        cases v0 with
        | long x0 =>
          cases S0 with
          | nil => exact k.elim
          | cons v1 S1 =>
            cases v1 with
            | long x1 =>
              exact ax_r_ldiv hd k.1 (hK _ _ _ _ _ _ k.2)
            | _ => exact k.elim
        | _ => exact k.elim
    | lrem =>
      obtain ⟨rfl, k⟩ := hs
      cases S with
      | nil => exact k.elim
      | cons v0 S0 =>
        cases v0 with
        | long x0 =>
          cases S0 with
          | nil => exact k.elim
          | cons v1 S1 =>
            cases v1 with
            | long x1 =>
              exact ax_r_lrem hd k.1 (hK _ _ _ _ _ _ k.2)
            | _ => exact k.elim
        | _ => exact k.elim
    | lcmp =>
      obtain ⟨rfl, k⟩ := hs
      cases S with
      | nil => exact k.elim
      | cons v0 S0 =>
        cases v0 with
        | long x0 =>
          cases S0 with
          | nil => exact k.elim
          | cons v1 S1 =>
            cases v1 with
            | long x1 =>
              exact ax_r_lcmp hd (hK _ _ _ _ _ _ k)
            | _ => exact k.elim
        | _ => exact k.elim
    | i2l =>
      obtain ⟨rfl, k⟩ := hs
      cases S with
      | nil => exact k.elim
      | cons v0 S0 =>
        cases v0 with
        | int x0 =>
          exact ax_r_i2l hd (hK _ _ _ _ _ _ k)
        | _ => exact k.elim
    | i2b =>
      obtain ⟨rfl, k⟩ := hs
      cases S with
      | nil => exact k.elim
      | cons v0 S0 =>
        cases v0 with
        | int x0 =>
          exact ax_r_i2b hd (hK _ _ _ _ _ _ k)
        | _ => exact k.elim
    | i2s =>
      obtain ⟨rfl, k⟩ := hs
      cases S with
      | nil => exact k.elim
      | cons v0 S0 =>
        cases v0 with
        | int x0 =>
          exact ax_r_i2s hd (hK _ _ _ _ _ _ k)
        | _ => exact k.elim
    | dup =>
      obtain ⟨rfl, k⟩ := hs
      cases S with
      | nil => exact k.elim
      | cons v0 S0 =>
        exact ax_r_dup hd k.1 (hK _ _ _ _ _ _ k.2)
    | pop =>
      obtain ⟨rfl, k⟩ := hs
      cases S with
      | nil => exact k.elim
      | cons v0 S0 =>
        exact ax_r_pop hd k.1 (hK _ _ _ _ _ _ k.2)
    | dup_x1 =>
      obtain ⟨rfl, k⟩ := hs
      cases S with
      | nil => exact k.elim
      | cons v0 S0 =>
        cases S0 with
        | nil => exact k.elim
        | cons v1 S1 =>
          exact ax_r_dup_x1 hd k.1 k.2.1 (hK _ _ _ _ _ _ k.2.2)
    | dup2 =>
      obtain ⟨rfl, k⟩ := hs
      cases S with
      | nil => exact k.elim
      | cons v0 S0 =>
        cases S0 with
        | nil => exact k.elim
        | cons v1 S1 =>
          exact ax_r_dup2 hd k.1 k.2.1 (hK _ _ _ _ _ _ k.2.2)
    | ifCond c off =>
      obtain ⟨rfl, h0, k⟩ := hs
      cases c with
      | eq =>
        cases S with
        | nil => exact k.elim
        | cons v0 S0 =>
          cases v0 with
          | int x0 =>
            exact ax_r_if_eq hd (ax_tg_ok h0) (fun q => hK _ _ _ _ _ _ (k.1 q)) (fun q => hK _ _ _ _ _ _ (k.2 q))
          | _ => exact k.elim
      | ne =>
        cases S with
        | nil => exact k.elim
        | cons v0 S0 =>
          cases v0 with
          | int x0 =>
            exact ax_r_if_ne hd (ax_tg_ok h0) (fun q => hK _ _ _ _ _ _ (k.1 q)) (fun q => hK _ _ _ _ _ _ (k.2 q))
          | _ => exact k.elim
      | lt =>
        cases S with
        | nil => exact k.elim
        | cons v0 S0 =>
          cases v0 with
          | int x0 =>
            exact ax_r_if_lt hd (ax_tg_ok h0) (fun q => hK _ _ _ _ _ _ (k.1 q)) (fun q => hK _ _ _ _ _ _ (k.2 q))
          | _ => exact k.elim
      | ge =>
        cases S with
        | nil => exact k.elim
        | cons v0 S0 =>
          cases v0 with
          | int x0 =>
            exact ax_r_if_ge hd (ax_tg_ok h0) (fun q => hK _ _ _ _ _ _ (k.1 q)) (fun q => hK _ _ _ _ _ _ (k.2 q))
          | _ => exact k.elim
      | gt =>
        cases S with
        | nil => exact k.elim
        | cons v0 S0 =>
          cases v0 with
          | int x0 =>
            exact ax_r_if_gt hd (ax_tg_ok h0) (fun q => hK _ _ _ _ _ _ (k.1 q)) (fun q => hK _ _ _ _ _ _ (k.2 q))
          | _ => exact k.elim
      | le =>
        cases S with
        | nil => exact k.elim
        | cons v0 S0 =>
          cases v0 with
          | int x0 =>
            exact ax_r_if_le hd (ax_tg_ok h0) (fun q => hK _ _ _ _ _ _ (k.1 q)) (fun q => hK _ _ _ _ _ _ (k.2 q))
          | _ => exact k.elim
    | if_icmp c off =>
      obtain ⟨rfl, h0, k⟩ := hs
      cases c with
      | eq =>
        cases S with
        | nil => exact k.elim
        | cons v0 S0 =>
          cases v0 with
          | int x0 =>
            cases S0 with
            | nil => exact k.elim
            | cons v1 S1 =>
              cases v1 with
              | int x1 =>
                exact ax_r_icmp_eq hd (ax_tg_ok h0) (fun q => hK _ _ _ _ _ _ (k.1 q)) (fun q => hK _ _ _ _ _ _ (k.2 q))
              | _ => exact k.elim
          | _ => exact k.elim
      | ne =>
        cases S with
        | nil => exact k.elim
        | cons v0 S0 =>
          cases v0 with
          | int x0 =>
            cases S0 with
            | nil => exact k.elim
            | cons v1 S1 =>
              cases v1 with
              | int x1 =>
                exact ax_r_icmp_ne hd (ax_tg_ok h0) (fun q => hK _ _ _ _ _ _ (k.1 q)) (fun q => hK _ _ _ _ _ _ (k.2 q))
              | _ => exact k.elim
          | _ => exact k.elim
      | lt =>
        cases S with
        | nil => exact k.elim
        | cons v0 S0 =>
          cases v0 with
          | int x0 =>
            cases S0 with
            | nil => exact k.elim
            | cons v1 S1 =>
              cases v1 with
              | int x1 =>
                exact ax_r_icmp_lt hd (ax_tg_ok h0) (fun q => hK _ _ _ _ _ _ (k.1 q)) (fun q => hK _ _ _ _ _ _ (k.2 q))
              | _ => exact k.elim
          | _ => exact k.elim
      | ge =>
        cases S with
        | nil => exact k.elim
        | cons v0 S0 =>
          cases v0 with
          | int x0 =>
            cases S0 with
            | nil => exact k.elim
            | cons v1 S1 =>
              cases v1 with
              | int x1 =>
                exact ax_r_icmp_ge hd (ax_tg_ok h0) (fun q => hK _ _ _ _ _ _ (k.1 q)) (fun q => hK _ _ _ _ _ _ (k.2 q))
              | _ => exact k.elim
          | _ => exact k.elim
      | gt =>
        cases S with
        | nil => exact k.elim
        | cons v0 S0 =>
          cases v0 with
          | int x0 =>
            cases S0 with
            | nil => exact k.elim
            | cons v1 S1 =>
              cases v1 with
              | int x1 =>
                exact ax_r_icmp_gt hd (ax_tg_ok h0) (fun q => hK _ _ _ _ _ _ (k.1 q)) (fun q => hK _ _ _ _ _ _ (k.2 q))
              | _ => exact k.elim
          | _ => exact k.elim
      | le =>
        cases S with
        | nil => exact k.elim
        | cons v0 S0 =>
          cases v0 with
          | int x0 =>
            cases S0 with
            | nil => exact k.elim
            | cons v1 S1 =>
              cases v1 with
              | int x1 =>
                exact ax_r_icmp_le hd (ax_tg_ok h0) (fun q => hK _ _ _ _ _ _ (k.1 q)) (fun q => hK _ _ _ _ _ _ (k.2 q))
              | _ => exact k.elim
          | _ => exact k.elim
    | if_acmp c off =>
      obtain ⟨rfl, h0, k⟩ := hs
      cases c with
      | eq =>
        cases S with
        | nil => exact k.elim
        | cons v0 S0 =>
          cases S0 with
          | nil => exact k.elim
          | cons v1 S1 =>
            exact ax_r_acmp_eq hd (ax_tg_ok h0) k.1.1 k.2.1.1 (ax_oR_own k.1) (ax_oR_own k.2.1) (fun q => hK _ _ _ _ _ _ (k.2.2.1 q)) (fun q => hK _ _ _ _ _ _ (k.2.2.2 q))
      | ne =>
        cases S with
        | nil => exact k.elim
        | cons v0 S0 =>
          cases S0 with
          | nil => exact k.elim
          | cons v1 S1 =>
            exact ax_r_acmp_ne hd (ax_tg_ok h0) k.1.1 k.2.1.1 (ax_oR_own k.1) (ax_oR_own k.2.1) (fun q => hK _ _ _ _ _ _ (k.2.2.1 q)) (fun q => hK _ _ _ _ _ _ (k.2.2.2 q))
    | ifnull off =>
      obtain ⟨rfl, h0, k⟩ := hs
      cases S with
      | nil => exact k.elim
      | cons v0 S0 =>
        exact ax_r_ifnull hd (ax_tg_ok h0) k.1 (fun q => hK _ _ _ _ _ _ (k.2.1 q)) (fun q => hK _ _ _ _ _ _ (k.2.2 q))
    | ifnonnull off =>
      obtain ⟨rfl, h0, k⟩ := hs
      cases S with
      | nil => exact k.elim
      | cons v0 S0 =>
        exact ax_r_ifnonnull hd (ax_tg_ok h0) k.1 (fun q => hK _ _ _ _ _ _ (k.2.1 q)) (fun q => hK _ _ _ _ _ _ (k.2.2 q))
    | goto off =>
      obtain ⟨rfl, h0, k⟩ := hs
      exact ax_r_goto hd (ax_tg_ok h0) (hK _ _ _ _ _ _ k)
    | tableswitch dflt lo hi offs =>
      have k := hs
      cases S with
      | nil => exact k.elim
      | cons v0 S0 =>
        cases v0 with
        | int x0 =>
          obtain ⟨k1, k2, k3⟩ := k
          by_cases hq : x0.toInt < lo ∨ hi < x0.toInt
          · obtain ⟨h0, k4⟩ := k1 hq
            exact ax_r_tsOut hd hq (ax_tg_ok h0) (hK _ _ _ _ _ _ k4)
          · have hlt : (x0.toInt - lo).toNat < offs.toList.length := by omega
            have ho : offs[(x0.toInt - lo).toNat]? = some (offs.toList[(x0.toInt - lo).toNat]) := by
              rw [← Array.getElem?_toList]
              exact List.getElem?_eq_getElem hlt
            obtain ⟨h0, k4⟩ := ax_sw_at k3 (by omega) (List.getElem?_eq_getElem hlt)
            exact ax_r_tsIn hd (by omega) (by omega) ho (ax_tg_ok h0) (hK _ _ _ _ _ _ k4)
        | _ => exact k.elim
    | lookupswitch dflt ps =>
      have k := hs
      cases S with
      | nil => exact k.elim
      | cons v0 S0 =>
        cases v0 with
        | int x0 =>
          obtain ⟨k1, k2⟩ := k
          obtain ⟨h0, k4⟩ := ax_lsw_at k2
          exact ax_r_lookup hd k1 rfl (ax_tg_ok h0) (hK _ _ _ _ _ _ k4)
        | _ => exact k.elim
    | ldc i =>
      obtain ⟨rfl, k⟩ := hs
      cases hS : ax_ldcS o i with
      | some t =>
        rw [hS] at k
        obtain ⟨a, k1, k2⟩ := k
        exact ax_r_ldcS a hd hS k1 (hK _ _ _ _ _ _ k2)
      | none =>
        rw [hS] at k
        try dsimp only at k
        cases hf : ax_ldc o i with
        | some x =>
          rw [hf] at k
          exact ax_r_ldc hd hf k.1 (hK _ _ _ _ _ _ k.2)
        | none => rw [hf] at k; exact k.elim
    | ldc_w i =>
      obtain ⟨rfl, k⟩ := hs
      cases hf : ax_ldc o i with
      | some x =>
        rw [hf] at k
        exact ax_r_ldcw hd hf k.1 (hK _ _ _ _ _ _ k.2)
      | none => rw [hf] at k; exact k.elim
    | ldc2_w i =>
      obtain ⟨rfl, k⟩ := hs
      cases hf : ax_ldc2 o i with
      | some x =>
        rw [hf] at k
        exact ax_r_ldc2 hd hf (hK _ _ _ _ _ _ k)
      | none => rw [hf] at k; exact k.elim
    | getfield i =>
      obtain ⟨rfl, k⟩ := hs
      cases hf : ax_fld o i with
      | none => rw [hf] at k; exact k.elim
      | some q =>
        obtain ⟨c, kk, t, f⟩ := q
        rw [hf] at k
        cases S with
        | nil => exact k.elim
        | cons v S =>
          obtain ⟨a, k1, ⟨z, k2⟩, k3⟩ := k
          exact ax_r_getfield hd hf k1 k2 (hK _ _ _ _ _ _ k3)
    | putfield i =>
      obtain ⟨rfl, k⟩ := hs
      cases hf : ax_fld o i with
      | none => rw [hf] at k; exact k.elim
      | some q =>
        obtain ⟨c, kk, t, f⟩ := q
        rw [hf] at k
        cases S with
        | nil => exact k.elim
        | cons v S =>
          cases S with
          | nil => exact k.elim
          | cons u S =>
            obtain ⟨a, k1, ⟨z, k2⟩, k3, k4, k5⟩ := k
            exact ax_r_putfield hd hf k3 k1 k2 k4 (hK _ _ _ _ _ _ k5)
    | iaload =>
      obtain ⟨rfl, k⟩ := hs
      cases S with
      | nil => exact k.elim
      | cons v0 S0 =>
        cases v0 with
        | int x0 =>
          cases S0 with
          | nil => exact k.elim
          | cons v1 S1 =>
            obtain ⟨a, k1, c, z, k2, k3, k4, k5⟩ := k
            rcases k3 with rfl | rfl
            · exact ax_r_iaload hd k1 k2 k4 (hK _ _ _ _ _ _ k5)
            · exact ax_r_ialoadS hd k1 k2 k4 (hK _ _ _ _ _ _ k5)
        | _ => exact k.elim
    | iastore =>
      obtain ⟨rfl, k⟩ := hs
      cases S with
      | nil => exact k.elim
      | cons v0 S0 =>
        cases v0 with
        | int x0 =>
          cases S0 with
          | nil => exact k.elim
          | cons v1 S1 =>
            cases v1 with
            | int x1 =>
              cases S1 with
              | nil => exact k.elim
              | cons v2 S2 =>
                obtain ⟨a, k1, z, k2, k4, k5⟩ := k
                exact ax_r_iastore hd k1 k2 k4 (hK _ _ _ _ _ _ k5)
            | _ => exact k.elim
        | _ => exact k.elim
    | aaload =>
      obtain ⟨rfl, k⟩ := hs
      cases S with
      | nil => exact k.elim
      | cons v0 S0 =>
        cases v0 with
        | int x0 =>
          cases S0 with
          | nil => exact k.elim
          | cons v1 S1 =>
            obtain ⟨a, k1, c, z, k2, k3, k4, k5⟩ := k
            exact ax_r_aaload hd k1 k2 k3.1 k3.2 k4 (hK _ _ _ _ _ _ k5)
        | _ => exact k.elim
    | aastore =>
      obtain ⟨rfl, k⟩ := hs
      cases S with
      | nil => exact k.elim
      | cons v0 S0 =>
        cases S0 with
        | nil => exact k.elim
        | cons v1 S1 =>
          cases v1 with
          | int x1 =>
            cases S1 with
            | nil => exact k.elim
            | cons v2 S2 =>
              obtain ⟨a, k1, c, z, k2, k3, k4, k5, k6, k7⟩ := k
              exact ax_r_aastore hd k1 k2 k3.1 k3.2 k4 k5 k6 (hK _ _ _ _ _ _ k7)
          | _ => exact k.elim
    | arraylength =>
      obtain ⟨rfl, k⟩ := hs
      cases S with
      | nil => exact k.elim
      | cons v0 S0 =>
        obtain ⟨a, k1, c, z, k2, k3, k5⟩ := k
        by_cases h49 : c = 49
        · subst h49
          exact ax_r_alenS hd k1 k2 (hK _ _ _ _ _ _ k5)
        · exact ax_r_alen hd k1 k2 (by omega) k3.2 (hK _ _ _ _ _ _ k5)
    | new i =>
      obtain ⟨rfl, k⟩ := hs
      cases hf : ax_cls o i with
      | none => rw [hf] at k; exact k.elim
      | some c =>
        rw [hf] at k
        obtain ⟨a, k1, k2, k3, k4, k5⟩ := k
        exact ax_r_new a hd hf k1 k2 k3 k4 (hK _ _ _ _ _ _ k5)
    | newarray t =>
      obtain ⟨rfl, rfl, k⟩ := hs
      cases S with
      | nil => exact k.elim
      | cons v0 S0 =>
        cases v0 with
        | int x0 =>
          obtain ⟨a, z, k1, k2, k3, k4, k5, k6⟩ := k
          exact ax_r_newarray a hd k1 k2 k3 k4 k5 (hK _ _ _ _ _ _ k6)
        | _ => exact k.elim
    | anewarray i =>
      obtain ⟨rfl, k⟩ := hs
      cases S with
      | nil => exact k.elim
      | cons v0 S0 =>
        cases v0 with
        | int x0 =>
          obtain ⟨a, z, c, k0, kc, k1, k2, k3, k4, k5, k6⟩ := k
          exact ax_r_anewarray a hd k0.1 k0.2 kc k1 k2 k3 k4 k5 (hK _ _ _ _ _ _ k6)
        | _ => exact k.elim
    | invokestatic i =>
      obtain ⟨rfl, k⟩ := hs
      cases hf : ax_call o i with
      | none => rw [hf] at k; exact k.elim
      | some q =>
        obtain ⟨j, kd, na, c⟩ := q
        rw [hf] at k
        try dsimp only at k
        split at k
        · rename_i heq
          cases heq
          obtain ⟨k1, k2, d', mc', ms', Qj, ⟨b1, b2, b3⟩, hM, kk⟩ := k
          have := ax_r_static hd hf (ax_take_len k1) k2 b1 b2 b3 hM (fun v h' q m => hK _ _ _ _ _ _ (kk v h' q m))
          rw [ax_take k1] at this
          exact this
        · rename_i heq
          cases heq
          obtain ⟨k1, k2, d', mc', ms', Qj, ⟨b1, b2, b3⟩, hM, kk⟩ := k
          have := ax_r_staticN hd hf (ax_take_len k1) k2 b1 b2 b3 hM (fun v h' q m => hK _ _ _ _ _ _ (kk v h' q m))
          rw [ax_take k1] at this
          exact this
        · rename_i heq
          cases heq
          cases S with
          | nil => exact k.elim
          | cons v0 S0 =>
            cases v0 with
            | int x0 =>
              cases S0 with
              | nil => exact k.elim
              | cons v1 S1 =>
                cases v1 with
                | int x1 =>
                  exact ax_r_max hd hf k.1 k.2.1 (hK _ _ _ _ _ _ k.2.2)
                | _ => exact k.elim
            | _ => exact k.elim
        · rename_i heq
          cases heq
          cases S with
          | nil => exact k.elim
          | cons v0 S0 =>
            cases v0 with
            | int x0 =>
              cases S0 with
              | nil => exact k.elim
              | cons v1 S1 =>
                cases v1 with
                | int x1 =>
                  exact ax_r_min hd hf k.1 k.2.1 (hK _ _ _ _ _ _ k.2.2)
                | _ => exact k.elim
            | _ => exact k.elim
        · rename_i heq
          cases heq
          cases S with
          | nil => exact k.elim
          | cons v0 S0 =>
            cases v0 with
            | int x0 =>
              cases S0 with
              | nil => exact k.elim
              | cons v1 S1 =>
                cases v1 with
                | int x1 =>
                  cases S1 with
                  | nil => exact k.elim
                  | cons v2 S2 =>
                    cases S2 with
                    | nil => exact k.elim
                    | cons v3 S3 =>
                      cases v3 with
                      | int x3 =>
                        cases S3 with
                        | nil => exact k.elim
                        | cons v4 S4 =>
                          obtain ⟨a, b, n0, n1, k1, k2, k3, k4, k5, k6, k7, k8, k9, k10, k11, k12⟩ := k
                          exact ax_r_arraycopy hd hf k1 k2 k3 k4 k5 k6 k7 k8 k9 k10 k11 (hK _ _ _ _ _ _ k12)
                      | _ => exact k.elim
                | _ => exact k.elim
            | _ => exact k.elim
        · exact k.elim
    | invokevirtual i =>
      obtain ⟨rfl, k⟩ := hs
      cases hf : ax_call o i with
      | none => rw [hf] at k; exact k.elim
      | some q =>
        obtain ⟨j, kd, na, c⟩ := q
        rw [hf] at k
        try dsimp only at k
        split at k
        · rename_i heq
          cases heq
          cases hS : S.drop (na - 1) with
          | nil => rw [hS] at k; exact k.elim
          | cons v S' =>
            rw [hS] at k
            obtain ⟨k0, k1, k2, k3, b, k4, ⟨z, k5⟩, d', mc', ms', Qj, ⟨b1, b2, b3⟩, hM, kk⟩ := k
            rcases k2 with k2 | rfl
            · rw [if_neg (by omega)] at k5
              have := ax_r_virtual hd hf k2 (ax_takeV_len k0 k1) k4 k5 k3 b1 b2 b3 hM (fun v h' q m => hK _ _ _ _ _ _ (kk v h' q m))
              rw [ax_takeV k0 hS] at this
              exact this
            · rw [if_pos rfl] at k5
              have := ax_r_virtualS hd hf (ax_takeV_len k0 k1) k4 k5 k3 b1 b2 b3 hM (fun v h' q m => hK _ _ _ _ _ _ (kk v h' q m))
              rw [ax_takeV k0 hS] at this
              exact this
        · exact k.elim
    | invokespecial i =>
      obtain ⟨rfl, k⟩ := hs
      cases hf : ax_call o i with
      | none => rw [hf] at k; exact k.elim
      | some q =>
        obtain ⟨j, kd, na, c⟩ := q
        rw [hf] at k
        try dsimp only at k
        split at k
        · rename_i heq
          cases heq
          cases hS : S.drop (na - 1) with
          | nil => rw [hS] at k; exact k.elim
          | cons v S' =>
            rw [hS] at k
            obtain ⟨k0, k1, k3, b, k4, d', mc', ms', Qj, ⟨b1, b2, b3⟩, hM, kk⟩ := k
            have := ax_r_special hd hf (ax_takeV_len k0 k1) k4 k3 b1 b2 b3 hM (fun v h' q m => hK _ _ _ _ _ _ (kk v h' q m))
            rw [ax_takeV k0 hS] at this
            exact this
        · rename_i heq
          cases heq
          cases hS : S.drop (na - 1) with
          | nil => rw [hS] at k; exact k.elim
          | cons v S' =>
            rw [hS] at k
            obtain ⟨k0, k1, k3, b, k4, d', mc', ms', Qj, ⟨b1, b2, b3⟩, hM, kk⟩ := k
            have := ax_r_specialN hd hf (ax_takeV_len k0 k1) k4 k3 b1 b2 b3 hM (fun v h' q m => hK _ _ _ _ _ _ (kk v h' q m))
            rw [ax_takeV k0 hS] at this
            exact this
        · rename_i heq
          cases heq
          cases S with
          | nil => exact k.elim
          | cons v S' =>
            obtain ⟨k1, k2, b, k3, k4⟩ := k
            exact ax_r_objInit hd hf k3 k1 k2 (hK _ _ _ _ _ _ k4)
        · exact k.elim
    | return_ =>
      obtain ⟨rfl, k⟩ := hs
      cases S with
      | nil => exact ax_r_return (S := []) hd k.1 k.2
      | cons v S => exact k.elim
    | ireturn =>
      obtain ⟨rfl, k⟩ := hs
      cases S with
      | nil => exact k.elim
      | cons v S =>
        cases v with
        | int x =>
          cases S with
          | nil => exact ax_r_ireturn (S := []) hd k.1 k.2
          | cons w S => exact k.elim
        | _ => cases S <;> exact k.elim
    | lreturn =>
      obtain ⟨rfl, k⟩ := hs
      cases S with
      | nil => exact k.elim
      | cons v S =>
        cases v with
        | long x =>
          cases S with
          | nil => exact ax_r_lreturn (S := []) hd k.1 k.2
          | cons w S => exact k.elim
        | _ => cases S <;> exact k.elim
    | areturn =>
      obtain ⟨rfl, k⟩ := hs
      cases S with
      | nil => exact k.elim
      | cons v S =>
        cases S with
        | nil =>
          refine ax_r_areturn (S := []) hd k.1 ?_ k.2.2
          have kv := k.1
          cases v <;> first | exact ⟨k.2.1, rfl⟩ | cases kv
        | cons w S => exact k.elim
    | _ => exact hs.elim
/-- where a walk stops: at the places named, and behind its last step -/
def ax_cut : List Nat → Nat → Bool
  | [], _ => false
  | c :: r, p => c == p || ax_cut r p
def ax_nx (A K : AK) (cuts : List Nat) (rc rs pc : Nat) (L : AL) (S : List Value) (h : AH) : Prop := if ax_cut cuts pc = true then A rc rs pc L S h else K rc rs pc L S h
def ax_wp (G : AG) (o nL : Nat) (ini : Bool) (cc : ByteArray) (ret : Option FieldType) (d : Nat) (Q : Option Value → AH → Prop) (cuts : List Nat) : Nat → AK
  | 0 => fun rc rs pc L S h => AW G o nL ini cc ret d Q rc rs pc L S h
  | n + 1 => fun rc rs pc L S h => ax_step G o nL ini cc ret d Q (ax_nx (AW G o nL ini cc ret d Q) (ax_wp G o nL ini cc ret d Q cuts n) cuts) rc rs pc L S h
theorem ax_wp_s {cuts : List Nat} {n : Nat} : ax_wp G o nL ini cc ret d Q cuts (n + 1) rc rs pc L S h = ax_step G o nL ini cc ret d Q (ax_nx (AW G o nL ini cc ret d Q) (ax_wp G o nL ini cc ret d Q cuts n) cuts) rc rs pc L S h := rfl
theorem ax_wp_ok {cuts : List Nat} : ∀ (n : Nat) {rc rs pc : Nat} {L : AL} {S : List Value} {h : AH}, ax_wp G o nL ini cc ret d Q cuts n rc rs pc L S h → AW G o nL ini cc ret d Q rc rs pc L S h
  | 0, _, _, _, _, _, _, hs => hs
  | n + 1, _, _, _, _, _, _, hs => ax_step_ok (fun rc rs pc L S h k => by
      unfold ax_nx at k
      by_cases hc : ax_cut cuts pc = true
      · rw [if_pos hc] at k
        exact k
      · rw [if_neg hc] at k
        exact ax_wp_ok n k) hs
end AXS
