/-! A machine of my own over the kit's rows: abstract addresses, a heap as three functions; its steps are a proposition (ax_ins), sound for W. -/
abbrev AL : Type := List (Nat × Value)
/-- what lies where (class or kind of array, length), the ints, the references -/
abbrev AH : Type := (Nat → Option (Nat × Nat)) × ((Nat → Nat → Int32) × (Nat → Nat → Option Nat))
/-- lowest own address; classes' and slots' numbers; arrays' classes; the heap at the start; the script: address, length, ints; the string constants' addresses -/
abbrev AG : Type := Nat × (va_G × ((Nat → ClassId) × (Heap × ((Nat × (Nat × (Nat → Int32))) × (Nat → Nat)))))
def ax_rf : Value → Option Nat
  | .ref a => some a
  | _ => none
def ax_isR : Value → Bool
  | .ref _ => true
  | .null => true
  | _ => false
def ax_vm (ad : Nat → Nat) : Value → Value
  | .ref a => .ref (ad a)
  | v => v
def ax_up {α : Type} (f : Nat → Nat → α) (a k : Nat) (x : α) : Nat → Nat → α := fun b j => if b = a ∧ j = k then x else f b j
def ax_setI (h : AH) (a k : Nat) (x : Int32) : AH := (h.1, ax_up h.2.1 a k x, h.2.2)
def ax_setR (h : AH) (a k : Nat) (x : Option Nat) : AH := (h.1, h.2.1, ax_up h.2.2 a k x)
def ax_setA (h : AH) (a : Nat) (f : Nat → Int32) : AH := (h.1, (fun b => if b = a then f else h.2.1 b), h.2.2)
def ax_new (h : AH) (a : Nat) (q : Nat × Nat) : AH := ((fun b => if b = a then some q else h.1 b), (fun b k => if b = a then 0 else h.2.1 b k), (fun b k => if b = a then none else h.2.2 b k))
def ax_own (c : Nat) : Bool := decide (c < 7) || decide (50 ≤ c ∧ c < 54)
def ax_ft (c : Nat) : Nat → FieldType := match c with
  | 0 => tyX0
  | 1 => tyX1
  | 2 => tyX2
  | 3 => tyX3
  | 4 => tyX4
  | 5 => tyX6
  | _ => tyX7
def ax_el (c : Nat) : FieldType := match c with
  | 50 => .int
  | 51 => .object (ax_nm 2)
  | 52 => .object (ax_nm 4)
  | _ => .object (ax_nm 0)
def ax_ec (c : Nat) : Nat := match c with
  | 51 => 2
  | 52 => 4
  | _ => 0
def ax_isRT : FieldType → Bool
  | .object _ => true
  | .array _ => true
  | _ => false
def ax_N (c : Nat) : Nat := match c with
  | 0 => 12
  | 1 => 7
  | 2 => 5
  | 3 => 9
  | 4 => 3
  | 5 => 7
  | _ => 39
def ax_T (c : Nat) : u_T := match c with
  | 0 => TX0
  | 1 => TX1
  | 2 => TX2
  | 3 => TX3
  | 4 => TX4
  | 5 => TX6
  | _ => TX7
def ax_fv (ad : Nat → Nat) (h : AH) (c a k : Nat) : Value := if ax_isRT (ax_ft c k) then va_rf ((h.2.2 a k).map ad) else .int (h.2.1 a k)
def ax_fs (ad : Nat → Nat) (h : AH) (c a : Nat) : List Value := (List.range (ax_N c)).map (ax_fv ad h c a)
def ax_e (G : AG) (ad : Nat → Nat) (h : AH) (a : Nat) : va_E := match h.1 a with
  | some (c, n) => if c < 7 then .inr (c, ax_fs ad h c a) else if c = 50 then .inl (G.2.2.1 50, n, .inl (h.2.1 a)) else .inl (G.2.2.1 c, n, .inr (.inr (.inr (.inr (fun k => (h.2.2 a k).map ad)))))
  | none => .inr (0, [])
def ax_ws (G : AG) (ad : Nat → Nat) (h : AH) (dom : List Nat) : va_W := dom.map (fun a => (ad a, ax_e G ad h a))
def ax_A (G : AG) : Nat → Prop := fun q => G.1 ≤ q
def ax_tys (G : AG) : List (ClassId × FieldType) := [(G.2.2.1 50, .int), (G.2.2.1 51, .object (ax_nm 2)), (G.2.2.1 52, .object (ax_nm 4)), (G.2.2.1 53, .object (ax_nm 0))]
def ax_old (G : AG) (ad : Nat → Nat) (h : AH) : Prop := ∀ a c n, h.1 a = some (c, n) → ax_own c = false →
  (c = 49 ∧ ad a = G.2.2.2.2.1.1 ∧ n = G.2.2.2.2.1.2.1 ∧ ∀ k, k < n → h.2.1 a k = G.2.2.2.2.1.2.2 k) ∨ (c = 60 ∧ ad a = G.2.2.2.2.2 n ∧ n < 2)
def ax_closed (h : AH) : Prop := ∀ a b k, (h.1 a).isSome = true → h.2.2 a k = some b → (h.1 b).isSome = true
def ax_Rel (G : AG) (ad : Nat → Nat) (h : AH) (H : Heap) : Prop :=
  ∃ dom : List Nat, dom.Nodup ∧ (∀ a, a ∈ dom ↔ ∃ c n, h.1 a = some (c, n) ∧ ax_own c = true) ∧ va_P G.2.1 ax_vc (ax_ws G ad h dom) H ∧ va_D (ax_A G) (ax_ws G ad h dom) ∧ ax_old G ad h ∧ ax_closed h
/-- a value's reference is to something that lies there -/
def ax_wv (h : AH) (v : Value) : Prop := ∀ a, v = .ref a → (h.1 a).isSome = true
def ax_mono (h h' : AH) : Prop := ∀ a q, h.1 a = some q → h'.1 a = some q
def ax_ext (h : AH) (ad ad' : Nat → Nat) : Prop := ∀ a, (h.1 a).isSome = true → ad' a = ad a
/-- the string constants: their bytes, what the tables say of them -/
def ax_s0 : List Nat := [97, 100, 100, 115, 32, 49, 32, 43, 32, 104, 101, 97, 116, 32, 43, 32, 119, 101, 116, 32, 42, 32, 50, 32, 59, 32, 104, 101, 97, 118, 121, 32, 98, 101, 110, 100, 32, 42, 32, 53, 32, 43, 32, 115, 111, 111, 116, 32, 45, 32, 119, 105, 100, 101, 32, 59, 32, 98, 117, 114, 110, 115, 32, 115, 111, 111, 116, 32, 45, 32, 53, 48, 32, 59]
def ax_s1 : List Nat := [97, 100, 100, 115, 32, 104, 101, 97, 118, 121, 32, 98, 117, 114, 110, 115, 32, 111, 114, 32, 97, 110, 100, 32, 110, 111, 116, 32, 115, 111, 111, 116, 32, 119, 105, 100, 101, 32, 98, 101, 110, 100, 32, 109, 111, 114, 101, 32, 104, 101, 97, 116, 32, 119, 101, 116, 32]
def ax_slen : List Nat := [74, 57]
def ax_sbyt : List (List Int32) := [ax_s0.map nI, ax_s1.map nI]
def ax_Str (G : AG) (U : State) : Prop := vk_R (ax_nm 5) 40 "adds 1 + heat + wet * 2 ; heavy bend * 5 + soot - wide ; burns soot - 50 ;" (G.2.2.2.2.2 0) U ∧ vk_R (ax_nm 3) 127 "adds heavy burns or and not soot wide bend more heat wet " (G.2.2.2.2.2 1) U ∧
  ∃ adV, vk_S 2 ax_slen ax_sbyt G.2.2.2.2.2 adV (ax_A G) U G.2.2.2.1 ∧ va_Z "java/lang/String" "COMPACT_STRINGS" "Z" (.int 1) (ax_A G) U G.2.2.2.1 ∧ va_Zq "jdk/internal/util/Preconditions" "SIOOBE_FORMATTER" "Ljava/util/function/BiFunction;" (ax_A G) U G.2.2.2.1
/-- what the tables say, wherever a method starts -/
def ax_Env (G : AG) (U : State) : Prop :=
  va_K G.2.1 ax_vc (ax_tys G) U ∧ (∀ w ∈ lw_tbl, goodWord w = true → ∀ a : Array Value, w.before a U = true) ∧ (∀ q ∈ ax_nest, va_Nw (.methodLinkNest q.1 q.2.1 q.2.2.1 q.2.2.2) U) ∧ va_AO (ax_nm 2) U ∧ va_AO (ax_nm 4) U ∧ va_AO (ax_nm 0) U ∧
  va_X G.2.2.2.2.1.1 G.2.2.2.2.1.2.1 G.2.2.2.2.1.2.2 U G.2.2.2.1 ∧ G.2.2.2.2.1.1 < G.1 ∧ ax_Str G U
def ax_below (G : AG) (H : Heap) : Prop := G.1 ≤ H.size ∧ G.1 = G.2.2.2.1.size ∧ ∀ q, q < G.1 → H[q]? = G.2.2.2.1[q]?
def ax_Pc (G : AG) (ad : Nat → Nat) (As : List Value) (h : AH) : Array Value → State → Prop := fun v U => v = (As.map (ax_vm ad)).toArray ∧ ax_Env G U ∧ ax_Rel G ad h U.heap ∧ ax_below G U.heap
def ax_Qc (G : AG) (ad : Nat → Nat) (h : AH) (Q : Option Value → AH → Prop) : Array Value → State → Outcome → State → Prop := fun _ st oc t =>
  ∃ (v : Option Value) (h' : AH) (ad' : Nat → Nat), Q v h' ∧ (∀ w, v = some w → ax_wv h' w) ∧ oc = .returned (v.map (ax_vm ad')) ∧ ax_ext h ad ad' ∧ ax_mono h h' ∧ ax_Rel G ad' h' t.heap ∧ va_F (ax_A G) st t
def ax_rm (d mc ms : Nat) : Room := { frames := d, cells := mc, slots := ms, locals := 60 * d }
/-- method j's contract at these arguments and this heap -/
def AC (G : AG) (j d mc ms : Nat) (As : List Value) (h : AH) (Q : Option Value → AH → Prop) : Prop :=
  Cond.code (ax_y j) (ax_cc j) (ax_nL j) (ax_ret j) ∈ ax_G ∧ ((∀ v ∈ As, ax_wv h v) → ∀ (l : Launch) (ad : Nat → Nat), Met l (ax_y j) [Cond.code (ax_y j) (ax_cc j) (ax_nL j) (ax_ret j)] (ax_rm d mc ms) (ax_Pc G ad As h) (ax_Qc G ad h Q) mc ms (ax_A G))
def ax_rd (v : Option Value) : Instr := match v with
  | none => .return_
  | some (.int _) => .ireturn
  | some (.long _) => .lreturn
  | _ => .areturn
def ax_rok (ret : Option FieldType) (v : Option Value) : Prop := match v with
  | none => ret = none
  | some (.int x) => ∃ ty, ret = some ty ∧ narrow ty (.int x) = .int x
  | some (.long _) => ret = some .long
  | some w => ((∃ n, ret = some (.object n)) ∨ ∃ t, ret = some (.array t)) ∧ ax_isR w = true
/-- what holds of the machine all through an activation -/
def ax_Ctx (G : AG) (o nL : Nat) (ini : Bool) (cc : ByteArray) (d mc ms : Nat) (p : Program) (R : Room) (s : State) (m : MethodId) (meth : Method) (c : Code) : Prop :=
  p.tables.exec = Jvm.exec ∧ c.code = cc ∧ c.maxLocals = nL ∧ s.vm.findClass (ax_nm o) = some m.cls ∧ (ini = true → meth.name = "<init>") ∧ ax_Env G s ∧ ax_below G s.heap ∧ d ≤ R.frames ∧ 60 * d ≤ R.locals ∧ mc ≤ R.cells ∧ ms ≤ R.slots
def ax_At (G : AG) (s : State) (nL mc ms rc rs k n : Nat) (ad0 : Nat → Nat) (h0 : AH) (ad : Nat → Nat) (H : Heap) (locs : List Loc) (ls : Array Slot) (L : AL) (S : List Value) (h : AH) : Prop :=
  k + rc ≤ mc ∧ n + rs ≤ ms ∧ ax_Rel G ad h H ∧ va_S (ax_A G) s.heap H locs ∧ ax_ext h0 ad0 ad ∧ ax_mono h0 h ∧ (∀ q ∈ L, ax_wv h q.2) ∧ (∀ v ∈ S, ax_wv h v) ∧ lv_has ls nL (L.map (fun q => (q.1, ax_vm ad q.2)))
/-- from here on the activation comes to its end, with Q of the answer and of the heap then -/
def AW (G : AG) (o nL : Nat) (ini : Bool) (cc : ByteArray) (ret : Option FieldType) (d : Nat) (Q : Option Value → AH → Prop) (rc rs pc : Nat) (L : AL) (S : List Value) (h : AH) : Prop :=
  ∀ (p : Program) (l : Launch) (e : Env) (R : Room) (s : State) (m : MethodId) (args : Array Value) (below : List Frame) (meth : Method) (c : Code) (Z : State → Prop) (mc ms : Nat) (ad0 : Nat → Nat) (h0 : AH),
  ax_Ctx G o nL ini cc d mc ms p R s m meth c →
  (∀ (pc : Nat) (ls : Array Slot) (H : Heap) (locs : List Loc) (ad : Nat → Nat) (h : AH) (v : Option Value) (k n : Nat), Q v h → ax_rok ret v → (∀ w, v = some w → ax_wv h w) → decode cc pc = .ok (ax_rd v, 1) → ax_At G s nL mc ms 0 0 k n ad0 h0 ad H locs ls [] [] h → W p l e R s m args below meth c H locs k n Z (F0 m pc ls (v.map (ax_vm ad)).toList)) →
  ∀ (k n : Nat) (ad : Nat → Nat) (H : Heap) (locs : List Loc) (ls : Array Slot), ax_At G s nL mc ms rc rs k n ad0 h0 ad H locs ls L S h → W p l e R s m args below meth c H locs k n Z (F0 m pc ls (S.map (ax_vm ad)))
/-! plain facts -/
def ax_lk : AL → Nat → Option Value
  | [], _ => none
  | (j, v) :: r, i => if j = i then some v else ax_lk r i
def ax_ins0 (i : Nat) (v : Value) : AL → AL
  | [] => [(i, v)]
  | (j, w) :: r => if i < j then (i, v) :: (j, w) :: r else (j, w) :: ax_ins0 i v r
def ax_st1 (i : Nat) (v : Value) (L : AL) : AL := ax_ins0 i v (L.filter (fun q => !(q.1 == i) && !(q.1 + 1 == i && q.2.category == 2)))
def ax_st2 (i : Nat) (v : Value) (L : AL) : AL := ax_ins0 i v (L.filter (fun q => !(q.1 == i) && (!(q.1 == i + 1) && !(q.1 + 1 == i && q.2.category == 2))))
theorem ax_lk_mem : ∀ {L : AL} {i : Nat} {v : Value}, ax_lk L i = some v → (i, v) ∈ L
  | [], _, _, h => by cases h
  | (j, w) :: r, i, v, h => by
    unfold ax_lk at h
    by_cases hj : j = i
    · rw [if_pos hj] at h
      cases h
      subst hj
      exact List.mem_cons_self
    · rw [if_neg hj] at h
      exact List.mem_cons_of_mem _ (ax_lk_mem h)
theorem ax_ins0_mem {i : Nat} {v : Value} {q : Nat × Value} : ∀ {L : AL}, q ∈ ax_ins0 i v L → q = (i, v) ∨ q ∈ L
  | [], h => by
    simp only [ax_ins0, List.mem_singleton] at h
    exact Or.inl h
  | (j, w) :: r, h => by
    unfold ax_ins0 at h
    by_cases hj : i < j
    · rw [if_pos hj] at h
      exact List.mem_cons.mp h
    · rw [if_neg hj] at h
      rcases List.mem_cons.mp h with h | h
      · exact Or.inr (by rw [h]; exact List.mem_cons_self)
      · rcases ax_ins0_mem h with h | h
        · exact Or.inl h
        · exact Or.inr (List.mem_cons_of_mem _ h)
theorem ax_vm_cat (ad : Nat → Nat) (v : Value) : (ax_vm ad v).category = v.category := by cases v <;> rfl
theorem ax_vm_rf (ad : Nat → Nat) (r : Option Nat) : ax_vm ad (va_rf r) = va_rf (r.map ad) := by cases r <;> rfl
theorem ax_rf_rf (r : Option Nat) : ax_rf (va_rf r) = r := by cases r <;> rfl
theorem ax_isR_rf (r : Option Nat) : ax_isR (va_rf r) = true := by cases r <;> rfl
theorem ax_isR_eq {v : Value} (h : ax_isR v = true) : v = va_rf (ax_rf v) := by
  cases v <;> first | rfl | (simp [ax_isR] at h)
theorem ax_rf_some {v : Value} {a : Nat} (h : ax_rf v = some a) : v = .ref a := by
  cases v <;> first | (simp [ax_rf] at h; done) | (simp only [ax_rf, Option.some.injEq] at h; rw [h])
theorem ax_isR_cat {v : Value} (h : ax_isR v = true) : v.category = 1 := by
  cases v <;> first | rfl | (simp [ax_isR] at h)
theorem ax_at_lk {ls : Array Slot} {nL : Nat} {L : AL} {ad : Nat → Nat} {i : Nat} {v : Value} (h : lv_has ls nL (L.map (fun q => (q.1, ax_vm ad q.2)))) (hv : ax_lk L i = some v) : ls[i]? = some (.val (ax_vm ad v)) :=
  h.2.2 (i, ax_vm ad v) (List.mem_map.mpr ⟨(i, v), ax_lk_mem hv, rfl⟩)
theorem ax_less {ls : Array Slot} {nL : Nat} {l l' : List (Nat × Value)} (h : lv_has ls nL l) (hs : ∀ q ∈ l', q ∈ l) : lv_has ls nL l' := ⟨h.1, h.2.1, fun q hq => h.2.2 q (hs q hq)⟩
theorem ax_st1_has {ls : Array Slot} {nL : Nat} {L : AL} {ad : Nat → Nat} {i : Nat} {v : Value} (h : lv_has ls nL ((i, ax_vm ad v) :: (L.map (fun q => (q.1, ax_vm ad q.2))).filter (fun q => !(q.1 == i) && !(q.1 + 1 == i && q.2.category == 2)))) : lv_has ls nL ((ax_st1 i v L).map (fun q => (q.1, ax_vm ad q.2))) := by
  refine ax_less h fun q hq => ?_
  obtain ⟨x, hx, rfl⟩ := List.mem_map.mp hq
  rcases ax_ins0_mem hx with rfl | hx
  · exact List.mem_cons_self
  · obtain ⟨h1, h2⟩ := List.mem_filter.mp hx
    exact List.mem_cons_of_mem _ (List.mem_filter.mpr ⟨List.mem_map.mpr ⟨x, h1, rfl⟩, by simpa only [ax_vm_cat] using h2⟩)
theorem ax_st2_has {ls : Array Slot} {nL : Nat} {L : AL} {ad : Nat → Nat} {i : Nat} {v : Value} (h : lv_has ls nL ((i, ax_vm ad v) :: (L.map (fun q => (q.1, ax_vm ad q.2))).filter (fun q => !(q.1 == i) && (!(q.1 == i + 1) && !(q.1 + 1 == i && q.2.category == 2))))) : lv_has ls nL ((ax_st2 i v L).map (fun q => (q.1, ax_vm ad q.2))) := by
  refine ax_less h fun q hq => ?_
  obtain ⟨x, hx, rfl⟩ := List.mem_map.mp hq
  rcases ax_ins0_mem hx with rfl | hx
  · exact List.mem_cons_self
  · obtain ⟨h1, h2⟩ := List.mem_filter.mp hx
    exact List.mem_cons_of_mem _ (List.mem_filter.mpr ⟨List.mem_map.mpr ⟨x, h1, rfl⟩, by simpa only [ax_vm_cat] using h2⟩)
theorem ax_st1_wv {h : AH} {L : AL} {i : Nat} {v : Value} (h1 : ∀ q ∈ L, ax_wv h q.2) (h2 : ax_wv h v) : ∀ q ∈ ax_st1 i v L, ax_wv h q.2 := fun q hq => by
  rcases ax_ins0_mem hq with rfl | hq
  · exact h2
  · exact h1 q (List.mem_filter.mp hq).1
theorem ax_st2_wv {h : AH} {L : AL} {i : Nat} {v : Value} (h1 : ∀ q ∈ L, ax_wv h q.2) (h2 : ax_wv h v) : ∀ q ∈ ax_st2 i v L, ax_wv h q.2 := fun q hq => by
  rcases ax_ins0_mem hq with rfl | hq
  · exact h2
  · exact h1 q (List.mem_filter.mp hq).1
theorem ax_wv_int (h : AH) (x : Int32) : ax_wv h (.int x) := fun _ q => by cases q
theorem ax_wv_long (h : AH) (x : Int64) : ax_wv h (.long x) := fun _ q => by cases q
theorem ax_wv_null (h : AH) : ax_wv h .null := fun _ q => by cases q
theorem ax_wv_rf {h : AH} {r : Option Nat} (hr : ∀ a, r = some a → (h.1 a).isSome = true) : ax_wv h (va_rf r) := fun a q => by
  cases r with
  | none => cases q
  | some b => cases q; exact hr _ rfl
theorem ax_wv_mono {h h' : AH} {v : Value} (hm : ax_mono h h') (hv : ax_wv h v) : ax_wv h' v := fun a q => by
  have h1 := hv a q
  obtain ⟨x, hx⟩ := Option.isSome_iff_exists.mp h1
  rw [hm a x hx]
  rfl
theorem ax_mono_rf (h : AH) : ax_mono h h := fun _ _ q => q
theorem ax_mono_tr {h h1 h2 : AH} (a : ax_mono h h1) (b : ax_mono h1 h2) : ax_mono h h2 := fun x q hq => b x q (a x q hq)
theorem ax_mono_some {h h' : AH} (hm : ax_mono h h') {a : Nat} (ha : (h.1 a).isSome = true) : (h'.1 a).isSome = true := by
  obtain ⟨x, hx⟩ := Option.isSome_iff_exists.mp ha
  rw [hm a x hx]
  rfl
theorem ax_ext_tr {h h1 : AH} {ad ad1 ad2 : Nat → Nat} (hm : ax_mono h h1) (a : ax_ext h ad ad1) (b : ax_ext h1 ad1 ad2) : ax_ext h ad ad2 := fun x hx => (b x (ax_mono_some hm hx)).trans (a x hx)
theorem ax_vm_ext {h : AH} {ad ad' : Nat → Nat} {v : Value} (hv : ax_wv h v) (he : ax_ext h ad ad') : ax_vm ad' v = ax_vm ad v := by
  cases v <;> first | rfl | (show Value.ref _ = Value.ref _; rw [he _ (hv _ rfl)])
theorem ax_mapS {h : AH} {ad ad' : Nat → Nat} {S : List Value} (hv : ∀ v ∈ S, ax_wv h v) (he : ax_ext h ad ad') : S.map (ax_vm ad') = S.map (ax_vm ad) := List.map_congr_left fun v hq => ax_vm_ext (hv v hq) he
theorem ax_mapL {h : AH} {ad ad' : Nat → Nat} {L : AL} (hv : ∀ q ∈ L, ax_wv h q.2) (he : ax_ext h ad ad') : L.map (fun q => (q.1, ax_vm ad' q.2)) = L.map (fun q => (q.1, ax_vm ad q.2)) := List.map_congr_left fun q hq => by rw [ax_vm_ext (hv q hq) he]
/-- fewer locals -/
theorem ax_sub {G : AG} {o nL : Nat} {ini : Bool} {cc : ByteArray} {ret : Option FieldType} {d : Nat} {Q : Option Value → AH → Prop} {rc rs pc : Nat} {L L' : AL} {S : List Value} {h : AH} (hs : ∀ q ∈ L', q ∈ L) (k : AW G o nL ini cc ret d Q rc rs pc L' S h) : AW G o nL ini cc ret d Q rc rs pc L S h := by
  intro p l e R s m args below meth c Z mc ms ad0 h0 C Rt k1 n ad H locs ls A
  obtain ⟨a1, a2, a3, a4, a5, a6, a7, a8, a9⟩ := A
  exact k p l e R s m args below meth c Z mc ms ad0 h0 C Rt k1 n ad H locs ls ⟨a1, a2, a3, a4, a5, a6, fun q hq => a7 q (hs q hq), a8, ax_less a9 fun q hq => by
    obtain ⟨x, hx, rfl⟩ := List.mem_map.mp hq
    exact List.mem_map.mpr ⟨x, hs x hx, rfl⟩⟩
/-- more room than is needed -/
theorem ax_budget {G : AG} {o nL : Nat} {ini : Bool} {cc : ByteArray} {ret : Option FieldType} {d : Nat} {Q : Option Value → AH → Prop} {rc rs rc' rs' pc : Nat} {L : AL} {S : List Value} {h : AH} (h1 : rc' ≤ rc) (h2 : rs' ≤ rs) (k : AW G o nL ini cc ret d Q rc' rs' pc L S h) : AW G o nL ini cc ret d Q rc rs pc L S h := by
  intro p l e R s m args below meth c Z mc ms ad0 h0 C Rt k1 n ad H locs ls A
  obtain ⟨a1, a2, a3⟩ := A
  exact k p l e R s m args below meth c Z mc ms ad0 h0 C Rt k1 n ad H locs ls ⟨by omega, by omega, a3⟩
theorem ax_post {G : AG} {o nL : Nat} {ini : Bool} {cc : ByteArray} {ret : Option FieldType} {d : Nat} {Q Q' : Option Value → AH → Prop} {rc rs pc : Nat} {L : AL} {S : List Value} {h : AH} (hq : ∀ v h, Q' v h → Q v h) (k : AW G o nL ini cc ret d Q' rc rs pc L S h) : AW G o nL ini cc ret d Q rc rs pc L S h := by
  intro p l e R s m args below meth c Z mc ms ad0 h0 C Rt
  exact k p l e R s m args below meth c Z mc ms ad0 h0 C fun pc ls H locs ad h v k n q => Rt pc ls H locs ad h v k n (hq v h q)
/-! one instruction each -/
theorem ax_r_iconst {G : AG} {o nL : Nat} {ini : Bool} {cc : ByteArray} {ret : Option FieldType} {d : Nat} {Q : Option Value → AH → Prop} {rc rs pc : Nat} {L : AL} {S : List Value} {h : AH} {v : Int} (hd : decode cc pc = .ok (.iconst v, 1))  (k : AW G o nL ini cc ret d Q rc rs (pc + 1) L (.int (Int32.ofInt v) :: S) h) : AW G o nL ini cc ret d Q rc rs pc L S h := by
  intro p l e R s m args below meth c Z mc ms ad0 h0 C Rt k1 n ad H locs ls A
  obtain ⟨hx, hb, hml, hown, hini, hE, hB, hR1, hR2, hR3, hR4⟩ := id C
  obtain ⟨a1, a2, a3, a4, a5, a6, a7, a8, a9⟩ := id A
  show W p l e R s m args below meth c H locs k1 n Z (F0 m pc ls (S.map (ax_vm ad)))
  exact lv_iconst hx hb hd rfl (k p l e R s m args below meth c Z mc ms ad0 h0 C Rt k1 n ad H locs ls ⟨a1, a2, a3, a4, a5, a6, a7, (List.forall_mem_cons.mpr ⟨ax_wv_int _ _, (fun v hv => a8 v hv)⟩), a9⟩)
theorem ax_r_bipush {G : AG} {o nL : Nat} {ini : Bool} {cc : ByteArray} {ret : Option FieldType} {d : Nat} {Q : Option Value → AH → Prop} {rc rs pc : Nat} {L : AL} {S : List Value} {h : AH} {v : Int} (hd : decode cc pc = .ok (.bipush v, 2))  (k : AW G o nL ini cc ret d Q rc rs (pc + 2) L (.int (Int8.ofInt v).toInt32 :: S) h) : AW G o nL ini cc ret d Q rc rs pc L S h := by
  intro p l e R s m args below meth c Z mc ms ad0 h0 C Rt k1 n ad H locs ls A
  obtain ⟨hx, hb, hml, hown, hini, hE, hB, hR1, hR2, hR3, hR4⟩ := id C
  obtain ⟨a1, a2, a3, a4, a5, a6, a7, a8, a9⟩ := id A
  show W p l e R s m args below meth c H locs k1 n Z (F0 m pc ls (S.map (ax_vm ad)))
  exact lv_bipush hx hb hd rfl (k p l e R s m args below meth c Z mc ms ad0 h0 C Rt k1 n ad H locs ls ⟨a1, a2, a3, a4, a5, a6, a7, (List.forall_mem_cons.mpr ⟨ax_wv_int _ _, (fun v hv => a8 v hv)⟩), a9⟩)
theorem ax_r_sipush {G : AG} {o nL : Nat} {ini : Bool} {cc : ByteArray} {ret : Option FieldType} {d : Nat} {Q : Option Value → AH → Prop} {rc rs pc : Nat} {L : AL} {S : List Value} {h : AH} {v : Int} (hd : decode cc pc = .ok (.sipush v, 3))  (k : AW G o nL ini cc ret d Q rc rs (pc + 3) L (.int (Int16.ofInt v).toInt32 :: S) h) : AW G o nL ini cc ret d Q rc rs pc L S h := by
  intro p l e R s m args below meth c Z mc ms ad0 h0 C Rt k1 n ad H locs ls A
  obtain ⟨hx, hb, hml, hown, hini, hE, hB, hR1, hR2, hR3, hR4⟩ := id C
  obtain ⟨a1, a2, a3, a4, a5, a6, a7, a8, a9⟩ := id A
  show W p l e R s m args below meth c H locs k1 n Z (F0 m pc ls (S.map (ax_vm ad)))
  exact lv_sipush hx hb hd rfl (k p l e R s m args below meth c Z mc ms ad0 h0 C Rt k1 n ad H locs ls ⟨a1, a2, a3, a4, a5, a6, a7, (List.forall_mem_cons.mpr ⟨ax_wv_int _ _, (fun v hv => a8 v hv)⟩), a9⟩)
theorem ax_r_lconst {G : AG} {o nL : Nat} {ini : Bool} {cc : ByteArray} {ret : Option FieldType} {d : Nat} {Q : Option Value → AH → Prop} {rc rs pc : Nat} {L : AL} {S : List Value} {h : AH} {v : Fin 2} (hd : decode cc pc = .ok (.lconst v, 1))  (k : AW G o nL ini cc ret d Q rc rs (pc + 1) L (.long (Int64.ofNat (v : Nat)) :: S) h) : AW G o nL ini cc ret d Q rc rs pc L S h := by
  intro p l e R s m args below meth c Z mc ms ad0 h0 C Rt k1 n ad H locs ls A
  obtain ⟨hx, hb, hml, hown, hini, hE, hB, hR1, hR2, hR3, hR4⟩ := id C
  obtain ⟨a1, a2, a3, a4, a5, a6, a7, a8, a9⟩ := id A
  show W p l e R s m args below meth c H locs k1 n Z (F0 m pc ls (S.map (ax_vm ad)))
  exact lv_lconst hx hb hd rfl (k p l e R s m args below meth c Z mc ms ad0 h0 C Rt k1 n ad H locs ls ⟨a1, a2, a3, a4, a5, a6, a7, (List.forall_mem_cons.mpr ⟨ax_wv_long _ _, (fun v hv => a8 v hv)⟩), a9⟩)
theorem ax_r_null {G : AG} {o nL : Nat} {ini : Bool} {cc : ByteArray} {ret : Option FieldType} {d : Nat} {Q : Option Value → AH → Prop} {rc rs pc : Nat} {L : AL} {S : List Value} {h : AH}  (hd : decode cc pc = .ok (.aconst_null, 1))  (k : AW G o nL ini cc ret d Q rc rs (pc + 1) L (.null :: S) h) : AW G o nL ini cc ret d Q rc rs pc L S h := by
  intro p l e R s m args below meth c Z mc ms ad0 h0 C Rt k1 n ad H locs ls A
  obtain ⟨hx, hb, hml, hown, hini, hE, hB, hR1, hR2, hR3, hR4⟩ := id C
  obtain ⟨a1, a2, a3, a4, a5, a6, a7, a8, a9⟩ := id A
  show W p l e R s m args below meth c H locs k1 n Z (F0 m pc ls (S.map (ax_vm ad)))
  exact lv_null hx hb hd (k p l e R s m args below meth c Z mc ms ad0 h0 C Rt k1 n ad H locs ls ⟨a1, a2, a3, a4, a5, a6, a7, (List.forall_mem_cons.mpr ⟨ax_wv_null _, (fun v hv => a8 v hv)⟩), a9⟩)
theorem ax_r_iload_n {G : AG} {o nL : Nat} {ini : Bool} {cc : ByteArray} {ret : Option FieldType} {d : Nat} {Q : Option Value → AH → Prop} {rc rs pc : Nat} {L : AL} {S : List Value} {h : AH} {i : Fin 4} {x : Int32} (hd : decode cc pc = .ok (.iload_n i, 1)) (hl : ax_lk L i = some (.int x)) (k : AW G o nL ini cc ret d Q rc rs (pc + 1) L (.int x :: S) h) : AW G o nL ini cc ret d Q rc rs pc L S h := by
  intro p l e R s m args below meth c Z mc ms ad0 h0 C Rt k1 n ad H locs ls A
  obtain ⟨hx, hb, hml, hown, hini, hE, hB, hR1, hR2, hR3, hR4⟩ := id C
  obtain ⟨a1, a2, a3, a4, a5, a6, a7, a8, a9⟩ := id A
  show W p l e R s m args below meth c H locs k1 n Z (F0 m pc ls (S.map (ax_vm ad)))
  exact lv_iload_n hx hb hd rfl (ax_at_lk a9 hl) (k p l e R s m args below meth c Z mc ms ad0 h0 C Rt k1 n ad H locs ls ⟨a1, a2, a3, a4, a5, a6, a7, (List.forall_mem_cons.mpr ⟨ax_wv_int _ _, (fun v hv => a8 v hv)⟩), a9⟩)
theorem ax_r_iload {G : AG} {o nL : Nat} {ini : Bool} {cc : ByteArray} {ret : Option FieldType} {d : Nat} {Q : Option Value → AH → Prop} {rc rs pc : Nat} {L : AL} {S : List Value} {h : AH} {i : Nat} {x : Int32} (hd : decode cc pc = .ok (.iload i, 2)) (hl : ax_lk L i = some (.int x)) (k : AW G o nL ini cc ret d Q rc rs (pc + 2) L (.int x :: S) h) : AW G o nL ini cc ret d Q rc rs pc L S h := by
  intro p l e R s m args below meth c Z mc ms ad0 h0 C Rt k1 n ad H locs ls A
  obtain ⟨hx, hb, hml, hown, hini, hE, hB, hR1, hR2, hR3, hR4⟩ := id C
  obtain ⟨a1, a2, a3, a4, a5, a6, a7, a8, a9⟩ := id A
  show W p l e R s m args below meth c H locs k1 n Z (F0 m pc ls (S.map (ax_vm ad)))
  exact lv_iload hx hb hd (ax_at_lk a9 hl) (k p l e R s m args below meth c Z mc ms ad0 h0 C Rt k1 n ad H locs ls ⟨a1, a2, a3, a4, a5, a6, a7, (List.forall_mem_cons.mpr ⟨ax_wv_int _ _, (fun v hv => a8 v hv)⟩), a9⟩)
theorem ax_r_lload_n {G : AG} {o nL : Nat} {ini : Bool} {cc : ByteArray} {ret : Option FieldType} {d : Nat} {Q : Option Value → AH → Prop} {rc rs pc : Nat} {L : AL} {S : List Value} {h : AH} {i : Fin 4} {x : Int64} (hd : decode cc pc = .ok (.lload_n i, 1)) (hl : ax_lk L i = some (.long x)) (k : AW G o nL ini cc ret d Q rc rs (pc + 1) L (.long x :: S) h) : AW G o nL ini cc ret d Q rc rs pc L S h := by
  intro p l e R s m args below meth c Z mc ms ad0 h0 C Rt k1 n ad H locs ls A
  obtain ⟨hx, hb, hml, hown, hini, hE, hB, hR1, hR2, hR3, hR4⟩ := id C
  obtain ⟨a1, a2, a3, a4, a5, a6, a7, a8, a9⟩ := id A
  show W p l e R s m args below meth c H locs k1 n Z (F0 m pc ls (S.map (ax_vm ad)))
  exact lv_lload_n hx hb hd rfl (ax_at_lk a9 hl) (k p l e R s m args below meth c Z mc ms ad0 h0 C Rt k1 n ad H locs ls ⟨a1, a2, a3, a4, a5, a6, a7, (List.forall_mem_cons.mpr ⟨ax_wv_long _ _, (fun v hv => a8 v hv)⟩), a9⟩)
theorem ax_r_lload {G : AG} {o nL : Nat} {ini : Bool} {cc : ByteArray} {ret : Option FieldType} {d : Nat} {Q : Option Value → AH → Prop} {rc rs pc : Nat} {L : AL} {S : List Value} {h : AH} {i : Nat} {x : Int64} (hd : decode cc pc = .ok (.lload i, 2)) (hl : ax_lk L i = some (.long x)) (k : AW G o nL ini cc ret d Q rc rs (pc + 2) L (.long x :: S) h) : AW G o nL ini cc ret d Q rc rs pc L S h := by
  intro p l e R s m args below meth c Z mc ms ad0 h0 C Rt k1 n ad H locs ls A
  obtain ⟨hx, hb, hml, hown, hini, hE, hB, hR1, hR2, hR3, hR4⟩ := id C
  obtain ⟨a1, a2, a3, a4, a5, a6, a7, a8, a9⟩ := id A
  show W p l e R s m args below meth c H locs k1 n Z (F0 m pc ls (S.map (ax_vm ad)))
  exact lv_lload hx hb hd (ax_at_lk a9 hl) (k p l e R s m args below meth c Z mc ms ad0 h0 C Rt k1 n ad H locs ls ⟨a1, a2, a3, a4, a5, a6, a7, (List.forall_mem_cons.mpr ⟨ax_wv_long _ _, (fun v hv => a8 v hv)⟩), a9⟩)
theorem ax_r_aload_n {G : AG} {o nL : Nat} {ini : Bool} {cc : ByteArray} {ret : Option FieldType} {d : Nat} {Q : Option Value → AH → Prop} {rc rs pc : Nat} {L : AL} {S : List Value} {h : AH} {i : Fin 4} {v : Value} (hd : decode cc pc = .ok (.aload_n i, 1)) (hl : ax_lk L i = some v) (hv : ax_isR v = true) (k : AW G o nL ini cc ret d Q rc rs (pc + 1) L (v :: S) h) : AW G o nL ini cc ret d Q rc rs pc L S h := by
  intro p l e R s m args below meth c Z mc ms ad0 h0 C Rt k1 n ad H locs ls A
  obtain ⟨hx, hb, hml, hown, hini, hE, hB, hR1, hR2, hR3, hR4⟩ := id C
  obtain ⟨a1, a2, a3, a4, a5, a6, a7, a8, a9⟩ := id A
  have w1 : ax_wv h v := a7 (i, v) (ax_lk_mem hl)
  have kk := k p l e R s m args below meth c Z mc ms ad0 h0 C Rt k1 n ad H locs ls ⟨a1, a2, a3, a4, a5, a6, a7, List.forall_mem_cons.mpr ⟨w1, a8⟩, a9⟩
  have g := ax_at_lk a9 hl
  cases v with
  | ref a => exact lv_aload_n hx hb hd rfl g kk
  | null => exact lv_aload_nN hx hb hd rfl g kk
  | int x => cases hv
  | long x => cases hv
  | float x => cases hv
  | double x => cases hv
  | retAddr x => cases hv
theorem ax_r_aload {G : AG} {o nL : Nat} {ini : Bool} {cc : ByteArray} {ret : Option FieldType} {d : Nat} {Q : Option Value → AH → Prop} {rc rs pc : Nat} {L : AL} {S : List Value} {h : AH} {i : Nat} {v : Value} (hd : decode cc pc = .ok (.aload i, 2)) (hl : ax_lk L i = some v) (hv : ax_isR v = true) (k : AW G o nL ini cc ret d Q rc rs (pc + 2) L (v :: S) h) : AW G o nL ini cc ret d Q rc rs pc L S h := by
  intro p l e R s m args below meth c Z mc ms ad0 h0 C Rt k1 n ad H locs ls A
  obtain ⟨hx, hb, hml, hown, hini, hE, hB, hR1, hR2, hR3, hR4⟩ := id C
  obtain ⟨a1, a2, a3, a4, a5, a6, a7, a8, a9⟩ := id A
  have w1 : ax_wv h v := a7 (i, v) (ax_lk_mem hl)
  have kk := k p l e R s m args below meth c Z mc ms ad0 h0 C Rt k1 n ad H locs ls ⟨a1, a2, a3, a4, a5, a6, a7, List.forall_mem_cons.mpr ⟨w1, a8⟩, a9⟩
  have g := ax_at_lk a9 hl
  cases v with
  | ref a => exact lv_aload hx hb hd g kk
  | null => exact lv_aloadN hx hb hd g kk
  | int x => cases hv
  | long x => cases hv
  | float x => cases hv
  | double x => cases hv
  | retAddr x => cases hv
theorem ax_r_istore_n {G : AG} {o nL : Nat} {ini : Bool} {cc : ByteArray} {ret : Option FieldType} {d : Nat} {Q : Option Value → AH → Prop} {rc rs pc : Nat} {L : AL} {S : List Value} {h : AH} {i : Fin 4} {x : Int32} (hd : decode cc pc = .ok (.istore_n i, 1)) (hn : (i : Nat) < nL) (k : AW G o nL ini cc ret d Q rc rs (pc + 1) (ax_st1 i (.int x) L) S h) : AW G o nL ini cc ret d Q rc rs pc L (.int x :: S) h := by
  intro p l e R s m args below meth c Z mc ms ad0 h0 C Rt k1 n ad H locs ls A
  obtain ⟨hx, hb, hml, hown, hini, hE, hB, hR1, hR2, hR3, hR4⟩ := id C
  obtain ⟨a1, a2, a3, a4, a5, a6, a7, a8, a9⟩ := id A
  show W p l e R s m args below meth c H locs k1 n Z (F0 m pc ls (.int x :: S.map (ax_vm ad)))
  exact lv_istore_n hx hb hd rfl a9 hn rfl (fun ls1 hl1 => k p l e R s m args below meth c Z mc ms ad0 h0 C Rt k1 n ad H locs ls1 ⟨a1, a2, a3, a4, a5, a6, ax_st1_wv a7 (ax_wv_int _ _), (fun v hv => a8 v (List.mem_cons_of_mem _ hv)), ax_st1_has hl1⟩)
theorem ax_r_istore {G : AG} {o nL : Nat} {ini : Bool} {cc : ByteArray} {ret : Option FieldType} {d : Nat} {Q : Option Value → AH → Prop} {rc rs pc : Nat} {L : AL} {S : List Value} {h : AH} {i : Nat} {x : Int32} (hd : decode cc pc = .ok (.istore i, 2)) (hn : (i : Nat) < nL) (k : AW G o nL ini cc ret d Q rc rs (pc + 2) (ax_st1 i (.int x) L) S h) : AW G o nL ini cc ret d Q rc rs pc L (.int x :: S) h := by
  intro p l e R s m args below meth c Z mc ms ad0 h0 C Rt k1 n ad H locs ls A
  obtain ⟨hx, hb, hml, hown, hini, hE, hB, hR1, hR2, hR3, hR4⟩ := id C
  obtain ⟨a1, a2, a3, a4, a5, a6, a7, a8, a9⟩ := id A
  show W p l e R s m args below meth c H locs k1 n Z (F0 m pc ls (.int x :: S.map (ax_vm ad)))
  exact lv_istore hx hb hd a9 hn rfl (fun ls1 hl1 => k p l e R s m args below meth c Z mc ms ad0 h0 C Rt k1 n ad H locs ls1 ⟨a1, a2, a3, a4, a5, a6, ax_st1_wv a7 (ax_wv_int _ _), (fun v hv => a8 v (List.mem_cons_of_mem _ hv)), ax_st1_has hl1⟩)
theorem ax_r_lstore_n {G : AG} {o nL : Nat} {ini : Bool} {cc : ByteArray} {ret : Option FieldType} {d : Nat} {Q : Option Value → AH → Prop} {rc rs pc : Nat} {L : AL} {S : List Value} {h : AH} {i : Fin 4} {x : Int64} (hd : decode cc pc = .ok (.lstore_n i, 1)) (hn : (i : Nat) + 1 < nL) (k : AW G o nL ini cc ret d Q rc rs (pc + 1) (ax_st2 i (.long x) L) S h) : AW G o nL ini cc ret d Q rc rs pc L (.long x :: S) h := by
  intro p l e R s m args below meth c Z mc ms ad0 h0 C Rt k1 n ad H locs ls A
  obtain ⟨hx, hb, hml, hown, hini, hE, hB, hR1, hR2, hR3, hR4⟩ := id C
  obtain ⟨a1, a2, a3, a4, a5, a6, a7, a8, a9⟩ := id A
  show W p l e R s m args below meth c H locs k1 n Z (F0 m pc ls (.long x :: S.map (ax_vm ad)))
  exact lv_lstore_n hx hb hd rfl a9 hn rfl (fun ls1 hl1 => k p l e R s m args below meth c Z mc ms ad0 h0 C Rt k1 n ad H locs ls1 ⟨a1, a2, a3, a4, a5, a6, ax_st2_wv a7 (ax_wv_long _ _), (fun v hv => a8 v (List.mem_cons_of_mem _ hv)), ax_st2_has hl1⟩)
theorem ax_r_lstore {G : AG} {o nL : Nat} {ini : Bool} {cc : ByteArray} {ret : Option FieldType} {d : Nat} {Q : Option Value → AH → Prop} {rc rs pc : Nat} {L : AL} {S : List Value} {h : AH} {i : Nat} {x : Int64} (hd : decode cc pc = .ok (.lstore i, 2)) (hn : (i : Nat) + 1 < nL) (k : AW G o nL ini cc ret d Q rc rs (pc + 2) (ax_st2 i (.long x) L) S h) : AW G o nL ini cc ret d Q rc rs pc L (.long x :: S) h := by
  intro p l e R s m args below meth c Z mc ms ad0 h0 C Rt k1 n ad H locs ls A
  obtain ⟨hx, hb, hml, hown, hini, hE, hB, hR1, hR2, hR3, hR4⟩ := id C
  obtain ⟨a1, a2, a3, a4, a5, a6, a7, a8, a9⟩ := id A
  show W p l e R s m args below meth c H locs k1 n Z (F0 m pc ls (.long x :: S.map (ax_vm ad)))
  exact lv_lstore hx hb hd a9 hn rfl (fun ls1 hl1 => k p l e R s m args below meth c Z mc ms ad0 h0 C Rt k1 n ad H locs ls1 ⟨a1, a2, a3, a4, a5, a6, ax_st2_wv a7 (ax_wv_long _ _), (fun v hv => a8 v (List.mem_cons_of_mem _ hv)), ax_st2_has hl1⟩)
theorem ax_r_astore_n {G : AG} {o nL : Nat} {ini : Bool} {cc : ByteArray} {ret : Option FieldType} {d : Nat} {Q : Option Value → AH → Prop} {rc rs pc : Nat} {L : AL} {S : List Value} {h : AH} {i : Fin 4} {v : Value} (hd : decode cc pc = .ok (.astore_n i, 1)) (hn : (i : Nat) < nL) (hv : ax_isR v = true) (k : AW G o nL ini cc ret d Q rc rs (pc + 1) (ax_st1 i v L) S h) : AW G o nL ini cc ret d Q rc rs pc L (v :: S) h := by
  intro p l e R s m args below meth c Z mc ms ad0 h0 C Rt k1 n ad H locs ls A
  obtain ⟨hx, hb, hml, hown, hini, hE, hB, hR1, hR2, hR3, hR4⟩ := id C
  obtain ⟨a1, a2, a3, a4, a5, a6, a7, a8, a9⟩ := id A
  have w1 : ax_wv h v := a8 v List.mem_cons_self
  have kk : ∀ ls1 : Array Slot, lv_has ls1 nL ((ax_st1 i v L).map (fun q => (q.1, ax_vm ad q.2))) → W p l e R s m args below meth c H locs k1 n Z (F0 m (pc + 1) ls1 (S.map (ax_vm ad))) := fun ls1 hl1 => k p l e R s m args below meth c Z mc ms ad0 h0 C Rt k1 n ad H locs ls1 ⟨a1, a2, a3, a4, a5, a6, ax_st1_wv a7 w1, (fun v hv => a8 v (List.mem_cons_of_mem _ hv)), hl1⟩
  cases v with
  | ref a => exact lv_astore_n hx hb hd rfl a9 hn rfl (fun ls1 hl1 => kk ls1 (ax_st1_has hl1))
  | null => exact lv_astore_nN hx hb hd rfl a9 hn rfl (fun ls1 hl1 => kk ls1 (ax_st1_has hl1))
  | int x => cases hv
  | long x => cases hv
  | float x => cases hv
  | double x => cases hv
  | retAddr x => cases hv
theorem ax_r_astore {G : AG} {o nL : Nat} {ini : Bool} {cc : ByteArray} {ret : Option FieldType} {d : Nat} {Q : Option Value → AH → Prop} {rc rs pc : Nat} {L : AL} {S : List Value} {h : AH} {i : Nat} {v : Value} (hd : decode cc pc = .ok (.astore i, 2)) (hn : (i : Nat) < nL) (hv : ax_isR v = true) (k : AW G o nL ini cc ret d Q rc rs (pc + 2) (ax_st1 i v L) S h) : AW G o nL ini cc ret d Q rc rs pc L (v :: S) h := by
  intro p l e R s m args below meth c Z mc ms ad0 h0 C Rt k1 n ad H locs ls A
  obtain ⟨hx, hb, hml, hown, hini, hE, hB, hR1, hR2, hR3, hR4⟩ := id C
  obtain ⟨a1, a2, a3, a4, a5, a6, a7, a8, a9⟩ := id A
  have w1 : ax_wv h v := a8 v List.mem_cons_self
  have kk : ∀ ls1 : Array Slot, lv_has ls1 nL ((ax_st1 i v L).map (fun q => (q.1, ax_vm ad q.2))) → W p l e R s m args below meth c H locs k1 n Z (F0 m (pc + 2) ls1 (S.map (ax_vm ad))) := fun ls1 hl1 => k p l e R s m args below meth c Z mc ms ad0 h0 C Rt k1 n ad H locs ls1 ⟨a1, a2, a3, a4, a5, a6, ax_st1_wv a7 w1, (fun v hv => a8 v (List.mem_cons_of_mem _ hv)), hl1⟩
  cases v with
  | ref a => exact lv_astore hx hb hd a9 hn rfl (fun ls1 hl1 => kk ls1 (ax_st1_has hl1))
  | null => exact lv_astoreN hx hb hd a9 hn rfl (fun ls1 hl1 => kk ls1 (ax_st1_has hl1))
  | int x => cases hv
  | long x => cases hv
  | float x => cases hv
  | double x => cases hv
  | retAddr x => cases hv
theorem ax_r_iinc {G : AG} {o nL : Nat} {ini : Bool} {cc : ByteArray} {ret : Option FieldType} {d : Nat} {Q : Option Value → AH → Prop} {rc rs pc : Nat} {L : AL} {S : List Value} {h : AH} {i : Nat} {z : Int} {x : Int32} (hd : decode cc pc = .ok (.iinc i z, 3)) (hn : i < nL) (hl : ax_lk L i = some (.int x)) (k : AW G o nL ini cc ret d Q rc rs (pc + 3) (ax_st1 i (.int (x + Int32.ofInt z)) L) S h) : AW G o nL ini cc ret d Q rc rs pc L S h := by
  intro p l e R s m args below meth c Z mc ms ad0 h0 C Rt k1 n ad H locs ls A
  obtain ⟨hx, hb, hml, hown, hini, hE, hB, hR1, hR2, hR3, hR4⟩ := id C
  obtain ⟨a1, a2, a3, a4, a5, a6, a7, a8, a9⟩ := id A
  obtain ⟨j, hj⟩ := List.getElem?_of_mem (List.mem_map.mpr ⟨(i, Value.int x), ax_lk_mem hl, rfl⟩ : (i, Value.int x) ∈ L.map (fun q => (q.1, ax_vm ad q.2)))
  exact lv_iinc hx hb hd a9 hj rfl hn rfl (fun ls1 hl1 => k p l e R s m args below meth c Z mc ms ad0 h0 C Rt k1 n ad H locs ls1 ⟨a1, a2, a3, a4, a5, a6, ax_st1_wv a7 (ax_wv_int _ _), a8, ax_st1_has hl1⟩)
theorem ax_r_iadd {G : AG} {o nL : Nat} {ini : Bool} {cc : ByteArray} {ret : Option FieldType} {d : Nat} {Q : Option Value → AH → Prop} {rc rs pc : Nat} {L : AL} {S : List Value} {h : AH} {x y : Int32} (hd : decode cc pc = .ok (.iadd, 1))  (k : AW G o nL ini cc ret d Q rc rs (pc + 1) L (.int (x + y) :: S) h) : AW G o nL ini cc ret d Q rc rs pc L (.int y :: .int x :: S) h := by
  intro p l e R s m args below meth c Z mc ms ad0 h0 C Rt k1 n ad H locs ls A
  obtain ⟨hx, hb, hml, hown, hini, hE, hB, hR1, hR2, hR3, hR4⟩ := id C
  obtain ⟨a1, a2, a3, a4, a5, a6, a7, a8, a9⟩ := id A
  show W p l e R s m args below meth c H locs k1 n Z (F0 m pc ls (.int y :: .int x :: S.map (ax_vm ad)))
  exact lv_iadd hx hb hd (k p l e R s m args below meth c Z mc ms ad0 h0 C Rt k1 n ad H locs ls ⟨a1, a2, a3, a4, a5, a6, a7, (List.forall_mem_cons.mpr ⟨ax_wv_int _ _, (fun v hv => a8 v (List.mem_cons_of_mem _ (List.mem_cons_of_mem _ hv)))⟩), a9⟩)
theorem ax_r_isub {G : AG} {o nL : Nat} {ini : Bool} {cc : ByteArray} {ret : Option FieldType} {d : Nat} {Q : Option Value → AH → Prop} {rc rs pc : Nat} {L : AL} {S : List Value} {h : AH} {x y : Int32} (hd : decode cc pc = .ok (.isub, 1))  (k : AW G o nL ini cc ret d Q rc rs (pc + 1) L (.int (x - y) :: S) h) : AW G o nL ini cc ret d Q rc rs pc L (.int y :: .int x :: S) h := by
  intro p l e R s m args below meth c Z mc ms ad0 h0 C Rt k1 n ad H locs ls A
  obtain ⟨hx, hb, hml, hown, hini, hE, hB, hR1, hR2, hR3, hR4⟩ := id C
  obtain ⟨a1, a2, a3, a4, a5, a6, a7, a8, a9⟩ := id A
  show W p l e R s m args below meth c H locs k1 n Z (F0 m pc ls (.int y :: .int x :: S.map (ax_vm ad)))
  exact lv_isub hx hb hd (k p l e R s m args below meth c Z mc ms ad0 h0 C Rt k1 n ad H locs ls ⟨a1, a2, a3, a4, a5, a6, a7, (List.forall_mem_cons.mpr ⟨ax_wv_int _ _, (fun v hv => a8 v (List.mem_cons_of_mem _ (List.mem_cons_of_mem _ hv)))⟩), a9⟩)
theorem ax_r_imul {G : AG} {o nL : Nat} {ini : Bool} {cc : ByteArray} {ret : Option FieldType} {d : Nat} {Q : Option Value → AH → Prop} {rc rs pc : Nat} {L : AL} {S : List Value} {h : AH} {x y : Int32} (hd : decode cc pc = .ok (.imul, 1))  (k : AW G o nL ini cc ret d Q rc rs (pc + 1) L (.int (x * y) :: S) h) : AW G o nL ini cc ret d Q rc rs pc L (.int y :: .int x :: S) h := by
  intro p l e R s m args below meth c Z mc ms ad0 h0 C Rt k1 n ad H locs ls A
  obtain ⟨hx, hb, hml, hown, hini, hE, hB, hR1, hR2, hR3, hR4⟩ := id C
  obtain ⟨a1, a2, a3, a4, a5, a6, a7, a8, a9⟩ := id A
  show W p l e R s m args below meth c H locs k1 n Z (F0 m pc ls (.int y :: .int x :: S.map (ax_vm ad)))
  exact lv_imul hx hb hd (k p l e R s m args below meth c Z mc ms ad0 h0 C Rt k1 n ad H locs ls ⟨a1, a2, a3, a4, a5, a6, a7, (List.forall_mem_cons.mpr ⟨ax_wv_int _ _, (fun v hv => a8 v (List.mem_cons_of_mem _ (List.mem_cons_of_mem _ hv)))⟩), a9⟩)
theorem ax_r_iand {G : AG} {o nL : Nat} {ini : Bool} {cc : ByteArray} {ret : Option FieldType} {d : Nat} {Q : Option Value → AH → Prop} {rc rs pc : Nat} {L : AL} {S : List Value} {h : AH} {x y : Int32} (hd : decode cc pc = .ok (.iand, 1))  (k : AW G o nL ini cc ret d Q rc rs (pc + 1) L (.int (x &&& y) :: S) h) : AW G o nL ini cc ret d Q rc rs pc L (.int y :: .int x :: S) h := by
  intro p l e R s m args below meth c Z mc ms ad0 h0 C Rt k1 n ad H locs ls A
  obtain ⟨hx, hb, hml, hown, hini, hE, hB, hR1, hR2, hR3, hR4⟩ := id C
  obtain ⟨a1, a2, a3, a4, a5, a6, a7, a8, a9⟩ := id A
  show W p l e R s m args below meth c H locs k1 n Z (F0 m pc ls (.int y :: .int x :: S.map (ax_vm ad)))
  exact lv_iand hx hb hd (k p l e R s m args below meth c Z mc ms ad0 h0 C Rt k1 n ad H locs ls ⟨a1, a2, a3, a4, a5, a6, a7, (List.forall_mem_cons.mpr ⟨ax_wv_int _ _, (fun v hv => a8 v (List.mem_cons_of_mem _ (List.mem_cons_of_mem _ hv)))⟩), a9⟩)
theorem ax_r_ior {G : AG} {o nL : Nat} {ini : Bool} {cc : ByteArray} {ret : Option FieldType} {d : Nat} {Q : Option Value → AH → Prop} {rc rs pc : Nat} {L : AL} {S : List Value} {h : AH} {x y : Int32} (hd : decode cc pc = .ok (.ior, 1))  (k : AW G o nL ini cc ret d Q rc rs (pc + 1) L (.int (x ||| y) :: S) h) : AW G o nL ini cc ret d Q rc rs pc L (.int y :: .int x :: S) h := by
  intro p l e R s m args below meth c Z mc ms ad0 h0 C Rt k1 n ad H locs ls A
  obtain ⟨hx, hb, hml, hown, hini, hE, hB, hR1, hR2, hR3, hR4⟩ := id C
  obtain ⟨a1, a2, a3, a4, a5, a6, a7, a8, a9⟩ := id A
  show W p l e R s m args below meth c H locs k1 n Z (F0 m pc ls (.int y :: .int x :: S.map (ax_vm ad)))
  exact lv_ior hx hb hd (k p l e R s m args below meth c Z mc ms ad0 h0 C Rt k1 n ad H locs ls ⟨a1, a2, a3, a4, a5, a6, a7, (List.forall_mem_cons.mpr ⟨ax_wv_int _ _, (fun v hv => a8 v (List.mem_cons_of_mem _ (List.mem_cons_of_mem _ hv)))⟩), a9⟩)
theorem ax_r_ixor {G : AG} {o nL : Nat} {ini : Bool} {cc : ByteArray} {ret : Option FieldType} {d : Nat} {Q : Option Value → AH → Prop} {rc rs pc : Nat} {L : AL} {S : List Value} {h : AH} {x y : Int32} (hd : decode cc pc = .ok (.ixor, 1))  (k : AW G o nL ini cc ret d Q rc rs (pc + 1) L (.int (x ^^^ y) :: S) h) : AW G o nL ini cc ret d Q rc rs pc L (.int y :: .int x :: S) h := by
  intro p l e R s m args below meth c Z mc ms ad0 h0 C Rt k1 n ad H locs ls A
  obtain ⟨hx, hb, hml, hown, hini, hE, hB, hR1, hR2, hR3, hR4⟩ := id C
  obtain ⟨a1, a2, a3, a4, a5, a6, a7, a8, a9⟩ := id A
  show W p l e R s m args below meth c H locs k1 n Z (F0 m pc ls (.int y :: .int x :: S.map (ax_vm ad)))
  exact lv_ixor hx hb hd (k p l e R s m args below meth c Z mc ms ad0 h0 C Rt k1 n ad H locs ls ⟨a1, a2, a3, a4, a5, a6, a7, (List.forall_mem_cons.mpr ⟨ax_wv_int _ _, (fun v hv => a8 v (List.mem_cons_of_mem _ (List.mem_cons_of_mem _ hv)))⟩), a9⟩)
theorem ax_r_ishl {G : AG} {o nL : Nat} {ini : Bool} {cc : ByteArray} {ret : Option FieldType} {d : Nat} {Q : Option Value → AH → Prop} {rc rs pc : Nat} {L : AL} {S : List Value} {h : AH} {x y : Int32} (hd : decode cc pc = .ok (.ishl, 1))  (k : AW G o nL ini cc ret d Q rc rs (pc + 1) L (.int (x <<< (y &&& 31)) :: S) h) : AW G o nL ini cc ret d Q rc rs pc L (.int y :: .int x :: S) h := by
  intro p l e R s m args below meth c Z mc ms ad0 h0 C Rt k1 n ad H locs ls A
  obtain ⟨hx, hb, hml, hown, hini, hE, hB, hR1, hR2, hR3, hR4⟩ := id C
  obtain ⟨a1, a2, a3, a4, a5, a6, a7, a8, a9⟩ := id A
  show W p l e R s m args below meth c H locs k1 n Z (F0 m pc ls (.int y :: .int x :: S.map (ax_vm ad)))
  exact lv_ishl hx hb hd (k p l e R s m args below meth c Z mc ms ad0 h0 C Rt k1 n ad H locs ls ⟨a1, a2, a3, a4, a5, a6, a7, (List.forall_mem_cons.mpr ⟨ax_wv_int _ _, (fun v hv => a8 v (List.mem_cons_of_mem _ (List.mem_cons_of_mem _ hv)))⟩), a9⟩)
theorem ax_r_ishr {G : AG} {o nL : Nat} {ini : Bool} {cc : ByteArray} {ret : Option FieldType} {d : Nat} {Q : Option Value → AH → Prop} {rc rs pc : Nat} {L : AL} {S : List Value} {h : AH} {x y : Int32} (hd : decode cc pc = .ok (.ishr, 1))  (k : AW G o nL ini cc ret d Q rc rs (pc + 1) L (.int (x >>> (y &&& 31)) :: S) h) : AW G o nL ini cc ret d Q rc rs pc L (.int y :: .int x :: S) h := by
  intro p l e R s m args below meth c Z mc ms ad0 h0 C Rt k1 n ad H locs ls A
  obtain ⟨hx, hb, hml, hown, hini, hE, hB, hR1, hR2, hR3, hR4⟩ := id C
  obtain ⟨a1, a2, a3, a4, a5, a6, a7, a8, a9⟩ := id A
  show W p l e R s m args below meth c H locs k1 n Z (F0 m pc ls (.int y :: .int x :: S.map (ax_vm ad)))
  exact lv_ishr hx hb hd (k p l e R s m args below meth c Z mc ms ad0 h0 C Rt k1 n ad H locs ls ⟨a1, a2, a3, a4, a5, a6, a7, (List.forall_mem_cons.mpr ⟨ax_wv_int _ _, (fun v hv => a8 v (List.mem_cons_of_mem _ (List.mem_cons_of_mem _ hv)))⟩), a9⟩)
theorem ax_r_iushr {G : AG} {o nL : Nat} {ini : Bool} {cc : ByteArray} {ret : Option FieldType} {d : Nat} {Q : Option Value → AH → Prop} {rc rs pc : Nat} {L : AL} {S : List Value} {h : AH} {x y : Int32} (hd : decode cc pc = .ok (.iushr, 1))  (k : AW G o nL ini cc ret d Q rc rs (pc + 1) L (.int ((x.toUInt32 >>> (y.toUInt32 &&& Int32.toUInt32 31)).toInt32) :: S) h) : AW G o nL ini cc ret d Q rc rs pc L (.int y :: .int x :: S) h := by
  intro p l e R s m args below meth c Z mc ms ad0 h0 C Rt k1 n ad H locs ls A
  obtain ⟨hx, hb, hml, hown, hini, hE, hB, hR1, hR2, hR3, hR4⟩ := id C
  obtain ⟨a1, a2, a3, a4, a5, a6, a7, a8, a9⟩ := id A
  show W p l e R s m args below meth c H locs k1 n Z (F0 m pc ls (.int y :: .int x :: S.map (ax_vm ad)))
  exact lv_iushr hx hb hd rfl (k p l e R s m args below meth c Z mc ms ad0 h0 C Rt k1 n ad H locs ls ⟨a1, a2, a3, a4, a5, a6, a7, (List.forall_mem_cons.mpr ⟨ax_wv_int _ _, (fun v hv => a8 v (List.mem_cons_of_mem _ (List.mem_cons_of_mem _ hv)))⟩), a9⟩)
theorem ax_r_idiv {G : AG} {o nL : Nat} {ini : Bool} {cc : ByteArray} {ret : Option FieldType} {d : Nat} {Q : Option Value → AH → Prop} {rc rs pc : Nat} {L : AL} {S : List Value} {h : AH} {x y : Int32} (hd : decode cc pc = .ok (.idiv, 1)) (hne : ¬ y = 0) (k : AW G o nL ini cc ret d Q rc rs (pc + 1) L (.int (x / y) :: S) h) : AW G o nL ini cc ret d Q rc rs pc L (.int y :: .int x :: S) h := by
  intro p l e R s m args below meth c Z mc ms ad0 h0 C Rt k1 n ad H locs ls A
  obtain ⟨hx, hb, hml, hown, hini, hE, hB, hR1, hR2, hR3, hR4⟩ := id C
  obtain ⟨a1, a2, a3, a4, a5, a6, a7, a8, a9⟩ := id A
  show W p l e R s m args below meth c H locs k1 n Z (F0 m pc ls (.int y :: .int x :: S.map (ax_vm ad)))
  exact lv_idiv hx hb hd hne (k p l e R s m args below meth c Z mc ms ad0 h0 C Rt k1 n ad H locs ls ⟨a1, a2, a3, a4, a5, a6, a7, (List.forall_mem_cons.mpr ⟨ax_wv_int _ _, (fun v hv => a8 v (List.mem_cons_of_mem _ (List.mem_cons_of_mem _ hv)))⟩), a9⟩)
theorem ax_r_irem {G : AG} {o nL : Nat} {ini : Bool} {cc : ByteArray} {ret : Option FieldType} {d : Nat} {Q : Option Value → AH → Prop} {rc rs pc : Nat} {L : AL} {S : List Value} {h : AH} {x y : Int32} (hd : decode cc pc = .ok (.irem, 1)) (hne : ¬ y = 0) (k : AW G o nL ini cc ret d Q rc rs (pc + 1) L (.int (x - x / y * y) :: S) h) : AW G o nL ini cc ret d Q rc rs pc L (.int y :: .int x :: S) h := by
  intro p l e R s m args below meth c Z mc ms ad0 h0 C Rt k1 n ad H locs ls A
  obtain ⟨hx, hb, hml, hown, hini, hE, hB, hR1, hR2, hR3, hR4⟩ := id C
  obtain ⟨a1, a2, a3, a4, a5, a6, a7, a8, a9⟩ := id A
  show W p l e R s m args below meth c H locs k1 n Z (F0 m pc ls (.int y :: .int x :: S.map (ax_vm ad)))
  exact lv_irem hx hb hd hne (k p l e R s m args below meth c Z mc ms ad0 h0 C Rt k1 n ad H locs ls ⟨a1, a2, a3, a4, a5, a6, a7, (List.forall_mem_cons.mpr ⟨ax_wv_int _ _, (fun v hv => a8 v (List.mem_cons_of_mem _ (List.mem_cons_of_mem _ hv)))⟩), a9⟩)
theorem ax_r_ineg {G : AG} {o nL : Nat} {ini : Bool} {cc : ByteArray} {ret : Option FieldType} {d : Nat} {Q : Option Value → AH → Prop} {rc rs pc : Nat} {L : AL} {S : List Value} {h : AH} {x : Int32} (hd : decode cc pc = .ok (.ineg, 1))  (k : AW G o nL ini cc ret d Q rc rs (pc + 1) L (.int (-x) :: S) h) : AW G o nL ini cc ret d Q rc rs pc L (.int x :: S) h := by
  intro p l e R s m args below meth c Z mc ms ad0 h0 C Rt k1 n ad H locs ls A
  obtain ⟨hx, hb, hml, hown, hini, hE, hB, hR1, hR2, hR3, hR4⟩ := id C
  obtain ⟨a1, a2, a3, a4, a5, a6, a7, a8, a9⟩ := id A
  show W p l e R s m args below meth c H locs k1 n Z (F0 m pc ls (.int x :: S.map (ax_vm ad)))
  exact lv_ineg hx hb hd (k p l e R s m args below meth c Z mc ms ad0 h0 C Rt k1 n ad H locs ls ⟨a1, a2, a3, a4, a5, a6, a7, (List.forall_mem_cons.mpr ⟨ax_wv_int _ _, (fun v hv => a8 v (List.mem_cons_of_mem _ hv))⟩), a9⟩)
theorem ax_r_ladd {G : AG} {o nL : Nat} {ini : Bool} {cc : ByteArray} {ret : Option FieldType} {d : Nat} {Q : Option Value → AH → Prop} {rc rs pc : Nat} {L : AL} {S : List Value} {h : AH} {x y : Int64} (hd : decode cc pc = .ok (.ladd, 1))  (k : AW G o nL ini cc ret d Q rc rs (pc + 1) L (.long (x + y) :: S) h) : AW G o nL ini cc ret d Q rc rs pc L (.long y :: .long x :: S) h := by
  intro p l e R s m args below meth c Z mc ms ad0 h0 C Rt k1 n ad H locs ls A
  obtain ⟨hx, hb, hml, hown, hini, hE, hB, hR1, hR2, hR3, hR4⟩ := id C
  obtain ⟨a1, a2, a3, a4, a5, a6, a7, a8, a9⟩ := id A
  show W p l e R s m args below meth c H locs k1 n Z (F0 m pc ls (.long y :: .long x :: S.map (ax_vm ad)))
  exact lv_ladd hx hb hd (k p l e R s m args below meth c Z mc ms ad0 h0 C Rt k1 n ad H locs ls ⟨a1, a2, a3, a4, a5, a6, a7, (List.forall_mem_cons.mpr ⟨ax_wv_long _ _, (fun v hv => a8 v (List.mem_cons_of_mem _ (List.mem_cons_of_mem _ hv)))⟩), a9⟩)
theorem ax_r_lsub {G : AG} {o nL : Nat} {ini : Bool} {cc : ByteArray} {ret : Option FieldType} {d : Nat} {Q : Option Value → AH → Prop} {rc rs pc : Nat} {L : AL} {S : List Value} {h : AH} {x y : Int64} (hd : decode cc pc = .ok (.lsub, 1))  (k : AW G o nL ini cc ret d Q rc rs (pc + 1) L (.long (x - y) :: S) h) : AW G o nL ini cc ret d Q rc rs pc L (.long y :: .long x :: S) h := by
  intro p l e R s m args below meth c Z mc ms ad0 h0 C Rt k1 n ad H locs ls A
  obtain ⟨hx, hb, hml, hown, hini, hE, hB, hR1, hR2, hR3, hR4⟩ := id C
  obtain ⟨a1, a2, a3, a4, a5, a6, a7, a8, a9⟩ := id A
  show W p l e R s m args below meth c H locs k1 n Z (F0 m pc ls (.long y :: .long x :: S.map (ax_vm ad)))
  exact lv_lsub hx hb hd (k p l e R s m args below meth c Z mc ms ad0 h0 C Rt k1 n ad H locs ls ⟨a1, a2, a3, a4, a5, a6, a7, (List.forall_mem_cons.mpr ⟨ax_wv_long _ _, (fun v hv => a8 v (List.mem_cons_of_mem _ (List.mem_cons_of_mem _ hv)))⟩), a9⟩)
theorem ax_r_lmul {G : AG} {o nL : Nat} {ini : Bool} {cc : ByteArray} {ret : Option FieldType} {d : Nat} {Q : Option Value → AH → Prop} {rc rs pc : Nat} {L : AL} {S : List Value} {h : AH} {x y : Int64} (hd : decode cc pc = .ok (.lmul, 1))  (k : AW G o nL ini cc ret d Q rc rs (pc + 1) L (.long (x * y) :: S) h) : AW G o nL ini cc ret d Q rc rs pc L (.long y :: .long x :: S) h := by
  intro p l e R s m args below meth c Z mc ms ad0 h0 C Rt k1 n ad H locs ls A
  obtain ⟨hx, hb, hml, hown, hini, hE, hB, hR1, hR2, hR3, hR4⟩ := id C
  obtain ⟨a1, a2, a3, a4, a5, a6, a7, a8, a9⟩ := id A
  show W p l e R s m args below meth c H locs k1 n Z (F0 m pc ls (.long y :: .long x :: S.map (ax_vm ad)))
  exact lv_lmul hx hb hd (k p l e R s m args below meth c Z mc ms ad0 h0 C Rt k1 n ad H locs ls ⟨a1, a2, a3, a4, a5, a6, a7, (List.forall_mem_cons.mpr ⟨ax_wv_long _ _, (fun v hv => a8 v (List.mem_cons_of_mem _ (List.mem_cons_of_mem _ hv)))⟩), a9⟩)
theorem ax_r_ldiv {G : AG} {o nL : Nat} {ini : Bool} {cc : ByteArray} {ret : Option FieldType} {d : Nat} {Q : Option Value → AH → Prop} {rc rs pc : Nat} {L : AL} {S : List Value} {h : AH} {x y : Int64} (hd : decode cc pc = .ok (.ldiv, 1)) (hne : ¬ y = 0) (k : AW G o nL ini cc ret d Q rc rs (pc + 1) L (.long (x / y) :: S) h) : AW G o nL ini cc ret d Q rc rs pc L (.long y :: .long x :: S) h := by
  intro p l e R s m args below meth c Z mc ms ad0 h0 C Rt k1 n ad H locs ls A
  obtain ⟨hx, hb, hml, hown, hini, hE, hB, hR1, hR2, hR3, hR4⟩ := id C
  obtain ⟨a1, a2, a3, a4, a5, a6, a7, a8, a9⟩ := id A
  show W p l e R s m args below meth c H locs k1 n Z (F0 m pc ls (.long y :: .long x :: S.map (ax_vm ad)))
  exact lv_ldiv hx hb hd hne (k p l e R s m args below meth c Z mc ms ad0 h0 C Rt k1 n ad H locs ls ⟨a1, a2, a3, a4, a5, a6, a7, (List.forall_mem_cons.mpr ⟨ax_wv_long _ _, (fun v hv => a8 v (List.mem_cons_of_mem _ (List.mem_cons_of_mem _ hv)))⟩), a9⟩)
theorem ax_r_lrem {G : AG} {o nL : Nat} {ini : Bool} {cc : ByteArray} {ret : Option FieldType} {d : Nat} {Q : Option Value → AH → Prop} {rc rs pc : Nat} {L : AL} {S : List Value} {h : AH} {x y : Int64} (hd : decode cc pc = .ok (.lrem, 1)) (hne : ¬ y = 0) (k : AW G o nL ini cc ret d Q rc rs (pc + 1) L (.long (x - x / y * y) :: S) h) : AW G o nL ini cc ret d Q rc rs pc L (.long y :: .long x :: S) h := by
  intro p l e R s m args below meth c Z mc ms ad0 h0 C Rt k1 n ad H locs ls A
  obtain ⟨hx, hb, hml, hown, hini, hE, hB, hR1, hR2, hR3, hR4⟩ := id C
  obtain ⟨a1, a2, a3, a4, a5, a6, a7, a8, a9⟩ := id A
  show W p l e R s m args below meth c H locs k1 n Z (F0 m pc ls (.long y :: .long x :: S.map (ax_vm ad)))
  exact lv_lrem hx hb hd hne (k p l e R s m args below meth c Z mc ms ad0 h0 C Rt k1 n ad H locs ls ⟨a1, a2, a3, a4, a5, a6, a7, (List.forall_mem_cons.mpr ⟨ax_wv_long _ _, (fun v hv => a8 v (List.mem_cons_of_mem _ (List.mem_cons_of_mem _ hv)))⟩), a9⟩)
theorem ax_r_lcmp {G : AG} {o nL : Nat} {ini : Bool} {cc : ByteArray} {ret : Option FieldType} {d : Nat} {Q : Option Value → AH → Prop} {rc rs pc : Nat} {L : AL} {S : List Value} {h : AH} {x y : Int64} (hd : decode cc pc = .ok (.lcmp, 1))  (k : AW G o nL ini cc ret d Q rc rs (pc + 1) L (.int (lg_cmp x y) :: S) h) : AW G o nL ini cc ret d Q rc rs pc L (.long y :: .long x :: S) h := by
  intro p l e R s m args below meth c Z mc ms ad0 h0 C Rt k1 n ad H locs ls A
  obtain ⟨hx, hb, hml, hown, hini, hE, hB, hR1, hR2, hR3, hR4⟩ := id C
  obtain ⟨a1, a2, a3, a4, a5, a6, a7, a8, a9⟩ := id A
  show W p l e R s m args below meth c H locs k1 n Z (F0 m pc ls (.long y :: .long x :: S.map (ax_vm ad)))
  exact W.lcmp hx hb hd (k p l e R s m args below meth c Z mc ms ad0 h0 C Rt k1 n ad H locs ls ⟨a1, a2, a3, a4, a5, a6, a7, (List.forall_mem_cons.mpr ⟨ax_wv_int _ _, (fun v hv => a8 v (List.mem_cons_of_mem _ (List.mem_cons_of_mem _ hv)))⟩), a9⟩)
theorem ax_r_i2l {G : AG} {o nL : Nat} {ini : Bool} {cc : ByteArray} {ret : Option FieldType} {d : Nat} {Q : Option Value → AH → Prop} {rc rs pc : Nat} {L : AL} {S : List Value} {h : AH} {x : Int32} (hd : decode cc pc = .ok (.i2l, 1))  (k : AW G o nL ini cc ret d Q rc rs (pc + 1) L (.long x.toInt64 :: S) h) : AW G o nL ini cc ret d Q rc rs pc L (.int x :: S) h := by
  intro p l e R s m args below meth c Z mc ms ad0 h0 C Rt k1 n ad H locs ls A
  obtain ⟨hx, hb, hml, hown, hini, hE, hB, hR1, hR2, hR3, hR4⟩ := id C
  obtain ⟨a1, a2, a3, a4, a5, a6, a7, a8, a9⟩ := id A
  show W p l e R s m args below meth c H locs k1 n Z (F0 m pc ls (.int x :: S.map (ax_vm ad)))
  exact lv_i2l hx hb hd rfl (k p l e R s m args below meth c Z mc ms ad0 h0 C Rt k1 n ad H locs ls ⟨a1, a2, a3, a4, a5, a6, a7, (List.forall_mem_cons.mpr ⟨ax_wv_long _ _, (fun v hv => a8 v (List.mem_cons_of_mem _ hv))⟩), a9⟩)
theorem ax_r_i2b {G : AG} {o nL : Nat} {ini : Bool} {cc : ByteArray} {ret : Option FieldType} {d : Nat} {Q : Option Value → AH → Prop} {rc rs pc : Nat} {L : AL} {S : List Value} {h : AH} {x : Int32} (hd : decode cc pc = .ok (.i2b, 1))  (k : AW G o nL ini cc ret d Q rc rs (pc + 1) L (.int x.toInt8.toInt32 :: S) h) : AW G o nL ini cc ret d Q rc rs pc L (.int x :: S) h := by
  intro p l e R s m args below meth c Z mc ms ad0 h0 C Rt k1 n ad H locs ls A
  obtain ⟨hx, hb, hml, hown, hini, hE, hB, hR1, hR2, hR3, hR4⟩ := id C
  obtain ⟨a1, a2, a3, a4, a5, a6, a7, a8, a9⟩ := id A
  show W p l e R s m args below meth c H locs k1 n Z (F0 m pc ls (.int x :: S.map (ax_vm ad)))
  exact lv_i2b hx hb hd rfl (k p l e R s m args below meth c Z mc ms ad0 h0 C Rt k1 n ad H locs ls ⟨a1, a2, a3, a4, a5, a6, a7, (List.forall_mem_cons.mpr ⟨ax_wv_int _ _, (fun v hv => a8 v (List.mem_cons_of_mem _ hv))⟩), a9⟩)
theorem ax_r_i2s {G : AG} {o nL : Nat} {ini : Bool} {cc : ByteArray} {ret : Option FieldType} {d : Nat} {Q : Option Value → AH → Prop} {rc rs pc : Nat} {L : AL} {S : List Value} {h : AH} {x : Int32} (hd : decode cc pc = .ok (.i2s, 1))  (k : AW G o nL ini cc ret d Q rc rs (pc + 1) L (.int x.toInt16.toInt32 :: S) h) : AW G o nL ini cc ret d Q rc rs pc L (.int x :: S) h := by
  intro p l e R s m args below meth c Z mc ms ad0 h0 C Rt k1 n ad H locs ls A
  obtain ⟨hx, hb, hml, hown, hini, hE, hB, hR1, hR2, hR3, hR4⟩ := id C
  obtain ⟨a1, a2, a3, a4, a5, a6, a7, a8, a9⟩ := id A
  show W p l e R s m args below meth c H locs k1 n Z (F0 m pc ls (.int x :: S.map (ax_vm ad)))
  exact lv_i2s hx hb hd rfl (k p l e R s m args below meth c Z mc ms ad0 h0 C Rt k1 n ad H locs ls ⟨a1, a2, a3, a4, a5, a6, a7, (List.forall_mem_cons.mpr ⟨ax_wv_int _ _, (fun v hv => a8 v (List.mem_cons_of_mem _ hv))⟩), a9⟩)
theorem ax_r_dup {G : AG} {o nL : Nat} {ini : Bool} {cc : ByteArray} {ret : Option FieldType} {d : Nat} {Q : Option Value → AH → Prop} {rc rs pc : Nat} {L : AL} {S : List Value} {h : AH} {u : Value} (hd : decode cc pc = .ok (.dup, 1)) (hu : u.category = 1) (k : AW G o nL ini cc ret d Q rc rs (pc + 1) L (u :: u :: S) h) : AW G o nL ini cc ret d Q rc rs pc L (u :: S) h := by
  intro p l e R s m args below meth c Z mc ms ad0 h0 C Rt k1 n ad H locs ls A
  obtain ⟨hx, hb, hml, hown, hini, hE, hB, hR1, hR2, hR3, hR4⟩ := id C
  obtain ⟨a1, a2, a3, a4, a5, a6, a7, a8, a9⟩ := id A
  show W p l e R s m args below meth c H locs k1 n Z (F0 m pc ls (ax_vm ad u :: S.map (ax_vm ad)))
  exact lv_dup hx hb hd (by rw [ax_vm_cat]; exact hu) (k p l e R s m args below meth c Z mc ms ad0 h0 C Rt k1 n ad H locs ls ⟨a1, a2, a3, a4, a5, a6, a7, (List.forall_mem_cons.mpr ⟨a8 u List.mem_cons_self, (List.forall_mem_cons.mpr ⟨a8 u List.mem_cons_self, (fun v hv => a8 v (List.mem_cons_of_mem _ hv))⟩)⟩), a9⟩)
theorem ax_r_dup_x1 {G : AG} {o nL : Nat} {ini : Bool} {cc : ByteArray} {ret : Option FieldType} {d : Nat} {Q : Option Value → AH → Prop} {rc rs pc : Nat} {L : AL} {S : List Value} {h : AH} {u v : Value} (hd : decode cc pc = .ok (.dup_x1, 1)) (hu : u.category = 1) (hv : v.category = 1) (k : AW G o nL ini cc ret d Q rc rs (pc + 1) L (u :: v :: u :: S) h) : AW G o nL ini cc ret d Q rc rs pc L (u :: v :: S) h := by
  intro p l e R s m args below meth c Z mc ms ad0 h0 C Rt k1 n ad H locs ls A
  obtain ⟨hx, hb, hml, hown, hini, hE, hB, hR1, hR2, hR3, hR4⟩ := id C
  obtain ⟨a1, a2, a3, a4, a5, a6, a7, a8, a9⟩ := id A
  show W p l e R s m args below meth c H locs k1 n Z (F0 m pc ls (ax_vm ad u :: ax_vm ad v :: S.map (ax_vm ad)))
  exact lv_dup_x1 hx hb hd (by rw [ax_vm_cat]; exact hu) (by rw [ax_vm_cat]; exact hv) (k p l e R s m args below meth c Z mc ms ad0 h0 C Rt k1 n ad H locs ls ⟨a1, a2, a3, a4, a5, a6, a7, (List.forall_mem_cons.mpr ⟨a8 u List.mem_cons_self, (List.forall_mem_cons.mpr ⟨a8 v (List.mem_cons_of_mem _ List.mem_cons_self), (List.forall_mem_cons.mpr ⟨a8 u List.mem_cons_self, (fun v hv => a8 v (List.mem_cons_of_mem _ (List.mem_cons_of_mem _ hv)))⟩)⟩)⟩), a9⟩)
theorem ax_r_pop {G : AG} {o nL : Nat} {ini : Bool} {cc : ByteArray} {ret : Option FieldType} {d : Nat} {Q : Option Value → AH → Prop} {rc rs pc : Nat} {L : AL} {S : List Value} {h : AH} {u : Value} (hd : decode cc pc = .ok (.pop, 1)) (hu : u.category = 1) (k : AW G o nL ini cc ret d Q rc rs (pc + 1) L (S) h) : AW G o nL ini cc ret d Q rc rs pc L (u :: S) h := by
  intro p l e R s m args below meth c Z mc ms ad0 h0 C Rt k1 n ad H locs ls A
  obtain ⟨hx, hb, hml, hown, hini, hE, hB, hR1, hR2, hR3, hR4⟩ := id C
  obtain ⟨a1, a2, a3, a4, a5, a6, a7, a8, a9⟩ := id A
  show W p l e R s m args below meth c H locs k1 n Z (F0 m pc ls (ax_vm ad u :: S.map (ax_vm ad)))
  exact lv_pop hx hb hd (by rw [ax_vm_cat]; exact hu) (k p l e R s m args below meth c Z mc ms ad0 h0 C Rt k1 n ad H locs ls ⟨a1, a2, a3, a4, a5, a6, a7, (fun v hv => a8 v (List.mem_cons_of_mem _ hv)), a9⟩)
theorem ax_r_dup2 {G : AG} {o nL : Nat} {ini : Bool} {cc : ByteArray} {ret : Option FieldType} {d : Nat} {Q : Option Value → AH → Prop} {rc rs pc : Nat} {L : AL} {S : List Value} {h : AH} {u v : Value} (hd : decode cc pc = .ok (.dup2, 1)) (hu : u.category = 1) (hv : v.category = 1) (k : AW G o nL ini cc ret d Q rc rs (pc + 1) L (u :: v :: u :: v :: S) h) : AW G o nL ini cc ret d Q rc rs pc L (u :: v :: S) h := by
  intro p l e R s m args below meth c Z mc ms ad0 h0 C Rt k1 n ad H locs ls A
  obtain ⟨hx, hb, hml, hown, hini, hE, hB, hR1, hR2, hR3, hR4⟩ := id C
  obtain ⟨a1, a2, a3, a4, a5, a6, a7, a8, a9⟩ := id A
  show W p l e R s m args below meth c H locs k1 n Z (F0 m pc ls (ax_vm ad u :: ax_vm ad v :: S.map (ax_vm ad)))
  exact lv_dup2_11 hx hb hd (by rw [ax_vm_cat]; exact hu) (by rw [ax_vm_cat]; exact hv) (k p l e R s m args below meth c Z mc ms ad0 h0 C Rt k1 n ad H locs ls ⟨a1, a2, a3, a4, a5, a6, a7, (List.forall_mem_cons.mpr ⟨a8 u List.mem_cons_self, (List.forall_mem_cons.mpr ⟨a8 v (List.mem_cons_of_mem _ List.mem_cons_self), (List.forall_mem_cons.mpr ⟨a8 u List.mem_cons_self, (List.forall_mem_cons.mpr ⟨a8 v (List.mem_cons_of_mem _ List.mem_cons_self), (fun v hv => a8 v (List.mem_cons_of_mem _ (List.mem_cons_of_mem _ hv)))⟩)⟩)⟩)⟩), a9⟩)
theorem ax_r_if_eq {G : AG} {o nL : Nat} {ini : Bool} {cc : ByteArray} {ret : Option FieldType} {d : Nat} {Q : Option Value → AH → Prop} {rc rs pc : Nat} {L : AL} {S : List Value} {h : AH} {x : Int32} {off : Int} {tgt : Nat} (hd : decode cc pc = .ok (.ifCond .eq off, 3)) (ht : (pc : Int) + off = (tgt : Int)) (kt : x = 0 → AW G o nL ini cc ret d Q rc rs tgt L S h) (kf : ¬ x = 0 → AW G o nL ini cc ret d Q rc rs (pc + 3) L S h) : AW G o nL ini cc ret d Q rc rs pc L (.int x :: S) h := by
  intro p l e R s m args below meth c Z mc ms ad0 h0 C Rt k1 n ad H locs ls A
  obtain ⟨hx, hb, hml, hown, hini, hE, hB, hR1, hR2, hR3, hR4⟩ := id C
  obtain ⟨a1, a2, a3, a4, a5, a6, a7, a8, a9⟩ := id A
  show W p l e R s m args below meth c H locs k1 n Z (F0 m pc ls (.int x :: S.map (ax_vm ad)))
  exact lv_if_eq hx hb hd ht (fun q => kt q p l e R s m args below meth c Z mc ms ad0 h0 C Rt k1 n ad H locs ls ⟨a1, a2, a3, a4, a5, a6, a7, (fun v hv => a8 v (List.mem_cons_of_mem _ hv)), a9⟩) (fun q => kf q p l e R s m args below meth c Z mc ms ad0 h0 C Rt k1 n ad H locs ls ⟨a1, a2, a3, a4, a5, a6, a7, (fun v hv => a8 v (List.mem_cons_of_mem _ hv)), a9⟩)
theorem ax_r_icmp_eq {G : AG} {o nL : Nat} {ini : Bool} {cc : ByteArray} {ret : Option FieldType} {d : Nat} {Q : Option Value → AH → Prop} {rc rs pc : Nat} {L : AL} {S : List Value} {h : AH} {x y : Int32} {off : Int} {tgt : Nat} (hd : decode cc pc = .ok (.if_icmp .eq off, 3)) (ht : (pc : Int) + off = (tgt : Int)) (kt : x = y → AW G o nL ini cc ret d Q rc rs tgt L S h) (kf : ¬ x = y → AW G o nL ini cc ret d Q rc rs (pc + 3) L S h) : AW G o nL ini cc ret d Q rc rs pc L (.int y :: .int x :: S) h := by
  intro p l e R s m args below meth c Z mc ms ad0 h0 C Rt k1 n ad H locs ls A
  obtain ⟨hx, hb, hml, hown, hini, hE, hB, hR1, hR2, hR3, hR4⟩ := id C
  obtain ⟨a1, a2, a3, a4, a5, a6, a7, a8, a9⟩ := id A
  show W p l e R s m args below meth c H locs k1 n Z (F0 m pc ls (.int y :: .int x :: S.map (ax_vm ad)))
  exact lv_icmp_eq hx hb hd ht (fun q => kt q p l e R s m args below meth c Z mc ms ad0 h0 C Rt k1 n ad H locs ls ⟨a1, a2, a3, a4, a5, a6, a7, (fun v hv => a8 v (List.mem_cons_of_mem _ (List.mem_cons_of_mem _ hv))), a9⟩) (fun q => kf q p l e R s m args below meth c Z mc ms ad0 h0 C Rt k1 n ad H locs ls ⟨a1, a2, a3, a4, a5, a6, a7, (fun v hv => a8 v (List.mem_cons_of_mem _ (List.mem_cons_of_mem _ hv))), a9⟩)
theorem ax_r_if_ne {G : AG} {o nL : Nat} {ini : Bool} {cc : ByteArray} {ret : Option FieldType} {d : Nat} {Q : Option Value → AH → Prop} {rc rs pc : Nat} {L : AL} {S : List Value} {h : AH} {x : Int32} {off : Int} {tgt : Nat} (hd : decode cc pc = .ok (.ifCond .ne off, 3)) (ht : (pc : Int) + off = (tgt : Int)) (kt : ¬ x = 0 → AW G o nL ini cc ret d Q rc rs tgt L S h) (kf : x = 0 → AW G o nL ini cc ret d Q rc rs (pc + 3) L S h) : AW G o nL ini cc ret d Q rc rs pc L (.int x :: S) h := by
  intro p l e R s m args below meth c Z mc ms ad0 h0 C Rt k1 n ad H locs ls A
  obtain ⟨hx, hb, hml, hown, hini, hE, hB, hR1, hR2, hR3, hR4⟩ := id C
  obtain ⟨a1, a2, a3, a4, a5, a6, a7, a8, a9⟩ := id A
  show W p l e R s m args below meth c H locs k1 n Z (F0 m pc ls (.int x :: S.map (ax_vm ad)))
  exact lv_if_ne hx hb hd ht (fun q => kt q p l e R s m args below meth c Z mc ms ad0 h0 C Rt k1 n ad H locs ls ⟨a1, a2, a3, a4, a5, a6, a7, (fun v hv => a8 v (List.mem_cons_of_mem _ hv)), a9⟩) (fun q => kf q p l e R s m args below meth c Z mc ms ad0 h0 C Rt k1 n ad H locs ls ⟨a1, a2, a3, a4, a5, a6, a7, (fun v hv => a8 v (List.mem_cons_of_mem _ hv)), a9⟩)
theorem ax_r_icmp_ne {G : AG} {o nL : Nat} {ini : Bool} {cc : ByteArray} {ret : Option FieldType} {d : Nat} {Q : Option Value → AH → Prop} {rc rs pc : Nat} {L : AL} {S : List Value} {h : AH} {x y : Int32} {off : Int} {tgt : Nat} (hd : decode cc pc = .ok (.if_icmp .ne off, 3)) (ht : (pc : Int) + off = (tgt : Int)) (kt : ¬ x = y → AW G o nL ini cc ret d Q rc rs tgt L S h) (kf : x = y → AW G o nL ini cc ret d Q rc rs (pc + 3) L S h) : AW G o nL ini cc ret d Q rc rs pc L (.int y :: .int x :: S) h := by
  intro p l e R s m args below meth c Z mc ms ad0 h0 C Rt k1 n ad H locs ls A
  obtain ⟨hx, hb, hml, hown, hini, hE, hB, hR1, hR2, hR3, hR4⟩ := id C
  obtain ⟨a1, a2, a3, a4, a5, a6, a7, a8, a9⟩ := id A
  show W p l e R s m args below meth c H locs k1 n Z (F0 m pc ls (.int y :: .int x :: S.map (ax_vm ad)))
  exact lv_icmp_ne hx hb hd ht (fun q => kt q p l e R s m args below meth c Z mc ms ad0 h0 C Rt k1 n ad H locs ls ⟨a1, a2, a3, a4, a5, a6, a7, (fun v hv => a8 v (List.mem_cons_of_mem _ (List.mem_cons_of_mem _ hv))), a9⟩) (fun q => kf q p l e R s m args below meth c Z mc ms ad0 h0 C Rt k1 n ad H locs ls ⟨a1, a2, a3, a4, a5, a6, a7, (fun v hv => a8 v (List.mem_cons_of_mem _ (List.mem_cons_of_mem _ hv))), a9⟩)
theorem ax_r_if_lt {G : AG} {o nL : Nat} {ini : Bool} {cc : ByteArray} {ret : Option FieldType} {d : Nat} {Q : Option Value → AH → Prop} {rc rs pc : Nat} {L : AL} {S : List Value} {h : AH} {x : Int32} {off : Int} {tgt : Nat} (hd : decode cc pc = .ok (.ifCond .lt off, 3)) (ht : (pc : Int) + off = (tgt : Int)) (kt : x < 0 → AW G o nL ini cc ret d Q rc rs tgt L S h) (kf : ¬ x < 0 → AW G o nL ini cc ret d Q rc rs (pc + 3) L S h) : AW G o nL ini cc ret d Q rc rs pc L (.int x :: S) h := by
  intro p l e R s m args below meth c Z mc ms ad0 h0 C Rt k1 n ad H locs ls A
  obtain ⟨hx, hb, hml, hown, hini, hE, hB, hR1, hR2, hR3, hR4⟩ := id C
  obtain ⟨a1, a2, a3, a4, a5, a6, a7, a8, a9⟩ := id A
  show W p l e R s m args below meth c H locs k1 n Z (F0 m pc ls (.int x :: S.map (ax_vm ad)))
  exact lv_if_lt hx hb hd ht (fun q => kt q p l e R s m args below meth c Z mc ms ad0 h0 C Rt k1 n ad H locs ls ⟨a1, a2, a3, a4, a5, a6, a7, (fun v hv => a8 v (List.mem_cons_of_mem _ hv)), a9⟩) (fun q => kf q p l e R s m args below meth c Z mc ms ad0 h0 C Rt k1 n ad H locs ls ⟨a1, a2, a3, a4, a5, a6, a7, (fun v hv => a8 v (List.mem_cons_of_mem _ hv)), a9⟩)
theorem ax_r_icmp_lt {G : AG} {o nL : Nat} {ini : Bool} {cc : ByteArray} {ret : Option FieldType} {d : Nat} {Q : Option Value → AH → Prop} {rc rs pc : Nat} {L : AL} {S : List Value} {h : AH} {x y : Int32} {off : Int} {tgt : Nat} (hd : decode cc pc = .ok (.if_icmp .lt off, 3)) (ht : (pc : Int) + off = (tgt : Int)) (kt : x < y → AW G o nL ini cc ret d Q rc rs tgt L S h) (kf : ¬ x < y → AW G o nL ini cc ret d Q rc rs (pc + 3) L S h) : AW G o nL ini cc ret d Q rc rs pc L (.int y :: .int x :: S) h := by
  intro p l e R s m args below meth c Z mc ms ad0 h0 C Rt k1 n ad H locs ls A
  obtain ⟨hx, hb, hml, hown, hini, hE, hB, hR1, hR2, hR3, hR4⟩ := id C
  obtain ⟨a1, a2, a3, a4, a5, a6, a7, a8, a9⟩ := id A
  show W p l e R s m args below meth c H locs k1 n Z (F0 m pc ls (.int y :: .int x :: S.map (ax_vm ad)))
  exact lv_icmp_lt hx hb hd ht (fun q => kt q p l e R s m args below meth c Z mc ms ad0 h0 C Rt k1 n ad H locs ls ⟨a1, a2, a3, a4, a5, a6, a7, (fun v hv => a8 v (List.mem_cons_of_mem _ (List.mem_cons_of_mem _ hv))), a9⟩) (fun q => kf q p l e R s m args below meth c Z mc ms ad0 h0 C Rt k1 n ad H locs ls ⟨a1, a2, a3, a4, a5, a6, a7, (fun v hv => a8 v (List.mem_cons_of_mem _ (List.mem_cons_of_mem _ hv))), a9⟩)
theorem ax_r_if_ge {G : AG} {o nL : Nat} {ini : Bool} {cc : ByteArray} {ret : Option FieldType} {d : Nat} {Q : Option Value → AH → Prop} {rc rs pc : Nat} {L : AL} {S : List Value} {h : AH} {x : Int32} {off : Int} {tgt : Nat} (hd : decode cc pc = .ok (.ifCond .ge off, 3)) (ht : (pc : Int) + off = (tgt : Int)) (kt : 0 ≤ x → AW G o nL ini cc ret d Q rc rs tgt L S h) (kf : ¬ 0 ≤ x → AW G o nL ini cc ret d Q rc rs (pc + 3) L S h) : AW G o nL ini cc ret d Q rc rs pc L (.int x :: S) h := by
  intro p l e R s m args below meth c Z mc ms ad0 h0 C Rt k1 n ad H locs ls A
  obtain ⟨hx, hb, hml, hown, hini, hE, hB, hR1, hR2, hR3, hR4⟩ := id C
  obtain ⟨a1, a2, a3, a4, a5, a6, a7, a8, a9⟩ := id A
  show W p l e R s m args below meth c H locs k1 n Z (F0 m pc ls (.int x :: S.map (ax_vm ad)))
  exact lv_if_ge hx hb hd ht (fun q => kt q p l e R s m args below meth c Z mc ms ad0 h0 C Rt k1 n ad H locs ls ⟨a1, a2, a3, a4, a5, a6, a7, (fun v hv => a8 v (List.mem_cons_of_mem _ hv)), a9⟩) (fun q => kf q p l e R s m args below meth c Z mc ms ad0 h0 C Rt k1 n ad H locs ls ⟨a1, a2, a3, a4, a5, a6, a7, (fun v hv => a8 v (List.mem_cons_of_mem _ hv)), a9⟩)
theorem ax_r_icmp_ge {G : AG} {o nL : Nat} {ini : Bool} {cc : ByteArray} {ret : Option FieldType} {d : Nat} {Q : Option Value → AH → Prop} {rc rs pc : Nat} {L : AL} {S : List Value} {h : AH} {x y : Int32} {off : Int} {tgt : Nat} (hd : decode cc pc = .ok (.if_icmp .ge off, 3)) (ht : (pc : Int) + off = (tgt : Int)) (kt : y ≤ x → AW G o nL ini cc ret d Q rc rs tgt L S h) (kf : ¬ y ≤ x → AW G o nL ini cc ret d Q rc rs (pc + 3) L S h) : AW G o nL ini cc ret d Q rc rs pc L (.int y :: .int x :: S) h := by
  intro p l e R s m args below meth c Z mc ms ad0 h0 C Rt k1 n ad H locs ls A
  obtain ⟨hx, hb, hml, hown, hini, hE, hB, hR1, hR2, hR3, hR4⟩ := id C
  obtain ⟨a1, a2, a3, a4, a5, a6, a7, a8, a9⟩ := id A
  show W p l e R s m args below meth c H locs k1 n Z (F0 m pc ls (.int y :: .int x :: S.map (ax_vm ad)))
  exact lv_icmp_ge hx hb hd ht (fun q => kt q p l e R s m args below meth c Z mc ms ad0 h0 C Rt k1 n ad H locs ls ⟨a1, a2, a3, a4, a5, a6, a7, (fun v hv => a8 v (List.mem_cons_of_mem _ (List.mem_cons_of_mem _ hv))), a9⟩) (fun q => kf q p l e R s m args below meth c Z mc ms ad0 h0 C Rt k1 n ad H locs ls ⟨a1, a2, a3, a4, a5, a6, a7, (fun v hv => a8 v (List.mem_cons_of_mem _ (List.mem_cons_of_mem _ hv))), a9⟩)
theorem ax_r_if_gt {G : AG} {o nL : Nat} {ini : Bool} {cc : ByteArray} {ret : Option FieldType} {d : Nat} {Q : Option Value → AH → Prop} {rc rs pc : Nat} {L : AL} {S : List Value} {h : AH} {x : Int32} {off : Int} {tgt : Nat} (hd : decode cc pc = .ok (.ifCond .gt off, 3)) (ht : (pc : Int) + off = (tgt : Int)) (kt : 0 < x → AW G o nL ini cc ret d Q rc rs tgt L S h) (kf : ¬ 0 < x → AW G o nL ini cc ret d Q rc rs (pc + 3) L S h) : AW G o nL ini cc ret d Q rc rs pc L (.int x :: S) h := by
  intro p l e R s m args below meth c Z mc ms ad0 h0 C Rt k1 n ad H locs ls A
  obtain ⟨hx, hb, hml, hown, hini, hE, hB, hR1, hR2, hR3, hR4⟩ := id C
  obtain ⟨a1, a2, a3, a4, a5, a6, a7, a8, a9⟩ := id A
  show W p l e R s m args below meth c H locs k1 n Z (F0 m pc ls (.int x :: S.map (ax_vm ad)))
  exact lv_if_gt hx hb hd ht (fun q => kt q p l e R s m args below meth c Z mc ms ad0 h0 C Rt k1 n ad H locs ls ⟨a1, a2, a3, a4, a5, a6, a7, (fun v hv => a8 v (List.mem_cons_of_mem _ hv)), a9⟩) (fun q => kf q p l e R s m args below meth c Z mc ms ad0 h0 C Rt k1 n ad H locs ls ⟨a1, a2, a3, a4, a5, a6, a7, (fun v hv => a8 v (List.mem_cons_of_mem _ hv)), a9⟩)
theorem ax_r_icmp_gt {G : AG} {o nL : Nat} {ini : Bool} {cc : ByteArray} {ret : Option FieldType} {d : Nat} {Q : Option Value → AH → Prop} {rc rs pc : Nat} {L : AL} {S : List Value} {h : AH} {x y : Int32} {off : Int} {tgt : Nat} (hd : decode cc pc = .ok (.if_icmp .gt off, 3)) (ht : (pc : Int) + off = (tgt : Int)) (kt : y < x → AW G o nL ini cc ret d Q rc rs tgt L S h) (kf : ¬ y < x → AW G o nL ini cc ret d Q rc rs (pc + 3) L S h) : AW G o nL ini cc ret d Q rc rs pc L (.int y :: .int x :: S) h := by
  intro p l e R s m args below meth c Z mc ms ad0 h0 C Rt k1 n ad H locs ls A
  obtain ⟨hx, hb, hml, hown, hini, hE, hB, hR1, hR2, hR3, hR4⟩ := id C
  obtain ⟨a1, a2, a3, a4, a5, a6, a7, a8, a9⟩ := id A
  show W p l e R s m args below meth c H locs k1 n Z (F0 m pc ls (.int y :: .int x :: S.map (ax_vm ad)))
  exact lv_icmp_gt hx hb hd ht (fun q => kt q p l e R s m args below meth c Z mc ms ad0 h0 C Rt k1 n ad H locs ls ⟨a1, a2, a3, a4, a5, a6, a7, (fun v hv => a8 v (List.mem_cons_of_mem _ (List.mem_cons_of_mem _ hv))), a9⟩) (fun q => kf q p l e R s m args below meth c Z mc ms ad0 h0 C Rt k1 n ad H locs ls ⟨a1, a2, a3, a4, a5, a6, a7, (fun v hv => a8 v (List.mem_cons_of_mem _ (List.mem_cons_of_mem _ hv))), a9⟩)
theorem ax_r_if_le {G : AG} {o nL : Nat} {ini : Bool} {cc : ByteArray} {ret : Option FieldType} {d : Nat} {Q : Option Value → AH → Prop} {rc rs pc : Nat} {L : AL} {S : List Value} {h : AH} {x : Int32} {off : Int} {tgt : Nat} (hd : decode cc pc = .ok (.ifCond .le off, 3)) (ht : (pc : Int) + off = (tgt : Int)) (kt : x ≤ 0 → AW G o nL ini cc ret d Q rc rs tgt L S h) (kf : ¬ x ≤ 0 → AW G o nL ini cc ret d Q rc rs (pc + 3) L S h) : AW G o nL ini cc ret d Q rc rs pc L (.int x :: S) h := by
  intro p l e R s m args below meth c Z mc ms ad0 h0 C Rt k1 n ad H locs ls A
  obtain ⟨hx, hb, hml, hown, hini, hE, hB, hR1, hR2, hR3, hR4⟩ := id C
  obtain ⟨a1, a2, a3, a4, a5, a6, a7, a8, a9⟩ := id A
  show W p l e R s m args below meth c H locs k1 n Z (F0 m pc ls (.int x :: S.map (ax_vm ad)))
  exact lv_if_le hx hb hd ht (fun q => kt q p l e R s m args below meth c Z mc ms ad0 h0 C Rt k1 n ad H locs ls ⟨a1, a2, a3, a4, a5, a6, a7, (fun v hv => a8 v (List.mem_cons_of_mem _ hv)), a9⟩) (fun q => kf q p l e R s m args below meth c Z mc ms ad0 h0 C Rt k1 n ad H locs ls ⟨a1, a2, a3, a4, a5, a6, a7, (fun v hv => a8 v (List.mem_cons_of_mem _ hv)), a9⟩)
theorem ax_r_icmp_le {G : AG} {o nL : Nat} {ini : Bool} {cc : ByteArray} {ret : Option FieldType} {d : Nat} {Q : Option Value → AH → Prop} {rc rs pc : Nat} {L : AL} {S : List Value} {h : AH} {x y : Int32} {off : Int} {tgt : Nat} (hd : decode cc pc = .ok (.if_icmp .le off, 3)) (ht : (pc : Int) + off = (tgt : Int)) (kt : x ≤ y → AW G o nL ini cc ret d Q rc rs tgt L S h) (kf : ¬ x ≤ y → AW G o nL ini cc ret d Q rc rs (pc + 3) L S h) : AW G o nL ini cc ret d Q rc rs pc L (.int y :: .int x :: S) h := by
  intro p l e R s m args below meth c Z mc ms ad0 h0 C Rt k1 n ad H locs ls A
  obtain ⟨hx, hb, hml, hown, hini, hE, hB, hR1, hR2, hR3, hR4⟩ := id C
  obtain ⟨a1, a2, a3, a4, a5, a6, a7, a8, a9⟩ := id A
  show W p l e R s m args below meth c H locs k1 n Z (F0 m pc ls (.int y :: .int x :: S.map (ax_vm ad)))
  exact lv_icmp_le hx hb hd ht (fun q => kt q p l e R s m args below meth c Z mc ms ad0 h0 C Rt k1 n ad H locs ls ⟨a1, a2, a3, a4, a5, a6, a7, (fun v hv => a8 v (List.mem_cons_of_mem _ (List.mem_cons_of_mem _ hv))), a9⟩) (fun q => kf q p l e R s m args below meth c Z mc ms ad0 h0 C Rt k1 n ad H locs ls ⟨a1, a2, a3, a4, a5, a6, a7, (fun v hv => a8 v (List.mem_cons_of_mem _ (List.mem_cons_of_mem _ hv))), a9⟩)
theorem ax_r_goto {G : AG} {o nL : Nat} {ini : Bool} {cc : ByteArray} {ret : Option FieldType} {d : Nat} {Q : Option Value → AH → Prop} {rc rs pc : Nat} {L : AL} {S : List Value} {h : AH} {off : Int} {tgt : Nat} (hd : decode cc pc = .ok (.goto off, 3)) (ht : (pc : Int) + off = (tgt : Int)) (k : AW G o nL ini cc ret d Q rc rs tgt L S h) : AW G o nL ini cc ret d Q rc rs pc L S h := by
  intro p l e R s m args below meth c Z mc ms ad0 h0 C Rt k1 n ad H locs ls A
  obtain ⟨hx, hb, hml, hown, hini, hE, hB, hR1, hR2, hR3, hR4⟩ := id C
  obtain ⟨a1, a2, a3, a4, a5, a6, a7, a8, a9⟩ := id A
  exact lv_goto hx hb hd ht (k p l e R s m args below meth c Z mc ms ad0 h0 C Rt k1 n ad H locs ls ⟨a1, a2, a3, a4, a5, a6, a7, a8, a9⟩)
theorem ax_r_ifnull {G : AG} {o nL : Nat} {ini : Bool} {cc : ByteArray} {ret : Option FieldType} {d : Nat} {Q : Option Value → AH → Prop} {rc rs pc : Nat} {L : AL} {S : List Value} {h : AH} {v : Value} {off : Int} {tgt : Nat} (hd : decode cc pc = .ok (.ifnull off, 3)) (ht : (pc : Int) + off = (tgt : Int)) (hv : ax_isR v = true) (kt : ax_rf v = none → AW G o nL ini cc ret d Q rc rs tgt L S h) (kf : ¬ ax_rf v = none → AW G o nL ini cc ret d Q rc rs (pc + 3) L S h) : AW G o nL ini cc ret d Q rc rs pc L (v :: S) h := by
  intro p l e R s m args below meth c Z mc ms ad0 h0 C Rt k1 n ad H locs ls A
  obtain ⟨hx, hb, hml, hown, hini, hE, hB, hR1, hR2, hR3, hR4⟩ := id C
  obtain ⟨a1, a2, a3, a4, a5, a6, a7, a8, a9⟩ := id A
  cases v with
  | ref a => exact lv_ifnull hx hb hd (kf (fun q => by cases q) p l e R s m args below meth c Z mc ms ad0 h0 C Rt k1 n ad H locs ls ⟨a1, a2, a3, a4, a5, a6, a7, (fun v hv => a8 v (List.mem_cons_of_mem _ hv)), a9⟩)
  | null => exact lv_ifnullN hx hb hd ht (kt rfl p l e R s m args below meth c Z mc ms ad0 h0 C Rt k1 n ad H locs ls ⟨a1, a2, a3, a4, a5, a6, a7, (fun v hv => a8 v (List.mem_cons_of_mem _ hv)), a9⟩)
  | int x => cases hv
  | long x => cases hv
  | float x => cases hv
  | double x => cases hv
  | retAddr x => cases hv
theorem ax_r_ifnonnull {G : AG} {o nL : Nat} {ini : Bool} {cc : ByteArray} {ret : Option FieldType} {d : Nat} {Q : Option Value → AH → Prop} {rc rs pc : Nat} {L : AL} {S : List Value} {h : AH} {v : Value} {off : Int} {tgt : Nat} (hd : decode cc pc = .ok (.ifnonnull off, 3)) (ht : (pc : Int) + off = (tgt : Int)) (hv : ax_isR v = true) (kt : ¬ ax_rf v = none → AW G o nL ini cc ret d Q rc rs tgt L S h) (kf : ax_rf v = none → AW G o nL ini cc ret d Q rc rs (pc + 3) L S h) : AW G o nL ini cc ret d Q rc rs pc L (v :: S) h := by
  intro p l e R s m args below meth c Z mc ms ad0 h0 C Rt k1 n ad H locs ls A
  obtain ⟨hx, hb, hml, hown, hini, hE, hB, hR1, hR2, hR3, hR4⟩ := id C
  obtain ⟨a1, a2, a3, a4, a5, a6, a7, a8, a9⟩ := id A
  cases v with
  | ref a => exact lv_ifnonnull hx hb hd ht (kt (fun q => by cases q) p l e R s m args below meth c Z mc ms ad0 h0 C Rt k1 n ad H locs ls ⟨a1, a2, a3, a4, a5, a6, a7, (fun v hv => a8 v (List.mem_cons_of_mem _ hv)), a9⟩)
  | null => exact lv_ifnonnullN hx hb hd (kf rfl p l e R s m args below meth c Z mc ms ad0 h0 C Rt k1 n ad H locs ls ⟨a1, a2, a3, a4, a5, a6, a7, (fun v hv => a8 v (List.mem_cons_of_mem _ hv)), a9⟩)
  | int x => cases hv
  | long x => cases hv
  | float x => cases hv
  | double x => cases hv
  | retAddr x => cases hv
theorem ax_r_tsOut {G : AG} {o nL : Nat} {ini : Bool} {cc : ByteArray} {ret : Option FieldType} {d : Nat} {Q : Option Value → AH → Prop} {rc rs pc : Nat} {L : AL} {S : List Value} {h : AH} {dflt lo hi : Int} {offs : Array Int} {len : Nat} {x : Int32} {tgt : Nat} (hd : decode cc pc = .ok (.tableswitch dflt lo hi offs, len)) (hq : x.toInt < lo ∨ hi < x.toInt) (ht : (pc : Int) + dflt = (tgt : Int)) (k : AW G o nL ini cc ret d Q rc rs tgt L S h) : AW G o nL ini cc ret d Q rc rs pc L (.int x :: S) h := by
  intro p l e R s m args below meth c Z mc ms ad0 h0 C Rt k1 n ad H locs ls A
  obtain ⟨hx, hb, hml, hown, hini, hE, hB, hR1, hR2, hR3, hR4⟩ := id C
  obtain ⟨a1, a2, a3, a4, a5, a6, a7, a8, a9⟩ := id A
  exact lv_tableOut hx hb hd hq ht (k p l e R s m args below meth c Z mc ms ad0 h0 C Rt k1 n ad H locs ls ⟨a1, a2, a3, a4, a5, a6, a7, (fun v hv => a8 v (List.mem_cons_of_mem _ hv)), a9⟩)
theorem ax_r_tsIn {G : AG} {o nL : Nat} {ini : Bool} {cc : ByteArray} {ret : Option FieldType} {d : Nat} {Q : Option Value → AH → Prop} {rc rs pc : Nat} {L : AL} {S : List Value} {h : AH} {dflt lo hi : Int} {offs : Array Int} {len : Nat} {x : Int32} {off : Int} {tgt : Nat} (hd : decode cc pc = .ok (.tableswitch dflt lo hi offs, len)) (h1 : ¬ x.toInt < lo) (h2 : ¬ hi < x.toInt) (ho : offs[(x.toInt - lo).toNat]? = some off) (ht : (pc : Int) + off = (tgt : Int)) (k : AW G o nL ini cc ret d Q rc rs tgt L S h) : AW G o nL ini cc ret d Q rc rs pc L (.int x :: S) h := by
  intro p l e R s m args below meth c Z mc ms ad0 h0 C Rt k1 n ad H locs ls A
  obtain ⟨hx, hb, hml, hown, hini, hE, hB, hR1, hR2, hR3, hR4⟩ := id C
  obtain ⟨a1, a2, a3, a4, a5, a6, a7, a8, a9⟩ := id A
  exact lv_tableIn hx hb hd h1 h2 ho ht (k p l e R s m args below meth c Z mc ms ad0 h0 C Rt k1 n ad H locs ls ⟨a1, a2, a3, a4, a5, a6, a7, (fun v hv => a8 v (List.mem_cons_of_mem _ hv)), a9⟩)
theorem ax_r_lookup {G : AG} {o nL : Nat} {ini : Bool} {cc : ByteArray} {ret : Option FieldType} {d : Nat} {Q : Option Value → AH → Prop} {rc rs pc : Nat} {L : AL} {S : List Value} {h : AH} {dflt : Int} {ps : Array (Int × Int)} {len : Nat} {x : Int32} {off : Int} {tgt : Nat} (hd : decode cc pc = .ok (.lookupswitch dflt ps, len)) (hp : (ps.toList.zip (ps.toList.drop 1)).all (fun (a, next) => a.1 < next.1) = true) (ho : Op.lookupswitch.offset ps.toList dflt x.toInt = off) (ht : (pc : Int) + off = (tgt : Int)) (k : AW G o nL ini cc ret d Q rc rs tgt L S h) : AW G o nL ini cc ret d Q rc rs pc L (.int x :: S) h := by
  intro p l e R s m args below meth c Z mc ms ad0 h0 C Rt k1 n ad H locs ls A
  obtain ⟨hx, hb, hml, hown, hini, hE, hB, hR1, hR2, hR3, hR4⟩ := id C
  obtain ⟨a1, a2, a3, a4, a5, a6, a7, a8, a9⟩ := id A
  exact lv_lookup hx hb hd hp ho ht (k p l e R s m args below meth c Z mc ms ad0 h0 C Rt k1 n ad H locs ls ⟨a1, a2, a3, a4, a5, a6, a7, (fun v hv => a8 v (List.mem_cons_of_mem _ hv)), a9⟩)
theorem ax_r_return {G : AG} {o nL : Nat} {ini : Bool} {cc : ByteArray} {ret : Option FieldType} {d : Nat} {Q : Option Value → AH → Prop} {rc rs pc : Nat} {L : AL} {S : List Value} {h : AH}  (hd : decode cc pc = .ok (.return_, 1)) (hok : ax_rok ret (none)) (hq : Q (none) h) : AW G o nL ini cc ret d Q rc rs pc L [] h := by
  intro p l e R s m args below meth c Z mc ms ad0 h0 C Rt k1 n ad H locs ls A
  obtain ⟨hx, hb, hml, hown, hini, hE, hB, hR1, hR2, hR3, hR4⟩ := id C
  obtain ⟨a1, a2, a3, a4, a5, a6, a7, a8, a9⟩ := id A
  exact Rt pc ls H locs ad h none k1 n hq hok (fun w q => by cases q) hd ⟨by omega, by omega, a3, a4, a5, a6, (fun _ q => by cases q), a8, ⟨a9.1, a9.2.1, fun _ q => by cases q⟩⟩
theorem ax_r_ireturn {G : AG} {o nL : Nat} {ini : Bool} {cc : ByteArray} {ret : Option FieldType} {d : Nat} {Q : Option Value → AH → Prop} {rc rs pc : Nat} {L : AL} {S : List Value} {h : AH} {x : Int32} (hd : decode cc pc = .ok (.ireturn, 1)) (hok : ax_rok ret (some (.int x))) (hq : Q (some (.int x)) h) : AW G o nL ini cc ret d Q rc rs pc L [.int x] h := by
  intro p l e R s m args below meth c Z mc ms ad0 h0 C Rt k1 n ad H locs ls A
  obtain ⟨hx, hb, hml, hown, hini, hE, hB, hR1, hR2, hR3, hR4⟩ := id C
  obtain ⟨a1, a2, a3, a4, a5, a6, a7, a8, a9⟩ := id A
  exact Rt pc ls H locs ad h (some (.int x)) k1 n hq hok (fun w q => by cases q; exact ax_wv_int _ _) hd ⟨by omega, by omega, a3, a4, a5, a6, (fun _ q => by cases q), (fun _ q => by cases q), ⟨a9.1, a9.2.1, fun _ q => by cases q⟩⟩
theorem ax_r_lreturn {G : AG} {o nL : Nat} {ini : Bool} {cc : ByteArray} {ret : Option FieldType} {d : Nat} {Q : Option Value → AH → Prop} {rc rs pc : Nat} {L : AL} {S : List Value} {h : AH} {x : Int64} (hd : decode cc pc = .ok (.lreturn, 1)) (hok : ax_rok ret (some (.long x))) (hq : Q (some (.long x)) h) : AW G o nL ini cc ret d Q rc rs pc L [.long x] h := by
  intro p l e R s m args below meth c Z mc ms ad0 h0 C Rt k1 n ad H locs ls A
  obtain ⟨hx, hb, hml, hown, hini, hE, hB, hR1, hR2, hR3, hR4⟩ := id C
  obtain ⟨a1, a2, a3, a4, a5, a6, a7, a8, a9⟩ := id A
  exact Rt pc ls H locs ad h (some (.long x)) k1 n hq hok (fun w q => by cases q; exact ax_wv_long _ _) hd ⟨by omega, by omega, a3, a4, a5, a6, (fun _ q => by cases q), (fun _ q => by cases q), ⟨a9.1, a9.2.1, fun _ q => by cases q⟩⟩
theorem ax_r_areturn {G : AG} {o nL : Nat} {ini : Bool} {cc : ByteArray} {ret : Option FieldType} {d : Nat} {Q : Option Value → AH → Prop} {rc rs pc : Nat} {L : AL} {S : List Value} {h : AH} {v : Value} (hd : decode cc pc = .ok (.areturn, 1)) (hv : ax_isR v = true) (hok : ax_rok ret (some v)) (hq : Q (some v) h) : AW G o nL ini cc ret d Q rc rs pc L [v] h := by
  intro p l e R s m args below meth c Z mc ms ad0 h0 C Rt k1 n ad H locs ls A
  obtain ⟨hx, hb, hml, hown, hini, hE, hB, hR1, hR2, hR3, hR4⟩ := id C
  obtain ⟨a1, a2, a3, a4, a5, a6, a7, a8, a9⟩ := id A
  have hrd : ax_rd (some v) = .areturn := by cases v <;> first | rfl | cases hv
  exact Rt pc ls H locs ad h (some v) k1 n hq hok (fun w q => by cases q; exact a8 _ List.mem_cons_self) (by rw [hrd]; exact hd) ⟨by omega, by omega, a3, a4, a5, a6, (fun _ q => by cases q), (fun _ q => by cases q), ⟨a9.1, a9.2.1, fun _ q => by cases q⟩⟩
