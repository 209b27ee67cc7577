-- deps: 12
/-! the strings' own methods: length, charAt (places of words by program, gen73.py) -/
theorem zw_38 : Cond.fieldLink "java/lang/String" 38 "java/lang/String" "COMPACT_STRINGS" "Z" ∈ ax_G := ax_G_in (i := 180) (by decide +kernel) rfl
theorem zw_15 : Cond.fieldLink "java/lang/String" 15 "java/lang/String" "coder" "B" ∈ ax_G := ax_G_in (i := 1352) (by decide +kernel) rfl
theorem zw_9 : Cond.fieldLink "java/lang/String" 9 "java/lang/String" "value" "[B" ∈ ax_G := ax_G_in (i := 1351) (by decide +kernel) rfl
theorem zw_1053 : Cond.fieldLink "java/lang/String" 1053 "jdk/internal/util/Preconditions" "SIOOBE_FORMATTER" "Ljava/util/function/BiFunction;" ∈ ax_G := ax_G_in (i := 196) (by decide +kernel) rfl
theorem zl_335 : Cond.methodLink "java/lang/String" 335 yJ0_coder_7d493 ∈ ax_G := ax_G_in (i := 176) (by decide +kernel) rfl
theorem zl_492 : Cond.methodLink "java/lang/String" 492 yJ0_isLatin1_aae02 ∈ ax_G := ax_G_in (i := 186) (by decide +kernel) rfl
theorem zl_495 : Cond.methodLink "java/lang/String" 495 yJ1_charAt_3b067 ∈ ax_G := ax_G_in (i := 190) (by decide +kernel) rfl
theorem zl_9 : Cond.methodLink "java/lang/StringLatin1" 9 yJ0_checkIndex_df160 ∈ ax_G := ax_G_in (i := 193) (by decide +kernel) rfl
theorem zl_1059 : Cond.methodLink "java/lang/String" 1059 yJ3_checkIndex_8e157 ∈ ax_G := ax_G_in (i := 198) (by decide +kernel) rfl
set_option maxRecDepth 100000 in
theorem zc_coder : Cond.code yJ0_coder_7d493 cJ0_coder_7d493 1 (some .byte) ∈ ax_G := ax_t1 (y := yJ0_coder_7d493) (c := cJ0_coder_7d493) (n := 1) (r := (some .byte)) 114 rfl
theorem zi_coder : Cond.initialized "java/lang/String" ∈ ax_G := ax_G_in (i := 70) (by decide +kernel) rfl
theorem zs_coder : Cond.selects "java/lang/String" yJ0_coder_7d493 yJ0_coder_7d493 ∈ ax_G := ax_G_in (i := 178) (by decide +kernel) rfl
theorem zn_coder : Cond.instanceMethod yJ0_coder_7d493 ∈ ax_G := ax_G_in (i := 177) (by decide +kernel) rfl
set_option maxRecDepth 100000 in
theorem zc_lat : Cond.code yJ0_isLatin1_aae02 cJ0_isLatin1_aae02 1 (some .boolean) ∈ ax_G := ax_t1 (y := yJ0_isLatin1_aae02) (c := cJ0_isLatin1_aae02) (n := 1) (r := (some .boolean)) 124 rfl
theorem zi_lat : Cond.initialized "java/lang/String" ∈ ax_G := ax_G_in (i := 70) (by decide +kernel) rfl
theorem zs_lat : Cond.selects "java/lang/String" yJ0_isLatin1_aae02 yJ0_isLatin1_aae02 ∈ ax_G := ax_G_in (i := 188) (by decide +kernel) rfl
theorem zn_lat : Cond.instanceMethod yJ0_isLatin1_aae02 ∈ ax_G := ax_G_in (i := 187) (by decide +kernel) rfl
set_option maxRecDepth 100000 in
theorem zc_chk : Cond.code yJ0_checkIndex_df160 cJ0_checkIndex_df160 2 none ∈ ax_G := ax_t1 (y := yJ0_checkIndex_df160) (c := cJ0_checkIndex_df160) (n := 2) (r := none) 130 rfl
theorem zi_chk : Cond.initialized "java/lang/String" ∈ ax_G := ax_G_in (i := 70) (by decide +kernel) rfl
theorem zs_chk : Cond.static yJ0_checkIndex_df160 ∈ ax_G := ax_G_in (i := 194) (by decide +kernel) rfl
set_option maxRecDepth 100000 in
theorem zc_l1 : Cond.code yJ1_charAt_3b067 cJ1_charAt_3b067 2 (some .char) ∈ ax_G := ax_t1 (y := yJ1_charAt_3b067) (c := cJ1_charAt_3b067) (n := 2) (r := (some .char)) 127 rfl
theorem zi_l1 : Cond.initialized "java/lang/StringLatin1" ∈ ax_G := ax_G_in (i := 71) (by decide +kernel) rfl
theorem zs_l1 : Cond.static yJ1_charAt_3b067 ∈ ax_G := ax_G_in (i := 191) (by decide +kernel) rfl
set_option maxRecDepth 100000 in
theorem zc_pre : Cond.code yJ3_checkIndex_8e157 cJ3_checkIndex_8e157 3 (some .int) ∈ ax_G := ax_t1 (y := yJ3_checkIndex_8e157) (c := cJ3_checkIndex_8e157) (n := 3) (r := (some .int)) 135 rfl
theorem zi_pre : Cond.initialized "jdk/internal/util/Preconditions" ∈ ax_G := ax_G_in (i := 72) (by decide +kernel) rfl
theorem zs_pre : Cond.static yJ3_checkIndex_8e157 ∈ ax_G := ax_G_in (i := 199) (by decide +kernel) rfl
def RPc (G : AG) (K : State → Prop) (As : List Value) : Array Value → State → Prop := fun a U => a = As.toArray ∧ ax_Env G U ∧ ax_below G U.heap ∧ K U
def RSt (K : State → Prop) : Prop := ∀ s U : State, s.WarmedH U.vm → U.heap = s.heap → K s → K U
def RQc (r : Option Value) : Array Value → State → Outcome → State → Prop := fun _ st oc t => oc = .returned r ∧ t.heap = st.heap
theorem RPc_blind {G : AG} {K : State → Prop} (hK : RSt K) {As : List Value} : FrameBlind (RPc G K As) := fun a U g mk q => ⟨q.1, ax_Env_warm (s := U) (U := U.calling g mk a) (State.WarmedH.refl U) q.2.1, q.2.2.1, hK U (U.calling g mk a) (State.WarmedH.refl U) rfl q.2.2.2⟩
/-- a raw method's contract: an answer, nothing written -/
def RMt (G : AG) (K : State → Prop) (y : MethodName) (cc : ByteArray) (nL : Nat) (ret : Option FieldType) (d : Nat) (As : List Value) (r : Option Value) : Prop := ∀ l : Launch, Met l y [Cond.code y cc nL ret] (ax_rm d 0 0) (RPc G K As) (RQc r) 0 0 (fun _ => False)
def RX (G : AG) (K : State → Prop) (y : MethodName) (cc : ByteArray) (nL : Nat) (ret : Option FieldType) (d : Nat) (p : Program) (R : Room) (s : State) (m : MethodId) (meth : Method) (c : Code) : Prop := p.tables.exec = Jvm.exec ∧ c.code = cc ∧ c.maxLocals = nL ∧ meth.sig.returnType = ret ∧ meth.locks = false ∧ s.vm.findClass y.cls = some m.cls ∧ ax_Env G s ∧ ax_below G s.heap ∧ d ≤ R.frames ∧ 60 * d ≤ R.locals ∧ K s
theorem rw_intro {G : AG} {K : State → Prop} {y : MethodName} {cc : ByteArray} {nL : Nat} {ret : Option FieldType} {d : Nat} {As : List Value} {r : Option Value} (hpl : plainName y.cls = true) (hL : (lg_sl As).length ≤ nL) (k : ∀ (p : Program) (l : Launch) (e : Env) (R : Room) (s : State) (m : MethodId) (args : Array Value) (below : List Frame) (meth : Method) (c : Code) (ls : Array Slot), RX G K y cc nL ret d p R s m meth c → lv_has ls nL (lv_args 0 As) → W p l e R s m args below meth c s.heap [] 0 0 (MQ below (RQc r) args s 0 0 (fun _ => False)) (F0 m 0 ls [])) : RMt G K y cc nL ret d As r := by
  intro l
  refine Met.ofW (cc := cc) (maxL := nL) (ret := ret) hpl rfl ?_
  intro p e s m args below meth c s₁ B hml hv
  obtain ⟨rfl, hE, hB, hK⟩ := hv
  have hown : s.vm.findClass y.cls = some m.cls := findClass_of_methodNamed B.named
  have hl := lv_entry As (n := nL) hL
  rw [lg_entry_eq]
  exact k p l e (ax_rm d 0 0) s m _ below meth c _ ⟨B.exec, B.bytes, hml, B.returns, B.notSynchronized, hown, hE, hB, Nat.le_refl _, Nat.le_refl _, hK⟩ hl
section RWS
variable {G : AG} {K : State → Prop} {y : MethodName} {cc : ByteArray} {nL : Nat} {ret : Option FieldType} {d : Nat} {p : Program} {l : Launch} {e : Env} {R : Room} {s : State} {m : MethodId} {args : Array Value} {below : List Frame} {meth : Method} {c : Code} {ls : Array Slot} {pc : Nat}
theorem rw_iret (C : RX G K y cc nL ret d p R s m meth c) {x : Int32} {ty : FieldType} (hret : ret = some ty) (hn : narrow ty (.int x) = .int x) (hdg : decode cc pc = .ok (.ireturn, 1)) : W p l e R s m args below meth c s.heap [] 0 0 (MQ below (RQc (some (.int x))) args s 0 0 (fun _ => False)) (F0 m pc ls [.int x]) := by
  obtain ⟨hx, hb, hml, hr, hlk, -⟩ := C
  exact W.zret hx hb (hr.trans hret) hn (fun t ht _ => ⟨rfl, ht⟩) (fun q hq => by cases hq) hdg hlk
theorem rw_vret (C : RX G K y cc nL ret d p R s m meth c) (hret : ret = none) (hdg : decode cc pc = .ok (.return_, 1)) : W p l e R s m args below meth c s.heap [] 0 0 (MQ below (RQc none) args s 0 0 (fun _ => False)) (F0 m pc ls []) := by
  obtain ⟨hx, hb, hml, hr, hlk, -⟩ := C
  exact W.vret hx hb (hr.trans hret) (fun t ht _ => ⟨rfl, ht⟩) (fun q hq => by cases hq) hdg hlk
theorem rw_behind {H : Heap} {locs : List Loc} {cells slots : Nat} {Z : State → Prop} {rest st0 : List Value} {av : Array Value} {r : Option Value} (hr : va_Run p l e R s m args below meth c H locs cells slots 0 0 (F0 m pc ls st0) rest (RQc r av) (fun _ => False)) (kk : W p l e R s m args below meth c H locs cells slots Z (F0 m (pc + 3) ls (r.toList ++ rest))) : W p l e R s m args below meth c H locs cells slots Z (F0 m pc ls st0) := by
  intro T hT X
  obtain ⟨v, st₀, t, T', L, h0, X', hL, e1, e2, ⟨q1, q2⟩, st⟩ := hr T hT X
  have hv : v = r := by cases q1; rfl
  subst hv
  have hn : L = [] := by
    cases L with
    | nil => rfl
    | cons q r => exact (hL q List.mem_cons_self).elim
  subst hn
  rw [List.append_nil] at X'
  obtain ⟨t2, a1, b1⟩ := kk T' (e1.trans (q2.trans h0)) X'
  exact ⟨t2, st t2 a1, b1⟩
theorem rw_callS {o : String} {i n nL' d' : Nat} {K' : State → Prop} {y' : MethodName} {cc' : ByteArray} {ret' : Option FieldType} {As rest : List Value} {r : Option Value} {H : Heap} {locs : List Loc} {cells slots : Nat} {Z : State → Prop} (hx : p.tables.exec = Jvm.exec) (hb : c.code = cc) (hml : c.maxLocals = nL) (hown : s.vm.findClass o = some m.cls) (hE : ax_Env G s) (hB : ax_below G s.heap) (hS : va_S (ax_A G) s.heap H locs) (hc : cells ≤ R.cells) (hs : slots ≤ R.slots)
    (hM : RMt G K' y' cc' nL' ret' d' As r) (hK : RSt K') (hk : ∀ U : State, U.heap = H → s.WarmedH U.vm → K' U) (h1 : Cond.code y' cc' nL' ret' ∈ ax_G) (h2 : Cond.methodLink o i y' ∈ ax_G) (h3 : Cond.initialized y'.cls ∈ ax_G) (h4 : Cond.static y' ∈ ax_G) (h5 : y'.cls ≠ "java/lang/invoke/MethodHandle" ∧ y'.cls ≠ "java/lang/invoke/VarHandle" ∧ (parseMethodDescriptor y'.desc).map (fun d => d.parameters.length) = some n) (h6 : nL' ≤ 41) (hd1 : d' + 1 ≤ R.frames) (hd2 : 60 * d' + 60 ≤ R.locals) (hn : As.length = n) (hsz : ls.size = nL) (hcat : (rest.map fun v => v.category).sum ≤ 8) (hdg : decode cc pc = .ok (.invokestatic i, 3))
    (kk : W p l e R s m args below meth c H locs cells slots Z (F0 m (pc + 3) ls (r.toList ++ rest))) : W p l e R s m args below meth c H locs cells slots Z (F0 m pc ls (As.reverse ++ rest)) := by
  have hts := ax_G_ts hE args
  refine rw_behind ?_ kk (av := As.toArray)
  exact va_runS (As := As) (rest := rest) ⟨hx, hb, hml, hown, ax_G_ts hE args⟩ (hM l) ⟨⟨rfl, rfl, hd1, (by show 8 + (nL' + 11) + 60 * d' ≤ R.locals; omega), ax_code_warm (hts _ h1), List.mem_cons_self, hts _ h1, hts _ h3, ⟨h5.1, h5.2.1⟩, (fun sig hs => by
      have h := h5.2.2
      rw [hs] at h
      exact (Option.some.inj h).symm), hts _ h2⟩, hts _ h4⟩ ⟨RPc_blind hK, fun U hU hW => ⟨rfl, ax_Env_warm hW hE, by rw [hU]; exact ax_below_S hB hS, hk U hU hW⟩⟩ rfl hn hsz rfl (lv_room hcat) hdg ⟨by omega, by omega⟩
theorem rw_callV {o C : String} {i n nL' d' b : Nat} {K' : State → Prop} {y' : MethodName} {cc' : ByteArray} {ret' : Option FieldType} {As rest : List Value} {r : Option Value} {H : Heap} {locs : List Loc} {cells slots : Nat} {Z : State → Prop} (hx : p.tables.exec = Jvm.exec) (hb : c.code = cc) (hml : c.maxLocals = nL) (hown : s.vm.findClass o = some m.cls) (hE : ax_Env G s) (hB : ax_below G s.heap) (hS : va_S (ax_A G) s.heap H locs) (hc : cells ≤ R.cells) (hs : slots ≤ R.slots)
    (hM : RMt G K' y' cc' nL' ret' d' (.ref b :: As) r) (hK : RSt K') (hk : ∀ U : State, U.heap = H → s.WarmedH U.vm → K' U) (h1 : Cond.code y' cc' nL' ret' ∈ ax_G) (h2 : Cond.methodLink o i y' ∈ ax_G) (h3 : Cond.initialized y'.cls ∈ ax_G) (h4 : Cond.selects C y' y' ∈ ax_G) (h4i : Cond.instanceMethod y' ∈ ax_G) (hrec : ∃ cell : Cell, H[b]? = some cell ∧ cell.vm.isStatics = false ∧ s.vm.findClass C = some cell.cls) (h5 : y'.cls ≠ "java/lang/invoke/MethodHandle" ∧ y'.cls ≠ "java/lang/invoke/VarHandle" ∧ (parseMethodDescriptor y'.desc).map (fun d => d.parameters.length) = some n) (h6 : nL' ≤ 41) (hd1 : d' + 1 ≤ R.frames) (hd2 : 60 * d' + 60 ≤ R.locals) (hn : As.length = n) (hsz : ls.size = nL) (hcat : (rest.map fun v => v.category).sum ≤ 8) (hdg : decode cc pc = .ok (.invokevirtual i, 3))
    (kk : W p l e R s m args below meth c H locs cells slots Z (F0 m (pc + 3) ls (r.toList ++ rest))) : W p l e R s m args below meth c H locs cells slots Z (F0 m pc ls (As.reverse ++ .ref b :: rest)) := by
  have hts := ax_G_ts hE args
  refine rw_behind ?_ kk (av := (Value.ref b :: As).toArray)
  exact va_runV (C := C) (b := b) (As := As) (rest := rest) ⟨hx, hb, hml, hown, ax_G_ts hE args⟩ (hM l) ⟨⟨rfl, rfl, hd1, (by show 8 + (nL' + 11) + 60 * d' ≤ R.locals; omega), ax_code_warm (hts _ h1), List.mem_cons_self, hts _ h1, hts _ h3, ⟨h5.1, h5.2.1⟩, (fun sig hs => by
      have h := h5.2.2
      rw [hs] at h
      exact (Option.some.inj h).symm), hts _ h2⟩, hts _ h4i, hts _ h4⟩ ⟨RPc_blind hK, hrec, fun U hU hW => ⟨rfl, ax_Env_warm hW hE, by rw [hU]; exact ax_below_S hB hS, hk U hU hW⟩⟩ rfl hn hsz rfl (lv_room hcat) hdg ⟨by omega, by omega⟩
theorem rw_str {s : State} (hE : ax_Env G s) (hB : ax_below G s.heap) : ∃ adV, vk_S 2 ax_slen ax_sbyt G.2.2.2.2.2 adV (ax_A G) s s.heap ∧ va_Z "java/lang/String" "COMPACT_STRINGS" "Z" (.int 1) (ax_A G) s s.heap ∧ va_Zq "jdk/internal/util/Preconditions" "SIOOBE_FORMATTER" "Ljava/util/function/BiFunction;" (ax_A G) s s.heap := by
  obtain ⟨-, -, -, -, -, -, -, -, -, -, adV, s3, s4, s5⟩ := hE
  have hq : ∀ a : Nat, a < G.2.2.2.1.size → ¬ ax_A G a → s.heap[a]? = G.2.2.2.1[a]? := fun a _ h2 => hB.2.2 a (Nat.not_le.mp h2)
  exact ⟨adV, s3.kept hq, s4.kept hq, s5.kept hq⟩
end RWS
theorem RSt_T : RSt (fun _ => True) := fun _ _ _ _ _ => trivial
section RWM
variable {G : AG}
theorem r_coder {t : Nat} (ht : t < 2) : RMt G (fun _ => True) yJ0_coder_7d493 cJ0_coder_7d493 1 (some .byte) 0 [.ref (G.2.2.2.2.2 t)] (some (.int 0)) := by
  refine rw_intro (by decide +kernel) (Nat.le_of_ble_eq_true rfl) ?_
  intro p l e R s m args below meth c ls C hl
  obtain ⟨hx, hb, hml, hret, hlk, hown, hE, hB, hR1, hR2, -⟩ := id C
  obtain ⟨adV, s3, s4, s5⟩ := rw_str hE hB
  have hown' : s.vm.findClass "java/lang/String" = some m.cls := hown
  have hts := ax_G_ts hE args
  obtain ⟨-, f1, f2, f3⟩ := s3.1 t ht
  refine va_gets hx hb s4 va_S.rf hown' (hts _ zw_38) (fun _ h => h) dJ0_coder_7d493_0 ?_
  refine lv_if_eq hx hb dJ0_coder_7d493_3 (tgt := 13) rfl (fun q => absurd q (by decide)) (fun _ => ?_)
  refine lv_aload_n hx hb dJ0_coder_7d493_6 rfl (lv_at hl 0 rfl) ?_
  refine vk_getf hx hb f1 va_S.rf hown' (hts _ zw_15) (fun _ h => h) dJ0_coder_7d493_7 ?_
  refine lv_goto hx hb dJ0_coder_7d493_10 (tgt := 14) rfl ?_
  exact rw_iret C rfl (by decide +kernel) dJ0_coder_7d493_14
theorem r_lat {t : Nat} (ht : t < 2) : RMt G (fun _ => True) yJ0_isLatin1_aae02 cJ0_isLatin1_aae02 1 (some .boolean) 0 [.ref (G.2.2.2.2.2 t)] (some (.int 1)) := by
  refine rw_intro (by decide +kernel) (Nat.le_of_ble_eq_true rfl) ?_
  intro p l e R s m args below meth c ls C hl
  obtain ⟨hx, hb, hml, hret, hlk, hown, hE, hB, hR1, hR2, -⟩ := id C
  obtain ⟨adV, s3, s4, s5⟩ := rw_str hE hB
  have hown' : s.vm.findClass "java/lang/String" = some m.cls := hown
  have hts := ax_G_ts hE args
  obtain ⟨-, f1, f2, f3⟩ := s3.1 t ht
  refine va_gets hx hb s4 va_S.rf hown' (hts _ zw_38) (fun _ h => h) dJ0_isLatin1_aae02_0 ?_
  refine lv_if_eq hx hb dJ0_isLatin1_aae02_3 (tgt := 17) rfl (fun q => absurd q (by decide)) (fun _ => ?_)
  refine lv_aload_n hx hb dJ0_isLatin1_aae02_6 rfl (lv_at hl 0 rfl) ?_
  refine vk_getf hx hb f1 va_S.rf hown' (hts _ zw_15) (fun _ h => h) dJ0_isLatin1_aae02_7 ?_
  refine lv_if_ne hx hb dJ0_isLatin1_aae02_10 (tgt := 17) rfl (fun q => absurd rfl q) (fun _ => ?_)
  refine lv_iconst hx hb dJ0_isLatin1_aae02_13 (v := 1) rfl ?_
  refine lv_goto hx hb dJ0_isLatin1_aae02_14 (tgt := 18) rfl ?_
  exact rw_iret C rfl (by decide +kernel) dJ0_isLatin1_aae02_18
theorem r_pre {i n : Nat} (hi : i < n) (hn : n < 2 ^ 31) (v : Value) (hv : v.category = 1) : RMt G (fun _ => True) yJ3_checkIndex_8e157 cJ3_checkIndex_8e157 3 (some .int) 0 [.int (nI i), .int (nI n), v] (some (.int (nI i))) := by
  refine rw_intro (by decide +kernel) ?_ ?_
  · unfold lg_sl
    simp [hv, ct_int]
  intro p l e R s m args below meth c ls C hl
  obtain ⟨hx, hb, hml, hret, hlk, hown, hE, hB, hR1, hR2, -⟩ := id C
  have hl' : lv_has ls 3 [(0, .int (nI i)), (1, .int (nI n)), (2, v)] := hl
  refine lv_iload_n hx hb dJ3_checkIndex_8e157_0 rfl (lv_at hl' 0 rfl) ?_
  refine lv_if_lt hx hb dJ3_checkIndex_8e157_1 (tgt := 9) rfl (fun q => absurd q (nI_pos (by omega))) (fun _ => ?_)
  refine lv_iload_n hx hb dJ3_checkIndex_8e157_4 rfl (lv_at hl' 0 rfl) ?_
  refine lv_iload_n hx hb dJ3_checkIndex_8e157_5 rfl (lv_at hl' 1 rfl) ?_
  refine lv_icmp_lt hx hb dJ3_checkIndex_8e157_6 (tgt := 16) rfl (fun _ => ?_) (fun q => absurd (nI_lt hi hn) q)
  refine lv_iload_n hx hb dJ3_checkIndex_8e157_16 rfl (lv_at hl' 0 rfl) ?_
  exact rw_iret C rfl rfl dJ3_checkIndex_8e157_17
theorem r_chk {i n : Nat} (hi : i < n) (hn : n < 2 ^ 31) : RMt G (fun _ => True) yJ0_checkIndex_df160 cJ0_checkIndex_df160 2 none 1 [.int (nI i), .int (nI n)] none := by
  refine rw_intro (by decide +kernel) (Nat.le_of_ble_eq_true rfl) ?_
  intro p l e R s m args below meth c ls C hl
  obtain ⟨hx, hb, hml, hret, hlk, hown, hE, hB, hR1, hR2, -⟩ := id C
  obtain ⟨adV, s3, s4, s5⟩ := rw_str hE hB
  have hown' : s.vm.findClass "java/lang/String" = some m.cls := hown
  have hts := ax_G_ts hE args
  have hz : ∃ v : Value, v.category = 1 ∧ va_Z "jdk/internal/util/Preconditions" "SIOOBE_FORMATTER" "Ljava/util/function/BiFunction;" v (ax_A G) s s.heap := by
    rcases s5 with h | ⟨t, h⟩
    · exact ⟨.null, rfl, h⟩
    · exact ⟨.ref t, rfl, h⟩
  obtain ⟨v, hv, hz⟩ := hz
  refine lv_iload_n hx hb dJ0_checkIndex_df160_0 rfl (lv_at hl 0 rfl) ?_
  refine lv_iload_n hx hb dJ0_checkIndex_df160_1 rfl (lv_at hl 1 rfl) ?_
  refine va_gets hx hb hz va_S.rf hown' (hts _ zw_1053) (fun _ h => h) dJ0_checkIndex_df160_2 ?_
  refine rw_callS (n := 3) (As := [.int (nI i), .int (nI n), v]) (rest := []) hx hb hml hown' hE hB va_S.rf (Nat.zero_le _) (Nat.zero_le _) (r_pre hi hn v hv) RSt_T (fun _ _ _ => trivial) zc_pre zl_1059 zi_pre zs_pre (by decide +kernel) (by decide) hR1 (by omega) rfl hl.1 (by decide) dJ0_checkIndex_df160_5 ?_
  refine lv_pop hx hb dJ0_checkIndex_df160_8 rfl ?_
  exact rw_vret C rfl dJ0_checkIndex_df160_9
theorem ch_ok : ∀ v, v < 128 → ((nI v &&& 255).toUInt32 % 65536).toInt32 = nI v ∧ narrow .char (.int (nI v)) = .int (nI v) := by decide +kernel
theorem r_l1 {q N i : Nat} {f : Nat → Nat} (hi : i < N) (hN : N < 2 ^ 31) (hf : ∀ j, j < N → f j < 128) : RMt G (fun U => va_T .byte q N (fun j => .int (nI (f j))) (ax_A G) U U.heap) yJ1_charAt_3b067 cJ1_charAt_3b067 2 (some .char) 2 [.ref q, .int (nI i)] (some (.int (nI (f i)))) := by
  refine rw_intro (by decide +kernel) (Nat.le_of_ble_eq_true rfl) ?_
  intro p l e R s m args below meth c ls C hl
  obtain ⟨hx, hb, hml, hret, hlk, hown, hE, hB, hR1, hR2, hT⟩ := id C
  have hown' : s.vm.findClass "java/lang/StringLatin1" = some m.cls := hown
  obtain ⟨c1, c2⟩ := ch_ok _ (hf i hi)
  refine lv_iload_n hx hb dJ1_charAt_3b067_0 rfl (lv_at hl 1 rfl) ?_
  refine lv_aload_n hx hb dJ1_charAt_3b067_1 rfl (lv_at hl 0 rfl) ?_
  refine va_tlen hx hb hT va_S.rf (v := nI N) rfl dJ1_charAt_3b067_2 ?_
  refine rw_callS (n := 2) (As := [.int (nI i), .int (nI N)]) (rest := []) hx hb hml hown' hE hB va_S.rf (Nat.zero_le _) (Nat.zero_le _) (r_chk hi hN) RSt_T (fun _ _ _ => trivial) zc_chk zl_9 zi_chk zs_chk (by decide +kernel) (by decide) hR1 (by omega) rfl hl.1 (by decide) dJ1_charAt_3b067_3 ?_
  refine lv_aload_n hx hb dJ1_charAt_3b067_6 rfl (lv_at hl 0 rfl) ?_
  refine lv_iload_n hx hb dJ1_charAt_3b067_7 rfl (lv_at hl 1 rfl) ?_
  refine va_tb hx hb hT va_S.rf (vp_in_nI hi hN) (v := .int (nI (f i))) (by rw [nI_clamp (by omega)]) dJ1_charAt_3b067_8 ?_
  refine lv_sipush hx hb dJ1_charAt_3b067_9 (v := 255) (by decide +kernel) ?_
  refine lv_iand hx hb dJ1_charAt_3b067_12 ?_
  refine lv_i2c hx hb dJ1_charAt_3b067_13 c1 ?_
  exact rw_iret C rfl c2 dJ1_charAt_3b067_14
theorem RSt_V {q N : Nat} {f : Nat → Value} : RSt (fun U => va_T .byte q N f (ax_A G) U U.heap) := fun s U hW hh h => by
  have h1 := va_T.moved (U := U) hW.alike h
  show va_T .byte q N f (ax_A G) U U.heap
  rw [hh]
  exact h1
/-- a string's bytes -/
def s_chr (t k : Nat) : Nat := if t = 0 then ax_s0.getD k 0 else ax_s1.getD k 0
theorem s_chr_lt : ∀ t, t < 2 → ∀ k, k < 74 → s_chr t k < 128 := by decide +kernel
theorem s_len_le : ∀ t, t < 2 → ax_slen.getD t 0 ≤ 74 ∧ 57 ≤ ax_slen.getD t 0 := by decide +kernel
theorem s_map_nI : ∀ (l : List Nat) (j : Nat), (l.map nI).getD j 0 = nI (l.getD j 0)
  | [], _ => rfl
  | _ :: _, 0 => rfl
  | _ :: r, j + 1 => by
    have := s_map_nI r j
    simpa using this
theorem s_byt {t : Nat} (ht : t < 2) (j : Nat) : (ax_sbyt.getD t []).getD j 0 = nI (s_chr t j) := by
  unfold s_chr
  rcases (show t = 0 ∨ t = 1 by omega) with rfl | rfl
  · exact s_map_nI ax_s0 j
  · exact s_map_nI ax_s1 j
variable {h : AH}
theorem c_J0_length {a t : Nat} (ha : h.1 a = some (60, t)) : AC G jJ0_length_8abf5 2 0 0 [.ref a] h (Pu (.int (nI (ax_slen.getD t 0))) h) := by
  refine ax_intro 11 false cdJ0_length_8abf5 (by decide +kernel) (by decide +kernel) (by decide +kernel) (Nat.le_of_ble_eq_true rfl) ?_
  intro p l e R s m args below meth c Z mc ms ad0 h0 C Rt k1 n1 ad H locs ls A
  obtain ⟨hx, hb, hml, hown, hini, hE, hB, hR1, hR2, hR3, hR4⟩ := id C
  obtain ⟨a1, a2, a3, a4, a5, a6, a7, a8, a9⟩ := id A
  obtain ⟨dom, nd, hdm, hP, hD, ho, hcl⟩ := id a3
  obtain ⟨had, ht⟩ : ad a = G.2.2.2.2.2 t ∧ t < 2 := by
    rcases ho a 60 t ha rfl with ⟨q, -⟩ | ⟨-, q⟩
    · cases q
    · exact q
  obtain ⟨adV, s3, s4, s5⟩ := rw_str hE hB
  obtain ⟨hb1, hb2⟩ := s_len_le t ht
  have hts := ax_G_ts hE args
  obtain ⟨-, f1, f2, f3⟩ := s3.1 t ht
  have hrec := vk_recv (s := s) (H := H) s3 ht a4
  have hl : lv_has ls 1 [(0, .ref (G.2.2.2.2.2 t))] := by rw [← had]; exact a9
  have hown' : s.vm.findClass "java/lang/String" = some m.cls := hown
  refine lv_aload_n hx hb dJ0_length_8abf5_0 rfl (lv_at hl 0 rfl) ?_
  refine vk_getf hx hb f2 a4 hown' (hts _ zw_9) (fun _ h => h) dJ0_length_8abf5_1 ?_
  refine va_tlen hx hb f3 a4 (v := nI (ax_slen.getD t 0)) rfl dJ0_length_8abf5_4 ?_
  refine lv_aload_n hx hb dJ0_length_8abf5_5 rfl (lv_at hl 0 rfl) ?_
  refine rw_callV (n := 0) (C := "java/lang/String") (b := G.2.2.2.2.2 t) (As := []) (rest := [.int (nI (ax_slen.getD t 0))]) hx hb hml hown' hE hB a4 (by omega) (by omega) (r_coder ht) RSt_T (fun _ _ _ => trivial) zc_coder zl_335 zi_coder zs_coder zn_coder hrec (by decide +kernel) (by decide) (by omega) (by omega) rfl a9.1 (Nat.le_of_ble_eq_true rfl) dJ0_length_8abf5_6 ?_
  refine lv_ishr hx hb dJ0_length_8abf5_9 ?_
  have e0 : ∀ x : Int32, x >>> ((0 : Int32) &&& 31) = x := fun x => by
    rw [show ((0 : Int32) &&& 31) = 0 by decide]
    exact Int32.shiftRight_zero
  have fin := (ax_r_ireturn (G := G) (o := 11) (nL := 1) (ini := false) (cc := ax_cc jJ0_length_8abf5) (ret := ax_ret jJ0_length_8abf5) (d := 2) (Q := Pu (.int (nI (ax_slen.getD t 0))) h) (rc := 0) (rs := 0) (pc := 10) (L := [(0, .ref a)]) (S := []) (h := h) (x := nI (ax_slen.getD t 0)) dJ0_length_8abf5_10 ⟨.int, rfl, rfl⟩ ⟨rfl, rfl⟩) p l e R s m args below meth c Z mc ms ad0 h0 C Rt k1 n1 ad H locs ls ⟨a1, a2, a3, a4, a5, a6, a7, (fun v hv => by
    rw [List.mem_singleton.mp hv]
    exact ax_wv_int _ _), a9⟩
  rw [← e0 (nI (ax_slen.getD t 0))] at fin
  exact fin
theorem c_J0_charAt {a t k : Nat} (ha : h.1 a = some (60, t)) (hk : k < ax_slen.getD t 0) : AC G jJ0_charAt_5068e 4 0 0 [.ref a, .int (nI k)] h (Pu (.int (nI (s_chr t k))) h) := by
  refine ax_intro 11 false cdJ0_charAt_5068e (by decide +kernel) (by decide +kernel) (by decide +kernel) (Nat.le_of_ble_eq_true rfl) ?_
  intro p l e R s m args below meth c Z mc ms ad0 h0 C Rt k1 n1 ad H locs ls A
  obtain ⟨hx, hb, hml, hown, hini, hE, hB, hR1, hR2, hR3, hR4⟩ := id C
  obtain ⟨a1, a2, a3, a4, a5, a6, a7, a8, a9⟩ := id A
  obtain ⟨dom, nd, hdm, hP, hD, ho, hcl⟩ := id a3
  obtain ⟨had, ht⟩ : ad a = G.2.2.2.2.2 t ∧ t < 2 := by
    rcases ho a 60 t ha rfl with ⟨q, -⟩ | ⟨-, q⟩
    · cases q
    · exact q
  obtain ⟨adV, s3, s4, s5⟩ := rw_str hE hB
  obtain ⟨hb1, hb2⟩ := s_len_le t ht
  have hts := ax_G_ts hE args
  obtain ⟨-, f1, f2, f3⟩ := s3.1 t ht
  have f3' : va_T .byte (adV t) (ax_slen.getD t 0) (fun j => .int (nI (s_chr t j))) (ax_A G) s s.heap := by
    have e : (fun j => Value.int ((ax_sbyt.getD t []).getD j 0)) = (fun j => Value.int (nI (s_chr t j))) := funext fun j => by rw [s_byt ht]
    rw [← e]
    exact f3
  have hlt : ∀ j, j < ax_slen.getD t 0 → s_chr t j < 128 := fun j hj => s_chr_lt t ht j (by omega)
  have hrec := vk_recv (s := s) (H := H) s3 ht a4
  have hl : lv_has ls 2 [(0, .ref (G.2.2.2.2.2 t)), (1, .int (nI k))] := by rw [← had]; exact a9
  have hown' : s.vm.findClass "java/lang/String" = some m.cls := hown
  refine lv_aload_n hx hb dJ0_charAt_5068e_0 rfl (lv_at hl 0 rfl) ?_
  refine rw_callV (n := 0) (C := "java/lang/String") (b := G.2.2.2.2.2 t) (As := []) (rest := []) hx hb hml hown' hE hB a4 (by omega) (by omega) (r_lat ht) RSt_T (fun _ _ _ => trivial) zc_lat zl_492 zi_lat zs_lat zn_lat hrec (by decide +kernel) (by decide) (by omega) (by omega) rfl a9.1 (by decide) dJ0_charAt_5068e_1 ?_
  refine lv_if_eq hx hb dJ0_charAt_5068e_4 (tgt := 16) rfl (fun q => absurd q (by decide)) (fun _ => ?_)
  refine lv_aload_n hx hb dJ0_charAt_5068e_7 rfl (lv_at hl 0 rfl) ?_
  refine vk_getf hx hb f2 a4 hown' (hts _ zw_9) (fun _ h => h) dJ0_charAt_5068e_8 ?_
  refine lv_iload_n hx hb dJ0_charAt_5068e_11 rfl (lv_at hl 1 rfl) ?_
  refine rw_callS (n := 2) (As := [.ref (adV t), .int (nI k)]) (rest := []) hx hb hml hown' hE hB a4 (by omega) (by omega) (r_l1 hk (by omega) hlt) RSt_V (fun U hU hW => ?_) zc_l1 zl_495 zi_l1 zs_l1 (by decide +kernel) (by decide) (by omega) (by omega) rfl a9.1 (by decide) dJ0_charAt_5068e_12 ?_
  · rw [hU]
    exact va_T.moved hW.alike (f3'.kept (fun q h1 h2 => a4.2.1 q h1 h2))
  exact (ax_r_ireturn (G := G) (o := 11) (nL := 2) (ini := false) (cc := ax_cc jJ0_charAt_5068e) (ret := ax_ret jJ0_charAt_5068e) (d := 4) (Q := Pu (.int (nI (s_chr t k))) h) (rc := 0) (rs := 0) (pc := 15) (L := [(0, .ref a), (1, .int (nI k))]) (S := []) (h := h) (x := nI (s_chr t k)) dJ0_charAt_5068e_15 ⟨.char, rfl, (ch_ok _ (hlt k hk)).2⟩ ⟨rfl, rfl⟩) p l e R s m args below meth c Z mc ms ad0 h0 C Rt k1 n1 ad H locs ls ⟨a1, a2, a3, a4, a5, a6, a7, (fun v hv => by
    rw [List.mem_singleton.mp hv]
    exact ax_wv_int _ _), a9⟩
end RWM
