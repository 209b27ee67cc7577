-- deps: 04 05 06 07 73 85 86 87 88 89
/-! THE CLAIM OUT OF ONE WALK OF THE LAW'S BODY. Your part is whole_start (and what it stands on); all else here is the same for every law, but numbers. -/
def R_law : String := "UpTheFlueLaw"
def lw_P (b : Addr) (xs : List Int32) (args : Array Value) (s : State) : Prop := args = #[.ref b] ∧ s.IntsAt b xs ∧ xs.length ≤ 3584 ∧ (Jvm.Cond.and given_1 narrow_1).before args s = true
def lw_Q (_ : Array Value) (s : State) (o : Outcome) (t : State) : Prop := o = .returned (some (.int 1)) ∧ Framed s o t [] 600000 7302250
def lw_Z (below : List Frame) (a : Array Value) (s : State) : State → Prop := fun t => ∃ o, t.status = .running ∧ Ended t below o ∧ lw_Q a s o t
/-- the law's own end, with 1 on the stack, nothing written that was there before, its room as the claim has it -/
theorem lw_ret {p : Program} {l : Launch} {e : Env} {s : State} {m : MethodId} {below : List Frame} {meth : Method} {c : Code} {b : Nat} (hx : p.tables.exec = Jvm.exec) (hb : c.code = code) (hr : meth.sig.returnType = ret) (hlocks : meth.locks = false) {pc : Nat} {H : Heap} {ls : Array Slot} (hdg : decode code pc = .ok (.ireturn, 1)) : W p l e room_1 s m #[Value.ref b] below meth c H [] 600000 7302250 (lw_Z below #[Value.ref b] s) (F0 m pc ls [.int 1]) := by
  intro T hT X
  obtain ⟨fs, hret, hrun, hended, hW, hframe⟩ := X.leave (v := some (.int 1)) (hlocks := hlocks) (fun h => by rw [hr] at h; cases h)
  have hmeth' : T.vm.method? m = some meth := X.method'
  refine ⟨T.setFrames fs, ?_, .returned (some (.int 1)), hrun, hended, rfl, ⟨_, rfl⟩, hW, hframe⟩
  jvm_step X.here [X.here.top, hx, hb, hdg, hmeth', hr, ret, narrow_b1]
  (try refine ⟨rfl, ?_⟩); (try refine ⟨rfl, ?_⟩)
  first | (intro acts; rw [hret _ acts rfl rfl rfl]) | rw [hret _ _ rfl rfl rfl]
  exact Steps.refl _
/-- what holds at the law's entry: the machine, the code, the tables' words (any of lw_tbl by 'hts w (by decide +kernel)'), the script of L ints xs at the cell b, what the Statement gives of the start (any of its parts by flat_of_before) -/
def lw_At (p : Program) (s : State) (m : MethodId) (meth : Method) (c : Code) (b L : Nat) (xs : Nat → Int32) : Prop :=
  p.tables.exec = Jvm.exec ∧ c.code = code ∧ meth.sig.returnType = ret ∧ c.maxLocals = 4 ∧ s.vm.findClass R_law = some m.cls ∧ (∀ w ∈ lw_tbl, w.before #[Value.ref b] s = true) ∧ va_X b L xs s s.heap ∧ b < s.heap.size ∧ meth.locks = false ∧ (Jvm.Cond.and given_1 narrow_1).before #[Value.ref b] s = true
theorem ws_good {w : Cond} (hg : goodWord w = true) {A : Array Value} {s : State} (h : w.before A s = true) (a : Array Value) : w.before a s = true := by
  rcases good_of_word hg with q | ⟨ty, rfl⟩
  · rw [Bool.and_eq_true] at q
    exact va_Nw.use q.1 (va_Nw.of q.1 h)
  · exact h
theorem ws_nest : ax_nest.all (fun q => decide (Cond.methodLinkNest q.1 q.2.1 q.2.2.1 q.2.2.2 ∈ lw_tbl)) = true := by decide +kernel
def ws_tm (i : Nat) : Term := if i = 0 then .string "UpTheFlue" 40 else .string "UpTheFlue$Reader" 127
/-- the world at the law's entry -/
def ws_h (L : Nat) (xs : Nat → Int32) : AH := ((fun a => if a = 1 then some (49, L) else if a = 2 then some (60, 0) else if a = 3 then some (60, 1) else none), (fun a k => if a = 1 then xs k else 0), fun _ _ => none)
def ws_ad (b : Nat) (k : Nat → Nat) (a : Nat) : Nat := if a = 1 then b else if a = 2 then k 0 else k 1
theorem ws_two {P : Nat → Prop} (h0 : P 0) (h1 : P 1) : ∀ i, i < 2 → P i := fun i hi => by
  rcases (show i = 0 ∨ i = 1 by omega) with rfl | rfl
  · exact h0
  · exact h1
theorem ws_str {args : Array Value} {s : State} {A : Nat → Prop} (hgv : (Jvm.Cond.and given_1 narrow_1).before args s = true) (hA : ∀ a : Nat, a < s.heap.size → ¬ A a) : ∃ adK adV : Nat → Nat, vk_S 2 ax_slen ax_sbyt adK adV A s s.heap ∧ ∀ i : Nat, i < 2 → (ws_tm i).eval args s none [] s = some (.ref (adK i)) := by
  have hf := flat_of_before _ hgv
  refine vk_Sof (tm := ws_tm) (ws_two (by decide) (by decide)) (ws_two (hf _ (by decide +kernel)) (hf _ (by decide +kernel))) (ws_two (hf _ (by decide +kernel)) (hf _ (by decide +kernel))) (ws_two (hf _ (by decide +kernel)) (hf _ (by decide +kernel))) (ws_two (hf _ (by decide +kernel)) (hf _ (by decide +kernel))) ?_ ?_ hA
  · refine ws_two (fun j hj => ?_) (fun j hj => ?_)
    · have h : ∀ j, j < 74 → (Cond.eq (.elem (.field (ws_tm 0) "java/lang/String" "value" "[B") (.int (Int32.ofNat j))) (.int ((ax_sbyt.getD 0 []).getD j 0))) ∈ flatC (Jvm.Cond.and given_1 narrow_1) := by decide +kernel
      exact hf _ (h j hj)
    · have h : ∀ j, j < 57 → (Cond.eq (.elem (.field (ws_tm 1) "java/lang/String" "value" "[B") (.int (Int32.ofNat j))) (.int ((ax_sbyt.getD 1 []).getD j 0))) ∈ flatC (Jvm.Cond.and given_1 narrow_1) := by decide +kernel
      exact hf _ (h j hj)
  · intro i j hi hj hij
    rcases (show (i = 0 ∧ j = 1) ∨ (i = 1 ∧ j = 0) by omega) with ⟨rfl, rfl⟩ | ⟨rfl, rfl⟩
    · first | exact Or.inl (hf _ (by decide +kernel)) | exact Or.inr (hf _ (by decide +kernel))
    · first | exact Or.inl (hf _ (by decide +kernel)) | exact Or.inr (hf _ (by decide +kernel))
theorem ws_rel {G : AG} {ad : Nat → Nat} {L : Nat} {xs : Nat → Int32} {H : Heap} (e1 : ad 1 = G.2.2.2.2.1.1) (e2 : L = G.2.2.2.2.1.2.1) (e3 : ∀ k, k < L → xs k = G.2.2.2.2.1.2.2 k) (e4 : ad 2 = G.2.2.2.2.2 0) (e5 : ad 3 = G.2.2.2.2.2 1) : ax_Rel G ad (ws_h L xs) H := by
  have key : ∀ a c n, (ws_h L xs).1 a = some (c, n) → (a = 1 ∧ c = 49 ∧ n = L) ∨ (a = 2 ∧ c = 60 ∧ n = 0) ∨ (a = 3 ∧ c = 60 ∧ n = 1) := fun a c n q => by
    replace q : (if a = 1 then some (49, L) else if a = 2 then some (60, 0) else if a = 3 then some (60, 1) else none) = some (c, n) := q
    by_cases h1 : a = 1
    · rw [if_pos h1] at q
      cases q
      exact Or.inl ⟨h1, rfl, rfl⟩
    · rw [if_neg h1] at q
      by_cases h2 : a = 2
      · rw [if_pos h2] at q
        cases q
        exact Or.inr (Or.inl ⟨h2, rfl, rfl⟩)
      · rw [if_neg h2] at q
        by_cases h3 : a = 3
        · rw [if_pos h3] at q
          cases q
          exact Or.inr (Or.inr ⟨h3, rfl, rfl⟩)
        · rw [if_neg h3] at q
          cases q
  refine ⟨[], List.nodup_nil, fun a => ⟨fun q => (by cases q), fun ⟨c, n, q, ho⟩ => ?_⟩, fun k q h => (by simp [ax_ws] at h), ⟨fun i j p q h => (by simp [ax_ws] at h), fun k q h => (by simp [ax_ws] at h)⟩, fun a c n q _ => ?_, fun a b k _ q => (by cases q)⟩
  · rcases key a c n q with ⟨-, rfl, -⟩ | ⟨-, rfl, -⟩ | ⟨-, rfl, -⟩ <;> exact absurd ho (by decide)
  · rcases key a c n q with ⟨rfl, rfl, rfl⟩ | ⟨rfl, rfl, rfl⟩ | ⟨rfl, rfl, rfl⟩
    · exact Or.inl ⟨rfl, e1, e2, fun k hk => by rw [← e3 k hk]; rfl⟩
    · exact Or.inr ⟨rfl, e4, by decide⟩
    · exact Or.inr ⟨rfl, e5, by decide⟩
set_option maxRecDepth 100000 in
set_option maxHeartbeats 4000000 in
theorem whole_start {p : Program} {e : Env} {s : State} {m : MethodId} {below : List Frame} {meth : Method} {c : Code} (l : Launch) (hflags : l.flags = flags0) {b L : Nat} {xs : Nat → Int32} (hL : L ≤ 3584) (C0 : lw_At p s m meth c b L xs) : W p l e room_1 s m #[Value.ref b] below meth c s.heap [] 0 0 (lw_Z below #[Value.ref b] s) (entryFrame m ([Value.ref b] : List Value).toArray 4) := by
  obtain ⟨hx, hb, hr, hml, hown, hts, hX, hbl, hlocks, hgv⟩ := id C0
  have hf := flat_of_before _ hgv
  have htsG : ∀ w ∈ ax_G, w.before #[Value.ref b] s = true := fun w hw => hts w (List.mem_filter.mp hw).1
  have kn : ∀ c : Nat, ∃ q : ClassId × (Nat → Nat), c < 7 → u_Kn s (ax_nm c) (ax_T c) (ax_N c) q.1 q.2 := fun c => by
    by_cases hc : c < 7
    · obtain ⟨x, y, h⟩ := u_known htsG (ax_lays hc) (htsG _ (ax_insts hc))
      exact ⟨(x, y), fun _ => h⟩
    · exact ⟨(m.cls, fun _ => 0), fun h => absurd h hc⟩
  obtain ⟨kf, hkf⟩ := Classical.axiomOfChoice kn
  have hA : ∀ a : Nat, a < s.heap.size → ¬ (fun q : Nat => s.heap.size ≤ q) a := fun a h => Nat.not_le.mpr h
  obtain ⟨adK, adV, hSt, hEv⟩ := ws_str (A := fun q : Nat => s.heap.size ≤ q) hgv hA
  have hi : (Cond.arrayClass .int).before #[Value.ref b] s = true := hts _ (by decide +kernel)
  obtain ⟨i50, k50, p50, a1, a2, a3⟩ := Cond.arrayClass_spec hi
  have ho2 : (Cond.arrayOver (.object (ax_nm 2))).before #[Value.ref b] s = true := hts _ (by decide +kernel)
  have ho4 : (Cond.arrayOver (.object (ax_nm 4))).before #[Value.ref b] s = true := hts _ (by decide +kernel)
  have ho0 : (Cond.arrayOver (.object (ax_nm 0))).before #[Value.ref b] s = true := hts _ (by decide +kernel)
  obtain ⟨p51, i51, k51, b1, b2, b3, b4, b5⟩ := Cond.arrayOver_spec ho2
  obtain ⟨p52, i52, k52, c1, c2, c3, c4, c5⟩ := Cond.arrayOver_spec ho4
  obtain ⟨p53, i53, k53, d1, d2, d3, d4, d5⟩ := Cond.arrayOver_spec ho0
  generalize hG : ((s.heap.size, ((fun c => (kf c).1, fun c => (kf c).2), ((fun c => if c = 50 then i50 else if c = 51 then i51 else if c = 52 then i52 else i53), (s.heap, ((b, (L, xs)), adK))))) : AG) = G
  have hE : ax_Env G s := by
    subst hG
    refine ⟨⟨fun c q hq => ?_, fun k q hq => ?_⟩, fun w hw hg a => ws_good hg (hts w hw) a, fun q hq => va_Nw.of rfl (hts _ (of_decide_eq_true (List.all_eq_true.mp ws_nest q hq))), va_AO.of ho2, va_AO.of ho4, va_AO.of ho0, hX, hbl, vk_R.of (hts _ (by decide +kernel)) (hEv 0 (by decide)), vk_R.of (hts _ (by decide +kernel)) (hEv 1 (by decide)), adV, hSt, va_Zof (hts _ (by decide +kernel)) (hts _ (by decide +kernel)) (va_eqt (hf _ (by decide +kernel))) hA, va_Zqof (hts _ (by decide +kernel)) (hts _ (by decide +kernel)) (hf _ (by decide +kernel)) hA⟩
    · have hc : c < 7 := (List.getElem?_eq_some_iff.mp hq).1
      rw [ax_vc_at hc] at hq
      cases hq
      exact hkf c hc
    · match k, hq with
      | 0, hq => cases hq; exact ⟨fun n z => ⟨fun k h => (by cases h), k50, a2, p50, a3⟩, a1⟩
      | 1, hq => cases hq; exact ⟨fun n z => ⟨fun k h => (by cases h), k51, b3, p51, b4⟩, k51, p51, b3, b4, b1, b5⟩
      | 2, hq => cases hq; exact ⟨fun n z => ⟨fun k h => (by cases h), k52, c3, p52, c4⟩, k52, p52, c3, c4, c1, c5⟩
      | 3, hq => cases hq; exact ⟨fun n z => ⟨fun k h => (by cases h), k53, d3, p53, d4⟩, k53, p53, d3, d4, d1, d5⟩
      | k + 4, hq => cases hq
  have hB : ax_below G s.heap := by
    subst hG
    exact ⟨Nat.le_refl _, rfl, fun _ _ => rfl⟩
  have hR : ax_Rel G (ws_ad b adK) (ws_h L xs) s.heap := by
    subst hG
    exact ws_rel rfl rfl (fun _ _ => rfl) rfl rfl
  have hAG : ∀ q : Nat, ax_A G q → s.heap.size ≤ q := fun q h => by
    subst hG
    exact h
  have hl := lv_entry ([.ref b]) (n := 4) (Nat.le_of_ble_eq_true rfl)
  rw [lg_entry_eq]
  generalize (lg_sl ([.ref b]) ++ List.replicate (4 - (lg_sl ([.ref b])).length) Slot.unset).toArray = ls at hl ⊢
  have hl : lv_has ls 4 [(0, .ref b)] := hl
  have K := k_law_start (G := G) (h := ws_h L xs) hL rfl (fun _ => rfl) rfl rfl (fun q hq => by
    show (if q = 1 then some (49, L) else if q = 2 then some (60, 0) else if q = 3 then some (60, 1) else none) = none
    rw [if_neg (by omega), if_neg (by omega), if_neg (by omega)])
  refine K p l e room_1 s m #[Value.ref b] below meth c _ 5202 66792 (ws_ad b adK) (ws_h L xs) ⟨hx, hb, hml, hown, fun q => (by cases q), hE, hB, by decide, by decide, by decide, by decide⟩ ?_ 0 0 (ws_ad b adK) s.heap [] ls ⟨by omega, by omega, hR, va_S.rf, fun _ _ => rfl, ax_mono_rf _, fun q hq => ?_, fun _ q => (by cases q), hl⟩
  · intro pc ls H locs ad h v k n hv _ _ hdec A
    have hv : v = some (.int 1) := hv
    subst hv
    obtain ⟨a1, a2, a3, a4, -⟩ := A
    refine W.widen (k := 600000) (n := 7302250) (by omega) (by omega) ?_
    refine va_forget (fun q hq => hAG _ (a4.2.2 q hq)) ?_
    exact lw_ret hx hb hr hlocks hdec
  · rw [List.mem_singleton] at hq
    subst hq
    intro a e
    cases e
    rfl
set_option maxHeartbeats 4000000 in
theorem lw_walk (l : Launch) (hflags : l.flags = flags0) (b : Addr) (xs : List Int32) : MetFree l x (headSpec (Jvm.Cond.code x code maxLocals ret :: tables_1) room_1) (lw_P b xs) (fun _ _ _ _ _ => True) lw_Q := by
  refine MetFree.of_bodyS (code := code) (maxLocals := maxLocals) (ret := ret) (by decide) ?_ ?_
  · intro args s m h hn
    obtain ⟨meth, c, h1, h2, h3, h4, h5, h6, -, -⟩ := Cond.code_spec hn (atoms_spec (ws := Jvm.Cond.code x code maxLocals ret :: tables_1) h _ List.mem_cons_self)
    exact ⟨meth, c, h1, h2, h3, h4, h5, h6⟩
  · intro p e s m args below meth c s₁ B hml0 hP _
    obtain ⟨rfl, hx, hbd, hgv⟩ := hP
    obtain ⟨scr, harrAt, hlist, hof, hsmall⟩ := hx
    obtain ⟨hcb, hkn, -, -⟩ := State.arrayAt?_spec harrAt
    have hown : s.vm.findClass R_law = some m.cls := findClass_of_methodNamed B.named
    have hts0 : ∀ c ∈ (Jvm.Cond.code x code maxLocals ret :: tables_1), c.before #[Value.ref b] s = true := atoms_spec (ws := Jvm.Cond.code x code maxLocals ret :: tables_1) B.pre
    have hts : ∀ w ∈ lw_tbl, w.before #[Value.ref b] s = true := k2_hts_sels lw_privs (fun w hw => hts0 w (List.mem_cons_of_mem _ hw)) lw_privs_ok
    have hml : c.maxLocals = 4 := B.maxLocals_eq (hts0 _ List.mem_cons_self)
    have X₀ : Stand p l e room_1 s m #[Value.ref b] below meth c s₁ [] 0 0 := Stand.of_body B
    have hh0 : s₁.heap = s.heap := by rw [B.state]; rfl
    have hsz : scr.slots.size = xs.length := by rw [← Array.length_toList, hlist, List.length_map]
    have hval : ∀ j : Nat, j < xs.length → scr.slots[j]? = some (.int (xs.getD j 0)) := fun j hj => by
      rw [← Array.getElem?_toList, hlist]
      simp [hj]
    have hbl : b < s.heap.size := (Array.getElem?_eq_some_iff.mp hcb).1
    have hX : va_X b xs.length (fun j => xs.getD j 0) s s.heap := ⟨scr, hcb, hof, hkn, hsz, hval⟩
    have K : W p l e room_1 s m #[Value.ref b] below meth c s₁.heap [] 0 0 (lw_Z below #[Value.ref b] s) (entryFrame m ([Value.ref b] : List Value).toArray 4) := by
      rw [hh0]
      exact whole_start l hflags hbd ⟨B.exec, B.bytes, B.returns, hml, hown, hts, hX, hbl, B.notSynchronized, hgv⟩
    obtain ⟨t, a1, o, b1, b2, b3⟩ := K s₁ rfl X₀
    exact ⟨t, o, a1, b1, b2, b3⟩
theorem lw_pre_spec {args : Array Value} {s : State} (h : (Jvm.Cond.and given_1 narrow_1).before args s = true) (hr : rest_1_c.before args s = true) : ∃ (b : Addr) (xs : List Int32), lw_P b xs args s := by
  have hs := flat_of_before _ h
  have hq := flat_of_before _ hr
  have hc : (Cond.count 1).before args s = true := hs _ (by decide +kernel)
  have harr : (Cond.arrayOf (.arg 0) .int).before args s = true := hs _ (by decide +kernel)
  have hle : (Cond.le (.length (.arg 0)) (.int 3584)).before args s = true := hs _ (by decide +kernel)
  have hlen : (Cond.isInt (.length (.arg 0))).before args s = true := hq _ (by decide +kernel)
  have hall : (Cond.all (.arg 0) (.isInt (.elem (.arg 0) (.index 0)))).before args s = true := hq _ (by decide +kernel)
  obtain ⟨b, xs, hb, hx⟩ := State.ints_of_pre rfl harr hlen hall
  have hsm : xs.length < 2 ^ 31 := hx.choose_spec.2.2.2
  have hev : (Term.length (.arg 0)).eval args s none [] s = some (.int xs.length.toInt32) := hx.length_eval hb
  have hv := Cond.le_ints hev (show (Term.int 3584).eval args s none [] s = some (.int 3584) from rfl)
  have hd : xs.length.toInt32 ≤ 3584 := by
    simpa [Cond.before, Cond.holds, hv] using hle
  have hN : xs.length ≤ 3584 := (Int32.ofNat_le_ofNat hsm (by decide)).mp (show Int32.ofNat xs.length ≤ Int32.ofNat 3584 from hd)
  exact ⟨b, xs, Cond.one_arg hc (show args[0]? = some (.ref b) from hb), hx, hN, h⟩
theorem lw_comes (l : Launch) (hflags : l.flags = flags0) : Comes l x (Jvm.Cond.code x code maxLocals ret :: tables_1) room_1 (fun tb e args s => Calls_1 tb e args s ∧ rest_1 tb e args s ∧ Pre_1 tb e args s)
    (fun _ _ args s o t => lw_Q args s o t) := by
  intro p e ha hc hk s m args below hf hfit hheap happ hpre
  obtain ⟨b, xs, hP⟩ := lw_pre_spec hpre.2.2 hpre.2.1
  obtain ⟨k, o, h1, h2, h3, hQ⟩ := lw_walk l hflags b xs p e ha hc hk s m args below hf ((Spec.applies_iff_loose hf).mp happ).1 hP trivial
  exact ⟨k, o, h1, h2, h3, hQ⟩
theorem lw_frame {s t : State} {o : Outcome} {args : Array Value} (h : Framed s o t [] 600000 7302250) :
    Framed s o t (fieldLocs frame_1_writes args s ++ arrayLocs frame_1_arrays args s ++ staticLocs frame_1_statics s) 600000 7302250 := h
theorem lw_limb (L : Cond) (hL : ∀ (args : Array Value) (s t : State), L.after args s (.returned (some (.int 1))) t = true) :
    ArmFor flags0 classFile x code maxLocals ret World_1 tables_1 room_1 Calls_1 rest_1 Pre_1
      (fun tb e a s o t => postC L tb e a s o t ∧ Framed s o t (fieldLocs frame_1_writes a s ++ arrayLocs frame_1_arrays a s ++ staticLocs frame_1_statics s) 600000 7302250) := by
  intro l hflags _ _ p e ha hc hk s m args below hf hfit hheap happ hpre
  obtain ⟨k, o, h1, h2, h3, rfl, hF⟩ := lw_comes l hflags p e ha hc hk s m args below hf hfit hheap happ hpre
  exact ⟨k, _, h1, h2, h3, hL args s _, lw_frame hF⟩
theorem i_vc : Claimed_1_1 ∧ Claimed_1_2 := ⟨lw_limb limb_1_1 (fun args s t => by simp [limb_1_1, Cond.after, Cond.holds, Cond.value]), lw_limb limb_1_2 (fun args s t => Cond.after_iff.mpr (by
  first | (rw [show limb_1_2 = Cond.eq .result (.int 1) from rfl, Cond.eq_ints (x := 1) (y := 1) rfl rfl]; simp; done) | (simp [limb_1_2, Cond.value, Term.eval]; done)))⟩
