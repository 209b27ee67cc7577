-- deps: 11 13 16 19 21 22 28 29 30 31 32 33 34 38 44 45 46 50 51 52 53 54 56 57 58 60 63 65 66 67 68 69 72 74 75 76 82 83 84 85 86
/-! what the steps of a script keep -/
theorem OU_FY {P Q : Nat → Nat → Prop} {h h1 : AH} (F : FY P Q h h1) : OU (fun b => (∃ k, P b k) ∨ ∃ k, Q b k) h h1 := fun x q => ⟨by rw [F.1], by funext k; exact F.2.2 x k (fun z => q (Or.inl ⟨k, z⟩)), by funext k; exact F.2.1 x k (fun z => q (Or.inr ⟨k, z⟩))⟩
theorem OU_Sq {l fs : List Nat} {h h1 : AH} (S : Sq l fs h h1) (hl : ∀ b ∈ l, 100 ≤ b ∧ b < 139) : OU (fun b => 100 ≤ b ∧ b < 139) h h1 := fun x q => by
  replace q : ¬ (100 ≤ x ∧ x < 139) := q
  exact ⟨by rw [S.1], S.2.2.1 x (fun z => q (hl x z)) (fun z => q (by omega)), by rw [S.2.1]⟩
theorem OU_FB {n : Nat} {p : Nat → Nat} {h h1 : AH} (F : FB n p h h1) : OU (fun b => b = 15 ∨ (b = 11 ∨ 200 ≤ b)) h h1 := fun x q => by
  replace q : ¬ (x = 15 ∨ (x = 11 ∨ 200 ≤ x)) := q
  exact ⟨F.1 x (by omega), by funext k; exact F.2.2.1 x k (by omega) (by omega), by funext k; exact F.2.1 x k (by omega) (by omega)⟩
theorem XX_OU {P : Nat → Prop} {n : Nat} {B : SB} {p : Nat → Nat} {T r : Nat} {X E : Nat → Nat → Nat} {h h' : AH} (O : OU P h h') (hP : ∀ b, P b → (b = 12 ∨ (b = 19 ∨ (b = 20 ∨ (80 ≤ b ∧ b < 200))))) (hp : ∀ i, i < n → 200 ≤ p i) (hT : T ≤ 6) (R : XX n B p T r X E h) : XX n B p T r X E h' := by
  have c1 : ∀ b, b ≠ 12 → b ≠ 19 → b ≠ 20 → (b < 80 ∨ 200 ≤ b) → h'.1 b = h.1 b := fun b a1 a2 a3 a4 => (O b (fun z => by have := hP b z; omega)).1
  have c2 : ∀ b, b ≠ 12 → b ≠ 19 → b ≠ 20 → (b < 80 ∨ 200 ≤ b) → h'.2.1 b = h.2.1 b := fun b a1 a2 a3 a4 => (O b (fun z => by have := hP b z; omega)).2.1
  have c3 : ∀ b, b ≠ 12 → b ≠ 19 → b ≠ 20 → (b < 80 ∨ 200 ≤ b) → h'.2.2 b = h.2.2 b := fun b a1 a2 a3 a4 => (O b (fun z => by have := hP b z; omega)).2.2
  obtain ⟨R1, R2, R3, R4⟩ := R
  refine ⟨?_, ?_, fun i hi => ?_, fun t ht => ?_⟩
  · unfold XO at R1 ⊢
    rw [c1 10 (by omega) (by omega) (by omega) (by omega), c1 13 (by omega) (by omega) (by omega) (by omega), c1 14 (by omega) (by omega) (by omega) (by omega), c2 10 (by omega) (by omega) (by omega) (by omega), c3 10 (by omega) (by omega) (by omega) (by omega), c3 13 (by omega) (by omega) (by omega) (by omega), c3 14 (by omega) (by omega) (by omega) (by omega)]
    exact R1
  · unfold HX at R2 ⊢
    rw [c1 11 (by omega) (by omega) (by omega) (by omega), c1 15 (by omega) (by omega) (by omega) (by omega), c1 16 (by omega) (by omega) (by omega) (by omega), c1 17 (by omega) (by omega) (by omega) (by omega), c1 18 (by omega) (by omega) (by omega) (by omega), c2 11 (by omega) (by omega) (by omega) (by omega), c3 11 (by omega) (by omega) (by omega) (by omega), c3 15 (by omega) (by omega) (by omega) (by omega)]
    exact R2
  · have := R3 i hi
    have h2 := hp i hi
    unfold XB at this ⊢
    rw [c1 (p i) (by omega) (by omega) (by omega) (by omega), c2 (p i) (by omega) (by omega) (by omega) (by omega), c3 (p i) (by omega) (by omega) (by omega) (by omega)]
    exact this
  · obtain ⟨l1, l2⟩ := R4 t ht
    unfold LO LC at *
    rw [c1 (30 + 8 * t) (by omega) (by omega) (by omega) (by omega), c1 (30 + 8 * t + 1) (by omega) (by omega) (by omega) (by omega), c1 (30 + 8 * t + 2) (by omega) (by omega) (by omega) (by omega), c1 (30 + 8 * t + 3) (by omega) (by omega) (by omega) (by omega), c1 (30 + 8 * t + 4) (by omega) (by omega) (by omega) (by omega), c3 (30 + 8 * t) (by omega) (by omega) (by omega) (by omega), c2 (30 + 8 * t + 1) (by omega) (by omega) (by omega) (by omega), c2 (30 + 8 * t + 3) (by omega) (by omega) (by omega) (by omega)]
    exact ⟨l1, l2⟩
theorem SXs_OU {P : Nat → Prop} {z : SZ} {h h' : AH} (O : OU P h h') (hP : ∀ b, P b → b < 80 ∨ 88 ≤ b) (R : SXs z h) : SXs z h' := fun s hs => by
  have r := R s hs
  have o0 := O (80 + 2 * s) (fun z => by have := hP _ z; omega)
  have o1 := O (81 + 2 * s) (fun z => by have := hP _ z; omega)
  unfold SO at r ⊢
  rw [o0.1, o0.2.1, o0.2.2, o1.1, o1.2.1]
  exact r
theorem RXT_OU {P : Nat → Prop} {tn : Nat} {tb : Nat → Nat} {h h' : AH} (O : OU P h h') (h12 : ¬ P 12) (h19 : ¬ P 19) (h20 : ¬ P 20) (h3 : ¬ P 3) (R : RXT tn tb h) : RXT tn tb h' := by
  refine ⟨RDO_OU O h12 h19 h20 h3 R.1, ?_, fun i hi => ?_⟩
  · rw [(O 12 h12).2.1]; exact R.2.1
  · rw [(O 19 h19).2.1]; exact R.2.2 i hi
theorem LOA_OU {P : Nat → Prop} {h h' : AH} (O : OU P h h') (hP : ∀ b, 30 ≤ b → b < 80 → ¬ P b) (R : LOA h) : LOA h' := fun t ht => LO_OU O (fun k hk => hP _ (by omega) (by omega)) (R t ht)
/-- the class's picture, the model's, the script -/
def CLS (n : Nat) (B : SB) (p : Nat → Nat) (T r : Nat) (X E : Nat → Nat → Nat) (tn : Nat) (tb : Nat → Nat) (z : SZ) (I : SI) (nx : Nat) (h : AH) : Prop := XX n B p T r X E h ∧ SXs z h ∧ RXT tn tb h ∧ LOA h ∧ XI I p h ∧ NF nx n p h
def MOS (n : Nat) (B : SB) (T r : Nat) (X E : Nat → Nat → Nat) (tn : Nat) (tb : Nat → Nat) (z : SZ) (I : SI) (h : AH) : Prop := RC n B T r X E h ∧ RMZ z h ∧ RMT tn tb h ∧ RMI I h ∧ RMW h
def SCR (L : Nat) (xs : Nat → Int32) (h : AH) : Prop := h.1 1 = some (49, L) ∧ ∀ k, h.2.1 1 k = xs k
def WAL (n : Nat) (B : SB) (p : Nat → Nat) (T r : Nat) (X E : Nat → Nat → Nat) (tn : Nat) (tb : Nat → Nat) (z : SZ) (I : SI) : Prop := WH n B p T r X E ∧ WTT tn tb ∧ WSZ z ∧ WSI I n T
def LIv (n : Nat) (B : SB) (p : Nat → Nat) (T r : Nat) (X E : Nat → Nat → Nat) (tn : Nat) (tb : Nat → Nat) (z : SZ) (I : SI) (nx L : Nat) (xs : Nat → Int32) (h : AH) : Prop := WAL n B p T r X E tn tb z I ∧ CLS n B p T r X E tn tb z I nx h ∧ MOS n B T r X E tn tb z I h ∧ SCR L xs h
def LSt (L : Nat) (xs : Nat → Int32) (h : AH) : Prop := ∃ n B p T r X E tn tb z I nx, LIv n B p T r X E tn tb z I nx L xs h
section LKE
variable {n : Nat} {B : SB} {p : Nat → Nat} {T r : Nat} {X E : Nat → Nat → Nat} {tn : Nat} {tb : Nat → Nat} {z : SZ} {I : SI} {nx L : Nat} {xs : Nat → Int32} {h h1 h2 : AH}
theorem XI_e {h' : AH} (W : WSI I n T) (e10 : h'.2.1 10 6 = h.2.1 10 6) (e11 : h'.2.1 11 2 = h.2.1 11 2) (ep : ∀ i, i < n → ∀ k, (k = 8 ∨ (k = 9 ∨ k = 10)) → h'.2.1 (p i) k = h.2.1 (p i) k) (R : XI I p h) : XI I p h' := by
  refine ⟨by rw [e10]; exact R.1, fun q => ?_⟩
  obtain ⟨a1, a2⟩ := R.2 q
  refine ⟨by rw [e11]; exact a1, fun b hb => ?_⟩
  have hn : b < n := by have := (W q).1; omega
  rw [ep b hn 8 (by omega), ep b hn 9 (by omega), ep b hn 10 (by omega)]
  exact a2 b hb
theorem NF_OU {P : Nat → Prop} {h' : AH} (O : OU P h h') (hP : ∀ b, P b → b < 200) (R : NF nx n p h) : NF nx n p h' := ⟨R.1, R.2.1, fun a ha => by rw [(O a (fun z => by have := hP a z; have := R.1; omega)).1]; exact R.2.2 a ha⟩
theorem NF_1 {h' : AH} {n' : Nat} (e : h'.1 = h.1) (hn : n' ≤ n) (R : NF nx n p h) : NF nx n' p h' := ⟨R.1, fun i hi => R.2.1 i (by omega), fun a ha => by rw [e]; exact R.2.2 a ha⟩
theorem CLS_M (V : WAL n B p T r X E tn tb z I) (O : OU (fun b => 100 ≤ b ∧ b < 139) h1 h2) (C : CLS n B p T r X E tn tb z I nx h1) : CLS n B p T r X E tn tb z I nx h2 := by
  obtain ⟨c1, c2, c3, c4, c5, c6⟩ := C
  have hp := V.1.2.2.1
  refine ⟨XX_OU O (fun b q => by omega) hp V.1.2.1.2.1 c1, SXs_OU O (fun b q => by omega) c2, RXT_OU O (by omega) (by omega) (by omega) (by omega) c3, LOA_OU O (fun b b1 b2 => by omega) c4, XI_e V.2.2.2 (by rw [(O 10 (by omega)).2.1]) (by rw [(O 11 (by omega)).2.1]) (fun i hi k _ => by have := hp i hi; rw [(O (p i) (by omega)).2.1]) c5, NF_OU O (fun b q => by omega) c6⟩
theorem MOS_X (O : OU (fun b => b < 100 ∨ 139 ≤ b) h h1) (M : MOS n B T r X E tn tb z I h) : MOS n B T r X E tn tb z I h1 := by
  have e1 : ∀ b, 100 ≤ b → b < 139 → h1.1 b = h.1 b := fun b b1 b2 => (O b (by omega)).1
  have e2 : ∀ b, 100 ≤ b → b < 139 → h1.2.1 b = h.2.1 b := fun b b1 b2 => (O b (by omega)).2.1
  have e3 : h1.2.2 100 = h.2.2 100 := (O 100 (by omega)).2.2
  have e0 := e2 100 (by decide) (by decide)
  obtain ⟨⟨m1, m2, m3⟩, m4, m5, m6, m7⟩ := M
  refine ⟨⟨?_, ?_, ?_⟩, fun s hs => ?_, ?_, ?_, fun i hi => ?_⟩
  · unfold TopM at m1 ⊢
    rw [e3]
    simp only [e1 100 (by decide) (by decide), e1 101 (by decide) (by decide), e1 102 (by decide) (by decide), e1 103 (by decide) (by decide), e1 104 (by decide) (by decide), e1 105 (by decide) (by decide), e1 106 (by decide) (by decide), e1 107 (by decide) (by decide), e1 108 (by decide) (by decide), e1 110 (by decide) (by decide), e1 111 (by decide) (by decide), e1 117 (by decide) (by decide), e1 118 (by decide) (by decide), e1 119 (by decide) (by decide), e1 120 (by decide) (by decide), e1 121 (by decide) (by decide), e1 126 (by decide) (by decide), e1 127 (by decide) (by decide), e1 131 (by decide) (by decide), e1 132 (by decide) (by decide), e1 133 (by decide) (by decide), e1 134 (by decide) (by decide), e1 136 (by decide) (by decide)]
    exact m1
  · unfold RMB at m2 ⊢
    rw [e0, e2 101 (by decide) (by decide), e2 102 (by decide) (by decide), e2 103 (by decide) (by decide), e2 104 (by decide) (by decide), e2 105 (by decide) (by decide), e2 106 (by decide) (by decide), e2 107 (by decide) (by decide)]
    exact m2
  · unfold RML at m3 ⊢
    rw [e0, e2 110 (by decide) (by decide), e2 111 (by decide) (by decide)]
    exact m3
  · rw [e2 118 (by decide) (by decide), e2 119 (by decide) (by decide), e2 120 (by decide) (by decide)]
    exact m4 s hs
  · unfold RMT at m5 ⊢
    rw [e0, e2 108 (by decide) (by decide)]
    exact m5
  · unfold RMI at m6 ⊢
    rw [e0, e2 117 (by decide) (by decide)]
    exact m6
  · rw [e2 126 (by decide) (by decide)]
    exact m7 i hi
theorem SCR_O {P : Nat → Prop} (O : OU P h h1) (hP : ¬ P 1) (S : SCR L xs h) : SCR L xs h1 := by
  unfold SCR at S ⊢
  rw [(O 1 hP).1, (O 1 hP).2.1]
  exact S
theorem MOS_Sq {l fs : List Nat} {n' : Nat} {B' : SB} {T' r' : Nat} {X' E' : Nat → Nat → Nat} (S : Sq l fs h1 h2) (hl : 108 ∉ l ∧ 117 ∉ l ∧ 118 ∉ l ∧ 119 ∉ l ∧ 120 ∉ l ∧ 126 ∉ l) (hf : 9 ∉ fs ∧ 14 ∉ fs ∧ 15 ∉ fs ∧ 16 ∉ fs) (M : MOS n B T r X E tn tb z I h1) (R : RC n' B' T' r' X' E' h2) : MOS n' B' T' r' X' E' tn tb z I h2 := by
  obtain ⟨-, m4, m5, m6, m7⟩ := M
  have e : ∀ b, b ∉ l → b ≠ 100 → h2.2.1 b = h1.2.1 b := S.2.2.1
  have f : ∀ k, k ∉ fs → h2.2.1 100 k = h1.2.1 100 k := S.2.2.2
  refine ⟨R, fun s hs => ?_, ?_, ?_, fun i hi => ?_⟩
  · rw [e 118 hl.2.2.1 (by decide), e 119 hl.2.2.2.1 (by decide), e 120 hl.2.2.2.2.1 (by decide)]
    exact m4 s hs
  · unfold RMT at m5 ⊢
    rw [f 9 hf.1, e 108 hl.1 (by decide)]
    exact m5
  · unfold RMI at m6 ⊢
    rw [f 14 hf.2.1, f 15 hf.2.2.1, f 16 hf.2.2.2, e 117 hl.2.1 (by decide)]
    exact m6
  · rw [e 126 hl.2.2.2.2.2 (by decide)]
    exact m7 i hi
/-- where a step of the class may write -/
def PU (b k : Nat) : Prop := (b = 10 ∧ (k = 4 ∨ k = 5)) ∨ ((b = 11 ∧ k = 1) ∨ ((15 ≤ b ∧ b < 80 ∧ b ≠ 19 ∧ b ≠ 20) ∨ (200 ≤ b ∧ k ≠ 8 ∧ k ≠ 9 ∧ k ≠ 10)))
def QU (b k : Nat) : Prop := b = 16 ∨ (b = 17 ∨ (b = 11 ∧ k = 0))
theorem OU_U {P Q : Nat → Nat → Prop} (F : FY P Q h h1) (hP : ∀ b k, P b k → PU b k) (hQ : ∀ b k, Q b k → QU b k) : OU (fun b => (10 ≤ b ∧ b < 80 ∧ b ≠ 12 ∧ b ≠ 13 ∧ b ≠ 14 ∧ b ≠ 19 ∧ b ≠ 20) ∨ 200 ≤ b) h h1 := OU_mo (OU_FY F) (fun b q => by
  rcases q with ⟨k, q⟩ | ⟨k, q⟩
  · have := hP b k q
    unfold PU at this
    omega
  · have := hQ b k q
    unfold QU at this
    omega)
theorem CLS_U {P Q : Nat → Nat → Prop} {n' : Nat} {B' : SB} {r' : Nat} (V : WAL n B p T r X E tn tb z I) (F : FY P Q h h1) (hP : ∀ b k, P b k → PU b k) (hQ : ∀ b k, Q b k → QU b k) (hn : n' ≤ n) (R : XX n' B' p T r' X E h1) (C : CLS n B p T r X E tn tb z I nx h) : CLS n' B' p T r' X E tn tb z I nx h1 := by
  obtain ⟨c1, c2, c3, c4, c5, c6⟩ := C
  have hp := V.1.2.2.1
  have O := OU_U F hP hQ
  refine ⟨R, SXs_OU O (fun b q => by omega) c2, RXT_OU O (by omega) (by omega) (by omega) (by omega) c3, fun t ht => ?_, XI_e V.2.2.2 ?_ ?_ (fun i hi k hk => ?_) c5, NF_1 F.1 hn c6⟩
  · exact LO_FY F (fun j q => by have := hQ _ _ q; unfold QU at this; omega) (c4 t ht)
  · exact F.2.2 10 6 (fun q => by have := hP _ _ q; unfold PU at this; omega)
  · exact F.2.2 11 2 (fun q => by have := hP _ _ q; unfold PU at this; omega)
  · have := hp i hi
    exact F.2.2 (p i) k (fun q => by have := hP _ _ q; unfold PU at this; omega)
/-- between the class's call and the model's -/
theorem mid_O (V : LIv n B p T r X E tn tb z I nx L xs h) {P : Nat → Prop} (O : OU P h h1) (hP : ∀ b, P b → (2 ≤ b ∧ b < 100) ∨ 139 ≤ b) : MOS n B T r X E tn tb z I h1 ∧ SCR L xs h1 := ⟨MOS_X (OU_mo O (fun b q => by have := hP b q; omega)) V.2.2.1, SCR_O O (fun q => by have := hP 1 q; omega) V.2.2.2⟩
theorem mid_U (V : LIv n B p T r X E tn tb z I nx L xs h) {P Q : Nat → Nat → Prop} (F : FY P Q h h1) (hP : ∀ b k, P b k → PU b k) (hQ : ∀ b k, Q b k → QU b k) : MOS n B T r X E tn tb z I h1 ∧ SCR L xs h1 := mid_O V (OU_U F hP hQ) (fun b q => by omega)
theorem end_U {P Q : Nat → Nat → Prop} {n' : Nat} {B' : SB} {r' : Nat} {l fs : List Nat} (V : LIv n B p T r X E tn tb z I nx L xs h) (F : FY P Q h h1) (hP : ∀ b k, P b k → PU b k) (hQ : ∀ b k, Q b k → QU b k) (hn : n' ≤ n) (WB : WFB n' B') (hr : r' < T) (WI : WSI I n' T) (R1 : XX n' B' p T r' X E h1) (S : Sq l fs h1 h2) (hl : ∀ b ∈ l, (100 ≤ b ∧ b < 139) ∧ b ≠ 108 ∧ b ≠ 117 ∧ b ≠ 118 ∧ b ≠ 119 ∧ b ≠ 120 ∧ b ≠ 126) (hf : 9 ∉ fs ∧ 14 ∉ fs ∧ 15 ∉ fs ∧ 16 ∉ fs) (R2 : RC n' B' T r' X E h2) : LSt L xs h2 := by
  have O2 := OU_Sq S (fun b q => (hl b q).1)
  have W' : WAL n' B' p T r' X E tn tb z I := ⟨⟨WB, ⟨hr, V.1.1.2.1.2⟩, ⟨fun i hi => V.1.1.2.2.1 i (by omega), fun i j hi hj => V.1.1.2.2.2 i j (by omega) (by omega)⟩⟩, V.1.2.1, V.1.2.2.1, WI⟩
  have md := mid_U V F hP hQ
  exact ⟨n', B', p, T, r', X, E, tn, tb, z, I, nx, W', CLS_M W' O2 (CLS_U V.1 F hP hQ hn R1 V.2.1), MOS_Sq S ⟨fun q => (hl _ q).2.1 rfl, fun q => (hl _ q).2.2.1 rfl, fun q => (hl _ q).2.2.2.1 rfl, fun q => (hl _ q).2.2.2.2.1 rfl, fun q => (hl _ q).2.2.2.2.2.1 rfl, fun q => (hl _ q).2.2.2.2.2.2 rfl⟩ hf md.1 R2, SCR_O O2 (by omega) md.2⟩
/-- the sheets -/
theorem end_Z {P : Nat → Nat → Prop} {z' : SZ} {l : List Nat} (V : LIv n B p T r X E tn tb z I nx L xs h) (F : FX P h h1) (hP : ∀ b k, P b k → PT b ∨ PZ b) (WZ : WSZ z') (S1 : SXs z' h1) (S : Sm l h1 h2) (hl : ∀ b ∈ l, b = 118 ∨ (b = 119 ∨ (b = 120 ∨ (b = 131 ∨ b = 132)))) (R2 : RMZ z' h2) : LSt L xs h2 := by
  have F' : FX (fun b _ => PT b ∨ PZ b) h h1 := FX_mo F hP
  have OX : OU (fun b => 30 ≤ b ∧ b < 88) h h1 := OU_mo (OU_FX F') (fun b ⟨k, q⟩ => by unfold PT PZ at q; omega)
  have SQ : Sq l [] h1 h2 := Sq_of S (fun q => by have := hl _ q; omega)
  have O2 := OU_Sq SQ (fun b q => by have := hl b q; omega)
  have md := mid_O V OX (fun b q => by omega)
  obtain ⟨W, WT, -, WI⟩ := V.1
  have W' : WAL n B p T r X E tn tb z' I := ⟨W, WT, WZ, WI⟩
  obtain ⟨c1, c2, c3, c4, c5, c6⟩ := V.2.1
  have hp := W.2.2.1
  have C1 : CLS n B p T r X E tn tb z' I nx h1 := ⟨XX_PZ F' W c1, S1, RXT_OU OX (by omega) (by omega) (by omega) (by omega) c3, LOA_FX F' c4, XI_e WI (by rw [(OX 10 (by omega)).2.1]) (by rw [(OX 11 (by omega)).2.1]) (fun i hi k _ => by have := hp i hi; rw [(OX (p i) (by omega)).2.1]) c5, NF_1 F'.1 (Nat.le_refl _) c6⟩
  have RC2 : RC n B T r X E h2 := RC_Sm S md.1.1 ⟨fun q => by have := hl _ q; omega, fun q => by have := hl _ q; omega, fun q => by have := hl _ q; omega, fun q => by have := hl _ q; omega, fun q => by have := hl _ q; omega, fun q => by have := hl _ q; omega, fun q => by have := hl _ q; omega, fun q => by have := hl _ q; omega, fun q => by have := hl _ q; omega, fun q => by have := hl _ q; omega⟩
  have e : ∀ b, b ∉ l → h2.2.1 b = h1.2.1 b := S.2.2
  have no : ∀ b, (b = 100 ∨ (b = 108 ∨ (b = 117 ∨ b = 126))) → b ∉ l := fun b hb q => by have := hl b q; omega
  obtain ⟨-, -, m5, m6, m7⟩ := md.1
  refine ⟨n, B, p, T, r, X, E, tn, tb, z', I, nx, W', CLS_M W' O2 C1, ⟨RC2, R2, ?_, ?_, fun i hi => ?_⟩, SCR_O O2 (by omega) md.2⟩
  · unfold RMT at m5 ⊢
    rw [e 100 (no _ (by omega)), e 108 (no _ (by omega))]
    exact m5
  · unfold RMI at m6 ⊢
    rw [e 100 (no _ (by omega)), e 117 (no _ (by omega))]
    exact m6
  · rw [e 126 (no _ (by omega))]
    exact m7 i hi
/-- the image -/
theorem end_I (V : LIv n B p T r X E tn tb z I nx L xs h) (F : FX PIm h h1) (R1 : XX n B p T r X E h1) (RI : XI (true, n, r, B) p h1) (S : Sq [117] [14, 15, 16] h1 h2) (R2 : RMI (true, n, r, B) h2) : LSt L xs h2 := by
  have OX : OU (fun b => (10 ≤ b ∧ b < 12) ∨ 200 ≤ b) h h1 := OU_mo (OU_FX F) (fun b ⟨k, q⟩ => by unfold PIm at q; omega)
  have O2 := OU_Sq S (fun b q => by simp only [List.mem_cons, List.not_mem_nil, or_false] at q; omega)
  have md := mid_O V OX (fun b q => by omega)
  obtain ⟨W, WT, WZ, WI⟩ := V.1
  have WI' : WSI (true, n, r, B) n T := fun _ => ⟨Nat.le_refl _, W.2.1.1, fun b hb => by
    obtain ⟨w0, w1, w2, w2b, w3, w4, w5, w6⟩ := W.1.2 b hb
    exact ⟨w1, w5, w6⟩⟩
  have W' : WAL n B p T r X E tn tb z (true, n, r, B) := ⟨W, WT, WZ, WI'⟩
  obtain ⟨c1, c2, c3, c4, c5, c6⟩ := V.2.1
  have C1 : CLS n B p T r X E tn tb z (true, n, r, B) nx h1 := ⟨R1, SXs_OU OX (fun b q => by omega) c2, RXT_OU OX (by omega) (by omega) (by omega) (by omega) c3, LOA_FX F c4, RI, NF_1 F.1 (Nat.le_refl _) c6⟩
  have RC2 : RC n B T r X E h2 := RC_Sq S md.1.1 (by decide) (by decide)
  obtain ⟨-, m4, m5, m6, m7⟩ := md.1
  refine ⟨n, B, p, T, r, X, E, tn, tb, z, (true, n, r, B), nx, W', CLS_M W' O2 C1, ⟨RC2, fun s hs => ?_, RMT_Sq S m5 (by decide) (by decide), R2, RMW_Sq S m7 (by decide)⟩, SCR_O O2 (by omega) md.2⟩
  rw [S.2.2.1 118 (by decide) (by decide), S.2.2.1 119 (by decide) (by decide), S.2.2.1 120 (by decide) (by decide)]
  exact m4 s hs
/-- bits come -/
theorem end_B {n' : Nat} {B' : SB} {p' : Nat → Nat} {nx' : Nat} (V : LIv n B p T r X E tn tb z I nx L xs h) (hn : n ≤ n') (hp' : ∀ i, i < n → p' i = p i) (F : FB n p h h1) (W1 : WH n' B' p' T r X E) (R1 : XX n' B' p' T r X E h1) (N1 : NF nx' n' p' h1) (S : Sq [101, 102, 103, 104, 105, 106, 107] [0] h1 h2) (R2 : RC n' B' T r X E h2) : LSt L xs h2 := by
  have OX := OU_FB F
  have O2 := OU_Sq S (fun b q => by simp only [List.mem_cons, List.not_mem_nil, or_false] at q; omega)
  have md := mid_O V OX (fun b q => by omega)
  obtain ⟨W, WT, WZ, WI⟩ := V.1
  have WI' : WSI I n' T := fun q => by
    have := WI q
    exact ⟨by omega, this.2⟩
  have W' : WAL n' B' p' T r X E tn tb z I := ⟨W1, WT, WZ, WI'⟩
  obtain ⟨c1, c2, c3, c4, c5, c6⟩ := V.2.1
  have XI1 : XI I p' h1 := by
    refine ⟨by rw [F.2.2.1 10 6 (by omega) (by omega)]; exact c5.1, fun q => ?_⟩
    obtain ⟨a1, a2⟩ := c5.2 q
    refine ⟨by rw [F.2.2.1 11 2 (by omega) (by omega)]; exact a1, fun b hb => ?_⟩
    have hb2 : b < n := by have := (WI q).1; omega
    rw [hp' b hb2, F.2.2.2 b hb2 8 (by omega), F.2.2.2 b hb2 9 (by omega), F.2.2.2 b hb2 10 (by omega)]
    exact a2 b hb
  have C1 : CLS n' B' p' T r X E tn tb z I nx' h1 := ⟨R1, SXs_FB F c2, RXT_FB F c3, LOA_OU OX (fun b b1 b2 => by omega) c4, XI1, N1⟩
  exact ⟨n', B', p', T, r, X, E, tn, tb, z, I, nx', W', CLS_M W' O2 C1, MOS_Sq S (by decide) (by decide) md.1 R2, SCR_O O2 (by omega) md.2⟩
/-- bytes come -/
theorem end_F {tn' : Nat} {tb' : Nat → Nat} (V : LIv n B p T r X E tn tb z I nx L xs h) (F : FX (fun b k => b = 19 ∨ (b = 12 ∧ k = 0)) h h1) (WT' : WTT tn' tb') (R1 : RXT tn' tb' h1) (S : Sq [108] [9] h1 h2) (R2 : RMT tn' tb' h2) : LSt L xs h2 := by
  have OX : OU (fun b => b = 12 ∨ b = 19) h h1 := OU_mo (OU_FX F) (fun b ⟨k, q⟩ => by omega)
  have O2 := OU_Sq S (fun b q => by simp only [List.mem_cons, List.not_mem_nil, or_false] at q; omega)
  have md := mid_O V OX (fun b q => by omega)
  obtain ⟨W, WT, WZ, WI⟩ := V.1
  have W' : WAL n B p T r X E tn' tb' z I := ⟨W, WT', WZ, WI⟩
  obtain ⟨c1, c2, c3, c4, c5, c6⟩ := V.2.1
  have hp := W.2.2.1
  have C1 : CLS n B p T r X E tn' tb' z I nx h1 := ⟨XX_OU OX (fun b q => by omega) hp W.2.1.2.1 c1, SXs_OU OX (fun b q => by omega) c2, R1, LOA_FX F c4, XI_e WI (by rw [(OX 10 (by omega)).2.1]) (by rw [(OX 11 (by omega)).2.1]) (fun i hi k _ => by have := hp i hi; rw [(OX (p i) (by omega)).2.1]) c5, NF_1 F.1 (Nat.le_refl _) c6⟩
  have RC2 : RC n B T r X E h2 := RC_Sq S md.1.1 (by decide) (by decide)
  obtain ⟨-, m4, m5, m6, m7⟩ := md.1
  refine ⟨n, B, p, T, r, X, E, tn', tb', z, I, nx, W', CLS_M W' O2 C1, ⟨RC2, fun s hs => ?_, R2, ?_, RMW_Sq S m7 (by decide)⟩, SCR_O O2 (by omega) md.2⟩
  · rw [S.2.2.1 118 (by decide) (by decide), S.2.2.1 119 (by decide) (by decide), S.2.2.1 120 (by decide) (by decide)]
    exact m4 s hs
  · unfold RMI at m6 ⊢
    rw [S.2.2.2 14 (by decide), S.2.2.2 15 (by decide), S.2.2.2 16 (by decide), S.2.2.1 117 (by decide) (by decide)]
    exact m6
/-- a text -/
theorem end_T {T' : Nat} {X' E' : Nat → Nat → Nat} {tn' : Nat} {fs : List Nat} (V : LIv n B p T r X E tn tb z I nx L xs h) (F : FX PTx h h1) (hT : T ≤ T') (ht : tn' ≤ tn) (WL : WFL T' r X' E') (R1 : XX n B p T' r X' E' h1) (RT1 : RXT tn' tb h1) (S : Sq [110, 111, 127] fs h1 h2) (hf : 0 ∉ fs ∧ 13 ∉ fs ∧ 14 ∉ fs ∧ 15 ∉ fs ∧ 16 ∉ fs) (q1 : h2.2.1 100 12 = nI T') (q2 : ∀ t, t < T' → ∀ k, k < E' t 3 → h2.2.1 110 (200 * t + k) = nI (X' t k)) (q3 : ∀ t, t < T' → ∀ q, q < 4 → h2.2.1 111 (4 * t + q) = nI (E' t q)) (R2 : RMT tn' tb h2) : LSt L xs h2 := by
  have OX : OU (fun b => b = 10 ∨ (b = 12 ∨ (b = 20 ∨ (30 ≤ b ∧ b < 80)))) h h1 := OU_mo (OU_FX F) (fun b ⟨k, q⟩ => by unfold PTx at q; omega)
  have O2 := OU_Sq S (fun b q => by simp only [List.mem_cons, List.not_mem_nil, or_false] at q; omega)
  have md := mid_O V OX (fun b q => by omega)
  obtain ⟨W, WT, WZ, WI⟩ := V.1
  have W' : WAL n B p T' r X' E' tn' tb z I := ⟨⟨W.1, WL, W.2.2⟩, ⟨by have := WT.1; omega, fun i hi => WT.2 i (by omega)⟩, WZ, fun q => ⟨(WI q).1, by have := (WI q).2.1; omega, (WI q).2.2⟩⟩
  obtain ⟨c1, c2, c3, c4, c5, c6⟩ := V.2.1
  have hp := W.2.2.1
  have C1 : CLS n B p T' r X' E' tn' tb z I nx h1 := ⟨R1, SXs_OU OX (fun b q => by omega) c2, RT1, LOA_FX F c4, XI_e WI (F.2.2 10 6 (fun q => by unfold PTx at q; omega)) (by rw [(OX 11 (by omega)).2.1]) (fun i hi k _ => by have := hp i hi; rw [(OX (p i) (by omega)).2.1]) c5, NF_1 F.1 (Nat.le_refl _) c6⟩
  obtain ⟨⟨a1, a2, a3⟩, m4, m5, m6, m7⟩ := md.1
  have e : ∀ b, b ≠ 110 → b ≠ 111 → b ≠ 127 → b ≠ 100 → h2.2.1 b = h1.2.1 b := fun b b1 b2 b3 b4 => S.2.2.1 b (by simp only [List.mem_cons, List.not_mem_nil, or_false]; omega) b4
  have RB : RMB n B h2 := by
    unfold RMB at a2 ⊢
    rw [S.2.2.2 0 hf.1, e 101 (by decide) (by decide) (by decide) (by decide), e 102 (by decide) (by decide) (by decide) (by decide), e 103 (by decide) (by decide) (by decide) (by decide), e 104 (by decide) (by decide) (by decide) (by decide), e 105 (by decide) (by decide) (by decide) (by decide), e 106 (by decide) (by decide) (by decide) (by decide), e 107 (by decide) (by decide) (by decide) (by decide)]
    exact a2
  have RC2 : RC n B T' r X' E' h2 := ⟨TopM_Sq S a1, RB, q1, by rw [S.2.2.2 13 hf.2.1]; exact a3.2.1, q2, q3⟩
  refine ⟨n, B, p, T', r, X', E', tn', tb, z, I, nx, W', CLS_M W' O2 C1, ⟨RC2, fun s hs => ?_, R2, ?_, RMW_Sq S m7 (by decide)⟩, SCR_O O2 (by omega) md.2⟩
  · rw [e 118 (by decide) (by decide) (by decide) (by decide), e 119 (by decide) (by decide) (by decide) (by decide), e 120 (by decide) (by decide) (by decide) (by decide)]
    exact m4 s hs
  · unfold RMI at m6 ⊢
    rw [S.2.2.2 14 hf.2.2.1, S.2.2.2 15 hf.2.2.2.1, S.2.2.2 16 hf.2.2.2.2, e 117 (by decide) (by decide) (by decide) (by decide)]
    exact m6
/-! what stays well formed -/
theorem WFB_lay (W : WFB n B) (b v : Int32) : WFB n (s_layB n B b v) := by
  unfold s_layB
  split
  · split
    · rename_i _ g
      obtain ⟨x, hx, e⟩ := s_r_n (m := 99) (by decide) g
      rw [e, i_nt (by omega)]
      exact WFB_up6 W hx
    · exact W
  · exact W
theorem WFB_men (W : WFB n B) (b k m : Int32) : WFB n (s_menB n B b k m) := by
  unfold s_menB
  split
  · split
    · rename_i _ g
      obtain ⟨x, hx, e⟩ := s_r_n (m := 5) (by decide) g.1
      obtain ⟨y, hy, e2⟩ := s_r_n (m := 9) (by decide) g.2
      rw [e, e2, i_nt (show x < 2 ^ 31 by omega), i_nt (show y < 2 ^ 31 by omega)]
      generalize b.toInt.toNat = c
      refine ⟨W.1, fun i hi => ?_⟩
      obtain ⟨w0, w1, w2, w2b, w3, w4, w5, w6⟩ := W.2 i hi
      have e : ∀ j, s_up (s_up B c 1 x) c 5 y i j = if i = c ∧ j = 5 then y else if i = c ∧ j = 1 then x else B i j := fun j => rfl
      refine ⟨?_, ?_, ?_, ?_, ?_, ?_, ?_, ?_⟩ <;> rw [e] <;> split <;> (try split) <;> omega
    · exact W
  · exact W
theorem WFB_swp (A : Nat → List Nat) (W : WFB n B) (f fc : Int32) : WFB n (s_swpB A n B f fc) := by
  unfold s_swpB
  split
  · rename_i g
    obtain ⟨x, hx, e⟩ := ib_of g.1.1
    have h10 := W.1
    rw [e, i_nt (show x < 2 ^ 31 by omega)]
    exact WFB_swB A _ W (by omega)
  · exact W
theorem WFB_fir (A : Nat → List Nat) (W : WFB n B) (f many hw : Int32) : WFB n (s_firB A n B f many hw) := by
  unfold s_firB
  split
  · exact WFB_bm _ _ _ _ _ W
  · exact W
theorem s_bck_le (W : WSI I n T) : s_bckn I n ≤ n := by
  unfold s_bckn
  split
  · rename_i g
    exact (W g).1
  · exact Nat.le_refl _
theorem s_bck_r (W : WSI I n T) (hr : r < T) : s_bckr I r < T := by
  unfold s_bckr
  split
  · rename_i g
    exact (W g).2.1
  · exact hr
theorem WFB_bck (W : WFB n B) (WI : WSI I n T) : WFB (s_bckn I n) (s_bckB I B) := by
  unfold s_bckn s_bckB
  by_cases g : I.1 = true
  · rw [if_pos g, if_pos g]
    obtain ⟨g1, -, g3⟩ := WI g
    refine ⟨by have := W.1; omega, fun i hi => ?_⟩
    obtain ⟨w0, w1, w2, w2b, w3, w4, w5, w6⟩ := W.2 i (by omega)
    obtain ⟨v1, v5, v6⟩ := g3 i hi
    have e : ∀ j, s_bk B I.2.2.2 i j = if j = 1 ∨ (j = 5 ∨ j = 6) then I.2.2.2 i j else B i j := fun j => rfl
    refine ⟨?_, ?_, ?_, ?_, ?_, ?_, ?_, ?_⟩ <;> rw [e] <;> split <;> omega
  · rw [if_neg g, if_neg g]
    exact W
theorem WSI_bck (WI : WSI I n T) : WSI I (s_bckn I n) T := fun q => by
  unfold s_bckn
  rw [if_pos q]
  exact ⟨Nat.le_refl _, (WI q).2⟩
theorem s_frc_r (hr : r < T) (t : Int32) : s_frcr T r t < T := by
  unfold s_frcr
  split
  · rename_i g
    have := g.1
    have := g.2
    omega
  · exact hr
theorem WSZ_put (W : WSZ z) {k m : Nat} {so : Int32} {c : Nat → Int32} (h1 : m ≤ 40) (h2 : so = -1 ∨ so = 0 ∨ so = 1 ∨ so = 2) (h3 : so = -1 → m = 0) : WSZ (s_put z k so m c) := fun i hi => by
  have w := W i hi
  show (if i = k then m else z.2.1 i) ≤ 40 ∧ ((if i = k then so else z.1 i) = -1 ∨ (if i = k then so else z.1 i) = 0 ∨ (if i = k then so else z.1 i) = 1 ∨ (if i = k then so else z.1 i) = 2) ∧ ((if i = k then so else z.1 i) = -1 → (if i = k then m else z.2.1 i) = 0)
  by_cases e : i = k
  · simp only [if_pos e]
    exact ⟨h1, h2, h3⟩
  · simp only [if_neg e]
    exact w
theorem WSZ_sht (W : WSZ z) (s sort m : Int32) : WSZ (s_shtZ z s sort m) := by
  unfold s_shtZ
  split
  · split
    · rename_i _ g
      split
      · exact WSZ_put W (by decide) (Or.inl rfl) (fun _ => rfl)
      · rename_i g1
        split
        · exact W
        · rename_i g2
          split
          · exact W
          · rename_i g3
            have e1 : (-1 : Int32).toInt = -1 := by decide
            have e2 : (2 : Int32).toInt = 2 := by decide
            have e0 : (0 : Int32).toInt = 0 := by decide
            have e3 : (1 : Int32).toInt = 1 := by decide
            have e40 : (40 : Int32).toInt = 40 := by decide
            unfold s_r at g
            rw [i_le, i_le, e1, e2] at g
            rw [i_lt, e40] at g2
            rw [i_lt, e0] at g3
            rw [i_eq, e1] at g1
            refine WSZ_put W (by omega) ?_ (fun q => absurd q (by rw [i_eq, e1]; exact g1))
            rw [i_eq, i_eq, i_eq, i_eq, e1, e0, e3, e2]
            omega
    · exact W
  · exact W
theorem WSZ_cel (W : WSZ z) (s i v : Int32) : WSZ (s_celZ z s i v) := by
  unfold s_celZ
  split
  · split
    · rename_i g _
      have hs : s_r s 0 3 := by
        unfold s_sw at g
        split at g
        · assumption
        · exact absurd g (by decide)
      obtain ⟨x, hx, e⟩ := s_r_n (m := 3) (by decide) hs
      rw [e, i_nt (show x < 2 ^ 31 by omega)]
      have w := W x (by omega)
      exact WSZ_put W w.1 w.2.1 w.2.2
    · exact W
  · exact W
theorem WSZ_cpy (W : WSZ z) (s i o j m : Int32) : WSZ (s_cpyZ z s i o j m) := by
  unfold s_cpyZ
  split
  · split
    · rename_i _ ho
      obtain ⟨x, hx, e⟩ := s_r_n (m := 3) (by decide) ho
      rw [e, i_nt (show x < 2 ^ 31 by omega)]
      have w := W x (by omega)
      split
      · exact W
      · split
        · exact W
        · split
          · split
            · exact WSZ_put W w.1 w.2.1 w.2.2
            · exact W
          · exact W
    · exact W
  · exact W
theorem WSZ_flm (A : Nat → List Nat) (W : WSZ z) (s f m : Int32) : WSZ (s_flmZ A z n B s f m) := by
  unfold s_flmZ
  split
  · split
    · split
      · rename_i _ _ g
        obtain ⟨x, hx, e⟩ := s_r_n (m := 40) (by decide) g
        rw [e, i_nt (show x < 2 ^ 31 by omega)]
        exact WSZ_put W hx (Or.inr (Or.inr (Or.inr rfl))) (fun q => absurd q (by decide))
      · exact W
    · exact W
  · exact W
theorem s_fd_le (W : WTT tn tb) (m a b c d e : Int32) : WTT (s_fdN tn m a b c d e) (s_fdB tn tb a b c d e) := by
  have nn : ∀ tn', tn' ≤ tn → WTT tn' (s_fdB tn tb a b c d e) := fun tn' ht => ⟨by have := W.1; omega, fun i hi => by
    unfold s_fdB
    rw [if_pos (by omega)]
    exact W.2 i (by omega)⟩
  have N := nn tn (Nat.le_refl _)
  unfold s_fdN
  by_cases g0 : s_r m 1 5
  · rw [if_pos g0]
    by_cases g1 : s_r a 0 255
    · rw [if_pos g1]
      by_cases g2 : s_r b 0 255
      · rw [if_pos g2]
        by_cases g3 : s_r c 0 255
        · rw [if_pos g3]
          by_cases g4 : s_r d 0 255
          · rw [if_pos g4]
            by_cases g5 : s_r e 0 255
            · rw [if_pos g5]
              by_cases g6 : tn + m.toInt.toNat ≤ 160
              · rw [if_pos g6]
                have bd : ∀ v : Int32, s_r v 0 255 → v.toInt.toNat ≤ 255 := fun v q => by
                  obtain ⟨x, hx, ev⟩ := s_r_n (m := 255) (by decide) q
                  rw [ev, i_nt (show x < 2 ^ 31 by omega)]
                  exact hx
                refine ⟨g6, fun i _ => ?_⟩
                unfold s_fdB
                by_cases q : i < tn
                · rw [if_pos q]
                  exact W.2 i q
                · rw [if_neg q]
                  unfold s_fdA
                  split
                  · exact bd a g1
                  · split
                    · exact bd b g2
                    · split
                      · exact bd c g3
                      · split
                        · exact bd d g4
                        · exact bd e g5
              · rw [if_neg g6]; exact N
            · rw [if_neg g5]; exact N
          · rw [if_neg g4]; exact N
        · rw [if_neg g3]; exact N
      · rw [if_neg g2]; exact N
    · rw [if_neg g1]; exact N
  · rw [if_neg g0]; exact N
end LKE
