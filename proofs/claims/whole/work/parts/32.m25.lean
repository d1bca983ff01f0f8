/-! ===== the model: what it reads, where all are ===== -/
def RX (x : XS) (σ : St) : Prop := σ.1 49 0 = nI (xp x) ∧ σ.1 49 1 = nI (xq x) ∧ (∀ p, p < xp x → σ.1 50 (2 * p) = nI (xb x p) ∧ σ.1 50 (2 * p + 1) = nI (xk x p)) ∧ ∀ p, p < xq x → σ.1 50 (16 + 2 * p) = nI (xlo x p) ∧ σ.1 50 (16 + 2 * p + 1) = nI (xhi x p)
theorem MI.np8 {x : XS} {σ : St} (h : MI x σ) : xp x ≤ 8 := ents_le (h.1 0 (by omega)).2.1
theorem MI.nq6 {x : XS} {σ : St} (h : MI x σ) : xq x ≤ 6 := ents_le (h.1 1 (by omega)).2.1
def HM (σ : St) (h np : Nat) (a : Nat → Int32) (b : Nat → Nat) : Prop := ∀ p, p < np → σ.1 52 (8 * h + p) = a p ∧ σ.1 53 (8 * h + p) = nI (b p) ∧ b p ≤ 9
def flb (a : Nat → Int32) (b : Nat → Nat) (np nq : Nat) : Nat := bits (fun y => decide (2 ≤ cnt (isdk a b y) np)) nq
theorem flb_lt (a : Nat → Int32) (b : Nat → Nat) (np : Nat) {nq : Nat} (h : nq ≤ 6) : flb a b np nq < 64 := by
  have h1 := bits_lt (fun y => decide (2 ≤ cnt (isdk a b y) np)) nq
  have h2 : 2 ^ nq ≤ 2 ^ 6 := Nat.pow_le_pow_right (by omega) h
  unfold flb
  omega
theorem wq_hi {T : Nat → Nat → Int32} {p s : Nat} : ∀ {h : Nat}, s ≤ h → (∀ g, s < g → g ≤ h → T g p = -2) → ¬ T s p = -2 → wq T p (h + 1) = T s p := by
  intro h
  induction h with
  | zero =>
    intro hs _ hn
    rw [show s = 0 by omega] at hn ⊢
    show (if T 0 p = -2 then _ else T 0 p) = _
    rw [if_neg hn]
  | succ h ih =>
    intro hs hg hn
    show (if T (h + 1) p = -2 then wq T p (h + 1) else T (h + 1) p) = _
    rcases Nat.lt_or_ge s (h + 1) with q | q
    · rw [if_pos (hg (h + 1) q (Nat.le_refl _))]
      exact ih (by omega) (fun g a b => hg g a (by omega)) hn
    · rw [show s = h + 1 by omega] at hn ⊢
      rw [if_neg hn]
theorem wq_cg {T T' : Nat → Nat → Int32} {p : Nat} : ∀ {h : Nat}, (∀ g, g < h → T g p = T' g p) → wq T p h = wq T' p h := by
  intro h
  induction h with
  | zero => intro _; rfl
  | succ h ih =>
    intro hg
    show (if T h p = -2 then wq T p h else T h p) = (if T' h p = -2 then wq T' p h else T' h p)
    rw [hg h (by omega), ih (fun g hg' => hg g (by omega))]
def WI (T : Nat → Nat → Int32) (p h : Nat) (S : Int) : Prop := -1 ≤ S ∧ S ≤ (h : Int) ∧ (∀ g : Nat, S < (g : Int) → g ≤ h → T g p = -2) ∧ (0 ≤ S → ¬ T S.toNat p = -2)
theorem nI_n2 {n : Nat} (h : n < 6) : ¬ nI n = -2 := by
  rcases (show n = 0 ∨ n = 1 ∨ n = 2 ∨ n = 3 ∨ n = 4 ∨ n = 5 by omega) with rfl | rfl | rfl | rfl | rfl | rfl <;> decide
theorem tlf_s {gh gp gq : Nat → Nat} {k g p : Nat} : tlf gh gp gq (k + 1) g p = if gh k = g ∧ gp k = p then nI (gq k) else tlf gh gp gq k g p := rfl
theorem WI.yes {gh gp gq : Nat → Nat} {k p h : Nat} {S : Int} (w : WI (tlf gh gp gq k) p h S) (hp : gp k = p) (h1 : S ≤ (gh k : Int)) (h2 : gh k ≤ h) (hq : gq k < 6) : WI (tlf gh gp gq (k + 1)) p h (gh k : Int) ∧ wq (tlf gh gp gq (k + 1)) p (h + 1) = nI (gq k) := by
  obtain ⟨w1, w2, w3, w4⟩ := w
  have e : tlf gh gp gq (k + 1) (gh k) p = nI (gq k) := by rw [tlf_s, if_pos ⟨rfl, hp⟩]
  have e2 : ∀ g : Nat, gh k < g → g ≤ h → tlf gh gp gq (k + 1) g p = -2 := fun g a b => by
    rw [tlf_s, if_neg (fun z => by omega)]; exact w3 g (by omega) b
  refine ⟨⟨by omega, by omega, fun g a b => e2 g (by omega) b, fun _ => ?_⟩, ?_⟩
  · rw [show ((gh k : Int)).toNat = gh k from rfl, e]; exact nI_n2 hq
  · rw [wq_hi h2 e2 (by rw [e]; exact nI_n2 hq), e]
theorem WI.no {gh gp gq : Nat → Nat} {k p h : Nat} {S : Int} (w : WI (tlf gh gp gq k) p h S) (hn : ¬ (gp k = p ∧ S ≤ (gh k : Int) ∧ gh k ≤ h)) : WI (tlf gh gp gq (k + 1)) p h S ∧ wq (tlf gh gp gq (k + 1)) p (h + 1) = wq (tlf gh gp gq k) p (h + 1) := by
  obtain ⟨w1, w2, w3, w4⟩ := w
  have e2 : ∀ g : Nat, S ≤ (g : Int) → g ≤ h → tlf gh gp gq (k + 1) g p = tlf gh gp gq k g p := fun g a b => by
    rw [tlf_s, if_neg (fun z => hn ⟨z.2, by omega, by omega⟩)]
  refine ⟨⟨w1, w2, fun g a b => by rw [e2 g (by omega) b]; exact w3 g a b, fun z => by rw [e2 _ (by omega) (by omega)]; exact w4 z⟩, ?_⟩
  rcases (show S < 0 ∨ 0 ≤ S by omega) with q | q
  · exact wq_cg (fun g hg => e2 g (by omega) (by omega))
  · have hS : S.toNat ≤ h := by omega
    rw [wq_hi (s := S.toNat) hS (fun g a b => by rw [e2 g (by omega) b]; exact w3 g (by omega) b) (by rw [e2 _ (by omega) hS]; exact w4 q), wq_hi (s := S.toNat) hS (fun g a b => w3 g (by omega) b) (w4 q), e2 _ (by omega) hS]
theorem in_w {S : Int} {g h : Nat} (h1 : -1 ≤ S) (h2 : S < 1000) (hg : g < 1000) (hh : h < 1000) : bI ((zI S).toInt64.toInt ≤ (nI g).toInt64.toInt ∧ (nI g).toInt64.toInt ≤ (nI h).toInt64.toInt) = bI (S ≤ (g : Int) ∧ g ≤ h) := by
  apply bI_congr
  rw [i64_ti, i64_ti, i64_ti, zI_toInt (by omega) (by omega), nI_ti (by omega), nI_ti (by omega)]
  omega
/-- how far the others are from one -/
def apt (F : Nat → Bool) (b : Nat → Nat) (w : Nat) : Nat → Int
  | 0 => 0
  | n + 1 => apt F b w n + (if F n then (b n : Int) - (w : Int) else 0)
theorem apt_sm (F : Nat → Bool) (b : Nat → Nat) (w : Nat) : ∀ n, apt F b w n = (sm F b n : Int) - ((cnt F n * w : Nat) : Int) := by
  intro n
  induction n with
  | zero => simp [apt, sm, cnt]
  | succ n ih =>
    show apt F b w n + _ = _
    unfold sm cnt
    by_cases e : F n = true
    · rw [if_pos e, if_pos e, if_pos e, ih, Nat.add_mul, Nat.one_mul]; omega
    · rw [if_neg e, if_neg e, if_neg e, ih]; simp only [Nat.add_zero]; omega
theorem apt_le {F : Nat → Bool} {b : Nat → Nat} {w : Nat} (hw : w ≤ 9) : ∀ {n : Nat}, (∀ i, i < n → b i ≤ 9) → -9 * (n : Int) ≤ apt F b w n ∧ apt F b w n ≤ 9 * (n : Int) := by
  intro n
  induction n with
  | zero => intro _; simp [apt]
  | succ n ih =>
    intro hb
    have h1 := ih (fun i hi => hb i (by omega))
    have h2 := hb n (by omega)
    unfold apt
    split <;> omega
def Fz (σ τ : St) : Prop := (∀ k, k ≠ 52 → k ≠ 53 → k ≠ 55 → τ.1 k = σ.1 k) ∧ τ.2 = σ.2
theorem Fz.rf (σ : St) : Fz σ σ := ⟨fun _ _ _ _ => rfl, rfl⟩
theorem Fz.tr {σ τ ρ : St} (h : Fz σ τ) (g : Fz τ ρ) : Fz σ ρ := ⟨fun k a b c => (g.1 k a b c).trans (h.1 k a b c), g.2.trans h.2⟩
theorem Fz.ro {σ τ : St} {k : Nat} {f : Nat → Int32} (h : Fz σ τ) (hk : k = 52 ∨ k = 53 ∨ k = 55) : Fz σ (ur τ k f) := ⟨fun j a b c => (ur_n (by omega)).trans (h.1 j a b c), h.2⟩
theorem Fz.fq {n : Nat} {σ τ : St} (h : Fz σ τ) : Fq n σ τ := by
  refine ⟨fun k hk => h.1 k (by omega) (by omega) (by omega), fun k hk => ?_, fun j hj => by rw [h.1 42 (by omega) (by omega) (by omega)], fun j _ => by rw [h.1 51 (by omega) (by omega) (by omega)]⟩
  simp only [List.mem_cons, List.not_mem_nil, or_false] at hk
  exact h.1 k (by omega) (by omega) (by omega)
/-- all is worked out -/
def LV (σ : St) (np nq : Nat) (a : Nat → Nat → Int32) (b : Nat → Nat → Nat) : Prop := ∀ h, h < 24 → HM σ h np (a h) (b h) ∧ σ.1 55 h = nI (flb (a h) (b h) np nq)
def FM (x : XS) (σ : St) : Prop := MI x σ ∧ RX x σ ∧ (∀ p, p < xp x → σ.1 54 p = nI (xb x p)) ∧ LV σ (xp x) (xq x) (xa x) (xr x)
theorem nxp_cases {kd : Nat → Nat} {a : Nat → Int32} {b : Nat → Nat} {np p : Nat} : nxp kd a b np p = nxv (kd p) (a p) (b p) (cnt (fun q => decide (a q = a p)) np) (sm (fun q => decide (a q = a p)) b np) (cnt (fun q => decide (a q = a p) && decide (b q ≤ 1)) np) := rfl
set_option maxRecDepth 100000 in
set_option maxHeartbeats 4000000 in
theorem sX5_reads {G : GW} {σ : St} {K : St → Prop} {x : XS} (hM : MI x σ) (hQ : ∀ τ : St, (∀ n, Fq n σ τ) → τ.2 = τ.2 → RX x τ → (∀ k, k ≠ 42 → k ≠ 49 → k ≠ 50 → τ.1 k = σ.1 k) → K τ) : Cv G (r0 3 72) mX5_reads [rf G 42] σ K := by
  refine Cv.of [some (rf G 42)] ?_
  have h0 := hM.1 0 (by omega)
  refine A.al0 eX5_reads_0 ?_
  refine A.iconst (v := nI 0) eX5_reads_1 (by decide) ?_
  refine A.cVi1 eX5_reads_2 oX5_readsText kX5_115 ko42 (sX5_readsText0 (n := tL x 1) (f := tX x 1) h0.1 h0.2.1 h0.2.2 (fun τ0 p01 p02 p03 => ?_))
  have h1 := (hM.cg (Fr.fq p01)).1 1 (by omega)
  refine A.pop eX5_reads_5 rfl ?_
  refine A.al0 eX5_reads_6 ?_
  refine A.iconst (v := nI 1) eX5_reads_7 (by decide) ?_
  refine A.cVi1 eX5_reads_8 oX5_readsText kX5_115 ko42 (sX5_readsText1 (n := tL x 5) (f := tX x 5) h1.1 h1.2.1 h1.2.2 (fun τ1 p11 p12 p13 => ?_))
  refine A.pop eX5_reads_11 rfl ?_
  refine B.vret eX5_reads_12 ?_
  refine hQ τ1 (fun n => (Fr.fq p01).tr (Fr.fq p11)) rfl ⟨by rw [p11.2.2.1 0 (by omega)]; exact p02, p12, fun p hp => ?_, fun p hp => p13 p hp⟩ (fun k a b c => (p11.1 k a b c).trans (p01.1 k a b c))
  have w := ents_le (u := 1) (tx := tX x 1) h0.2.1
  have hp8 : p < 8 := Nat.lt_of_lt_of_le hp w
  rw [p11.2.2.2 _ (by omega), p11.2.2.2 _ (by omega)]
  have v := p03 p hp
  rw [show 16 * 0 + 2 * p = 2 * p by omega] at v
  exact v
set_option maxRecDepth 100000 in
set_option maxHeartbeats 4000000 in
theorem sX5_fault0 {G : GW} {σ : St} {K : Int32 → St → Prop} {x : XS} (hM : MI x σ) (hQ : ∀ τ : St, MI (x) τ → Fm σ τ → K (zI (flt 1 (tX x 1) (tL x 1))) τ) : Ci G (r0 3 72) mX5_fault [rf G 42, .int (nI 0)] σ K := by
  refine Ci.of [some (rf G 42), some (.int (nI 0))] ?_
  have h0 := hM.1 0 (by omega)
  refine A.il1 eX5_fault_0 ?_
  refine A.cSi1 eX5_fault_1 oX5_isTwo kX5_96 (sX5_isTwo ?_)
  refine A.if_eqB eX5_fault_4 (fun yw0 => ?_) (fun yw0 => ?_)
  · exact absurd ⟨by decide, by decide⟩ yw0
  · refine A.al0 eX5_fault_7 ?_
    refine A.il1 eX5_fault_8 ?_
    refine A.cVi1 eX5_fault_9 oX5_readsText kX5_115 ko42 (sX5_readsText0 (n := tL x 1) (f := tX x 1) h0.1 h0.2.1 h0.2.2 (fun τ0 p01 p02 p03 => ?_))
    refine A.goto eX5_fault_12 ?_
    refine B.iret eX5_fault_17 ?_
    exact hQ τ0 (hM.cg (Fr.fq p01)) (Fr.fq (n := 0) p01).1
set_option maxRecDepth 100000 in
set_option maxHeartbeats 4000000 in
theorem sX5_fault1 {G : GW} {σ : St} {K : Int32 → St → Prop} {x : XS} (hM : MI x σ) (hQ : ∀ τ : St, MI (x) τ → Fm σ τ → K (zI (flt 5 (tX x 5) (tL x 5))) τ) : Ci G (r0 3 72) mX5_fault [rf G 42, .int (nI 1)] σ K := by
  refine Ci.of [some (rf G 42), some (.int (nI 1))] ?_
  have h0 := hM.1 1 (by omega)
  refine A.il1 eX5_fault_0 ?_
  refine A.cSi1 eX5_fault_1 oX5_isTwo kX5_96 (sX5_isTwo ?_)
  refine A.if_eqB eX5_fault_4 (fun yw0 => ?_) (fun yw0 => ?_)
  · exact absurd ⟨by decide, by decide⟩ yw0
  · refine A.al0 eX5_fault_7 ?_
    refine A.il1 eX5_fault_8 ?_
    refine A.cVi1 eX5_fault_9 oX5_readsText kX5_115 ko42 (sX5_readsText1 (n := tL x 5) (f := tX x 5) h0.1 h0.2.1 h0.2.2 (fun τ1 p11 p12 p13 => ?_))
    refine A.goto eX5_fault_12 ?_
    refine B.iret eX5_fault_17 ?_
    exact hQ τ1 (hM.cg (Fr.fq p11)) (Fr.fq (n := 0) p11).1
set_option maxRecDepth 100000 in
set_option maxHeartbeats 4000000 in
theorem bX5_fault {G : GW} {σ : St} {K : Int32 → St → Prop} {t : Int32} (hb : ¬ ck t 2) (hQ : K (-2) σ) : Ci G (r0 3 72) mX5_fault [rf G 42, .int t] σ K := by
  refine Ci.of [some (rf G 42), some (.int t)] ?_
  refine A.il1 eX5_fault_0 ?_
  refine A.cSi1 eX5_fault_1 oX5_isTwo kX5_96 (sX5_isTwo ?_)
  refine A.if_eqB eX5_fault_4 (fun yw0 => ?_) (fun yw0 => ?_)
  · refine A.bipush (v := -2) eX5_fault_15 (by decide) ?_
    refine B.iret eX5_fault_17 ?_
    exact hQ
  · exact absurd yw0 hb
theorem aX5_fault {G : GW} {σ : St} {K : Int32 → St → Prop} {x : XS} {t : Int32} (hM : MI x σ) (hQ : ∀ τ : St, MI (x) τ → Fm σ τ → K (Rfault x t) τ) : Ci G (r0 3 72) mX5_fault [rf G 42, .int t] σ K := by
  unfold Rfault at hQ
  by_cases ht : okt t
  · simp only [if_pos ht] at hQ
    rcases ht with rfl | rfl
    · exact sX5_fault0 hM hQ
    · exact sX5_fault1 hM hQ
  · simp only [if_neg ht] at hQ
    exact bX5_fault (fun z => ht (okt_ck.mpr z)) (hQ σ hM (Fm.rf _))
set_option maxRecDepth 100000 in
set_option maxHeartbeats 4000000 in
theorem sX5_isPerson {G : GW} {σ : St} {K : Int32 → St → Prop} {v : Int32} {n : Nat} (hn : σ.1 49 0 = nI n) (hn8 : n ≤ 8) (hQ : K (bI (ck v n)) σ) : Ci G (r0 1 25) mX5_isPerson [rf G 42, .int v] σ K := by
  refine Ci.of [some (rf G 42), some (.int v)] ?_
  refine A.il1 eX5_isPerson_0 ?_
  refine A.i2l eX5_isPerson_1 rfl ?_
  refine A.lconst (v := 0) eX5_isPerson_2 (by decide) ?_
  refine A.al0 eX5_isPerson_3 ?_
  refine A.getR eX5_isPerson_4 fX5_28 ko42 kr42_8 ?_
  refine A.iconst (v := nI 0) eX5_isPerson_7 (by decide) ?_
  refine A.ialdN eX5_isPerson_8 ka49 ?_
  refine A.top hn ?_
  refine A.iconst (v := nI 1) eX5_isPerson_9 (by decide) ?_
  refine A.topZ ?_
  refine A.topZ2 ?_
  refine A.isubZ eX5_isPerson_10 ?_
  refine A.i2l eX5_isPerson_11 rfl ?_
  refine A.cSi3 eX5_isPerson_12 oX5_in kX5_67 (sX5_in ?_)
  refine A.top (in_ckz (n := n) (by omega)) ?_
  refine B.zret eX5_isPerson_15 (bI_01 _) ?_
  exact hQ
set_option maxRecDepth 100000 in
set_option maxHeartbeats 4000000 in
theorem sX5_isPlace {G : GW} {σ : St} {K : Int32 → St → Prop} {v : Int32} {n : Nat} (hn : σ.1 49 1 = nI n) (hn8 : n ≤ 8) (hQ : K (bI (ck v n)) σ) : Ci G (r0 1 25) mX5_isPlace [rf G 42, .int v] σ K := by
  refine Ci.of [some (rf G 42), some (.int v)] ?_
  refine A.il1 eX5_isPlace_0 ?_
  refine A.i2l eX5_isPlace_1 rfl ?_
  refine A.lconst (v := 0) eX5_isPlace_2 (by decide) ?_
  refine A.al0 eX5_isPlace_3 ?_
  refine A.getR eX5_isPlace_4 fX5_28 ko42 kr42_8 ?_
  refine A.iconst (v := nI 1) eX5_isPlace_7 (by decide) ?_
  refine A.ialdN eX5_isPlace_8 ka49 ?_
  refine A.top hn ?_
  refine A.iconst (v := nI 1) eX5_isPlace_9 (by decide) ?_
  refine A.topZ ?_
  refine A.topZ2 ?_
  refine A.isubZ eX5_isPlace_10 ?_
  refine A.i2l eX5_isPlace_11 rfl ?_
  refine A.cSi3 eX5_isPlace_12 oX5_in kX5_67 (sX5_in ?_)
  refine A.top (in_ckz (n := n) (by omega)) ?_
  refine B.zret eX5_isPlace_15 (bI_01 _) ?_
  exact hQ
set_option maxRecDepth 100000 in
set_option maxHeartbeats 4000000 in
theorem sX5_isCalm {G : GW} {σ : St} {K : Int32 → St → Prop} {p k : Nat} (hk : σ.1 50 (2 * p + 1) = nI k) (hk2 : k ≤ 2) (hp : p < 8) (hQ : K (bI (k = 2)) σ) : Ci G (r0 0 0) mX5_isCalm [rf G 42, .int (nI p)] σ K := by
  refine Ci.of [some (rf G 42), some (.int (nI p))] ?_
  refine A.al0 eX5_isCalm_0 ?_
  refine A.getR eX5_isCalm_1 fX5_31 ko42 kr42_9 ?_
  refine A.iconst (v := nI 2) eX5_isCalm_4 (by decide) ?_
  refine A.il1 eX5_isCalm_5 ?_
  refine A.imulN eX5_isCalm_6 ?_
  refine A.iconst (v := nI 1) eX5_isCalm_7 (by decide) ?_
  refine A.iaddN eX5_isCalm_8 ?_
  refine A.ialdN eX5_isCalm_9 ka50 ?_
  refine A.top hk ?_
  refine A.iconst (v := nI 2) eX5_isCalm_10 (by decide) ?_
  refine A.icmp_neN eX5_isCalm_11 (fun yc1 => ?_) (fun yc1 => ?_)
  · refine A.iconst (v := nI 0) eX5_isCalm_18 (by decide) ?_
    refine B.zret eX5_isCalm_19 (by decide) ?_
    first
      | exact vl_of hQ (bI_t yc1).symm
      | exact vl_of hQ (bI_f yc1).symm
  · refine A.iconst (v := nI 1) eX5_isCalm_14 (by decide) ?_
    refine A.goto eX5_isCalm_15 ?_
    refine B.zret eX5_isCalm_19 (by decide) ?_
    first
      | exact vl_of hQ (bI_t yc1).symm
      | exact vl_of hQ (bI_f yc1).symm
set_option maxRecDepth 100000 in
set_option maxHeartbeats 4000000 in
theorem aX5_person {G : GW} {σ : St} {K : Int32 → St → Prop} {x : XS} {p w : Int32} (hM : MI x σ) (hQ : ∀ τ : St, MI (x) τ → Fm σ τ → K (Rperson x p w) τ) : Ci G (r0 4 92) mX5_person [rf G 42, .int p, .int w] σ K := by
  refine Ci.of [some (rf G 42), some (.int p), some (.int w)] ?_
  unfold Rperson at hQ
  have n8 := hM.np8
  have q6 := hM.nq6
  refine A.al0 eX5_person_0 ?_
  refine A.cVv0 eX5_person_1 oX5_reads kX5_124 ko42 (sX5_reads hM (fun τ r0 _ r1 r2 => ?_))
  refine A.al0 eX5_person_4 ?_
  refine A.il1 eX5_person_5 ?_
  refine A.cVi1 eX5_person_6 oX5_isPerson kX5_127 ko42 (sX5_isPerson (n := xp x) r1.1 (by omega) ?_)
  refine A.if_eqB eX5_person_9 (fun yw0 => ?_) (fun yw0 => ?_)
  · refine A.bipush (v := -2) eX5_person_32 (by decide) ?_
    refine B.iret eX5_person_34 ?_
    simp only [if_neg (show ¬ (ck p (xp x) ∧ ck w 2) from fun z => yw0 z.1)] at hQ
    exact hQ τ (hM.cg (r0 _)) (r0 0).1
  · refine A.il2 eX5_person_12 ?_
    refine A.cSi1 eX5_person_13 oX5_isTwo kX5_96 (sX5_isTwo ?_)
    refine A.if_eqB eX5_person_16 (fun yw1 => ?_) (fun yw1 => ?_)
    · refine A.bipush (v := -2) eX5_person_32 (by decide) ?_
      refine B.iret eX5_person_34 ?_
      simp only [if_neg (show ¬ (ck p (xp x) ∧ ck w 2) from fun z => yw1 z.2)] at hQ
      exact hQ τ (hM.cg (r0 _)) (r0 0).1
    · simp only [if_pos (show ck p (xp x) ∧ ck w 2 from ⟨yw0, yw1⟩)] at hQ
      obtain ⟨p, bp, rfl⟩ := i_nat yw0.1 yw0.2
      obtain ⟨w, bw, rfl⟩ := i_nat yw1.1 yw1.2
      try simp only [nI_clamp (n := p) (by omega), nI_clamp (n := w) (by omega)] at hQ
      refine A.al0 eX5_person_19 ?_
      refine A.getR eX5_person_20 fX5_31 ko42 kr42_9 ?_
      refine A.iconst (v := nI 2) eX5_person_23 (by decide) ?_
      refine A.il1 eX5_person_24 ?_
      refine A.imulN eX5_person_25 ?_
      refine A.il2 eX5_person_26 ?_
      refine A.iaddN eX5_person_27 ?_
      refine A.ialdN eX5_person_28 ka50 ?_
      refine A.top (show τ.1 50 (2 * p + w) = (if w = 0 then nI (xb x p) else nI (xk x p)) by
    rcases (show w = 0 ∨ w = 1 by omega) with rfl | rfl
    · exact (r1.2.2.1 p bp).1
    · exact (r1.2.2.1 p bp).2) ?_
      refine A.goto eX5_person_29 ?_
      refine B.iret eX5_person_34 ?_
      exact hQ τ (hM.cg (r0 _)) (r0 0).1
set_option maxRecDepth 100000 in
set_option maxHeartbeats 4000000 in
theorem aX5_place {G : GW} {σ : St} {K : Int32 → St → Prop} {x : XS} {p w : Int32} (hM : MI x σ) (hQ : ∀ τ : St, MI (x) τ → Fm σ τ → K (Rplace x p w) τ) : Ci G (r0 4 92) mX5_place [rf G 42, .int p, .int w] σ K := by
  refine Ci.of [some (rf G 42), some (.int p), some (.int w)] ?_
  unfold Rplace at hQ
  have n8 := hM.np8
  have q6 := hM.nq6
  refine A.al0 eX5_place_0 ?_
  refine A.cVv0 eX5_place_1 oX5_reads kX5_124 ko42 (sX5_reads hM (fun τ r0 _ r1 r2 => ?_))
  refine A.al0 eX5_place_4 ?_
  refine A.il1 eX5_place_5 ?_
  refine A.cVi1 eX5_place_6 oX5_isPlace kX5_130 ko42 (sX5_isPlace (n := xq x) r1.2.1 (by omega) ?_)
  refine A.if_eqB eX5_place_9 (fun yw0 => ?_) (fun yw0 => ?_)
  · refine A.bipush (v := -2) eX5_place_35 (by decide) ?_
    refine B.iret eX5_place_37 ?_
    simp only [if_neg (show ¬ (ck p (xq x) ∧ ck w 2) from fun z => yw0 z.1)] at hQ
    exact hQ τ (hM.cg (r0 _)) (r0 0).1
  · refine A.il2 eX5_place_12 ?_
    refine A.cSi1 eX5_place_13 oX5_isTwo kX5_96 (sX5_isTwo ?_)
    refine A.if_eqB eX5_place_16 (fun yw1 => ?_) (fun yw1 => ?_)
    · refine A.bipush (v := -2) eX5_place_35 (by decide) ?_
      refine B.iret eX5_place_37 ?_
      simp only [if_neg (show ¬ (ck p (xq x) ∧ ck w 2) from fun z => yw1 z.2)] at hQ
      exact hQ τ (hM.cg (r0 _)) (r0 0).1
    · simp only [if_pos (show ck p (xq x) ∧ ck w 2 from ⟨yw0, yw1⟩)] at hQ
      obtain ⟨p, bp, rfl⟩ := i_nat yw0.1 yw0.2
      obtain ⟨w, bw, rfl⟩ := i_nat yw1.1 yw1.2
      try simp only [nI_clamp (n := p) (by omega), nI_clamp (n := w) (by omega)] at hQ
      refine A.al0 eX5_place_19 ?_
      refine A.getR eX5_place_20 fX5_31 ko42 kr42_9 ?_
      refine A.bipush (v := nI 16) eX5_place_23 (by decide) ?_
      refine A.iconst (v := nI 2) eX5_place_25 (by decide) ?_
      refine A.il1 eX5_place_26 ?_
      refine A.imulN eX5_place_27 ?_
      refine A.iaddN eX5_place_28 ?_
      refine A.il2 eX5_place_29 ?_
      refine A.iaddN eX5_place_30 ?_
      refine A.ialdN eX5_place_31 ka50 ?_
      refine A.top (show τ.1 50 (16 + 2 * p + w) = (if w = 0 then nI (xlo x p) else nI (xhi x p)) by
    rcases (show w = 0 ∨ w = 1 by omega) with rfl | rfl
    · exact (r1.2.2.2 p bp).1
    · exact (r1.2.2.2 p bp).2) ?_
      refine A.goto eX5_place_32 ?_
      refine B.iret eX5_place_37 ?_
      exact hQ τ (hM.cg (r0 _)) (r0 0).1
theorem wq_m {T : Nat → Nat → Int32} {p h : Nat} (hT : ∀ g, T g p = -2) : wq T p h = nI 0 := by
  induction h with
  | zero => rfl
  | succ h ih => show (if T h p = -2 then _ else _) = _; rw [if_pos (hT h)]; exact ih
set_option maxRecDepth 100000 in
set_option maxHeartbeats 4000000 in
theorem sX5_whereOf {G : GW} {σ : St} {K : Int32 → St → Prop} {h p n nq : Nat} {gh gp gq : Nat → Nat} (bh : h < 24) (bp : p < 8) (hn : n ≤ 44) (hG : M3 σ 51 n 24 8 6 gh gp gq) (hq : σ.1 49 1 = nI nq) (hq6 : nq ≤ 6) (hQ : K (plf (tlf gh gp gq n) nq h p) σ) : Ci G (r0 2 46) mX5_whereOf [rf G 42, .int (nI h), .int (nI p), .int (nI n)] σ K := by
  refine Ci.of [some (rf G 42), some (.int (nI h)), some (.int (nI p)), some (.int (nI n)), none, none, none] ?_
  refine A.iconst (v := nI 0) eX5_whereOf_0 (by decide) ?_
  refine A.is4 eX5_whereOf_1 ?_
  refine A.iconst (v := -1) eX5_whereOf_3 (by decide) ?_
  refine A.is5 eX5_whereOf_4 ?_
  refine A.iconst (v := nI 0) eX5_whereOf_6 (by decide) ?_
  refine A.is6 eX5_whereOf_7 ?_
  have lp : ∀ (fu k : Nat) (S : Int), n - k < fu → k ≤ n → WI (tlf gh gp gq k) p h S → B G (r0 2 46) mX5_whereOf 9 [some (rf G 42), some (.int (nI h)), some (.int (nI p)), some (.int (nI n)), some (.int (wq (tlf gh gp gq k) p (h + 1))), some (.int (zI S)), some (.int (nI k))] [] (σ) (Pi K) := by
    intro fu
    induction fu with
    | zero => intro k S h1 h2; omega
    | succ fu ih =>
      intro k S h1 h2 e1
      refine A.il6 eX5_whereOf_9 ?_
      refine A.il3 eX5_whereOf_11 ?_
      refine A.icmp_geN eX5_whereOf_12 (fun c1 => ?_) (fun c1 => ?_)
      · refine A.al0 eX5_whereOf_81 ?_
        refine A.il4 eX5_whereOf_82 ?_
        refine A.cVi1 eX5_whereOf_84 oX5_isPlace kX5_130 ko42 (sX5_isPlace (n := nq) hq (by omega) ?_)
        refine A.if_eqB eX5_whereOf_87 (fun yd3 => ?_) (fun yd3 => ?_)
        · refine A.iconst (v := -1) eX5_whereOf_95 (by decide) ?_
          refine B.iret eX5_whereOf_96 ?_
          have e : k = n := by omega
          subst e
          refine vl_of hQ ?_
          unfold plf clp
          first
            | rw [if_pos yd3]
            | rw [if_neg yd3]
        · refine A.il4 eX5_whereOf_90 ?_
          refine A.goto eX5_whereOf_92 ?_
          refine B.iret eX5_whereOf_96 ?_
          have e : k = n := by omega
          subst e
          refine vl_of hQ ?_
          unfold plf clp
          first
            | rw [if_pos yd3]
            | rw [if_neg yd3]
      · have hk := hG k (by omega)
        have hk1 := hk.1.2
        have hk2 := hk.2.1.2
        have hk3 := hk.2.2.2
        refine A.al0 eX5_whereOf_15 ?_
        refine A.getR eX5_whereOf_16 fX5_34 ko42 kr42_11 ?_
        refine A.iconst (v := nI 3) eX5_whereOf_19 (by decide) ?_
        refine A.il6 eX5_whereOf_20 ?_
        refine A.imulN eX5_whereOf_22 ?_
        refine A.iconst (v := nI 1) eX5_whereOf_23 (by decide) ?_
        refine A.iaddN eX5_whereOf_24 ?_
        refine A.ialdN eX5_whereOf_25 ka51 ?_
        refine A.top hk.2.1.1 ?_
        refine A.il2 eX5_whereOf_26 ?_
        refine A.icmp_neN eX5_whereOf_27 (fun yd1 => ?_) (fun yd1 => ?_)
        · refine A.inc6N eX5_whereOf_75 ?_
          refine A.goto eX5_whereOf_78 ?_
          have w := e1.no (fun z => yd1 z.1)
          exact A.eq (by rw [w.2]) rfl rfl (ih (k + 1) S (by omega) (by omega) w.1)
        · refine A.al0 eX5_whereOf_30 ?_
          refine A.getR eX5_whereOf_31 fX5_34 ko42 kr42_11 ?_
          refine A.iconst (v := nI 3) eX5_whereOf_34 (by decide) ?_
          refine A.il6 eX5_whereOf_35 ?_
          refine A.imulN eX5_whereOf_37 ?_
          refine A.ialdN eX5_whereOf_38 ka51 ?_
          refine A.top hk.1.1 ?_
          refine A.i2l eX5_whereOf_39 rfl ?_
          refine A.il5 eX5_whereOf_40 ?_
          refine A.i2l eX5_whereOf_42 rfl ?_
          refine A.il1 eX5_whereOf_43 ?_
          refine A.i2l eX5_whereOf_44 rfl ?_
          refine A.cSi3 eX5_whereOf_45 oX5_in kX5_67 (sX5_in ?_)
          refine A.top (in_w (by have := e1.1; omega) (by have := e1.2.1; omega) (by omega) (by omega)) ?_
          refine A.if_eqB eX5_whereOf_48 (fun yd2 => ?_) (fun yd2 => ?_)
          · refine A.inc6N eX5_whereOf_75 ?_
            refine A.goto eX5_whereOf_78 ?_
            first
              | (have w := e1.yes yd1 yd2.1 yd2.2 hk3
                 exact A.eq (by rw [w.2, ← nI_z]) rfl rfl (ih (k + 1) (gh k : Int) (by omega) (by omega) w.1))
              | (have w := e1.no (fun z => yd2 z.2)
                 exact A.eq (by rw [w.2]) rfl rfl (ih (k + 1) S (by omega) (by omega) w.1))
          · refine A.al0 eX5_whereOf_51 ?_
            refine A.getR eX5_whereOf_52 fX5_34 ko42 kr42_11 ?_
            refine A.iconst (v := nI 3) eX5_whereOf_55 (by decide) ?_
            refine A.il6 eX5_whereOf_56 ?_
            refine A.imulN eX5_whereOf_58 ?_
            refine A.ialdN eX5_whereOf_59 ka51 ?_
            refine A.top hk.1.1 ?_
            refine A.is5 eX5_whereOf_60 ?_
            refine A.al0 eX5_whereOf_62 ?_
            refine A.getR eX5_whereOf_63 fX5_34 ko42 kr42_11 ?_
            refine A.iconst (v := nI 3) eX5_whereOf_66 (by decide) ?_
            refine A.il6 eX5_whereOf_67 ?_
            refine A.imulN eX5_whereOf_69 ?_
            refine A.iconst (v := nI 2) eX5_whereOf_70 (by decide) ?_
            refine A.iaddN eX5_whereOf_71 ?_
            refine A.ialdN eX5_whereOf_72 ka51 ?_
            refine A.top hk.2.2.1 ?_
            refine A.is4 eX5_whereOf_73 ?_
            refine A.inc6N eX5_whereOf_75 ?_
            refine A.goto eX5_whereOf_78 ?_
            first
              | (have w := e1.yes yd1 yd2.1 yd2.2 hk3
                 exact A.eq (by rw [w.2, ← nI_z]) rfl rfl (ih (k + 1) (gh k : Int) (by omega) (by omega) w.1))
              | (have w := e1.no (fun z => yd2 z.2)
                 exact A.eq (by rw [w.2]) rfl rfl (ih (k + 1) S (by omega) (by omega) w.1))
  refine A.eq (by rw [wq_m (T := tlf gh gp gq 0) (fun g => rfl)]; rfl) rfl rfl (lp (n + 1) 0 (-1) (by omega) (by omega) ⟨by omega, by omega, fun g _ _ => rfl, fun z => by omega⟩)
  
set_option maxRecDepth 100000 in
set_option maxHeartbeats 4000000 in
theorem sX5_flashIn {G : GW} {σ : St} {K : Int32 → St → Prop} {h np nq : Nat} {a : Nat → Int32} {b : Nat → Nat} (hnp : σ.1 49 0 = nI np) (hn8 : np ≤ 8) (hnq : σ.1 49 1 = nI nq) (hq6 : nq ≤ 6) (bh : h < 24) (hA : HM σ h np a b) (hQ : K (nI (flb a b np nq)) σ) : Ci G (r0 0 0) mX5_flashIn [rf G 42, .int (nI h)] σ K := by
  refine Ci.of [some (rf G 42), some (.int (nI h)), none, none, none, none] ?_
  refine A.iconst (v := nI 0) eX5_flashIn_0 (by decide) ?_
  refine A.is2 eX5_flashIn_1 ?_
  refine A.iconst (v := nI 0) eX5_flashIn_2 (by decide) ?_
  refine A.is3 eX5_flashIn_3 ?_
  have lo : ∀ (fu y : Nat), nq - y < fu → y ≤ nq → B G (r0 0 0) mX5_flashIn 4 [some (rf G 42), some (.int (nI h)), some (.int (nI (bits (fun y => decide (2 ≤ cnt (isdk a b y) np)) y))), some (.int (nI y)), none, none] [] (σ) (Pi K) := by
    intro fu
    induction fu with
    | zero => intro y  h1 h2; omega
    | succ fu iho =>
      intro y  h1 h2 
      refine A.il3 eX5_flashIn_4 ?_
      refine A.al0 eX5_flashIn_5 ?_
      refine A.getR eX5_flashIn_6 fX5_28 ko42 kr42_8 ?_
      refine A.iconst (v := nI 1) eX5_flashIn_9 (by decide) ?_
      refine A.ialdN eX5_flashIn_10 ka49 ?_
      refine A.top hnq ?_
      refine A.icmp_geN eX5_flashIn_11 (fun c1 => ?_) (fun c1 => ?_)
      · refine A.il2 eX5_flashIn_101 ?_
        refine B.iret eX5_flashIn_102 ?_
        have e : y = nq := by omega
        subst e
        exact hQ
      · refine A.iconst (v := nI 0) eX5_flashIn_14 (by decide) ?_
        refine A.is4 eX5_flashIn_15 ?_
        refine A.iconst (v := nI 0) eX5_flashIn_17 (by decide) ?_
        refine A.is5 eX5_flashIn_18 ?_
        have lp : ∀ (fu i : Nat), np - i < fu → i ≤ np → B G (r0 0 0) mX5_flashIn 20 [some (rf G 42), some (.int (nI h)), some (.int (nI (bits (fun y => decide (2 ≤ cnt (isdk a b y) np)) y))), some (.int (nI y)), some (.int (nI (cnt (isdk a b y) i))), some (.int (nI i))] [] (σ) (Pi K) := by
          intro fu
          induction fu with
          | zero => intro i  h1 h2; omega
          | succ fu ih =>
            intro i  h1 h2 
            have hci := cnt_le (isdk a b y) i
            refine A.il5 eX5_flashIn_20 ?_
            refine A.al0 eX5_flashIn_22 ?_
            refine A.getR eX5_flashIn_23 fX5_28 ko42 kr42_8 ?_
            refine A.iconst (v := nI 0) eX5_flashIn_26 (by decide) ?_
            refine A.ialdN eX5_flashIn_27 ka49 ?_
            refine A.top hnp ?_
            refine A.icmp_geN eX5_flashIn_28 (fun c2 => ?_) (fun c2 => ?_)
            · have ei : i = np := by omega
              subst ei
              have hc8 := cnt_le (isdk a b y) i
              refine A.il2 eX5_flashIn_79 ?_
              refine A.il4 eX5_flashIn_80 ?_
              refine A.iconst (v := nI 1) eX5_flashIn_82 (by decide) ?_
              refine A.icmp_leN eX5_flashIn_83 (fun yd3 => ?_) (fun yd3 => ?_)
              · refine A.iconst (v := nI 0) eX5_flashIn_92 (by decide) ?_
                refine A.iorN eX5_flashIn_93 ?_
                refine A.is2 eX5_flashIn_94 ?_
                refine A.inc3N eX5_flashIn_95 ?_
                refine A.goto eX5_flashIn_98 ?_
                exact A.eqw (by simp only [wkL, bits, and_true, true_and]; first | (rw [if_pos (decide_eq_true (by omega))]; simp) | (rw [if_neg (by simp; omega)]; simp)) rfl rfl (iho (y + 1) (by omega) (by omega))
              · refine A.iconst (v := nI 1) eX5_flashIn_86 (by decide) ?_
                refine A.il3 eX5_flashIn_87 ?_
                refine A.ishl1 eX5_flashIn_88 ?_
                refine A.goto eX5_flashIn_89 ?_
                refine A.iorN eX5_flashIn_93 ?_
                refine A.is2 eX5_flashIn_94 ?_
                refine A.inc3N eX5_flashIn_95 ?_
                refine A.goto eX5_flashIn_98 ?_
                exact A.eqw (by simp only [wkL, bits, and_true, true_and]; first | (rw [if_pos (decide_eq_true (by omega))]; simp) | (rw [if_neg (by simp; omega)]; simp)) rfl rfl (iho (y + 1) (by omega) (by omega))
            · refine A.il4 eX5_flashIn_31 ?_
              refine A.al0 eX5_flashIn_33 ?_
              refine A.getR eX5_flashIn_34 fX5_37 ko42 kr42_12 ?_
              refine A.bipush (v := nI 8) eX5_flashIn_37 (by decide) ?_
              refine A.il1 eX5_flashIn_39 ?_
              refine A.imulN eX5_flashIn_40 ?_
              refine A.il5 eX5_flashIn_41 ?_
              refine A.iaddN eX5_flashIn_43 ?_
              refine A.ialdN eX5_flashIn_44 ka52 ?_
              refine A.top (hA i (by omega)).1 ?_
              refine A.il3 eX5_flashIn_45 ?_
              refine A.icmp_ne eX5_flashIn_46 (fun yd1 => ?_) (fun yd1 => ?_)
              · refine A.iconst (v := nI 0) eX5_flashIn_69 (by decide) ?_
                refine A.iaddN eX5_flashIn_70 ?_
                refine A.is4 eX5_flashIn_71 ?_
                refine A.inc5N eX5_flashIn_73 ?_
                refine A.goto eX5_flashIn_76 ?_
                exact A.eq (by simp [cnt, isdk, yd1]) rfl rfl (ih (i + 1) (by omega) (by omega))
              · refine A.al0 eX5_flashIn_49 ?_
                refine A.getR eX5_flashIn_50 fX5_40 ko42 kr42_13 ?_
                refine A.bipush (v := nI 8) eX5_flashIn_53 (by decide) ?_
                refine A.il1 eX5_flashIn_55 ?_
                refine A.imulN eX5_flashIn_56 ?_
                refine A.il5 eX5_flashIn_57 ?_
                have hb9 := (hA i (by omega)).2.2
                refine A.iaddN eX5_flashIn_59 ?_
                refine A.ialdN eX5_flashIn_60 ka53 ?_
                refine A.top (hA i (by omega)).2.1 ?_
                refine A.iconst (v := nI 1) eX5_flashIn_61 (by decide) ?_
                refine A.icmp_gtN eX5_flashIn_62 (fun yd2 => ?_) (fun yd2 => ?_)
                · refine A.iconst (v := nI 0) eX5_flashIn_69 (by decide) ?_
                  refine A.iaddN eX5_flashIn_70 ?_
                  refine A.is4 eX5_flashIn_71 ?_
                  refine A.inc5N eX5_flashIn_73 ?_
                  refine A.goto eX5_flashIn_76 ?_
                  first
                    | (have yq : b i ≤ 1 := by omega
                       exact A.eq (by simp [cnt, isdk, yd1, yq]) rfl rfl (ih (i + 1) (by omega) (by omega)))
                    | (have yq : ¬ b i ≤ 1 := by omega
                       exact A.eq (by simp [cnt, isdk, yd1, yq]) rfl rfl (ih (i + 1) (by omega) (by omega)))
                · refine A.iconst (v := nI 1) eX5_flashIn_65 (by decide) ?_
                  refine A.goto eX5_flashIn_66 ?_
                  refine A.iaddN eX5_flashIn_70 ?_
                  refine A.is4 eX5_flashIn_71 ?_
                  refine A.inc5N eX5_flashIn_73 ?_
                  refine A.goto eX5_flashIn_76 ?_
                  first
                    | (have yq : b i ≤ 1 := by omega
                       exact A.eq (by simp [cnt, isdk, yd1, yq]) rfl rfl (ih (i + 1) (by omega) (by omega)))
                    | (have yq : ¬ b i ≤ 1 := by omega
                       exact A.eq (by simp [cnt, isdk, yd1, yq]) rfl rfl (ih (i + 1) (by omega) (by omega)))
        exact lp (np + 1) 0 (by omega) (by omega)
  exact A.eqw (by simp [wkL, bits]) rfl rfl (lo (nq + 1) 0 (by omega) (by omega))
