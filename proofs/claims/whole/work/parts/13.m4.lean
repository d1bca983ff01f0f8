/-! ===== how the hours go ===== -/
/-- nothing but the rows lo .. hi has changed -/
def Fi (lo hi : Nat) (σ τ : St) : Prop := (∀ k, (k < lo ∨ hi < k) → τ.1 k = σ.1 k) ∧ τ.2 = σ.2
theorem Fi.rf (lo hi : Nat) (σ : St) : Fi lo hi σ σ := ⟨fun _ _ => rfl, rfl⟩
theorem Fi.tr {lo hi : Nat} {σ τ ρ : St} (h : Fi lo hi σ τ) (g : Fi lo hi τ ρ) : Fi lo hi σ ρ := ⟨fun k hk => (g.1 k hk).trans (h.1 k hk), g.2.trans h.2⟩
theorem Fi.mo {lo hi lo' hi' : Nat} {σ τ : St} (h : Fi lo hi σ τ) (h1 : lo' ≤ lo) (h2 : hi ≤ hi') : Fi lo' hi' σ τ := ⟨fun k hk => h.1 k (by omega), h.2⟩
theorem Fi.ur {lo hi k : Nat} {σ τ : St} {f : Nat → Int32} (h : Fi lo hi σ τ) (h1 : lo ≤ k) (h2 : k ≤ hi) : Fi lo hi σ (ur τ k f) := ⟨fun j hj => (ur_n (by omega)).trans (h.1 j hj), h.2⟩
/-- all are at a place below nq, or nowhere -/
def PA (a : Nat → Int32) (np nq : Nat) : Prop := ∀ p, p < np → a p = -1 ∨ ∃ x, x < nq ∧ a p = nI x
def isat (a : Nat → Int32) (x : Nat) (p : Nat) : Bool := decide (a p = nI x)
def isdk (a : Nat → Int32) (b : Nat → Nat) (x : Nat) (p : Nat) : Bool := decide (a p = nI x) && decide (b p ≤ 1)
def GR (τ : St) (v nq : Nat) (a : Nat → Int32) (b : Nat → Nat) (i : Nat) : Prop := ∀ x, x < nq → τ.1 (v + 3) x = nI (cnt (isat a x) i) ∧ τ.1 (v + 4) x = nI (sm (isat a x) b i) ∧ τ.1 (v + 5) x = nI (cnt (isdk a b x) i)
def GI (σ τ : St) (v nq : Nat) (a : Nat → Int32) (b : Nat → Nat) (i : Nat) : Prop := Fi (v + 3) (v + 5) σ τ ∧ GR τ v nq a b i
theorem GI.miss {σ τ : St} {v nq : Nat} {a : Nat → Int32} {b : Nat → Nat} {i : Nat} (h : GI σ τ v nq a b i) (hq : nq ≤ 6) (hm : ∀ x, x < nq → ¬ a i = nI x) : GI σ τ v nq a b (i + 1) := by
  refine ⟨h.1, fun x hx => ?_⟩
  have := h.2 x hx
  simp only [cnt, sm, isat, isdk, hm x hx, decide_false, Bool.false_and, if_false, Nat.add_zero, Bool.false_eq_true]
  exact this
theorem GI.hit {σ τ τ' : St} {v nq y : Nat} {a : Nat → Int32} {b : Nat → Nat} {i : Nat} (h : GI σ τ v nq a b i) (hq : nq ≤ 6) (hy : y < nq) (ha : a i = nI y) (hF : Fi (v + 3) (v + 5) τ τ')
    (h3 : ∀ x, τ'.1 (v + 3) x = if x = y then nI (cnt (isat a y) i + 1) else τ.1 (v + 3) x) (h4 : ∀ x, τ'.1 (v + 4) x = if x = y then nI (sm (isat a y) b i + b i) else τ.1 (v + 4) x) (h5 : ∀ x, τ'.1 (v + 5) x = if x = y then nI (cnt (isdk a b y) i + (if b i ≤ 1 then 1 else 0)) else τ.1 (v + 5) x) : GI σ τ' v nq a b (i + 1) := by
  refine ⟨h.1.tr hF, fun x hx => ?_⟩
  obtain ⟨g1, g2, g3⟩ := h.2 x hx
  by_cases e : x = y
  · subst e
    rw [h3, h4, h5, if_pos rfl, if_pos rfl, if_pos rfl]
    simp only [cnt, sm, isat, isdk, ha, decide_true, Bool.true_and, if_true]
    refine ⟨trivial, trivial, ?_⟩
    by_cases hb : b i ≤ 1 <;> simp [hb]
  · rw [h3, h4, h5, if_neg e, if_neg e, if_neg e]
    have hne : ¬ a i = nI x := by
      rw [ha]
      intro z
      exact e ((nI_eq (by omega) (by omega)).mp z).symm
    simp only [cnt, sm, isat, isdk, hne, decide_false, Bool.false_and, if_false, Nat.add_zero, Bool.false_eq_true]
    exact ⟨g1, g2, g3⟩
theorem cnt_pos {f : Nat → Bool} {p : Nat} (hf : f p = true) : ∀ {n : Nat}, p < n → 1 ≤ cnt f n := by
  intro n
  induction n with
  | zero => intro h; omega
  | succ n ih =>
    intro h
    unfold cnt
    rcases Nat.lt_or_ge p n with q | q
    · have := ih q; omega
    · rw [show n = p by omega, hf]; simp
theorem sm_ge {f : Nat → Bool} {b : Nat → Nat} {p : Nat} (hf : f p = true) : ∀ {n : Nat}, p < n → b p ≤ sm f b n := by
  intro n
  induction n with
  | zero => intro h; omega
  | succ n ih =>
    intro h
    unfold sm
    rcases Nat.lt_or_ge p n with q | q
    · have := ih q; omega
    · rw [show n = p by omega, hf]; simp
theorem sm_cnt {f : Nat → Bool} {b : Nat → Nat} {c : Nat} : ∀ {n : Nat}, (∀ p, p < n → b p ≤ c) → sm f b n ≤ c * cnt f n := by
  intro n
  induction n with
  | zero => intro _; simp [sm]
  | succ n ih =>
    intro h
    have h1 := ih (fun p hp => h p (by omega))
    have h2 := h n (by omega)
    unfold sm cnt
    split
    · rw [Nat.mul_add]; omega
    · omega
/-- how bright one is an hour later, by its place's number, sum, dark ones -/
def nxv (kd : Nat) (ap : Int32) (bp c s d : Nat) : Nat := if kd = 2 ∨ ap = -1 then bp else if 2 ≤ d then 0 else if s = c * bp then bp else if c * bp < s then bp + 1 else bp - 1
def nxp (kd : Nat → Nat) (a : Nat → Int32) (b : Nat → Nat) (np p : Nat) : Nat := nxv (kd p) (a p) (b p) (cnt (fun q => decide (a q = a p)) np) (sm (fun q => decide (a q = a p)) b np) (cnt (fun q => decide (a q = a p) && decide (b q ≤ 1)) np)
theorem nxp_le {kd : Nat → Nat} {a : Nat → Int32} {b : Nat → Nat} {np p : Nat} (hb : ∀ q, q < np → b q ≤ 9) (hp : p < np) : nxp kd a b np p ≤ 9 := by
  have h9 := hb p hp
  have h1 := sm_cnt (f := fun q => decide (a q = a p)) hb
  unfold nxp nxv
  split
  · exact h9
  · split
    · omega
    · split
      · exact h9
      · split
        · next h =>
          rcases Nat.lt_or_ge (b p) 9 with q | q
          · omega
          · have : b p = 9 := by omega
            rw [this] at h
            omega
        · omega
def brf (kd : Nat → Nat) (a : Nat → Nat → Int32) (b0 : Nat → Nat) (np : Nat) : Nat → Nat → Nat
  | 0 => b0
  | h + 1 => fun p => nxp kd (a h) (brf kd a b0 np h) np p
theorem brf_le {kd : Nat → Nat} {a : Nat → Nat → Int32} {b0 : Nat → Nat} {np : Nat} (hb : ∀ q, q < np → b0 q ≤ 9) : ∀ h p, p < np → brf kd a b0 np h p ≤ 9 := by
  intro h
  induction h with
  | zero => exact hb
  | succ h ih => intro p hp; exact nxp_le (fun q hq => ih q hq) hp
/-- what was told last of an hour and a person: -2 if nothing -/
def tlf (gh gp gq : Nat → Nat) : Nat → Nat → Nat → Int32
  | 0 => fun _ _ => -2
  | n + 1 => fun h p => if gh n = h ∧ gp n = p then nI (gq n) else tlf gh gp gq n h p
/-- where one was told to go, behind h hours -/
def wq (T : Nat → Nat → Int32) (p : Nat) : Nat → Int32
  | 0 => nI 0
  | h + 1 => if T h p = -2 then wq T p h else T h p
def clp (nq : Nat) (x : Int32) : Int32 := if 0 ≤ x.toInt ∧ x.toInt < (nq : Int) then x else -1
def plf (T : Nat → Nat → Int32) (nq h p : Nat) : Int32 := clp nq (wq T p (h + 1))
theorem plf_PA {T : Nat → Nat → Int32} {nq h np : Nat} : PA (plf T nq h) np nq := by
  intro p _
  unfold plf clp
  split
  · next hc =>
    obtain ⟨j, hj, e⟩ := i_nat hc.1 hc.2
    exact Or.inr ⟨j, hj, e⟩
  · exact Or.inl rfl
/-- the goings as they stand -/
def GO (σ : St) (ng : Nat) (gh gp gq : Nat → Nat) : Prop := σ.1 9 3 = nI ng ∧ ng ≤ 20 ∧ ∀ k, k < ng → (σ.1 10 k = nI (gh k) ∧ gh k < 24) ∧ (σ.1 11 k = nI (gp k) ∧ gp k < 8) ∧ (σ.1 12 k = nI (gq k) ∧ gq k < 6)
/-- a valley's last hour, and where and how bright all are up to it -/
def VI (σ τ : St) (v np : Nat) (b : Nat → Nat → Nat) (i : Nat) : Prop := Fi (v + 2) (v + 5) σ τ ∧ ∀ h p, h ≤ i → p < np → τ.1 (v + 2) (h * 8 + p) = nI (b h p)
theorem nI_m1 {x : Nat} (h : x < 2147483648) : ¬ (-1 : Int32) = nI x := fun e => nI_nm1 h e.symm
set_option maxRecDepth 100000 in
set_option maxHeartbeats 4000000 in
theorem sX3_tell {G : GW} {σ : St} {K : St → Prop} {v h p la : Nat} {x : Int32} (hv : Vv v) (hla : σ.1 v 8 = nI la) (hl23 : la ≤ 23) (hh : h < 24) (hp : p < 8) (hQ : K (if h < la + 1 then ur σ (v + 1) (upd (σ.1 (v + 1)) (h * 8 + p) x) else σ)) : Cv G (r0 1 21) mX3_tell [rf G v, .int (nI h), .int (nI p), .int x] σ K := by
  refine Cv.of [some (rf G v), some (.int (nI h)), some (.int (nI p)), some (.int x)] ?_
  refine A.il1 eX3_tell_0 ?_
  refine A.al0 eX3_tell_1 ?_
  refine A.getI eX3_tell_2 fX3_38 (kvo hv) ?_
  refine A.top hla ?_
  refine A.iconst (v := nI 1) eX3_tell_5 (by decide) ?_
  refine A.iaddN eX3_tell_6 ?_
  refine A.cNi2 eX3_tell_7 oX4_isBelow (fun s h => h.2.2.2.1) (sX4_isBelowN (by omega) (by omega) ?_)
  refine A.if_eqB eX3_tell_10 (fun c1 => ?_) (fun c1 => ?_)
  · refine B.vret eX3_tell_34 ?_
    (first | (rw [if_pos c1] at hQ; exact hQ) | (rw [if_neg c1] at hQ; exact hQ))
  · refine A.il2 eX3_tell_13 ?_
    refine A.bipush (v := nI 8) eX3_tell_14 (by decide) ?_
    refine A.cNi2 eX3_tell_16 oX4_isBelow (fun s h => h.2.2.2.1) (sX4_isBelowN (by omega) (by omega) ?_)
    refine A.if_eqB eX3_tell_19 (fun c2 => ?_) (fun c2 => ?_)
    · exact absurd hp c2
    · refine A.al0 eX3_tell_22 ?_
      refine A.getR eX3_tell_23 fX3_22 (kvo hv) (kvr3 hv) ?_
      refine A.il1 eX3_tell_26 ?_
      refine A.bipush (v := nI 8) eX3_tell_27 (by decide) ?_
      refine A.imulN eX3_tell_29 ?_
      refine A.il2 eX3_tell_30 ?_
      refine A.iaddN eX3_tell_31 ?_
      refine A.il3 eX3_tell_32 ?_
      refine A.iastN eX3_tell_33 (kv1 hv) ?_
      refine B.vret eX3_tell_34 ?_
      (first | (rw [if_pos c1] at hQ; exact hQ) | (rw [if_neg c1] at hQ; exact hQ))
set_option maxRecDepth 100000 in
set_option maxHeartbeats 4000000 in
theorem sX3_begin {G : GW} {σ : St} {K : St → Prop} {v p : Nat} {x : Int32} (hv : Vv v) (hp : p < 8) (hQ : K (ur σ (v + 2) (upd (σ.1 (v + 2)) p x))) : Cv G (r0 1 21) mX3_begin [rf G v, .int (nI p), .int x] σ K := by
  refine Cv.of [some (rf G v), some (.int (nI p)), some (.int x)] ?_
  refine A.il1 eX3_begin_0 ?_
  refine A.bipush (v := nI 8) eX3_begin_1 (by decide) ?_
  refine A.cNi2 eX3_begin_3 oX4_isBelow (fun s h => h.2.2.2.1) (sX4_isBelowN (by omega) (by omega) ?_)
  refine A.if_eqB eX3_begin_6 (fun c1 => ?_) (fun c1 => ?_)
  · exact absurd hp c1
  · refine A.al0 eX3_begin_9 ?_
    refine A.getR eX3_begin_10 fX3_26 (kvo hv) (kvr4 hv) ?_
    refine A.il1 eX3_begin_13 ?_
    refine A.il2 eX3_begin_14 ?_
    refine A.iastN eX3_begin_15 (kv2 hv) ?_
    refine B.vret eX3_begin_16 ?_
    exact hQ
set_option maxRecDepth 100000 in
set_option maxHeartbeats 4000000 in
theorem sX3_open {G : GW} {σ : St} {K : St → Prop} {v la np ng : Nat} {gh gp gq : Nat → Nat} (hv : Vv v) (hl23 : la ≤ 23) (hnp : σ.1 1 5 = nI np) (hn8 : np ≤ 8) (hG : GO σ ng gh gp gq) (hQ : ∀ τ : St, Fi v (v + 2) σ τ → τ.1 v 8 = nI la → (∀ h p, h ≤ la → p < 8 → τ.1 (v + 1) (h * 8 + p) = tlf gh gp gq ng h p) → (∀ p, p < np → τ.1 (v + 2) p = σ.1 3 p) → K τ) : Cv G (r0 2 44) mX3_open [rf G v, .int (nI la)] σ K := by
  refine Cv.of [some (rf G v), some (.int (nI la)), none] ?_
  obtain ⟨s1, s2, s3⟩ := hG
  have hv30 : 30 ≤ v := by rcases hv with e | e <;> omega
  refine A.al0 eX3_open_0 ?_
  refine A.il1 eX3_open_1 ?_
  refine A.bipush (v := nI 23) eX3_open_2 (by decide) ?_
  refine A.mminN eX3_open_4 kX3_42 ?_
  rw [Nat.min_eq_left (show la ≤ 23 by omega)]
  refine A.putI eX3_open_7 pX3_38 (kvo hv) ?_
  refine A.iconst (v := nI 0) eX3_open_10 (by decide) ?_
  refine A.is2 eX3_open_11 ?_
  have lp1 : ∀ (fu i : Nat) (τ : St), (la + 1) * 8 - i < fu → i ≤ (la + 1) * 8 → Fi v (v + 2) σ τ → τ.1 v 8 = nI la → (∀ k, k < i → τ.1 (v + 1) k = -2) → B G (r0 2 44) mX3_open 12 [some (rf G v), some (.int (nI la)), some (.int (nI i))] [] (τ) (Pv K) := by
    intro fu
    induction fu with
    | zero => intro i τ h1 h2; omega
    | succ fu ih =>
      intro i τ h1 h2 e1 e8 e2
      refine A.il2 eX3_open_12 ?_
      refine A.al0 eX3_open_13 ?_
      refine A.getI eX3_open_14 fX3_38 (kvo hv) ?_
      refine A.top e8 ?_
      refine A.iconst (v := nI 1) eX3_open_17 (by decide) ?_
      refine A.iaddN eX3_open_18 ?_
      refine A.bipush (v := nI 8) eX3_open_19 (by decide) ?_
      refine A.imulN eX3_open_21 ?_
      refine A.icmp_geN eX3_open_22 (fun c1 => ?_) (fun c1 => ?_)
      · refine A.iconst (v := nI 0) eX3_open_39 (by decide) ?_
        refine A.is2 eX3_open_40 ?_
        have lp2 : ∀ (fu i : Nat) (τ : St), ng - i < fu → i ≤ ng → Fi v (v + 2) σ τ → τ.1 v 8 = nI la → (∀ h p, h ≤ la → p < 8 → τ.1 (v + 1) (h * 8 + p) = tlf gh gp gq i h p) → B G (r0 2 44) mX3_open 41 [some (rf G v), some (.int (nI la)), some (.int (nI i))] [] (τ) (Pv K) := by
          intro fu
          induction fu with
          | zero => intro i τ h1 h2; omega
          | succ fu ih2 =>
            intro i τ h1 h2 e1 e8 e2
            refine A.il2 eX3_open_41 ?_
            refine A.al0 eX3_open_42 ?_
            refine A.getR eX3_open_43 fX3_18 (kvo hv) (kvr2 hv) ?_
            refine A.getI eX3_open_46 fX3_48 ko9 ?_
            refine A.top (show τ.1 9 3 = nI ng by rw [e1.1 9 (by omega)]; exact s1) ?_
            refine A.icmp_geN eX3_open_49 (fun c2 => ?_) (fun c2 => ?_)
            · refine A.iconst (v := nI 0) eX3_open_89 (by decide) ?_
              refine A.is2 eX3_open_90 ?_
              have lp3 : ∀ (fu i : Nat) (τ : St), np - i < fu → i ≤ np → Fi v (v + 2) σ τ → τ.1 v 8 = nI la → (∀ h p, h ≤ la → p < 8 → τ.1 (v + 1) (h * 8 + p) = tlf gh gp gq ng h p) → (∀ p, p < i → τ.1 (v + 2) p = σ.1 3 p) → B G (r0 2 44) mX3_open 91 [some (rf G v), some (.int (nI la)), some (.int (nI i))] [] (τ) (Pv K) := by
                intro fu
                induction fu with
                | zero => intro i τ h1 h2; omega
                | succ fu ih3 =>
                  intro i τ h1 h2 e1 e8 e2 e3
                  refine A.il2 eX3_open_91 ?_
                  refine A.al0 eX3_open_92 ?_
                  refine A.getR eX3_open_93 fX3_9 (kvo hv) (kvr0 hv) ?_
                  refine A.getI eX3_open_96 fX3_66 ko1 ?_
                  refine A.top (show τ.1 1 5 = nI np by rw [e1.1 1 (by omega)]; exact hnp) ?_
                  refine A.icmp_geN eX3_open_99 (fun c3 => ?_) (fun c3 => ?_)
                  · refine B.vret eX3_open_121 ?_
                    have e : i = np := by omega
                    subst e
                    exact hQ τ e1 e8 e2 e3
                  · refine A.al0 eX3_open_102 ?_
                    refine A.il2 eX3_open_103 ?_
                    refine A.al0 eX3_open_104 ?_
                    refine A.getR eX3_open_105 fX3_9 (kvo hv) (kvr0 hv) ?_
                    refine A.il2 eX3_open_108 ?_
                    refine A.cVi1 eX3_open_109 oX0_first kX3_71 ko1 (sX0_first (u := 1) (Or.inl rfl) (show i < 8 by omega) ?_)
                    refine A.top (show τ.1 (1 + 2) i = σ.1 3 i from by rw [e1.1 (1 + 2) (by omega)]) ?_
                    refine A.cVv2 eX3_open_112 oX3_begin kX3_75 (kvo hv) (sX3_begin hv (by omega) ?_)
                    refine A.inc2N eX3_open_115 ?_
                    refine A.goto eX3_open_118 ?_
                    refine ih3 (i + 1) _ (by omega) (by omega) (e1.ur (by omega) (by omega)) (by rw [ur_n (by omega)]; exact e8) (fun h p hh hp => by rw [ur_n (by omega)]; exact e2 h p hh hp) (fun p hp => ?_)
                    rw [ur_s]
                    by_cases e : p = i
                    · rw [e, upd_s]
                    · rw [upd_n e]; exact e3 p (by omega)
              have e : i = ng := by omega
              subst e
              exact lp3 (np + 1) 0 τ (by omega) (by omega) e1 e8 e2 (fun p hp => by omega)
            · refine A.al0 eX3_open_52 ?_
              refine A.al0 eX3_open_53 ?_
              refine A.getR eX3_open_54 fX3_18 (kvo hv) (kvr2 hv) ?_
              refine A.getR eX3_open_57 fX3_53 ko9 kr9_0 ?_
              refine A.il2 eX3_open_60 ?_
              refine A.ialdN eX3_open_61 ka10 ?_
              refine A.top (show τ.1 10 i = nI (gh i) by rw [e1.1 10 (by omega)]; exact (s3 i (by omega)).1.1) ?_
              refine A.al0 eX3_open_62 ?_
              refine A.getR eX3_open_63 fX3_18 (kvo hv) (kvr2 hv) ?_
              refine A.getR eX3_open_66 fX3_56 ko9 kr9_1 ?_
              refine A.il2 eX3_open_69 ?_
              refine A.ialdN eX3_open_70 ka11 ?_
              refine A.top (show τ.1 11 i = nI (gp i) by rw [e1.1 11 (by omega)]; exact (s3 i (by omega)).2.1.1) ?_
              refine A.al0 eX3_open_71 ?_
              refine A.getR eX3_open_72 fX3_18 (kvo hv) (kvr2 hv) ?_
              refine A.getR eX3_open_75 fX3_59 ko9 kr9_2 ?_
              refine A.il2 eX3_open_78 ?_
              refine A.ialdN eX3_open_79 ka12 ?_
              refine A.top (show τ.1 12 i = nI (gq i) by rw [e1.1 12 (by omega)]; exact (s3 i (by omega)).2.2.1) ?_
              refine A.cVv3 eX3_open_80 oX3_tell kX3_62 (kvo hv) (sX3_tell hv e8 hl23 (s3 i (by omega)).1.2 (s3 i (by omega)).2.1.2 ?_)
              refine A.inc2N eX3_open_83 ?_
              refine A.goto eX3_open_86 ?_
              have r := s3 i (by omega)
              refine ih2 (i + 1) _ (by omega) (by omega) ?_ ?_ (fun h p hh hp => ?_)
              · split
                · exact e1.ur (by omega) (by omega)
                · exact e1
              · split
                · rw [ur_n (by omega)]; exact e8
                · exact e8
              · show _ = if gh i = h ∧ gp i = p then nI (gq i) else tlf gh gp gq i h p
                split
                · rw [ur_s]
                  by_cases e : gh i = h ∧ gp i = p
                  · rw [if_pos e, ← e.1, ← e.2, upd_s]
                  · rw [if_neg e, upd_n (by omega)]; exact e2 h p hh hp
                · rw [if_neg (by omega)]; exact e2 h p hh hp
        exact lp2 (ng + 1) 0 τ (by omega) (by omega) e1 e8 (fun h p hh hp => e2 _ (by omega))
      · refine A.al0 eX3_open_25 ?_
        refine A.getR eX3_open_26 fX3_22 (kvo hv) (kvr3 hv) ?_
        refine A.il2 eX3_open_29 ?_
        refine A.bipush (v := -2) eX3_open_30 (by decide) ?_
        refine A.iastN eX3_open_32 (kv1 hv) ?_
        refine A.inc2N eX3_open_33 ?_
        refine A.goto eX3_open_36 ?_
        refine ih (i + 1) _ (by omega) (by omega) (e1.ur (by omega) (by omega)) (by rw [ur_n (by omega)]; exact e8) (fun k hk => ?_)
        rw [ur_s]
        by_cases e : k = i
        · rw [e, upd_s]
        · rw [upd_n e]; exact e2 k (by omega)
  refine lp1 ((la + 1) * 8 + 1) 0 _ (by omega) (by omega) ((Fi.rf v (v + 2) σ).ur (by omega) (by omega)) (by simp [ur, upd]) (fun k hk => by omega)
set_option maxRecDepth 100000 in
set_option maxHeartbeats 4000000 in
theorem sX3_walk {G : GW} {σ : St} {K : St → Prop} {v la np nq : Nat} (hv : Vv v) (hla : σ.1 v 8 = nI la) (hl23 : la ≤ 23) (hnp : σ.1 1 5 = nI np) (hn8 : np ≤ 8) (hnq : σ.1 5 5 = nI nq) (hq6 : nq ≤ 6) (hQ : ∀ τ : St, Fi (v + 1) (v + 1) σ τ → (∀ h p, h ≤ la → p < np → τ.1 (v + 1) (h * 8 + p) = plf (fun h p => σ.1 (v + 1) (h * 8 + p)) nq h p) → K τ) : Cv G (r0 1 21) mX3_walk [rf G v] σ K := by
  refine Cv.of [some (rf G v), none, none, none, none] ?_
  have hv30 : 30 ≤ v := by rcases hv with e | e <;> omega
  refine A.iconst (v := nI 0) eX3_walk_0 (by decide) ?_
  refine A.is1 eX3_walk_1 ?_
  have lp1 : ∀ (fu p : Nat) (τ : St), np - p < fu → p ≤ np → Fi (v + 1) (v + 1) σ τ → (∀ h q, h ≤ la → q < p → τ.1 (v + 1) (h * 8 + q) = plf (fun h p => σ.1 (v + 1) (h * 8 + p)) nq h q) → (∀ h q, h ≤ la → p ≤ q → q < 8 → τ.1 (v + 1) (h * 8 + q) = σ.1 (v + 1) (h * 8 + q)) → B G (r0 1 21) mX3_walk 2 [some (rf G v), some (.int (nI p)), none, none, none] [] (τ) (Pv K) := by
    intro fu
    induction fu with
    | zero => intro p τ h1 h2; omega
    | succ fu ih1 =>
      intro p τ h1 h2 e1 e2 e3
      refine A.il1 eX3_walk_2 ?_
      refine A.al0 eX3_walk_3 ?_
      refine A.getR eX3_walk_4 fX3_9 (kvo hv) (kvr0 hv) ?_
      refine A.getI eX3_walk_7 fX3_66 ko1 ?_
      refine A.top (show τ.1 1 5 = nI np by rw [e1.1 1 (by omega)]; exact hnp) ?_
      refine A.icmp_geN eX3_walk_10 (fun c1 => ?_) (fun c1 => ?_)
      · refine B.vret eX3_walk_91 ?_
        have e : p = np := by omega
        subst e
        exact hQ τ e1 e2
      · refine A.iconst (v := nI 0) eX3_walk_13 (by decide) ?_
        refine A.is2 eX3_walk_14 ?_
        refine A.iconst (v := nI 0) eX3_walk_15 (by decide) ?_
        refine A.is3 eX3_walk_16 ?_
        have lp2 : ∀ (fu j : Nat) (τ : St), la + 1 - j < fu → j ≤ la + 1 → Fi (v + 1) (v + 1) σ τ → (∀ h q, h ≤ la → q < p → τ.1 (v + 1) (h * 8 + q) = plf (fun h p => σ.1 (v + 1) (h * 8 + p)) nq h q) → (∀ h, h < j → τ.1 (v + 1) (h * 8 + p) = plf (fun h p => σ.1 (v + 1) (h * 8 + p)) nq h p) → (∀ h q, h ≤ la → p < q → q < 8 → τ.1 (v + 1) (h * 8 + q) = σ.1 (v + 1) (h * 8 + q)) → (∀ h q, j ≤ h → h ≤ la → p = q → τ.1 (v + 1) (h * 8 + q) = σ.1 (v + 1) (h * 8 + q)) → B G (r0 1 21) mX3_walk 17 [some (rf G v), some (.int (nI p)), some (.int (wq (fun h p => σ.1 (v + 1) (h * 8 + p)) p j)), some (.int (nI j)), none] [] (τ) (Pv K) := by
          intro fu
          induction fu with
          | zero => intro j τ h1 h2; omega
          | succ fu ih2 =>
            intro j τ h1 h2 e1 e3 e5 e6 e4
            refine A.il3 eX3_walk_17 ?_
            refine A.al0 eX3_walk_18 ?_
            refine A.getI eX3_walk_19 fX3_38 (kvo hv) ?_
            refine A.top (show τ.1 v 8 = nI la by rw [e1.1 v (by omega)]; exact hla) ?_
            refine A.icmp_gtN eX3_walk_22 (fun c2 => ?_) (fun c2 => ?_)
            · refine A.inc1N eX3_walk_85 ?_
              refine A.goto eX3_walk_88 ?_
              exact A.eqw (by simp [wkL]) rfl rfl (ih1 (p + 1) τ (by omega) (by omega) e1 (fun h q hh hq => (Nat.lt_or_ge q p).elim (fun z => e3 h q hh z) (fun z => by rw [show q = p by omega]; exact e5 h (by omega))) (fun h q hh hq hq8 => e6 h q hh (by omega) hq8))
            · refine A.il3 eX3_walk_25 ?_
              refine A.bipush (v := nI 8) eX3_walk_26 (by decide) ?_
              refine A.imulN eX3_walk_28 ?_
              refine A.il1 eX3_walk_29 ?_
              refine A.iaddN eX3_walk_30 ?_
              refine A.is4 eX3_walk_31 ?_
              refine A.al0 eX3_walk_33 ?_
              refine A.getR eX3_walk_34 fX3_22 (kvo hv) (kvr3 hv) ?_
              refine A.il4 eX3_walk_37 ?_
              refine A.ialdN eX3_walk_39 (kv1 hv) ?_
              refine A.top (e4 j p (by omega) (by omega) rfl) ?_
              refine A.bipush (v := -2) eX3_walk_40 (by decide) ?_
              refine A.icmp_eq eX3_walk_42 (fun c3 => ?_) (fun c3 => ?_)
              · refine A.al0 eX3_walk_53 ?_
                refine A.getR eX3_walk_54 fX3_22 (kvo hv) (kvr3 hv) ?_
                refine A.il4 eX3_walk_57 ?_
                refine A.il2 eX3_walk_59 ?_
                refine A.al0 eX3_walk_60 ?_
                refine A.getR eX3_walk_61 fX3_15 (kvo hv) (kvr1 hv) ?_
                refine A.getI eX3_walk_64 fX3_66 ko5 ?_
                refine A.top (show τ.1 5 5 = nI nq by rw [e1.1 5 (by omega)]; exact hnq) ?_
                refine A.cNi2 eX3_walk_67 oX4_isBelow (fun s h => h.2.2.2.1) (sX4_isBelowIN (by omega) ?_)
                refine A.if_eqB eX3_walk_70 (fun c4 => ?_) (fun c4 => ?_)
                · refine A.iconst (v := -1) eX3_walk_77 (by decide) ?_
                  refine A.iastN eX3_walk_78 (kv1 hv) ?_
                  refine A.inc3N eX3_walk_79 ?_
                  refine A.goto eX3_walk_82 ?_
                  refine A.eqw (by simp [wkL, wq, c3]) rfl rfl (ih2 (j + 1) _ (by omega) (by omega) (e1.ur (by omega) (by omega)) (fun h q hh hq => ?_) (fun h hh => ?_) (fun h q hh hq hq8 => ?_) (fun h q hj hh hq => ?_))
                  · rw [ur_s, upd_n (by omega)]; exact e3 h q hh hq
                  · rw [ur_s]
                    by_cases e : h = j
                    · subst e
                      rw [upd_s]
                      simp only [plf, clp, wq]
                      first
                        | rw [if_pos c3, if_pos c4]
                        | rw [if_pos c3, if_neg c4]
                        | rw [if_neg c3, if_pos c4]
                        | rw [if_neg c3, if_neg c4]
                    · rw [upd_n (by omega)]; exact e5 h (by omega)
                  · rw [ur_s, upd_n (by omega)]; exact e6 h q hh hq hq8
                  · rw [ur_s, upd_n (by omega)]; exact e4 h q (by omega) hh hq
                · refine A.il2 eX3_walk_73 ?_
                  refine A.goto eX3_walk_74 ?_
                  refine A.iastN eX3_walk_78 (kv1 hv) ?_
                  refine A.inc3N eX3_walk_79 ?_
                  refine A.goto eX3_walk_82 ?_
                  refine A.eqw (by simp [wkL, wq, c3]) rfl rfl (ih2 (j + 1) _ (by omega) (by omega) (e1.ur (by omega) (by omega)) (fun h q hh hq => ?_) (fun h hh => ?_) (fun h q hh hq hq8 => ?_) (fun h q hj hh hq => ?_))
                  · rw [ur_s, upd_n (by omega)]; exact e3 h q hh hq
                  · rw [ur_s]
                    by_cases e : h = j
                    · subst e
                      rw [upd_s]
                      simp only [plf, clp, wq]
                      first
                        | rw [if_pos c3, if_pos c4]
                        | rw [if_pos c3, if_neg c4]
                        | rw [if_neg c3, if_pos c4]
                        | rw [if_neg c3, if_neg c4]
                    · rw [upd_n (by omega)]; exact e5 h (by omega)
                  · rw [ur_s, upd_n (by omega)]; exact e6 h q hh hq hq8
                  · rw [ur_s, upd_n (by omega)]; exact e4 h q (by omega) hh hq
              · refine A.al0 eX3_walk_45 ?_
                refine A.getR eX3_walk_46 fX3_22 (kvo hv) (kvr3 hv) ?_
                refine A.il4 eX3_walk_49 ?_
                refine A.ialdN eX3_walk_51 (kv1 hv) ?_
                refine A.top (e4 j p (by omega) (by omega) rfl) ?_
                refine A.is2 eX3_walk_52 ?_
                refine A.al0 eX3_walk_53 ?_
                refine A.getR eX3_walk_54 fX3_22 (kvo hv) (kvr3 hv) ?_
                refine A.il4 eX3_walk_57 ?_
                refine A.il2 eX3_walk_59 ?_
                refine A.al0 eX3_walk_60 ?_
                refine A.getR eX3_walk_61 fX3_15 (kvo hv) (kvr1 hv) ?_
                refine A.getI eX3_walk_64 fX3_66 ko5 ?_
                refine A.top (show τ.1 5 5 = nI nq by rw [e1.1 5 (by omega)]; exact hnq) ?_
                refine A.cNi2 eX3_walk_67 oX4_isBelow (fun s h => h.2.2.2.1) (sX4_isBelowIN (by omega) ?_)
                refine A.if_eqB eX3_walk_70 (fun c4 => ?_) (fun c4 => ?_)
                · refine A.iconst (v := -1) eX3_walk_77 (by decide) ?_
                  refine A.iastN eX3_walk_78 (kv1 hv) ?_
                  refine A.inc3N eX3_walk_79 ?_
                  refine A.goto eX3_walk_82 ?_
                  refine A.eqw (by simp [wkL, wq, c3]) rfl rfl (ih2 (j + 1) _ (by omega) (by omega) (e1.ur (by omega) (by omega)) (fun h q hh hq => ?_) (fun h hh => ?_) (fun h q hh hq hq8 => ?_) (fun h q hj hh hq => ?_))
                  · rw [ur_s, upd_n (by omega)]; exact e3 h q hh hq
                  · rw [ur_s]
                    by_cases e : h = j
                    · subst e
                      rw [upd_s]
                      simp only [plf, clp, wq]
                      first
                        | rw [if_pos c3, if_pos c4]
                        | rw [if_pos c3, if_neg c4]
                        | rw [if_neg c3, if_pos c4]
                        | rw [if_neg c3, if_neg c4]
                    · rw [upd_n (by omega)]; exact e5 h (by omega)
                  · rw [ur_s, upd_n (by omega)]; exact e6 h q hh hq hq8
                  · rw [ur_s, upd_n (by omega)]; exact e4 h q (by omega) hh hq
                · refine A.il2 eX3_walk_73 ?_
                  refine A.goto eX3_walk_74 ?_
                  refine A.iastN eX3_walk_78 (kv1 hv) ?_
                  refine A.inc3N eX3_walk_79 ?_
                  refine A.goto eX3_walk_82 ?_
                  refine A.eqw (by simp [wkL, wq, c3]) rfl rfl (ih2 (j + 1) _ (by omega) (by omega) (e1.ur (by omega) (by omega)) (fun h q hh hq => ?_) (fun h hh => ?_) (fun h q hh hq hq8 => ?_) (fun h q hj hh hq => ?_))
                  · rw [ur_s, upd_n (by omega)]; exact e3 h q hh hq
                  · rw [ur_s]
                    by_cases e : h = j
                    · subst e
                      rw [upd_s]
                      simp only [plf, clp, wq]
                      first
                        | rw [if_pos c3, if_pos c4]
                        | rw [if_pos c3, if_neg c4]
                        | rw [if_neg c3, if_pos c4]
                        | rw [if_neg c3, if_neg c4]
                    · rw [upd_n (by omega)]; exact e5 h (by omega)
                  · rw [ur_s, upd_n (by omega)]; exact e6 h q hh hq hq8
                  · rw [ur_s, upd_n (by omega)]; exact e4 h q (by omega) hh hq
        exact A.eqw (by simp [wkL, wq]) rfl rfl (lp2 (la + 1 + 1) 0 τ (by omega) (by omega) e1 e2 (fun h hh => by omega) (fun h q hh hq hq8 => e3 h q hh (by omega) hq8) (fun h q _ hh hq => e3 h q hh (by omega) (by omega)))
  exact lp1 (np + 1) 0 σ (by omega) (by omega) (Fi.rf _ _ _) (fun h q hh hq => by omega) (fun _ _ _ _ _ => rfl)
