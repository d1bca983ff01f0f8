theorem tL_wT {x : XS} {t t' n : Nat} {f : Nat → Nat} (h : t < 2) (h' : t' < 2) : tL (wT x (um t) n f) (um t') = (if t' = t then n else tL x (um t')) ∧ tX (wT x (um t) n f) (um t') = (if t' = t then f else tX x (um t')) := by
  rcases (show t = 0 ∨ t = 1 by omega) with rfl | rfl <;> rcases (show t' = 0 ∨ t' = 1 by omega) with rfl | rfl <;> exact ⟨rfl, rfl⟩
theorem MI.setT {x : XS} {σ τ : St} {t n : Nat} {f : Nat → Nat} (bt : t < 2) (h : MI x σ) (e : ∀ k, k ≠ 47 → k ≠ 48 → τ.1 k = σ.1 k) (h1 : τ.1 48 t = nI n) (hn : n ≤ lb (um t)) (h2 : ∀ i, i < n → τ.1 47 (24 * t + i) = nI (f i) ∧ f i < 256) (h3 : ∀ j, j < 2 → j ≠ t → τ.1 48 j = σ.1 48 j) (h4 : ∀ j, (j < 24 * t ∨ 24 * t + 24 ≤ j) → τ.1 47 j = σ.1 47 j) : MI (wT x (um t) n f) τ := by
  obtain ⟨g1, g2, g3, g4, g5, g6⟩ := h
  have hT : MT (wT x (um t) n f) τ := by
    intro t' ht'
    rw [(tL_wT bt ht').1, (tL_wT bt ht').2]
    by_cases q : t' = t
    · subst q
      simp only [if_true]
      exact ⟨h1, hn, h2⟩
    · simp only [if_neg q]
      obtain ⟨a, b, c⟩ := g1 t' ht'
      refine ⟨by rw [h3 t' ht' q]; exact a, b, fun i hi => ?_⟩
      have hb := (lb_le (um t')).2.1
      rw [h4 _ (by omega)]
      exact c i hi
  have e2 : MG (wT x (um t) n f) τ ∧ MS (wT x (um t) n f) τ ∧ MF (wT x (um t) n f) τ ∧ MH (wT x (um t) n f) τ ∧ τ.1 42 4 = nI (xl (wT x (um t) n f)) := by
    have w := (⟨g2.cg (by rw [e 42 (by omega) (by omega)]) (fun j _ => by rw [e 51 (by omega) (by omega)]), g3.cg (by rw [e 42 (by omega) (by omega)]) (e 58 (by omega) (by omega)), g4.cg (by rw [e 42 (by omega) (by omega)]) (e 59 (by omega) (by omega)), g5.cg (e 43 (by omega) (by omega)) (e 44 (by omega) (by omega)) (e 45 (by omega) (by omega)), by rw [e 42 (by omega) (by omega)]; exact g6⟩ : MG x τ ∧ MS x τ ∧ MF x τ ∧ MH x τ ∧ τ.1 42 4 = nI (xl x))
    rcases (show t = 0 ∨ t = 1 by omega) with rfl | rfl <;> exact w
  exact ⟨hT, e2⟩
theorem xz_wh {x : XS} {i k n : Nat} {o : Option Nat} {g : Nat → Int32} : xz (wh x i o n g) k = if k = i then (match o with
  | none => 0
  | some _ => n) else xz x k := by
  unfold xz
  show (match (if k = i then o else (xh x).1 k) with
    | none => 0
    | some _ => (if k = i then n else (xh x).2.1 k)) = _
  by_cases e : k = i
  · simp only [if_pos e]
  · simp only [if_neg e]
    cases (xh x).1 k <;> rfl
theorem MI.setH {x : XS} {σ τ : St} {i n : Nat} {o : Option Nat} {g : Nat → Int32} (h : MI x σ) (e : ∀ k, k ≠ 43 → k ≠ 44 → k ≠ 45 → k ≠ 46 → τ.1 k = σ.1 k) (e1 : ∀ k, k ≠ i → τ.1 43 k = σ.1 43 k) (e2 : ∀ k, k ≠ i → τ.1 44 k = σ.1 44 k) (e3 : ∀ k, (k < 60 * i ∨ 60 * i + 60 ≤ k) → τ.1 45 k = σ.1 45 k) (h1 : τ.1 43 i = ov o) (ho : o = none ∨ ((∃ f, o = some f ∧ f < 3) ∧ τ.1 44 i = nI n ∧ n ≤ 60 ∧ ∀ j, j < n → τ.1 45 (60 * i + j) = g j)) : MI (wh x i o n g) τ := by
  obtain ⟨g1, g2, g3, g4, g5, g6⟩ := h
  have h2 : MT x τ ∧ MG x τ ∧ MS x τ ∧ MF x τ ∧ τ.1 42 4 = nI (xl x) := ⟨g1.cg (e 47 (by omega) (by omega) (by omega) (by omega)) (e 48 (by omega) (by omega) (by omega) (by omega)), g2.cg (by rw [e 42 (by omega) (by omega) (by omega) (by omega)]) (fun j _ => by rw [e 51 (by omega) (by omega) (by omega) (by omega)]), g3.cg (by rw [e 42 (by omega) (by omega) (by omega) (by omega)]) (e 58 (by omega) (by omega) (by omega) (by omega)), g4.cg (by rw [e 42 (by omega) (by omega) (by omega) (by omega)]) (e 59 (by omega) (by omega) (by omega) (by omega)), by rw [e 42 (by omega) (by omega) (by omega) (by omega)]; exact g6⟩
  refine ⟨h2.1, h2.2.1, h2.2.2.1, h2.2.2.2.1, ?_, h2.2.2.2.2⟩
  intro k hk
  rw [xz_wh]
  show τ.1 43 k = ov (if k = i then o else (xh x).1 k) ∧ (∀ f, (if k = i then o else (xh x).1 k) = some f → f < 3 ∧ _ = (if k = i then n else (xh x).2.1 k) ∧ _) ∧ _ ∧ ∀ j, _ → τ.1 45 (60 * k + j) = (if k = i then g else (xh x).2.2 k) j
  by_cases q : k = i
  · subst q
    simp only [if_true]
    refine ⟨h1, ?_⟩
    rcases ho with rfl | ⟨⟨f, rfl, hf⟩, a, b, c⟩
    · exact ⟨fun f hf => (by cases hf), Nat.zero_le _, fun j hj => absurd hj (Nat.not_lt_zero _)⟩
    · exact ⟨fun f' hf' => ⟨(by cases hf'; exact hf), rfl, a⟩, b, c⟩
  · simp only [if_neg q]
    rw [e1 k q, e2 k q]
    obtain ⟨a, b, c, d⟩ := g5 k hk
    exact ⟨a, b, c, fun j hj => by rw [e3 _ (by omega)]; exact d j hj⟩
theorem MI.setL {x : XS} {σ : St} {n : Nat} (h : MI x σ) : MI (wl x n) (ur σ 42 (upd (σ.1 42) 4 (nI n))) := by
  obtain ⟨g1, g2, g3, g4, g5, g6⟩ := h
  have e : ∀ j, j ≠ 4 → (ur σ 42 (upd (σ.1 42) 4 (nI n))).1 42 j = σ.1 42 j := fun j hj => by rw [ur_s, upd_n hj]
  have e2 : ∀ k, k ≠ 42 → (ur σ 42 (upd (σ.1 42) 4 (nI n))).1 k = σ.1 k := fun k hk => ur_n hk
  exact ⟨MT.cg (e2 47 (by omega)) (e2 48 (by omega)) g1, MG.cg (e 10 (by omega)) (fun j _ => by rw [e2 51 (by omega)]) g2, MS.cg (e 18 (by omega)) (e2 58 (by omega)) g3, MF.cg (e 20 (by omega)) (e2 59 (by omega)) g4, MH.cg (e2 43 (by omega)) (e2 44 (by omega)) (e2 45 (by omega)) g5, by rw [ur_s, upd_s]; rfl⟩
theorem ov_neg {o : Option Nat} (h : ∀ g, o = some g → g < 3) : (ov o).toInt < 0 ↔ ov o = -1 := by
  cases o with
  | none => exact ⟨fun _ => rfl, fun _ => by decide⟩
  | some g =>
    have := h g rfl
    show (nI g).toInt < 0 ↔ nI g = -1
    rw [nI_ti (by omega)]
    exact ⟨fun z => by omega, fun z => absurd z (nI_nm1 (by omega))⟩
def lkS (σ : St) (n : Nat) : St := if n = 0 then σ else ur σ 42 (upd (σ.1 42) 4 (nI n))
def lkR (n : Nat) : Int32 := if n = 0 then 0 else fnd n
theorem fa_le (x : XS) (i : Nat) (f j : Int32) : fa x i f j ≤ 3 := by
  unfold fa
  split
  · omega
  · split
    · omega
    · split <;> omega
theorem lkR_0 : ∀ n, n ≤ 3 → (lkR n = 0 ↔ n = 0) := by
  intro n hn
  rcases (show n = 0 ∨ n = 1 ∨ n = 2 ∨ n = 3 by omega) with rfl | rfl | rfl | rfl <;> decide
theorem fa_z {x : XS} {i : Nat} {f j : Int32} (h : fa x i f j = 0) : ¬ ov ((xh x).1 i) = -1 ∧ ov ((xh x).1 i) = f ∧ (0 ≤ j.toInt ∧ j.toInt < (xz x i : Int)) := by
  unfold fa at h
  split at h
  · omega
  · next q1 =>
    split at h
    · omega
    · next q2 =>
      split at h
      · next q3 => exact ⟨q1, Decidable.byContradiction q2, q3⟩
      · omega
theorem MI.hs {x : XS} {σ : St} {i : Nat} (h : MI x σ) (hi : i < 4) : σ.1 43 i = ov ((xh x).1 i) ∧ (∀ g, (xh x).1 i = some g → g < 3 ∧ xz x i = (xh x).2.1 i ∧ σ.1 44 i = nI (xz x i)) ∧ xz x i ≤ 60 ∧ ∀ j, j < xz x i → σ.1 45 (60 * i + j) = (xh x).2.2 i j := h.2.2.2.2.1 i hi
theorem MI.sg {x : XS} {σ : St} {i : Nat} (h : MI x σ) (hi : i < 4) (hn : ¬ ov ((xh x).1 i) = -1) : ∃ g, (xh x).1 i = some g ∧ g < 3 ∧ xz x i = (xh x).2.1 i ∧ σ.1 44 i = nI (xz x i) := by
  cases e : (xh x).1 i with
  | none => rw [e] at hn; exact absurd rfl hn
  | some g => exact ⟨g, rfl, (h.hs hi).2.1 g e⟩
/-- three put behind n threes -/
def g3 (σ : St) (r n : Nat) (a b c : Int32) : St := ur (ur (ur σ r (upd (σ.1 r) (3 * n) a)) r (upd (upd (σ.1 r) (3 * n) a) (3 * n + 1) b)) r (upd (upd (upd (σ.1 r) (3 * n) a) (3 * n + 1) b) (3 * n + 2) c)
theorem g3_at {σ : St} {r n : Nat} {a b c : Int32} : (g3 σ r n a b c).1 r (3 * n) = a ∧ (g3 σ r n a b c).1 r (3 * n + 1) = b ∧ (g3 σ r n a b c).1 r (3 * n + 2) = c ∧ (∀ j, j < 3 * n → (g3 σ r n a b c).1 r j = σ.1 r j) ∧ ∀ k, k ≠ r → (g3 σ r n a b c).1 k = σ.1 k := by
  unfold g3
  refine ⟨?_, ?_, ?_, ?_, ?_⟩
  · rw [ur_s, upd_n (by omega), upd_n (by omega), upd_s]
  · rw [ur_s, upd_n (by omega), upd_s]
  · rw [ur_s, upd_s]
  · intro j hj; rw [ur_s, upd_n (by omega), upd_n (by omega), upd_n (by omega)]
  · intro k hk; rw [ur_n hk, ur_n hk, ur_n hk]
set_option maxRecDepth 100000 in
set_option maxHeartbeats 4000000 in
theorem aX5_type {G : GW} {σ : St} {K : Int32 → St → Prop} {x : XS} {t b : Int32} (hM : MI x σ) (hQ : ∀ τ : St, MI (Ntype x t b) τ → Fm σ τ → K (Rtype x t b) τ) : Ci G (r0 2 45) mX5_type [rf G 42, .int t, .int b] σ K := by
  refine Ci.of [some (rf G 42), some (.int t), some (.int b)] ?_
  unfold Rtype Ntype at hQ
  refine A.il1 eX5_type_0 ?_
  refine A.cSi1 eX5_type_1 oX5_isTwo kX5_96 (sX5_isTwo ?_)
  refine A.if_eqB eX5_type_4 (fun yw0 => ?_) (fun yw0 => ?_)
  · refine A.bipush (v := -2) eX5_type_19 (by decide) ?_
    refine B.iret eX5_type_21 ?_
    simp only [if_neg (show ¬ (okt t ∧ ck b 256) from fun z => yw0 (okt_ck.mp z.1))] at hQ
    exact hQ σ hM (Fm.rf _)
  · refine A.il2 eX5_type_7 ?_
    refine A.i2l eX5_type_8 rfl ?_
    refine A.lconst (v := 0) eX5_type_9 (by decide) ?_
    refine A.ldc2 eX5_type_10 nX5_99 ?_
    refine A.cSi3 eX5_type_13 oX5_in kX5_67 (sX5_in ?_)
    refine A.top (in_ck (n := 256) (by decide)) ?_
    refine A.if_neB eX5_type_16 (fun yw1 => ?_) (fun yw1 => ?_)
    · simp only [if_pos (show okt t ∧ ck b 256 from ⟨okt_ck.mpr yw0, yw1⟩)] at hQ
      obtain ⟨t, bt, rfl⟩ := i_nat yw0.1 yw0.2
      obtain ⟨b, bb, rfl⟩ := i_nat yw1.1 yw1.2
      try simp only [nI_clamp (n := t) (by omega), nI_clamp (n := b) (by omega)] at hQ
      have hT := hM.1 t bt
      simp only [lu_um bt] at hQ
      have hlb : lb (um t) = if t = 0 then 23 else 17 := by
        rcases (show t = 0 ∨ t = 1 by omega) with rfl | rfl <;> rfl
      refine A.al0 eX5_type_22 ?_
      refine A.getR eX5_type_23 fX5_25 ko42 kr42_6 ?_
      refine A.il1 eX5_type_26 ?_
      refine A.ialdN eX5_type_27 ka48 ?_
      refine A.top hT.1 ?_
      refine A.il1 eX5_type_28 ?_
      refine A.if_neN eX5_type_29 (fun yz0 => ?_) (fun yz0 => ?_)
      · have hlb2 : lb (um t) = 17 := by rw [hlb, if_neg yz0]
        refine A.bipush (v := nI 17) eX5_type_37 (by decide) ?_
        refine A.icmp_neN eX5_type_39 (fun yd1 => ?_) (fun yd1 => ?_)
        · have hlt : tL x (um t) < lb (um t) := by have := hT.2.1; omega
          have hl3 := (lb_le (um t)).2.1
          refine A.al0 eX5_type_45 ?_
          refine A.getR eX5_type_46 fX5_22 ko42 kr42_5 ?_
          refine A.bipush (v := nI 24) eX5_type_49 (by decide) ?_
          refine A.il1 eX5_type_51 ?_
          refine A.imulN eX5_type_52 ?_
          refine A.al0 eX5_type_53 ?_
          refine A.getR eX5_type_54 fX5_25 ko42 kr42_6 ?_
          refine A.il1 eX5_type_57 ?_
          refine A.ialdN eX5_type_58 ka48 ?_
          refine A.top hT.1 ?_
          refine A.iaddN eX5_type_59 ?_
          refine A.il2 eX5_type_60 ?_
          refine A.iastN eX5_type_61 ka47 ?_
          refine A.al0 eX5_type_62 ?_
          refine A.getR eX5_type_63 fX5_25 ko42 kr42_6 ?_
          refine A.il1 eX5_type_66 ?_
          refine A.dup2 eX5_type_67 rfl rfl ?_
          refine A.ialdN eX5_type_68 ka48 ?_
          refine A.top (show (ur σ 47 (upd (σ.1 47) (24 * t + tL x (um t)) (nI b))).1 48 t = nI (tL x (um t)) by rw [ur_n (by omega)]; exact hT.1) ?_
          refine A.iconst (v := nI 1) eX5_type_69 (by decide) ?_
          refine A.iaddN eX5_type_70 ?_
          refine A.iastN eX5_type_71 ka48 ?_
          refine A.al0 eX5_type_72 ?_
          refine A.getR eX5_type_73 fX5_25 ko42 kr42_6 ?_
          refine A.il1 eX5_type_76 ?_
          refine A.ialdN eX5_type_77 ka48 ?_
          refine A.top (show _ = nI (tL x (um t) + 1) by rw [ur_s, upd_s]) ?_
          refine B.iret eX5_type_78 ?_
          simp only [if_pos hlt] at hQ
          refine hQ _ (MI.setT bt hM (fun k a b => by rw [ur_n b, ur_n a]) (by rw [ur_s, upd_s]) (by omega) (fun i hi => ?_) (fun j hj hne => by rw [ur_s, upd_n hne, ur_n (by omega)]) (fun j hj => by rw [ur_n (by omega), ur_s, upd_n (by omega)])) (((Fm.rf σ).ro (by omega)).ro (by omega))
          rw [ur_n (by omega), ur_s]
          by_cases e : i = tL x (um t)
          · rw [e, upd_s]; simp [bb]
          · rw [upd_n (by omega)]; simp only [if_neg e]; exact hT.2.2 i (by omega)
        · refine A.bipush (v := -4) eX5_type_42 (by decide) ?_
          refine B.iret eX5_type_44 ?_
          simp only [if_neg (show ¬ tL x (um t) < lb (um t) by omega)] at hQ
          exact hQ σ hM (Fm.rf _)
      · have hlb2 : lb (um t) = 23 := by rw [hlb, if_pos yz0]
        refine A.bipush (v := nI 23) eX5_type_32 (by decide) ?_
        refine A.goto eX5_type_34 ?_
        refine A.icmp_neN eX5_type_39 (fun yd1 => ?_) (fun yd1 => ?_)
        · have hlt : tL x (um t) < lb (um t) := by have := hT.2.1; omega
          have hl3 := (lb_le (um t)).2.1
          refine A.al0 eX5_type_45 ?_
          refine A.getR eX5_type_46 fX5_22 ko42 kr42_5 ?_
          refine A.bipush (v := nI 24) eX5_type_49 (by decide) ?_
          refine A.il1 eX5_type_51 ?_
          refine A.imulN eX5_type_52 ?_
          refine A.al0 eX5_type_53 ?_
          refine A.getR eX5_type_54 fX5_25 ko42 kr42_6 ?_
          refine A.il1 eX5_type_57 ?_
          refine A.ialdN eX5_type_58 ka48 ?_
          refine A.top hT.1 ?_
          refine A.iaddN eX5_type_59 ?_
          refine A.il2 eX5_type_60 ?_
          refine A.iastN eX5_type_61 ka47 ?_
          refine A.al0 eX5_type_62 ?_
          refine A.getR eX5_type_63 fX5_25 ko42 kr42_6 ?_
          refine A.il1 eX5_type_66 ?_
          refine A.dup2 eX5_type_67 rfl rfl ?_
          refine A.ialdN eX5_type_68 ka48 ?_
          refine A.top (show (ur σ 47 (upd (σ.1 47) (24 * t + tL x (um t)) (nI b))).1 48 t = nI (tL x (um t)) by rw [ur_n (by omega)]; exact hT.1) ?_
          refine A.iconst (v := nI 1) eX5_type_69 (by decide) ?_
          refine A.iaddN eX5_type_70 ?_
          refine A.iastN eX5_type_71 ka48 ?_
          refine A.al0 eX5_type_72 ?_
          refine A.getR eX5_type_73 fX5_25 ko42 kr42_6 ?_
          refine A.il1 eX5_type_76 ?_
          refine A.ialdN eX5_type_77 ka48 ?_
          refine A.top (show _ = nI (tL x (um t) + 1) by rw [ur_s, upd_s]) ?_
          refine B.iret eX5_type_78 ?_
          simp only [if_pos hlt] at hQ
          refine hQ _ (MI.setT bt hM (fun k a b => by rw [ur_n b, ur_n a]) (by rw [ur_s, upd_s]) (by omega) (fun i hi => ?_) (fun j hj hne => by rw [ur_s, upd_n hne, ur_n (by omega)]) (fun j hj => by rw [ur_n (by omega), ur_s, upd_n (by omega)])) (((Fm.rf σ).ro (by omega)).ro (by omega))
          rw [ur_n (by omega), ur_s]
          by_cases e : i = tL x (um t)
          · rw [e, upd_s]; simp [bb]
          · rw [upd_n (by omega)]; simp only [if_neg e]; exact hT.2.2 i (by omega)
        · refine A.bipush (v := -4) eX5_type_42 (by decide) ?_
          refine B.iret eX5_type_44 ?_
          simp only [if_neg (show ¬ tL x (um t) < lb (um t) by omega)] at hQ
          exact hQ σ hM (Fm.rf _)
    · refine A.bipush (v := -2) eX5_type_19 (by decide) ?_
      refine B.iret eX5_type_21 ?_
      simp only [if_neg (show ¬ (okt t ∧ ck b 256) from fun z => yw1 z.2)] at hQ
      exact hQ σ hM (Fm.rf _)
set_option maxRecDepth 100000 in
set_option maxHeartbeats 4000000 in
theorem aX5_wipe {G : GW} {σ : St} {K : Int32 → St → Prop} {x : XS} {t : Int32} (hM : MI x σ) (hQ : ∀ τ : St, MI (Nwipe x t) τ → Fm σ τ → K (Rwipe x t) τ) : Ci G (r0 2 45) mX5_wipe [rf G 42, .int t] σ K := by
  refine Ci.of [some (rf G 42), some (.int t), none] ?_
  unfold Rwipe Nwipe at hQ
  refine A.il1 eX5_wipe_0 ?_
  refine A.cSi1 eX5_wipe_1 oX5_isTwo kX5_96 (sX5_isTwo ?_)
  refine A.if_neB eX5_wipe_4 (fun yw0 => ?_) (fun yw0 => ?_)
  · simp only [if_pos (show okt t from okt_ck.mpr yw0)] at hQ
    obtain ⟨t, bt, rfl⟩ := i_nat yw0.1 yw0.2
    try simp only [nI_clamp (n := t) (by omega)] at hQ
    have hT := hM.1 t bt
    simp only [lu_um bt] at hQ
    have hlb : lb (um t) = if t = 0 then 23 else 17 := by
      rcases (show t = 0 ∨ t = 1 by omega) with rfl | rfl <;> rfl
    refine A.al0 eX5_wipe_10 ?_
    refine A.getR eX5_wipe_11 fX5_25 ko42 kr42_6 ?_
    refine A.il1 eX5_wipe_14 ?_
    refine A.ialdN eX5_wipe_15 ka48 ?_
    refine A.top hT.1 ?_
    refine A.is2 eX5_wipe_16 ?_
    refine A.al0 eX5_wipe_17 ?_
    refine A.getR eX5_wipe_18 fX5_25 ko42 kr42_6 ?_
    refine A.il1 eX5_wipe_21 ?_
    refine A.iconst (v := nI 0) eX5_wipe_22 (by decide) ?_
    refine A.iastN eX5_wipe_23 ka48 ?_
    refine A.il2 eX5_wipe_24 ?_
    refine B.iret eX5_wipe_25 ?_
    exact hQ _ (MI.setT bt hM (fun k a b => ur_n b) (by rw [ur_s, upd_s]) (Nat.zero_le _) (fun i hi => absurd hi (Nat.not_lt_zero _)) (fun j hj hne => by rw [ur_s, upd_n hne]) (fun j hj => by rw [ur_n (by omega)])) ((Fm.rf σ).ro (by omega))
  · refine A.bipush (v := -2) eX5_wipe_7 (by decide) ?_
    refine B.iret eX5_wipe_9 ?_
    simp only [if_neg (show ¬ (okt t) from fun z => yw0 (okt_ck.mp z))] at hQ
    exact hQ σ hM (Fm.rf _)
set_option maxRecDepth 100000 in
set_option maxHeartbeats 4000000 in
theorem aX5_undo {G : GW} {σ : St} {K : Int32 → St → Prop} {x : XS} {t : Int32} (hM : MI x σ) (hQ : ∀ τ : St, MI (Nundo x t) τ → Fm σ τ → K (Rundo x t) τ) : Ci G (r0 2 45) mX5_undo [rf G 42, .int t] σ K := by
  refine Ci.of [some (rf G 42), some (.int t)] ?_
  unfold Rundo Nundo at hQ
  refine A.il1 eX5_undo_0 ?_
  refine A.cSi1 eX5_undo_1 oX5_isTwo kX5_96 (sX5_isTwo ?_)
  refine A.if_neB eX5_undo_4 (fun yw0 => ?_) (fun yw0 => ?_)
  · simp only [if_pos (show okt t from okt_ck.mpr yw0)] at hQ
    obtain ⟨t, bt, rfl⟩ := i_nat yw0.1 yw0.2
    try simp only [nI_clamp (n := t) (by omega)] at hQ
    have hT := hM.1 t bt
    simp only [lu_um bt] at hQ
    have hlb : lb (um t) = if t = 0 then 23 else 17 := by
      rcases (show t = 0 ∨ t = 1 by omega) with rfl | rfl <;> rfl
    have hl3 := (lb_le (um t)).2.1
    have hl4 := hT.2.1
    refine A.al0 eX5_undo_10 ?_
    refine A.getR eX5_undo_11 fX5_25 ko42 kr42_6 ?_
    refine A.il1 eX5_undo_14 ?_
    refine A.ialdN eX5_undo_15 ka48 ?_
    refine A.top hT.1 ?_
    refine A.if_neN eX5_undo_16 (fun yd1 => ?_) (fun yd1 => ?_)
    · refine A.al0 eX5_undo_22 ?_
      refine A.getR eX5_undo_23 fX5_25 ko42 kr42_6 ?_
      refine A.il1 eX5_undo_26 ?_
      refine A.dup2 eX5_undo_27 rfl rfl ?_
      refine A.ialdN eX5_undo_28 ka48 ?_
      refine A.top hT.1 ?_
      refine A.iconst (v := nI 1) eX5_undo_29 (by decide) ?_
      refine A.isubN eX5_undo_30 ?_
      refine A.iastN eX5_undo_31 ka48 ?_
      refine A.al0 eX5_undo_32 ?_
      refine A.getR eX5_undo_33 fX5_25 ko42 kr42_6 ?_
      refine A.il1 eX5_undo_36 ?_
      refine A.ialdN eX5_undo_37 ka48 ?_
      refine A.top (show _ = nI (tL x (um t) - 1) by rw [ur_s, upd_s]) ?_
      refine B.iret eX5_undo_38 ?_
      simp only [if_neg yd1] at hQ
      exact hQ _ (MI.setT bt hM (fun k a b => ur_n b) (by rw [ur_s, upd_s]) (by omega) (fun i hi => by rw [ur_n (by omega)]; exact hT.2.2 i (by omega)) (fun j hj hne => by rw [ur_s, upd_n hne]) (fun j hj => by rw [ur_n (by omega)])) ((Fm.rf σ).ro (by omega))
    · refine A.bipush (v := -3) eX5_undo_19 (by decide) ?_
      refine B.iret eX5_undo_21 ?_
      simp only [if_pos yd1] at hQ
      exact hQ σ hM (Fm.rf _)
  · refine A.bipush (v := -2) eX5_undo_7 (by decide) ?_
    refine B.iret eX5_undo_9 ?_
    simp only [if_neg (show ¬ (okt t) from fun z => yw0 (okt_ck.mp z))] at hQ
    exact hQ σ hM (Fm.rf _)
set_option maxRecDepth 100000 in
set_option maxHeartbeats 4000000 in
theorem aX5_sheet {G : GW} {σ : St} {K : Int32 → St → Prop} {x : XS} {i f n : Int32} (hM : MI x σ) (hQ : ∀ τ : St, MI (Nsheet x i f n) τ → Fm σ τ → K (Rsheet x i f n) τ) : Ci G (r0 2 45) mX5_sheet [rf G 42, .int i, .int f, .int n] σ K := by
  refine Ci.of [some (rf G 42), some (.int i), some (.int f), some (.int n), none] ?_
  unfold Rsheet Nsheet at hQ
  refine A.il1 eX5_sheet_0 ?_
  refine A.cSi1 eX5_sheet_1 oX5_isSheet kX5_77 (sX5_isSheet ?_)
  refine A.if_eqB eX5_sheet_4 (fun yw0 => ?_) (fun yw0 => ?_)
  · refine A.bipush (v := -2) eX5_sheet_25 (by decide) ?_
    refine B.iret eX5_sheet_27 ?_
    simp only [if_neg (show ¬ (ck i 4 ∧ ck f 3 ∧ n.toInt ≤ 60) from fun z => yw0 z.1)] at hQ
    exact hQ σ hM (Fm.rf _)
  · refine A.il2 eX5_sheet_7 ?_
    refine A.i2l eX5_sheet_8 rfl ?_
    refine A.lconst (v := 0) eX5_sheet_9 (by decide) ?_
    refine A.ldc2 eX5_sheet_10 nX5_81 ?_
    refine A.cSi3 eX5_sheet_13 oX5_in kX5_67 (sX5_in ?_)
    refine A.top (in_ck (n := 3) (by decide)) ?_
    refine A.if_eqB eX5_sheet_16 (fun yw1 => ?_) (fun yw1 => ?_)
    · refine A.bipush (v := -2) eX5_sheet_25 (by decide) ?_
      refine B.iret eX5_sheet_27 ?_
      simp only [if_neg (show ¬ (ck i 4 ∧ ck f 3 ∧ n.toInt ≤ 60) from fun z => yw1 z.2.1)] at hQ
      exact hQ σ hM (Fm.rf _)
    · refine A.il3 eX5_sheet_19 ?_
      refine A.bipush (v := nI 60) eX5_sheet_20 (by decide) ?_
      refine A.icmp_leI eX5_sheet_22 (fun yw2 => ?_) (fun yw2 => ?_)
      · simp only [if_pos (show ck i 4 ∧ ck f 3 ∧ n.toInt ≤ 60 from ⟨yw0, yw1, by rw [nI_ti (by omega)] at yw2; exact yw2⟩)] at hQ
        obtain ⟨i, bi, rfl⟩ := i_nat yw0.1 yw0.2
        obtain ⟨f, bf, rfl⟩ := i_nat yw1.1 yw1.2
        try simp only [nI_clamp (n := i) (by omega), nI_clamp (n := f) (by omega)] at hQ
        refine A.il3 eX5_sheet_28 ?_
        refine A.if_geI eX5_sheet_29 (fun yd1 => ?_) (fun yd1 => ?_)
        · rw [nI_ti (by omega)] at yw2
          simp only [if_neg (show ¬ n.toInt < 0 by omega)] at hQ
          obtain ⟨n, bn, rfl⟩ := i_nat (n := 61) (show 0 ≤ n.toInt by omega) (by have : (60 : Nat) = 60 := rfl; omega)
          rw [nI_clamp (n := n) (by omega)] at hQ
          refine A.al0 eX5_sheet_38 ?_
          refine A.getR eX5_sheet_39 fX5_7 ko42 kr42_0 ?_
          refine A.il1 eX5_sheet_42 ?_
          refine A.il2 eX5_sheet_43 ?_
          refine A.iastN eX5_sheet_44 ka43 ?_
          refine A.al0 eX5_sheet_45 ?_
          refine A.getR eX5_sheet_46 fX5_13 ko42 kr42_1 ?_
          refine A.il1 eX5_sheet_49 ?_
          refine A.il3 eX5_sheet_50 ?_
          refine A.iastN eX5_sheet_51 ka44 ?_
          refine A.iconst (v := nI 0) eX5_sheet_52 (by decide) ?_
          refine A.is4 eX5_sheet_53 ?_
          have lp : ∀ (fu j : Nat) (ξ : St), n - j < fu → j ≤ n → (∀ k, k ≠ 45 → ξ.1 k = (ur (ur σ 43 (upd (σ.1 43) i (nI f))) 44 (upd (σ.1 44) i (nI n))).1 k) → (∀ k, (k < 60 * i ∨ 60 * i + 60 ≤ k) → ξ.1 45 k = σ.1 45 k) → (∀ k, k < j → ξ.1 45 (60 * i + k) = nI 0) → B G (r0 2 45) mX5_sheet 55 [some (rf G 42), some (.int (nI i)), some (.int (nI f)), some (.int (nI n)), some (.int (nI j))] [] (ξ) (Pi K) := by
            intro fu
            induction fu with
            | zero => intro j ξ h1 h2; omega
            | succ fu ih =>
              intro j ξ h1 h2 e1 e2 e3
              refine A.il4 eX5_sheet_55 ?_
              refine A.il3 eX5_sheet_57 ?_
              refine A.icmp_geN eX5_sheet_58 (fun c5 => ?_) (fun c5 => ?_)
              · refine A.il3 eX5_sheet_80 ?_
                refine B.iret eX5_sheet_81 ?_
                have e : j = n := by omega
                subst e
                refine hQ ξ (MI.setH hM (fun k a b c d => by rw [e1 k c, ur_n b, ur_n a]) (fun k hk => by rw [e1 43 (by omega), ur_n (by omega), ur_s, upd_n hk]) (fun k hk => by rw [e1 44 (by omega), ur_s, upd_n hk]) e2 (by rw [e1 43 (by omega), ur_n (by omega), ur_s, upd_s]; rfl) (Or.inr ⟨⟨f, rfl, bf⟩, by rw [e1 44 (by omega), ur_s, upd_s], by omega, fun k hk => e3 k hk⟩)) (fun k hk => by rw [e1 k (by omega), ur_n (by omega), ur_n (by omega)])
              · refine A.al0 eX5_sheet_61 ?_
                refine A.getR eX5_sheet_62 fX5_16 ko42 kr42_2 ?_
                refine A.bipush (v := nI 60) eX5_sheet_65 (by decide) ?_
                refine A.il1 eX5_sheet_67 ?_
                refine A.imulN eX5_sheet_68 ?_
                refine A.il4 eX5_sheet_69 ?_
                refine A.iaddN eX5_sheet_71 ?_
                refine A.iconst (v := nI 0) eX5_sheet_72 (by decide) ?_
                refine A.iastN eX5_sheet_73 ka45 ?_
                refine A.inc4N eX5_sheet_74 ?_
                refine A.goto eX5_sheet_77 ?_
                refine ih (j + 1) _ (by omega) (by omega) (fun k hk => by rw [ur_n hk]; exact e1 k hk) (fun k hk => by rw [ur_s, upd_n (by omega)]; exact e2 k hk) (fun k hk => ?_)
                rw [ur_s]
                by_cases e : k = j
                · rw [e, upd_s]
                · rw [upd_n (by omega)]; exact e3 k (by omega)
          exact lp (n + 1) 0 _ (by omega) (by omega) (fun k hk => rfl) (fun k hk => by rw [ur_n (by omega), ur_n (by omega)]) (fun k hk => by omega)
        · refine A.al0 eX5_sheet_32 ?_
          refine A.iconst (v := nI 5) eX5_sheet_33 (by decide) ?_
          refine A.cVi1 eX5_sheet_34 oX5_finds kX5_83 ko42 (sX5_finds ?_)
          refine B.iret eX5_sheet_37 ?_
          simp only [if_pos yd1] at hQ
          exact hQ _ hM.setL ((Fm.rf σ).ro (by omega))
      · refine A.bipush (v := -2) eX5_sheet_25 (by decide) ?_
        refine B.iret eX5_sheet_27 ?_
        simp only [if_neg (show ¬ (ck i 4 ∧ ck f 3 ∧ n.toInt ≤ 60) from fun z => absurd z.2.2 (by rw [nI_ti (by omega)] at yw2; omega))] at hQ
        exact hQ σ hM (Fm.rf _)
set_option maxRecDepth 100000 in
set_option maxHeartbeats 4000000 in
theorem aX5_lose {G : GW} {σ : St} {K : Int32 → St → Prop} {x : XS} {i : Int32} (hM : MI x σ) (hQ : ∀ τ : St, MI (Nlose x i) τ → Fm σ τ → K (Rlose x i) τ) : Ci G (r0 2 45) mX5_lose [rf G 42, .int i] σ K := by
  refine Ci.of [some (rf G 42), some (.int i)] ?_
  unfold Rlose Nlose at hQ
  refine A.il1 eX5_lose_0 ?_
  refine A.cSi1 eX5_lose_1 oX5_isSheet kX5_77 (sX5_isSheet ?_)
  refine A.if_neB eX5_lose_4 (fun yw0 => ?_) (fun yw0 => ?_)
  · simp only [if_pos (show ck i 4 from yw0)] at hQ
    obtain ⟨i, bi, rfl⟩ := i_nat yw0.1 yw0.2
    try simp only [nI_clamp (n := i) (by omega)] at hQ
    have hH := hM.hs bi
    have hov := ov_neg (fun g e => (hH.2.1 g e).1)
    refine A.al0 eX5_lose_10 ?_
    refine A.getR eX5_lose_11 fX5_7 ko42 kr42_0 ?_
    refine A.il1 eX5_lose_14 ?_
    refine A.ialdN eX5_lose_15 ka43 ?_
    refine A.top hH.1 ?_
    refine A.if_geI eX5_lose_16 (fun yd1 => ?_) (fun yd1 => ?_)
    · have hl : ¬ ov ((xh x).1 i) = -1 := fun z => absurd (hov.mpr z) (by omega)
      obtain ⟨g, eg0, eg1, eg2, eg⟩ := hM.sg bi hl
      simp only [if_neg hl] at hQ
      refine A.al0 eX5_lose_25 ?_
      refine A.getR eX5_lose_26 fX5_7 ko42 kr42_0 ?_
      refine A.il1 eX5_lose_29 ?_
      refine A.iconst (v := -1) eX5_lose_30 (by decide) ?_
      refine A.iastN eX5_lose_31 ka43 ?_
      refine A.al0 eX5_lose_32 ?_
      refine A.getR eX5_lose_33 fX5_13 ko42 kr42_1 ?_
      refine A.il1 eX5_lose_36 ?_
      refine A.ialdN eX5_lose_37 ka44 ?_
      refine A.top (show (ur σ 43 (upd (σ.1 43) i (-1))).1 44 i = nI (xz x i) by rw [ur_n (by omega)]; exact eg) ?_
      refine B.iret eX5_lose_38 ?_
      exact hQ _ (MI.setH hM (fun k a b c d => ur_n a) (fun k hk => by rw [ur_s, upd_n hk]) (fun k hk => by rw [ur_n (by omega)]) (fun k hk => by rw [ur_n (by omega)]) (by rw [ur_s, upd_s]; rfl) (Or.inl rfl)) ((Fm.rf σ).ro (by omega))
    · refine A.al0 eX5_lose_19 ?_
      refine A.iconst (v := nI 1) eX5_lose_20 (by decide) ?_
      refine A.cVi1 eX5_lose_21 oX5_finds kX5_83 ko42 (sX5_finds ?_)
      refine B.iret eX5_lose_24 ?_
      simp only [if_pos (hov.mp yd1)] at hQ
      exact hQ _ hM.setL ((Fm.rf σ).ro (by omega))
  · refine A.bipush (v := -2) eX5_lose_7 (by decide) ?_
    refine B.iret eX5_lose_9 ?_
    simp only [if_neg (show ¬ (ck i 4) from fun z => yw0 z)] at hQ
    exact hQ σ hM (Fm.rf _)
set_option maxRecDepth 100000 in
set_option maxHeartbeats 4000000 in
theorem sX5_lacks {G : GW} {σ : St} {K : Int32 → St → Prop} {x : XS} {i : Nat} {f j : Int32} (hM : MI x σ) (bi : i < 4) (hQ : K (lkR (fa x i f j)) (lkS σ (fa x i f j))) : Ci G (r0 1 25) mX5_lacks [rf G 42, .int (nI i), .int f, .int j] σ K := by
  refine Ci.of [some (rf G 42), some (.int (nI i)), some (.int f), some (.int j)] ?_
  have hH := hM.hs bi
  have hov := ov_neg (fun g e => (hH.2.1 g e).1)
  unfold lkR lkS fa at hQ
  refine A.al0 eX5_lacks_0 ?_
  refine A.getR eX5_lacks_1 fX5_7 ko42 kr42_0 ?_
  refine A.il1 eX5_lacks_4 ?_
  refine A.ialdN eX5_lacks_5 ka43 ?_
  refine A.top hH.1 ?_
  refine A.if_geI eX5_lacks_6 (fun yd1 => ?_) (fun yd1 => ?_)
  · have hl : ¬ ov ((xh x).1 i) = -1 := fun z => absurd (hov.mpr z) (by omega)
    obtain ⟨g, eg0, eg1, eg2, eg⟩ := hM.sg bi hl
    simp only [if_neg hl] at hQ
    refine A.al0 eX5_lacks_15 ?_
    refine A.getR eX5_lacks_16 fX5_7 ko42 kr42_0 ?_
    refine A.il1 eX5_lacks_19 ?_
    refine A.ialdN eX5_lacks_20 ka43 ?_
    refine A.top hH.1 ?_
    refine A.il2 eX5_lacks_21 ?_
    refine A.icmp_eq eX5_lacks_22 (fun yd2 => ?_) (fun yd2 => ?_)
    · refine A.il3 eX5_lacks_31 ?_
      refine A.i2l eX5_lacks_32 rfl ?_
      refine A.lconst (v := 0) eX5_lacks_33 (by decide) ?_
      refine A.al0 eX5_lacks_34 ?_
      refine A.getR eX5_lacks_35 fX5_13 ko42 kr42_1 ?_
      refine A.il1 eX5_lacks_38 ?_
      refine A.ialdN eX5_lacks_39 ka44 ?_
      refine A.top eg ?_
      refine A.iconst (v := nI 1) eX5_lacks_40 (by decide) ?_
      refine A.topZ ?_
      refine A.topZ2 ?_
      refine A.isubZ eX5_lacks_41 ?_
      refine A.i2l eX5_lacks_42 rfl ?_
      refine A.cSi3 eX5_lacks_43 oX5_in kX5_67 (sX5_in ?_)
      refine A.top (in_ckz (n := xz x i) (by omega)) ?_
      refine A.if_eqB eX5_lacks_46 (fun yd3 => ?_) (fun yd3 => ?_)
      · refine A.al0 eX5_lacks_53 ?_
        refine A.iconst (v := nI 2) eX5_lacks_54 (by decide) ?_
        refine A.cVi1 eX5_lacks_55 oX5_finds kX5_83 ko42 (sX5_finds ?_)
        refine B.iret eX5_lacks_58 ?_
        simp only [if_neg (not_not_intro yd2)] at hQ
        first
          | (simp only [if_pos yd3] at hQ; exact hQ)
          | (simp only [if_neg yd3] at hQ; exact hQ)
      · refine A.iconst (v := nI 0) eX5_lacks_49 (by decide) ?_
        refine A.goto eX5_lacks_50 ?_
        refine B.iret eX5_lacks_58 ?_
        simp only [if_neg (not_not_intro yd2)] at hQ
        first
          | (simp only [if_pos yd3] at hQ; exact hQ)
          | (simp only [if_neg yd3] at hQ; exact hQ)
    · refine A.al0 eX5_lacks_25 ?_
      refine A.iconst (v := nI 3) eX5_lacks_26 (by decide) ?_
      refine A.cVi1 eX5_lacks_27 oX5_finds kX5_83 ko42 (sX5_finds ?_)
      refine B.iret eX5_lacks_30 ?_
      simp only [if_pos yd2] at hQ
      exact hQ
  · refine A.al0 eX5_lacks_9 ?_
    refine A.iconst (v := nI 1) eX5_lacks_10 (by decide) ?_
    refine A.cVi1 eX5_lacks_11 oX5_finds kX5_83 ko42 (sX5_finds ?_)
    refine B.iret eX5_lacks_14 ?_
    simp only [if_pos (hov.mp yd1)] at hQ
    exact hQ
set_option maxRecDepth 100000 in
set_option maxHeartbeats 4000000 in
theorem aX5_lay {G : GW} {σ : St} {K : Int32 → St → Prop} {x : XS} {i f j v : Int32} (hM : MI x σ) (hQ : ∀ τ : St, MI (Nlay x i f j v) τ → Fm σ τ → K (Rlay x i f j v) τ) : Ci G (r0 2 48) mX5_lay [rf G 42, .int i, .int f, .int j, .int v] σ K := by
  refine Ci.of [some (rf G 42), some (.int i), some (.int f), some (.int j), some (.int v), none] ?_
  unfold Rlay Nlay at hQ
  refine A.il1 eX5_lay_0 ?_
  refine A.cSi1 eX5_lay_1 oX5_isSheet kX5_77 (sX5_isSheet ?_)
  refine A.if_eqB eX5_lay_4 (fun yw0 => ?_) (fun yw0 => ?_)
  · refine A.bipush (v := -2) eX5_lay_19 (by decide) ?_
    refine B.iret eX5_lay_21 ?_
    simp only [if_neg (show ¬ (ck i 4 ∧ ck f 3) from fun z => yw0 z.1)] at hQ
    exact hQ σ hM (Fm.rf _)
  · refine A.il2 eX5_lay_7 ?_
    refine A.i2l eX5_lay_8 rfl ?_
    refine A.lconst (v := 0) eX5_lay_9 (by decide) ?_
    refine A.ldc2 eX5_lay_10 nX5_81 ?_
    refine A.cSi3 eX5_lay_13 oX5_in kX5_67 (sX5_in ?_)
    refine A.top (in_ck (n := 3) (by decide)) ?_
    refine A.if_neB eX5_lay_16 (fun yw1 => ?_) (fun yw1 => ?_)
    · simp only [if_pos (show ck i 4 ∧ ck f 3 from ⟨yw0, yw1⟩)] at hQ
      obtain ⟨i, bi, rfl⟩ := i_nat yw0.1 yw0.2
      obtain ⟨f, bf, rfl⟩ := i_nat yw1.1 yw1.2
      try simp only [nI_clamp (n := i) (by omega), nI_clamp (n := f) (by omega)] at hQ
      have hH := hM.hs bi
      refine A.al0 eX5_lay_22 ?_
      refine A.il1 eX5_lay_23 ?_
      refine A.il2 eX5_lay_24 ?_
      refine A.il3 eX5_lay_25 ?_
      refine A.cVi3 eX5_lay_26 oX5_lacks kX5_87 ko42 (sX5_lacks hM bi ?_)
      refine A.is5 eX5_lay_29 ?_
      refine A.il5 eX5_lay_31 ?_
      refine A.if_eq eX5_lay_33 (fun yd1 => ?_) (fun yd1 => ?_)
      · have fz : fa x i (nI f) j = 0 := (lkR_0 _ (fa_le _ _ _ _)).mp yd1
        obtain ⟨fz1, fz2, fz3⟩ := fa_z fz
        obtain ⟨g, eg0, eg1, eg2, eg⟩ := hM.sg bi fz1
        simp only [if_pos fz] at hQ
        rw [show lkS σ (fa x i (nI f) j) = σ from if_pos fz]
        obtain ⟨j, bj, rfl⟩ := i_nat fz3.1 fz3.2
        simp only [nI_clamp (n := j) (by omega)] at hQ
        refine A.al0 eX5_lay_39 ?_
        refine A.getR eX5_lay_40 fX5_16 ko42 kr42_2 ?_
        refine A.bipush (v := nI 60) eX5_lay_43 (by decide) ?_
        refine A.il1 eX5_lay_45 ?_
        refine A.imulN eX5_lay_46 ?_
        refine A.il3 eX5_lay_47 ?_
        refine A.iaddN eX5_lay_48 ?_
        refine A.il2 eX5_lay_49 ?_
        refine A.il4 eX5_lay_50 ?_
        refine A.cSi2 eX5_lay_52 oX5_cut kX5_91 (sX5_cut ?_)
        refine A.iastN eX5_lay_55 ka45 ?_
        refine A.iconst (v := nI 1) eX5_lay_56 (by decide) ?_
        refine B.iret eX5_lay_57 ?_
        refine hQ _ (MI.setH hM (fun k a b c d => ur_n c) (fun k hk => by rw [ur_n (by omega)]) (fun k hk => by rw [ur_n (by omega)]) (fun k hk => by rw [ur_s, upd_n (by omega)]) (by rw [ur_n (by omega)]; exact hH.1) (Or.inr ⟨⟨g, eg0, eg1⟩, by rw [ur_n (by omega), ← eg2]; exact eg, by rw [← eg2]; exact hH.2.2.1, fun k hk => ?_⟩)) ((Fm.rf σ).ro (by omega))
        rw [ur_s]
        by_cases e : k = j
        · rw [e, upd_s, upd_s]
        · rw [upd_n (by omega), upd_n e]; exact hH.2.2.2 k (by omega)
      · have fz : ¬ fa x i (nI f) j = 0 := fun z => yd1 ((lkR_0 _ (fa_le _ _ _ _)).mpr z)
        simp only [if_neg fz] at hQ
        refine A.il5 eX5_lay_36 ?_
        refine B.iret eX5_lay_38 ?_
        refine vl_of (K := K) (a := lkS σ (fa x i (nI f) j)) ?_ (show lkR (fa x i (nI f) j) = fnd (fa x i (nI f) j) from if_neg fz)
        rw [show lkS σ (fa x i (nI f) j) = _ from if_neg fz]
        exact hQ _ hM.setL ((Fm.rf σ).ro (by omega))
    · refine A.bipush (v := -2) eX5_lay_19 (by decide) ?_
      refine B.iret eX5_lay_21 ?_
      simp only [if_neg (show ¬ (ck i 4 ∧ ck f 3) from fun z => yw1 z.2)] at hQ
      exact hQ σ hM (Fm.rf _)
set_option maxRecDepth 100000 in
set_option maxHeartbeats 4000000 in
theorem aX5_get {G : GW} {σ : St} {K : Int32 → St → Prop} {x : XS} {i f j : Int32} (hM : MI x σ) (hQ : ∀ τ : St, MI (Nget x i f j) τ → Fm σ τ → K (Rget x i f j) τ) : Ci G (r0 2 48) mX5_get [rf G 42, .int i, .int f, .int j] σ K := by
  refine Ci.of [some (rf G 42), some (.int i), some (.int f), some (.int j)] ?_
  unfold Rget Nget at hQ
  refine A.il1 eX5_get_0 ?_
  refine A.cSi1 eX5_get_1 oX5_isSheet kX5_77 (sX5_isSheet ?_)
  refine A.if_eqB eX5_get_4 (fun yw0 => ?_) (fun yw0 => ?_)
  · refine A.ldc eX5_get_29 nX5_95 ?_
    refine B.iret eX5_get_31 ?_
    simp only [if_neg (show ¬ (ck i 4 ∧ ck f 3) from fun z => yw0 z.1)] at hQ
    exact hQ σ hM (Fm.rf _)
  · refine A.il2 eX5_get_7 ?_
    refine A.i2l eX5_get_8 rfl ?_
    refine A.lconst (v := 0) eX5_get_9 (by decide) ?_
    refine A.ldc2 eX5_get_10 nX5_81 ?_
    refine A.cSi3 eX5_get_13 oX5_in kX5_67 (sX5_in ?_)
    refine A.top (in_ck (n := 3) (by decide)) ?_
    refine A.if_eqB eX5_get_16 (fun yw1 => ?_) (fun yw1 => ?_)
    · refine A.ldc eX5_get_29 nX5_95 ?_
      refine B.iret eX5_get_31 ?_
      simp only [if_neg (show ¬ (ck i 4 ∧ ck f 3) from fun z => yw1 z.2)] at hQ
      exact hQ σ hM (Fm.rf _)
    · simp only [if_pos (show ck i 4 ∧ ck f 3 from ⟨yw0, yw1⟩)] at hQ
      obtain ⟨i, bi, rfl⟩ := i_nat yw0.1 yw0.2
      obtain ⟨f, bf, rfl⟩ := i_nat yw1.1 yw1.2
      try simp only [nI_clamp (n := i) (by omega), nI_clamp (n := f) (by omega)] at hQ
      have hH := hM.hs bi
      refine A.al0 eX5_get_19 ?_
      refine A.il1 eX5_get_20 ?_
      refine A.il2 eX5_get_21 ?_
      refine A.il3 eX5_get_22 ?_
      refine A.cVi3 eX5_get_23 oX5_lacks kX5_87 ko42 (sX5_lacks hM bi ?_)
      refine A.if_eq eX5_get_26 (fun yd1 => ?_) (fun yd1 => ?_)
      · have fz : fa x i (nI f) j = 0 := (lkR_0 _ (fa_le _ _ _ _)).mp yd1
        obtain ⟨fz1, fz2, fz3⟩ := fa_z fz
        obtain ⟨g, eg0, eg1, eg2, eg⟩ := hM.sg bi fz1
        simp only [if_pos fz] at hQ
        rw [show lkS σ (fa x i (nI f) j) = σ from if_pos fz]
        obtain ⟨j, bj, rfl⟩ := i_nat fz3.1 fz3.2
        simp only [nI_clamp (n := j) (by omega)] at hQ
        refine A.al0 eX5_get_32 ?_
        refine A.getR eX5_get_33 fX5_16 ko42 kr42_2 ?_
        refine A.bipush (v := nI 60) eX5_get_36 (by decide) ?_
        refine A.il1 eX5_get_38 ?_
        refine A.imulN eX5_get_39 ?_
        refine A.il3 eX5_get_40 ?_
        refine A.iaddN eX5_get_41 ?_
        refine A.ialdN eX5_get_42 ka45 ?_
        refine A.top (hH.2.2.2 j bj) ?_
        refine B.iret eX5_get_43 ?_
        exact hQ σ hM (Fm.rf _)
      · refine A.ldc eX5_get_29 nX5_95 ?_
        refine B.iret eX5_get_31 ?_
        have fz : ¬ fa x i (nI f) j = 0 := fun z => yd1 ((lkR_0 _ (fa_le _ _ _ _)).mpr z)
        simp only [if_neg fz] at hQ
        rw [show lkS σ (fa x i (nI f) j) = _ from if_neg fz]
        exact hQ _ hM.setL ((Fm.rf σ).ro (by omega))
