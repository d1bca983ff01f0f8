theorem ck_n {n m : Nat} (h : n < 2147483648) : ck (nI n) m ↔ n < m := by
  unfold ck
  rw [nI_ti h]
  omega
theorem tlf_cg {gh gp gq gh' gp' gq' : Nat → Nat} : ∀ {n : Nat}, (∀ k, k < n → gh k = gh' k ∧ gp k = gp' k ∧ gq k = gq' k) → ∀ h p, tlf gh gp gq n h p = tlf gh' gp' gq' n h p := by
  intro n
  induction n with
  | zero => intro _ h p; rfl
  | succ n ih =>
    intro hk h p
    rw [tlf_s, tlf_s, ih (fun k h' => hk k (by omega)) h p, (hk n (by omega)).1, (hk n (by omega)).2.1, (hk n (by omega)).2.2]
theorem plf_cg {T T' : Nat → Nat → Int32} {nq h : Nat} (e : ∀ g, g ≤ h → ∀ p, T g p = T' g p) : plf T nq h = plf T' nq h := by
  funext p
  unfold plf
  rw [wq_cg (T := T) (T' := T') (fun g hg => e g (by omega) p)]
theorem brf_cg {kd : Nat → Nat} {a a' : Nat → Nat → Int32} {b0 : Nat → Nat} {np H : Nat} (e : ∀ h, h < H → a h = a' h) : ∀ h, h ≤ H → brf kd a b0 np h = brf kd a' b0 np h := by
  intro h
  induction h with
  | zero => intro _; rfl
  | succ h ih =>
    intro hh
    funext p
    show nxp kd (a h) (brf kd a b0 np h) np p = nxp kd (a' h) (brf kd a' b0 np h) np p
    rw [e h (by omega), ih (by omega)]
theorem LV.cg {σ : St} {np nq : Nat} {a a' : Nat → Nat → Int32} {b0 kd : Nat → Nat} (e : ∀ h, h < 24 → a h = a' h) (h : LV σ np nq a (brf kd a b0 np)) : LV σ np nq a' (brf kd a' b0 np) := by
  intro g hg
  rw [← e g hg, ← brf_cg (kd := kd) (b0 := b0) (np := np) e g (by omega)]
  exact h g hg
theorem lvG {G : GW} {σ : St} {K : St → Prop} {x : XS} {b0 : Nat → Nat} (hM : MI x σ) (hR : RX x σ) (hb : ∀ p, p < xp x → σ.1 54 p = nI (b0 p) ∧ b0 p ≤ 9) (hQ : ∀ τ : St, Fz σ τ → LV τ (xp x) (xq x) (xa x) (bT x (xT x) b0) → K τ) : Cv G (r0 3 72) mX5_lives [rf G 42, .int (nI (xg x).1)] σ K :=
  sX5_lives (np := xp x) (nq := xq x) (kd := xk x) hR.1 hM.np8 hR.2.1 hM.nq6 (by have := hM.2.1.2.1; omega) hM.2.1.2.2 hb (fun p hp => ⟨(hR.2.2.1 p hp).2, xk_le p⟩) hQ
theorem lvT {G : GW} {σ : St} {K : St → Prop} {x : XS} {b0 : Nat → Nat} {n : Nat} {gh gp gq : Nat → Nat} {T : Nat → Nat → Int32} (hM : MI x σ) (hR : RX x σ) (hn : n ≤ 44) (hG : M3 σ 51 n 24 8 6 gh gp gq) (hT : ∀ h, h < 24 → ∀ p, tlf gh gp gq n h p = T h p) (hb : ∀ p, p < xp x → σ.1 54 p = nI (b0 p) ∧ b0 p ≤ 9) (hQ : ∀ τ : St, Fz σ τ → LV τ (xp x) (xq x) (aT x T) (bT x T b0) → K τ) : Cv G (r0 3 72) mX5_lives [rf G 42, .int (nI n)] σ K :=
  sX5_lives (np := xp x) (nq := xq x) (kd := xk x) hR.1 hM.np8 hR.2.1 hM.nq6 hn hG hb (fun p hp => ⟨(hR.2.2.1 p hp).2, xk_le p⟩) (fun τ h1 h2 => hQ τ h1 (LV.cg (a := fun h p => plf (tlf gh gp gq n) (xq x) h p) (a' := aT x T) (fun h hh => plf_cg (fun g hg p => hT g (by omega) p)) h2))
theorem Fz.rx {x : XS} {σ τ : St} (h : Fz σ τ) (hR : RX x σ) : RX x τ := RX.cg (h.1 49 (by omega) (by omega) (by omega)) (h.1 50 (by omega) (by omega) (by omega)) hR
def WM (x : XS) (σ τ : St) : Prop := Fq (xg x).1 σ τ ∧ RX x τ
theorem WM.tz {x : XS} {σ τ ρ : St} (h : WM x σ τ) (hF : Fz τ ρ) : WM x σ ρ := ⟨h.1.tr hF.fq, hF.rx h.2⟩
set_option maxRecDepth 100000 in
set_option maxHeartbeats 4000000 in
theorem aX5_keep {G : GW} {σ : St} {K : Int32 → St → Prop} {x : XS} {q h v w : Int32} (hM : MI x σ) (hQ : ∀ τ : St, MI (x) τ → Fm σ τ → K (Rkeep x q h v w) τ) : Ci G (r0 5 115) mX5_keep [rf G 42, .int q, .int h, .int v, .int w] σ K := by
  refine Ci.of [some (rf G 42), some (.int q), some (.int h), some (.int v), some (.int w)] ?_
  unfold Rkeep at hQ
  have n8 := hM.np8
  have q6 := hM.nq6
  refine A.al0 eX5_keep_0 ?_
  refine A.cVv0 eX5_keep_1 oX5_find kX5_175 ko42 (sX5_find hM (fun τ g1 g2 => ?_))
  refine A.al0 eX5_keep_4 ?_
  refine A.il1 eX5_keep_5 ?_
  refine A.cVi1 eX5_keep_6 oX5_isPlace kX5_130 ko42 (sX5_isPlace (n := xq x) g1.2.1.2.1 (by omega) ?_)
  refine A.if_eqB eX5_keep_9 (fun yw_q => ?_) (fun yw_q => ?_)
  · refine A.bipush (v := -2) eX5_keep_54 (by decide) ?_
    refine B.iret eX5_keep_56 ?_
    simp only [if_neg (show ¬ (ck q (xq x) ∧ ck h 24 ∧ ck v 10 ∧ ck w 2) from fun z => yw_q z.1)] at hQ
    exact hQ τ g1.1 g2
  · refine A.il2 eX5_keep_12 ?_
    refine A.cSi1 eX5_keep_13 oX5_isHour kX5_133 (sX5_isHour ?_)
    refine A.if_eqB eX5_keep_16 (fun yw_h => ?_) (fun yw_h => ?_)
    · refine A.bipush (v := -2) eX5_keep_54 (by decide) ?_
      refine B.iret eX5_keep_56 ?_
      simp only [if_neg (show ¬ (ck q (xq x) ∧ ck h 24 ∧ ck v 10 ∧ ck w 2) from fun z => yw_h z.2.1)] at hQ
      exact hQ τ g1.1 g2
    · refine A.il3 eX5_keep_19 ?_
      refine A.i2l eX5_keep_20 rfl ?_
      refine A.lconst (v := 0) eX5_keep_21 (by decide) ?_
      refine A.ldc2 eX5_keep_22 nX5_107 ?_
      refine A.cSi3 eX5_keep_25 oX5_in kX5_67 (sX5_in ?_)
      refine A.top (in_ck (n := 10) (by decide)) ?_
      refine A.if_eqB eX5_keep_28 (fun yw_v => ?_) (fun yw_v => ?_)
      · refine A.bipush (v := -2) eX5_keep_54 (by decide) ?_
        refine B.iret eX5_keep_56 ?_
        simp only [if_neg (show ¬ (ck q (xq x) ∧ ck h 24 ∧ ck v 10 ∧ ck w 2) from fun z => yw_v z.2.2.1)] at hQ
        exact hQ τ g1.1 g2
      · refine A.il4 eX5_keep_31 ?_
        refine A.cSi1 eX5_keep_33 oX5_isTwo kX5_96 (sX5_isTwo ?_)
        refine A.if_eqB eX5_keep_36 (fun yw_w => ?_) (fun yw_w => ?_)
        · refine A.bipush (v := -2) eX5_keep_54 (by decide) ?_
          refine B.iret eX5_keep_56 ?_
          simp only [if_neg (show ¬ (ck q (xq x) ∧ ck h 24 ∧ ck v 10 ∧ ck w 2) from fun z => yw_w z.2.2.2)] at hQ
          exact hQ τ g1.1 g2
        · simp only [if_pos (show ck q (xq x) ∧ ck h 24 ∧ ck v 10 ∧ ck w 2 from ⟨yw_q, yw_h, yw_v, yw_w⟩)] at hQ
          obtain ⟨q, bq, rfl⟩ := i_nat yw_q.1 yw_q.2
          obtain ⟨h, bh, rfl⟩ := i_nat yw_h.1 yw_h.2
          obtain ⟨v, bv, rfl⟩ := i_nat yw_v.1 yw_v.2
          obtain ⟨w, bw, rfl⟩ := i_nat yw_w.1 yw_w.2
          try simp only [nI_clamp (n := q) (by omega), nI_clamp (n := h) (by omega), nI_clamp (n := v) (by omega), nI_clamp (n := w) (by omega)] at hQ
          refine A.al0 eX5_keep_39 ?_
          refine A.il1 eX5_keep_40 ?_
          refine A.il2 eX5_keep_41 ?_
          refine A.il3 eX5_keep_42 ?_
          refine A.cVi3 eX5_keep_43 oX5_keepOf kX5_220 ko42 (sX5_keepOf g1 bh bv ?_)
          refine A.il4 eX5_keep_46 ?_
          refine A.cSi2 eX5_keep_48 oX5_told kX5_218 (sX5_told (fun m em => by have := bst_lt em; have := crx_lt (x := x) (h := h) (q := q) n8; omega) bw ?_)
          refine A.goto eX5_keep_51 ?_
          refine B.iret eX5_keep_56 ?_
          exact hQ τ g1.1 g2
set_option maxRecDepth 100000 in
set_option maxHeartbeats 4000000 in
theorem sX5_isSeen {G : GW} {σ : St} {K : Int32 → St → Prop} {x : XS} {b : Nat → Nat → Nat} (hS : MS x σ) (hnp : σ.1 49 0 = nI (xp x)) (n8 : xp x ≤ 8) (hL : ∀ h p, h < 24 → p < xp x → σ.1 53 (8 * h + p) = nI (b h p) ∧ b h p ≤ 9) (hQ : K (bI (alls (fun k => decide ((xs x).2.2.1 k < xp x) && decide (b ((xs x).2.1 k) ((xs x).2.2.1 k) = (xs x).2.2.2 k)) (xs x).1 = true)) σ) : Ci G (r0 2 46) mX5_isSeen [rf G 42] σ K := by
  refine Ci.of [some (rf G 42), none, none] ?_
  have s8 := hS.2.1
  refine A.iconst (v := nI 1) eX5_isSeen_0 (by decide) ?_
  refine A.is1 eX5_isSeen_1 ?_
  refine A.iconst (v := nI 0) eX5_isSeen_2 (by decide) ?_
  refine A.is2 eX5_isSeen_3 ?_
  have lp : ∀ (fu i : Nat), (xs x).1 - i < fu → i ≤ (xs x).1 → B G (r0 2 46) mX5_isSeen 4 [some (rf G 42), some (.int (bI (alls (fun k => decide ((xs x).2.2.1 k < xp x) && decide (b ((xs x).2.1 k) ((xs x).2.2.1 k) = (xs x).2.2.2 k)) i = true))), some (.int (nI i))] [] (σ) (Pi K) := by
    intro fu
    induction fu with
    | zero => intro i  h1 h2; omega
    | succ fu ih =>
      intro i  h1 h2 
      refine A.il2 eX5_isSeen_4 ?_
      refine A.al0 eX5_isSeen_5 ?_
      refine A.getI eX5_isSeen_6 fX5_232 ko42 ?_
      refine A.top hS.1 ?_
      refine A.icmp_geN eX5_isSeen_9 (fun c1 => ?_) (fun c1 => ?_)
      · refine A.il1 eX5_isSeen_85 ?_
        refine B.zret eX5_isSeen_86 (bI_01 _) ?_
        have e : i = (xs x).1 := by omega
        rw [e]
        exact hQ
      · refine A.il1 eX5_isSeen_12 ?_
        refine A.if_eqB eX5_isSeen_13 (fun yd1 => ?_) (fun yd1 => ?_)
        · refine A.iconst (v := nI 0) eX5_isSeen_77 (by decide) ?_
          refine A.is1 eX5_isSeen_78 ?_
          refine A.inc2N eX5_isSeen_79 ?_
          refine A.goto eX5_isSeen_82 ?_
          have yq : ¬ alls (fun k => decide ((xs x).2.2.1 k < xp x) && decide (b ((xs x).2.1 k) ((xs x).2.2.1 k) = (xs x).2.2.2 k)) (i + 1) = true := by simp [alls, yd1]
          exact A.eq (by rw [bI_f yq]; rfl) rfl rfl (ih (i + 1) (by omega) (by omega))
        · have hk := hS.2.2 i (by omega)
          have hk1 := hk.1.2
          have hk2 := hk.2.1.2
          have hk3 := hk.2.2.2
          refine A.al0 eX5_isSeen_16 ?_
          refine A.al0 eX5_isSeen_17 ?_
          refine A.getR eX5_isSeen_18 fX5_55 ko42 kr42_19 ?_
          refine A.iconst (v := nI 3) eX5_isSeen_21 (by decide) ?_
          refine A.il2 eX5_isSeen_22 ?_
          refine A.imulN eX5_isSeen_23 ?_
          refine A.iconst (v := nI 1) eX5_isSeen_24 (by decide) ?_
          refine A.iaddN eX5_isSeen_25 ?_
          refine A.ialdN eX5_isSeen_26 ka58 ?_
          refine A.top hk.2.1.1 ?_
          refine A.cVi1 eX5_isSeen_27 oX5_isPerson kX5_127 ko42 (sX5_isPerson (n := xp x) hnp n8 ?_)
          refine A.top (bI_congr (ck_n (by omega))) ?_
          refine A.if_eqB eX5_isSeen_30 (fun yd2 => ?_) (fun yd2 => ?_)
          · refine A.iconst (v := nI 0) eX5_isSeen_77 (by decide) ?_
            refine A.is1 eX5_isSeen_78 ?_
            refine A.inc2N eX5_isSeen_79 ?_
            refine A.goto eX5_isSeen_82 ?_
            have yq : ¬ alls (fun k => decide ((xs x).2.2.1 k < xp x) && decide (b ((xs x).2.1 k) ((xs x).2.2.1 k) = (xs x).2.2.2 k)) (i + 1) = true := by simp [alls, yd1, yd2]
            exact A.eq (by rw [bI_f yq]; rfl) rfl rfl (ih (i + 1) (by omega) (by omega))
          · refine A.al0 eX5_isSeen_33 ?_
            refine A.getR eX5_isSeen_34 fX5_40 ko42 kr42_13 ?_
            refine A.bipush (v := nI 8) eX5_isSeen_37 (by decide) ?_
            refine A.al0 eX5_isSeen_39 ?_
            refine A.getR eX5_isSeen_40 fX5_55 ko42 kr42_19 ?_
            refine A.iconst (v := nI 3) eX5_isSeen_43 (by decide) ?_
            refine A.il2 eX5_isSeen_44 ?_
            refine A.imulN eX5_isSeen_45 ?_
            refine A.ialdN eX5_isSeen_46 ka58 ?_
            refine A.top hk.1.1 ?_
            refine A.imulN eX5_isSeen_47 ?_
            refine A.al0 eX5_isSeen_48 ?_
            refine A.getR eX5_isSeen_49 fX5_55 ko42 kr42_19 ?_
            refine A.iconst (v := nI 3) eX5_isSeen_52 (by decide) ?_
            refine A.il2 eX5_isSeen_53 ?_
            refine A.imulN eX5_isSeen_54 ?_
            refine A.iconst (v := nI 1) eX5_isSeen_55 (by decide) ?_
            refine A.iaddN eX5_isSeen_56 ?_
            refine A.ialdN eX5_isSeen_57 ka58 ?_
            refine A.top hk.2.1.1 ?_
            refine A.iaddN eX5_isSeen_58 ?_
            refine A.ialdN eX5_isSeen_59 ka53 ?_
            refine A.top (hL _ _ hk.1.2 yd2).1 ?_
            have hb9 := (hL _ _ hk.1.2 yd2).2
            refine A.al0 eX5_isSeen_60 ?_
            refine A.getR eX5_isSeen_61 fX5_55 ko42 kr42_19 ?_
            refine A.iconst (v := nI 3) eX5_isSeen_64 (by decide) ?_
            refine A.il2 eX5_isSeen_65 ?_
            refine A.imulN eX5_isSeen_66 ?_
            refine A.iconst (v := nI 2) eX5_isSeen_67 (by decide) ?_
            refine A.iaddN eX5_isSeen_68 ?_
            refine A.ialdN eX5_isSeen_69 ka58 ?_
            refine A.top hk.2.2.1 ?_
            refine A.icmp_neN eX5_isSeen_70 (fun yd3 => ?_) (fun yd3 => ?_)
            · refine A.iconst (v := nI 0) eX5_isSeen_77 (by decide) ?_
              refine A.is1 eX5_isSeen_78 ?_
              refine A.inc2N eX5_isSeen_79 ?_
              refine A.goto eX5_isSeen_82 ?_
              have yq : ¬ alls (fun k => decide ((xs x).2.2.1 k < xp x) && decide (b ((xs x).2.1 k) ((xs x).2.2.1 k) = (xs x).2.2.2 k)) (i + 1) = true := by simp [alls, yd1, yd2, yd3]
              exact A.eq (by rw [bI_f yq]; rfl) rfl rfl (ih (i + 1) (by omega) (by omega))
            · refine A.iconst (v := nI 1) eX5_isSeen_73 (by decide) ?_
              refine A.goto eX5_isSeen_74 ?_
              refine A.is1 eX5_isSeen_78 ?_
              refine A.inc2N eX5_isSeen_79 ?_
              refine A.goto eX5_isSeen_82 ?_
              have yq : alls (fun k => decide ((xs x).2.2.1 k < xp x) && decide (b ((xs x).2.1 k) ((xs x).2.2.1 k) = (xs x).2.2.2 k)) (i + 1) = true := by simp [alls, yd1, yd2, yd3]
              exact A.eq (by rw [bI_t yq]; rfl) rfl rfl (ih (i + 1) (by omega) (by omega))
  exact A.eq (by rw [bI_t (show alls (fun k => decide ((xs x).2.2.1 k < xp x) && decide (b ((xs x).2.1 k) ((xs x).2.2.1 k) = (xs x).2.2.2 k)) 0 = true from rfl)]; rfl) rfl rfl (lp ((xs x).1 + 1) 0 (by omega) (by omega))
set_option maxRecDepth 100000 in
set_option maxHeartbeats 4000000 in
theorem sX5_mayOf {G : GW} {σ : St} {K : Int32 → St → Prop} {x : XS} {p : Nat} (hF : FM x σ) (bp : p < xp x) (hQ : ∀ τ : St, FM x τ → Fq (xg x).1 σ τ → K (Vmay x p) τ) : Ci G (r0 4 95) mX5_mayOf [rf G 42, .int (nI p)] σ K := by
  refine Ci.of [some (rf G 42), some (.int (nI p)), none, none] ?_
  have n8 := hF.np8
  have q6 := hF.nq6
  have g20 := hF.1.2.1.2.1
  refine A.iconst (v := nI 0) eX5_mayOf_0 (by decide) ?_
  refine A.is2 eX5_mayOf_1 ?_
  refine A.iconst (v := nI 0) eX5_mayOf_2 (by decide) ?_
  refine A.is3 eX5_mayOf_3 ?_
  have lp : ∀ (fu i : Nat) (ξ : St), 10 - i < fu → i ≤ 10 → WM x σ ξ → (∀ q, q < xp x → q ≠ p → ξ.1 54 q = nI (xb x q)) → B G (r0 4 95) mX5_mayOf 4 [some (rf G 42), some (.int (nI p)), some (.int (nI (bits (mayx x p) i))), some (.int (nI i))] [] (ξ) (Pi K) := by
    intro fu
    induction fu with
    | zero => intro i ξ h1 h2; omega
    | succ fu ih =>
      intro i ξ h1 h2 e1 e2
      refine A.il3 eX5_mayOf_4 ?_
      refine A.bipush (v := nI 10) eX5_mayOf_5 (by decide) ?_
      refine A.icmp_geN eX5_mayOf_7 (fun c1 => ?_) (fun c1 => ?_)
      · refine A.al0 eX5_mayOf_48 ?_
        refine A.cVv0 eX5_mayOf_49 oX5_plain kX5_168 ko42 (sX5_plain (np := xp x) (b := xb x) e1.2.1 n8 (fun p hp => (e1.2.2.2.1 p hp).1) (fun ρ p1 p2 p3 => ?_))
        have pf : Fq (xg x).1 ξ ρ := by
          refine ⟨fun k hk => p1 k (by omega), fun k hk => ?_, fun j _ => by rw [p1 42 (by omega)], fun j _ => by rw [p1 51 (by omega)]⟩
          simp only [List.mem_cons, List.not_mem_nil, or_false] at hk
          exact p1 k (by omega)
        have px : RX x ρ := RX.cg (p1 49 (by omega)) (p1 50 (by omega)) e1.2
        have pm := (hF.1.cg e1.1).cg pf
        refine A.al0 eX5_mayOf_52 ?_
        refine A.al0 eX5_mayOf_53 ?_
        refine A.getI eX5_mayOf_54 fX5_142 ko42 ?_
        refine A.top pm.2.1.1 ?_
        refine A.cVv1 eX5_mayOf_57 oX5_lives kX5_171 ko42 (lvG (b0 := xb x) pm px (fun p hp => ⟨p3 p hp, xb_le hp⟩) (fun τ r1 r2 => ?_))
        refine A.il2 eX5_mayOf_60 ?_
        refine B.iret eX5_mayOf_61 ?_
        have e : i = 10 := by omega
        subst e
        exact hQ τ (FM.mv hF ((e1.1.tr pf).tr r1.fq) (r1.rx px) (fun p hp => by rw [r1.1 54 (by omega) (by omega) (by omega)]; exact p3 p hp) r2) ((e1.1.tr pf).tr r1.fq)
      · refine A.al0 eX5_mayOf_10 ?_
        refine A.getR eX5_mayOf_11 fX5_43 ko42 kr42_14 ?_
        refine A.il1 eX5_mayOf_14 ?_
        refine A.il3 eX5_mayOf_15 ?_
        refine A.iastN eX5_mayOf_16 ka54 ?_
        have hv1 : Fq (xg x).1 ξ (ur ξ 54 (upd (ξ.1 54) p (nI i))) := (Fq.rf _ ξ).ro (by decide)
        have hv2 := (hF.1.cg e1.1).cg hv1
        have hvx : RX x (ur ξ 54 (upd (ξ.1 54) p (nI i))) := RX.cg (ur_n (by omega)) (ur_n (by omega)) e1.2
        refine A.al0 eX5_mayOf_17 ?_
        refine A.al0 eX5_mayOf_18 ?_
        refine A.getI eX5_mayOf_19 fX5_142 ko42 ?_
        refine A.top hv2.2.1.1 ?_
        refine A.cVv1 eX5_mayOf_22 oX5_lives kX5_171 ko42 (lvG (b0 := b0v x p i) hv2 hvx (fun q hq => by
      rw [ur_s]
      unfold b0v
      by_cases e : q = p
      · rw [e, upd_s, if_pos rfl]; exact ⟨rfl, by omega⟩
      · rw [upd_n e, if_neg e]; exact ⟨e2 q hq e, xb_le hq⟩) (fun τ r1 r2 => ?_))
        refine A.il2 eX5_mayOf_25 ?_
        refine A.al0 eX5_mayOf_26 ?_
        refine A.cVi0 eX5_mayOf_27 oX5_isSeen kX5_238 ko42 (sX5_isSeen (x := x) (b := bT x (xT x) (b0v x p i)) (hv2.cg r1.fq).2.2.1 (r1.rx hvx).1 n8 (fun h q hh hq => ⟨((r2 h hh).1 q hq).2.1, ((r2 h hh).1 q hq).2.2⟩) ?_)
        refine A.top (show _ = bI (mayx x p i = true) from rfl) ?_
        refine A.if_eqB eX5_mayOf_30 (fun yd1 => ?_) (fun yd1 => ?_)
        · refine A.iconst (v := nI 0) eX5_mayOf_39 (by decide) ?_
          refine A.iorN eX5_mayOf_40 ?_
          refine A.is2 eX5_mayOf_41 ?_
          refine A.inc3N eX5_mayOf_42 ?_
          refine A.goto eX5_mayOf_45 ?_
          refine A.eq (by simp [bits, yd1]) rfl rfl (ih (i + 1) τ (by omega) (by omega) (WM.tz ⟨e1.1.tr hv1, hvx⟩ r1) (fun q hq hne => ?_))
          rw [r1.1 54 (by omega) (by omega) (by omega), ur_s, upd_n hne]
          exact e2 q hq hne
        · refine A.iconst (v := nI 1) eX5_mayOf_33 (by decide) ?_
          refine A.il3 eX5_mayOf_34 ?_
          refine A.ishl1 eX5_mayOf_35 ?_
          refine A.goto eX5_mayOf_36 ?_
          refine A.iorN eX5_mayOf_40 ?_
          refine A.is2 eX5_mayOf_41 ?_
          refine A.inc3N eX5_mayOf_42 ?_
          refine A.goto eX5_mayOf_45 ?_
          refine A.eq (by simp [bits, yd1]) rfl rfl (ih (i + 1) τ (by omega) (by omega) (WM.tz ⟨e1.1.tr hv1, hvx⟩ r1) (fun q hq hne => ?_))
          rw [r1.1 54 (by omega) (by omega) (by omega), ur_s, upd_n hne]
          exact e2 q hq hne
  exact lp 11 0 σ (by omega) (by omega) ⟨Fq.rf _ _, hF.2.1⟩ (fun q hq _ => hF.2.2.1 q hq)
set_option maxRecDepth 100000 in
set_option maxHeartbeats 4000000 in
theorem aX5_may {G : GW} {σ : St} {K : Int32 → St → Prop} {x : XS} {p : Int32} (hM : MI x σ) (hQ : ∀ τ : St, MI (x) τ → Fm σ τ → K (Rmay x p) τ) : Ci G (r0 5 118) mX5_may [rf G 42, .int p] σ K := by
  refine Ci.of [some (rf G 42), some (.int p)] ?_
  unfold Rmay at hQ
  have n8 := hM.np8
  have q6 := hM.nq6
  refine A.al0 eX5_may_0 ?_
  refine A.cVv0 eX5_may_1 oX5_find kX5_175 ko42 (sX5_find hM (fun τ g1 g2 => ?_))
  refine A.al0 eX5_may_4 ?_
  refine A.il1 eX5_may_5 ?_
  refine A.cVi1 eX5_may_6 oX5_isPerson kX5_127 ko42 (sX5_isPerson (n := xp x) g1.2.1.1 (by omega) ?_)
  refine A.if_eqB eX5_may_9 (fun yw_p => ?_) (fun yw_p => ?_)
  · refine A.bipush (v := -2) eX5_may_20 (by decide) ?_
    refine B.iret eX5_may_22 ?_
    simp only [if_neg (show ¬ (ck p (xp x)) from fun z => yw_p z)] at hQ
    exact hQ τ g1.1 g2
  · simp only [if_pos (show ck p (xp x) from yw_p)] at hQ
    obtain ⟨p, bp, rfl⟩ := i_nat yw_p.1 yw_p.2
    try simp only [nI_clamp (n := p) (by omega)] at hQ
    refine A.al0 eX5_may_12 ?_
    refine A.il1 eX5_may_13 ?_
    refine A.cVi1 eX5_may_14 oX5_mayOf kX5_242 ko42 (sX5_mayOf g1 bp (fun τ3 g3 g4 => ?_))
    refine A.goto eX5_may_17 ?_
    refine B.iret eX5_may_22 ?_
    exact hQ τ3 g3.1 (g2.tr g4.1)
set_option maxRecDepth 100000 in
set_option maxHeartbeats 4000000 in
theorem sX5_hidNow {G : GW} {σ : St} {K : Int32 → St → Prop} {x : XS} (hF : FM x σ) (hQ : K (Vhid x) σ) : Ci G (r0 0 0) mX5_hidNow [rf G 42] σ K := by
  refine Ci.of [some (rf G 42), none, none, none, none] ?_
  have n8 := hF.np8
  have q6 := hF.nq6
  have f8 := hF.1.2.2.2.1.2.1
  refine A.iconst (v := nI 0) eX5_hidNow_0 (by decide) ?_
  refine A.is1 eX5_hidNow_1 ?_
  refine A.iconst (v := nI 0) eX5_hidNow_2 (by decide) ?_
  refine A.is2 eX5_hidNow_3 ?_
  have lo : ∀ (fu p : Nat), xp x - p < fu → p ≤ xp x → B G (r0 0 0) mX5_hidNow 4 [some (rf G 42), some (.int (nI (bits (hidx x) p))), some (.int (nI p)), none, none] [] (σ) (Pi K) := by
    intro fu
    induction fu with
    | zero => intro p  h1 h2; omega
    | succ fu iho =>
      intro p  h1 h2 
      refine A.il2 eX5_hidNow_4 ?_
      refine A.al0 eX5_hidNow_5 ?_
      refine A.getR eX5_hidNow_6 fX5_28 ko42 kr42_8 ?_
      refine A.iconst (v := nI 0) eX5_hidNow_9 (by decide) ?_
      refine A.ialdN eX5_hidNow_10 ka49 ?_
      refine A.top hF.2.1.1 ?_
      refine A.icmp_geN eX5_hidNow_11 (fun c1 => ?_) (fun c1 => ?_)
      · refine A.il1 eX5_hidNow_125 ?_
        refine B.iret eX5_hidNow_126 ?_
        have e : p = xp x := by omega
        subst e
        exact hQ
      · refine A.iconst (v := nI 1) eX5_hidNow_14 (by decide) ?_
        refine A.is3 eX5_hidNow_15 ?_
        refine A.iconst (v := nI 0) eX5_hidNow_16 (by decide) ?_
        refine A.is4 eX5_hidNow_17 ?_
        have lp : ∀ (fu i : Nat), (xf x).1 - i < fu → i ≤ (xf x).1 → B G (r0 0 0) mX5_hidNow 19 [some (rf G 42), some (.int (nI (bits (hidx x) p))), some (.int (nI p)), some (.int (bI (alls (fun k => decide (xa x ((xf x).2.1 k) p = nI ((xf x).2.2.1 k)) == decide ((xf x).2.2.2 k = 1)) i = true))), some (.int (nI i))] [] (σ) (Pi K) := by
          intro fu
          induction fu with
          | zero => intro i  h1 h2; omega
          | succ fu ih =>
            intro i  h1 h2 
            refine A.il4 eX5_hidNow_19 ?_
            refine A.al0 eX5_hidNow_21 ?_
            refine A.getI eX5_hidNow_22 fX5_235 ko42 ?_
            refine A.top hF.1.2.2.2.1.1 ?_
            refine A.icmp_geN eX5_hidNow_25 (fun c2 => ?_) (fun c2 => ?_)
            · have ei : i = (xf x).1 := by omega
              subst ei
              refine A.il1 eX5_hidNow_105 ?_
              refine A.il3 eX5_hidNow_106 ?_
              refine A.if_eqB eX5_hidNow_107 (fun yd4 => ?_) (fun yd4 => ?_)
              · refine A.iconst (v := nI 0) eX5_hidNow_116 (by decide) ?_
                refine A.iorN eX5_hidNow_117 ?_
                refine A.is1 eX5_hidNow_118 ?_
                refine A.inc2N eX5_hidNow_119 ?_
                refine A.goto eX5_hidNow_122 ?_
                have yq : hidx x p = alls (fun k => decide (xa x ((xf x).2.1 k) p = nI ((xf x).2.2.1 k)) == decide ((xf x).2.2.2 k = 1)) (xf x).1 := rfl
                exact A.eqw (by simp [wkL, bits, yq, yd4]) rfl rfl (iho (p + 1) (by omega) (by omega))
              · refine A.iconst (v := nI 1) eX5_hidNow_110 (by decide) ?_
                refine A.il2 eX5_hidNow_111 ?_
                refine A.ishl1 eX5_hidNow_112 ?_
                refine A.goto eX5_hidNow_113 ?_
                refine A.iorN eX5_hidNow_117 ?_
                refine A.is1 eX5_hidNow_118 ?_
                refine A.inc2N eX5_hidNow_119 ?_
                refine A.goto eX5_hidNow_122 ?_
                have yq : hidx x p = alls (fun k => decide (xa x ((xf x).2.1 k) p = nI ((xf x).2.2.1 k)) == decide ((xf x).2.2.2 k = 1)) (xf x).1 := rfl
                exact A.eqw (by simp [wkL, bits, yq, yd4]) rfl rfl (iho (p + 1) (by omega) (by omega))
            · refine A.il3 eX5_hidNow_28 ?_
              refine A.if_eqB eX5_hidNow_29 (fun yd1 => ?_) (fun yd1 => ?_)
              · refine A.iconst (v := nI 0) eX5_hidNow_97 (by decide) ?_
                refine A.is3 eX5_hidNow_98 ?_
                refine A.inc4N eX5_hidNow_99 ?_
                refine A.goto eX5_hidNow_102 ?_
                have yq : ¬ alls (fun k => decide (xa x ((xf x).2.1 k) p = nI ((xf x).2.2.1 k)) == decide ((xf x).2.2.2 k = 1)) (i + 1) = true := by simp [alls, yd1]
                exact A.eq (by rw [bI_f yq]; rfl) rfl rfl (ih (i + 1) (by omega) (by omega))
              · have hk := hF.1.2.2.2.1.2.2 i (by omega)
                have hk1 := hk.1.2
                have hk2 := hk.2.1.2
                have hk3 := hk.2.2.2
                refine A.al0 eX5_hidNow_32 ?_
                refine A.getR eX5_hidNow_33 fX5_37 ko42 kr42_12 ?_
                refine A.bipush (v := nI 8) eX5_hidNow_36 (by decide) ?_
                refine A.al0 eX5_hidNow_38 ?_
                refine A.getR eX5_hidNow_39 fX5_58 ko42 kr42_21 ?_
                refine A.iconst (v := nI 3) eX5_hidNow_42 (by decide) ?_
                refine A.il4 eX5_hidNow_43 ?_
                refine A.imulN eX5_hidNow_45 ?_
                refine A.ialdN eX5_hidNow_46 ka59 ?_
                refine A.top hk.1.1 ?_
                refine A.imulN eX5_hidNow_47 ?_
                refine A.il2 eX5_hidNow_48 ?_
                refine A.iaddN eX5_hidNow_49 ?_
                refine A.ialdN eX5_hidNow_50 ka52 ?_
                refine A.top ((hF.2.2.2 _ hk.1.2).1 p (by omega)).1 ?_
                refine A.al0 eX5_hidNow_51 ?_
                refine A.getR eX5_hidNow_52 fX5_58 ko42 kr42_21 ?_
                refine A.iconst (v := nI 3) eX5_hidNow_55 (by decide) ?_
                refine A.il4 eX5_hidNow_56 ?_
                refine A.imulN eX5_hidNow_58 ?_
                refine A.iconst (v := nI 1) eX5_hidNow_59 (by decide) ?_
                refine A.iaddN eX5_hidNow_60 ?_
                refine A.ialdN eX5_hidNow_61 ka59 ?_
                refine A.top hk.2.1.1 ?_
                refine A.icmp_ne eX5_hidNow_62 (fun yd2 => ?_) (fun yd2 => ?_)
                · refine A.iconst (v := nI 0) eX5_hidNow_69 (by decide) ?_
                  refine A.al0 eX5_hidNow_70 ?_
                  refine A.getR eX5_hidNow_71 fX5_58 ko42 kr42_21 ?_
                  refine A.iconst (v := nI 3) eX5_hidNow_74 (by decide) ?_
                  refine A.il4 eX5_hidNow_75 ?_
                  refine A.imulN eX5_hidNow_77 ?_
                  refine A.iconst (v := nI 2) eX5_hidNow_78 (by decide) ?_
                  refine A.iaddN eX5_hidNow_79 ?_
                  refine A.ialdN eX5_hidNow_80 ka59 ?_
                  refine A.top hk.2.2.1 ?_
                  refine A.iconst (v := nI 1) eX5_hidNow_81 (by decide) ?_
                  refine A.icmp_neN eX5_hidNow_82 (fun yd3 => ?_) (fun yd3 => ?_)
                  · refine A.iconst (v := nI 0) eX5_hidNow_89 (by decide) ?_
                    refine A.icmp_neN eX5_hidNow_90 (fun c7 => ?_) (fun c7 => ?_)
                    · exact absurd rfl c7
                    · refine A.iconst (v := nI 1) eX5_hidNow_93 (by decide) ?_
                      refine A.goto eX5_hidNow_94 ?_
                      refine A.is3 eX5_hidNow_98 ?_
                      refine A.inc4N eX5_hidNow_99 ?_
                      refine A.goto eX5_hidNow_102 ?_
                      have yq : alls (fun k => decide (xa x ((xf x).2.1 k) p = nI ((xf x).2.2.1 k)) == decide ((xf x).2.2.2 k = 1)) (i + 1) = true := by simp [alls, yd1, yd2, yd3]
                      exact A.eq (by rw [bI_t yq]; rfl) rfl rfl (ih (i + 1) (by omega) (by omega))
                  · refine A.iconst (v := nI 1) eX5_hidNow_85 (by decide) ?_
                    refine A.goto eX5_hidNow_86 ?_
                    refine A.icmp_neN eX5_hidNow_90 (fun c8 => ?_) (fun c8 => ?_)
                    · refine A.iconst (v := nI 0) eX5_hidNow_97 (by decide) ?_
                      refine A.is3 eX5_hidNow_98 ?_
                      refine A.inc4N eX5_hidNow_99 ?_
                      refine A.goto eX5_hidNow_102 ?_
                      have yq : ¬ alls (fun k => decide (xa x ((xf x).2.1 k) p = nI ((xf x).2.2.1 k)) == decide ((xf x).2.2.2 k = 1)) (i + 1) = true := by simp [alls, yd1, yd2, yd3]
                      exact A.eq (by rw [bI_f yq]; rfl) rfl rfl (ih (i + 1) (by omega) (by omega))
                    · exact absurd c8 (by decide)
                · refine A.iconst (v := nI 1) eX5_hidNow_65 (by decide) ?_
                  refine A.goto eX5_hidNow_66 ?_
                  refine A.al0 eX5_hidNow_70 ?_
                  refine A.getR eX5_hidNow_71 fX5_58 ko42 kr42_21 ?_
                  refine A.iconst (v := nI 3) eX5_hidNow_74 (by decide) ?_
                  refine A.il4 eX5_hidNow_75 ?_
                  refine A.imulN eX5_hidNow_77 ?_
                  refine A.iconst (v := nI 2) eX5_hidNow_78 (by decide) ?_
                  refine A.iaddN eX5_hidNow_79 ?_
                  refine A.ialdN eX5_hidNow_80 ka59 ?_
                  refine A.top hk.2.2.1 ?_
                  refine A.iconst (v := nI 1) eX5_hidNow_81 (by decide) ?_
                  refine A.icmp_neN eX5_hidNow_82 (fun yd3 => ?_) (fun yd3 => ?_)
                  · refine A.iconst (v := nI 0) eX5_hidNow_89 (by decide) ?_
                    refine A.icmp_neN eX5_hidNow_90 (fun c10 => ?_) (fun c10 => ?_)
                    · refine A.iconst (v := nI 0) eX5_hidNow_97 (by decide) ?_
                      refine A.is3 eX5_hidNow_98 ?_
                      refine A.inc4N eX5_hidNow_99 ?_
                      refine A.goto eX5_hidNow_102 ?_
                      have yq : ¬ alls (fun k => decide (xa x ((xf x).2.1 k) p = nI ((xf x).2.2.1 k)) == decide ((xf x).2.2.2 k = 1)) (i + 1) = true := by simp [alls, yd1, yd2, yd3]
                      exact A.eq (by rw [bI_f yq]; rfl) rfl rfl (ih (i + 1) (by omega) (by omega))
                    · exact absurd c10 (by decide)
                  · refine A.iconst (v := nI 1) eX5_hidNow_85 (by decide) ?_
                    refine A.goto eX5_hidNow_86 ?_
                    refine A.icmp_neN eX5_hidNow_90 (fun c11 => ?_) (fun c11 => ?_)
                    · exact absurd rfl c11
                    · refine A.iconst (v := nI 1) eX5_hidNow_93 (by decide) ?_
                      refine A.goto eX5_hidNow_94 ?_
                      refine A.is3 eX5_hidNow_98 ?_
                      refine A.inc4N eX5_hidNow_99 ?_
                      refine A.goto eX5_hidNow_102 ?_
                      have yq : alls (fun k => decide (xa x ((xf x).2.1 k) p = nI ((xf x).2.2.1 k)) == decide ((xf x).2.2.2 k = 1)) (i + 1) = true := by simp [alls, yd1, yd2, yd3]
                      exact A.eq (by rw [bI_t yq]; rfl) rfl rfl (ih (i + 1) (by omega) (by omega))
        exact A.eq (by rw [bI_t (show alls (fun k => decide (xa x ((xf x).2.1 k) p = nI ((xf x).2.2.1 k)) == decide ((xf x).2.2.2 k = 1)) 0 = true from rfl)]; rfl) rfl rfl (lp ((xf x).1 + 1) 0 (by omega) (by omega))
  exact A.eqw (by simp [wkL, bits]) rfl rfl (lo (xp x + 1) 0 (by omega) (by omega))
set_option maxRecDepth 100000 in
set_option maxHeartbeats 4000000 in
theorem aX5_hid {G : GW} {σ : St} {K : Int32 → St → Prop} {x : XS} (hM : MI x σ) (hQ : ∀ τ : St, MI (x) τ → Fm σ τ → K (Rhid x) τ) : Ci G (r0 5 115) mX5_hid [rf G 42] σ K := by
  refine Ci.of [some (rf G 42)] ?_
  refine A.al0 eX5_hid_0 ?_
  refine A.cVv0 eX5_hid_1 oX5_find kX5_175 ko42 (sX5_find hM (fun τ g1 g2 => ?_))
  refine A.al0 eX5_hid_4 ?_
  refine A.cVi0 eX5_hid_5 oX5_hidNow kX5_245 ko42 (sX5_hidNow g1 ?_)
  refine B.iret eX5_hid_8 ?_
  exact hQ τ g1.1 g2
