set_option maxRecDepth 100000 in
set_option maxHeartbeats 4000000 in
theorem aX5_fog {G : GW} {σ : St} {K : Int32 → St → Prop} {x : XS} {h q s : Int32} (hM : MI x σ) (hQ : ∀ τ : St, MI (Nfog x h q s) τ → Fm σ τ → K (Rfog x h q s) τ) : Ci G (r0 2 45) mX5_fog [rf G 42, .int h, .int q, .int s] σ K := by
  refine Ci.of [some (rf G 42), some (.int h), some (.int q), some (.int s)] ?_
  unfold Rfog Nfog at hQ
  have g20 := hM.2.2.2.1.2.1
  refine A.il1 eX5_fog_0 ?_
  refine A.cSi1 eX5_fog_1 oX5_isHour kX5_133 (sX5_isHour ?_)
  refine A.if_eqB eX5_fog_4 (fun yw0 => ?_) (fun yw0 => ?_)
  · refine A.bipush (v := -2) eX5_fog_21 (by decide) ?_
    refine B.iret eX5_fog_23 ?_
    simp only [if_neg (show ¬ (ck h 24 ∧ ck q 6 ∧ ck s 2) from fun z => yw0 z.1)] at hQ
    exact hQ σ hM (Fm.rf _)
  · refine A.il2 eX5_fog_7 ?_
    refine A.cSi1 eX5_fog_8 oX5_isAnyPlace kX5_139 (sX5_isAnyPlace ?_)
    refine A.if_eqB eX5_fog_11 (fun yw1 => ?_) (fun yw1 => ?_)
    · refine A.bipush (v := -2) eX5_fog_21 (by decide) ?_
      refine B.iret eX5_fog_23 ?_
      simp only [if_neg (show ¬ (ck h 24 ∧ ck q 6 ∧ ck s 2) from fun z => yw1 z.2.1)] at hQ
      exact hQ σ hM (Fm.rf _)
    · refine A.il3 eX5_fog_14 ?_
      refine A.cSi1 eX5_fog_15 oX5_isTwo kX5_96 (sX5_isTwo ?_)
      refine A.if_neB eX5_fog_18 (fun yw2 => ?_) (fun yw2 => ?_)
      · simp only [if_pos (show ck h 24 ∧ ck q 6 ∧ ck s 2 from ⟨yw0, yw1, yw2⟩)] at hQ
        obtain ⟨h, bh, rfl⟩ := i_nat yw0.1 yw0.2
        obtain ⟨q, bq, rfl⟩ := i_nat yw1.1 yw1.2
        obtain ⟨s, bs, rfl⟩ := i_nat yw2.1 yw2.2
        try simp only [nI_clamp (n := h) (by omega), nI_clamp (n := q) (by omega), nI_clamp (n := s) (by omega)] at hQ
        refine A.al0 eX5_fog_24 ?_
        refine A.getI eX5_fog_25 fX5_235 ko42 ?_
        refine A.top (show _ = nI (xf x).1 by first | exact hM.2.2.2.1.1 | (rw [ur_n (by omega)]; exact hM.2.2.2.1.1) | (rw [ur_n (by omega), ur_n (by omega)]; exact hM.2.2.2.1.1)) ?_
        refine A.bipush (v := nI 8) eX5_fog_28 (by decide) ?_
        refine A.icmp_neN eX5_fog_30 (fun yd1 => ?_) (fun yd1 => ?_)
        · have h20 : (xf x).1 < 8 := by omega
          simp only [if_pos h20] at hQ
          refine A.al0 eX5_fog_36 ?_
          refine A.getR eX5_fog_37 fX5_58 ko42 kr42_21 ?_
          refine A.iconst (v := nI 3) eX5_fog_40 (by decide) ?_
          refine A.al0 eX5_fog_41 ?_
          refine A.getI eX5_fog_42 fX5_235 ko42 ?_
          refine A.top (show _ = nI (xf x).1 by first | exact hM.2.2.2.1.1 | (rw [ur_n (by omega)]; exact hM.2.2.2.1.1) | (rw [ur_n (by omega), ur_n (by omega)]; exact hM.2.2.2.1.1)) ?_
          refine A.imulN eX5_fog_45 ?_
          refine A.il1 eX5_fog_46 ?_
          refine A.iastN eX5_fog_47 ka59 ?_
          refine A.al0 eX5_fog_48 ?_
          refine A.getR eX5_fog_49 fX5_58 ko42 kr42_21 ?_
          refine A.iconst (v := nI 3) eX5_fog_52 (by decide) ?_
          refine A.al0 eX5_fog_53 ?_
          refine A.getI eX5_fog_54 fX5_235 ko42 ?_
          refine A.top (show _ = nI (xf x).1 by first | exact hM.2.2.2.1.1 | (rw [ur_n (by omega)]; exact hM.2.2.2.1.1) | (rw [ur_n (by omega), ur_n (by omega)]; exact hM.2.2.2.1.1)) ?_
          refine A.imulN eX5_fog_57 ?_
          refine A.iconst (v := nI 1) eX5_fog_58 (by decide) ?_
          refine A.iaddN eX5_fog_59 ?_
          refine A.il2 eX5_fog_60 ?_
          refine A.iastN eX5_fog_61 ka59 ?_
          refine A.al0 eX5_fog_62 ?_
          refine A.getR eX5_fog_63 fX5_58 ko42 kr42_21 ?_
          refine A.iconst (v := nI 3) eX5_fog_66 (by decide) ?_
          refine A.al0 eX5_fog_67 ?_
          refine A.getI eX5_fog_68 fX5_235 ko42 ?_
          refine A.top (show _ = nI (xf x).1 by first | exact hM.2.2.2.1.1 | (rw [ur_n (by omega)]; exact hM.2.2.2.1.1) | (rw [ur_n (by omega), ur_n (by omega)]; exact hM.2.2.2.1.1)) ?_
          refine A.imulN eX5_fog_71 ?_
          refine A.iconst (v := nI 2) eX5_fog_72 (by decide) ?_
          refine A.iaddN eX5_fog_73 ?_
          refine A.il3 eX5_fog_74 ?_
          refine A.iastN eX5_fog_75 ka59 ?_
          refine A.eq rfl rfl (show _ = g3 σ 59 (xf x).1 (nI h) (nI q) (nI s) from rfl) ?_
          refine A.al0 eX5_fog_76 ?_
          refine A.dup eX5_fog_77 rfl ?_
          refine A.getI eX5_fog_78 fX5_235 ko42 ?_
          refine A.top (show (g3 σ 59 (xf x).1 (nI h) (nI q) (nI s)).1 42 20 = nI (xf x).1 by rw [g3_at.2.2.2.2 42 (by omega)]; exact hM.2.2.2.1.1) ?_
          refine A.iconst (v := nI 1) eX5_fog_81 (by decide) ?_
          refine A.iaddN eX5_fog_82 ?_
          refine A.putI eX5_fog_83 pX5_235 ko42 ?_
          refine A.al0 eX5_fog_86 ?_
          refine A.getI eX5_fog_87 fX5_235 ko42 ?_
          refine A.top (show _ = nI ((xf x).1 + 1) by rw [ur_s, upd_s]) ?_
          refine B.iret eX5_fog_90 ?_
          refine hQ _ (MI.setF hM (fun k p q => by rw [ur_n p]; exact g3_at.2.2.2.2 k q) (fun j hj => by rw [ur_s, upd_n hj, g3_at.2.2.2.2 42 (by omega)]) ⟨by rw [ur_s, upd_s]; rfl, h20, ?_⟩) (fun k hk => by rw [ur_n (by omega)]; exact g3_at.2.2.2.2 k (by omega))
          exact M3.add bh bq bs hM.2.2.2.1.2.2 (fun j hj => by rw [ur_n (by omega)]; exact g3_at.2.2.2.1 j hj) (by rw [ur_n (by omega)]; exact g3_at.1) (by rw [ur_n (by omega)]; exact g3_at.2.1) (by rw [ur_n (by omega)]; exact g3_at.2.2.1)
        · refine A.bipush (v := -4) eX5_fog_33 (by decide) ?_
          refine B.iret eX5_fog_35 ?_
          simp only [if_neg (show ¬ (xf x).1 < 8 by omega)] at hQ
          exact hQ σ hM (Fm.rf _)
      · refine A.bipush (v := -2) eX5_fog_21 (by decide) ?_
        refine B.iret eX5_fog_23 ?_
        simp only [if_neg (show ¬ (ck h 24 ∧ ck q 6 ∧ ck s 2) from fun z => yw2 z.2.2)] at hQ
        exact hQ σ hM (Fm.rf _)
set_option maxRecDepth 100000 in
set_option maxHeartbeats 4000000 in
theorem sX5_forget0 {G : GW} {σ : St} {K : Int32 → St → Prop} {x : XS} (hM : MI x σ) (hQ : ∀ τ : St, MI (ws x (x3c (xs x))) τ → Fm σ τ → K (nI (xs x).1) τ) : Ci G (r0 2 45) mX5_forget [rf G 42, .int (nI 0)] σ K := by
  refine Ci.of [some (rf G 42), some (.int (nI 0)), none] ?_
  refine A.il1 eX5_forget_0 ?_
  refine A.cSi1 eX5_forget_1 oX5_isTwo kX5_96 (sX5_isTwo ?_)
  refine A.if_neB eX5_forget_4 (fun yw0 => ?_) (fun yw0 => ?_)
  · refine A.il1 eX5_forget_10 ?_
    refine A.if_neN eX5_forget_11 (fun c2 => ?_) (fun c2 => ?_)
    · exact absurd rfl c2
    · refine A.al0 eX5_forget_14 ?_
      refine A.getI eX5_forget_15 fX5_232 ko42 ?_
      refine A.top hM.2.2.1.1 ?_
      refine A.goto eX5_forget_18 ?_
      refine A.is2 eX5_forget_25 ?_
      refine A.al0 eX5_forget_26 ?_
      refine A.il1 eX5_forget_27 ?_
      refine A.if_neN eX5_forget_28 (fun c3 => ?_) (fun c3 => ?_)
      · exact absurd rfl c3
      · refine A.iconst (v := nI 0) eX5_forget_31 (by decide) ?_
        refine A.goto eX5_forget_32 ?_
        refine A.putI eX5_forget_39 pX5_232 ko42 ?_
        refine A.al0 eX5_forget_42 ?_
        refine A.il1 eX5_forget_43 ?_
        refine A.iconst (v := nI 1) eX5_forget_44 (by decide) ?_
        refine A.icmp_neN eX5_forget_45 (fun c4 => ?_) (fun c4 => ?_)
        · refine A.al0 eX5_forget_52 ?_
          refine A.getI eX5_forget_53 fX5_235 ko42 ?_
          refine A.top (show (ur σ 42 (upd (σ.1 42) 18 (nI 0))).1 42 20 = nI (xf x).1 by rw [ur_s, upd_n (by omega)]; exact hM.2.2.2.1.1) ?_
          refine A.putI eX5_forget_56 pX5_235 ko42 ?_
          refine A.il2 eX5_forget_59 ?_
          refine B.iret eX5_forget_60 ?_
          refine hQ _ (MI.setS hM (fun k p q => by rw [ur_n p, ur_n p]) (fun j hj => ?_) ⟨by rw [ur_s, upd_n (by omega), ur_s, upd_s]; rfl, Nat.zero_le _, fun k hk => absurd hk (Nat.not_lt_zero _)⟩) (((Fm.rf σ).ro (by omega)).ro (by omega))
          rw [ur_s]
          by_cases e : j = 20
          · rw [e, upd_s]; exact hM.2.2.2.1.1.symm
          · rw [upd_n e, ur_s, upd_n hj]
        · exact absurd c4 (by decide)
  · exact absurd ⟨by decide, by decide⟩ yw0
set_option maxRecDepth 100000 in
set_option maxHeartbeats 4000000 in
theorem sX5_forget1 {G : GW} {σ : St} {K : Int32 → St → Prop} {x : XS} (hM : MI x σ) (hQ : ∀ τ : St, MI (wf x (x3c (xf x))) τ → Fm σ τ → K (nI (xf x).1) τ) : Ci G (r0 2 45) mX5_forget [rf G 42, .int (nI 1)] σ K := by
  refine Ci.of [some (rf G 42), some (.int (nI 1)), none] ?_
  refine A.il1 eX5_forget_0 ?_
  refine A.cSi1 eX5_forget_1 oX5_isTwo kX5_96 (sX5_isTwo ?_)
  refine A.if_neB eX5_forget_4 (fun yw0 => ?_) (fun yw0 => ?_)
  · refine A.il1 eX5_forget_10 ?_
    refine A.if_neN eX5_forget_11 (fun c2 => ?_) (fun c2 => ?_)
    · refine A.al0 eX5_forget_21 ?_
      refine A.getI eX5_forget_22 fX5_235 ko42 ?_
      refine A.top hM.2.2.2.1.1 ?_
      refine A.is2 eX5_forget_25 ?_
      refine A.al0 eX5_forget_26 ?_
      refine A.il1 eX5_forget_27 ?_
      refine A.if_neN eX5_forget_28 (fun c3 => ?_) (fun c3 => ?_)
      · refine A.al0 eX5_forget_35 ?_
        refine A.getI eX5_forget_36 fX5_232 ko42 ?_
        refine A.top hM.2.2.1.1 ?_
        refine A.putI eX5_forget_39 pX5_232 ko42 ?_
        refine A.al0 eX5_forget_42 ?_
        refine A.il1 eX5_forget_43 ?_
        refine A.iconst (v := nI 1) eX5_forget_44 (by decide) ?_
        refine A.icmp_neN eX5_forget_45 (fun c4 => ?_) (fun c4 => ?_)
        · exact absurd rfl c4
        · refine A.iconst (v := nI 0) eX5_forget_48 (by decide) ?_
          refine A.goto eX5_forget_49 ?_
          refine A.putI eX5_forget_56 pX5_235 ko42 ?_
          refine A.il2 eX5_forget_59 ?_
          refine B.iret eX5_forget_60 ?_
          refine hQ _ (MI.setF hM (fun k p q => by rw [ur_n p, ur_n p]) (fun j hj => ?_) ⟨by rw [ur_s, upd_s]; rfl, Nat.zero_le _, fun k hk => absurd hk (Nat.not_lt_zero _)⟩) (((Fm.rf σ).ro (by omega)).ro (by omega))
          rw [ur_s, upd_n hj, ur_s]
          by_cases e : j = 18
          · rw [e, upd_s]; exact hM.2.2.1.1.symm
          · rw [upd_n e]
      · exact absurd c3 (by decide)
    · exact absurd c2 (by decide)
  · exact absurd ⟨by decide, by decide⟩ yw0
set_option maxRecDepth 100000 in
set_option maxHeartbeats 4000000 in
theorem bX5_forget {G : GW} {σ : St} {K : Int32 → St → Prop} {w : Int32} (hb : ¬ ck w 2) (hQ : K (-2) σ) : Ci G (r0 2 45) mX5_forget [rf G 42, .int w] σ K := by
  refine Ci.of [some (rf G 42), some (.int w), none] ?_
  refine A.il1 eX5_forget_0 ?_
  refine A.cSi1 eX5_forget_1 oX5_isTwo kX5_96 (sX5_isTwo ?_)
  refine A.if_neB eX5_forget_4 (fun yw0 => ?_) (fun yw0 => ?_)
  · exact absurd yw0 hb
  · refine A.bipush (v := -2) eX5_forget_7 (by decide) ?_
    refine B.iret eX5_forget_9 ?_
    exact hQ
theorem aX5_forget {G : GW} {σ : St} {K : Int32 → St → Prop} {x : XS} {w : Int32} (hM : MI x σ) (hQ : ∀ τ : St, MI (Nforget x w) τ → Fm σ τ → K (Rforget x w) τ) : Ci G (r0 2 45) mX5_forget [rf G 42, .int w] σ K := by
  unfold Rforget Nforget at hQ
  by_cases hb : ck w 2
  · simp only [if_pos hb] at hQ
    obtain ⟨w, bw, rfl⟩ := i_nat hb.1 hb.2
    rcases (show w = 0 ∨ w = 1 by omega) with rfl | rfl
    · exact sX5_forget0 hM hQ
    · exact sX5_forget1 hM hQ
  · simp only [if_neg hb] at hQ
    exact bX5_forget hb (hQ σ hM (Fm.rf _))
set_option maxRecDepth 100000 in
set_option maxHeartbeats 4000000 in
theorem aX5_read {G : GW} {σ : St} {K : Int32 → St → Prop} {x : XS} {i : Int32} (hM : MI x σ) (hQ : ∀ τ : St, MI (Nread x i) τ → Fm σ τ → K (Rread x i) τ) : Ci G (r0 3 68) mX5_read [rf G 42, .int i] σ K := by
  refine Ci.of [some (rf G 42), some (.int i), none, none, none] ?_
  unfold Rread Nread at hQ
  refine A.il1 eX5_read_0 ?_
  refine A.cSi1 eX5_read_1 oX5_isSheet kX5_77 (sX5_isSheet ?_)
  refine A.if_neB eX5_read_4 (fun yw0 => ?_) (fun yw0 => ?_)
  · simp only [if_pos (show ck i 4 from yw0)] at hQ
    obtain ⟨i, bi, rfl⟩ := i_nat yw0.1 yw0.2
    try simp only [nI_clamp (n := i) (by omega)] at hQ
    have hH := hM.hs bi
    have hov := ov_neg (fun g e => (hH.2.1 g e).1)
    refine A.al0 eX5_read_10 ?_
    refine A.getR eX5_read_11 fX5_7 ko42 kr42_0 ?_
    refine A.il1 eX5_read_14 ?_
    refine A.ialdN eX5_read_15 ka43 ?_
    refine A.top hH.1 ?_
    refine A.if_geI eX5_read_16 (fun yd1 => ?_) (fun yd1 => ?_)
    · have hl : ¬ ov ((xh x).1 i) = -1 := fun z => absurd (hov.mpr z) (by omega)
      simp only [if_neg hl] at hQ
      have z60 := hH.2.2.1
      refine A.iconst (v := nI 0) eX5_read_25 (by decide) ?_
      refine A.is2 eX5_read_26 ?_
      refine A.iconst (v := nI 1) eX5_read_27 (by decide) ?_
      refine A.is3 eX5_read_28 ?_
      have lp : ∀ (fu j : Nat) (ξ : St), (xz x i / 3) - j < fu → j ≤ (xz x i / 3) → MI (rds x i j) ξ → Fm σ ξ → (∀ k, k < j → rdF x i k = false) → B G (r0 3 68) mX5_read 29 [some (rf G 42), some (.int (nI i)), some (.int (nI j)), some (.int (nI 1)), none] [] (ξ) (Pi K) := by
        intro fu
        induction fu with
        | zero => intro j ξ h1 h2; omega
        | succ fu ih =>
          intro j ξ h1 h2 e1 e2 e3
          have exz : xz (rds x i j) i = xz x i := by unfold xz; rw [rds_h]
          have eH := e1.hs bi
          obtain ⟨g, eg0, eg1, eg2, eg⟩ := e1.sg bi (by rw [rds_h]; exact hl)
          have ez : ξ.1 44 i = nI (xz x i) := by rw [← exz]; exact eg
          refine A.il3 eX5_read_29 ?_
          refine A.if_eqN eX5_read_30 (fun c3 => ?_) (fun c3 => ?_)
          · exact absurd c3 (by decide)
          · refine A.iconst (v := nI 3) eX5_read_33 (by decide) ?_
            refine A.il2 eX5_read_34 ?_
            refine A.imulN eX5_read_35 ?_
            refine A.iconst (v := nI 3) eX5_read_36 (by decide) ?_
            refine A.iaddN eX5_read_37 ?_
            refine A.al0 eX5_read_38 ?_
            refine A.getR eX5_read_39 fX5_13 ko42 kr42_1 ?_
            refine A.il1 eX5_read_42 ?_
            refine A.ialdN eX5_read_43 ka44 ?_
            refine A.top ez ?_
            refine A.icmp_gtN eX5_read_44 (fun yd2 => ?_) (fun yd2 => ?_)
            · refine A.il2 eX5_read_110 ?_
              refine B.iret eX5_read_111 ?_
              have e : rdn x i = j := by
                have w : j = xz x i / 3 := by omega
                subst w
                exact ffst_none e3
              rw [e] at hQ
              exact hQ ξ e1 e2
            · refine A.bipush (v := nI 60) eX5_read_47 (by decide) ?_
              refine A.il1 eX5_read_49 ?_
              refine A.imulN eX5_read_50 ?_
              refine A.iconst (v := nI 3) eX5_read_51 (by decide) ?_
              refine A.il2 eX5_read_52 ?_
              refine A.imulN eX5_read_53 ?_
              refine A.iaddN eX5_read_54 ?_
              refine A.is4 eX5_read_55 ?_
              refine A.al0 eX5_read_57 ?_
              refine A.al0 eX5_read_58 ?_
              refine A.getR eX5_read_59 fX5_16 ko42 kr42_2 ?_
              refine A.il4 eX5_read_62 ?_
              refine A.ialdN eX5_read_64 ka45 ?_
              refine A.top (show ξ.1 45 (60 * i + 3 * j) = (xh x).2.2 i (3 * j) by rw [show 60 * i + 3 * j = 60 * i + (3 * j) by omega, eH.2.2.2 _ (by rw [exz]; omega), rds_h]) ?_
              refine A.al0 eX5_read_65 ?_
              refine A.getR eX5_read_66 fX5_16 ko42 kr42_2 ?_
              refine A.il4 eX5_read_69 ?_
              refine A.iconst (v := nI 1) eX5_read_71 (by decide) ?_
              refine A.iaddN eX5_read_72 ?_
              refine A.ialdN eX5_read_73 ka45 ?_
              refine A.top (show ξ.1 45 (60 * i + 3 * j + 1) = (xh x).2.2 i (3 * j + 1) by rw [show 60 * i + 3 * j + 1 = 60 * i + (3 * j + 1) by omega, eH.2.2.2 _ (by rw [exz]; omega), rds_h]) ?_
              refine A.al0 eX5_read_74 ?_
              refine A.getR eX5_read_75 fX5_16 ko42 kr42_2 ?_
              refine A.il4 eX5_read_78 ?_
              refine A.iconst (v := nI 2) eX5_read_80 (by decide) ?_
              refine A.iaddN eX5_read_81 ?_
              refine A.ialdN eX5_read_82 ka45 ?_
              refine A.top (show ξ.1 45 (60 * i + 3 * j + 2) = (xh x).2.2 i (3 * j + 2) by rw [show 60 * i + 3 * j + 2 = 60 * i + (3 * j + 2) by omega, eH.2.2.2 _ (by rw [exz]; omega), rds_h]) ?_
              refine A.cVi3 eX5_read_83 oX5_go kX5_149 ko42 (aX5_go e1 (fun τ g1 g2 => ?_))
              refine A.if_ltI eX5_read_86 (fun yd3 => ?_) (fun yd3 => ?_)
              · refine A.iconst (v := nI 0) eX5_read_93 (by decide) ?_
                refine A.is3 eX5_read_94 ?_
                refine A.il2 eX5_read_95 ?_
                refine A.il3 eX5_read_96 ?_
                refine A.if_eqN eX5_read_97 (fun c6 => ?_) (fun c6 => ?_)
                · refine A.iconst (v := nI 0) eX5_read_104 (by decide) ?_
                  refine A.iaddN eX5_read_105 ?_
                  refine A.is2 eX5_read_106 ?_
                  refine A.goto eX5_read_107 ?_
                  refine A.il3 eX5_read_29 ?_
                  refine A.if_eqN eX5_read_30 (fun _ => ?_) (fun z => absurd rfl z)
                  refine A.il2 eX5_read_110 ?_
                  refine B.iret eX5_read_111 ?_
                  have e : rdn x i = j := ffst_first e3 (by omega) (decide_eq_true yd3)
                  rw [e] at hQ
                  exact hQ τ (by rw [← Ngo_neg yd3]; exact g1) (e2.tr g2)
                · exact absurd rfl c6
              · refine A.iconst (v := nI 1) eX5_read_89 (by decide) ?_
                refine A.goto eX5_read_90 ?_
                refine A.is3 eX5_read_94 ?_
                refine A.il2 eX5_read_95 ?_
                refine A.il3 eX5_read_96 ?_
                refine A.if_eqN eX5_read_97 (fun c7 => ?_) (fun c7 => ?_)
                · exact absurd c7 (by decide)
                · refine A.iconst (v := nI 1) eX5_read_100 (by decide) ?_
                  refine A.goto eX5_read_101 ?_
                  refine A.iaddN eX5_read_105 ?_
                  refine A.is2 eX5_read_106 ?_
                  refine A.goto eX5_read_107 ?_
                  refine A.eqw (by simp [wkL]) rfl rfl (ih (j + 1) τ (by omega) (by omega) g1 (e2.tr g2) (fun k hk => ?_))
                  rcases Nat.lt_or_ge k j with z | z
                  · exact e3 k z
                  · rw [show k = j by omega]; exact decide_eq_false (by omega)
      exact lp (xz x i / 3 + 1) 0 σ (by omega) (by omega) hM (Fm.rf _) (fun k hk => by omega)
    · refine A.al0 eX5_read_19 ?_
      refine A.iconst (v := nI 1) eX5_read_20 (by decide) ?_
      refine A.cVi1 eX5_read_21 oX5_finds kX5_83 ko42 (sX5_finds ?_)
      refine B.iret eX5_read_24 ?_
      simp only [if_pos (hov.mp yd1)] at hQ
      exact hQ _ hM.setL ((Fm.rf σ).ro (by omega))
  · refine A.bipush (v := -2) eX5_read_7 (by decide) ?_
    refine B.iret eX5_read_9 ?_
    simp only [if_neg (show ¬ (ck i 4) from fun z => yw0 z)] at hQ
    exact hQ σ hM (Fm.rf _)
set_option maxRecDepth 100000 in
set_option maxHeartbeats 4000000 in
theorem sX5_here {G : GW} {σ : St} {K : Int32 → St → Prop} {t n a : Nat} {f : Nat → Nat} (bt : t < 2) (hl : σ.1 48 t = nI n) (hn : n ≤ 23) (ha : σ.1 42 7 = nI a) (ha3 : a < 100) (hb : ∀ i, i < n → σ.1 47 (24 * t + i) = nI (f i)) (hQ : K (if a < n then nI (f a) else -1) σ) : Ci G (r0 0 0) mX5_here [rf G 42, .int (nI t)] σ K := by
  refine Ci.of [some (rf G 42), some (.int (nI t))] ?_
  refine A.al0 eX5_here_0 ?_
  refine A.getI eX5_here_1 fX5_101 ko42 ?_
  refine A.top ha ?_
  refine A.al0 eX5_here_4 ?_
  refine A.getR eX5_here_5 fX5_25 ko42 kr42_6 ?_
  refine A.il1 eX5_here_8 ?_
  refine A.ialdN eX5_here_9 ka48 ?_
  refine A.top hl ?_
  refine A.icmp_geN eX5_here_10 (fun yc1 => ?_) (fun yc1 => ?_)
  · refine A.iconst (v := -1) eX5_here_30 (by decide) ?_
    refine B.iret eX5_here_31 ?_
    first
      | (rw [if_neg (by omega)] at hQ; exact hQ)
      | (rw [if_pos (by omega)] at hQ; exact vl_of hQ (hb a (by omega)))
  · refine A.al0 eX5_here_13 ?_
    refine A.getR eX5_here_14 fX5_22 ko42 kr42_5 ?_
    refine A.bipush (v := nI 24) eX5_here_17 (by decide) ?_
    refine A.il1 eX5_here_19 ?_
    refine A.imulN eX5_here_20 ?_
    refine A.al0 eX5_here_21 ?_
    refine A.getI eX5_here_22 fX5_101 ko42 ?_
    refine A.top ha ?_
    refine A.iaddN eX5_here_25 ?_
    refine A.ialdN eX5_here_26 ka47 ?_
    refine A.goto eX5_here_27 ?_
    refine B.iret eX5_here_31 ?_
    first
      | (rw [if_neg (by omega)] at hQ; exact hQ)
      | (rw [if_pos (by omega)] at hQ; exact vl_of hQ (hb a (by omega)))
def kdI (v : Int32) : Int32 := if v = nI 111 then nI 0 else if v = nI 104 then nI 1 else if v = nI 99 then nI 2 else -1
set_option maxRecDepth 100000 in
set_option maxHeartbeats 4000000 in
theorem sX5_kindOf {G : GW} {σ : St} {K : Int32 → St → Prop} {v : Int32}  (hQ : K (kdI v) σ) : Ci G (r0 0 0) mX5_kindOf [.int v] σ K := by
  refine Ci.of [some (.int v)] ?_
  refine A.il0 eX5_kindOf_0 ?_
  refine A.bipush (v := nI 111) eX5_kindOf_1 (by decide) ?_
  refine A.icmp_ne eX5_kindOf_3 (fun yc1 => ?_) (fun yc1 => ?_)
  · refine A.il0 eX5_kindOf_10 ?_
    refine A.bipush (v := nI 104) eX5_kindOf_11 (by decide) ?_
    refine A.icmp_ne eX5_kindOf_13 (fun yc2 => ?_) (fun yc2 => ?_)
    · refine A.il0 eX5_kindOf_20 ?_
      refine A.bipush (v := nI 99) eX5_kindOf_21 (by decide) ?_
      refine A.icmp_ne eX5_kindOf_23 (fun yc3 => ?_) (fun yc3 => ?_)
      · refine A.iconst (v := -1) eX5_kindOf_30 (by decide) ?_
        refine B.iret eX5_kindOf_31 ?_
        refine vl_of hQ ?_
        unfold kdI
        first
          | rw [if_pos yc1]
          | rw [if_neg yc1, if_pos yc2]
          | rw [if_neg yc1, if_neg yc2, if_pos yc3]
          | rw [if_neg yc1, if_neg yc2, if_neg yc3]
      · refine A.iconst (v := nI 2) eX5_kindOf_26 (by decide) ?_
        refine A.goto eX5_kindOf_27 ?_
        refine B.iret eX5_kindOf_31 ?_
        refine vl_of hQ ?_
        unfold kdI
        first
          | rw [if_pos yc1]
          | rw [if_neg yc1, if_pos yc2]
          | rw [if_neg yc1, if_neg yc2, if_pos yc3]
          | rw [if_neg yc1, if_neg yc2, if_neg yc3]
    · refine A.iconst (v := nI 1) eX5_kindOf_16 (by decide) ?_
      refine A.goto eX5_kindOf_17 ?_
      refine B.iret eX5_kindOf_31 ?_
      refine vl_of hQ ?_
      unfold kdI
      first
        | rw [if_pos yc1]
        | rw [if_neg yc1, if_pos yc2]
        | rw [if_neg yc1, if_neg yc2, if_pos yc3]
        | rw [if_neg yc1, if_neg yc2, if_neg yc3]
  · refine A.iconst (v := nI 0) eX5_kindOf_6 (by decide) ?_
    refine A.goto eX5_kindOf_7 ?_
    refine B.iret eX5_kindOf_31 ?_
    refine vl_of hQ ?_
    unfold kdI
    first
      | rw [if_pos yc1]
      | rw [if_neg yc1, if_pos yc2]
      | rw [if_neg yc1, if_neg yc2, if_pos yc3]
      | rw [if_neg yc1, if_neg yc2, if_neg yc3]
theorem kd_k {b : Nat} (hb : b < 256) : kdI (nI b) = kndI b := by
  unfold kdI kndI
  simp only [nI_eq (show b < 2147483648 by omega) (show 111 < 2147483648 by omega), nI_eq (show b < 2147483648 by omega) (show 104 < 2147483648 by omega), nI_eq (show b < 2147483648 by omega) (show 99 < 2147483648 by omega)]
theorem fig_in {P : Prop} [Decidable P] {b : Nat} (hb : P → b < 256) : bI ((0 : Int64).toInt ≤ ((if P then nI b else -1) - nI 48).toInt64.toInt ∧ ((if P then nI b else -1) - nI 48).toInt64.toInt ≤ (9 : Int64).toInt) = bI (P ∧ 48 ≤ b ∧ b ≤ 57) := by
  apply bI_congr
  by_cases h : P
  · have := hb h
    rw [if_pos h, nI_z, nI_z, zI_sub, i64_ti, zI_toInt (by omega) (by omega)]
    show (0 ≤ _ ∧ _ ≤ (9 : Int)) ↔ _
    constructor
    · intro z; exact ⟨h, by omega, by omega⟩
    · intro z; omega
  · rw [if_neg h]
    constructor
    · intro z; exact absurd z.1 (by decide)
    · intro z; exact absurd z.1 h
theorem fig_in2 {P : Prop} [Decidable P] {b c : Nat} (hb : P → b < 256) (hc : c ≤ 9) : bI ((nI c).toInt64.toInt ≤ ((if P then nI b else -1) - nI 48).toInt64.toInt ∧ ((if P then nI b else -1) - nI 48).toInt64.toInt ≤ (9 : Int64).toInt) = bI (P ∧ 48 + c ≤ b ∧ b ≤ 57) := by
  apply bI_congr
  rw [i64_ti (nI c), nI_ti (by omega)]
  by_cases h : P
  · have := hb h
    rw [if_pos h, nI_z, nI_z, zI_sub, i64_ti, zI_toInt (by omega) (by omega)]
    show (_ ∧ _ ≤ (9 : Int)) ↔ _
    constructor
    · intro z; exact ⟨h, by omega, by omega⟩
    · intro z; omega
  · rw [if_neg h]
    constructor
    · intro z
      have w : ((-1 : Int32) - nI 48).toInt64.toInt = -49 := by decide
      rw [w] at z
      omega
    · intro z; exact absurd z.1 h
theorem fig_v {P : Prop} [Decidable P] {b : Nat} (h : P) (h48 : 48 ≤ b) : ((if P then nI b else -1) : Int32) - nI 48 = nI (b - 48) := by
  rw [if_pos h, nI_z, nI_z, zI_sub, nI_z]
  congr 1
  omega
/-- one thing read well -/
def rok (u : Nat) (tx : Nat → Nat) (n k : Nat) : Bool := decide (3 * k + 1 < n) && (okb u tx (3 * k) && okb u tx (3 * k + 1))
/-- where the reading stands behind a thing -/
def rat (u : Nat) (tx : Nat → Nat) (n k : Nat) : Nat := if rok u tx n k = true then 3 * k + 2 else if 3 * k < n ∧ okb u tx (3 * k) = true then 3 * k + 1 else 3 * k
def Fr (t : Nat) (σ τ : St) : Prop := (∀ k, k ≠ 42 → k ≠ 49 → k ≠ 50 → τ.1 k = σ.1 k) ∧ (∀ j, j ≠ 7 → τ.1 42 j = σ.1 42 j) ∧ (∀ j, j ≠ t → τ.1 49 j = σ.1 49 j) ∧ ∀ j, (j < 16 * t ∨ 16 * t + 16 ≤ j) → τ.1 50 j = σ.1 50 j
theorem Fr.rf (t : Nat) (σ : St) : Fr t σ σ := ⟨fun _ _ _ _ => rfl, fun _ _ => rfl, fun _ _ => rfl, fun _ _ => rfl⟩
theorem Fr.tr {t : Nat} {σ τ ρ : St} (h : Fr t σ τ) (g : Fr t τ ρ) : Fr t σ ρ := ⟨fun k a b c => (g.1 k a b c).trans (h.1 k a b c), fun j a => (g.2.1 j a).trans (h.2.1 j a), fun j a => (g.2.2.1 j a).trans (h.2.2.1 j a), fun j a => (g.2.2.2 j a).trans (h.2.2.2 j a)⟩
theorem Fr.u42 {t : Nat} {σ τ : St} {v : Int32} (h : Fr t σ τ) : Fr t σ (ur τ 42 (upd (τ.1 42) 7 v)) := ⟨fun k a b c => (ur_n a).trans (h.1 k a b c), fun j a => by rw [ur_s, upd_n a]; exact h.2.1 j a, fun j a => by rw [ur_n (by omega)]; exact h.2.2.1 j a, fun j a => by rw [ur_n (by omega)]; exact h.2.2.2 j a⟩
theorem Fr.u49 {t : Nat} {σ τ : St} {v : Int32} (h : Fr t σ τ) : Fr t σ (ur τ 49 (upd (τ.1 49) t v)) := ⟨fun k a b c => (ur_n b).trans (h.1 k a b c), fun j a => by rw [ur_n (by omega)]; exact h.2.1 j a, fun j a => by rw [ur_s, upd_n a]; exact h.2.2.1 j a, fun j a => by rw [ur_n (by omega)]; exact h.2.2.2 j a⟩
theorem Fr.u50 {t i : Nat} {σ τ : St} {v : Int32} (h : Fr t σ τ) (h1 : 16 * t ≤ i) (h2 : i < 16 * t + 16) : Fr t σ (ur τ 50 (upd (τ.1 50) i v)) := ⟨fun k a b c => (ur_n c).trans (h.1 k a b c), fun j a => by rw [ur_n (by omega)]; exact h.2.1 j a, fun j a => by rw [ur_n (by omega)]; exact h.2.2.1 j a, fun j a => by rw [ur_s, upd_n (by omega)]; exact h.2.2.2 j a⟩
theorem Fr.fq {t n : Nat} {σ τ : St} (h : Fr t σ τ) : Fq n σ τ := by
  refine ⟨fun k hk => h.1 k (by omega) (by omega) (by omega), fun k hk => ?_, fun j hj => ?_, fun j _ => by rw [h.1 51 (by omega) (by omega) (by omega)]⟩
  · simp only [List.mem_cons, List.not_mem_nil, or_false] at hk
    exact h.1 k (by omega) (by omega) (by omega)
  · simp only [List.mem_cons, List.not_mem_nil, or_false] at hj
    exact h.2.1 j (by omega)
