set_option maxRecDepth 100000 in
set_option maxHeartbeats 4000000 in
theorem sX5_nextOf {G : GW} {σ : St} {K : Int32 → St → Prop} {h p np nq : Nat} {a : Nat → Int32} {b kd : Nat → Nat} (hnp : σ.1 49 0 = nI np) (hn8 : np ≤ 8) (hq6 : nq ≤ 6) (bh : h < 24) (bp : p < np) (hA : HM σ h np a b) (hPA : PA a np nq) (hkd : σ.1 50 (2 * p + 1) = nI (kd p)) (hkd2 : kd p ≤ 2) (hfl : σ.1 55 h = nI (flb a b np nq)) (hQ : K (nI (nxp kd a b np p)) σ) : Ci G (r0 1 21) mX5_nextOf [rf G 42, .int (nI h), .int (nI p)] σ K := by
  refine Ci.of [some (rf G 42), some (.int (nI h)), some (.int (nI p)), none, none, none, none] ?_
  have hAp := hA p bp
  have hb9 := hAp.2.2
  have hf64 := flb_lt a b np hq6
  have hcn := cnt_le (fun q => decide (a q = a p)) np
  refine A.al0 eX5_nextOf_0 ?_
  refine A.getR eX5_nextOf_1 fX5_40 ko42 kr42_13 ?_
  refine A.bipush (v := nI 8) eX5_nextOf_4 (by decide) ?_
  refine A.il1 eX5_nextOf_6 ?_
  refine A.imulN eX5_nextOf_7 ?_
  refine A.il2 eX5_nextOf_8 ?_
  refine A.iaddN eX5_nextOf_9 ?_
  refine A.ialdN eX5_nextOf_10 ka53 ?_
  refine A.top hAp.2.1 ?_
  refine A.is3 eX5_nextOf_11 ?_
  refine A.al0 eX5_nextOf_12 ?_
  refine A.getR eX5_nextOf_13 fX5_37 ko42 kr42_12 ?_
  refine A.bipush (v := nI 8) eX5_nextOf_16 (by decide) ?_
  refine A.il1 eX5_nextOf_18 ?_
  refine A.imulN eX5_nextOf_19 ?_
  refine A.il2 eX5_nextOf_20 ?_
  refine A.iaddN eX5_nextOf_21 ?_
  refine A.ialdN eX5_nextOf_22 ka52 ?_
  refine A.top hAp.1 ?_
  refine A.is4 eX5_nextOf_23 ?_
  refine A.al0 eX5_nextOf_25 ?_
  refine A.il2 eX5_nextOf_26 ?_
  refine A.cVi1 eX5_nextOf_27 oX5_isCalm kX5_152 ko42 (sX5_isCalm (k := kd p) hkd hkd2 (by omega) ?_)
  refine A.if_neB eX5_nextOf_30 (fun yd1 => ?_) (fun yd1 => ?_)
  · refine A.il3 eX5_nextOf_39 ?_
    refine B.iret eX5_nextOf_40 ?_
    refine vl_of hQ ?_
    rw [nxp_cases]
    unfold nxv
    rw [if_pos (Or.inl yd1)]
  · refine A.il4 eX5_nextOf_33 ?_
    refine A.iconst (v := -1) eX5_nextOf_35 (by decide) ?_
    refine A.icmp_ne eX5_nextOf_36 (fun yd2 => ?_) (fun yd2 => ?_)
    · obtain ⟨y, hy, ey⟩ := (hPA p bp).resolve_left yd2
      refine A.al0 eX5_nextOf_41 ?_
      refine A.getR eX5_nextOf_42 fX5_46 ko42 kr42_15 ?_
      refine A.il1 eX5_nextOf_45 ?_
      refine A.ialdN eX5_nextOf_46 ka55 ?_
      refine A.top hfl ?_
      
      refine A.il4 eX5_nextOf_47 ?_
      rw [ey]
      refine A.cSi2 eX5_nextOf_49 oX5_isIn kX5_155 (sX5_isIn (m := flb a b np nq) (k := y) (by omega) (by omega) ?_)
      refine A.if_eqB eX5_nextOf_52 (fun yd3 => ?_) (fun yd3 => ?_)
      · have hfz : ¬ 2 ≤ cnt (fun q => decide (a q = a p) && decide (b q ≤ 1)) np := fun z => yd3 (by unfold flb; rw [inb_bits]; simp [hy]; unfold isdk; rw [← ey]; exact z)
        rw [← ey]
        refine A.iconst (v := nI 0) eX5_nextOf_57 (by decide) ?_
        refine A.is5 eX5_nextOf_58 ?_
        refine A.iconst (v := nI 0) eX5_nextOf_60 (by decide) ?_
        refine A.is6 eX5_nextOf_61 ?_
        have lp : ∀ (fu i : Nat), np - i < fu → i ≤ np → B G (r0 1 21) mX5_nextOf 63 [some (rf G 42), some (.int (nI h)), some (.int (nI p)), some (.int (nI (b p))), some (.int (a p)), some (.int (zI (apt (fun q => decide (a q = a p)) b (b p) i))), some (.int (nI i))] [] (σ) (Pi K) := by
          intro fu
          induction fu with
          | zero => intro i  h1 h2; omega
          | succ fu ih =>
            intro i  h1 h2 
            have hap := apt_le (F := fun q => decide (a q = a p)) (w := b p) hb9 (n := i) (fun q hq => (hA q (by omega)).2.2)
            refine A.il6 eX5_nextOf_63 ?_
            refine A.al0 eX5_nextOf_65 ?_
            refine A.getR eX5_nextOf_66 fX5_28 ko42 kr42_8 ?_
            refine A.iconst (v := nI 0) eX5_nextOf_69 (by decide) ?_
            refine A.ialdN eX5_nextOf_70 ka49 ?_
            refine A.top hnp ?_
            refine A.icmp_geN eX5_nextOf_71 (fun c4 => ?_) (fun c4 => ?_)
            · have ei : i = np := by omega
              subst ei
              have eap := apt_sm (fun q => decide (a q = a p)) b (b p) i
              have hcs := cnt_le (fun q => decide (a q = a p)) i
              refine A.il5 eX5_nextOf_120 ?_
              refine A.if_leZ eX5_nextOf_122 (fun yd5 => ?_) (fun yd5 => ?_)
              · refine A.il5 eX5_nextOf_131 ?_
                refine A.if_geZ eX5_nextOf_133 (fun yd6 => ?_) (fun yd6 => ?_)
                · refine A.il3 eX5_nextOf_142 ?_
                  refine B.iret eX5_nextOf_143 ?_
                  refine vl_of hQ ?_
                  rw [nxp_cases]
                  unfold nxv
                  rw [if_neg (fun z => z.elim yd1 yd2), if_neg hfz]
                  first
                    | (have y5 : cnt (fun q => decide (a q = a p)) i * b p < sm (fun q => decide (a q = a p)) b i := by omega
                       rw [if_neg (by omega), if_pos y5])
                    | (have y5 : sm (fun q => decide (a q = a p)) b i < cnt (fun q => decide (a q = a p)) i * b p := by omega
                       rw [if_neg (by omega), if_neg (by omega)])
                    | (have y5 : sm (fun q => decide (a q = a p)) b i = cnt (fun q => decide (a q = a p)) i * b p := by omega
                       rw [if_pos y5])
                · have b1 : 1 ≤ b p := by
                    rcases Nat.eq_zero_or_pos (b p) with z | z
                    · have m0 : cnt (fun q => decide (a q = a p)) i * b p = 0 := by rw [z, Nat.mul_zero]
                      omega
                    · exact z
                  refine A.il3 eX5_nextOf_136 ?_
                  refine A.iconst (v := nI 1) eX5_nextOf_137 (by decide) ?_
                  refine A.isubN eX5_nextOf_138 ?_
                  refine A.goto eX5_nextOf_139 ?_
                  refine B.iret eX5_nextOf_143 ?_
                  refine vl_of hQ ?_
                  rw [nxp_cases]
                  unfold nxv
                  rw [if_neg (fun z => z.elim yd1 yd2), if_neg hfz]
                  first
                    | (have y5 : cnt (fun q => decide (a q = a p)) i * b p < sm (fun q => decide (a q = a p)) b i := by omega
                       rw [if_neg (by omega), if_pos y5])
                    | (have y5 : sm (fun q => decide (a q = a p)) b i < cnt (fun q => decide (a q = a p)) i * b p := by omega
                       rw [if_neg (by omega), if_neg (by omega)])
                    | (have y5 : sm (fun q => decide (a q = a p)) b i = cnt (fun q => decide (a q = a p)) i * b p := by omega
                       rw [if_pos y5])
              · refine A.il3 eX5_nextOf_125 ?_
                refine A.iconst (v := nI 1) eX5_nextOf_126 (by decide) ?_
                refine A.iaddN eX5_nextOf_127 ?_
                refine A.goto eX5_nextOf_128 ?_
                refine B.iret eX5_nextOf_143 ?_
                refine vl_of hQ ?_
                rw [nxp_cases]
                unfold nxv
                rw [if_neg (fun z => z.elim yd1 yd2), if_neg hfz]
                first
                  | (have y5 : cnt (fun q => decide (a q = a p)) i * b p < sm (fun q => decide (a q = a p)) b i := by omega
                     rw [if_neg (by omega), if_pos y5])
                  | (have y5 : sm (fun q => decide (a q = a p)) b i < cnt (fun q => decide (a q = a p)) i * b p := by omega
                     rw [if_neg (by omega), if_neg (by omega)])
                  | (have y5 : sm (fun q => decide (a q = a p)) b i = cnt (fun q => decide (a q = a p)) i * b p := by omega
                     rw [if_pos y5])
            · refine A.il5 eX5_nextOf_74 ?_
              refine A.al0 eX5_nextOf_76 ?_
              refine A.getR eX5_nextOf_77 fX5_37 ko42 kr42_12 ?_
              refine A.bipush (v := nI 8) eX5_nextOf_80 (by decide) ?_
              refine A.il1 eX5_nextOf_82 ?_
              refine A.imulN eX5_nextOf_83 ?_
              refine A.il6 eX5_nextOf_84 ?_
              refine A.iaddN eX5_nextOf_86 ?_
              refine A.ialdN eX5_nextOf_87 ka52 ?_
              refine A.top (hA i (by omega)).1 ?_
              refine A.il4 eX5_nextOf_88 ?_
              refine A.icmp_ne eX5_nextOf_90 (fun yd4 => ?_) (fun yd4 => ?_)
              · refine A.iconst (v := nI 0) eX5_nextOf_110 (by decide) ?_
                refine A.topZ ?_
                refine A.iaddZ eX5_nextOf_111 ?_
                refine A.is5 eX5_nextOf_112 ?_
                refine A.inc6N eX5_nextOf_114 ?_
                refine A.goto eX5_nextOf_117 ?_
                first
                  | exact A.eq (by simp [apt, yd4]) rfl rfl (ih (i + 1) (by omega) (by omega))
                  | exact A.eq (by simp only [apt]; rw [if_neg (by simpa using yd4)]; rfl) rfl rfl (ih (i + 1) (by omega) (by omega))
              · refine A.al0 eX5_nextOf_93 ?_
                refine A.getR eX5_nextOf_94 fX5_40 ko42 kr42_13 ?_
                refine A.bipush (v := nI 8) eX5_nextOf_97 (by decide) ?_
                refine A.il1 eX5_nextOf_99 ?_
                refine A.imulN eX5_nextOf_100 ?_
                refine A.il6 eX5_nextOf_101 ?_
                have hbi := (hA i (by omega)).2.2
                refine A.iaddN eX5_nextOf_103 ?_
                refine A.ialdN eX5_nextOf_104 ka53 ?_
                refine A.top (hA i (by omega)).2.1 ?_
                refine A.il3 eX5_nextOf_105 ?_
                refine A.topZ ?_
                refine A.topZ2 ?_
                refine A.isubZ eX5_nextOf_106 ?_
                refine A.goto eX5_nextOf_107 ?_
                refine A.iaddZ eX5_nextOf_111 ?_
                refine A.is5 eX5_nextOf_112 ?_
                refine A.inc6N eX5_nextOf_114 ?_
                refine A.goto eX5_nextOf_117 ?_
                first
                  | exact A.eq (by simp [apt, yd4]) rfl rfl (ih (i + 1) (by omega) (by omega))
                  | exact A.eq (by simp only [apt]; rw [if_neg (by simpa using yd4)]; rfl) rfl rfl (ih (i + 1) (by omega) (by omega))
        exact lp (np + 1) 0 (by omega) (by omega)
      · refine A.iconst (v := nI 0) eX5_nextOf_55 (by decide) ?_
        refine B.iret eX5_nextOf_56 ?_
        refine vl_of hQ ?_
        rw [nxp_cases]
        unfold nxv
        rw [if_neg (fun z => z.elim yd1 yd2), if_pos]
        unfold flb at yd3
        rw [inb_bits] at yd3
        simp [hy] at yd3
        unfold isdk at yd3
        rw [← ey] at yd3
        exact yd3
    · refine A.il3 eX5_nextOf_39 ?_
      refine B.iret eX5_nextOf_40 ?_
      refine vl_of hQ ?_
      rw [nxp_cases]
      unfold nxv
      rw [if_pos (Or.inr yd2)]
set_option maxRecDepth 100000 in
set_option maxHeartbeats 4000000 in
theorem sX5_plain {G : GW} {σ : St} {K : St → Prop} {np : Nat} {b : Nat → Nat} (hnp : σ.1 49 0 = nI np) (hn8 : np ≤ 8) (hb : ∀ p, p < np → σ.1 50 (2 * p) = nI (b p)) (hQ : ∀ τ : St, (∀ k, k ≠ 54 → τ.1 k = σ.1 k) → τ.2 = σ.2 → (∀ p, p < np → τ.1 54 p = nI (b p)) → K τ) : Cv G (r0 0 0) mX5_plain [rf G 42] σ K := by
  refine Cv.of [some (rf G 42), none] ?_
  refine A.iconst (v := nI 0) eX5_plain_0 (by decide) ?_
  refine A.is1 eX5_plain_1 ?_
  have lp : ∀ (fu i : Nat) (τ : St), np - i < fu → i ≤ np → (∀ k, k ≠ 54 → τ.1 k = σ.1 k) → τ.2 = σ.2 → (∀ p, p < i → τ.1 54 p = nI (b p)) → B G (r0 0 0) mX5_plain 2 [some (rf G 42), some (.int (nI i))] [] (τ) (Pv K) := by
    intro fu
    induction fu with
    | zero => intro i τ h1 h2; omega
    | succ fu ih =>
      intro i τ h1 h2 e1 e2 e3
      refine A.il1 eX5_plain_2 ?_
      refine A.al0 eX5_plain_3 ?_
      refine A.getR eX5_plain_4 fX5_28 ko42 kr42_8 ?_
      refine A.iconst (v := nI 0) eX5_plain_7 (by decide) ?_
      refine A.ialdN eX5_plain_8 ka49 ?_
      refine A.top (show τ.1 49 0 = nI np by rw [e1 49 (by omega)]; exact hnp) ?_
      refine A.icmp_geN eX5_plain_9 (fun c1 => ?_) (fun c1 => ?_)
      · refine B.vret eX5_plain_32 ?_
        have e : i = np := by omega
        subst e
        exact hQ τ e1 e2 e3
      · refine A.al0 eX5_plain_12 ?_
        refine A.getR eX5_plain_13 fX5_43 ko42 kr42_14 ?_
        refine A.il1 eX5_plain_16 ?_
        refine A.al0 eX5_plain_17 ?_
        refine A.getR eX5_plain_18 fX5_31 ko42 kr42_9 ?_
        refine A.iconst (v := nI 2) eX5_plain_21 (by decide) ?_
        refine A.il1 eX5_plain_22 ?_
        refine A.imulN eX5_plain_23 ?_
        refine A.ialdN eX5_plain_24 ka50 ?_
        refine A.top (show τ.1 50 (2 * i) = nI (b i) by rw [e1 50 (by omega)]; exact hb i (by omega)) ?_
        refine A.iastN eX5_plain_25 ka54 ?_
        refine A.inc1N eX5_plain_26 ?_
        refine A.goto eX5_plain_29 ?_
        refine ih (i + 1) _ (by omega) (by omega) (fun k hk => by rw [ur_n hk]; exact e1 k hk) e2 (fun p hp => ?_)
        rw [ur_s]
        by_cases e : p = i
        · rw [e, upd_s]
        · rw [upd_n e]; exact e3 p (by omega)
  exact lp (np + 1) 0 σ (by omega) (by omega) (fun _ _ => rfl) rfl (fun p hp => by omega)
set_option maxRecDepth 100000 in
set_option maxHeartbeats 4000000 in
theorem sX5_lives {G : GW} {σ : St} {K : St → Prop} {n np nq : Nat} {gh gp gq b0 kd : Nat → Nat} (hnp : σ.1 49 0 = nI np) (hn8 : np ≤ 8) (hnq : σ.1 49 1 = nI nq) (hq6 : nq ≤ 6) (hn : n ≤ 44) (hG : M3 σ 51 n 24 8 6 gh gp gq) (hb0 : ∀ p, p < np → σ.1 54 p = nI (b0 p) ∧ b0 p ≤ 9) (hk : ∀ p, p < np → σ.1 50 (2 * p + 1) = nI (kd p) ∧ kd p ≤ 2) (hQ : ∀ τ : St, Fz σ τ → LV τ np nq (fun h p => plf (tlf gh gp gq n) nq h p) (brf kd (fun h p => plf (tlf gh gp gq n) nq h p) b0 np) → K τ) : Cv G (r0 3 72) mX5_lives [rf G 42, .int (nI n)] σ K := by
  refine Cv.of [some (rf G 42), some (.int (nI n)), none, none] ?_
  refine A.iconst (v := nI 0) eX5_lives_0 (by decide) ?_
  refine A.is2 eX5_lives_1 ?_
  have lo : ∀ (fu h : Nat) (ξ : St), 24 - h < fu → h ≤ 24 → Fz σ ξ → (∀ g, g < h → HM ξ g np (plf (tlf gh gp gq n) nq g) ((brf kd (fun h p => plf (tlf gh gp gq n) nq h p) b0 np) g) ∧ ξ.1 55 g = nI (flb (plf (tlf gh gp gq n) nq g) ((brf kd (fun h p => plf (tlf gh gp gq n) nq h p) b0 np) g) np nq)) → B G (r0 3 72) mX5_lives 2 [some (rf G 42), some (.int (nI n)), some (.int (nI h)), none] [] (ξ) (Pv K) := by
    intro fu
    induction fu with
    | zero => intro h ξ h1 h2; omega
    | succ fu iho =>
      intro h ξ h1 h2 e1 e2
      refine A.il2 eX5_lives_2 ?_
      refine A.bipush (v := nI 24) eX5_lives_3 (by decide) ?_
      refine A.icmp_geN eX5_lives_5 (fun c1 => ?_) (fun c1 => ?_)
      · refine B.vret eX5_lives_93 ?_
        have e : h = 24 := by omega
        subst e
        exact hQ ξ e1 e2
      · refine A.iconst (v := nI 0) eX5_lives_8 (by decide) ?_
        refine A.is3 eX5_lives_9 ?_
        have lp : ∀ (fu i : Nat) (ξ : St), np - i < fu → i ≤ np → Fz σ ξ → (∀ g, g < h → HM ξ g np (plf (tlf gh gp gq n) nq g) ((brf kd (fun h p => plf (tlf gh gp gq n) nq h p) b0 np) g) ∧ ξ.1 55 g = nI (flb (plf (tlf gh gp gq n) nq g) ((brf kd (fun h p => plf (tlf gh gp gq n) nq h p) b0 np) g) np nq)) → HM ξ h i (plf (tlf gh gp gq n) nq h) ((brf kd (fun h p => plf (tlf gh gp gq n) nq h p) b0 np) h) → B G (r0 3 72) mX5_lives 10 [some (rf G 42), some (.int (nI n)), some (.int (nI h)), some (.int (nI i))] [] (ξ) (Pv K) := by
          intro fu
          induction fu with
          | zero => intro i ξ h1 h2; omega
          | succ fu ih =>
            intro i ξ h1 h2 e1 e2 e3
            refine A.il3 eX5_lives_10 ?_
            refine A.al0 eX5_lives_11 ?_
            refine A.getR eX5_lives_12 fX5_28 ko42 kr42_8 ?_
            refine A.iconst (v := nI 0) eX5_lives_15 (by decide) ?_
            refine A.ialdN eX5_lives_16 ka49 ?_
            refine A.top (show ξ.1 49 0 = nI np by rw [e1.1 49 (by omega) (by omega) (by omega)]; exact hnp) ?_
            refine A.icmp_geN eX5_lives_17 (fun c2 => ?_) (fun c2 => ?_)
            · have ei : i = np := by omega
              subst ei
              refine A.al0 eX5_lives_76 ?_
              refine A.getR eX5_lives_77 fX5_46 ko42 kr42_15 ?_
              refine A.il2 eX5_lives_80 ?_
              refine A.al0 eX5_lives_81 ?_
              refine A.il2 eX5_lives_82 ?_
              refine A.cVi1 eX5_lives_83 oX5_flashIn kX5_165 ko42 (sX5_flashIn (nq := nq) (by rw [e1.1 49 (by omega) (by omega) (by omega)]; exact hnp) hn8 (by rw [e1.1 49 (by omega) (by omega) (by omega)]; exact hnq) hq6 (by omega) e3 ?_)
              refine A.iastN eX5_lives_86 ka55 ?_
              refine A.inc2N eX5_lives_87 ?_
              refine A.goto eX5_lives_90 ?_
              refine A.eqw (by simp [wkL]) rfl rfl (iho (h + 1) _ (by omega) (by omega) (e1.ro (Or.inr (Or.inr rfl))) (fun g hg => ?_))
              rcases Nat.lt_or_ge g h with z | z
              · refine ⟨fun p hp => by rw [ur_n (by omega), ur_n (by omega)]; exact (e2 g z).1 p hp, ?_⟩
                rw [ur_s, upd_n (by omega)]; exact (e2 g z).2
              · rw [show g = h by omega]
                exact ⟨fun p hp => by rw [ur_n (by omega), ur_n (by omega)]; exact e3 p hp, by rw [ur_s, upd_s]⟩
            · refine A.al0 eX5_lives_20 ?_
              refine A.getR eX5_lives_21 fX5_40 ko42 kr42_13 ?_
              refine A.bipush (v := nI 8) eX5_lives_24 (by decide) ?_
              refine A.il2 eX5_lives_26 ?_
              refine A.imulN eX5_lives_27 ?_
              refine A.il3 eX5_lives_28 ?_
              refine A.iaddN eX5_lives_29 ?_
              refine A.il2 eX5_lives_30 ?_
              refine A.if_neN eX5_lives_31 (fun yd1 => ?_) (fun yd1 => ?_)
              · refine A.al0 eX5_lives_43 ?_
                refine A.il2 eX5_lives_44 ?_
                refine A.iconst (v := nI 1) eX5_lives_45 (by decide) ?_
                refine A.isubN eX5_lives_46 ?_
                refine A.il3 eX5_lives_47 ?_
                refine A.cVi2 eX5_lives_48 oX5_nextOf kX5_159 ko42 (sX5_nextOf (nq := nq) (a := plf (tlf gh gp gq n) nq (h - 1)) (b := (brf kd (fun h p => plf (tlf gh gp gq n) nq h p) b0 np) (h - 1)) (kd := kd) (by rw [e1.1 49 (by omega) (by omega) (by omega)]; exact hnp) hn8 hq6 (by omega) (by omega) (fun p hp => (e2 (h - 1) (by omega)).1 p hp) plf_PA (by rw [e1.1 50 (by omega) (by omega) (by omega)]; exact (hk i (by omega)).1) (hk i (by omega)).2 (e2 (h - 1) (by omega)).2 ?_)
                refine A.top (show _ = nI ((brf kd (fun h p => plf (tlf gh gp gq n) nq h p) b0 np) h i) from by rw [show h = h - 1 + 1 by omega]; rfl) ?_
                refine A.iastN eX5_lives_51 ka53 ?_
                refine A.al0 eX5_lives_52 ?_
                refine A.getR eX5_lives_53 fX5_37 ko42 kr42_12 ?_
                refine A.bipush (v := nI 8) eX5_lives_56 (by decide) ?_
                refine A.il2 eX5_lives_58 ?_
                refine A.imulN eX5_lives_59 ?_
                refine A.il3 eX5_lives_60 ?_
                refine A.iaddN eX5_lives_61 ?_
                refine A.al0 eX5_lives_62 ?_
                refine A.il2 eX5_lives_63 ?_
                refine A.il3 eX5_lives_64 ?_
                refine A.il1 eX5_lives_65 ?_
                refine A.cVi3 eX5_lives_66 oX5_whereOf kX5_162 ko42 (sX5_whereOf (n := n) (nq := nq) (gh := gh) (gp := gp) (gq := gq) (by omega) (by omega) hn (M3.cg (fun j _ => by rw [ur_n (by omega), e1.1 51 (by omega) (by omega) (by omega)]) hG) (by rw [ur_n (by omega), e1.1 49 (by omega) (by omega) (by omega)]; exact hnq) hq6 ?_)
                refine A.iastN eX5_lives_69 ka52 ?_
                refine A.inc3N eX5_lives_70 ?_
                refine A.goto eX5_lives_73 ?_
                refine ih (i + 1) _ (by omega) (by omega) ((e1.ro (Or.inr (Or.inl rfl))).ro (Or.inl rfl)) (fun g hg => ⟨fun p hp => ?_, ?_⟩) (fun p hp => ?_)
                · rw [ur_s, upd_n (by omega), ur_n (by omega), ur_n (by omega), ur_s, upd_n (by omega)]
                  exact (e2 g hg).1 p hp
                · rw [ur_n (by omega), ur_n (by omega)]; exact (e2 g hg).2
                · rw [ur_s, ur_n (show (52 : Nat) ≠ 53 by omega), ur_n (show (53 : Nat) ≠ 52 by omega), ur_s]
                  by_cases e : p = i
                  · rw [e, upd_s, upd_s]
                    exact ⟨rfl, rfl, brf_le (fun q hq => (hb0 q hq).2) h i (by omega)⟩
                  · rw [upd_n (by omega), upd_n (by omega)]
                    exact e3 p (by omega)
              · refine A.al0 eX5_lives_34 ?_
                refine A.getR eX5_lives_35 fX5_43 ko42 kr42_14 ?_
                refine A.il3 eX5_lives_38 ?_
                refine A.ialdN eX5_lives_39 ka54 ?_
                refine A.top (show ξ.1 54 i = nI (b0 i) by rw [e1.1 54 (by omega) (by omega) (by omega)]; exact (hb0 i (by omega)).1) ?_
                refine A.goto eX5_lives_40 ?_
                refine A.top (show nI (b0 i) = nI ((brf kd (fun h p => plf (tlf gh gp gq n) nq h p) b0 np) h i) from by rw [yd1]; rfl) ?_
                refine A.iastN eX5_lives_51 ka53 ?_
                refine A.al0 eX5_lives_52 ?_
                refine A.getR eX5_lives_53 fX5_37 ko42 kr42_12 ?_
                refine A.bipush (v := nI 8) eX5_lives_56 (by decide) ?_
                refine A.il2 eX5_lives_58 ?_
                refine A.imulN eX5_lives_59 ?_
                refine A.il3 eX5_lives_60 ?_
                refine A.iaddN eX5_lives_61 ?_
                refine A.al0 eX5_lives_62 ?_
                refine A.il2 eX5_lives_63 ?_
                refine A.il3 eX5_lives_64 ?_
                refine A.il1 eX5_lives_65 ?_
                refine A.cVi3 eX5_lives_66 oX5_whereOf kX5_162 ko42 (sX5_whereOf (n := n) (nq := nq) (gh := gh) (gp := gp) (gq := gq) (by omega) (by omega) hn (M3.cg (fun j _ => by rw [ur_n (by omega), e1.1 51 (by omega) (by omega) (by omega)]) hG) (by rw [ur_n (by omega), e1.1 49 (by omega) (by omega) (by omega)]; exact hnq) hq6 ?_)
                refine A.iastN eX5_lives_69 ka52 ?_
                refine A.inc3N eX5_lives_70 ?_
                refine A.goto eX5_lives_73 ?_
                refine ih (i + 1) _ (by omega) (by omega) ((e1.ro (Or.inr (Or.inl rfl))).ro (Or.inl rfl)) (fun g hg => ⟨fun p hp => ?_, ?_⟩) (fun p hp => ?_)
                · rw [ur_s, upd_n (by omega), ur_n (by omega), ur_n (by omega), ur_s, upd_n (by omega)]
                  exact (e2 g hg).1 p hp
                · rw [ur_n (by omega), ur_n (by omega)]; exact (e2 g hg).2
                · rw [ur_s, ur_n (show (52 : Nat) ≠ 53 by omega), ur_n (show (53 : Nat) ≠ 52 by omega), ur_s]
                  by_cases e : p = i
                  · rw [e, upd_s, upd_s]
                    exact ⟨rfl, rfl, brf_le (fun q hq => (hb0 q hq).2) h i (by omega)⟩
                  · rw [upd_n (by omega), upd_n (by omega)]
                    exact e3 p (by omega)
        exact lp (np + 1) 0 ξ (by omega) (by omega) e1 e2 (fun p hp => by omega)
  exact A.eqw (by simp [wkL]) rfl rfl (lo 25 0 σ (by omega) (by omega) (Fz.rf σ) (fun g hg => by omega))
