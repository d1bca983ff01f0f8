theorem MI.setG {x : XS} {σ τ : St} {g : X3} (h : MI x σ) (e : ∀ k, k ≠ 42 → k ≠ 51 → τ.1 k = σ.1 k) (e2 : ∀ j, j ≠ 10 → τ.1 42 j = σ.1 42 j) (hg : MG (wg x g) τ) : MI (wg x g) τ := by
  obtain ⟨g1, g2, g3, g4, g5, g6⟩ := h
  exact ⟨MT.cg (e 47 (by omega) (by omega)) (e 48 (by omega) (by omega)) g1, hg, MS.cg (e2 18 (by omega)) (e 58 (by omega) (by omega)) g3, MF.cg (e2 20 (by omega)) (e 59 (by omega) (by omega)) g4, MH.cg (e 43 (by omega) (by omega)) (e 44 (by omega) (by omega)) (e 45 (by omega) (by omega)) g5, (e2 4 (by omega)).trans g6⟩
theorem MI.setS {x : XS} {σ τ : St} {g : X3} (h : MI x σ) (e : ∀ k, k ≠ 42 → k ≠ 58 → τ.1 k = σ.1 k) (e2 : ∀ j, j ≠ 18 → τ.1 42 j = σ.1 42 j) (hg : MS (ws x g) τ) : MI (ws x g) τ := by
  obtain ⟨g1, g2, g3, g4, g5, g6⟩ := h
  exact ⟨MT.cg (e 47 (by omega) (by omega)) (e 48 (by omega) (by omega)) g1, MG.cg (e2 10 (by omega)) (fun j _ => by rw [e 51 (by omega) (by omega)]) g2, hg, MF.cg (e2 20 (by omega)) (e 59 (by omega) (by omega)) g4, MH.cg (e 43 (by omega) (by omega)) (e 44 (by omega) (by omega)) (e 45 (by omega) (by omega)) g5, (e2 4 (by omega)).trans g6⟩
theorem MI.setF {x : XS} {σ τ : St} {g : X3} (h : MI x σ) (e : ∀ k, k ≠ 42 → k ≠ 59 → τ.1 k = σ.1 k) (e2 : ∀ j, j ≠ 20 → τ.1 42 j = σ.1 42 j) (hg : MF (wf x g) τ) : MI (wf x g) τ := by
  obtain ⟨g1, g2, g3, g4, g5, g6⟩ := h
  exact ⟨MT.cg (e 47 (by omega) (by omega)) (e 48 (by omega) (by omega)) g1, MG.cg (e2 10 (by omega)) (fun j _ => by rw [e 51 (by omega) (by omega)]) g2, MS.cg (e2 18 (by omega)) (e 58 (by omega) (by omega)) g3, hg, MH.cg (e 43 (by omega) (by omega)) (e 44 (by omega) (by omega)) (e 45 (by omega) (by omega)) g5, (e2 4 (by omega)).trans g6⟩
set_option maxRecDepth 100000 in
set_option maxHeartbeats 4000000 in
theorem aX5_copy {G : GW} {σ : St} {K : Int32 → St → Prop} {x : XS} {i a k b n : Int32} (hM : MI x σ) (hQ : ∀ τ : St, MI (Ncopy x i a k b n) τ → Fm σ τ → K (Rcopy x i a k b n) τ) : Ci G (r0 2 45) mX5_copy [rf G 42, .int i, .int a, .int k, .int b, .int n] σ K := by
  refine Ci.of [some (rf G 42), some (.int i), some (.int a), some (.int k), some (.int b), some (.int n), none] ?_
  unfold Rcopy Ncopy at hQ
  refine A.il1 eX5_copy_0 ?_
  refine A.cSi1 eX5_copy_1 oX5_isSheet kX5_77 (sX5_isSheet ?_)
  refine A.if_eqB eX5_copy_4 (fun yw0 => ?_) (fun yw0 => ?_)
  · refine A.bipush (v := -2) eX5_copy_14 (by decide) ?_
    refine B.iret eX5_copy_16 ?_
    simp only [if_neg (show ¬ (ck i 4 ∧ ck k 4) from fun z => yw0 z.1)] at hQ
    exact hQ σ hM (Fm.rf _)
  · refine A.il3 eX5_copy_7 ?_
    refine A.cSi1 eX5_copy_8 oX5_isSheet kX5_77 (sX5_isSheet ?_)
    refine A.if_neB eX5_copy_11 (fun yw1 => ?_) (fun yw1 => ?_)
    · simp only [if_pos (show ck i 4 ∧ ck k 4 from ⟨yw0, yw1⟩)] at hQ
      obtain ⟨i, bi, rfl⟩ := i_nat yw0.1 yw0.2
      obtain ⟨k, bk, rfl⟩ := i_nat yw1.1 yw1.2
      try simp only [nI_clamp (n := i) (by omega), nI_clamp (n := k) (by omega)] at hQ
      have hH := hM.hs bi
      have hov := ov_neg (fun g e => (hH.2.1 g e).1)
      have hH2 := hM.hs bk
      have hov2 := ov_neg (fun g e => (hH2.2.1 g e).1)
      refine A.al0 eX5_copy_17 ?_
      refine A.getR eX5_copy_18 fX5_7 ko42 kr42_0 ?_
      refine A.il1 eX5_copy_21 ?_
      refine A.ialdN eX5_copy_22 ka43 ?_
      refine A.top hH.1 ?_
      refine A.if_ltI eX5_copy_23 (fun yd1 => ?_) (fun yd1 => ?_)
      · have yl : ov ((xh x).1 i) = -1 ∨ ov ((xh x).1 k) = -1 := Or.inl (hov.mp yd1)
        refine A.al0 eX5_copy_35 ?_
        refine A.iconst (v := nI 1) eX5_copy_36 (by decide) ?_
        refine A.cVi1 eX5_copy_37 oX5_finds kX5_83 ko42 (sX5_finds ?_)
        refine B.iret eX5_copy_40 ?_
        simp only [if_pos yl] at hQ
        exact hQ _ hM.setL ((Fm.rf σ).ro (by omega))
      · refine A.al0 eX5_copy_26 ?_
        refine A.getR eX5_copy_27 fX5_7 ko42 kr42_0 ?_
        refine A.il3 eX5_copy_30 ?_
        refine A.ialdN eX5_copy_31 ka43 ?_
        refine A.top hH2.1 ?_
        refine A.if_geI eX5_copy_32 (fun yd2 => ?_) (fun yd2 => ?_)
        · have hl1 : ¬ ov ((xh x).1 i) = -1 := fun z => absurd (hov.mpr z) (by omega)
          have hl2 : ¬ ov ((xh x).1 k) = -1 := fun z => absurd (hov2.mpr z) (by omega)
          obtain ⟨g, eg0, eg1, eg2, eg⟩ := hM.sg bi hl1
          obtain ⟨gk, ek0, ek1, ek2, ek⟩ := hM.sg bk hl2
          simp only [if_neg (show ¬ (ov ((xh x).1 i) = -1 ∨ ov ((xh x).1 k) = -1) from fun z => z.elim hl1 hl2)] at hQ
          refine A.al0 eX5_copy_41 ?_
          refine A.getR eX5_copy_42 fX5_7 ko42 kr42_0 ?_
          refine A.il1 eX5_copy_45 ?_
          refine A.ialdN eX5_copy_46 ka43 ?_
          refine A.top hH.1 ?_
          refine A.al0 eX5_copy_47 ?_
          refine A.getR eX5_copy_48 fX5_7 ko42 kr42_0 ?_
          refine A.il3 eX5_copy_51 ?_
          refine A.ialdN eX5_copy_52 ka43 ?_
          refine A.top hH2.1 ?_
          refine A.icmp_eq eX5_copy_53 (fun yd3 => ?_) (fun yd3 => ?_)
          · simp only [if_neg (not_not_intro yd3)] at hQ
            refine A.il2 eX5_copy_62 ?_
            refine A.if_ltI eX5_copy_63 (fun yda => ?_) (fun yda => ?_)
            · have yh : ¬ ((0 ≤ a.toInt ∧ 0 ≤ n.toInt ∧ a.toInt + n.toInt ≤ (xz x i : Int)) ∧ (0 ≤ b.toInt ∧ 0 ≤ n.toInt ∧ b.toInt + n.toInt ≤ (xz x k : Int))) := fun z => by have := z.1.1; omega
              refine A.al0 eX5_copy_111 ?_
              refine A.iconst (v := nI 2) eX5_copy_112 (by decide) ?_
              refine A.cVi1 eX5_copy_113 oX5_finds kX5_83 ko42 (sX5_finds ?_)
              refine B.iret eX5_copy_116 ?_
              simp only [if_neg yh] at hQ
              exact hQ _ hM.setL ((Fm.rf σ).ro (by omega))
            · refine A.il4 eX5_copy_66 ?_
              refine A.if_ltI eX5_copy_68 (fun ydb => ?_) (fun ydb => ?_)
              · have yh : ¬ ((0 ≤ a.toInt ∧ 0 ≤ n.toInt ∧ a.toInt + n.toInt ≤ (xz x i : Int)) ∧ (0 ≤ b.toInt ∧ 0 ≤ n.toInt ∧ b.toInt + n.toInt ≤ (xz x k : Int))) := fun z => by have := z.2.1; omega
                refine A.al0 eX5_copy_111 ?_
                refine A.iconst (v := nI 2) eX5_copy_112 (by decide) ?_
                refine A.cVi1 eX5_copy_113 oX5_finds kX5_83 ko42 (sX5_finds ?_)
                refine B.iret eX5_copy_116 ?_
                simp only [if_neg yh] at hQ
                exact hQ _ hM.setL ((Fm.rf σ).ro (by omega))
              · refine A.il5 eX5_copy_71 ?_
                refine A.if_ltI eX5_copy_73 (fun ydn => ?_) (fun ydn => ?_)
                · have yh : ¬ ((0 ≤ a.toInt ∧ 0 ≤ n.toInt ∧ a.toInt + n.toInt ≤ (xz x i : Int)) ∧ (0 ≤ b.toInt ∧ 0 ≤ n.toInt ∧ b.toInt + n.toInt ≤ (xz x k : Int))) := fun z => by have := z.1.2.1; omega
                  refine A.al0 eX5_copy_111 ?_
                  refine A.iconst (v := nI 2) eX5_copy_112 (by decide) ?_
                  refine A.cVi1 eX5_copy_113 oX5_finds kX5_83 ko42 (sX5_finds ?_)
                  refine B.iret eX5_copy_116 ?_
                  simp only [if_neg yh] at hQ
                  exact hQ _ hM.setL ((Fm.rf σ).ro (by omega))
                · obtain ⟨a, ba, rfl⟩ := i_nat (n := 2147483648) yda (by have := Int32.toInt_lt a; omega)
                  obtain ⟨b, bb, rfl⟩ := i_nat (n := 2147483648) ydb (by have := Int32.toInt_lt b; omega)
                  obtain ⟨n, bn, rfl⟩ := i_nat (n := 2147483648) ydn (by have := Int32.toInt_lt n; omega)
                  have z60 := hH.2.2.1
                  have z61 := hH2.2.2.1
                  refine A.il2 eX5_copy_76 ?_
                  refine A.i2l eX5_copy_77 rfl ?_
                  refine A.il5 eX5_copy_78 ?_
                  refine A.i2l eX5_copy_80 rfl ?_
                  refine A.ladd eX5_copy_81 ?_
                  refine A.al0 eX5_copy_82 ?_
                  refine A.getR eX5_copy_83 fX5_13 ko42 kr42_1 ?_
                  refine A.il1 eX5_copy_86 ?_
                  refine A.ialdN eX5_copy_87 ka44 ?_
                  refine A.top eg ?_
                  refine A.i2l eX5_copy_88 rfl ?_
                  rw [i64_nI (show a < 2147483648 by omega), i64_nI (show n < 2147483648 by omega), i64_nI (show xz x i < 2147483648 by omega), lN_add]
                  refine A.lcmp eX5_copy_89 ?_
                  refine A.if_gtI eX5_copy_90 (fun yd4 => ?_) (fun yd4 => ?_)
                  · have yh : ¬ ((0 ≤ (nI a).toInt ∧ 0 ≤ (nI n).toInt ∧ (nI a).toInt + (nI n).toInt ≤ (xz x i : Int)) ∧ (0 ≤ (nI b).toInt ∧ 0 ≤ (nI n).toInt ∧ (nI b).toInt + (nI n).toInt ≤ (xz x k : Int))) := fun z => by
                      have w := z.1.2.2
                      have v := lggt.mp yd4
                      rw [pk_lT (by omega), pk_lT (by omega)] at v
                      rw [nI_ti (by omega), nI_ti (by omega)] at w
                      omega
                    refine A.al0 eX5_copy_111 ?_
                    refine A.iconst (v := nI 2) eX5_copy_112 (by decide) ?_
                    refine A.cVi1 eX5_copy_113 oX5_finds kX5_83 ko42 (sX5_finds ?_)
                    refine B.iret eX5_copy_116 ?_
                    simp only [if_neg yh] at hQ
                    exact hQ _ hM.setL ((Fm.rf σ).ro (by omega))
                  · refine A.il4 eX5_copy_93 ?_
                    refine A.i2l eX5_copy_95 rfl ?_
                    refine A.il5 eX5_copy_96 ?_
                    refine A.i2l eX5_copy_98 rfl ?_
                    refine A.ladd eX5_copy_99 ?_
                    refine A.al0 eX5_copy_100 ?_
                    refine A.getR eX5_copy_101 fX5_13 ko42 kr42_1 ?_
                    refine A.il3 eX5_copy_104 ?_
                    refine A.ialdN eX5_copy_105 ka44 ?_
                    refine A.top ek ?_
                    refine A.i2l eX5_copy_106 rfl ?_
                    rw [i64_nI (show b < 2147483648 by omega), i64_nI (show n < 2147483648 by omega), i64_nI (show xz x k < 2147483648 by omega), lN_add]
                    refine A.lcmp eX5_copy_107 ?_
                    refine A.if_leI eX5_copy_108 (fun yd5 => ?_) (fun yd5 => ?_)
                    · have v4 : a + n ≤ xz x i := Nat.le_of_not_lt fun z => absurd (lggt.mpr (by rw [pk_lT (by omega), pk_lT (by omega)]; omega)) (Int.not_lt.mpr yd4)
                      have v5 : b + n ≤ xz x k := Nat.le_of_not_lt fun z => absurd (lggt.mpr (by rw [pk_lT (by omega), pk_lT (by omega)]; omega)) (Int.not_lt.mpr yd5)
                      have yh : (0 ≤ (nI a).toInt ∧ 0 ≤ (nI n).toInt ∧ (nI a).toInt + (nI n).toInt ≤ (xz x i : Int)) ∧ (0 ≤ (nI b).toInt ∧ 0 ≤ (nI n).toInt ∧ (nI b).toInt + (nI n).toInt ≤ (xz x k : Int)) := ⟨⟨yda, ydn, by rw [nI_ti (by omega), nI_ti (by omega)]; omega⟩, ydb, ydn, by rw [nI_ti (by omega), nI_ti (by omega)]; omega⟩
                      simp only [if_pos yh, nI_clamp (n := a) (by omega), nI_clamp (n := b) (by omega), nI_clamp (n := n) (by omega)] at hQ
                      refine A.iconst (v := nI 0) eX5_copy_117 (by decide) ?_
                      refine A.is6 eX5_copy_118 ?_
                      have lp : ∀ (fu c : Nat) (ξ : St), n - c < fu → c ≤ n → (∀ k, k ≠ 46 → ξ.1 k = σ.1 k) → (∀ j, j < c → ξ.1 46 j = σ.1 45 (60 * i + a + j)) → B G (r0 2 45) mX5_copy 120 [some (rf G 42), some (.int (nI i)), some (.int (nI a)), some (.int (nI k)), some (.int (nI b)), some (.int (nI n)), some (.int (nI c))] [] (ξ) (Pi K) := by
                        intro fu
                        induction fu with
                        | zero => intro c ξ h1 h2; omega
                        | succ fu ih =>
                          intro c ξ h1 h2 e1 e2
                          refine A.il6 eX5_copy_120 ?_
                          refine A.il5 eX5_copy_122 ?_
                          refine A.icmp_geN eX5_copy_124 (fun c11 => ?_) (fun c11 => ?_)
                          · refine A.iconst (v := nI 0) eX5_copy_154 (by decide) ?_
                            refine A.is6 eX5_copy_155 ?_
                            have lq : ∀ (fu d : Nat) (ρ : St), n - d < fu → d ≤ n → (∀ k, k ≠ 45 → ρ.1 k = ξ.1 k) → (∀ j, ρ.1 45 j = if 60 * k + b ≤ j ∧ j < 60 * k + b + d then σ.1 45 (60 * i + a + (j - (60 * k + b))) else σ.1 45 j) → B G (r0 2 45) mX5_copy 157 [some (rf G 42), some (.int (nI i)), some (.int (nI a)), some (.int (nI k)), some (.int (nI b)), some (.int (nI n)), some (.int (nI d))] [] (ρ) (Pi K) := by
                              intro fu
                              induction fu with
                              | zero => intro d ρ h1 h2; omega
                              | succ fu ih2 =>
                                intro d ρ h1 h2 r1 r2
                                refine A.il6 eX5_copy_157 ?_
                                refine A.il5 eX5_copy_159 ?_
                                refine A.icmp_geN eX5_copy_161 (fun c12 => ?_) (fun c12 => ?_)
                                · refine A.iconst (v := nI 1) eX5_copy_192 (by decide) ?_
                                  refine B.iret eX5_copy_193 ?_
                                  have ed : d = n := by omega
                                  have rr : ∀ k, k ≠ 45 → k ≠ 46 → ρ.1 k = σ.1 k := fun k p q => (r1 k p).trans (e1 k q)
                                  refine hQ ρ (MI.setH hM (fun k p q r s => rr k r s) (fun k hk => by rw [rr 43 (by omega) (by omega)]) (fun k hk => by rw [rr 44 (by omega) (by omega)]) (fun j hj => by rw [r2 j, if_neg (by omega)]) (by rw [rr 43 (by omega) (by omega)]; exact hH2.1) (Or.inr ⟨⟨gk, ek0, ek1⟩, by rw [rr 44 (by omega) (by omega), ← ek2]; exact ek, by omega, fun j hj => ?_⟩)) (fun k hk => rr k (by omega) (by omega))
                                  rw [r2]
                                  unfold va_cpy
                                  by_cases q : b ≤ j ∧ j < b + n
                                  · rw [if_pos (by omega), if_pos q, show 60 * i + a + (60 * k + j - (60 * k + b)) = 60 * i + (a + (j - b)) by omega]
                                    exact hH.2.2.2 _ (by omega)
                                  · rw [if_neg (by omega), if_neg q]
                                    exact hH2.2.2.2 j (by omega)
                                · refine A.al0 eX5_copy_164 ?_
                                  refine A.getR eX5_copy_165 fX5_16 ko42 kr42_2 ?_
                                  refine A.bipush (v := nI 60) eX5_copy_168 (by decide) ?_
                                  refine A.il3 eX5_copy_170 ?_
                                  refine A.imulN eX5_copy_171 ?_
                                  refine A.il4 eX5_copy_172 ?_
                                  refine A.iaddN eX5_copy_174 ?_
                                  refine A.il6 eX5_copy_175 ?_
                                  refine A.iaddN eX5_copy_177 ?_
                                  refine A.al0 eX5_copy_178 ?_
                                  refine A.getR eX5_copy_179 fX5_19 ko42 kr42_3 ?_
                                  refine A.il6 eX5_copy_182 ?_
                                  refine A.ialdN eX5_copy_184 ka46 ?_
                                  refine A.iastN eX5_copy_185 ka45 ?_
                                  refine A.inc6N eX5_copy_186 ?_
                                  refine A.goto eX5_copy_189 ?_
                                  refine ih2 (d + 1) _ (by omega) (by omega) (fun k hk => by rw [ur_n hk]; exact r1 k hk) (fun j => ?_)
                                  rw [ur_s]
                                  by_cases e : j = 60 * k + b + d
                                  · rw [e, upd_s, if_pos (by omega), r1 46 (by omega), e2 d (by omega), show 60 * k + b + d - (60 * k + b) = d by omega]
                                  · rw [upd_n e, r2 j]
                                    by_cases q : 60 * k + b ≤ j ∧ j < 60 * k + b + d
                                    · rw [if_pos q, if_pos (by omega)]
                                    · rw [if_neg q, if_neg (by omega)]
                            have ec : c = n := by omega
                            subst ec
                            exact lq (c + 1) 0 ξ (by omega) (by omega) (fun _ _ => rfl) (fun j => by rw [if_neg (by omega), e1 45 (by omega)])
                          · refine A.al0 eX5_copy_127 ?_
                            refine A.getR eX5_copy_128 fX5_19 ko42 kr42_3 ?_
                            refine A.il6 eX5_copy_131 ?_
                            refine A.al0 eX5_copy_133 ?_
                            refine A.getR eX5_copy_134 fX5_16 ko42 kr42_2 ?_
                            refine A.bipush (v := nI 60) eX5_copy_137 (by decide) ?_
                            refine A.il1 eX5_copy_139 ?_
                            refine A.imulN eX5_copy_140 ?_
                            refine A.il2 eX5_copy_141 ?_
                            refine A.iaddN eX5_copy_142 ?_
                            refine A.il6 eX5_copy_143 ?_
                            refine A.iaddN eX5_copy_145 ?_
                            refine A.ialdN eX5_copy_146 ka45 ?_
                            refine A.iastN eX5_copy_147 ka46 ?_
                            refine A.inc6N eX5_copy_148 ?_
                            refine A.goto eX5_copy_151 ?_
                            refine ih (c + 1) _ (by omega) (by omega) (fun k hk => by rw [ur_n hk]; exact e1 k hk) (fun j hj => ?_)
                            rw [ur_s]
                            by_cases e : j = c
                            · rw [e, upd_s, e1 45 (by omega)]
                            · rw [upd_n e]; exact e2 j (by omega)
                      exact lp (n + 1) 0 σ (by omega) (by omega) (fun _ _ => rfl) (fun j hj => by omega)
                    · have yh : ¬ ((0 ≤ (nI a).toInt ∧ 0 ≤ (nI n).toInt ∧ (nI a).toInt + (nI n).toInt ≤ (xz x i : Int)) ∧ (0 ≤ (nI b).toInt ∧ 0 ≤ (nI n).toInt ∧ (nI b).toInt + (nI n).toInt ≤ (xz x k : Int))) := fun z => by
                        have w := z.2.2.2
                        have v := lggt.mp yd5
                        rw [pk_lT (by omega), pk_lT (by omega)] at v
                        rw [nI_ti (by omega), nI_ti (by omega)] at w
                        omega
                      refine A.al0 eX5_copy_111 ?_
                      refine A.iconst (v := nI 2) eX5_copy_112 (by decide) ?_
                      refine A.cVi1 eX5_copy_113 oX5_finds kX5_83 ko42 (sX5_finds ?_)
                      refine B.iret eX5_copy_116 ?_
                      simp only [if_neg yh] at hQ
                      exact hQ _ hM.setL ((Fm.rf σ).ro (by omega))
          · refine A.al0 eX5_copy_56 ?_
            refine A.iconst (v := nI 4) eX5_copy_57 (by decide) ?_
            refine A.cVi1 eX5_copy_58 oX5_finds kX5_83 ko42 (sX5_finds ?_)
            refine B.iret eX5_copy_61 ?_
            simp only [if_pos yd3] at hQ
            exact hQ _ hM.setL ((Fm.rf σ).ro (by omega))
        · have yl : ov ((xh x).1 i) = -1 ∨ ov ((xh x).1 k) = -1 := Or.inr (hov2.mp yd2)
          refine A.al0 eX5_copy_35 ?_
          refine A.iconst (v := nI 1) eX5_copy_36 (by decide) ?_
          refine A.cVi1 eX5_copy_37 oX5_finds kX5_83 ko42 (sX5_finds ?_)
          refine B.iret eX5_copy_40 ?_
          simp only [if_pos yl] at hQ
          exact hQ _ hM.setL ((Fm.rf σ).ro (by omega))
    · refine A.bipush (v := -2) eX5_copy_14 (by decide) ?_
      refine B.iret eX5_copy_16 ?_
      simp only [if_neg (show ¬ (ck i 4 ∧ ck k 4) from fun z => yw1 z.2)] at hQ
      exact hQ σ hM (Fm.rf _)
set_option maxRecDepth 100000 in
set_option maxHeartbeats 4000000 in
theorem sX5_goes {G : GW} {σ : St} {K : St → Prop} {k : Nat} {a b c : Int32} (hk : k < 44) (hQ : K (g3 σ 51 k a b c)) : Cv G (r0 0 0) mX5_goes [rf G 42, .int (nI k), .int a, .int b, .int c] σ K := by
  refine Cv.of [some (rf G 42), some (.int (nI k)), some (.int a), some (.int b), some (.int c)] ?_
  refine A.al0 eX5_goes_0 ?_
  refine A.getR eX5_goes_1 fX5_34 ko42 kr42_11 ?_
  refine A.iconst (v := nI 3) eX5_goes_4 (by decide) ?_
  refine A.il1 eX5_goes_5 ?_
  refine A.imulN eX5_goes_6 ?_
  refine A.il2 eX5_goes_7 ?_
  refine A.iastN eX5_goes_8 ka51 ?_
  refine A.al0 eX5_goes_9 ?_
  refine A.getR eX5_goes_10 fX5_34 ko42 kr42_11 ?_
  refine A.iconst (v := nI 3) eX5_goes_13 (by decide) ?_
  refine A.il1 eX5_goes_14 ?_
  refine A.imulN eX5_goes_15 ?_
  refine A.iconst (v := nI 1) eX5_goes_16 (by decide) ?_
  refine A.iaddN eX5_goes_17 ?_
  refine A.il3 eX5_goes_18 ?_
  refine A.iastN eX5_goes_19 ka51 ?_
  refine A.al0 eX5_goes_20 ?_
  refine A.getR eX5_goes_21 fX5_34 ko42 kr42_11 ?_
  refine A.iconst (v := nI 3) eX5_goes_24 (by decide) ?_
  refine A.il1 eX5_goes_25 ?_
  refine A.imulN eX5_goes_26 ?_
  refine A.iconst (v := nI 2) eX5_goes_27 (by decide) ?_
  refine A.iaddN eX5_goes_28 ?_
  refine A.il4 eX5_goes_29 ?_
  refine A.iastN eX5_goes_31 ka51 ?_
  refine B.vret eX5_goes_32 ?_
  exact hQ
set_option maxRecDepth 100000 in
set_option maxHeartbeats 4000000 in
theorem aX5_go {G : GW} {σ : St} {K : Int32 → St → Prop} {x : XS} {a b c : Int32} (hM : MI x σ) (hQ : ∀ τ : St, MI (Ngo x a b c) τ → Fm σ τ → K (Rgo x a b c) τ) : Ci G (r0 2 45) mX5_go [rf G 42, .int a, .int b, .int c] σ K := by
  refine Ci.of [some (rf G 42), some (.int a), some (.int b), some (.int c)] ?_
  unfold Rgo Ngo at hQ
  have g20 := hM.2.1.2.1
  refine A.il1 eX5_go_0 ?_
  refine A.cSi1 eX5_go_1 oX5_isHour kX5_133 (sX5_isHour ?_)
  refine A.if_eqB eX5_go_4 (fun yw0 => ?_) (fun yw0 => ?_)
  · refine A.bipush (v := -2) eX5_go_21 (by decide) ?_
    refine B.iret eX5_go_23 ?_
    simp only [if_neg (show ¬ (ck a 24 ∧ ck b 8 ∧ ck c 6) from fun z => yw0 z.1)] at hQ
    exact hQ σ hM (Fm.rf _)
  · refine A.il2 eX5_go_7 ?_
    refine A.cSi1 eX5_go_8 oX5_isAnyone kX5_136 (sX5_isAnyone ?_)
    refine A.if_eqB eX5_go_11 (fun yw1 => ?_) (fun yw1 => ?_)
    · refine A.bipush (v := -2) eX5_go_21 (by decide) ?_
      refine B.iret eX5_go_23 ?_
      simp only [if_neg (show ¬ (ck a 24 ∧ ck b 8 ∧ ck c 6) from fun z => yw1 z.2.1)] at hQ
      exact hQ σ hM (Fm.rf _)
    · refine A.il3 eX5_go_14 ?_
      refine A.cSi1 eX5_go_15 oX5_isAnyPlace kX5_139 (sX5_isAnyPlace ?_)
      refine A.if_neB eX5_go_18 (fun yw2 => ?_) (fun yw2 => ?_)
      · simp only [if_pos (show ck a 24 ∧ ck b 8 ∧ ck c 6 from ⟨yw0, yw1, yw2⟩)] at hQ
        obtain ⟨a, ba, rfl⟩ := i_nat yw0.1 yw0.2
        obtain ⟨b, bb, rfl⟩ := i_nat yw1.1 yw1.2
        obtain ⟨c, bc, rfl⟩ := i_nat yw2.1 yw2.2
        try simp only [nI_clamp (n := a) (by omega), nI_clamp (n := b) (by omega), nI_clamp (n := c) (by omega)] at hQ
        refine A.al0 eX5_go_24 ?_
        refine A.getI eX5_go_25 fX5_142 ko42 ?_
        refine A.top hM.2.1.1 ?_
        refine A.bipush (v := nI 20) eX5_go_28 (by decide) ?_
        refine A.icmp_neN eX5_go_30 (fun yd1 => ?_) (fun yd1 => ?_)
        · have h20 : (xg x).1 < 20 := by have := hM.2.1.2.1; omega
          simp only [if_pos h20] at hQ
          refine A.al0 eX5_go_36 ?_
          refine A.al0 eX5_go_37 ?_
          refine A.getI eX5_go_38 fX5_142 ko42 ?_
          refine A.top hM.2.1.1 ?_
          refine A.il1 eX5_go_41 ?_
          refine A.il2 eX5_go_42 ?_
          refine A.il3 eX5_go_43 ?_
          refine A.cVv4 eX5_go_44 oX5_goes kX5_145 ko42 (sX5_goes (k := (xg x).1) (by omega) ?_)
          refine A.al0 eX5_go_47 ?_
          refine A.dup eX5_go_48 rfl ?_
          refine A.getI eX5_go_49 fX5_142 ko42 ?_
          refine A.top (show (g3 σ 51 (xg x).1 (nI a) (nI b) (nI c)).1 42 10 = nI (xg x).1 by rw [g3_at.2.2.2.2 42 (by omega)]; exact hM.2.1.1) ?_
          refine A.iconst (v := nI 1) eX5_go_52 (by decide) ?_
          refine A.iaddN eX5_go_53 ?_
          refine A.putI eX5_go_54 pX5_142 ko42 ?_
          refine A.al0 eX5_go_57 ?_
          refine A.getI eX5_go_58 fX5_142 ko42 ?_
          refine A.top (show _ = nI ((xg x).1 + 1) by rw [ur_s, upd_s]) ?_
          refine B.iret eX5_go_61 ?_
          refine hQ _ (MI.setG hM (fun k p q => by rw [ur_n p]; exact g3_at.2.2.2.2 k q) (fun j hj => by rw [ur_s, upd_n hj, g3_at.2.2.2.2 42 (by omega)]) ⟨by rw [ur_s, upd_s]; rfl, h20, ?_⟩) (fun k hk => by rw [ur_n (by omega)]; exact g3_at.2.2.2.2 k (by omega))
          exact M3.add ba bb bc hM.2.1.2.2 (fun j hj => by rw [ur_n (by omega)]; exact g3_at.2.2.2.1 j hj) (by rw [ur_n (by omega)]; exact g3_at.1) (by rw [ur_n (by omega)]; exact g3_at.2.1) (by rw [ur_n (by omega)]; exact g3_at.2.2.1)
        · refine A.bipush (v := -4) eX5_go_33 (by decide) ?_
          refine B.iret eX5_go_35 ?_
          simp only [if_neg (show ¬ (xg x).1 < 20 by omega)] at hQ
          exact hQ σ hM (Fm.rf _)
      · refine A.bipush (v := -2) eX5_go_21 (by decide) ?_
        refine B.iret eX5_go_23 ?_
        simp only [if_neg (show ¬ (ck a 24 ∧ ck b 8 ∧ ck c 6) from fun z => yw2 z.2.2)] at hQ
        exact hQ σ hM (Fm.rf _)
set_option maxRecDepth 100000 in
set_option maxHeartbeats 4000000 in
theorem aX5_back {G : GW} {σ : St} {K : Int32 → St → Prop} {x : XS} (hM : MI x σ) (hQ : ∀ τ : St, MI (Nback x ) τ → Fm σ τ → K (Rback x ) τ) : Ci G (r0 0 0) mX5_back [rf G 42] σ K := by
  refine Ci.of [some (rf G 42)] ?_
  unfold Rback Nback at hQ
  have g20 := hM.2.1.2.1
  refine A.al0 eX5_back_0 ?_
  refine A.getI eX5_back_1 fX5_142 ko42 ?_
  refine A.top hM.2.1.1 ?_
  refine A.if_neN eX5_back_4 (fun yd1 => ?_) (fun yd1 => ?_)
  · refine A.al0 eX5_back_10 ?_
    refine A.dup eX5_back_11 rfl ?_
    refine A.getI eX5_back_12 fX5_142 ko42 ?_
    refine A.top hM.2.1.1 ?_
    refine A.iconst (v := nI 1) eX5_back_15 (by decide) ?_
    refine A.isubN eX5_back_16 ?_
    refine A.putI eX5_back_17 pX5_142 ko42 ?_
    refine A.al0 eX5_back_20 ?_
    refine A.getI eX5_back_21 fX5_142 ko42 ?_
    refine A.top (show _ = nI ((xg x).1 - 1) by rw [ur_s, upd_s]) ?_
    refine B.iret eX5_back_24 ?_
    simp only [if_neg yd1] at hQ
    exact hQ _ (MI.setG hM (fun k p q => ur_n p) (fun j hj => by rw [ur_s, upd_n hj]) ⟨by rw [ur_s, upd_s]; rfl, Nat.le_trans (Nat.sub_le _ _) g20, M3.cg (fun j hj => by rw [ur_n (by omega)]) (hM.2.1.2.2.less (Nat.sub_le _ _))⟩) ((Fm.rf σ).ro (by omega))
  · refine A.bipush (v := -3) eX5_back_7 (by decide) ?_
    refine B.iret eX5_back_9 ?_
    simp only [if_pos yd1] at hQ
    exact hQ σ hM (Fm.rf _)
set_option maxRecDepth 100000 in
set_option maxHeartbeats 4000000 in
theorem aX5_seen {G : GW} {σ : St} {K : Int32 → St → Prop} {x : XS} {h p b : Int32} (hM : MI x σ) (hQ : ∀ τ : St, MI (Nseen x h p b) τ → Fm σ τ → K (Rseen x h p b) τ) : Ci G (r0 2 45) mX5_seen [rf G 42, .int h, .int p, .int b] σ K := by
  refine Ci.of [some (rf G 42), some (.int h), some (.int p), some (.int b)] ?_
  unfold Rseen Nseen at hQ
  have g20 := hM.2.2.1.2.1
  refine A.il1 eX5_seen_0 ?_
  refine A.cSi1 eX5_seen_1 oX5_isHour kX5_133 (sX5_isHour ?_)
  refine A.if_eqB eX5_seen_4 (fun yw0 => ?_) (fun yw0 => ?_)
  · refine A.bipush (v := -2) eX5_seen_26 (by decide) ?_
    refine B.iret eX5_seen_28 ?_
    simp only [if_neg (show ¬ (ck h 24 ∧ ck p 8 ∧ ck b 10) from fun z => yw0 z.1)] at hQ
    exact hQ σ hM (Fm.rf _)
  · refine A.il2 eX5_seen_7 ?_
    refine A.cSi1 eX5_seen_8 oX5_isAnyone kX5_136 (sX5_isAnyone ?_)
    refine A.if_eqB eX5_seen_11 (fun yw1 => ?_) (fun yw1 => ?_)
    · refine A.bipush (v := -2) eX5_seen_26 (by decide) ?_
      refine B.iret eX5_seen_28 ?_
      simp only [if_neg (show ¬ (ck h 24 ∧ ck p 8 ∧ ck b 10) from fun z => yw1 z.2.1)] at hQ
      exact hQ σ hM (Fm.rf _)
    · refine A.il3 eX5_seen_14 ?_
      refine A.i2l eX5_seen_15 rfl ?_
      refine A.lconst (v := 0) eX5_seen_16 (by decide) ?_
      refine A.ldc2 eX5_seen_17 nX5_107 ?_
      refine A.cSi3 eX5_seen_20 oX5_in kX5_67 (sX5_in ?_)
      refine A.top (in_ck (n := 10) (by decide)) ?_
      refine A.if_neB eX5_seen_23 (fun yw2 => ?_) (fun yw2 => ?_)
      · simp only [if_pos (show ck h 24 ∧ ck p 8 ∧ ck b 10 from ⟨yw0, yw1, yw2⟩)] at hQ
        obtain ⟨h, bh, rfl⟩ := i_nat yw0.1 yw0.2
        obtain ⟨p, bp, rfl⟩ := i_nat yw1.1 yw1.2
        obtain ⟨b, bb, rfl⟩ := i_nat yw2.1 yw2.2
        try simp only [nI_clamp (n := h) (by omega), nI_clamp (n := p) (by omega), nI_clamp (n := b) (by omega)] at hQ
        refine A.al0 eX5_seen_29 ?_
        refine A.getI eX5_seen_30 fX5_232 ko42 ?_
        refine A.top (show _ = nI (xs x).1 by first | exact hM.2.2.1.1 | (rw [ur_n (by omega)]; exact hM.2.2.1.1) | (rw [ur_n (by omega), ur_n (by omega)]; exact hM.2.2.1.1)) ?_
        refine A.bipush (v := nI 8) eX5_seen_33 (by decide) ?_
        refine A.icmp_neN eX5_seen_35 (fun yd1 => ?_) (fun yd1 => ?_)
        · have h20 : (xs x).1 < 8 := by omega
          simp only [if_pos h20] at hQ
          refine A.al0 eX5_seen_41 ?_
          refine A.getR eX5_seen_42 fX5_55 ko42 kr42_19 ?_
          refine A.iconst (v := nI 3) eX5_seen_45 (by decide) ?_
          refine A.al0 eX5_seen_46 ?_
          refine A.getI eX5_seen_47 fX5_232 ko42 ?_
          refine A.top (show _ = nI (xs x).1 by first | exact hM.2.2.1.1 | (rw [ur_n (by omega)]; exact hM.2.2.1.1) | (rw [ur_n (by omega), ur_n (by omega)]; exact hM.2.2.1.1)) ?_
          refine A.imulN eX5_seen_50 ?_
          refine A.il1 eX5_seen_51 ?_
          refine A.iastN eX5_seen_52 ka58 ?_
          refine A.al0 eX5_seen_53 ?_
          refine A.getR eX5_seen_54 fX5_55 ko42 kr42_19 ?_
          refine A.iconst (v := nI 3) eX5_seen_57 (by decide) ?_
          refine A.al0 eX5_seen_58 ?_
          refine A.getI eX5_seen_59 fX5_232 ko42 ?_
          refine A.top (show _ = nI (xs x).1 by first | exact hM.2.2.1.1 | (rw [ur_n (by omega)]; exact hM.2.2.1.1) | (rw [ur_n (by omega), ur_n (by omega)]; exact hM.2.2.1.1)) ?_
          refine A.imulN eX5_seen_62 ?_
          refine A.iconst (v := nI 1) eX5_seen_63 (by decide) ?_
          refine A.iaddN eX5_seen_64 ?_
          refine A.il2 eX5_seen_65 ?_
          refine A.iastN eX5_seen_66 ka58 ?_
          refine A.al0 eX5_seen_67 ?_
          refine A.getR eX5_seen_68 fX5_55 ko42 kr42_19 ?_
          refine A.iconst (v := nI 3) eX5_seen_71 (by decide) ?_
          refine A.al0 eX5_seen_72 ?_
          refine A.getI eX5_seen_73 fX5_232 ko42 ?_
          refine A.top (show _ = nI (xs x).1 by first | exact hM.2.2.1.1 | (rw [ur_n (by omega)]; exact hM.2.2.1.1) | (rw [ur_n (by omega), ur_n (by omega)]; exact hM.2.2.1.1)) ?_
          refine A.imulN eX5_seen_76 ?_
          refine A.iconst (v := nI 2) eX5_seen_77 (by decide) ?_
          refine A.iaddN eX5_seen_78 ?_
          refine A.il3 eX5_seen_79 ?_
          refine A.iastN eX5_seen_80 ka58 ?_
          refine A.eq rfl rfl (show _ = g3 σ 58 (xs x).1 (nI h) (nI p) (nI b) from rfl) ?_
          refine A.al0 eX5_seen_81 ?_
          refine A.dup eX5_seen_82 rfl ?_
          refine A.getI eX5_seen_83 fX5_232 ko42 ?_
          refine A.top (show (g3 σ 58 (xs x).1 (nI h) (nI p) (nI b)).1 42 18 = nI (xs x).1 by rw [g3_at.2.2.2.2 42 (by omega)]; exact hM.2.2.1.1) ?_
          refine A.iconst (v := nI 1) eX5_seen_86 (by decide) ?_
          refine A.iaddN eX5_seen_87 ?_
          refine A.putI eX5_seen_88 pX5_232 ko42 ?_
          refine A.al0 eX5_seen_91 ?_
          refine A.getI eX5_seen_92 fX5_232 ko42 ?_
          refine A.top (show _ = nI ((xs x).1 + 1) by rw [ur_s, upd_s]) ?_
          refine B.iret eX5_seen_95 ?_
          refine hQ _ (MI.setS hM (fun k p q => by rw [ur_n p]; exact g3_at.2.2.2.2 k q) (fun j hj => by rw [ur_s, upd_n hj, g3_at.2.2.2.2 42 (by omega)]) ⟨by rw [ur_s, upd_s]; rfl, h20, ?_⟩) (fun k hk => by rw [ur_n (by omega)]; exact g3_at.2.2.2.2 k (by omega))
          exact M3.add bh bp bb hM.2.2.1.2.2 (fun j hj => by rw [ur_n (by omega)]; exact g3_at.2.2.2.1 j hj) (by rw [ur_n (by omega)]; exact g3_at.1) (by rw [ur_n (by omega)]; exact g3_at.2.1) (by rw [ur_n (by omega)]; exact g3_at.2.2.1)
        · refine A.bipush (v := -4) eX5_seen_38 (by decide) ?_
          refine B.iret eX5_seen_40 ?_
          simp only [if_neg (show ¬ (xs x).1 < 8 by omega)] at hQ
          exact hQ σ hM (Fm.rf _)
      · refine A.bipush (v := -2) eX5_seen_26 (by decide) ?_
        refine B.iret eX5_seen_28 ?_
        simp only [if_neg (show ¬ (ck h 24 ∧ ck p 8 ∧ ck b 10) from fun z => yw2 z.2.2)] at hQ
        exact hQ σ hM (Fm.rf _)
