theorem lN_16 {c : Nat} (h : c ≤ 16) : (16 : Int64) - lN c = lN (16 - c) := by
  have : ∀ c, c < 17 → (16 : Int64) - lN c = lN (16 - c) := by decide +kernel
  exact this c (by omega)
set_option maxRecDepth 100000 in
set_option maxHeartbeats 4000000 in
theorem sX5_findNews {G : GW} {σ : St} {K : St → Prop} {x : XS} {c q : Nat} (hF : FM x σ) (bc : c < 17) (bq : q < xq x) (hQ : ∀ τ : St, FM x τ → Fq (xg x).1 σ τ → (∀ g, g < 24 → τ.2 60 g = lN (nsum x c g q (2 ^ xp x))) → τ.2 42 23 = lN (16 ^ pop (chg x)) → K τ) : Cv G (r0 4 95) mX5_findNews [rf G 42, .int (nI c), .int (nI q)] σ K := by
  refine Cv.of [some (rf G 42), some (.int (nI c)), some (.int (nI q)), none, none, none, none, none] ?_
  have n8 := hF.np8
  have q6 := hF.nq6
  have g20 := hF.1.2.1.2.1
  have h2p : 2 ^ xp x ≤ 2 ^ 8 := Nat.pow_le_pow_right (by omega) n8
  have hc6 : c ≤ 16 := by omega
  have hch : chg x < 256 := Nat.lt_of_lt_of_le (bits_lt _ _) h2p
  refine A.iconst (v := nI 0) eX5_findNews_0 (by decide) ?_
  refine A.is3 eX5_findNews_1 ?_
  refine A.al0 eX5_findNews_2 ?_
  refine A.lconst (v := 1) eX5_findNews_3 (by decide) ?_
  refine A.putJ eX5_findNews_4 pX5_248 ko42 ?_
  refine A.iconst (v := nI 0) eX5_findNews_7 (by decide) ?_
  refine A.is4 eX5_findNews_8 ?_
  have lp : ∀ (fu i : Nat) (ξ : St), xp x - i < fu → i ≤ xp x → WM x σ ξ → (∀ p, p < xp x → ξ.1 54 p = nI (xb x p)) → ξ.2 42 23 = lN (16 ^ cnt (ncf x) i) → B G (r0 4 95) mX5_findNews 10 [some (rf G 42), some (.int (nI c)), some (.int (nI q)), some (.int (nI (bits (ncf x) i))), some (.int (nI i)), none, none, none] [] (ξ) (Pv K) := by
    intro fu
    induction fu with
    | zero => intro i ξ h1 h2; omega
    | succ fu ih =>
      intro i ξ h1 h2 e1 e2 e3
      refine A.il4 eX5_findNews_10 ?_
      refine A.al0 eX5_findNews_12 ?_
      refine A.getR eX5_findNews_13 fX5_28 ko42 kr42_8 ?_
      refine A.iconst (v := nI 0) eX5_findNews_16 (by decide) ?_
      refine A.ialdN eX5_findNews_17 ka49 ?_
      refine A.top e1.2.1 ?_
      refine A.icmp_geN eX5_findNews_18 (fun c1 => ?_) (fun c1 => ?_)
      · refine A.iconst (v := nI 0) eX5_findNews_72 (by decide) ?_
        refine A.is4 eX5_findNews_73 ?_
        have lb : ∀ (fu k : Nat) (ξ : St), 24 - k < fu → k ≤ 24 → WM x σ ξ → (∀ p, p < xp x → ξ.1 54 p = nI (xb x p)) → ξ.2 42 23 = lN (16 ^ pop (chg x)) → (∀ g, g < k → ξ.2 60 g = lN 0) → B G (r0 4 95) mX5_findNews 75 [some (rf G 42), some (.int (nI c)), some (.int (nI q)), some (.int (nI (chg x))), some (.int (nI k)), none, none, none] [] (ξ) (Pv K) := by
          intro fu
          induction fu with
          | zero => intro k ξ h1 h2; omega
          | succ fu ihb =>
            intro k ξ h1 h2 e1 e2 e3 e4
            refine A.il4 eX5_findNews_75 ?_
            refine A.bipush (v := nI 24) eX5_findNews_77 (by decide) ?_
            refine A.icmp_geN eX5_findNews_79 (fun c2 => ?_) (fun c2 => ?_)
            · refine A.iconst (v := nI 0) eX5_findNews_96 (by decide) ?_
              refine A.is4 eX5_findNews_97 ?_
              have lm_ : ∀ (fu m : Nat) (ξ : St), 2 ^ xp x - m < fu → m ≤ 2 ^ xp x → WM x σ ξ → (∀ g, g < 24 → ξ.2 60 g = lN (nsum x c g q m)) → ξ.2 42 23 = lN (16 ^ pop (chg x)) → B G (r0 4 95) mX5_findNews 99 [some (rf G 42), some (.int (nI c)), some (.int (nI q)), some (.int (nI (chg x))), some (.int (nI m)), none, none, none] [] (ξ) (Pv K) := by
                intro fu
                induction fu with
                | zero => intro m ξ h1 h2; omega
                | succ fu ihm =>
                  intro m ξ h1 h2 e1 e4 e3
                  refine A.il4 eX5_findNews_99 ?_
                  refine A.iconst (v := nI 1) eX5_findNews_101 (by decide) ?_
                  refine A.al0 eX5_findNews_102 ?_
                  refine A.getR eX5_findNews_103 fX5_28 ko42 kr42_8 ?_
                  refine A.iconst (v := nI 0) eX5_findNews_106 (by decide) ?_
                  refine A.ialdN eX5_findNews_107 ka49 ?_
                  refine A.top e1.2.1 ?_
                  refine A.ishl1 eX5_findNews_108 ?_
                  refine A.icmp_geN eX5_findNews_109 (fun c3 => ?_) (fun c3 => ?_)
                  · refine A.al0 eX5_findNews_296 ?_
                    refine A.cVv0 eX5_findNews_297 oX5_plain kX5_168 ko42 (sX5_plain (np := xp x) (b := xb x) e1.2.1 n8 (fun p hp => (e1.2.2.2.1 p hp).1) (fun ρ p1 p2 p3 => ?_))
                    have pf : Fq (xg x).1 ξ ρ := by
                      refine ⟨fun k hk => p1 k (by omega), fun k hk => ?_, fun j _ => by rw [p1 42 (by omega)], fun j _ => by rw [p1 51 (by omega)]⟩
                      simp only [List.mem_cons, List.not_mem_nil, or_false] at hk
                      exact p1 k (by omega)
                    have px : RX x ρ := RX.cg (p1 49 (by omega)) (p1 50 (by omega)) e1.2
                    have pm := (hF.1.cg e1.1).cg pf
                    refine A.al0 eX5_findNews_300 ?_
                    refine A.al0 eX5_findNews_301 ?_
                    refine A.getI eX5_findNews_302 fX5_142 ko42 ?_
                    refine A.top pm.2.1.1 ?_
                    refine A.cVv1 eX5_findNews_305 oX5_lives kX5_171 ko42 (lvG (b0 := xb x) pm px (fun p hp => ⟨p3 p hp, xb_le hp⟩) (fun τ r1 r2 => ?_))
                    refine B.vret eX5_findNews_308 ?_
                    have e : m = 2 ^ xp x := by omega
                    subst e
                    exact hQ τ (FM.mv hF ((e1.1.tr pf).tr r1.fq) (r1.rx px) (fun p hp => by rw [r1.1 54 (by omega) (by omega) (by omega)]; exact p3 p hp) r2) ((e1.1.tr pf).tr r1.fq) (fun g hg => by rw [r1.2, p2]; exact e4 g hg) (by rw [r1.2, p2]; exact e3)
                  · refine A.il4 eX5_findNews_112 ?_
                    refine A.il3 eX5_findNews_114 ?_
                    refine A.iconst (v := -1) eX5_findNews_115 (by decide) ?_
                    refine A.ixor eX5_findNews_116 ?_
                    refine A.iand eX5_findNews_117 ?_
                    refine A.if_ne eX5_findNews_118 (fun yd3 => ?_) (fun yd3 => ?_)
                    · refine A.inc4N eX5_findNews_290 ?_
                      refine A.goto eX5_findNews_293 ?_
                      have yq : wgt x c m = 0 := by unfold wgt; exact if_neg (fun z => yd3 ((andnot (by omega) (by omega)).mpr z))
                      exact A.eqw (by simp [wkL]) rfl rfl (ihm (m + 1) ξ (by omega) (by omega) e1 (fun g hg => by rw [e4 g hg]; exact nsum_0 yq) e3)
                    · have hsub : m &&& chg x = m := (andnot (by omega) (by omega)).mp yd3
                      have hsb := (chg_sub n8 (by omega)).mp hsub
                      refine A.lconst (v := 1) eX5_findNews_121 (by decide) ?_
                      refine A.ls5 eX5_findNews_122 ?_
                      refine A.iconst (v := nI 0) eX5_findNews_124 (by decide) ?_
                      refine A.is7 eX5_findNews_125 ?_
                      have lw : ∀ (fu i : Nat) (ρ : St), xp x - i < fu → i ≤ xp x → WM x σ ρ → (∀ g, g < 24 → ρ.2 60 g = lN (nsum x c g q m)) → ρ.2 42 23 = lN (16 ^ pop (chg x)) → (∀ p, p < i → ρ.1 54 p = nI (nb x m p)) → B G (r0 4 95) mX5_findNews 127 [some (rf G 42), some (.int (nI c)), some (.int (nI q)), some (.int (nI (chg x))), some (.int (nI m)), some (.long (lN (wpr x c m i))), none, some (.int (nI i))] [] (ρ) (Pv K) := by
                        intro fu
                        induction fu with
                        | zero => intro i ρ h1 h2; omega
                        | succ fu ihw =>
                          intro i ρ h1 h2 e1 e4 e3 e5
                          refine A.il7 eX5_findNews_127 ?_
                          refine A.al0 eX5_findNews_129 ?_
                          refine A.getR eX5_findNews_130 fX5_28 ko42 kr42_8 ?_
                          refine A.iconst (v := nI 0) eX5_findNews_133 (by decide) ?_
                          refine A.ialdN eX5_findNews_134 ka49 ?_
                          refine A.top e1.2.1 ?_
                          refine A.icmp_geN eX5_findNews_135 (fun c5 => ?_) (fun c5 => ?_)
                          · have ei : i = xp x := by omega
                            subst ei
                            have ewt : wpr x c m (xp x) = wgt x c m := by rw [wpr_wpf hsb, wgt_wpf n8 (by omega)]
                            refine A.al0 eX5_findNews_240 ?_
                            refine A.al0 eX5_findNews_241 ?_
                            refine A.getI eX5_findNews_242 fX5_142 ko42 ?_
                            refine A.top (hF.1.cg e1.1).2.1.1 ?_
                            refine A.cVv1 eX5_findNews_245 oX5_lives kX5_171 ko42 (lvG (b0 := nb x m) (hF.1.cg e1.1) e1.2 (fun p hp => ⟨e5 p hp, by have := xb_le hp; unfold nb; split <;> omega⟩) (fun τ r1 r2 => ?_))
                            refine A.iconst (v := nI 0) eX5_findNews_248 (by decide) ?_
                            refine A.is7 eX5_findNews_249 ?_
                            have lh : ∀ (fu j : Nat) (ζ : St), 24 - j < fu → j ≤ 24 → WM x σ ζ → (∀ g, g < 24 → ζ.2 60 g = lN (if g < j then nsum x c g q (m + 1) else nsum x c g q m)) → ζ.2 42 23 = lN (16 ^ pop (chg x)) → (∀ g, g < 24 → HM ζ g (xp x) (xa x g) (bT x (xT x) (nb x m) g)) → B G (r0 4 95) mX5_findNews 251 [some (rf G 42), some (.int (nI c)), some (.int (nI q)), some (.int (nI (chg x))), some (.int (nI m)), some (.long (lN (wgt x c m))), none, some (.int (nI j))] [] (ζ) (Pv K) := by
                              intro fu
                              induction fu with
                              | zero => intro j ζ h1 h2; omega
                              | succ fu ihh =>
                                intro j ζ h1 h2 e1 e4 e3 e6
                                have e7 : j = 24 → ∀ g, g < 24 → ζ.2 60 g = lN (nsum x c g q (m + 1)) := fun z g hg => by rw [e4 g hg, if_pos (by omega)]
                                refine A.il7 eX5_findNews_251 ?_
                                refine A.bipush (v := nI 24) eX5_findNews_253 (by decide) ?_
                                refine A.icmp_geN eX5_findNews_255 (fun c6 => ?_) (fun c6 => ?_)
                                · refine A.inc4N eX5_findNews_290 ?_
                                  refine A.goto eX5_findNews_293 ?_
                                  have ej : j = 24 := by omega
                                  subst ej
                                  exact A.eqw (by simp [wkL]) rfl rfl (ihm (m + 1) ζ (by omega) (by omega) e1 (e7 rfl) e3)
                                · refine A.al0 eX5_findNews_258 ?_
                                  refine A.getR eX5_findNews_259 fX5_61 ko42 kr42_22 ?_
                                  refine A.il7 eX5_findNews_262 ?_
                                  refine A.dup2 eX5_findNews_264 rfl rfl ?_
                                  refine A.laldN eX5_findNews_265 kj60 ?_
                                  refine A.topl (e4 j (by omega)) ?_
                                  refine A.al0 eX5_findNews_266 ?_
                                  refine A.il7 eX5_findNews_267 ?_
                                  refine A.il2 eX5_findNews_269 ?_
                                  refine A.cVi2 eX5_findNews_270 oX5_isMet kX5_199 ko42 (sX5_isMet (a := xa x j) (b := bT x (xT x) (nb x m) j) e1.2.1 n8 (by omega) (e6 j (by omega)) (by omega) (e1.2.2.2.2 q bq).1 (xlo_le bq) (e1.2.2.2.2 q bq).2 (xhi_le bq) ?_)
                                  refine A.top (show _ = bI (nmet x m j q = true) from rfl) ?_
                                  refine A.if_eqB eX5_findNews_273 (fun yd8 => ?_) (fun yd8 => ?_)
                                  · refine A.lconst (v := 0) eX5_findNews_281 (by decide) ?_
                                    refine A.ladd eX5_findNews_282 ?_
                                    refine A.lastN eX5_findNews_283 kj60 ?_
                                    refine A.inc7N eX5_findNews_284 ?_
                                    refine A.goto eX5_findNews_287 ?_
                                    refine ihh (j + 1) _ (by omega) (by omega) e1 (fun g hg => ?_) (by rw [uj_n (by omega)]; exact e3) e6
                                    by_cases e : g = j
                                    · rw [e, uj_s, if_neg (show ¬ j < j by omega), if_pos (show j < j + 1 by omega)]
                                      first
                                        | exact nsum_s yd8
                                        | exact nsum_n yd8
                                    · rw [uj_o e, e4 g hg]
                                      by_cases z : g < j
                                      · rw [if_pos z, if_pos (by omega)]
                                      · rw [if_neg z, if_neg (by omega)]
                                  · refine A.ll5 eX5_findNews_276 ?_
                                    refine A.goto eX5_findNews_278 ?_
                                    refine A.ladd eX5_findNews_282 ?_
                                    refine A.lastN eX5_findNews_283 kj60 ?_
                                    refine A.inc7N eX5_findNews_284 ?_
                                    refine A.goto eX5_findNews_287 ?_
                                    refine ihh (j + 1) _ (by omega) (by omega) e1 (fun g hg => ?_) (by rw [uj_n (by omega)]; exact e3) e6
                                    by_cases e : g = j
                                    · rw [e, uj_s, if_neg (show ¬ j < j by omega), if_pos (show j < j + 1 by omega)]
                                      first
                                        | exact nsum_s yd8
                                        | exact nsum_n yd8
                                    · rw [uj_o e, e4 g hg]
                                      by_cases z : g < j
                                      · rw [if_pos z, if_pos (by omega)]
                                      · rw [if_neg z, if_neg (by omega)]
                            rw [ewt]
                            exact lh 25 0 τ (by omega) (by omega) (e1.tz r1) (fun g hg => by rw [if_neg (by omega), r1.2]; exact e4 g hg) (by rw [r1.2]; exact e3) (fun g hg => (r2 g hg).1)
                          · refine A.ll5 eX5_findNews_138 ?_
                            refine A.al0 eX5_findNews_140 ?_
                            refine A.il7 eX5_findNews_141 ?_
                            refine A.cVi1 eX5_findNews_143 oX5_isCalm kX5_152 ko42 (sX5_isCalm (k := xk x i) (e1.2.2.2.1 i (by omega)).2 (xk_le i) (by omega) ?_)
                            refine A.if_eqB eX5_findNews_146 (fun yd4 => ?_) (fun yd4 => ?_)
                            · refine A.il4 eX5_findNews_153 ?_
                              refine A.il7 eX5_findNews_155 ?_
                              refine A.cSi2 eX5_findNews_157 oX5_isIn kX5_155 (sX5_isIn (m := m) (k := i) (by omega) (by omega) ?_)
                              refine A.if_eqB eX5_findNews_160 (fun yd5 => ?_) (fun yd5 => ?_)
                              · refine A.ldc2 eX5_findNews_168 nX5_252 ?_
                                refine A.il1 eX5_findNews_171 ?_
                                refine A.i2l eX5_findNews_172 rfl ?_
                                refine A.lsub eX5_findNews_173 ?_
                                refine A.topl (show (16 : Int64) - (nI c).toInt64 = lN (if xk x i = 2 then 1 else if inb m i then c else 16 - c) by rw [if_neg yd4, if_neg yd5, i64_nI (by omega)]; exact (lN_16 hc6)) ?_
                                refine A.lmul eX5_findNews_174 ?_
                                refine A.ls5 eX5_findNews_175 ?_
                                refine A.al0 eX5_findNews_177 ?_
                                refine A.getR eX5_findNews_178 fX5_43 ko42 kr42_14 ?_
                                refine A.il7 eX5_findNews_181 ?_
                                refine A.il4 eX5_findNews_183 ?_
                                refine A.il7 eX5_findNews_185 ?_
                                refine A.cSi2 eX5_findNews_187 oX5_isIn kX5_155 (sX5_isIn (m := m) (k := i) (by omega) (by omega) ?_)
                                refine A.if_eqB eX5_findNews_190 (fun yd6 => ?_) (fun yd6 => ?_)
                                · have hx9 : xb x i ≤ 9 := xb_le (by omega)
                                  refine A.al0 eX5_findNews_224 ?_
                                  refine A.getR eX5_findNews_225 fX5_31 ko42 kr42_9 ?_
                                  refine A.iconst (v := nI 2) eX5_findNews_228 (by decide) ?_
                                  refine A.il7 eX5_findNews_229 ?_
                                  refine A.imulN eX5_findNews_231 ?_
                                  refine A.ialdN eX5_findNews_232 ka50 ?_
                                  refine A.top (e1.2.2.2.1 i (by omega)).1 ?_
                                  refine A.top (show _ = nI (nb x m i) by unfold nb; rw [if_neg yd6]) ?_
                                  refine A.iastN eX5_findNews_233 ka54 ?_
                                  refine A.inc7N eX5_findNews_234 ?_
                                  refine A.goto eX5_findNews_237 ?_
                                  refine A.eq (by rw [lN_mul]; rfl) rfl rfl (ihw (i + 1) _ (by omega) (by omega) ⟨e1.1.tr ((Fq.rf _ ρ).ro (by decide)), RX.cg (ur_n (by omega)) (ur_n (by omega)) e1.2⟩ e4 e3 (fun p hp => ?_))
                                  rw [ur_s]
                                  by_cases e : p = i
                                  · rw [e, upd_s]
                                  · rw [upd_n e]; exact e5 p (by omega)
                                · exact absurd yd6 yd5
                              · refine A.il1 eX5_findNews_163 ?_
                                refine A.i2l eX5_findNews_164 rfl ?_
                                refine A.goto eX5_findNews_165 ?_
                                refine A.topl (show (nI c).toInt64 = lN (if xk x i = 2 then 1 else if inb m i then c else 16 - c) by rw [if_neg yd4, if_pos yd5]; exact i64_nI (by omega)) ?_
                                refine A.lmul eX5_findNews_174 ?_
                                refine A.ls5 eX5_findNews_175 ?_
                                refine A.al0 eX5_findNews_177 ?_
                                refine A.getR eX5_findNews_178 fX5_43 ko42 kr42_14 ?_
                                refine A.il7 eX5_findNews_181 ?_
                                refine A.il4 eX5_findNews_183 ?_
                                refine A.il7 eX5_findNews_185 ?_
                                refine A.cSi2 eX5_findNews_187 oX5_isIn kX5_155 (sX5_isIn (m := m) (k := i) (by omega) (by omega) ?_)
                                refine A.if_eqB eX5_findNews_190 (fun yd6 => ?_) (fun yd6 => ?_)
                                · exact absurd yd5 yd6
                                · have hx9 : xb x i ≤ 9 := xb_le (by omega)
                                  refine A.al0 eX5_findNews_193 ?_
                                  refine A.getR eX5_findNews_194 fX5_31 ko42 kr42_9 ?_
                                  refine A.iconst (v := nI 2) eX5_findNews_197 (by decide) ?_
                                  refine A.il7 eX5_findNews_198 ?_
                                  refine A.imulN eX5_findNews_200 ?_
                                  refine A.ialdN eX5_findNews_201 ka50 ?_
                                  refine A.top (e1.2.2.2.1 i (by omega)).1 ?_
                                  refine A.iconst (v := nI 3) eX5_findNews_202 (by decide) ?_
                                  refine A.icmp_geN eX5_findNews_203 (fun yd7 => ?_) (fun yd7 => ?_)
                                  · refine A.al0 eX5_findNews_210 ?_
                                    refine A.getR eX5_findNews_211 fX5_31 ko42 kr42_9 ?_
                                    refine A.iconst (v := nI 2) eX5_findNews_214 (by decide) ?_
                                    refine A.il7 eX5_findNews_215 ?_
                                    refine A.imulN eX5_findNews_217 ?_
                                    refine A.ialdN eX5_findNews_218 ka50 ?_
                                    refine A.top (e1.2.2.2.1 i (by omega)).1 ?_
                                    refine A.iconst (v := nI 3) eX5_findNews_219 (by decide) ?_
                                    refine A.isubN eX5_findNews_220 ?_
                                    refine A.goto eX5_findNews_221 ?_
                                    refine A.top (show _ = nI (nb x m i) by unfold nb; rw [if_pos yd6]; all_goals (congr 1; omega)) ?_
                                    refine A.iastN eX5_findNews_233 ka54 ?_
                                    refine A.inc7N eX5_findNews_234 ?_
                                    refine A.goto eX5_findNews_237 ?_
                                    refine A.eq (by rw [lN_mul]; rfl) rfl rfl (ihw (i + 1) _ (by omega) (by omega) ⟨e1.1.tr ((Fq.rf _ ρ).ro (by decide)), RX.cg (ur_n (by omega)) (ur_n (by omega)) e1.2⟩ e4 e3 (fun p hp => ?_))
                                    rw [ur_s]
                                    by_cases e : p = i
                                    · rw [e, upd_s]
                                    · rw [upd_n e]; exact e5 p (by omega)
                                  · refine A.iconst (v := nI 0) eX5_findNews_206 (by decide) ?_
                                    refine A.goto eX5_findNews_207 ?_
                                    refine A.top (show _ = nI (nb x m i) by unfold nb; rw [if_pos yd6]; all_goals (congr 1; omega)) ?_
                                    refine A.iastN eX5_findNews_233 ka54 ?_
                                    refine A.inc7N eX5_findNews_234 ?_
                                    refine A.goto eX5_findNews_237 ?_
                                    refine A.eq (by rw [lN_mul]; rfl) rfl rfl (ihw (i + 1) _ (by omega) (by omega) ⟨e1.1.tr ((Fq.rf _ ρ).ro (by decide)), RX.cg (ur_n (by omega)) (ur_n (by omega)) e1.2⟩ e4 e3 (fun p hp => ?_))
                                    rw [ur_s]
                                    by_cases e : p = i
                                    · rw [e, upd_s]
                                    · rw [upd_n e]; exact e5 p (by omega)
                            · refine A.lconst (v := 1) eX5_findNews_149 (by decide) ?_
                              refine A.goto eX5_findNews_150 ?_
                              refine A.topl (show (1 : Int64) = lN (if xk x i = 2 then 1 else if inb m i then c else 16 - c) by rw [if_pos yd4]; rfl) ?_
                              refine A.lmul eX5_findNews_174 ?_
                              refine A.ls5 eX5_findNews_175 ?_
                              refine A.al0 eX5_findNews_177 ?_
                              refine A.getR eX5_findNews_178 fX5_43 ko42 kr42_14 ?_
                              refine A.il7 eX5_findNews_181 ?_
                              refine A.il4 eX5_findNews_183 ?_
                              refine A.il7 eX5_findNews_185 ?_
                              refine A.cSi2 eX5_findNews_187 oX5_isIn kX5_155 (sX5_isIn (m := m) (k := i) (by omega) (by omega) ?_)
                              refine A.if_eqB eX5_findNews_190 (fun yd6 => ?_) (fun yd6 => ?_)
                              · have hx9 : xb x i ≤ 9 := xb_le (by omega)
                                refine A.al0 eX5_findNews_224 ?_
                                refine A.getR eX5_findNews_225 fX5_31 ko42 kr42_9 ?_
                                refine A.iconst (v := nI 2) eX5_findNews_228 (by decide) ?_
                                refine A.il7 eX5_findNews_229 ?_
                                refine A.imulN eX5_findNews_231 ?_
                                refine A.ialdN eX5_findNews_232 ka50 ?_
                                refine A.top (e1.2.2.2.1 i (by omega)).1 ?_
                                refine A.top (show _ = nI (nb x m i) by unfold nb; rw [if_neg yd6]) ?_
                                refine A.iastN eX5_findNews_233 ka54 ?_
                                refine A.inc7N eX5_findNews_234 ?_
                                refine A.goto eX5_findNews_237 ?_
                                refine A.eq (by rw [lN_mul]; rfl) rfl rfl (ihw (i + 1) _ (by omega) (by omega) ⟨e1.1.tr ((Fq.rf _ ρ).ro (by decide)), RX.cg (ur_n (by omega)) (ur_n (by omega)) e1.2⟩ e4 e3 (fun p hp => ?_))
                                rw [ur_s]
                                by_cases e : p = i
                                · rw [e, upd_s]
                                · rw [upd_n e]; exact e5 p (by omega)
                              · have hx9 : xb x i ≤ 9 := xb_le (by omega)
                                refine A.al0 eX5_findNews_193 ?_
                                refine A.getR eX5_findNews_194 fX5_31 ko42 kr42_9 ?_
                                refine A.iconst (v := nI 2) eX5_findNews_197 (by decide) ?_
                                refine A.il7 eX5_findNews_198 ?_
                                refine A.imulN eX5_findNews_200 ?_
                                refine A.ialdN eX5_findNews_201 ka50 ?_
                                refine A.top (e1.2.2.2.1 i (by omega)).1 ?_
                                refine A.iconst (v := nI 3) eX5_findNews_202 (by decide) ?_
                                refine A.icmp_geN eX5_findNews_203 (fun yd7 => ?_) (fun yd7 => ?_)
                                · refine A.al0 eX5_findNews_210 ?_
                                  refine A.getR eX5_findNews_211 fX5_31 ko42 kr42_9 ?_
                                  refine A.iconst (v := nI 2) eX5_findNews_214 (by decide) ?_
                                  refine A.il7 eX5_findNews_215 ?_
                                  refine A.imulN eX5_findNews_217 ?_
                                  refine A.ialdN eX5_findNews_218 ka50 ?_
                                  refine A.top (e1.2.2.2.1 i (by omega)).1 ?_
                                  refine A.iconst (v := nI 3) eX5_findNews_219 (by decide) ?_
                                  refine A.isubN eX5_findNews_220 ?_
                                  refine A.goto eX5_findNews_221 ?_
                                  refine A.top (show _ = nI (nb x m i) by unfold nb; rw [if_pos yd6]; all_goals (congr 1; omega)) ?_
                                  refine A.iastN eX5_findNews_233 ka54 ?_
                                  refine A.inc7N eX5_findNews_234 ?_
                                  refine A.goto eX5_findNews_237 ?_
                                  refine A.eq (by rw [lN_mul]; rfl) rfl rfl (ihw (i + 1) _ (by omega) (by omega) ⟨e1.1.tr ((Fq.rf _ ρ).ro (by decide)), RX.cg (ur_n (by omega)) (ur_n (by omega)) e1.2⟩ e4 e3 (fun p hp => ?_))
                                  rw [ur_s]
                                  by_cases e : p = i
                                  · rw [e, upd_s]
                                  · rw [upd_n e]; exact e5 p (by omega)
                                · refine A.iconst (v := nI 0) eX5_findNews_206 (by decide) ?_
                                  refine A.goto eX5_findNews_207 ?_
                                  refine A.top (show _ = nI (nb x m i) by unfold nb; rw [if_pos yd6]; all_goals (congr 1; omega)) ?_
                                  refine A.iastN eX5_findNews_233 ka54 ?_
                                  refine A.inc7N eX5_findNews_234 ?_
                                  refine A.goto eX5_findNews_237 ?_
                                  refine A.eq (by rw [lN_mul]; rfl) rfl rfl (ihw (i + 1) _ (by omega) (by omega) ⟨e1.1.tr ((Fq.rf _ ρ).ro (by decide)), RX.cg (ur_n (by omega)) (ur_n (by omega)) e1.2⟩ e4 e3 (fun p hp => ?_))
                                  rw [ur_s]
                                  by_cases e : p = i
                                  · rw [e, upd_s]
                                  · rw [upd_n e]; exact e5 p (by omega)
                      exact lw (xp x + 1) 0 ξ (by omega) (by omega) e1 e4 e3 (fun p hp => by omega)
              have ek : k = 24 := by omega
              subst ek
              exact lm_ (2 ^ xp x + 1) 0 ξ (Nat.lt_succ_of_le (Nat.sub_le _ _)) (Nat.zero_le _) e1 (fun g hg => by rw [e4 g hg]; rfl) e3
            · refine A.al0 eX5_findNews_82 ?_
              refine A.getR eX5_findNews_83 fX5_61 ko42 kr42_22 ?_
              refine A.il4 eX5_findNews_86 ?_
              refine A.lconst (v := 0) eX5_findNews_88 (by decide) ?_
              refine A.lastN eX5_findNews_89 kj60 ?_
              refine A.inc4N eX5_findNews_90 ?_
              refine A.goto eX5_findNews_93 ?_
              refine ihb (k + 1) _ (by omega) (by omega) e1 e2 (by rw [uj_n (by omega)]; exact e3) (fun g hg => ?_)
              by_cases e : g = k
              · rw [e, uj_s]; rfl
              · rw [uj_o e]; exact e4 g (by omega)
        have ei : i = xp x := by omega
        subst ei
        exact lb 25 0 ξ (by omega) (by omega) e1 e2 (by rw [e3, pop_chg n8]) (fun g hg => by omega)
      · refine A.il3 eX5_findNews_21 ?_
        refine A.al0 eX5_findNews_22 ?_
        refine A.il4 eX5_findNews_23 ?_
        refine A.cVi1 eX5_findNews_25 oX5_isCalm kX5_152 ko42 (sX5_isCalm (k := xk x i) (e1.2.2.2.1 i (by omega)).2 (xk_le i) (by omega) ?_)
        refine A.if_eqB eX5_findNews_28 (fun yd1 => ?_) (fun yd1 => ?_)
        · refine A.iconst (v := nI 1) eX5_findNews_35 (by decide) ?_
          refine A.il4 eX5_findNews_36 ?_
          refine A.ishl1 eX5_findNews_38 ?_
          refine A.iorN eX5_findNews_39 ?_
          refine A.is3 eX5_findNews_40 ?_
          refine A.al0 eX5_findNews_41 ?_
          refine A.dup eX5_findNews_42 rfl ?_
          refine A.getJ eX5_findNews_43 fX5_248 ko42 ?_
          refine A.topl e3 ?_
          refine A.al0 eX5_findNews_46 ?_
          refine A.il4 eX5_findNews_47 ?_
          refine A.cVi1 eX5_findNews_49 oX5_isCalm kX5_152 ko42 (sX5_isCalm (k := xk x i) (e1.2.2.2.1 i (by omega)).2 (xk_le i) (by omega) ?_)
          refine A.if_eqB eX5_findNews_52 (fun yd2 => ?_) (fun yd2 => ?_)
          · refine A.ldc2 eX5_findNews_59 nX5_252 ?_
            refine A.lmul eX5_findNews_62 ?_
            refine A.putJ eX5_findNews_63 pX5_248 ko42 ?_
            refine A.inc4N eX5_findNews_66 ?_
            refine A.goto eX5_findNews_69 ?_
            have yq : ncf x i = true := by simp [ncf, yd1]
            refine A.eq (by simp [bits, yq]) rfl rfl (ih (i + 1) _ (by omega) (by omega) e1 e2 ?_)
            rw [uj_s, show cnt (ncf x) (i + 1) = cnt (ncf x) i + 1 by simp [cnt, yq], Nat.pow_succ]
            exact lN_mul _ 16
          · exact absurd yd2 yd1
        · refine A.iconst (v := nI 0) eX5_findNews_31 (by decide) ?_
          refine A.goto eX5_findNews_32 ?_
          refine A.iorN eX5_findNews_39 ?_
          refine A.is3 eX5_findNews_40 ?_
          refine A.al0 eX5_findNews_41 ?_
          refine A.dup eX5_findNews_42 rfl ?_
          refine A.getJ eX5_findNews_43 fX5_248 ko42 ?_
          refine A.topl e3 ?_
          refine A.al0 eX5_findNews_46 ?_
          refine A.il4 eX5_findNews_47 ?_
          refine A.cVi1 eX5_findNews_49 oX5_isCalm kX5_152 ko42 (sX5_isCalm (k := xk x i) (e1.2.2.2.1 i (by omega)).2 (xk_le i) (by omega) ?_)
          refine A.if_eqB eX5_findNews_52 (fun yd2 => ?_) (fun yd2 => ?_)
          · exact absurd yd1 yd2
          · refine A.lconst (v := 1) eX5_findNews_55 (by decide) ?_
            refine A.goto eX5_findNews_56 ?_
            refine A.lmul eX5_findNews_62 ?_
            refine A.putJ eX5_findNews_63 pX5_248 ko42 ?_
            refine A.inc4N eX5_findNews_66 ?_
            refine A.goto eX5_findNews_69 ?_
            have yq : ncf x i = false := by simp [ncf, yd1]
            refine A.eq (by simp [bits, yq]) rfl rfl (ih (i + 1) _ (by omega) (by omega) e1 e2 ?_)
            rw [uj_s, show cnt (ncf x) (i + 1) = cnt (ncf x) i by simp [cnt, yq]]
            exact (lN_mul _ 1).trans (by rw [Nat.mul_one])
  exact lp (xp x + 1) 0 _ (by omega) (by omega) ⟨Fq.rf _ σ, hF.2.1⟩ hF.2.2.1 (by rw [uj_s]; rfl)
set_option maxRecDepth 100000 in
set_option maxHeartbeats 4000000 in
theorem sX5_newsOf {G : GW} {σ : St} {K : Int64 → St → Prop} {x : XS} {c q h w : Nat} (hF : FM x σ) (bc : c < 17) (bq : q < xq x) (bh : h < 24) (bw : w < 2) (hQ : ∀ τ : St, FM x τ → Fq (xg x).1 σ τ → K (Vnews x c q h w) τ) : Cl G (r0 5 122) mX5_newsOf [rf G 42, .int (nI c), .int (nI q), .int (nI h), .int (nI w)] σ K := by
  refine Cl.of [some (rf G 42), some (.int (nI c)), some (.int (nI q)), some (.int (nI h)), some (.int (nI w))] ?_
  have n8 := hF.np8
  have q6 := hF.nq6
  have h2p : 2 ^ xp x ≤ 2 ^ 8 := Nat.pow_le_pow_right (by omega) n8
  have hp8 := pop_le (chg x)
  have h16 : 16 ^ pop (chg x) ≤ 16 ^ 8 := Nat.pow_le_pow_right (by omega) hp8
  have hns := nsum_le (x := x) (h := h) (q := q) (show c ≤ 16 by omega) (2 ^ xp x)
  refine A.al0 eX5_newsOf_0 ?_
  refine A.il1 eX5_newsOf_1 ?_
  refine A.il2 eX5_newsOf_2 ?_
  refine A.cVv2 eX5_newsOf_3 oX5_findNews kX5_254 ko42 (sX5_findNews hF bc bq (fun τ k1 k2 k3 k4 => ?_))
  refine A.al0 eX5_newsOf_6 ?_
  refine A.getR eX5_newsOf_7 fX5_61 ko42 kr42_22 ?_
  refine A.il3 eX5_newsOf_10 ?_
  refine A.laldN eX5_newsOf_11 kj60 ?_
  refine A.topl (k3 h bh) ?_
  refine A.al0 eX5_newsOf_12 ?_
  refine A.getJ eX5_newsOf_13 fX5_248 ko42 ?_
  refine A.topl k4 ?_
  refine A.il4 eX5_newsOf_16 ?_
  refine A.cSl3 eX5_newsOf_18 oX5_part kX5_191 (sX5_part (a := nsum x c h q (2 ^ xp x)) (d := 16 ^ pop (chg x)) (by omega) (by omega) (Nat.pow_pos (by omega)) bw ?_)
  refine B.lret eX5_newsOf_21 ?_
  exact hQ τ k1 k2
set_option maxRecDepth 100000 in
set_option maxHeartbeats 4000000 in
theorem aX5_news {G : GW} {σ : St} {K : Int64 → St → Prop} {x : XS} {c q h w : Int32} (hM : MI x σ) (hQ : ∀ τ : St, MI (x) τ → Fm σ τ → K (Rnews x c q h w) τ) : Cl G (r0 6 146) mX5_news [rf G 42, .int c, .int q, .int h, .int w] σ K := by
  refine Cl.of [some (rf G 42), some (.int c), some (.int q), some (.int h), some (.int w)] ?_
  unfold Rnews at hQ
  have n8 := hM.np8
  have q6 := hM.nq6
  refine A.al0 eX5_news_0 ?_
  refine A.cVv0 eX5_news_1 oX5_find kX5_175 ko42 (sX5_find hM (fun τ g1 g2 => ?_))
  refine A.il1 eX5_news_4 ?_
  refine A.i2l eX5_news_5 rfl ?_
  refine A.lconst (v := 0) eX5_news_6 (by decide) ?_
  refine A.ldc2 eX5_news_7 nX5_252 ?_
  refine A.cSi3 eX5_news_10 oX5_in kX5_67 (sX5_in ?_)
  refine A.top (in_ck (n := 17) (by decide)) ?_
  refine A.if_eqB eX5_news_13 (fun yw_c => ?_) (fun yw_c => ?_)
  · refine A.bipush (v := -2) eX5_news_51 (by decide) ?_
    refine A.cSl1 eX5_news_53 oX5_no kX5_181 (sX5_no ?_)
    refine B.lret eX5_news_56 ?_
    simp only [if_neg (show ¬ (ck c 17 ∧ ck q (xq x) ∧ ck h 24 ∧ ck w 2) from fun z => yw_c z.1)] at hQ
    exact hQ τ g1.1 g2
  · refine A.al0 eX5_news_16 ?_
    refine A.il2 eX5_news_17 ?_
    refine A.cVi1 eX5_news_18 oX5_isPlace kX5_130 ko42 (sX5_isPlace (n := xq x) g1.2.1.2.1 (by omega) ?_)
    refine A.if_eqB eX5_news_21 (fun yw_q => ?_) (fun yw_q => ?_)
    · refine A.bipush (v := -2) eX5_news_51 (by decide) ?_
      refine A.cSl1 eX5_news_53 oX5_no kX5_181 (sX5_no ?_)
      refine B.lret eX5_news_56 ?_
      simp only [if_neg (show ¬ (ck c 17 ∧ ck q (xq x) ∧ ck h 24 ∧ ck w 2) from fun z => yw_q z.2.1)] at hQ
      exact hQ τ g1.1 g2
    · refine A.il3 eX5_news_24 ?_
      refine A.cSi1 eX5_news_25 oX5_isHour kX5_133 (sX5_isHour ?_)
      refine A.if_eqB eX5_news_28 (fun yw_h => ?_) (fun yw_h => ?_)
      · refine A.bipush (v := -2) eX5_news_51 (by decide) ?_
        refine A.cSl1 eX5_news_53 oX5_no kX5_181 (sX5_no ?_)
        refine B.lret eX5_news_56 ?_
        simp only [if_neg (show ¬ (ck c 17 ∧ ck q (xq x) ∧ ck h 24 ∧ ck w 2) from fun z => yw_h z.2.2.1)] at hQ
        exact hQ τ g1.1 g2
      · refine A.il4 eX5_news_31 ?_
        refine A.cSi1 eX5_news_33 oX5_isTwo kX5_96 (sX5_isTwo ?_)
        refine A.if_eqB eX5_news_36 (fun yw_w => ?_) (fun yw_w => ?_)
        · refine A.bipush (v := -2) eX5_news_51 (by decide) ?_
          refine A.cSl1 eX5_news_53 oX5_no kX5_181 (sX5_no ?_)
          refine B.lret eX5_news_56 ?_
          simp only [if_neg (show ¬ (ck c 17 ∧ ck q (xq x) ∧ ck h 24 ∧ ck w 2) from fun z => yw_w z.2.2.2)] at hQ
          exact hQ τ g1.1 g2
        · simp only [if_pos (show ck c 17 ∧ ck q (xq x) ∧ ck h 24 ∧ ck w 2 from ⟨yw_c, yw_q, yw_h, yw_w⟩)] at hQ
          obtain ⟨c, bc, rfl⟩ := i_nat yw_c.1 yw_c.2
          obtain ⟨q, bq, rfl⟩ := i_nat yw_q.1 yw_q.2
          obtain ⟨h, bh, rfl⟩ := i_nat yw_h.1 yw_h.2
          obtain ⟨w, bw, rfl⟩ := i_nat yw_w.1 yw_w.2
          try simp only [nI_clamp (n := c) (by omega), nI_clamp (n := q) (by omega), nI_clamp (n := h) (by omega), nI_clamp (n := w) (by omega)] at hQ
          refine A.al0 eX5_news_39 ?_
          refine A.il1 eX5_news_40 ?_
          refine A.il2 eX5_news_41 ?_
          refine A.il3 eX5_news_42 ?_
          refine A.il4 eX5_news_43 ?_
          refine A.cVl4 eX5_news_45 oX5_newsOf kX5_258 ko42 (sX5_newsOf g1 bc bq bh bw (fun τ3 g3 g4 => ?_))
          refine A.goto eX5_news_48 ?_
          refine B.lret eX5_news_56 ?_
          exact hQ τ3 g3.1 (g2.tr g4.1)
set_option maxRecDepth 100000 in
set_option maxHeartbeats 4000000 in
theorem sX5_roofOf {G : GW} {σ : St} {K : Int32 → St → Prop} {x : XS} {c q h : Nat} (hF : FM x σ) (bc : c < 17) (bq : q < xq x) (bh : h < 24) (hQ : ∀ τ : St, FM x τ → Fq (xg x).1 σ τ → K (Vroof x c q h) τ) : Ci G (r0 5 122) mX5_roofOf [rf G 42, .int (nI c), .int (nI q), .int (nI h)] σ K := by
  refine Ci.of [some (rf G 42), some (.int (nI c)), some (.int (nI q)), some (.int (nI h)), none] ?_
  have n8 := hF.np8
  have q6 := hF.nq6
  have h2p : 2 ^ xp x ≤ 2 ^ 8 := Nat.pow_le_pow_right (by omega) n8
  have hp8 := pop_le (chg x)
  have h16 : 16 ^ pop (chg x) ≤ 16 ^ 8 := Nat.pow_le_pow_right (by omega) hp8
  refine A.al0 eX5_roofOf_0 ?_
  refine A.il1 eX5_roofOf_1 ?_
  refine A.il2 eX5_roofOf_2 ?_
  refine A.cVv2 eX5_roofOf_3 oX5_findNews kX5_254 ko42 (sX5_findNews hF bc bq (fun τ k1 k2 k3 k4 => ?_))
  refine A.il3 eX5_roofOf_6 ?_
  refine A.is4 eX5_roofOf_7 ?_
  have lp : ∀ (fu j : Nat), 24 - j < fu → h ≤ j ∧ j ≤ 24 → (∀ g, h ≤ g → g < j → surex x c q g = false) → B G (r0 5 122) mX5_roofOf 9 [some (rf G 42), some (.int (nI c)), some (.int (nI q)), some (.int (nI h)), some (.int (nI j))] [] (τ) (Pi K) := by
    intro fu
    induction fu with
    | zero => intro j  h1 h2; omega
    | succ fu ih =>
      intro j  h1 h2 hgs
      refine A.il4 eX5_roofOf_9 ?_
      refine A.bipush (v := nI 24) eX5_roofOf_11 (by decide) ?_
      refine A.icmp_geN eX5_roofOf_13 (fun c1 => ?_) (fun c1 => ?_)
      · refine A.iconst (v := -1) eX5_roofOf_40 (by decide) ?_
        refine B.iret eX5_roofOf_41 ?_
        have e : ffst (fun k => surex x c q (h + k)) (24 - h) = 24 - h := ffst_none (fun k hk => hgs (h + k) (by omega) (by omega))
        refine vl_of (hQ τ k1 k2) ?_
        unfold Vroof
        rw [e, if_neg (by omega)]
      · refine A.al0 eX5_roofOf_16 ?_
        refine A.getR eX5_roofOf_17 fX5_61 ko42 kr42_22 ?_
        refine A.il4 eX5_roofOf_20 ?_
        refine A.laldN eX5_roofOf_22 kj60 ?_
        refine A.topl (k3 j (by omega)) ?_
        refine A.al0 eX5_roofOf_23 ?_
        refine A.getJ eX5_roofOf_24 fX5_248 ko42 ?_
        refine A.topl k4 ?_
        have hns := nsum_le (x := x) (h := j) (q := q) (show c ≤ 16 by omega) (2 ^ xp x)
        have hsu : lg_cmp (lN (nsum x c j q (2 ^ xp x))) (lN (16 ^ pop (chg x))) = 0 ↔ surex x c q j = true := by
          rw [lg0, pk_lEQ (by omega) (by omega)]
          exact sure_all n8 (by omega)
        refine A.lcmp eX5_roofOf_27 ?_
        refine A.if_ne eX5_roofOf_28 (fun yd5 => ?_) (fun yd5 => ?_)
        · refine A.inc4N eX5_roofOf_34 ?_
          refine A.goto eX5_roofOf_37 ?_
          refine ih (j + 1) (by omega) (by omega) (fun g hg hj => ?_)
          rcases Nat.lt_or_ge g j with z | z
          · exact hgs g hg z
          · rw [show g = j by omega]
            cases e : surex x c q j with
            | false => rfl
            | true => exact absurd (hsu.mpr e) yd5
        · refine A.il4 eX5_roofOf_31 ?_
          refine B.iret eX5_roofOf_33 ?_
          have hs : surex x c q j = true := hsu.mp yd5
          have e : ffst (fun k => surex x c q (h + k)) (24 - h) = j - h := ffst_first (fun k hk => hgs (h + k) (by omega) (by omega)) (by omega) (show surex x c q (h + (j - h)) = true by rw [show h + (j - h) = j by omega]; exact hs)
          refine vl_of (hQ τ k1 k2) ?_
          unfold Vroof
          rw [e, if_pos (by omega), show h + (j - h) = j by omega]
  exact lp 25 h (by omega) (by omega) (fun g a b => by omega)
set_option maxRecDepth 100000 in
set_option maxHeartbeats 4000000 in
theorem aX5_roof {G : GW} {σ : St} {K : Int32 → St → Prop} {x : XS} {c q h : Int32} (hM : MI x σ) (hQ : ∀ τ : St, MI (x) τ → Fm σ τ → K (Rroof x c q h) τ) : Ci G (r0 6 146) mX5_roof [rf G 42, .int c, .int q, .int h] σ K := by
  refine Ci.of [some (rf G 42), some (.int c), some (.int q), some (.int h)] ?_
  unfold Rroof at hQ
  have n8 := hM.np8
  have q6 := hM.nq6
  refine A.al0 eX5_roof_0 ?_
  refine A.cVv0 eX5_roof_1 oX5_find kX5_175 ko42 (sX5_find hM (fun τ g1 g2 => ?_))
  refine A.il1 eX5_roof_4 ?_
  refine A.i2l eX5_roof_5 rfl ?_
  refine A.lconst (v := 0) eX5_roof_6 (by decide) ?_
  refine A.ldc2 eX5_roof_7 nX5_252 ?_
  refine A.cSi3 eX5_roof_10 oX5_in kX5_67 (sX5_in ?_)
  refine A.top (in_ck (n := 17) (by decide)) ?_
  refine A.if_eqB eX5_roof_13 (fun yw_c => ?_) (fun yw_c => ?_)
  · refine A.bipush (v := -2) eX5_roof_41 (by decide) ?_
    refine B.iret eX5_roof_43 ?_
    simp only [if_neg (show ¬ (ck c 17 ∧ ck q (xq x) ∧ ck h 24) from fun z => yw_c z.1)] at hQ
    exact hQ τ g1.1 g2
  · refine A.al0 eX5_roof_16 ?_
    refine A.il2 eX5_roof_17 ?_
    refine A.cVi1 eX5_roof_18 oX5_isPlace kX5_130 ko42 (sX5_isPlace (n := xq x) g1.2.1.2.1 (by omega) ?_)
    refine A.if_eqB eX5_roof_21 (fun yw_q => ?_) (fun yw_q => ?_)
    · refine A.bipush (v := -2) eX5_roof_41 (by decide) ?_
      refine B.iret eX5_roof_43 ?_
      simp only [if_neg (show ¬ (ck c 17 ∧ ck q (xq x) ∧ ck h 24) from fun z => yw_q z.2.1)] at hQ
      exact hQ τ g1.1 g2
    · refine A.il3 eX5_roof_24 ?_
      refine A.cSi1 eX5_roof_25 oX5_isHour kX5_133 (sX5_isHour ?_)
      refine A.if_eqB eX5_roof_28 (fun yw_h => ?_) (fun yw_h => ?_)
      · refine A.bipush (v := -2) eX5_roof_41 (by decide) ?_
        refine B.iret eX5_roof_43 ?_
        simp only [if_neg (show ¬ (ck c 17 ∧ ck q (xq x) ∧ ck h 24) from fun z => yw_h z.2.2)] at hQ
        exact hQ τ g1.1 g2
      · simp only [if_pos (show ck c 17 ∧ ck q (xq x) ∧ ck h 24 from ⟨yw_c, yw_q, yw_h⟩)] at hQ
        obtain ⟨c, bc, rfl⟩ := i_nat yw_c.1 yw_c.2
        obtain ⟨q, bq, rfl⟩ := i_nat yw_q.1 yw_q.2
        obtain ⟨h, bh, rfl⟩ := i_nat yw_h.1 yw_h.2
        try simp only [nI_clamp (n := c) (by omega), nI_clamp (n := q) (by omega), nI_clamp (n := h) (by omega)] at hQ
        refine A.al0 eX5_roof_31 ?_
        refine A.il1 eX5_roof_32 ?_
        refine A.il2 eX5_roof_33 ?_
        refine A.il3 eX5_roof_34 ?_
        refine A.cVi3 eX5_roof_35 oX5_roofOf kX5_262 ko42 (sX5_roofOf g1 bc bq bh (fun τ3 g3 g4 => ?_))
        refine A.goto eX5_roof_38 ?_
        refine B.iret eX5_roof_43 ?_
        exact hQ τ3 g3.1 (g2.tr g4.1)
