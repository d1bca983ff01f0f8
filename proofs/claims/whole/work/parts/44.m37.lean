section
variable {x : XS} {h p q : Nat}
theorem Rq0 : Rfault x (nI 0) = zI (flt 1 (tX x 1) (tL x 1)) := if_pos (Or.inl rfl)
theorem Rq1 : Rfault x (nI 1) = zI (flt 5 (tX x 5) (tL x 5)) := if_pos (Or.inr rfl)
theorem Rq2 (hh : h < 24) : Rmet x (nI h) = Vmet x h := by
  unfold Rmet; rw [if_pos (ck_i hh (by omega)), nI_clamp (n := h) (by omega)]
theorem Rq3 (hh : h < 24) (hp : p < xp x) (n8 : xp x ≤ 8) : Rwhere x (nI h) (nI p) = xa x h p := by
  unfold Rwhere; rw [if_pos ⟨ck_i hh (by omega), ck_i hp (by omega)⟩, nI_clamp (n := h) (by omega), nI_clamp (n := p) (by omega)]
theorem Rq4 (hh : h < 24) (hp : p < xp x) (n8 : xp x ≤ 8) : Rbright x (nI h) (nI p) = nI (xr x h p) := by
  unfold Rbright; rw [if_pos ⟨ck_i hh (by omega), ck_i hp (by omega)⟩, nI_clamp (n := h) (by omega), nI_clamp (n := p) (by omega)]
theorem Rq5 (hh : h < 24) (hq : q < xq x) (q6 : xq x ≤ 6) : Rcrowd x (nI h) (nI q) = nI (crx x h q) := by
  unfold Rcrowd; rw [if_pos ⟨ck_i hh (by omega), ck_i hq (by omega)⟩, nI_clamp (n := h) (by omega), nI_clamp (n := q) (by omega)]
theorem Rq6 {w : Nat} (hh : h < 24) (hq : q < xq x) (q6 : xq x ≤ 6) (hw : w < 2) : Rsky x (nI h) (nI q) (nI w) = Vsky x h q w := by
  unfold Rsky; rw [if_pos ⟨ck_i hh (by omega), ck_i hq (by omega), ck_i hw (by omega)⟩, nI_clamp (n := h) (by omega), nI_clamp (n := q) (by omega), nI_clamp (n := w) (by omega)]
theorem Rq7 (hp : p < xp x) (n8 : xp x ≤ 8) : Rmay x (nI p) = Vmay x p := by
  unfold Rmay; rw [if_pos (ck_i hp (by omega)), nI_clamp (n := p) (by omega)]
theorem Rq8 {w : Nat} (hw : w < 2) : Rlightning x (nI w) = Vlightning x w := by
  unfold Rlightning; rw [if_pos (ck_i hw (by omega)), nI_clamp (n := w) (by omega)]
end
set_option maxRecDepth 100000 in
set_option maxHeartbeats 4000000 in
theorem aX5_digest {G : GW} {σ : St} {K : Int64 → St → Prop} {x : XS} (hM : MI x σ) (hQ : ∀ τ : St, MI (x) τ → Fm σ τ → K (Rdigest x) τ) : Cl G (r0 7 173) mX5_digest [rf G 42] σ K := by
  refine Cl.of [some (rf G 42), none, none, none, none, none] ?_
  have n8 := hM.np8
  have q6 := hM.nq6
  refine A.ldc2 eX5_digest_0 nX5_277 ?_
  refine A.ls1 eX5_digest_3 ?_
  refine A.iconst (v := nI 0) eX5_digest_4 (by decide) ?_
  refine A.is3 eX5_digest_5 ?_
  have lp : ∀ (fu i : Nat) (ξ : St), 8 - i < fu → i ≤ 8 → MI x ξ → Fm σ ξ → B G (r0 7 173) mX5_digest 6 [some (rf G 42), some (.long (fld (fun k a => mx a (Rcount x (nI k)).toInt64) 17 i)), none, some (.int (nI i)), none, none] [] (ξ) (Pl K) := by
    intro fu
    induction fu with
    | zero => intro i ξ h1 h2; omega
    | succ fu ih =>
      intro i ξ h1 h2 e1 e2
      refine A.il3 eX5_digest_6 ?_
      refine A.bipush (v := nI 8) eX5_digest_7 (by decide) ?_
      refine A.icmp_geN eX5_digest_9 (fun c1 => ?_) (fun c1 => ?_)
      · have e : 8 = i := by omega
        subst e
        have h0 := e1.1 0 (by omega)
        refine A.ldc2 eX5_digest_31 nX5_275 ?_
        refine A.ll1 eX5_digest_34 ?_
        refine A.lmul eX5_digest_35 ?_
        refine A.al0 eX5_digest_36 ?_
        refine A.iconst (v := nI 0) eX5_digest_37 (by decide) ?_
        refine A.cVi1 eX5_digest_38 oX5_readsText kX5_115 ko42 (sX5_readsText0 (n := tL x 1) (f := tX x 1) h0.1 h0.2.1 h0.2.2 (fun τ0 p01 p02 p03 => ?_))
        refine A.top (Rq0).symm ?_
        refine A.i2l eX5_digest_41 rfl ?_
        refine A.ladd eX5_digest_42 ?_
        refine A.ls1 eX5_digest_43 ?_
        have h1 := (e1.cg (Fr.fq p01)).1 1 (by omega)
        refine A.ldc2 eX5_digest_44 nX5_275 ?_
        refine A.ll1 eX5_digest_47 ?_
        refine A.lmul eX5_digest_48 ?_
        refine A.al0 eX5_digest_49 ?_
        refine A.iconst (v := nI 1) eX5_digest_50 (by decide) ?_
        refine A.cVi1 eX5_digest_51 oX5_readsText kX5_115 ko42 (sX5_readsText1 (n := tL x 5) (f := tX x 5) h1.1 h1.2.1 h1.2.2 (fun τ1 p11 p12 p13 => ?_))
        refine A.top (Rq1).symm ?_
        refine A.i2l eX5_digest_54 rfl ?_
        refine A.ladd eX5_digest_55 ?_
        refine A.ls1 eX5_digest_56 ?_
        refine A.al0 eX5_digest_57 ?_
        refine A.cVv0 eX5_digest_58 oX5_find kX5_175 ko42 (sX5_find ((e1.cg (Fr.fq p01)).cg (Fr.fq p11)) (fun τ g1 g2 => ?_))
        have gf : Fm σ τ := ((e2.tr (Fr.fq (n := 0) p01).1).tr (Fr.fq (n := 0) p11).1).tr g2
        refine A.iconst (v := nI 0) eX5_digest_61 (by decide) ?_
        refine A.is3 eX5_digest_62 ?_
        have lk_ : ∀ (fu k : Nat), 4 - k < fu → k ≤ 4 → B G (r0 7 173) mX5_digest 63 [some (rf G 42), some (.long (fld (fun k a => mH x a (dhN k)) (mx (mx (fld (fun k a => mx a (Rcount x (nI k)).toInt64) 17 8) (Rfault x (nI 0)).toInt64) (Rfault x (nI 1)).toInt64) k)), none, some (.int (nI k)), none, none] [] (τ) (Pl K) := by
          intro fu
          induction fu with
          | zero => intro k  h1 h2; omega
          | succ fu ihk =>
            intro k  h1 h2 
            refine A.il3 eX5_digest_63 ?_
            refine A.iconst (v := nI 4) eX5_digest_64 (by decide) ?_
            refine A.icmp_geN eX5_digest_65 (fun c2 => ?_) (fun c2 => ?_)
            · refine A.iconst (v := nI 0) eX5_digest_240 (by decide) ?_
              refine A.is3 eX5_digest_241 ?_
              have lz : ∀ (fu i : Nat) (ξ : St), xq x - i < fu → i ≤ xq x → FM x ξ → Fm σ ξ → B G (r0 7 173) mX5_digest 242 [some (rf G 42), some (.long (fld (fun k a => mP x a k) (fld (fun k a => mH x a (dhN k)) (mx (mx (fld (fun k a => mx a (Rcount x (nI k)).toInt64) 17 8) (Rfault x (nI 0)).toInt64) (Rfault x (nI 1)).toInt64) 4) i)), none, some (.int (nI i)), none, none] [] (ξ) (Pl K) := by
                intro fu
                induction fu with
                | zero => intro i ξ h1 h2; omega
                | succ fu ihz =>
                  intro i ξ h1 h2 e1 e2
                  refine A.il3 eX5_digest_242 ?_
                  refine A.al0 eX5_digest_243 ?_
                  refine A.getR eX5_digest_244 fX5_28 ko42 kr42_8 ?_
                  refine A.iconst (v := nI 1) eX5_digest_247 (by decide) ?_
                  refine A.ialdN eX5_digest_248 ka49 ?_
                  refine A.top e1.2.1.2.1 ?_
                  refine A.icmp_geN eX5_digest_249 (fun c3 => ?_) (fun c3 => ?_)
                  · refine A.iconst (v := nI 0) eX5_digest_265 (by decide) ?_
                    refine A.is3 eX5_digest_266 ?_
                    have lv_ : ∀ (fu i : Nat) (ξ : St), xp x - i < fu → i ≤ xp x → FM x ξ → Fm σ ξ → B G (r0 7 173) mX5_digest 267 [some (rf G 42), some (.long (fld (fun k a => mx a (Rmay x (nI k)).toInt64) (fld (fun k a => mP x a k) (fld (fun k a => mH x a (dhN k)) (mx (mx (fld (fun k a => mx a (Rcount x (nI k)).toInt64) 17 8) (Rfault x (nI 0)).toInt64) (Rfault x (nI 1)).toInt64) 4) (xq x)) i)), none, some (.int (nI i)), none, none] [] (ξ) (Pl K) := by
                      intro fu
                      induction fu with
                      | zero => intro i ξ h1 h2; omega
                      | succ fu ihv =>
                        intro i ξ h1 h2 e1 e2
                        refine A.il3 eX5_digest_267 ?_
                        refine A.al0 eX5_digest_268 ?_
                        refine A.getR eX5_digest_269 fX5_28 ko42 kr42_8 ?_
                        refine A.iconst (v := nI 0) eX5_digest_272 (by decide) ?_
                        refine A.ialdN eX5_digest_273 ka49 ?_
                        refine A.top e1.2.1.1 ?_
                        refine A.icmp_geN eX5_digest_274 (fun c4 => ?_) (fun c4 => ?_)
                        · have e : xp x = i := by omega
                          subst e
                          refine A.ldc2 eX5_digest_296 nX5_275 ?_
                          refine A.ll1 eX5_digest_299 ?_
                          refine A.lmul eX5_digest_300 ?_
                          refine A.al0 eX5_digest_301 ?_
                          refine A.iconst (v := nI 0) eX5_digest_302 (by decide) ?_
                          refine A.cVi1 eX5_digest_303 oX5_lightningOf kX5_208 ko42 (sX5_lightningOf (w := 0) e1 (by omega) ?_)
                          refine A.top (Rq8 (w := 0) (by omega)).symm ?_
                          refine A.i2l eX5_digest_306 rfl ?_
                          refine A.ladd eX5_digest_307 ?_
                          refine A.ls1 eX5_digest_308 ?_
                          refine A.ldc2 eX5_digest_309 nX5_275 ?_
                          refine A.ll1 eX5_digest_312 ?_
                          refine A.lmul eX5_digest_313 ?_
                          refine A.al0 eX5_digest_314 ?_
                          refine A.iconst (v := nI 1) eX5_digest_315 (by decide) ?_
                          refine A.cVi1 eX5_digest_316 oX5_lightningOf kX5_208 ko42 (sX5_lightningOf (w := 1) e1 (by omega) ?_)
                          refine A.top (Rq8 (w := 1) (by omega)).symm ?_
                          refine A.i2l eX5_digest_319 rfl ?_
                          refine A.ladd eX5_digest_320 ?_
                          refine A.ls1 eX5_digest_321 ?_
                          refine A.ldc2 eX5_digest_322 nX5_275 ?_
                          refine A.ll1 eX5_digest_325 ?_
                          refine A.lmul eX5_digest_326 ?_
                          refine A.al0 eX5_digest_327 ?_
                          refine A.cVi0 eX5_digest_328 oX5_settlesNow kX5_211 ko42 (sX5_settlesNow e1 ?_)
                          refine A.i2l eX5_digest_331 rfl ?_
                          refine A.ladd eX5_digest_332 ?_
                          refine A.ls1 eX5_digest_333 ?_
                          refine A.ldc2 eX5_digest_334 nX5_275 ?_
                          refine A.ll1 eX5_digest_337 ?_
                          refine A.lmul eX5_digest_338 ?_
                          refine A.al0 eX5_digest_339 ?_
                          refine A.cVi0 eX5_digest_340 oX5_hidNow kX5_245 ko42 (sX5_hidNow e1 ?_)
                          refine A.i2l eX5_digest_343 rfl ?_
                          refine A.ladd eX5_digest_344 ?_
                          refine A.ls1 eX5_digest_345 ?_
                          refine A.ldc2 eX5_digest_346 nX5_275 ?_
                          refine A.ll1 eX5_digest_349 ?_
                          refine A.lmul eX5_digest_350 ?_
                          refine A.al0 eX5_digest_351 ?_
                          refine A.bipush (v := nI 7) eX5_digest_352 (by decide) ?_
                          refine A.iconst (v := -1) eX5_digest_354 (by decide) ?_
                          refine A.cVi2 eX5_digest_355 oX5_dayOf kX5_272 ko42 (sX5_dayOfN e1 (fun τ6 g7 g8 => ?_))
                          refine A.i2l eX5_digest_358 rfl ?_
                          refine A.ladd eX5_digest_359 ?_
                          refine A.ls1 eX5_digest_360 ?_
                          refine A.ldc2 eX5_digest_361 nX5_275 ?_
                          refine A.ll1 eX5_digest_364 ?_
                          refine A.lmul eX5_digest_365 ?_
                          refine A.al0 eX5_digest_366 ?_
                          refine A.bipush (v := nI 7) eX5_digest_367 (by decide) ?_
                          refine A.iconst (v := nI 0) eX5_digest_369 (by decide) ?_
                          refine A.cVi2 eX5_digest_370 oX5_day kX5_286 ko42 (aX5_day g7.1 (fun τ7 g9 g10 => ?_))
                          refine A.i2l eX5_digest_373 rfl ?_
                          refine A.ladd eX5_digest_374 ?_
                          refine B.lret eX5_digest_375 ?_
                          exact hQ τ7 g9 ((e2.tr g8.1).tr g10)
                        · refine A.ldc2 eX5_digest_277 nX5_275 ?_
                          refine A.ll1 eX5_digest_280 ?_
                          refine A.lmul eX5_digest_281 ?_
                          refine A.al0 eX5_digest_282 ?_
                          refine A.il3 eX5_digest_283 ?_
                          refine A.cVi1 eX5_digest_284 oX5_mayOf kX5_242 ko42 (sX5_mayOf e1 (by omega) (fun τ5 g5 g6 => ?_))
                          refine A.top (Rq7 (by omega) n8).symm ?_
                          refine A.i2l eX5_digest_287 rfl ?_
                          refine A.ladd eX5_digest_288 ?_
                          refine A.ls1 eX5_digest_289 ?_
                          refine A.inc3N eX5_digest_290 ?_
                          refine A.goto eX5_digest_293 ?_
                          exact A.eqw (by simp [wkL]; rfl) rfl rfl (ihv (i + 1) τ5 (by omega) (by omega) g5 (e2.tr g6.1))
                    have ek : xq x = i := by omega
                    subst ek
                    exact A.eqw (by simp [wkL]; rfl) rfl rfl (lv_ (xp x + 1) 0 ξ (by omega) (by omega) e1 e2)
                  · refine A.al0 eX5_digest_252 ?_
                    refine A.ll1 eX5_digest_253 ?_
                    refine A.il3 eX5_digest_254 ?_
                    refine A.cVl2 eX5_digest_255 oX5_tellsPlace kX5_282 ko42 (sX5_tellsPlace e1 (by omega) (fun τ5 g5 g6 => ?_))
                    refine A.ls1 eX5_digest_258 ?_
                    refine A.inc3N eX5_digest_259 ?_
                    refine A.goto eX5_digest_262 ?_
                    exact A.eqw (by simp [wkL]; rfl) rfl rfl (ihz (i + 1) τ5 (by omega) (by omega) g5 (e2.tr g6.1))
              have ek : 4 = k := by omega
              subst ek
              exact A.eqw (by simp [wkL]; rfl) rfl rfl (lz (xq x + 1) 0 τ (by omega) (by omega) g1 gf)
            · refine A.il3 eX5_digest_68 ?_
              refine A.iconst (v := nI 2) eX5_digest_69 (by decide) ?_
              refine A.icmp_geN eX5_digest_70 (fun yh1 => ?_) (fun yh1 => ?_)
              · refine A.il3 eX5_digest_77 ?_
                refine A.iconst (v := nI 2) eX5_digest_78 (by decide) ?_
                refine A.icmp_neN eX5_digest_79 (fun yh2 => ?_) (fun yh2 => ?_)
                · refine A.bipush (v := nI 23) eX5_digest_86 (by decide) ?_
                  refine A.top (show nI 23 = nI (dhN k) by rw [show k = 3 by omega]; rfl) ?_
                  have hd4 : dhN k < 24 := (dh_N k (by omega)).2
                  refine A.is4 eX5_digest_88 ?_
                  refine A.ldc2 eX5_digest_90 nX5_275 ?_
                  refine A.ll1 eX5_digest_93 ?_
                  refine A.lmul eX5_digest_94 ?_
                  refine A.al0 eX5_digest_95 ?_
                  refine A.il4 eX5_digest_96 ?_
                  refine A.cVi1 eX5_digest_98 oX5_metIn kX5_202 ko42 (sX5_metIn g1 hd4 ?_)
                  refine A.top (Rq2 hd4).symm ?_
                  refine A.i2l eX5_digest_101 rfl ?_
                  refine A.ladd eX5_digest_102 ?_
                  refine A.ls1 eX5_digest_103 ?_
                  refine A.iconst (v := nI 0) eX5_digest_104 (by decide) ?_
                  refine A.is5 eX5_digest_105 ?_
                  have lx : ∀ (fu i : Nat), xp x - i < fu → i ≤ xp x → B G (r0 7 173) mX5_digest 107 [some (rf G 42), some (.long ((fld (mHa x (dhN k)) (mx (fld (fun k a => mH x a (dhN k)) (mx (mx (fld (fun k a => mx a (Rcount x (nI k)).toInt64) 17 8) (Rfault x (nI 0)).toInt64) (Rfault x (nI 1)).toInt64) k) (Rmet x (nI (dhN k))).toInt64) i))), none, some (.int (nI k)), some (.int (nI (dhN k))), some (.int (nI i))] [] (τ) (Pl K) := by
                    intro fu
                    induction fu with
                    | zero => intro i  h1 h2; omega
                    | succ fu ihx =>
                      intro i  h1 h2 
                      refine A.il5 eX5_digest_107 ?_
                      refine A.al0 eX5_digest_109 ?_
                      refine A.getR eX5_digest_110 fX5_28 ko42 kr42_8 ?_
                      refine A.iconst (v := nI 0) eX5_digest_113 (by decide) ?_
                      refine A.ialdN eX5_digest_114 ka49 ?_
                      refine A.top g1.2.1.1 ?_
                      refine A.icmp_geN eX5_digest_115 (fun c7 => ?_) (fun c7 => ?_)
                      · refine A.iconst (v := nI 0) eX5_digest_166 (by decide) ?_
                        refine A.is5 eX5_digest_167 ?_
                        have ly : ∀ (fu j : Nat), xq x - j < fu → j ≤ xq x → B G (r0 7 173) mX5_digest 169 [some (rf G 42), some (.long ((fld (mHb x (dhN k)) ((fld (mHa x (dhN k)) (mx (fld (fun k a => mH x a (dhN k)) (mx (mx (fld (fun k a => mx a (Rcount x (nI k)).toInt64) 17 8) (Rfault x (nI 0)).toInt64) (Rfault x (nI 1)).toInt64) k) (Rmet x (nI (dhN k))).toInt64) (xp x))) j))), none, some (.int (nI k)), some (.int (nI (dhN k))), some (.int (nI j))] [] (τ) (Pl K) := by
                          intro fu
                          induction fu with
                          | zero => intro j  h1 h2; omega
                          | succ fu ihy =>
                            intro j  h1 h2 
                            refine A.il5 eX5_digest_169 ?_
                            refine A.al0 eX5_digest_171 ?_
                            refine A.getR eX5_digest_172 fX5_28 ko42 kr42_8 ?_
                            refine A.iconst (v := nI 1) eX5_digest_175 (by decide) ?_
                            refine A.ialdN eX5_digest_176 ka49 ?_
                            refine A.top g1.2.1.2.1 ?_
                            refine A.icmp_geN eX5_digest_177 (fun c8 => ?_) (fun c8 => ?_)
                            · refine A.inc3N eX5_digest_234 ?_
                              refine A.goto eX5_digest_237 ?_
                              have ej : xq x = j := by omega
                              subst ej
                              exact A.eqw (by simp [wkL]; rfl) rfl rfl (ihk (k + 1) (by omega) (by omega))
                            · refine A.ldc2 eX5_digest_180 nX5_275 ?_
                              refine A.ll1 eX5_digest_183 ?_
                              refine A.lmul eX5_digest_184 ?_
                              refine A.al0 eX5_digest_185 ?_
                              refine A.il4 eX5_digest_186 ?_
                              refine A.il5 eX5_digest_188 ?_
                              refine A.cVi2 eX5_digest_190 oX5_crowdOf kX5_178 ko42 (sX5_crowdOf (a := xa x (dhN k)) g1.2.1.1 n8 hd4 (fun p hp => ((g1.2.2.2 _ hd4).1 p hp).1) ?_)
                              refine A.top (show _ = Rcrowd x (nI (dhN k)) (nI j) from (Rq5 hd4 (by omega) q6).symm) ?_
                              refine A.i2l eX5_digest_193 rfl ?_
                              refine A.ladd eX5_digest_194 ?_
                              refine A.ls1 eX5_digest_195 ?_
                              refine A.ldc2 eX5_digest_196 nX5_275 ?_
                              refine A.ll1 eX5_digest_199 ?_
                              refine A.lmul eX5_digest_200 ?_
                              refine A.al0 eX5_digest_201 ?_
                              refine A.il4 eX5_digest_202 ?_
                              refine A.il5 eX5_digest_204 ?_
                              refine A.iconst (v := nI 0) eX5_digest_206 (by decide) ?_
                              refine A.cVl3 eX5_digest_207 oX5_skyOf kX5_195 ko42 (sX5_skyOf (q := j) (w := 0) g1 hd4 (by omega) ?_)
                              refine A.topl (Rq6 (w := 0) hd4 (by omega) q6 (by omega)).symm ?_
                              refine A.ladd eX5_digest_210 ?_
                              refine A.ls1 eX5_digest_211 ?_
                              refine A.ldc2 eX5_digest_212 nX5_275 ?_
                              refine A.ll1 eX5_digest_215 ?_
                              refine A.lmul eX5_digest_216 ?_
                              refine A.al0 eX5_digest_217 ?_
                              refine A.il4 eX5_digest_218 ?_
                              refine A.il5 eX5_digest_220 ?_
                              refine A.iconst (v := nI 1) eX5_digest_222 (by decide) ?_
                              refine A.cVl3 eX5_digest_223 oX5_skyOf kX5_195 ko42 (sX5_skyOf (q := j) (w := 1) g1 hd4 (by omega) ?_)
                              refine A.topl (Rq6 (w := 1) hd4 (by omega) q6 (by omega)).symm ?_
                              refine A.ladd eX5_digest_226 ?_
                              refine A.ls1 eX5_digest_227 ?_
                              refine A.inc5N eX5_digest_228 ?_
                              refine A.goto eX5_digest_231 ?_
                              exact ihy (j + 1) (by omega) (by omega)
                        have ei : xp x = i := by omega
                        subst ei
                        exact ly (xq x + 1) 0 (by omega) (by omega)
                      · refine A.ldc2 eX5_digest_118 nX5_275 ?_
                        refine A.ll1 eX5_digest_121 ?_
                        refine A.lmul eX5_digest_122 ?_
                        refine A.al0 eX5_digest_123 ?_
                        refine A.getR eX5_digest_124 fX5_37 ko42 kr42_12 ?_
                        refine A.bipush (v := nI 8) eX5_digest_127 (by decide) ?_
                        refine A.il4 eX5_digest_129 ?_
                        refine A.imulN eX5_digest_131 ?_
                        refine A.il5 eX5_digest_132 ?_
                        refine A.iaddN eX5_digest_134 ?_
                        refine A.ialdN eX5_digest_135 ka52 ?_
                        refine A.top (show τ.1 52 (8 * dhN k + i) = Rwhere x (nI (dhN k)) (nI i) by rw [Rq3 hd4 (by omega) n8]; exact ((g1.2.2.2 _ hd4).1 i (by omega)).1) ?_
                        refine A.i2l eX5_digest_136 rfl ?_
                        refine A.ladd eX5_digest_137 ?_
                        refine A.ls1 eX5_digest_138 ?_
                        refine A.ldc2 eX5_digest_139 nX5_275 ?_
                        refine A.ll1 eX5_digest_142 ?_
                        refine A.lmul eX5_digest_143 ?_
                        refine A.al0 eX5_digest_144 ?_
                        refine A.getR eX5_digest_145 fX5_40 ko42 kr42_13 ?_
                        refine A.bipush (v := nI 8) eX5_digest_148 (by decide) ?_
                        refine A.il4 eX5_digest_150 ?_
                        refine A.imulN eX5_digest_152 ?_
                        refine A.il5 eX5_digest_153 ?_
                        refine A.iaddN eX5_digest_155 ?_
                        refine A.ialdN eX5_digest_156 ka53 ?_
                        refine A.top (show τ.1 53 (8 * dhN k + i) = Rbright x (nI (dhN k)) (nI i) by rw [Rq4 hd4 (by omega) n8]; exact ((g1.2.2.2 _ hd4).1 i (by omega)).2.1) ?_
                        refine A.i2l eX5_digest_157 rfl ?_
                        refine A.ladd eX5_digest_158 ?_
                        refine A.ls1 eX5_digest_159 ?_
                        refine A.inc5N eX5_digest_160 ?_
                        refine A.goto eX5_digest_163 ?_
                        exact ihx (i + 1) (by omega) (by omega)
                  exact lx (xp x + 1) 0 (by omega) (by omega)
                · refine A.iconst (v := nI 5) eX5_digest_82 (by decide) ?_
                  refine A.goto eX5_digest_83 ?_
                  refine A.top (show nI 5 = nI (dhN k) by rw [yh2]; rfl) ?_
                  have hd4 : dhN k < 24 := (dh_N k (by omega)).2
                  refine A.is4 eX5_digest_88 ?_
                  refine A.ldc2 eX5_digest_90 nX5_275 ?_
                  refine A.ll1 eX5_digest_93 ?_
                  refine A.lmul eX5_digest_94 ?_
                  refine A.al0 eX5_digest_95 ?_
                  refine A.il4 eX5_digest_96 ?_
                  refine A.cVi1 eX5_digest_98 oX5_metIn kX5_202 ko42 (sX5_metIn g1 hd4 ?_)
                  refine A.top (Rq2 hd4).symm ?_
                  refine A.i2l eX5_digest_101 rfl ?_
                  refine A.ladd eX5_digest_102 ?_
                  refine A.ls1 eX5_digest_103 ?_
                  refine A.iconst (v := nI 0) eX5_digest_104 (by decide) ?_
                  refine A.is5 eX5_digest_105 ?_
                  have lx : ∀ (fu i : Nat), xp x - i < fu → i ≤ xp x → B G (r0 7 173) mX5_digest 107 [some (rf G 42), some (.long ((fld (mHa x (dhN k)) (mx (fld (fun k a => mH x a (dhN k)) (mx (mx (fld (fun k a => mx a (Rcount x (nI k)).toInt64) 17 8) (Rfault x (nI 0)).toInt64) (Rfault x (nI 1)).toInt64) k) (Rmet x (nI (dhN k))).toInt64) i))), none, some (.int (nI k)), some (.int (nI (dhN k))), some (.int (nI i))] [] (τ) (Pl K) := by
                    intro fu
                    induction fu with
                    | zero => intro i  h1 h2; omega
                    | succ fu ihx =>
                      intro i  h1 h2 
                      refine A.il5 eX5_digest_107 ?_
                      refine A.al0 eX5_digest_109 ?_
                      refine A.getR eX5_digest_110 fX5_28 ko42 kr42_8 ?_
                      refine A.iconst (v := nI 0) eX5_digest_113 (by decide) ?_
                      refine A.ialdN eX5_digest_114 ka49 ?_
                      refine A.top g1.2.1.1 ?_
                      refine A.icmp_geN eX5_digest_115 (fun c9 => ?_) (fun c9 => ?_)
                      · refine A.iconst (v := nI 0) eX5_digest_166 (by decide) ?_
                        refine A.is5 eX5_digest_167 ?_
                        have ly : ∀ (fu j : Nat), xq x - j < fu → j ≤ xq x → B G (r0 7 173) mX5_digest 169 [some (rf G 42), some (.long ((fld (mHb x (dhN k)) ((fld (mHa x (dhN k)) (mx (fld (fun k a => mH x a (dhN k)) (mx (mx (fld (fun k a => mx a (Rcount x (nI k)).toInt64) 17 8) (Rfault x (nI 0)).toInt64) (Rfault x (nI 1)).toInt64) k) (Rmet x (nI (dhN k))).toInt64) (xp x))) j))), none, some (.int (nI k)), some (.int (nI (dhN k))), some (.int (nI j))] [] (τ) (Pl K) := by
                          intro fu
                          induction fu with
                          | zero => intro j  h1 h2; omega
                          | succ fu ihy =>
                            intro j  h1 h2 
                            refine A.il5 eX5_digest_169 ?_
                            refine A.al0 eX5_digest_171 ?_
                            refine A.getR eX5_digest_172 fX5_28 ko42 kr42_8 ?_
                            refine A.iconst (v := nI 1) eX5_digest_175 (by decide) ?_
                            refine A.ialdN eX5_digest_176 ka49 ?_
                            refine A.top g1.2.1.2.1 ?_
                            refine A.icmp_geN eX5_digest_177 (fun c10 => ?_) (fun c10 => ?_)
                            · refine A.inc3N eX5_digest_234 ?_
                              refine A.goto eX5_digest_237 ?_
                              have ej : xq x = j := by omega
                              subst ej
                              exact A.eqw (by simp [wkL]; rfl) rfl rfl (ihk (k + 1) (by omega) (by omega))
                            · refine A.ldc2 eX5_digest_180 nX5_275 ?_
                              refine A.ll1 eX5_digest_183 ?_
                              refine A.lmul eX5_digest_184 ?_
                              refine A.al0 eX5_digest_185 ?_
                              refine A.il4 eX5_digest_186 ?_
                              refine A.il5 eX5_digest_188 ?_
                              refine A.cVi2 eX5_digest_190 oX5_crowdOf kX5_178 ko42 (sX5_crowdOf (a := xa x (dhN k)) g1.2.1.1 n8 hd4 (fun p hp => ((g1.2.2.2 _ hd4).1 p hp).1) ?_)
                              refine A.top (show _ = Rcrowd x (nI (dhN k)) (nI j) from (Rq5 hd4 (by omega) q6).symm) ?_
                              refine A.i2l eX5_digest_193 rfl ?_
                              refine A.ladd eX5_digest_194 ?_
                              refine A.ls1 eX5_digest_195 ?_
                              refine A.ldc2 eX5_digest_196 nX5_275 ?_
                              refine A.ll1 eX5_digest_199 ?_
                              refine A.lmul eX5_digest_200 ?_
                              refine A.al0 eX5_digest_201 ?_
                              refine A.il4 eX5_digest_202 ?_
                              refine A.il5 eX5_digest_204 ?_
                              refine A.iconst (v := nI 0) eX5_digest_206 (by decide) ?_
                              refine A.cVl3 eX5_digest_207 oX5_skyOf kX5_195 ko42 (sX5_skyOf (q := j) (w := 0) g1 hd4 (by omega) ?_)
                              refine A.topl (Rq6 (w := 0) hd4 (by omega) q6 (by omega)).symm ?_
                              refine A.ladd eX5_digest_210 ?_
                              refine A.ls1 eX5_digest_211 ?_
                              refine A.ldc2 eX5_digest_212 nX5_275 ?_
                              refine A.ll1 eX5_digest_215 ?_
                              refine A.lmul eX5_digest_216 ?_
                              refine A.al0 eX5_digest_217 ?_
                              refine A.il4 eX5_digest_218 ?_
                              refine A.il5 eX5_digest_220 ?_
                              refine A.iconst (v := nI 1) eX5_digest_222 (by decide) ?_
                              refine A.cVl3 eX5_digest_223 oX5_skyOf kX5_195 ko42 (sX5_skyOf (q := j) (w := 1) g1 hd4 (by omega) ?_)
                              refine A.topl (Rq6 (w := 1) hd4 (by omega) q6 (by omega)).symm ?_
                              refine A.ladd eX5_digest_226 ?_
                              refine A.ls1 eX5_digest_227 ?_
                              refine A.inc5N eX5_digest_228 ?_
                              refine A.goto eX5_digest_231 ?_
                              exact ihy (j + 1) (by omega) (by omega)
                        have ei : xp x = i := by omega
                        subst ei
                        exact ly (xq x + 1) 0 (by omega) (by omega)
                      · refine A.ldc2 eX5_digest_118 nX5_275 ?_
                        refine A.ll1 eX5_digest_121 ?_
                        refine A.lmul eX5_digest_122 ?_
                        refine A.al0 eX5_digest_123 ?_
                        refine A.getR eX5_digest_124 fX5_37 ko42 kr42_12 ?_
                        refine A.bipush (v := nI 8) eX5_digest_127 (by decide) ?_
                        refine A.il4 eX5_digest_129 ?_
                        refine A.imulN eX5_digest_131 ?_
                        refine A.il5 eX5_digest_132 ?_
                        refine A.iaddN eX5_digest_134 ?_
                        refine A.ialdN eX5_digest_135 ka52 ?_
                        refine A.top (show τ.1 52 (8 * dhN k + i) = Rwhere x (nI (dhN k)) (nI i) by rw [Rq3 hd4 (by omega) n8]; exact ((g1.2.2.2 _ hd4).1 i (by omega)).1) ?_
                        refine A.i2l eX5_digest_136 rfl ?_
                        refine A.ladd eX5_digest_137 ?_
                        refine A.ls1 eX5_digest_138 ?_
                        refine A.ldc2 eX5_digest_139 nX5_275 ?_
                        refine A.ll1 eX5_digest_142 ?_
                        refine A.lmul eX5_digest_143 ?_
                        refine A.al0 eX5_digest_144 ?_
                        refine A.getR eX5_digest_145 fX5_40 ko42 kr42_13 ?_
                        refine A.bipush (v := nI 8) eX5_digest_148 (by decide) ?_
                        refine A.il4 eX5_digest_150 ?_
                        refine A.imulN eX5_digest_152 ?_
                        refine A.il5 eX5_digest_153 ?_
                        refine A.iaddN eX5_digest_155 ?_
                        refine A.ialdN eX5_digest_156 ka53 ?_
                        refine A.top (show τ.1 53 (8 * dhN k + i) = Rbright x (nI (dhN k)) (nI i) by rw [Rq4 hd4 (by omega) n8]; exact ((g1.2.2.2 _ hd4).1 i (by omega)).2.1) ?_
                        refine A.i2l eX5_digest_157 rfl ?_
                        refine A.ladd eX5_digest_158 ?_
                        refine A.ls1 eX5_digest_159 ?_
                        refine A.inc5N eX5_digest_160 ?_
                        refine A.goto eX5_digest_163 ?_
                        exact ihx (i + 1) (by omega) (by omega)
                  exact lx (xp x + 1) 0 (by omega) (by omega)
              · refine A.il3 eX5_digest_73 ?_
                refine A.goto eX5_digest_74 ?_
                refine A.top (show nI k = nI (dhN k) by rcases (show k = 0 ∨ k = 1 by omega) with rfl | rfl <;> rfl) ?_
                have hd4 : dhN k < 24 := (dh_N k (by omega)).2
                refine A.is4 eX5_digest_88 ?_
                refine A.ldc2 eX5_digest_90 nX5_275 ?_
                refine A.ll1 eX5_digest_93 ?_
                refine A.lmul eX5_digest_94 ?_
                refine A.al0 eX5_digest_95 ?_
                refine A.il4 eX5_digest_96 ?_
                refine A.cVi1 eX5_digest_98 oX5_metIn kX5_202 ko42 (sX5_metIn g1 hd4 ?_)
                refine A.top (Rq2 hd4).symm ?_
                refine A.i2l eX5_digest_101 rfl ?_
                refine A.ladd eX5_digest_102 ?_
                refine A.ls1 eX5_digest_103 ?_
                refine A.iconst (v := nI 0) eX5_digest_104 (by decide) ?_
                refine A.is5 eX5_digest_105 ?_
                have lx : ∀ (fu i : Nat), xp x - i < fu → i ≤ xp x → B G (r0 7 173) mX5_digest 107 [some (rf G 42), some (.long ((fld (mHa x (dhN k)) (mx (fld (fun k a => mH x a (dhN k)) (mx (mx (fld (fun k a => mx a (Rcount x (nI k)).toInt64) 17 8) (Rfault x (nI 0)).toInt64) (Rfault x (nI 1)).toInt64) k) (Rmet x (nI (dhN k))).toInt64) i))), none, some (.int (nI k)), some (.int (nI (dhN k))), some (.int (nI i))] [] (τ) (Pl K) := by
                  intro fu
                  induction fu with
                  | zero => intro i  h1 h2; omega
                  | succ fu ihx =>
                    intro i  h1 h2 
                    refine A.il5 eX5_digest_107 ?_
                    refine A.al0 eX5_digest_109 ?_
                    refine A.getR eX5_digest_110 fX5_28 ko42 kr42_8 ?_
                    refine A.iconst (v := nI 0) eX5_digest_113 (by decide) ?_
                    refine A.ialdN eX5_digest_114 ka49 ?_
                    refine A.top g1.2.1.1 ?_
                    refine A.icmp_geN eX5_digest_115 (fun c11 => ?_) (fun c11 => ?_)
                    · refine A.iconst (v := nI 0) eX5_digest_166 (by decide) ?_
                      refine A.is5 eX5_digest_167 ?_
                      have ly : ∀ (fu j : Nat), xq x - j < fu → j ≤ xq x → B G (r0 7 173) mX5_digest 169 [some (rf G 42), some (.long ((fld (mHb x (dhN k)) ((fld (mHa x (dhN k)) (mx (fld (fun k a => mH x a (dhN k)) (mx (mx (fld (fun k a => mx a (Rcount x (nI k)).toInt64) 17 8) (Rfault x (nI 0)).toInt64) (Rfault x (nI 1)).toInt64) k) (Rmet x (nI (dhN k))).toInt64) (xp x))) j))), none, some (.int (nI k)), some (.int (nI (dhN k))), some (.int (nI j))] [] (τ) (Pl K) := by
                        intro fu
                        induction fu with
                        | zero => intro j  h1 h2; omega
                        | succ fu ihy =>
                          intro j  h1 h2 
                          refine A.il5 eX5_digest_169 ?_
                          refine A.al0 eX5_digest_171 ?_
                          refine A.getR eX5_digest_172 fX5_28 ko42 kr42_8 ?_
                          refine A.iconst (v := nI 1) eX5_digest_175 (by decide) ?_
                          refine A.ialdN eX5_digest_176 ka49 ?_
                          refine A.top g1.2.1.2.1 ?_
                          refine A.icmp_geN eX5_digest_177 (fun c12 => ?_) (fun c12 => ?_)
                          · refine A.inc3N eX5_digest_234 ?_
                            refine A.goto eX5_digest_237 ?_
                            have ej : xq x = j := by omega
                            subst ej
                            exact A.eqw (by simp [wkL]; rfl) rfl rfl (ihk (k + 1) (by omega) (by omega))
                          · refine A.ldc2 eX5_digest_180 nX5_275 ?_
                            refine A.ll1 eX5_digest_183 ?_
                            refine A.lmul eX5_digest_184 ?_
                            refine A.al0 eX5_digest_185 ?_
                            refine A.il4 eX5_digest_186 ?_
                            refine A.il5 eX5_digest_188 ?_
                            refine A.cVi2 eX5_digest_190 oX5_crowdOf kX5_178 ko42 (sX5_crowdOf (a := xa x (dhN k)) g1.2.1.1 n8 hd4 (fun p hp => ((g1.2.2.2 _ hd4).1 p hp).1) ?_)
                            refine A.top (show _ = Rcrowd x (nI (dhN k)) (nI j) from (Rq5 hd4 (by omega) q6).symm) ?_
                            refine A.i2l eX5_digest_193 rfl ?_
                            refine A.ladd eX5_digest_194 ?_
                            refine A.ls1 eX5_digest_195 ?_
                            refine A.ldc2 eX5_digest_196 nX5_275 ?_
                            refine A.ll1 eX5_digest_199 ?_
                            refine A.lmul eX5_digest_200 ?_
                            refine A.al0 eX5_digest_201 ?_
                            refine A.il4 eX5_digest_202 ?_
                            refine A.il5 eX5_digest_204 ?_
                            refine A.iconst (v := nI 0) eX5_digest_206 (by decide) ?_
                            refine A.cVl3 eX5_digest_207 oX5_skyOf kX5_195 ko42 (sX5_skyOf (q := j) (w := 0) g1 hd4 (by omega) ?_)
                            refine A.topl (Rq6 (w := 0) hd4 (by omega) q6 (by omega)).symm ?_
                            refine A.ladd eX5_digest_210 ?_
                            refine A.ls1 eX5_digest_211 ?_
                            refine A.ldc2 eX5_digest_212 nX5_275 ?_
                            refine A.ll1 eX5_digest_215 ?_
                            refine A.lmul eX5_digest_216 ?_
                            refine A.al0 eX5_digest_217 ?_
                            refine A.il4 eX5_digest_218 ?_
                            refine A.il5 eX5_digest_220 ?_
                            refine A.iconst (v := nI 1) eX5_digest_222 (by decide) ?_
                            refine A.cVl3 eX5_digest_223 oX5_skyOf kX5_195 ko42 (sX5_skyOf (q := j) (w := 1) g1 hd4 (by omega) ?_)
                            refine A.topl (Rq6 (w := 1) hd4 (by omega) q6 (by omega)).symm ?_
                            refine A.ladd eX5_digest_226 ?_
                            refine A.ls1 eX5_digest_227 ?_
                            refine A.inc5N eX5_digest_228 ?_
                            refine A.goto eX5_digest_231 ?_
                            exact ihy (j + 1) (by omega) (by omega)
                      have ei : xp x = i := by omega
                      subst ei
                      exact ly (xq x + 1) 0 (by omega) (by omega)
                    · refine A.ldc2 eX5_digest_118 nX5_275 ?_
                      refine A.ll1 eX5_digest_121 ?_
                      refine A.lmul eX5_digest_122 ?_
                      refine A.al0 eX5_digest_123 ?_
                      refine A.getR eX5_digest_124 fX5_37 ko42 kr42_12 ?_
                      refine A.bipush (v := nI 8) eX5_digest_127 (by decide) ?_
                      refine A.il4 eX5_digest_129 ?_
                      refine A.imulN eX5_digest_131 ?_
                      refine A.il5 eX5_digest_132 ?_
                      refine A.iaddN eX5_digest_134 ?_
                      refine A.ialdN eX5_digest_135 ka52 ?_
                      refine A.top (show τ.1 52 (8 * dhN k + i) = Rwhere x (nI (dhN k)) (nI i) by rw [Rq3 hd4 (by omega) n8]; exact ((g1.2.2.2 _ hd4).1 i (by omega)).1) ?_
                      refine A.i2l eX5_digest_136 rfl ?_
                      refine A.ladd eX5_digest_137 ?_
                      refine A.ls1 eX5_digest_138 ?_
                      refine A.ldc2 eX5_digest_139 nX5_275 ?_
                      refine A.ll1 eX5_digest_142 ?_
                      refine A.lmul eX5_digest_143 ?_
                      refine A.al0 eX5_digest_144 ?_
                      refine A.getR eX5_digest_145 fX5_40 ko42 kr42_13 ?_
                      refine A.bipush (v := nI 8) eX5_digest_148 (by decide) ?_
                      refine A.il4 eX5_digest_150 ?_
                      refine A.imulN eX5_digest_152 ?_
                      refine A.il5 eX5_digest_153 ?_
                      refine A.iaddN eX5_digest_155 ?_
                      refine A.ialdN eX5_digest_156 ka53 ?_
                      refine A.top (show τ.1 53 (8 * dhN k + i) = Rbright x (nI (dhN k)) (nI i) by rw [Rq4 hd4 (by omega) n8]; exact ((g1.2.2.2 _ hd4).1 i (by omega)).2.1) ?_
                      refine A.i2l eX5_digest_157 rfl ?_
                      refine A.ladd eX5_digest_158 ?_
                      refine A.ls1 eX5_digest_159 ?_
                      refine A.inc5N eX5_digest_160 ?_
                      refine A.goto eX5_digest_163 ?_
                      exact ihx (i + 1) (by omega) (by omega)
                exact lx (xp x + 1) 0 (by omega) (by omega)
        exact A.eqw (by simp [wkL]; rfl) rfl rfl (lk_ 5 0 (by omega) (by omega))
      · refine A.ldc2 eX5_digest_12 nX5_275 ?_
        refine A.ll1 eX5_digest_15 ?_
        refine A.lmul eX5_digest_16 ?_
        refine A.al0 eX5_digest_17 ?_
        refine A.il3 eX5_digest_18 ?_
        refine A.cVi1 eX5_digest_19 oX5_count kX5_279 ko42 (aX5_count e1 (fun τ g1 g2 => ?_))
        refine A.i2l eX5_digest_22 rfl ?_
        refine A.ladd eX5_digest_23 ?_
        refine A.ls1 eX5_digest_24 ?_
        refine A.inc3N eX5_digest_25 ?_
        refine A.goto eX5_digest_28 ?_
        exact ih (i + 1) τ (by omega) (by omega) g1 (e2.tr g2)
  exact A.eqw (by simp [wkL, fld]) rfl rfl (lp 9 0 σ (by omega) (by omega) hM (Fm.rf _))
