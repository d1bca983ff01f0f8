set_option maxRecDepth 100000 in
set_option maxHeartbeats 4000000 in
theorem sX5_lightningOf {G : GW} {σ : St} {K : Int32 → St → Prop} {x : XS} {w : Nat} (hF : FM x σ) (bw : w < 2) (hQ : K (Vlightning x w) σ) : Ci G (r0 1 21) mX5_lightningOf [rf G 42, .int (nI w)] σ K := by
  refine Ci.of [some (rf G 42), some (.int (nI w)), none, none] ?_
  have n8 := hF.np8
  have q6 := hF.nq6
  refine A.iconst (v := nI 0) eX5_lightningOf_0 (by decide) ?_
  refine A.is2 eX5_lightningOf_1 ?_
  have lo : ∀ (fu h : Nat), 24 - h < fu → h ≤ 24 → (∀ g, g < h → (fun h => decide (lsS x (xa x h) (xr x h) < xq x)) g = false) → B G (r0 1 21) mX5_lightningOf 2 [some (rf G 42), some (.int (nI w)), some (.int (nI h)), none] [] (σ) (Pi K) := by
    intro fu
    induction fu with
    | zero => intro h  h1 h2; omega
    | succ fu iho =>
      intro h  h1 h2 e1
      refine A.il2 eX5_lightningOf_2 ?_
      refine A.bipush (v := nI 24) eX5_lightningOf_3 (by decide) ?_
      refine A.icmp_geN eX5_lightningOf_5 (fun c1 => ?_) (fun c1 => ?_)
      · refine A.iconst (v := -1) eX5_lightningOf_55 (by decide) ?_
        refine B.iret eX5_lightningOf_56 ?_
        have e : h = 24 := by omega
        subst e
        have e4 : lhx x = 24 := ffst_none e1
        refine vl_of hQ ?_
        unfold Vlightning
        rw [e4, if_neg (by omega)]
      · refine A.iconst (v := nI 0) eX5_lightningOf_8 (by decide) ?_
        refine A.is3 eX5_lightningOf_9 ?_
        have lp : ∀ (fu j : Nat), xq x - j < fu → j ≤ xq x → (∀ y, y < j → (fun y => decide (2 ≤ cnt (isdk (xa x h) (xr x h) y) (xp x))) y = false) → B G (r0 1 21) mX5_lightningOf 10 [some (rf G 42), some (.int (nI w)), some (.int (nI h)), some (.int (nI j))] [] (σ) (Pi K) := by
          intro fu
          induction fu with
          | zero => intro j  h1 h2; omega
          | succ fu ih =>
            intro j  h1 h2 e2
            refine A.il3 eX5_lightningOf_10 ?_
            refine A.al0 eX5_lightningOf_11 ?_
            refine A.getR eX5_lightningOf_12 fX5_28 ko42 kr42_8 ?_
            refine A.iconst (v := nI 1) eX5_lightningOf_15 (by decide) ?_
            refine A.ialdN eX5_lightningOf_16 ka49 ?_
            refine A.top hF.2.1.2.1 ?_
            refine A.icmp_geN eX5_lightningOf_17 (fun c2 => ?_) (fun c2 => ?_)
            · refine A.inc2N eX5_lightningOf_49 ?_
              refine A.goto eX5_lightningOf_52 ?_
              refine A.eqw (by simp [wkL]) rfl rfl (iho (h + 1) (by omega) (by omega) (fun g hg => ?_))
              rcases Nat.lt_or_ge g h with z | z
              · exact e1 g z
              · rw [show g = h by omega]
                have ej : j = xq x := by omega
                subst ej
                exact decide_eq_false (by unfold lsS; rw [ffst_none e2]; omega)
            · refine A.al0 eX5_lightningOf_20 ?_
              refine A.getR eX5_lightningOf_21 fX5_46 ko42 kr42_15 ?_
              refine A.il2 eX5_lightningOf_24 ?_
              refine A.ialdN eX5_lightningOf_25 ka55 ?_
              refine A.top (hF.2.2.2 h (by omega)).2 ?_
              have hf64 := flb_lt (xa x h) (xr x h) (xp x) q6
              refine A.il3 eX5_lightningOf_26 ?_
              refine A.cSi2 eX5_lightningOf_27 oX5_isIn kX5_155 (sX5_isIn (by omega) (by omega) ?_)
              refine A.if_eqB eX5_lightningOf_30 (fun yd1 => ?_) (fun yd1 => ?_)
              · refine A.inc3N eX5_lightningOf_43 ?_
                refine A.goto eX5_lightningOf_46 ?_
                refine ih (j + 1) (by omega) (by omega) (fun y hy => ?_)
                rcases Nat.lt_or_ge y j with z | z
                · exact e2 y z
                · rw [show y = j by omega]
                  unfold flb at yd1
                  rw [inb_bits] at yd1
                  simpa [show j < xq x by omega] using yd1
              · refine A.il1 eX5_lightningOf_33 ?_
                refine A.if_neN eX5_lightningOf_34 (fun yd2 => ?_) (fun yd2 => ?_)
                · refine A.il3 eX5_lightningOf_41 ?_
                  refine B.iret eX5_lightningOf_42 ?_
                  have yq : (fun y => decide (2 ≤ cnt (isdk (xa x h) (xr x h) y) (xp x))) j = true := by
                    unfold flb at yd1
                    rw [inb_bits] at yd1
                    simpa [show j < xq x by omega] using yd1
                  have e3 : lsS x (xa x h) (xr x h) = j := ffst_first e2 (by omega) yq
                  have e4 : lhx x = h := ffst_first e1 (by omega) (decide_eq_true (by rw [e3]; omega))
                  refine vl_of hQ ?_
                  unfold Vlightning
                  rw [e4, if_pos (by omega)]
                  first
                    | rw [if_pos yd2]
                    | rw [if_neg yd2, e3]
                · refine A.il2 eX5_lightningOf_37 ?_
                  refine A.goto eX5_lightningOf_38 ?_
                  refine B.iret eX5_lightningOf_42 ?_
                  have yq : (fun y => decide (2 ≤ cnt (isdk (xa x h) (xr x h) y) (xp x))) j = true := by
                    unfold flb at yd1
                    rw [inb_bits] at yd1
                    simpa [show j < xq x by omega] using yd1
                  have e3 : lsS x (xa x h) (xr x h) = j := ffst_first e2 (by omega) yq
                  have e4 : lhx x = h := ffst_first e1 (by omega) (decide_eq_true (by rw [e3]; omega))
                  refine vl_of hQ ?_
                  unfold Vlightning
                  rw [e4, if_pos (by omega)]
                  first
                    | rw [if_pos yd2]
                    | rw [if_neg yd2, e3]
        exact lp (xq x + 1) 0 (by omega) (by omega) (fun y hy => by omega)
  exact A.eqw (by simp [wkL]) rfl rfl (lo 25 0 (by omega) (by omega) (fun g hg => by omega))
set_option maxRecDepth 100000 in
set_option maxHeartbeats 4000000 in
theorem aX5_lightning {G : GW} {σ : St} {K : Int32 → St → Prop} {x : XS} {w : Int32} (hM : MI x σ) (hQ : ∀ τ : St, MI (x) τ → Fm σ τ → K (Rlightning x w) τ) : Ci G (r0 5 115) mX5_lightning [rf G 42, .int w] σ K := by
  refine Ci.of [some (rf G 42), some (.int w)] ?_
  unfold Rlightning at hQ
  have n8 := hM.np8
  have q6 := hM.nq6
  refine A.al0 eX5_lightning_0 ?_
  refine A.cVv0 eX5_lightning_1 oX5_find kX5_175 ko42 (sX5_find hM (fun τ g1 g2 => ?_))
  refine A.il1 eX5_lightning_4 ?_
  refine A.cSi1 eX5_lightning_5 oX5_isTwo kX5_96 (sX5_isTwo ?_)
  refine A.if_eqB eX5_lightning_8 (fun yw_w => ?_) (fun yw_w => ?_)
  · refine A.bipush (v := -2) eX5_lightning_19 (by decide) ?_
    refine B.iret eX5_lightning_21 ?_
    simp only [if_neg (show ¬ (ck w 2) from fun z => yw_w z)] at hQ
    exact hQ τ g1.1 g2
  · simp only [if_pos (show ck w 2 from yw_w)] at hQ
    obtain ⟨w, bw, rfl⟩ := i_nat yw_w.1 yw_w.2
    try simp only [nI_clamp (n := w) (by omega)] at hQ
    refine A.al0 eX5_lightning_11 ?_
    refine A.il1 eX5_lightning_12 ?_
    refine A.cVi1 eX5_lightning_13 oX5_lightningOf kX5_208 ko42 (sX5_lightningOf g1 bw ?_)
    refine A.goto eX5_lightning_16 ?_
    refine B.iret eX5_lightning_21 ?_
    exact hQ τ g1.1 g2
theorem alk_of {x : XS} {h g : Nat} : alk x h g = true ↔ ∀ p, p < xp x → xr x h p = xr x g p := by
  unfold alk
  rw [alls_of]
  constructor
  · intro z p hp; exact of_decide_eq_true (z p hp)
  · intro z p hp; exact decide_eq_true (z p hp)
theorem alk_st {x : XS} {i : Nat} (hi : i < 23) (h : ∀ k, k < i → alk x (22 - k) 23 = true) : alk x (22 - i) (22 - i + 1) = alk x (22 - i) 23 := by
  have e : ∀ p, p < xp x → xr x (22 - i + 1) p = xr x 23 p := by
    rcases Nat.eq_zero_or_pos i with z | z
    · subst z; intro p _; rfl
    · intro p hp
      have w := alk_of.mp (h (i - 1) (by omega)) p hp
      rw [show 22 - (i - 1) = 22 - i + 1 by omega] at w
      exact w
  rw [Bool.eq_iff_iff, alk_of, alk_of]
  constructor
  · intro z p hp; rw [z p hp, e p hp]
  · intro z p hp; rw [z p hp, e p hp]
set_option maxRecDepth 100000 in
set_option maxHeartbeats 4000000 in
theorem sX5_settlesNow {G : GW} {σ : St} {K : Int32 → St → Prop} {x : XS} (hF : FM x σ) (hQ : K (Vsettles x) σ) : Ci G (r0 0 0) mX5_settlesNow [rf G 42] σ K := by
  refine Ci.of [some (rf G 42), none, none, none, none] ?_
  have n8 := hF.np8
  have q6 := hF.nq6
  refine A.bipush (v := nI 23) eX5_settlesNow_0 (by decide) ?_
  refine A.is1 eX5_settlesNow_2 ?_
  refine A.iconst (v := nI 1) eX5_settlesNow_3 (by decide) ?_
  refine A.is2 eX5_settlesNow_4 ?_
  refine A.bipush (v := nI 22) eX5_settlesNow_5 (by decide) ?_
  refine A.is3 eX5_settlesNow_7 ?_
  have lo : ∀ (fu i : Nat), 23 - i < fu → i ≤ 23 → (∀ k, k < i → alk x (22 - k) 23 = true) → B G (r0 0 0) mX5_settlesNow 8 [some (rf G 42), some (.int (nI (23 - i))), some (.int (nI 1)), some (.int (zI (22 - (i : Int)))), none] [] (σ) (Pi K) := by
    intro fu
    induction fu with
    | zero => intro i  h1 h2; omega
    | succ fu iho =>
      intro i  h1 h2 e1
      refine A.il3 eX5_settlesNow_8 ?_
      refine A.if_ltZ eX5_settlesNow_9 (fun yd0 => ?_) (fun yd0 => ?_)
      · refine A.il1 eX5_settlesNow_92 ?_
        refine B.iret eX5_settlesNow_93 ?_
        have e : i = 23 := by omega
        subst e
        refine vl_of hQ ?_
        unfold Vsettles
        rw [ffst_none (P := (fun k => !alk x (22 - k) 23)) (fun k hk => by simp [e1 k hk])]
      · have hi23 : i < 23 := by omega
        rw [show zI (22 - (i : Int)) = nI (22 - i) from by rw [nI_z]; congr 1; omega]
        refine A.il2 eX5_settlesNow_12 ?_
        refine A.if_eqN eX5_settlesNow_13 (fun c2 => ?_) (fun c2 => ?_)
        · exact absurd c2 (by decide)
        · refine A.iconst (v := nI 0) eX5_settlesNow_16 (by decide) ?_
          refine A.is4 eX5_settlesNow_17 ?_
          have lp : ∀ (fu j : Nat), xp x - j < fu → j ≤ xp x → B G (r0 0 0) mX5_settlesNow 19 [some (rf G 42), some (.int (nI (23 - i))), some (.int (bI (alls (fun p => decide (xr x (22 - i) p = xr x (22 - i + 1) p)) j = true))), some (.int (nI (22 - i))), some (.int (nI j))] [] (σ) (Pi K) := by
            intro fu
            induction fu with
            | zero => intro j  h1 h2; omega
            | succ fu ih =>
              intro j  h1 h2 
              refine A.il4 eX5_settlesNow_19 ?_
              refine A.al0 eX5_settlesNow_21 ?_
              refine A.getR eX5_settlesNow_22 fX5_28 ko42 kr42_8 ?_
              refine A.iconst (v := nI 0) eX5_settlesNow_25 (by decide) ?_
              refine A.ialdN eX5_settlesNow_26 ka49 ?_
              refine A.top hF.2.1.1 ?_
              refine A.icmp_geN eX5_settlesNow_27 (fun c3 => ?_) (fun c3 => ?_)
              · have ej : j = xp x := by omega
                subst ej
                have eal : alls (fun p => decide (xr x (22 - i) p = xr x (22 - i + 1) p)) (xp x) = alk x (22 - i) 23 := alk_st hi23 e1
                refine A.il2 eX5_settlesNow_76 ?_
                refine A.if_eqB eX5_settlesNow_77 (fun yd3 => ?_) (fun yd3 => ?_)
                · refine A.il1 eX5_settlesNow_84 ?_
                  refine A.is1 eX5_settlesNow_85 ?_
                  refine A.inc3 (v := zI (22 - ((i + 1 : Nat) : Int))) eX5_settlesNow_86 (by rw [nI_z]; show zI _ + zI (-1) = _; rw [zI_add]; congr 1; omega) ?_
                  refine A.goto eX5_settlesNow_89 ?_
                  have hf9 : K (nI (23 - i)) σ := by
                    refine vl_of hQ ?_
                    unfold Vsettles
                    rw [ffst_first (P := (fun k => !alk x (22 - k) 23)) (i := i) (fun k hk => by simp [e1 k hk]) (by omega) (by rw [← eal]; simp [yd3])]
                  refine A.il3 eX5_settlesNow_8 ?_
                  refine A.if_ltZ eX5_settlesNow_9 (fun _ => ?_) (fun _ => ?_)
                  · refine A.il1 eX5_settlesNow_92 ?_
                    refine B.iret eX5_settlesNow_93 ?_
                    exact hf9
                  · refine A.il2 eX5_settlesNow_12 ?_
                    refine A.if_eqB eX5_settlesNow_13 (fun _ => ?_) (fun z => absurd z yd3)
                    refine A.il1 eX5_settlesNow_92 ?_
                    refine B.iret eX5_settlesNow_93 ?_
                    exact hf9
                · refine A.il3 eX5_settlesNow_80 ?_
                  refine A.goto eX5_settlesNow_81 ?_
                  refine A.is1 eX5_settlesNow_85 ?_
                  refine A.inc3 (v := zI (22 - ((i + 1 : Nat) : Int))) eX5_settlesNow_86 (by rw [nI_z]; show zI _ + zI (-1) = _; rw [zI_add]; congr 1; omega) ?_
                  refine A.goto eX5_settlesNow_89 ?_
                  refine A.eqw (by rw [show bI (alls (fun p => decide (xr x (22 - i) p = xr x (22 - i + 1) p)) (xp x) = true) = nI 1 from bI_t yd3, show 22 - i = 23 - (i + 1) by omega]; simp [wkL]) rfl rfl (iho (i + 1) (by omega) (by omega) (fun k hk => ?_))
                  rcases Nat.lt_or_ge k i with z | z
                  · exact e1 k z
                  · rw [show k = i by omega, ← eal]; exact yd3
              · refine A.il2 eX5_settlesNow_30 ?_
                refine A.if_eqB eX5_settlesNow_31 (fun yd1 => ?_) (fun yd1 => ?_)
                · refine A.iconst (v := nI 0) eX5_settlesNow_68 (by decide) ?_
                  refine A.is2 eX5_settlesNow_69 ?_
                  refine A.inc4N eX5_settlesNow_70 ?_
                  refine A.goto eX5_settlesNow_73 ?_
                  have yq : ¬ alls (fun p => decide (xr x (22 - i) p = xr x (22 - i + 1) p)) (j + 1) = true := by simp [alls, yd1]
                  exact A.eq (by rw [bI_f yq]; rfl) rfl rfl (ih (j + 1) (by omega) (by omega))
                · refine A.al0 eX5_settlesNow_34 ?_
                  refine A.getR eX5_settlesNow_35 fX5_40 ko42 kr42_13 ?_
                  refine A.bipush (v := nI 8) eX5_settlesNow_38 (by decide) ?_
                  refine A.il3 eX5_settlesNow_40 ?_
                  refine A.imulN eX5_settlesNow_41 ?_
                  refine A.il4 eX5_settlesNow_42 ?_
                  refine A.iaddN eX5_settlesNow_44 ?_
                  refine A.ialdN eX5_settlesNow_45 ka53 ?_
                  refine A.top ((hF.2.2.2 (22 - i) (by omega)).1 j (by omega)).2.1 ?_
                  refine A.al0 eX5_settlesNow_46 ?_
                  refine A.getR eX5_settlesNow_47 fX5_40 ko42 kr42_13 ?_
                  refine A.bipush (v := nI 8) eX5_settlesNow_50 (by decide) ?_
                  refine A.il3 eX5_settlesNow_52 ?_
                  refine A.imulN eX5_settlesNow_53 ?_
                  refine A.bipush (v := nI 8) eX5_settlesNow_54 (by decide) ?_
                  refine A.iaddN eX5_settlesNow_56 ?_
                  refine A.il4 eX5_settlesNow_57 ?_
                  refine A.iaddN eX5_settlesNow_59 ?_
                  refine A.ialdN eX5_settlesNow_60 ka53 ?_
                  refine A.top (show σ.1 53 (8 * (22 - i) + 8 + j) = nI (xr x (22 - i + 1) j) by rw [show 8 * (22 - i) + 8 + j = 8 * (22 - i + 1) + j by omega]; exact ((hF.2.2.2 (22 - i + 1) (by omega)).1 j (by omega)).2.1) ?_
                  have hx1 := ((hF.2.2.2 (22 - i) (by omega)).1 j (by omega)).2.2
                  have hx2 := ((hF.2.2.2 (22 - i + 1) (by omega)).1 j (by omega)).2.2
                  refine A.icmp_neN eX5_settlesNow_61 (fun yd2 => ?_) (fun yd2 => ?_)
                  · refine A.iconst (v := nI 0) eX5_settlesNow_68 (by decide) ?_
                    refine A.is2 eX5_settlesNow_69 ?_
                    refine A.inc4N eX5_settlesNow_70 ?_
                    refine A.goto eX5_settlesNow_73 ?_
                    first
                      | (have yq : alls (fun p => decide (xr x (22 - i) p = xr x (22 - i + 1) p)) (j + 1) = true := by simp [alls, yd1, yd2]
                         exact A.eq (by rw [bI_t yq]; rfl) rfl rfl (ih (j + 1) (by omega) (by omega)))
                      | (have yq : ¬ alls (fun p => decide (xr x (22 - i) p = xr x (22 - i + 1) p)) (j + 1) = true := by simp [alls, yd1, yd2]
                         exact A.eq (by rw [bI_f yq]; rfl) rfl rfl (ih (j + 1) (by omega) (by omega)))
                  · refine A.iconst (v := nI 1) eX5_settlesNow_64 (by decide) ?_
                    refine A.goto eX5_settlesNow_65 ?_
                    refine A.is2 eX5_settlesNow_69 ?_
                    refine A.inc4N eX5_settlesNow_70 ?_
                    refine A.goto eX5_settlesNow_73 ?_
                    first
                      | (have yq : alls (fun p => decide (xr x (22 - i) p = xr x (22 - i + 1) p)) (j + 1) = true := by simp [alls, yd1, yd2]
                         exact A.eq (by rw [bI_t yq]; rfl) rfl rfl (ih (j + 1) (by omega) (by omega)))
                      | (have yq : ¬ alls (fun p => decide (xr x (22 - i) p = xr x (22 - i + 1) p)) (j + 1) = true := by simp [alls, yd1, yd2]
                         exact A.eq (by rw [bI_f yq]; rfl) rfl rfl (ih (j + 1) (by omega) (by omega)))
          exact A.eq (by rw [bI_t (show alls (fun p => decide (xr x (22 - i) p = xr x (22 - i + 1) p)) 0 = true from rfl)]; rfl) rfl rfl (lp (xp x + 1) 0 (by omega) (by omega))
  exact A.eqw (by simp [wkL]; rfl) rfl rfl (lo 24 0 (by omega) (by omega) (fun k hk => by omega))
set_option maxRecDepth 100000 in
set_option maxHeartbeats 4000000 in
theorem aX5_settles {G : GW} {σ : St} {K : Int32 → St → Prop} {x : XS} (hM : MI x σ) (hQ : ∀ τ : St, MI (x) τ → Fm σ τ → K (Rsettles x) τ) : Ci G (r0 5 115) mX5_settles [rf G 42] σ K := by
  refine Ci.of [some (rf G 42)] ?_
  refine A.al0 eX5_settles_0 ?_
  refine A.cVv0 eX5_settles_1 oX5_find kX5_175 ko42 (sX5_find hM (fun τ g1 g2 => ?_))
  refine A.al0 eX5_settles_4 ?_
  refine A.cVi0 eX5_settles_5 oX5_settlesNow kX5_211 ko42 (sX5_settlesNow g1 ?_)
  refine B.iret eX5_settles_8 ?_
  exact hQ τ g1.1 g2
set_option maxRecDepth 100000 in
set_option maxHeartbeats 4000000 in
theorem sX5_told {G : GW} {σ : St} {K : Int32 → St → Prop} {o : Option Nat} {w : Nat} (ho : ∀ m, o = some m → m < 256) (hw : w < 2) (hQ : K (setA o w) σ) : Ci G (r0 1 22) mX5_told [.int (ov o), .int (nI w)] σ K := by
  refine Ci.of [some (.int (ov o)), some (.int (nI w))] ?_
  refine A.il0 eX5_told_0 ?_
  refine A.iconst (v := -1) eX5_told_1 (by decide) ?_
  refine A.icmp_eq eX5_told_2 (fun yc1 => ?_) (fun yc1 => ?_)
  · refine A.il0 eX5_told_10 ?_
    refine A.goto eX5_told_11 ?_
    refine B.iret eX5_told_18 ?_
    cases o with
    | none => exact hQ
    | some m => exact absurd yc1 (nI_nm1 (by have := ho m rfl; omega))
  · refine A.il1 eX5_told_5 ?_
    refine A.iconst (v := nI 1) eX5_told_6 (by decide) ?_
    refine A.icmp_neN eX5_told_7 (fun yc2 => ?_) (fun yc2 => ?_)
    · obtain ⟨m, em⟩ : ∃ m, o = some m := by
        cases o with
        | none => exact absurd rfl yc1
        | some m => exact ⟨m, rfl⟩
      subst em
      refine A.il0 eX5_told_14 ?_
      refine A.cSi1 eX5_told_15 oX5_ones kX5_188 (sX5_ones (ho m rfl) ?_)
      refine B.iret eX5_told_18 ?_
      exact vl_of hQ (by simp [setA, yc2])
    · refine A.il0 eX5_told_10 ?_
      refine A.goto eX5_told_11 ?_
      refine B.iret eX5_told_18 ?_
      cases o with
      | none => exact hQ
      | some m => exact vl_of hQ (by simp [setA, ov, yc2])
set_option maxRecDepth 100000 in
set_option maxHeartbeats 4000000 in
theorem sX5_keepOf {G : GW} {σ : St} {K : Int32 → St → Prop} {x : XS} {q h v : Nat} (hF : FM x σ) (bh : h < 24) (bv : v < 10) (hQ : K (ov (bst (fun m => decide (m &&& crx x h q = m) && decide (v * pop (lft (crx x h q) m) ≤ sm (inb (lft (crx x h q) m)) (xr x h) (xp x))) (crx x h q))) σ) : Ci G (r0 2 45) mX5_keepOf [rf G 42, .int (nI q), .int (nI h), .int (nI v)] σ K := by
  refine Ci.of [some (rf G 42), some (.int (nI q)), some (.int (nI h)), some (.int (nI v)), none, none, none, none, none] ?_
  have n8 := hF.np8
  have q6 := hF.nq6
  refine A.al0 eX5_keepOf_0 ?_
  refine A.il2 eX5_keepOf_1 ?_
  refine A.il1 eX5_keepOf_2 ?_
  refine A.cVi2 eX5_keepOf_3 oX5_crowdOf kX5_178 ko42 (sX5_crowdOf (a := xa x h) hF.2.1.1 n8 bh (fun p hp => ((hF.2.2.2 h bh).1 p hp).1) ?_)
  refine A.top (show _ = nI (crx x h q) from rfl) ?_
  have hc8 : crx x h q < 256 := crx_lt n8
  refine A.is4 eX5_keepOf_6 ?_
  refine A.iconst (v := -1) eX5_keepOf_8 (by decide) ?_
  refine A.is5 eX5_keepOf_9 ?_
  refine A.iconst (v := nI 0) eX5_keepOf_11 (by decide) ?_
  refine A.is6 eX5_keepOf_12 ?_
  have lp : ∀ (fu i : Nat), crx x h q - i < fu → i ≤ crx x h q → B G (r0 2 45) mX5_keepOf 14 [some (rf G 42), some (.int (nI q)), some (.int (nI h)), some (.int (nI v)), some (.int (nI (crx x h q))), some (.int (ov (bst (fun m => decide (m &&& crx x h q = m) && decide (v * pop (lft (crx x h q) m) ≤ sm (inb (lft (crx x h q) m)) (xr x h) (xp x))) i))), some (.int (nI i)), none, none] [] (σ) (Pi K) := by
    intro fu
    induction fu with
    | zero => intro i  h1 h2; omega
    | succ fu ih =>
      intro i  h1 h2 
      refine A.il6 eX5_keepOf_14 ?_
      refine A.il4 eX5_keepOf_16 ?_
      refine A.icmp_geN eX5_keepOf_18 (fun c1 => ?_) (fun c1 => ?_)
      · refine A.il5 eX5_keepOf_103 ?_
        refine B.iret eX5_keepOf_105 ?_
        have e : i = crx x h q := by omega
        subst e
        exact hQ
      · refine A.il4 eX5_keepOf_21 ?_
        refine A.il6 eX5_keepOf_23 ?_
        refine A.iconst (v := -1) eX5_keepOf_25 (by decide) ?_
        refine A.ixor eX5_keepOf_26 ?_
        refine A.iand eX5_keepOf_27 ?_
        refine A.top nI_lft ?_
        have hl8 : lft (crx x h q) i < 256 := lft_lt hc8
        refine A.is7 eX5_keepOf_28 ?_
        refine A.il6 eX5_keepOf_30 ?_
        refine A.il4 eX5_keepOf_32 ?_
        refine A.iconst (v := -1) eX5_keepOf_34 (by decide) ?_
        refine A.ixor eX5_keepOf_35 ?_
        refine A.iand eX5_keepOf_36 ?_
        refine A.if_ne eX5_keepOf_37 (fun yd1 => ?_) (fun yd1 => ?_)
        · refine A.iconst (v := nI 0) eX5_keepOf_63 (by decide) ?_
          refine A.is8 eX5_keepOf_64 ?_
          refine A.il8 eX5_keepOf_66 ?_
          refine A.if_eqN eX5_keepOf_68 (fun yd4 => ?_) (fun yd4 => ?_)
          · refine A.il5 eX5_keepOf_93 ?_
            refine A.is5 eX5_keepOf_95 ?_
            refine A.inc6N eX5_keepOf_97 ?_
            refine A.goto eX5_keepOf_100 ?_
            have hb : bst (fun m => decide (m &&& crx x h q = m) && decide (v * pop (lft (crx x h q) m) ≤ sm (inb (lft (crx x h q) m)) (xr x h) (xp x))) (i + 1) = if (fun m => decide (m &&& crx x h q = m) && decide (v * pop (lft (crx x h q) m) ≤ sm (inb (lft (crx x h q) m)) (xr x h) (xp x))) i && fwr i (bst (fun m => decide (m &&& crx x h q = m) && decide (v * pop (lft (crx x h q) m) ≤ sm (inb (lft (crx x h q) m)) (xr x h) (xp x))) i) then some i else bst (fun m => decide (m &&& crx x h q = m) && decide (v * pop (lft (crx x h q) m) ≤ sm (inb (lft (crx x h q) m)) (xr x h) (xp x))) i := rfl
            have yk : ¬ ((fun m => decide (m &&& crx x h q = m) && decide (v * pop (lft (crx x h q) m) ≤ sm (inb (lft (crx x h q) m)) (xr x h) (xp x))) i && fwr i (bst (fun m => decide (m &&& crx x h q = m) && decide (v * pop (lft (crx x h q) m) ≤ sm (inb (lft (crx x h q) m)) (xr x h) (xp x))) i)) = true := by
              simp only [Bool.and_eq_true, decide_eq_true_eq]
              exact fun z => yd1 ((andnot (by omega) (by omega)).mpr z.1.1)
            exact A.eqw (by rw [hb, if_neg yk]; simp [wkL]) rfl rfl (ih (i + 1) (by omega) (by omega))
          · exact absurd rfl yd4
        · refine A.il5 eX5_keepOf_40 ?_
          refine A.iconst (v := -1) eX5_keepOf_42 (by decide) ?_
          refine A.icmp_eq eX5_keepOf_43 (fun yd2 => ?_) (fun yd2 => ?_)
          · refine A.iconst (v := nI 1) eX5_keepOf_59 (by decide) ?_
            refine A.goto eX5_keepOf_60 ?_
            refine A.is8 eX5_keepOf_64 ?_
            refine A.il8 eX5_keepOf_66 ?_
            refine A.if_eqN eX5_keepOf_68 (fun yd4 => ?_) (fun yd4 => ?_)
            · exact absurd yd4 (by decide)
            · refine A.al0 eX5_keepOf_71 ?_
              refine A.il2 eX5_keepOf_72 ?_
              refine A.il7 eX5_keepOf_73 ?_
              refine A.cVi2 eX5_keepOf_75 oX5_sumOf kX5_185 ko42 (sX5_sumOf hF.2.1.1 n8 bh (hF.2.2.2 h bh).1 hl8 ?_)
              refine A.il3 eX5_keepOf_78 ?_
              refine A.il7 eX5_keepOf_79 ?_
              refine A.cSi1 eX5_keepOf_81 oX5_ones kX5_188 (sX5_ones hl8 ?_)
              have hpl := pop_le (lft (crx x h q) i)
              have hsl : sm (inb (lft (crx x h q) i)) (xr x h) (xp x) ≤ xp x * 9 := sm_le (fun p hp => ((hF.2.2.2 h bh).1 p hp).2.2)
              have hvp := Nat.mul_le_mul (show v ≤ 9 by omega) hpl
              refine A.imulN eX5_keepOf_84 ?_
              refine A.icmp_ltN eX5_keepOf_85 (fun yd5 => ?_) (fun yd5 => ?_)
              · refine A.il5 eX5_keepOf_93 ?_
                refine A.is5 eX5_keepOf_95 ?_
                refine A.inc6N eX5_keepOf_97 ?_
                refine A.goto eX5_keepOf_100 ?_
                have hb : bst (fun m => decide (m &&& crx x h q = m) && decide (v * pop (lft (crx x h q) m) ≤ sm (inb (lft (crx x h q) m)) (xr x h) (xp x))) (i + 1) = if (fun m => decide (m &&& crx x h q = m) && decide (v * pop (lft (crx x h q) m) ≤ sm (inb (lft (crx x h q) m)) (xr x h) (xp x))) i && fwr i (bst (fun m => decide (m &&& crx x h q = m) && decide (v * pop (lft (crx x h q) m) ≤ sm (inb (lft (crx x h q) m)) (xr x h) (xp x))) i) then some i else bst (fun m => decide (m &&& crx x h q = m) && decide (v * pop (lft (crx x h q) m) ≤ sm (inb (lft (crx x h q) m)) (xr x h) (xp x))) i := rfl
                have yk : ¬ ((fun m => decide (m &&& crx x h q = m) && decide (v * pop (lft (crx x h q) m) ≤ sm (inb (lft (crx x h q) m)) (xr x h) (xp x))) i && fwr i (bst (fun m => decide (m &&& crx x h q = m) && decide (v * pop (lft (crx x h q) m) ≤ sm (inb (lft (crx x h q) m)) (xr x h) (xp x))) i)) = true := by
                  simp only [Bool.and_eq_true, decide_eq_true_eq]
                  exact fun z => by have := z.1.2; omega
                exact A.eqw (by rw [hb, if_neg yk]; simp [wkL]) rfl rfl (ih (i + 1) (by omega) (by omega))
              · refine A.il6 eX5_keepOf_88 ?_
                refine A.goto eX5_keepOf_90 ?_
                refine A.is5 eX5_keepOf_95 ?_
                refine A.inc6N eX5_keepOf_97 ?_
                refine A.goto eX5_keepOf_100 ?_
                have hb : bst (fun m => decide (m &&& crx x h q = m) && decide (v * pop (lft (crx x h q) m) ≤ sm (inb (lft (crx x h q) m)) (xr x h) (xp x))) (i + 1) = if (fun m => decide (m &&& crx x h q = m) && decide (v * pop (lft (crx x h q) m) ≤ sm (inb (lft (crx x h q) m)) (xr x h) (xp x))) i && fwr i (bst (fun m => decide (m &&& crx x h q = m) && decide (v * pop (lft (crx x h q) m) ≤ sm (inb (lft (crx x h q) m)) (xr x h) (xp x))) i) then some i else bst (fun m => decide (m &&& crx x h q = m) && decide (v * pop (lft (crx x h q) m) ≤ sm (inb (lft (crx x h q) m)) (xr x h) (xp x))) i := rfl
                have yf : fwr i (bst (fun m => decide (m &&& crx x h q = m) && decide (v * pop (lft (crx x h q) m) ≤ sm (inb (lft (crx x h q) m)) (xr x h) (xp x))) i) = true := by
                  cases e : bst (fun m => decide (m &&& crx x h q = m) && decide (v * pop (lft (crx x h q) m) ≤ sm (inb (lft (crx x h q) m)) (xr x h) (xp x))) i with
                  | none => rfl
                  | some n => rw [e] at yd2; exact absurd yd2 (nI_nm1 (by have := bst_lt e; omega))
                have yk : ((fun m => decide (m &&& crx x h q = m) && decide (v * pop (lft (crx x h q) m) ≤ sm (inb (lft (crx x h q) m)) (xr x h) (xp x))) i && fwr i (bst (fun m => decide (m &&& crx x h q = m) && decide (v * pop (lft (crx x h q) m) ≤ sm (inb (lft (crx x h q) m)) (xr x h) (xp x))) i)) = true := by
                  simp only [Bool.and_eq_true, decide_eq_true_eq]
                  exact ⟨⟨(andnot (by omega) (by omega)).mp yd1, by omega⟩, yf⟩
                exact A.eqw (by rw [hb, if_pos yk]; simp [wkL, ov]) rfl rfl (ih (i + 1) (by omega) (by omega))
          · obtain ⟨n, en⟩ : ∃ n, bst (fun m => decide (m &&& crx x h q = m) && decide (v * pop (lft (crx x h q) m) ≤ sm (inb (lft (crx x h q) m)) (xr x h) (xp x))) i = some n := by
              cases e : bst (fun m => decide (m &&& crx x h q = m) && decide (v * pop (lft (crx x h q) m) ≤ sm (inb (lft (crx x h q) m)) (xr x h) (xp x))) i with
              | none => rw [e] at yd2; exact absurd rfl yd2
              | some n => exact ⟨n, rfl⟩
            rw [en]
            refine A.il6 eX5_keepOf_46 ?_
            
            refine A.cSi1 eX5_keepOf_48 oX5_ones kX5_188 (sX5_ones (by omega) ?_)
            have hp1 := pop_le i
            refine A.il5 eX5_keepOf_51 ?_
            refine A.cSi1 eX5_keepOf_53 oX5_ones kX5_188 (sX5_ones (m := n) (by have := bst_lt en; omega) ?_)
            have hp2 := pop_le n
            refine A.icmp_geN eX5_keepOf_56 (fun yd3 => ?_) (fun yd3 => ?_)
            · refine A.iconst (v := nI 0) eX5_keepOf_63 (by decide) ?_
              refine A.is8 eX5_keepOf_64 ?_
              refine A.il8 eX5_keepOf_66 ?_
              refine A.if_eqN eX5_keepOf_68 (fun yd4 => ?_) (fun yd4 => ?_)
              · refine A.il5 eX5_keepOf_93 ?_
                refine A.is5 eX5_keepOf_95 ?_
                refine A.inc6N eX5_keepOf_97 ?_
                refine A.goto eX5_keepOf_100 ?_
                have hb : bst (fun m => decide (m &&& crx x h q = m) && decide (v * pop (lft (crx x h q) m) ≤ sm (inb (lft (crx x h q) m)) (xr x h) (xp x))) (i + 1) = if (fun m => decide (m &&& crx x h q = m) && decide (v * pop (lft (crx x h q) m) ≤ sm (inb (lft (crx x h q) m)) (xr x h) (xp x))) i && fwr i (bst (fun m => decide (m &&& crx x h q = m) && decide (v * pop (lft (crx x h q) m) ≤ sm (inb (lft (crx x h q) m)) (xr x h) (xp x))) i) then some i else bst (fun m => decide (m &&& crx x h q = m) && decide (v * pop (lft (crx x h q) m) ≤ sm (inb (lft (crx x h q) m)) (xr x h) (xp x))) i := rfl
                have yk : ¬ ((fun m => decide (m &&& crx x h q = m) && decide (v * pop (lft (crx x h q) m) ≤ sm (inb (lft (crx x h q) m)) (xr x h) (xp x))) i && fwr i (bst (fun m => decide (m &&& crx x h q = m) && decide (v * pop (lft (crx x h q) m) ≤ sm (inb (lft (crx x h q) m)) (xr x h) (xp x))) i)) = true := by
                  rw [en]
                  simp only [Bool.and_eq_true, decide_eq_true_eq, fwr]
                  exact fun z => by have := z.2; omega
                exact A.eqw (by rw [hb, if_neg yk, en]; simp [wkL]) rfl rfl (ih (i + 1) (by omega) (by omega))
              · exact absurd rfl yd4
            · refine A.iconst (v := nI 1) eX5_keepOf_59 (by decide) ?_
              refine A.goto eX5_keepOf_60 ?_
              refine A.is8 eX5_keepOf_64 ?_
              refine A.il8 eX5_keepOf_66 ?_
              refine A.if_eqN eX5_keepOf_68 (fun yd4 => ?_) (fun yd4 => ?_)
              · exact absurd yd4 (by decide)
              · refine A.al0 eX5_keepOf_71 ?_
                refine A.il2 eX5_keepOf_72 ?_
                refine A.il7 eX5_keepOf_73 ?_
                refine A.cVi2 eX5_keepOf_75 oX5_sumOf kX5_185 ko42 (sX5_sumOf hF.2.1.1 n8 bh (hF.2.2.2 h bh).1 hl8 ?_)
                refine A.il3 eX5_keepOf_78 ?_
                refine A.il7 eX5_keepOf_79 ?_
                refine A.cSi1 eX5_keepOf_81 oX5_ones kX5_188 (sX5_ones hl8 ?_)
                have hpl := pop_le (lft (crx x h q) i)
                have hsl : sm (inb (lft (crx x h q) i)) (xr x h) (xp x) ≤ xp x * 9 := sm_le (fun p hp => ((hF.2.2.2 h bh).1 p hp).2.2)
                have hvp := Nat.mul_le_mul (show v ≤ 9 by omega) hpl
                refine A.imulN eX5_keepOf_84 ?_
                refine A.icmp_ltN eX5_keepOf_85 (fun yd5 => ?_) (fun yd5 => ?_)
                · refine A.il5 eX5_keepOf_93 ?_
                  refine A.is5 eX5_keepOf_95 ?_
                  refine A.inc6N eX5_keepOf_97 ?_
                  refine A.goto eX5_keepOf_100 ?_
                  have hb : bst (fun m => decide (m &&& crx x h q = m) && decide (v * pop (lft (crx x h q) m) ≤ sm (inb (lft (crx x h q) m)) (xr x h) (xp x))) (i + 1) = if (fun m => decide (m &&& crx x h q = m) && decide (v * pop (lft (crx x h q) m) ≤ sm (inb (lft (crx x h q) m)) (xr x h) (xp x))) i && fwr i (bst (fun m => decide (m &&& crx x h q = m) && decide (v * pop (lft (crx x h q) m) ≤ sm (inb (lft (crx x h q) m)) (xr x h) (xp x))) i) then some i else bst (fun m => decide (m &&& crx x h q = m) && decide (v * pop (lft (crx x h q) m) ≤ sm (inb (lft (crx x h q) m)) (xr x h) (xp x))) i := rfl
                  have yk : ¬ ((fun m => decide (m &&& crx x h q = m) && decide (v * pop (lft (crx x h q) m) ≤ sm (inb (lft (crx x h q) m)) (xr x h) (xp x))) i && fwr i (bst (fun m => decide (m &&& crx x h q = m) && decide (v * pop (lft (crx x h q) m) ≤ sm (inb (lft (crx x h q) m)) (xr x h) (xp x))) i)) = true := by
                    simp only [Bool.and_eq_true, decide_eq_true_eq]
                    exact fun z => by have := z.1.2; omega
                  exact A.eqw (by rw [hb, if_neg yk, en]; simp [wkL]) rfl rfl (ih (i + 1) (by omega) (by omega))
                · refine A.il6 eX5_keepOf_88 ?_
                  refine A.goto eX5_keepOf_90 ?_
                  refine A.is5 eX5_keepOf_95 ?_
                  refine A.inc6N eX5_keepOf_97 ?_
                  refine A.goto eX5_keepOf_100 ?_
                  have hb : bst (fun m => decide (m &&& crx x h q = m) && decide (v * pop (lft (crx x h q) m) ≤ sm (inb (lft (crx x h q) m)) (xr x h) (xp x))) (i + 1) = if (fun m => decide (m &&& crx x h q = m) && decide (v * pop (lft (crx x h q) m) ≤ sm (inb (lft (crx x h q) m)) (xr x h) (xp x))) i && fwr i (bst (fun m => decide (m &&& crx x h q = m) && decide (v * pop (lft (crx x h q) m) ≤ sm (inb (lft (crx x h q) m)) (xr x h) (xp x))) i) then some i else bst (fun m => decide (m &&& crx x h q = m) && decide (v * pop (lft (crx x h q) m) ≤ sm (inb (lft (crx x h q) m)) (xr x h) (xp x))) i := rfl
                  have yf : fwr i (bst (fun m => decide (m &&& crx x h q = m) && decide (v * pop (lft (crx x h q) m) ≤ sm (inb (lft (crx x h q) m)) (xr x h) (xp x))) i) = true := by rw [en]; exact decide_eq_true (by omega)
                  have yk : ((fun m => decide (m &&& crx x h q = m) && decide (v * pop (lft (crx x h q) m) ≤ sm (inb (lft (crx x h q) m)) (xr x h) (xp x))) i && fwr i (bst (fun m => decide (m &&& crx x h q = m) && decide (v * pop (lft (crx x h q) m) ≤ sm (inb (lft (crx x h q) m)) (xr x h) (xp x))) i)) = true := by
                    simp only [Bool.and_eq_true, decide_eq_true_eq]
                    exact ⟨⟨(andnot (by omega) (by omega)).mp yd1, by omega⟩, yf⟩
                  exact A.eqw (by rw [hb, if_pos yk]; simp [wkL, ov]) rfl rfl (ih (i + 1) (by omega) (by omega))
  exact A.eqw (by simp [wkL]; rfl) rfl rfl (lp (crx x h q + 1) 0 (by omega) (by omega))
