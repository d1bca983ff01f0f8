theorem CI.scr2 {x : XS} {σ τ : St} (h : CI x σ) (hF : Fi 33 35 σ τ) : CI x τ := by
  obtain ⟨h1, h2, h3, h4, h5, h6, h7, h8, h9, h10⟩ := h
  refine ⟨h1.cg (fun k _ _ => hF.1 k (by omega)), h2.cg (fun k _ _ => hF.1 k (by omega)), h3.cg (fun k _ _ => hF.1 k (by omega)), h4.cg (fun k _ _ => hF.1 k (by omega)), h5.cg (fun k _ _ => hF.1 k (by omega)), h6.cg (fun k _ _ => hF.1 k (by omega)), h7.cg (fun k _ _ => hF.1 k (by omega)), h8.cg (fun k _ _ => hF.1 k (by omega)), by rw [hF.1 0 (by omega)]; exact h9, ?_⟩
  rw [hF.1 0 (by omega)]
  exact h10.imp id (fun ⟨a, b⟩ => ⟨a, b.cg (fun k _ _ => hF.1 k (by omega))⟩)
def lsI (x : XS) (h : Nat) : Int32 := if lsS x (xa x h) (xr x h) < xq x then nI (lsS x (xa x h) (xr x h)) else -1
theorem lsI_m1 {x : XS} {h : Nat} (q6 : xq x ≤ 6) : lsI x h = -1 ↔ ¬ lsS x (xa x h) (xr x h) < xq x := by
  unfold lsI
  split
  · next e => exact ⟨fun z => absurd z (nI_nm1 (by omega)), fun z => absurd e z⟩
  · next e => exact ⟨fun _ => e, fun _ => rfl⟩
theorem nI_lft {a m : Nat} : nI a &&& (nI m ^^^ (-1)) = nI (lft a m) := by
  rw [← Int32.toBitVec_inj]
  apply BitVec.eq_of_getLsbD_eq
  intro i hi
  have h1 : ((-1 : Int32).toBitVec).getLsbD i = true := by
    rw [show (-1 : Int32).toBitVec = BitVec.allOnes 32 from by decide, BitVec.getLsbD_allOnes]
    simp [hi]
  have h2 : ∀ n : Nat, (nI n).toBitVec.getLsbD i = n.testBit i := by
    intro n
    have : (nI n).toBitVec = BitVec.ofNat 32 n := by simp [nI]
    rw [this, BitVec.getLsbD_ofNat]
    simp [hi]
  rw [Int32.toBitVec_and, BitVec.getLsbD_and, Int32.toBitVec_xor, BitVec.getLsbD_xor, h1, h2, h2, h2]
  unfold lft
  rw [Nat.testBit_xor, Nat.testBit_and]
  cases a.testBit i <;> cases m.testBit i <;> rfl
theorem lft_lt {a m : Nat} (h : a < 256) : lft a m < 256 := Nat.xor_lt_two_pow (n := 8) h (Nat.lt_of_le_of_lt Nat.and_le_left h)
def Rmet (x : XS) (h : Int32) : Int32 := if ck h 24 then Vmet x h.toNatClampNeg else -2
set_option maxRecDepth 100000 in
set_option maxHeartbeats 4000000 in
theorem sX4_met {G : GW} {σ : St} {K : Int32 → St → Prop} {x : XS} {h : Nat} (hC : CI x σ) (bh : h < 24) (hQ : ∀ τ : St, CI x τ → Fi 0 41 σ τ → K (Vmet x h) τ) : Ci G (r0 4 86) mX4_met [rf G 0, .int (nI h)] σ K := by
  refine Ci.of [some (rf G 0), some (.int (nI h)), none, none] ?_
  have n8 := hC.np8
  have q6 := hC.nq6
  refine A.il1 eX4_met_0 ?_
  refine A.cSi1 eX4_met_1 oX4_isHour kX4_134 (sX4_isHour  ?_)
  refine A.if_neB eX4_met_4 (fun c1 => ?_) (fun c1 => ?_)
  · refine A.iconst (v := nI 0) eX4_met_10 (by decide) ?_
    refine A.is2 eX4_met_11 ?_
    refine A.iconst (v := nI 0) eX4_met_12 (by decide) ?_
    refine A.is3 eX4_met_13 ?_
    have lp : ∀ (fu i : Nat) (τ : St), xq x - i < fu → i ≤ xq x → CI x τ → Fi 0 41 σ τ → B G (r0 4 86) mX4_met 14 [some (rf G 0), some (.int (nI h)), some (.int (nI (bits (metx x h) i))), some (.int (nI i))] [] (τ) (Pi K) := by
      intro fu
      induction fu with
      | zero => intro i τ h1 h2; omega
      | succ fu ih =>
        intro i τ h1 h2 g1 g3
        refine A.il3 eX4_met_14 ?_
        refine A.al0 eX4_met_15 ?_
        refine A.getR eX4_met_16 fX4_18 ko0 kr0_1 ?_
        refine A.getI eX4_met_19 fX4_167 ko5 ?_
        refine A.top g1.nq ?_
        refine A.icmp_geN eX4_met_22 (fun c2 => ?_) (fun c2 => ?_)
        · refine A.il2 eX4_met_49 ?_
          refine B.iret eX4_met_50 ?_
          have e : i = xq x := by omega
          subst e
          exact hQ τ g1 g3
        · refine A.al0 eX4_met_25 ?_
          refine A.cVa0 eX4_met_26 oX4_valley kX4_137 ko0 (sX4_valley g1 (fun τ2 k1 k2 k3 => ?_))
          refine A.il1 eX4_met_29 ?_
          refine A.il3 eX4_met_30 ?_
          refine A.cVi2 eX4_met_31 oX3_isMet kX4_170 ko30 (sX3_isMet (v := 30) (Or.inl rfl) bh k1.np n8 (k2 _ bh) (k1.lo i (by omega)) (xlo_le (by omega)) (k1.hi i (by omega)) (xhi_le (by omega)) (by omega) ?_)
          refine A.top (show _ = bI (metx x h i = true) from rfl) ?_
          refine A.if_eqB eX4_met_34 (fun yd1 => ?_) (fun yd1 => ?_)
          · refine A.inc3N eX4_met_43 ?_
            refine A.goto eX4_met_46 ?_
            exact A.eq (by simp [bits, yd1]) rfl rfl (ih (i + 1) τ2 (by omega) (by omega) k1 (g3.tr k3))
          · refine A.il2 eX4_met_37 ?_
            refine A.iconst (v := nI 1) eX4_met_38 (by decide) ?_
            refine A.il3 eX4_met_39 ?_
            refine A.ishl1 eX4_met_40 ?_
            refine A.iorN eX4_met_41 ?_
            refine A.is2 eX4_met_42 ?_
            refine A.inc3N eX4_met_43 ?_
            refine A.goto eX4_met_46 ?_
            exact A.eq (by simp [bits, yd1]) rfl rfl (ih (i + 1) τ2 (by omega) (by omega) k1 (g3.tr k3))
    exact lp (xq x + 1) 0 σ (by omega) (by omega) hC (Fi.rf _ _ _)
  · exact absurd ⟨by rw [nI_ti (by omega)]; omega, by rw [nI_ti (by omega)]; omega⟩ c1
set_option maxRecDepth 100000 in
set_option maxHeartbeats 4000000 in
theorem bX4_met {G : GW} {σ : St} {K : Int32 → St → Prop} {x : XS} {h : Int32} (hC : CI x σ) (hb : ¬ (ck h 24)) (hQ : K (-2) σ) : Ci G (r0 4 86) mX4_met [rf G 0, .int h] σ K := by
  refine Ci.of [some (rf G 0), some (.int h), none, none] ?_
  have n8 := hC.np8
  have q6 := hC.nq6
  refine A.il1 eX4_met_0 ?_
  refine A.cSi1 eX4_met_1 oX4_isHour kX4_134 (sX4_isHour  ?_)
  refine A.if_neB eX4_met_4 (fun c1 => ?_) (fun c1 => ?_)
  · exact absurd c1 hb
  · refine A.bipush (v := -2) eX4_met_7 (by decide) ?_
    refine B.iret eX4_met_9 ?_
    exact hQ
theorem aX4_met {G : GW} {σ : St} {K : Int32 → St → Prop} {x : XS} {h : Int32} (hC : CI x σ) (hQ : ∀ τ : St, CI x τ → Fi 0 41 σ τ → K (Rmet x h) τ) : Ci G (r0 4 86) mX4_met [rf G 0, .int h] σ K := by
  have n8 := hC.np8
  have q6 := hC.nq6
  by_cases hb : ck h 24
  · have hR : Rmet x h = _ := if_pos hb
    rw [hR] at hQ
    obtain ⟨h, bh, rfl⟩ := i_nat hb.1 hb.2
    simp only [nI_clamp (n := h) (by omega)] at hQ
    exact sX4_met hC bh hQ
  · have hR : Rmet x h = _ := if_neg hb
    rw [hR] at hQ
    exact bX4_met hC hb (hQ σ hC (Fi.rf _ _ _))
def Rspoilt (x : XS) (q : Int32) : Int32 := if ck q (xq x) then Vspoilt x q.toNatClampNeg else -2
set_option maxRecDepth 100000 in
set_option maxHeartbeats 4000000 in
theorem sX4_spoilt {G : GW} {σ : St} {K : Int32 → St → Prop} {x : XS} {q : Nat} (hC : CI x σ) (bq : q < (xq x)) (hQ : ∀ τ : St, CI x τ → Fi 0 41 σ τ → K (Vspoilt x q) τ) : Ci G (r0 4 86) mX4_spoilt [rf G 0, .int (nI q)] σ K := by
  refine Ci.of [some (rf G 0), some (.int (nI q)), none, none] ?_
  have n8 := hC.np8
  have q6 := hC.nq6
  refine A.al0 eX4_spoilt_0 ?_
  refine A.il1 eX4_spoilt_1 ?_
  refine A.cVi1 eX4_spoilt_2 oX4_isPlace kX4_98 ko0 (sX4_isPlace hC.nq hC.nq6 ?_)
  refine A.if_neB eX4_spoilt_5 (fun c1 => ?_) (fun c1 => ?_)
  · refine A.iconst (v := nI 0) eX4_spoilt_11 (by decide) ?_
    refine A.is2 eX4_spoilt_12 ?_
    refine A.iconst (v := nI 0) eX4_spoilt_13 (by decide) ?_
    refine A.is3 eX4_spoilt_14 ?_
    have lp : ∀ (fu i : Nat) (τ : St), 24 - i < fu → i ≤ 24 → CI x τ → Fi 0 41 σ τ → B G (r0 4 86) mX4_spoilt 15 [some (rf G 0), some (.int (nI q)), some (.int (nI (bits (fun h => !decide (crx x h q = 0) && !metx x h q) i))), some (.int (nI i))] [] (τ) (Pi K) := by
      intro fu
      induction fu with
      | zero => intro i τ h1 h2; omega
      | succ fu ih =>
        intro i τ h1 h2 g1 g3
        refine A.il3 eX4_spoilt_15 ?_
        refine A.bipush (v := nI 24) eX4_spoilt_16 (by decide) ?_
        refine A.icmp_geN eX4_spoilt_18 (fun c2 => ?_) (fun c2 => ?_)
        · refine A.il2 eX4_spoilt_57 ?_
          refine B.iret eX4_spoilt_58 ?_
          have e : i = 24 := by omega
          subst e
          exact hQ τ g1 g3
        · have bi : i < 24 := by omega
          refine A.al0 eX4_spoilt_21 ?_
          refine A.cVa0 eX4_spoilt_22 oX4_valley kX4_137 ko0 (sX4_valley g1 (fun τ2 k1 k2 k3 => ?_))
          refine A.il3 eX4_spoilt_25 ?_
          refine A.il1 eX4_spoilt_26 ?_
          refine A.cVi2 eX4_spoilt_27 oX3_crowdAt kX4_148 ko30 (sX3_crowdAt (v := 30) (Or.inl rfl) bi k1.np n8 (k2 i bi) ?_)
          refine A.top (show nI (bits (fun p => decide (xa x i p = nI q)) (xp x)) = nI (crx x i q) from rfl) ?_
          have hc8 : crx x i q < 256 := crx_lt n8
          refine A.if_eqN eX4_spoilt_30 (fun yd1 => ?_) (fun yd1 => ?_)
          · refine A.inc3N eX4_spoilt_51 ?_
            refine A.goto eX4_spoilt_54 ?_
            first
              | exact A.eq (by simp [bits, yd1, yd2]) rfl rfl (ih (i + 1) τ3 (by omega) (by omega) m1 ((g3.tr k3).tr m3))
              | exact A.eq (by simp [bits, yd1]) rfl rfl (ih (i + 1) τ2 (by omega) (by omega) k1 (g3.tr k3))
          · refine A.al0 eX4_spoilt_33 ?_
            refine A.cVa0 eX4_spoilt_34 oX4_valley kX4_137 ko0 (sX4_valley k1 (fun τ3 m1 m2 m3 => ?_))
            refine A.il3 eX4_spoilt_37 ?_
            refine A.il1 eX4_spoilt_38 ?_
            refine A.cVi2 eX4_spoilt_39 oX3_isMet kX4_170 ko30 (sX3_isMet (v := 30) (Or.inl rfl) bi m1.np n8 (m2 _ bi) (m1.lo q (by omega)) (xlo_le (by omega)) (m1.hi q (by omega)) (xhi_le (by omega)) (by omega) ?_)
            refine A.top (show _ = bI (metx x i q = true) from rfl) ?_
            refine A.if_neB eX4_spoilt_42 (fun yd2 => ?_) (fun yd2 => ?_)
            · refine A.inc3N eX4_spoilt_51 ?_
              refine A.goto eX4_spoilt_54 ?_
              first
                | exact A.eq (by simp [bits, yd1, yd2]) rfl rfl (ih (i + 1) τ3 (by omega) (by omega) m1 ((g3.tr k3).tr m3))
                | exact A.eq (by simp [bits, yd1]) rfl rfl (ih (i + 1) τ2 (by omega) (by omega) k1 (g3.tr k3))
            · refine A.il2 eX4_spoilt_45 ?_
              refine A.iconst (v := nI 1) eX4_spoilt_46 (by decide) ?_
              refine A.il3 eX4_spoilt_47 ?_
              refine A.ishl1 eX4_spoilt_48 ?_
              refine A.iorN eX4_spoilt_49 ?_
              refine A.is2 eX4_spoilt_50 ?_
              refine A.inc3N eX4_spoilt_51 ?_
              refine A.goto eX4_spoilt_54 ?_
              first
                | exact A.eq (by simp [bits, yd1, yd2]) rfl rfl (ih (i + 1) τ3 (by omega) (by omega) m1 ((g3.tr k3).tr m3))
                | exact A.eq (by simp [bits, yd1]) rfl rfl (ih (i + 1) τ2 (by omega) (by omega) k1 (g3.tr k3))
    exact lp 25 0 σ (by omega) (by omega) hC (Fi.rf _ _ _)
  · exact absurd ⟨by rw [nI_ti (by omega)]; omega, by rw [nI_ti (by omega)]; omega⟩ c1
set_option maxRecDepth 100000 in
set_option maxHeartbeats 4000000 in
theorem bX4_spoilt {G : GW} {σ : St} {K : Int32 → St → Prop} {x : XS} {q : Int32} (hC : CI x σ) (hb : ¬ (ck q (xq x))) (hQ : K (-2) σ) : Ci G (r0 4 86) mX4_spoilt [rf G 0, .int q] σ K := by
  refine Ci.of [some (rf G 0), some (.int q), none, none] ?_
  have n8 := hC.np8
  have q6 := hC.nq6
  refine A.al0 eX4_spoilt_0 ?_
  refine A.il1 eX4_spoilt_1 ?_
  refine A.cVi1 eX4_spoilt_2 oX4_isPlace kX4_98 ko0 (sX4_isPlace hC.nq hC.nq6 ?_)
  refine A.if_neB eX4_spoilt_5 (fun c1 => ?_) (fun c1 => ?_)
  · exact absurd c1 hb
  · refine A.bipush (v := -2) eX4_spoilt_8 (by decide) ?_
    refine B.iret eX4_spoilt_10 ?_
    exact hQ
theorem aX4_spoilt {G : GW} {σ : St} {K : Int32 → St → Prop} {x : XS} {q : Int32} (hC : CI x σ) (hQ : ∀ τ : St, CI x τ → Fi 0 41 σ τ → K (Rspoilt x q) τ) : Ci G (r0 4 86) mX4_spoilt [rf G 0, .int q] σ K := by
  have n8 := hC.np8
  have q6 := hC.nq6
  by_cases hb : ck q (xq x)
  · have hR : Rspoilt x q = _ := if_pos hb
    rw [hR] at hQ
    obtain ⟨q, bq, rfl⟩ := i_nat hb.1 hb.2
    simp only [nI_clamp (n := q) (by omega)] at hQ
    exact sX4_spoilt hC bq hQ
  · have hR : Rspoilt x q = _ := if_neg hb
    rw [hR] at hQ
    exact bX4_spoilt hC hb (hQ σ hC (Fi.rf _ _ _))
def Rlightning (x : XS) (w : Int32) : Int32 := if ck w 2 then Vlightning x w.toNatClampNeg else -2
set_option maxRecDepth 100000 in
set_option maxHeartbeats 4000000 in
theorem sX4_lightning {G : GW} {σ : St} {K : Int32 → St → Prop} {x : XS} {w : Nat} (hC : CI x σ) (bw : w < 2) (hQ : ∀ τ : St, CI x τ → Fi 0 41 σ τ → K (Vlightning x w) τ) : Ci G (r0 4 86) mX4_lightning [rf G 0, .int (nI w)] σ K := by
  refine Ci.of [some (rf G 0), some (.int (nI w)), none, none] ?_
  have n8 := hC.np8
  have q6 := hC.nq6
  refine A.il1 eX4_lightning_0 ?_
  refine A.iconst (v := nI 2) eX4_lightning_1 (by decide) ?_
  refine A.cSi2 eX4_lightning_2 oX4_isBelow kX4_67 (sX4_isBelowIN (b := 2) (by omega) ?_)
  refine A.if_neB eX4_lightning_5 (fun c1 => ?_) (fun c1 => ?_)
  · refine A.iconst (v := nI 0) eX4_lightning_11 (by decide) ?_
    refine A.is2 eX4_lightning_12 ?_
    have lp : ∀ (fu i : Nat) (τ : St), 24 - i < fu → i ≤ 24 → CI x τ → Fi 0 41 σ τ → (∀ k, k < i → (fun h => decide (lsS x (xa x h) (xr x h) < xq x)) k = false) → B G (r0 4 86) mX4_lightning 13 [some (rf G 0), some (.int (nI w)), some (.int (nI i)), none] [] (τ) (Pi K) := by
      intro fu
      induction fu with
      | zero => intro i τ h1 h2; omega
      | succ fu ih =>
        intro i τ h1 h2 g1 g3 ha
        refine A.il2 eX4_lightning_13 ?_
        refine A.bipush (v := nI 24) eX4_lightning_14 (by decide) ?_
        refine A.icmp_geN eX4_lightning_16 (fun c2 => ?_) (fun c2 => ?_)
        · refine A.iconst (v := -1) eX4_lightning_49 (by decide) ?_
          refine B.iret eX4_lightning_50 ?_
          have e : i = 24 := by omega
          subst e
          have e : lhx x = 24 := ffst_none ha
          refine vl_of (hQ τ g1 g3) ?_
          unfold Vlightning
          rw [e, if_neg (by omega)]
        · refine A.al0 eX4_lightning_19 ?_
          refine A.cVa0 eX4_lightning_20 oX4_valley kX4_137 ko0 (sX4_valley g1 (fun τ2 k1 k2 k3 => ?_))
          refine A.il2 eX4_lightning_23 ?_
          refine A.cVi1 eX4_lightning_24 oX3_leastStruck kX4_173 ko30 (sX3_leastStruck (v := 30) (Or.inl rfl) (by omega) k1.np n8 k1.nq q6 (k2 i (by omega)) plf_PA (fun τ3 m1 => ?_))
          refine A.top (show _ = lsI x i from rfl) ?_
          have m2 := k1.scr2 m1
          have m3 : Fi 0 41 σ τ3 := (g3.tr k3).tr (m1.mo (by omega) (by omega))
          refine A.is3 eX4_lightning_27 ?_
          refine A.il3 eX4_lightning_28 ?_
          refine A.iconst (v := -1) eX4_lightning_29 (by decide) ?_
          refine A.icmp_eq eX4_lightning_30 (fun yd1 => ?_) (fun yd1 => ?_)
          · refine A.inc2N eX4_lightning_43 ?_
            refine A.goto eX4_lightning_46 ?_
            refine A.eqw (by simp [wkL]) rfl rfl (ih (i + 1) τ3 (by omega) (by omega) m2 m3 (fun k hk => ?_))
            rcases Nat.lt_or_ge k i with z | z
            · exact ha k z
            · rw [show k = i by omega]; exact decide_eq_false ((lsI_m1 q6).mp yd1)
          · refine A.il1 eX4_lightning_33 ?_
            refine A.if_neN eX4_lightning_34 (fun yd2 => ?_) (fun yd2 => ?_)
            · refine A.il3 eX4_lightning_41 ?_
              refine B.iret eX4_lightning_42 ?_
              have hs : lsS x (xa x i) (xr x i) < xq x := Decidable.byContradiction fun z => yd1 ((lsI_m1 q6).mpr z)
              have e : lhx x = i := ffst_first ha (by omega) (decide_eq_true hs)
              refine vl_of (hQ τ3 m2 m3) ?_
              unfold Vlightning
              rw [e, if_pos (by omega)]
              first
                | rw [if_pos yd2]
                | (rw [if_neg yd2]; unfold lsI; rw [if_pos hs])
            · refine A.il2 eX4_lightning_37 ?_
              refine A.goto eX4_lightning_38 ?_
              refine B.iret eX4_lightning_42 ?_
              have hs : lsS x (xa x i) (xr x i) < xq x := Decidable.byContradiction fun z => yd1 ((lsI_m1 q6).mpr z)
              have e : lhx x = i := ffst_first ha (by omega) (decide_eq_true hs)
              refine vl_of (hQ τ3 m2 m3) ?_
              unfold Vlightning
              rw [e, if_pos (by omega)]
              first
                | rw [if_pos yd2]
                | (rw [if_neg yd2]; unfold lsI; rw [if_pos hs])
    exact A.eqw (by simp [wkL]) rfl rfl (lp 25 0 σ (by omega) (by omega) hC (Fi.rf _ _ _) (fun k hk => by omega))
  · exact absurd ⟨by rw [nI_ti (by omega)]; omega, by rw [nI_ti (by omega)]; omega⟩ c1
set_option maxRecDepth 100000 in
set_option maxHeartbeats 4000000 in
theorem bX4_lightning {G : GW} {σ : St} {K : Int32 → St → Prop} {x : XS} {w : Int32} (hC : CI x σ) (hb : ¬ (ck w 2)) (hQ : K (-2) σ) : Ci G (r0 4 86) mX4_lightning [rf G 0, .int w] σ K := by
  refine Ci.of [some (rf G 0), some (.int w), none, none] ?_
  have n8 := hC.np8
  have q6 := hC.nq6
  refine A.il1 eX4_lightning_0 ?_
  refine A.iconst (v := nI 2) eX4_lightning_1 (by decide) ?_
  refine A.cSi2 eX4_lightning_2 oX4_isBelow kX4_67 (sX4_isBelowIN (b := 2) (by omega) ?_)
  refine A.if_neB eX4_lightning_5 (fun c1 => ?_) (fun c1 => ?_)
  · exact absurd c1 hb
  · refine A.bipush (v := -2) eX4_lightning_8 (by decide) ?_
    refine B.iret eX4_lightning_10 ?_
    exact hQ
theorem aX4_lightning {G : GW} {σ : St} {K : Int32 → St → Prop} {x : XS} {w : Int32} (hC : CI x σ) (hQ : ∀ τ : St, CI x τ → Fi 0 41 σ τ → K (Rlightning x w) τ) : Ci G (r0 4 86) mX4_lightning [rf G 0, .int w] σ K := by
  have n8 := hC.np8
  have q6 := hC.nq6
  by_cases hb : ck w 2
  · have hR : Rlightning x w = _ := if_pos hb
    rw [hR] at hQ
    obtain ⟨w, bw, rfl⟩ := i_nat hb.1 hb.2
    simp only [nI_clamp (n := w) (by omega)] at hQ
    exact sX4_lightning hC bw hQ
  · have hR : Rlightning x w = _ := if_neg hb
    rw [hR] at hQ
    exact bX4_lightning hC hb (hQ σ hC (Fi.rf _ _ _))
def Rsettles (x : XS) : Int32 := Vsettles x
set_option maxRecDepth 100000 in
set_option maxHeartbeats 4000000 in
theorem sX4_settles {G : GW} {σ : St} {K : Int32 → St → Prop} {x : XS} (hC : CI x σ) (hQ : ∀ τ : St, CI x τ → Fi 0 41 σ τ → K (Rsettles x) τ) : Ci G (r0 4 86) mX4_settles [rf G 0] σ K := by
  refine Ci.of [some (rf G 0), none, none] ?_
  have n8 := hC.np8
  have q6 := hC.nq6
  refine A.bipush (v := nI 23) eX4_settles_0 (by decide) ?_
  refine A.is1 eX4_settles_2 ?_
  refine A.bipush (v := nI 22) eX4_settles_3 (by decide) ?_
  refine A.is2 eX4_settles_5 ?_
  have lp : ∀ (fu i : Nat) (τ : St), 23 - i < fu → i ≤ 23 → CI x τ → Fi 0 41 σ τ → (∀ k, k < i → (fun k => !alk x (22 - k) 23) k = false) → B G (r0 4 86) mX4_settles 6 [some (rf G 0), some (.int (nI (23 - i))), some (.int (zI (22 - (i : Int))))] [] (τ) (Pi K) := by
    intro fu
    induction fu with
    | zero => intro i τ h1 h2; omega
    | succ fu ih =>
      intro i τ h1 h2 g1 g3 ha
      refine A.il2 eX4_settles_6 ?_
      refine A.if_ltZ eX4_settles_7 (fun yd0 => ?_) (fun yd0 => ?_)
      · refine A.il1 eX4_settles_34 ?_
        refine B.iret eX4_settles_35 ?_
        first
          | (have e : i = 23 := by omega
             subst e
             refine vl_of (hQ τ g1 g3) ?_
             unfold Rsettles Vsettles
             rw [ffst_none ha])
          | (refine vl_of (hQ τ2 k1 (g3.tr k3)) ?_
             unfold Rsettles Vsettles
             rw [ffst_first ha (show i < 23 by omega) (by simp [yd1])])
      · refine A.al0 eX4_settles_10 ?_
        refine A.cVa0 eX4_settles_11 oX4_valley kX4_137 ko0 (sX4_valley g1 (fun τ2 k1 k2 k3 => ?_))
        refine A.il2 eX4_settles_14 ?_
        refine A.top (show zI (22 - (i : Int)) = nI (22 - i) from by rw [nI_z]; congr 1; omega) ?_
        refine A.bipush (v := nI 23) eX4_settles_15 (by decide) ?_
        refine A.cVi2 eX4_settles_17 oX3_isAlike kX4_176 ko30 (sX3_isAlike (v := 30) (Or.inl rfl) (by omega) (by omega) k1.np n8 (k2 _ (by omega)) (k2 23 (by omega)) ?_)
        refine A.top (show _ = bI (alk x (22 - i) 23 = true) from rfl) ?_
        refine A.if_neB eX4_settles_20 (fun yd1 => ?_) (fun yd1 => ?_)
        · refine A.il2 eX4_settles_26 ?_
          refine A.top (show zI (22 - (i : Int)) = nI (23 - (i + 1)) from by rw [nI_z]; congr 1; omega) ?_
          refine A.is1 eX4_settles_27 ?_
          refine A.inc2 (v := zI (22 - ((i + 1 : Nat) : Int))) eX4_settles_28 (by show zI (22 - (i : Int)) + zI (-1) = _; rw [zI_add]; congr 1; omega) ?_
          refine A.goto eX4_settles_31 ?_
          refine ih (i + 1) τ2 (by omega) (by omega) k1 (g3.tr k3) (fun k hk => ?_)
          rcases Nat.lt_or_ge k i with z | z
          · exact ha k z
          · rw [show k = i by omega]; simp [yd1]
        · refine A.goto eX4_settles_23 ?_
          refine A.il1 eX4_settles_34 ?_
          refine B.iret eX4_settles_35 ?_
          first
            | (have e : i = 23 := by omega
               subst e
               refine vl_of (hQ τ g1 g3) ?_
               unfold Rsettles Vsettles
               rw [ffst_none ha])
            | (refine vl_of (hQ τ2 k1 (g3.tr k3)) ?_
               unfold Rsettles Vsettles
               rw [ffst_first ha (show i < 23 by omega) (by simp [yd1])])
  exact lp 24 0 σ (by omega) (by omega) hC (Fi.rf _ _ _) (fun k hk => by omega)
def Rkeep (x : XS) (q h v w : Int32) : Int32 := if ck q (xq x) ∧ ck h 24 ∧ ck v 10 ∧ ck w 2 then Vkeep x q.toNatClampNeg h.toNatClampNeg v.toNatClampNeg w.toNatClampNeg else -2
set_option maxRecDepth 100000 in
set_option maxHeartbeats 4000000 in
theorem sX4_keep {G : GW} {σ : St} {K : Int32 → St → Prop} {x : XS} {q h v w : Nat} (hC : CI x σ) (bq : q < (xq x)) (bh : h < 24) (bv : v < 10) (bw : w < 2) (hQ : ∀ τ : St, CI x τ → Fi 0 41 σ τ → K (Vkeep x q h v w) τ) : Ci G (r0 4 86) mX4_keep [rf G 0, .int (nI q), .int (nI h), .int (nI v), .int (nI w)] σ K := by
  refine Ci.of [some (rf G 0), some (.int (nI q)), some (.int (nI h)), some (.int (nI v)), some (.int (nI w)), none, none, none, none] ?_
  have n8 := hC.np8
  have q6 := hC.nq6
  refine A.al0 eX4_keep_0 ?_
  refine A.il1 eX4_keep_1 ?_
  refine A.cVi1 eX4_keep_2 oX4_isPlace kX4_98 ko0 (sX4_isPlace hC.nq hC.nq6 ?_)
  refine A.if_eqB eX4_keep_5 (fun c1 => ?_) (fun c1 => ?_)
  · exact absurd ⟨by rw [nI_ti (by omega)]; omega, by rw [nI_ti (by omega)]; omega⟩ c1
  · refine A.il2 eX4_keep_8 ?_
    refine A.cSi1 eX4_keep_9 oX4_isHour kX4_134 (sX4_isHour  ?_)
    refine A.if_eqB eX4_keep_12 (fun c2 => ?_) (fun c2 => ?_)
    · exact absurd ⟨by rw [nI_ti (by omega)]; omega, by rw [nI_ti (by omega)]; omega⟩ c2
    · refine A.il3 eX4_keep_15 ?_
      refine A.bipush (v := nI 10) eX4_keep_16 (by decide) ?_
      refine A.cSi2 eX4_keep_18 oX4_isBelow kX4_67 (sX4_isBelowIN (b := 10) (by omega) ?_)
      refine A.if_eqB eX4_keep_21 (fun c3 => ?_) (fun c3 => ?_)
      · exact absurd ⟨by rw [nI_ti (by omega)]; omega, by rw [nI_ti (by omega)]; omega⟩ c3
      · refine A.il4 eX4_keep_24 ?_
        refine A.iconst (v := nI 2) eX4_keep_26 (by decide) ?_
        refine A.cSi2 eX4_keep_27 oX4_isBelow kX4_67 (sX4_isBelowIN (b := 2) (by omega) ?_)
        refine A.if_neB eX4_keep_30 (fun c4 => ?_) (fun c4 => ?_)
        · refine A.al0 eX4_keep_36 ?_
          refine A.cVa0 eX4_keep_37 oX4_valley kX4_137 ko0 (sX4_valley hC (fun τ g1 g2 g3 => ?_))
          refine A.as5 eX4_keep_40 ?_
          refine A.al5 eX4_keep_42 ?_
          refine A.il2 eX4_keep_44 ?_
          refine A.il1 eX4_keep_45 ?_
          refine A.cVi2 eX4_keep_46 oX3_crowdAt kX4_148 ko30 (sX3_crowdAt (v := 30) (Or.inl rfl) bh g1.np n8 (g2 h bh) ?_)
          refine A.top (show nI (bits (fun p => decide (xa x h p = nI q)) (xp x)) = nI (crx x h q) from rfl) ?_
          have hc8 : crx x h q < 256 := crx_lt n8
          refine A.is6 eX4_keep_49 ?_
          refine A.iconst (v := -1) eX4_keep_51 (by decide) ?_
          refine A.is7 eX4_keep_52 ?_
          refine A.iconst (v := nI 0) eX4_keep_54 (by decide) ?_
          refine A.is8 eX4_keep_55 ?_
          have lp : ∀ (fu i : Nat), crx x h q - i < fu → i ≤ crx x h q → B G (r0 4 86) mX4_keep 57 [some (rf G 0), some (.int (nI q)), some (.int (nI h)), some (.int (nI v)), some (.int (nI w)), some (rf G 30), some (.int (nI (crx x h q))), some (.int (ov (bst (fun m => decide (m &&& crx x h q = m) && decide (v * pop (lft (crx x h q) m) ≤ sm (inb (lft (crx x h q) m)) (xr x h) (xp x))) i))), some (.int (nI i))] [] (τ) (Pi K) := by
            intro fu
            induction fu with
            | zero => intro i  h1 h2; omega
            | succ fu ih =>
              intro i  h1 h2 
              refine A.il8 eX4_keep_57 ?_
              refine A.il6 eX4_keep_59 ?_
              refine A.icmp_geN eX4_keep_61 (fun c5 => ?_) (fun c5 => ?_)
              · refine A.il7 eX4_keep_111 ?_
                refine A.il4 eX4_keep_113 ?_
                refine A.cSi2 eX4_keep_115 oX4_setAnswer kX4_185 (sX4_setAnswer (fun n en => by have := bst_lt en; omega) bw ?_)
                refine B.iret eX4_keep_118 ?_
                have e : i = crx x h q := by omega
                subst e
                exact hQ τ g1 g3
              · refine A.il8 eX4_keep_64 ?_
                refine A.il6 eX4_keep_66 ?_
                refine A.iconst (v := -1) eX4_keep_68 (by decide) ?_
                refine A.ixor eX4_keep_69 ?_
                refine A.iand eX4_keep_70 ?_
                refine A.if_ne eX4_keep_71 (fun yd1 => ?_) (fun yd1 => ?_)
                · refine A.inc8N eX4_keep_105 ?_
                  refine A.goto eX4_keep_108 ?_
                  refine A.eq ?_ rfl rfl (ih (i + 1) (by omega) (by omega))
                  have hb : bst (fun m => decide (m &&& crx x h q = m) && decide (v * pop (lft (crx x h q) m) ≤ sm (inb (lft (crx x h q) m)) (xr x h) (xp x))) (i + 1) = if (fun m => decide (m &&& crx x h q = m) && decide (v * pop (lft (crx x h q) m) ≤ sm (inb (lft (crx x h q) m)) (xr x h) (xp x))) i && fwr i (bst (fun m => decide (m &&& crx x h q = m) && decide (v * pop (lft (crx x h q) m) ≤ sm (inb (lft (crx x h q) m)) (xr x h) (xp x))) i) then some i else bst (fun m => decide (m &&& crx x h q = m) && decide (v * pop (lft (crx x h q) m) ≤ sm (inb (lft (crx x h q) m)) (xr x h) (xp x))) i := rfl
                  have han := andnot (show i < 2147483648 by omega) (show crx x h q < 2147483648 by omega)
                  rw [hb]
                  rw [if_neg (by simp only [Bool.and_eq_true, decide_eq_true_eq]; exact fun z => yd1 (han.mpr z.1.1))]
                · refine A.il8 eX4_keep_74 ?_
                  refine A.il7 eX4_keep_76 ?_
                  refine A.cSi2 eX4_keep_78 oX4_isFewer kX4_179 (sX4_isFewer (by omega) (fun n en => by have := bst_lt en; omega) ?_)
                  refine A.if_eqB eX4_keep_81 (fun yd2 => ?_) (fun yd2 => ?_)
                  · refine A.inc8N eX4_keep_105 ?_
                    refine A.goto eX4_keep_108 ?_
                    refine A.eq ?_ rfl rfl (ih (i + 1) (by omega) (by omega))
                    have hb : bst (fun m => decide (m &&& crx x h q = m) && decide (v * pop (lft (crx x h q) m) ≤ sm (inb (lft (crx x h q) m)) (xr x h) (xp x))) (i + 1) = if (fun m => decide (m &&& crx x h q = m) && decide (v * pop (lft (crx x h q) m) ≤ sm (inb (lft (crx x h q) m)) (xr x h) (xp x))) i && fwr i (bst (fun m => decide (m &&& crx x h q = m) && decide (v * pop (lft (crx x h q) m) ≤ sm (inb (lft (crx x h q) m)) (xr x h) (xp x))) i) then some i else bst (fun m => decide (m &&& crx x h q = m) && decide (v * pop (lft (crx x h q) m) ≤ sm (inb (lft (crx x h q) m)) (xr x h) (xp x))) i := rfl
                    have han := andnot (show i < 2147483648 by omega) (show crx x h q < 2147483648 by omega)
                    rw [hb]
                    rw [if_neg (by simp only [Bool.and_eq_true, decide_eq_true_eq]; exact fun z => yd2 z.2)]
                  · refine A.al5 eX4_keep_84 ?_
                    refine A.il2 eX4_keep_86 ?_
                    refine A.il6 eX4_keep_87 ?_
                    refine A.il8 eX4_keep_89 ?_
                    refine A.iconst (v := -1) eX4_keep_91 (by decide) ?_
                    refine A.ixor eX4_keep_92 ?_
                    refine A.iand eX4_keep_93 ?_
                    refine A.top nI_lft ?_
                    refine A.il3 eX4_keep_94 ?_
                    refine A.cVi3 eX4_keep_95 oX3_isClear kX4_188 ko30 (sX3_isClear (v := 30) (Or.inl rfl) bh g1.np n8 (g2 h bh) (lft_lt hc8) (by omega) ?_)
                    refine A.if_eqB eX4_keep_98 (fun yd3 => ?_) (fun yd3 => ?_)
                    · refine A.inc8N eX4_keep_105 ?_
                      refine A.goto eX4_keep_108 ?_
                      refine A.eq ?_ rfl rfl (ih (i + 1) (by omega) (by omega))
                      have hb : bst (fun m => decide (m &&& crx x h q = m) && decide (v * pop (lft (crx x h q) m) ≤ sm (inb (lft (crx x h q) m)) (xr x h) (xp x))) (i + 1) = if (fun m => decide (m &&& crx x h q = m) && decide (v * pop (lft (crx x h q) m) ≤ sm (inb (lft (crx x h q) m)) (xr x h) (xp x))) i && fwr i (bst (fun m => decide (m &&& crx x h q = m) && decide (v * pop (lft (crx x h q) m) ≤ sm (inb (lft (crx x h q) m)) (xr x h) (xp x))) i) then some i else bst (fun m => decide (m &&& crx x h q = m) && decide (v * pop (lft (crx x h q) m) ≤ sm (inb (lft (crx x h q) m)) (xr x h) (xp x))) i := rfl
                      have han := andnot (show i < 2147483648 by omega) (show crx x h q < 2147483648 by omega)
                      rw [hb]
                      first
                        | (rw [if_pos (by simp only [Bool.and_eq_true, decide_eq_true_eq]; exact ⟨⟨han.mp yd1, yd3⟩, yd2⟩)]; rfl)
                        | (rw [if_neg (by simp only [Bool.and_eq_true, decide_eq_true_eq]; exact fun z => yd3 z.1.2)])
                    · refine A.il8 eX4_keep_101 ?_
                      refine A.is7 eX4_keep_103 ?_
                      refine A.inc8N eX4_keep_105 ?_
                      refine A.goto eX4_keep_108 ?_
                      refine A.eq ?_ rfl rfl (ih (i + 1) (by omega) (by omega))
                      have hb : bst (fun m => decide (m &&& crx x h q = m) && decide (v * pop (lft (crx x h q) m) ≤ sm (inb (lft (crx x h q) m)) (xr x h) (xp x))) (i + 1) = if (fun m => decide (m &&& crx x h q = m) && decide (v * pop (lft (crx x h q) m) ≤ sm (inb (lft (crx x h q) m)) (xr x h) (xp x))) i && fwr i (bst (fun m => decide (m &&& crx x h q = m) && decide (v * pop (lft (crx x h q) m) ≤ sm (inb (lft (crx x h q) m)) (xr x h) (xp x))) i) then some i else bst (fun m => decide (m &&& crx x h q = m) && decide (v * pop (lft (crx x h q) m) ≤ sm (inb (lft (crx x h q) m)) (xr x h) (xp x))) i := rfl
                      have han := andnot (show i < 2147483648 by omega) (show crx x h q < 2147483648 by omega)
                      rw [hb]
                      first
                        | (rw [if_pos (by simp only [Bool.and_eq_true, decide_eq_true_eq]; exact ⟨⟨han.mp yd1, yd3⟩, yd2⟩)]; rfl)
                        | (rw [if_neg (by simp only [Bool.and_eq_true, decide_eq_true_eq]; exact fun z => yd3 z.1.2)])
          exact lp (crx x h q + 1) 0 (by omega) (by omega)
        · exact absurd ⟨by rw [nI_ti (by omega)]; omega, by rw [nI_ti (by omega)]; omega⟩ c4
set_option maxRecDepth 100000 in
set_option maxHeartbeats 4000000 in
theorem bX4_keep {G : GW} {σ : St} {K : Int32 → St → Prop} {x : XS} {q h v w : Int32} (hC : CI x σ) (hb : ¬ (ck q (xq x) ∧ ck h 24 ∧ ck v 10 ∧ ck w 2)) (hQ : K (-2) σ) : Ci G (r0 4 86) mX4_keep [rf G 0, .int q, .int h, .int v, .int w] σ K := by
  refine Ci.of [some (rf G 0), some (.int q), some (.int h), some (.int v), some (.int w), none, none, none, none] ?_
  have n8 := hC.np8
  have q6 := hC.nq6
  refine A.al0 eX4_keep_0 ?_
  refine A.il1 eX4_keep_1 ?_
  refine A.cVi1 eX4_keep_2 oX4_isPlace kX4_98 ko0 (sX4_isPlace hC.nq hC.nq6 ?_)
  refine A.if_eqB eX4_keep_5 (fun c1 => ?_) (fun c1 => ?_)
  · refine A.bipush (v := -2) eX4_keep_33 (by decide) ?_
    refine B.iret eX4_keep_35 ?_
    exact hQ
  · refine A.il2 eX4_keep_8 ?_
    refine A.cSi1 eX4_keep_9 oX4_isHour kX4_134 (sX4_isHour  ?_)
    refine A.if_eqB eX4_keep_12 (fun c2 => ?_) (fun c2 => ?_)
    · refine A.bipush (v := -2) eX4_keep_33 (by decide) ?_
      refine B.iret eX4_keep_35 ?_
      exact hQ
    · refine A.il3 eX4_keep_15 ?_
      refine A.bipush (v := nI 10) eX4_keep_16 (by decide) ?_
      refine A.cSi2 eX4_keep_18 oX4_isBelow kX4_67 (sX4_isBelowIN (b := 10) (by omega) ?_)
      refine A.if_eqB eX4_keep_21 (fun c3 => ?_) (fun c3 => ?_)
      · refine A.bipush (v := -2) eX4_keep_33 (by decide) ?_
        refine B.iret eX4_keep_35 ?_
        exact hQ
      · refine A.il4 eX4_keep_24 ?_
        refine A.iconst (v := nI 2) eX4_keep_26 (by decide) ?_
        refine A.cSi2 eX4_keep_27 oX4_isBelow kX4_67 (sX4_isBelowIN (b := 2) (by omega) ?_)
        refine A.if_neB eX4_keep_30 (fun c4 => ?_) (fun c4 => ?_)
        · exact absurd ⟨c1, c2, c3, c4⟩ hb
        · refine A.bipush (v := -2) eX4_keep_33 (by decide) ?_
          refine B.iret eX4_keep_35 ?_
          exact hQ
theorem aX4_keep {G : GW} {σ : St} {K : Int32 → St → Prop} {x : XS} {q h v w : Int32} (hC : CI x σ) (hQ : ∀ τ : St, CI x τ → Fi 0 41 σ τ → K (Rkeep x q h v w) τ) : Ci G (r0 4 86) mX4_keep [rf G 0, .int q, .int h, .int v, .int w] σ K := by
  have n8 := hC.np8
  have q6 := hC.nq6
  by_cases hb : ck q (xq x) ∧ ck h 24 ∧ ck v 10 ∧ ck w 2
  · have hR : Rkeep x q h v w = _ := if_pos hb
    rw [hR] at hQ
    obtain ⟨q, bq, rfl⟩ := i_nat hb.1.1 hb.1.2
    obtain ⟨h, bh, rfl⟩ := i_nat hb.2.1.1 hb.2.1.2
    obtain ⟨v, bv, rfl⟩ := i_nat hb.2.2.1.1 hb.2.2.1.2
    obtain ⟨w, bw, rfl⟩ := i_nat hb.2.2.2.1 hb.2.2.2.2
    simp only [nI_clamp (n := q) (by omega), nI_clamp (n := h) (by omega), nI_clamp (n := v) (by omega), nI_clamp (n := w) (by omega)] at hQ
    exact sX4_keep hC bq bh bv bw hQ
  · have hR : Rkeep x q h v w = _ := if_neg hb
    rw [hR] at hQ
    exact bX4_keep hC hb (hQ σ hC (Fi.rf _ _ _))
