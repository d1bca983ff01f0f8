theorem cnt_cut (f : Nat → Bool) (n : Nat) : ∀ m, cnt (fun i => decide (i < n) && f i) m = cnt f (min m n) := by
  intro m
  induction m with
  | zero => simp [cnt]
  | succ m ih =>
    show cnt _ m + _ = _
    rw [ih]
    by_cases e : m < n
    · rw [Nat.min_eq_left (show m ≤ n by omega), Nat.min_eq_left (show m + 1 ≤ n by omega)]
      simp [cnt, e]
    · rw [Nat.min_eq_right (show n ≤ m by omega), Nat.min_eq_right (show n ≤ m + 1 by omega)]
      simp [e]
theorem pop_bits {f : Nat → Bool} {n : Nat} (h : n ≤ 8) : pop (bits f n) = cnt f n := by
  unfold pop
  rw [cnt_congr (g := fun i => decide (i < n) && f i) (fun i _ => inb_bits f n i), cnt_cut, Nat.min_eq_right h]
theorem sm_bits {f : Nat → Bool} {b : Nat → Nat} {n : Nat} : sm (inb (bits f n)) b n = sm f b n := sm_congr (fun p hp => ⟨by rw [inb_bits]; simp [hp], rfl⟩)
theorem bits_z8 {f : Nat → Bool} {n : Nat} : bits f n = 0 ↔ cnt f n = 0 := by rw [bits_zero, cnt_zero]
theorem in_n {a b c : Nat} (ha : a < 2147483648) (hb : b < 2147483648) (hc : c < 2147483648) : bI ((nI b).toInt64.toInt ≤ (nI a).toInt64.toInt ∧ (nI a).toInt64.toInt ≤ (nI c).toInt64.toInt) = bI (b ≤ a ∧ a ≤ c) := by
  apply bI_congr
  rw [i64_ti, i64_ti, i64_ti, nI_ti ha, nI_ti hb, nI_ti hc]
  omega
theorem FM.mv {x : XS} {σ τ : St} (h : FM x σ) (hF : Fq (xg x).1 σ τ) (hr : RX x τ) (hb : ∀ p, p < xp x → τ.1 54 p = nI (xb x p)) (hl : LV τ (xp x) (xq x) (xa x) (xr x)) : FM x τ := ⟨h.1.cg hF, hr, hb, hl⟩
theorem FM.np8 {x : XS} {σ : St} (h : FM x σ) : xp x ≤ 8 := h.1.np8
theorem FM.nq6 {x : XS} {σ : St} (h : FM x σ) : xq x ≤ 6 := h.1.nq6
theorem RX.cg {x : XS} {σ τ : St} (h1 : τ.1 49 = σ.1 49) (h2 : τ.1 50 = σ.1 50) (h : RX x σ) : RX x τ := by
  unfold RX; rw [h1, h2]; exact h
set_option maxRecDepth 100000 in
set_option maxHeartbeats 4000000 in
theorem sX5_find {G : GW} {σ : St} {K : St → Prop} {x : XS} (hM : MI x σ) (hQ : ∀ τ : St, FM x τ → Fm σ τ → K τ) : Cv G (r0 4 95) mX5_find [rf G 42] σ K := by
  refine Cv.of [some (rf G 42)] ?_
  have n8 := hM.np8
  have q6 := hM.nq6
  refine A.al0 eX5_find_0 ?_
  refine A.cVv0 eX5_find_1 oX5_reads kX5_124 ko42 (sX5_reads hM (fun τ r0 _ r1 r2 => ?_))
  refine A.al0 eX5_find_4 ?_
  refine A.cVv0 eX5_find_5 oX5_plain kX5_168 ko42 (sX5_plain (np := xp x) (b := xb x) r1.1 n8 (fun p hp => (r1.2.2.1 p hp).1) (fun ρ p1 p2 p3 => ?_))
  have f1 : Fq (xg x).1 τ ρ := by
    refine ⟨fun k hk => p1 k (by omega), fun k hk => ?_, fun j _ => by rw [p1 42 (by omega)], fun j _ => by rw [p1 51 (by omega)]⟩
    simp only [List.mem_cons, List.not_mem_nil, or_false] at hk
    exact p1 k (by omega)
  have h2 := (hM.cg (r0 _)).cg f1
  refine A.al0 eX5_find_8 ?_
  refine A.al0 eX5_find_9 ?_
  refine A.getI eX5_find_10 fX5_142 ko42 ?_
  refine A.top h2.2.1.1 ?_
  refine A.cVv1 eX5_find_13 oX5_lives kX5_171 ko42 (sX5_lives (n := (xg x).1) (np := xp x) (nq := xq x) (gh := (xg x).2.1) (gp := (xg x).2.2.1) (gq := (xg x).2.2.2) (b0 := xb x) (kd := xk x) (by rw [p1 49 (by omega)]; exact r1.1) n8 (by rw [p1 49 (by omega)]; exact r1.2.1) q6 (by have := hM.2.1.2.1; omega) h2.2.1.2.2 (fun p hp => ⟨p3 p hp, xb_le hp⟩) (fun p hp => ⟨by rw [p1 50 (by omega)]; exact (r1.2.2.1 p hp).2, xk_le p⟩) (fun ξ e1 e2 => ?_))
  refine B.vret eX5_find_16 ?_
  refine hQ ξ ⟨h2.cg e1.fq, RX.cg (e1.1 49 (by omega) (by omega) (by omega)) (e1.1 50 (by omega) (by omega) (by omega)) (RX.cg (p1 49 (by omega)) (p1 50 (by omega)) r1), fun p hp => by rw [e1.1 54 (by omega) (by omega) (by omega)]; exact p3 p hp, e2⟩ (((r0 0).1.tr (fun k hk => p1 k (by omega))).tr (e1.fq (n := 0)).1)
set_option maxRecDepth 100000 in
set_option maxHeartbeats 4000000 in
theorem sX5_crowdOf {G : GW} {σ : St} {K : Int32 → St → Prop} {h q np : Nat} {a : Nat → Int32} (hnp : σ.1 49 0 = nI np) (hn8 : np ≤ 8) (bh : h < 24) (hA : ∀ p, p < np → σ.1 52 (8 * h + p) = a p) (hQ : K (nI (bits (isat a q) np)) σ) : Ci G (r0 0 0) mX5_crowdOf [rf G 42, .int (nI h), .int (nI q)] σ K := by
  refine Ci.of [some (rf G 42), some (.int (nI h)), some (.int (nI q)), none, none] ?_
  refine A.iconst (v := nI 0) eX5_crowdOf_0 (by decide) ?_
  refine A.is3 eX5_crowdOf_1 ?_
  refine A.iconst (v := nI 0) eX5_crowdOf_2 (by decide) ?_
  refine A.is4 eX5_crowdOf_3 ?_
  have lp : ∀ (fu i : Nat), np - i < fu → i ≤ np → B G (r0 0 0) mX5_crowdOf 5 [some (rf G 42), some (.int (nI h)), some (.int (nI q)), some (.int (nI (bits (isat a q) i))), some (.int (nI i))] [] (σ) (Pi K) := by
    intro fu
    induction fu with
    | zero => intro i  h1 h2; omega
    | succ fu ih =>
      intro i  h1 h2 
      refine A.il4 eX5_crowdOf_5 ?_
      refine A.al0 eX5_crowdOf_7 ?_
      refine A.getR eX5_crowdOf_8 fX5_28 ko42 kr42_8 ?_
      refine A.iconst (v := nI 0) eX5_crowdOf_11 (by decide) ?_
      refine A.ialdN eX5_crowdOf_12 ka49 ?_
      refine A.top hnp ?_
      refine A.icmp_geN eX5_crowdOf_13 (fun c1 => ?_) (fun c1 => ?_)
      · refine A.il3 eX5_crowdOf_49 ?_
        refine B.iret eX5_crowdOf_50 ?_
        have e : i = np := by omega
        subst e
        exact hQ
      · refine A.il3 eX5_crowdOf_16 ?_
        refine A.al0 eX5_crowdOf_17 ?_
        refine A.getR eX5_crowdOf_18 fX5_37 ko42 kr42_12 ?_
        refine A.bipush (v := nI 8) eX5_crowdOf_21 (by decide) ?_
        refine A.il1 eX5_crowdOf_23 ?_
        refine A.imulN eX5_crowdOf_24 ?_
        refine A.il4 eX5_crowdOf_25 ?_
        refine A.iaddN eX5_crowdOf_27 ?_
        refine A.ialdN eX5_crowdOf_28 ka52 ?_
        refine A.top (hA i (by omega)) ?_
        refine A.il2 eX5_crowdOf_29 ?_
        refine A.icmp_ne eX5_crowdOf_30 (fun yd1 => ?_) (fun yd1 => ?_)
        · refine A.iconst (v := nI 0) eX5_crowdOf_40 (by decide) ?_
          refine A.iorN eX5_crowdOf_41 ?_
          refine A.is3 eX5_crowdOf_42 ?_
          refine A.inc4N eX5_crowdOf_43 ?_
          refine A.goto eX5_crowdOf_46 ?_
          exact A.eq (by simp [bits, isat, yd1]) rfl rfl (ih (i + 1) (by omega) (by omega))
        · refine A.iconst (v := nI 1) eX5_crowdOf_33 (by decide) ?_
          refine A.il4 eX5_crowdOf_34 ?_
          refine A.ishl1 eX5_crowdOf_36 ?_
          refine A.goto eX5_crowdOf_37 ?_
          refine A.iorN eX5_crowdOf_41 ?_
          refine A.is3 eX5_crowdOf_42 ?_
          refine A.inc4N eX5_crowdOf_43 ?_
          refine A.goto eX5_crowdOf_46 ?_
          exact A.eq (by simp [bits, isat, yd1]) rfl rfl (ih (i + 1) (by omega) (by omega))
  exact lp (np + 1) 0 (by omega) (by omega)
set_option maxRecDepth 100000 in
set_option maxHeartbeats 4000000 in
theorem sX5_sumOf {G : GW} {σ : St} {K : Int32 → St → Prop} {h m np : Nat} {a : Nat → Int32} {b : Nat → Nat} (hnp : σ.1 49 0 = nI np) (hn8 : np ≤ 8) (bh : h < 24) (hA : HM σ h np a b) (hm : m < 256) (hQ : K (nI (sm (inb m) b np)) σ) : Ci G (r0 1 21) mX5_sumOf [rf G 42, .int (nI h), .int (nI m)] σ K := by
  refine Ci.of [some (rf G 42), some (.int (nI h)), some (.int (nI m)), none, none] ?_
  refine A.iconst (v := nI 0) eX5_sumOf_0 (by decide) ?_
  refine A.is3 eX5_sumOf_1 ?_
  refine A.iconst (v := nI 0) eX5_sumOf_2 (by decide) ?_
  refine A.is4 eX5_sumOf_3 ?_
  have lp : ∀ (fu i : Nat), np - i < fu → i ≤ np → B G (r0 1 21) mX5_sumOf 5 [some (rf G 42), some (.int (nI h)), some (.int (nI m)), some (.int (nI (sm (inb m) b i))), some (.int (nI i))] [] (σ) (Pi K) := by
    intro fu
    induction fu with
    | zero => intro i  h1 h2; omega
    | succ fu ih =>
      intro i  h1 h2 
      refine A.il4 eX5_sumOf_5 ?_
      refine A.al0 eX5_sumOf_7 ?_
      refine A.getR eX5_sumOf_8 fX5_28 ko42 kr42_8 ?_
      refine A.iconst (v := nI 0) eX5_sumOf_11 (by decide) ?_
      refine A.ialdN eX5_sumOf_12 ka49 ?_
      refine A.top hnp ?_
      refine A.icmp_geN eX5_sumOf_13 (fun c1 => ?_) (fun c1 => ?_)
      · refine A.il3 eX5_sumOf_50 ?_
        refine B.iret eX5_sumOf_51 ?_
        have e : i = np := by omega
        subst e
        exact hQ
      · refine A.il3 eX5_sumOf_16 ?_
        refine A.il2 eX5_sumOf_17 ?_
        refine A.il4 eX5_sumOf_18 ?_
        refine A.cSi2 eX5_sumOf_20 oX5_isIn kX5_155 (sX5_isIn (by omega) (by omega) ?_)
        refine A.if_eqB eX5_sumOf_23 (fun yd1 => ?_) (fun yd1 => ?_)
        · refine A.iconst (v := nI 0) eX5_sumOf_41 (by decide) ?_
          refine A.iaddN eX5_sumOf_42 ?_
          refine A.is3 eX5_sumOf_43 ?_
          refine A.inc4N eX5_sumOf_44 ?_
          refine A.goto eX5_sumOf_47 ?_
          exact A.eq (by simp [sm, yd1]) rfl rfl (ih (i + 1) (by omega) (by omega))
        · refine A.al0 eX5_sumOf_26 ?_
          refine A.getR eX5_sumOf_27 fX5_40 ko42 kr42_13 ?_
          refine A.bipush (v := nI 8) eX5_sumOf_30 (by decide) ?_
          refine A.il1 eX5_sumOf_32 ?_
          refine A.imulN eX5_sumOf_33 ?_
          refine A.il4 eX5_sumOf_34 ?_
          refine A.iaddN eX5_sumOf_36 ?_
          refine A.ialdN eX5_sumOf_37 ka53 ?_
          refine A.top (hA i (by omega)).2.1 ?_
          refine A.goto eX5_sumOf_38 ?_
          refine A.iaddN eX5_sumOf_42 ?_
          refine A.is3 eX5_sumOf_43 ?_
          refine A.inc4N eX5_sumOf_44 ?_
          refine A.goto eX5_sumOf_47 ?_
          exact A.eq (by simp [sm, yd1]) rfl rfl (ih (i + 1) (by omega) (by omega))
  exact lp (np + 1) 0 (by omega) (by omega)
set_option maxRecDepth 100000 in
set_option maxHeartbeats 4000000 in
theorem sX5_isMet {G : GW} {σ : St} {K : Int32 → St → Prop} {h q np lo hi : Nat} {a : Nat → Int32} {b : Nat → Nat} (hnp : σ.1 49 0 = nI np) (hn8 : np ≤ 8) (bh : h < 24) (hA : HM σ h np a b) (bq : q < 6) (hlo : σ.1 50 (16 + 2 * q) = nI lo) (hlo9 : lo ≤ 9) (hhi : σ.1 50 (16 + 2 * q + 1) = nI hi) (hhi9 : hi ≤ 9) (hQ : K (bI (metd (cnt (isat a q) np) (sm (isat a q) b np) lo hi = true)) σ) : Ci G (r0 2 45) mX5_isMet [rf G 42, .int (nI h), .int (nI q)] σ K := by
  refine Ci.of [some (rf G 42), some (.int (nI h)), some (.int (nI q)), none, none] ?_
  have hbt := bits_lt (isat a q) np
  have h2p : 2 ^ np ≤ 2 ^ 8 := Nat.pow_le_pow_right (by omega) hn8
  have hc8 := cnt_le (isat a q) np
  have hs9 := sm_le (f := isat a q) (c := 9) (n := np) (fun p hp => (hA p hp).2.2)
  refine A.al0 eX5_isMet_0 ?_
  refine A.il1 eX5_isMet_1 ?_
  refine A.il2 eX5_isMet_2 ?_
  refine A.cVi2 eX5_isMet_3 oX5_crowdOf kX5_178 ko42 (sX5_crowdOf (a := a) hnp hn8 bh (fun p hp => (hA p hp).1) ?_)
  refine A.is3 eX5_isMet_6 ?_
  refine A.il3 eX5_isMet_7 ?_
  refine A.cSi1 eX5_isMet_8 oX5_ones kX5_188 (sX5_ones (by omega) ?_)
  refine A.top (congrArg nI (pop_bits hn8)) ?_
  refine A.is4 eX5_isMet_11 ?_
  refine A.il3 eX5_isMet_13 ?_
  refine A.if_eqN eX5_isMet_14 (fun yd1 => ?_) (fun yd1 => ?_)
  · refine A.iconst (v := nI 0) eX5_isMet_64 (by decide) ?_
    refine B.zret eX5_isMet_65 (by decide) ?_
    exact vl_of hQ (bI_f (by have w := bits_z8.mp yd1; simp [metd, w])).symm
  · refine A.al0 eX5_isMet_17 ?_
    refine A.il1 eX5_isMet_18 ?_
    refine A.il3 eX5_isMet_19 ?_
    refine A.cVi2 eX5_isMet_20 oX5_sumOf kX5_185 ko42 (sX5_sumOf hnp hn8 bh hA (by omega) ?_)
    refine A.top (congrArg nI sm_bits) ?_
    refine A.i2l eX5_isMet_23 rfl ?_
    refine A.al0 eX5_isMet_24 ?_
    refine A.getR eX5_isMet_25 fX5_31 ko42 kr42_9 ?_
    refine A.bipush (v := nI 16) eX5_isMet_28 (by decide) ?_
    refine A.iconst (v := nI 2) eX5_isMet_30 (by decide) ?_
    refine A.il2 eX5_isMet_31 ?_
    refine A.imulN eX5_isMet_32 ?_
    refine A.iaddN eX5_isMet_33 ?_
    refine A.ialdN eX5_isMet_34 ka50 ?_
    refine A.top hlo ?_
    refine A.il4 eX5_isMet_35 ?_
    refine A.imulN eX5_isMet_37 ?_
    refine A.i2l eX5_isMet_38 rfl ?_
    refine A.al0 eX5_isMet_39 ?_
    refine A.getR eX5_isMet_40 fX5_31 ko42 kr42_9 ?_
    refine A.bipush (v := nI 17) eX5_isMet_43 (by decide) ?_
    refine A.iconst (v := nI 2) eX5_isMet_45 (by decide) ?_
    refine A.il2 eX5_isMet_46 ?_
    refine A.imulN eX5_isMet_47 ?_
    refine A.iaddN eX5_isMet_48 ?_
    refine A.ialdN eX5_isMet_49 ka50 ?_
    refine A.top (show σ.1 50 (17 + 2 * q) = nI hi by rw [show 17 + 2 * q = 16 + 2 * q + 1 by omega]; exact hhi) ?_
    refine A.il4 eX5_isMet_50 ?_
    refine A.imulN eX5_isMet_52 ?_
    refine A.i2l eX5_isMet_53 rfl ?_
    refine A.cSi3 eX5_isMet_54 oX5_in kX5_67 (sX5_in ?_)
    refine A.top (in_n (by omega) (by have := Nat.mul_le_mul hlo9 hc8; omega) (by have := Nat.mul_le_mul hhi9 hc8; omega)) ?_
    refine A.if_eqB eX5_isMet_57 (fun yd2 => ?_) (fun yd2 => ?_)
    · refine A.iconst (v := nI 0) eX5_isMet_64 (by decide) ?_
      refine B.zret eX5_isMet_65 (by decide) ?_
      exact vl_of hQ (bI_f (by have w := yd2; simp [metd]; omega)).symm
    · refine A.iconst (v := nI 1) eX5_isMet_60 (by decide) ?_
      refine A.goto eX5_isMet_61 ?_
      refine B.zret eX5_isMet_65 (by decide) ?_
      have w : ¬ cnt (isat a q) np = 0 := fun z => yd1 (bits_z8.mpr z)
      exact vl_of hQ (bI_t (by simp [metd, yd2.1, yd2.2]; omega)).symm
set_option maxRecDepth 100000 in
set_option maxHeartbeats 4000000 in
theorem sX5_metIn {G : GW} {σ : St} {K : Int32 → St → Prop} {x : XS} {h : Nat} (hF : FM x σ) (bh : h < 24) (hQ : K (Vmet x h) σ) : Ci G (r0 3 69) mX5_metIn [rf G 42, .int (nI h)] σ K := by
  refine Ci.of [some (rf G 42), some (.int (nI h)), none, none] ?_
  have n8 := hF.np8
  have q6 := hF.nq6
  refine A.iconst (v := nI 0) eX5_metIn_0 (by decide) ?_
  refine A.is2 eX5_metIn_1 ?_
  refine A.iconst (v := nI 0) eX5_metIn_2 (by decide) ?_
  refine A.is3 eX5_metIn_3 ?_
  have lp : ∀ (fu i : Nat), xq x - i < fu → i ≤ xq x → B G (r0 3 69) mX5_metIn 4 [some (rf G 42), some (.int (nI h)), some (.int (nI (bits (metx x h) i))), some (.int (nI i))] [] (σ) (Pi K) := by
    intro fu
    induction fu with
    | zero => intro i  h1 h2; omega
    | succ fu ih =>
      intro i  h1 h2 
      refine A.il3 eX5_metIn_4 ?_
      refine A.al0 eX5_metIn_5 ?_
      refine A.getR eX5_metIn_6 fX5_28 ko42 kr42_8 ?_
      refine A.iconst (v := nI 1) eX5_metIn_9 (by decide) ?_
      refine A.ialdN eX5_metIn_10 ka49 ?_
      refine A.top hF.2.1.2.1 ?_
      refine A.icmp_geN eX5_metIn_11 (fun c1 => ?_) (fun c1 => ?_)
      · refine A.il2 eX5_metIn_39 ?_
        refine B.iret eX5_metIn_40 ?_
        have e : i = xq x := by omega
        subst e
        exact hQ
      · refine A.il2 eX5_metIn_14 ?_
        refine A.al0 eX5_metIn_15 ?_
        refine A.il1 eX5_metIn_16 ?_
        refine A.il3 eX5_metIn_17 ?_
        refine A.cVi2 eX5_metIn_18 oX5_isMet kX5_199 ko42 (sX5_isMet (a := xa x h) (b := xr x h) hF.2.1.1 n8 bh (hF.2.2.2 h bh).1 (by omega) (hF.2.1.2.2.2 i (show i < xq x by omega)).1 (xlo_le (show i < xq x by omega)) (hF.2.1.2.2.2 i (show i < xq x by omega)).2 (xhi_le (show i < xq x by omega)) ?_)
        refine A.top (show _ = bI (metx x h i = true) from rfl) ?_
        refine A.if_eqB eX5_metIn_21 (fun yd1 => ?_) (fun yd1 => ?_)
        · refine A.iconst (v := nI 0) eX5_metIn_30 (by decide) ?_
          refine A.iorN eX5_metIn_31 ?_
          refine A.is2 eX5_metIn_32 ?_
          refine A.inc3N eX5_metIn_33 ?_
          refine A.goto eX5_metIn_36 ?_
          exact A.eq (by simp [bits, yd1]) rfl rfl (ih (i + 1) (by omega) (by omega))
        · refine A.iconst (v := nI 1) eX5_metIn_24 (by decide) ?_
          refine A.il3 eX5_metIn_25 ?_
          refine A.ishl1 eX5_metIn_26 ?_
          refine A.goto eX5_metIn_27 ?_
          refine A.iorN eX5_metIn_31 ?_
          refine A.is2 eX5_metIn_32 ?_
          refine A.inc3N eX5_metIn_33 ?_
          refine A.goto eX5_metIn_36 ?_
          exact A.eq (by simp [bits, yd1]) rfl rfl (ih (i + 1) (by omega) (by omega))
  exact lp (xq x + 1) 0 (by omega) (by omega)
set_option maxRecDepth 100000 in
set_option maxHeartbeats 4000000 in
theorem sX5_spoiltOf {G : GW} {σ : St} {K : Int32 → St → Prop} {x : XS} {q : Nat} (hF : FM x σ) (bq : q < xq x) (hQ : K (Vspoilt x q) σ) : Ci G (r0 3 69) mX5_spoiltOf [rf G 42, .int (nI q)] σ K := by
  refine Ci.of [some (rf G 42), some (.int (nI q)), none, none] ?_
  have n8 := hF.np8
  have q6 := hF.nq6
  refine A.iconst (v := nI 0) eX5_spoiltOf_0 (by decide) ?_
  refine A.is2 eX5_spoiltOf_1 ?_
  refine A.iconst (v := nI 0) eX5_spoiltOf_2 (by decide) ?_
  refine A.is3 eX5_spoiltOf_3 ?_
  have lp : ∀ (fu i : Nat), 24 - i < fu → i ≤ 24 → B G (r0 3 69) mX5_spoiltOf 4 [some (rf G 42), some (.int (nI q)), some (.int (nI (bits (fun h => !decide (crx x h q = 0) && !metx x h q) i))), some (.int (nI i))] [] (σ) (Pi K) := by
    intro fu
    induction fu with
    | zero => intro i  h1 h2; omega
    | succ fu ih =>
      intro i  h1 h2 
      refine A.il3 eX5_spoiltOf_4 ?_
      refine A.bipush (v := nI 24) eX5_spoiltOf_5 (by decide) ?_
      refine A.icmp_geN eX5_spoiltOf_7 (fun c1 => ?_) (fun c1 => ?_)
      · refine A.il2 eX5_spoiltOf_44 ?_
        refine B.iret eX5_spoiltOf_45 ?_
        have e : i = 24 := by omega
        subst e
        exact hQ
      · refine A.il2 eX5_spoiltOf_10 ?_
        refine A.al0 eX5_spoiltOf_11 ?_
        refine A.il3 eX5_spoiltOf_12 ?_
        refine A.il1 eX5_spoiltOf_13 ?_
        refine A.cVi2 eX5_spoiltOf_14 oX5_crowdOf kX5_178 ko42 (sX5_crowdOf (a := xa x i) hF.2.1.1 n8 (by omega) (fun p hp => ((hF.2.2.2 i (by omega)).1 p hp).1) ?_)
        refine A.top (show _ = nI (crx x i q) from rfl) ?_
        have hc8 : crx x i q < 256 := crx_lt n8
        refine A.if_eqN eX5_spoiltOf_17 (fun yd1 => ?_) (fun yd1 => ?_)
        · refine A.iconst (v := nI 0) eX5_spoiltOf_35 (by decide) ?_
          refine A.iorN eX5_spoiltOf_36 ?_
          refine A.is2 eX5_spoiltOf_37 ?_
          refine A.inc3N eX5_spoiltOf_38 ?_
          refine A.goto eX5_spoiltOf_41 ?_
          exact A.eq (by simp [bits, yd1]) rfl rfl (ih (i + 1) (by omega) (by omega))
        · refine A.al0 eX5_spoiltOf_20 ?_
          refine A.il3 eX5_spoiltOf_21 ?_
          refine A.il1 eX5_spoiltOf_22 ?_
          refine A.cVi2 eX5_spoiltOf_23 oX5_isMet kX5_199 ko42 (sX5_isMet (a := xa x i) (b := xr x i) hF.2.1.1 n8 (show i < 24 by omega) (hF.2.2.2 i (show i < 24 by omega)).1 (by omega) (hF.2.1.2.2.2 q bq).1 (xlo_le bq) (hF.2.1.2.2.2 q bq).2 (xhi_le bq) ?_)
          refine A.top (show _ = bI (metx x i q = true) from rfl) ?_
          refine A.if_neB eX5_spoiltOf_26 (fun yd2 => ?_) (fun yd2 => ?_)
          · refine A.iconst (v := nI 0) eX5_spoiltOf_35 (by decide) ?_
            refine A.iorN eX5_spoiltOf_36 ?_
            refine A.is2 eX5_spoiltOf_37 ?_
            refine A.inc3N eX5_spoiltOf_38 ?_
            refine A.goto eX5_spoiltOf_41 ?_
            exact A.eq (by simp [bits, yd1, yd2]) rfl rfl (ih (i + 1) (by omega) (by omega))
          · refine A.iconst (v := nI 1) eX5_spoiltOf_29 (by decide) ?_
            refine A.il3 eX5_spoiltOf_30 ?_
            refine A.ishl1 eX5_spoiltOf_31 ?_
            refine A.goto eX5_spoiltOf_32 ?_
            refine A.iorN eX5_spoiltOf_36 ?_
            refine A.is2 eX5_spoiltOf_37 ?_
            refine A.inc3N eX5_spoiltOf_38 ?_
            refine A.goto eX5_spoiltOf_41 ?_
            exact A.eq (by simp [bits, yd1, yd2]) rfl rfl (ih (i + 1) (by omega) (by omega))
  exact lp (24 + 1) 0 (by omega) (by omega)
set_option maxRecDepth 100000 in
set_option maxHeartbeats 4000000 in
theorem sX5_skyOf {G : GW} {σ : St} {K : Int64 → St → Prop} {x : XS} {h q w : Nat} (hF : FM x σ) (bh : h < 24) (bw : w < 2) (hQ : K (Vsky x h q w) σ) : Cl G (r0 2 45) mX5_skyOf [rf G 42, .int (nI h), .int (nI q), .int (nI w)] σ K := by
  refine Cl.of [some (rf G 42), some (.int (nI h)), some (.int (nI q)), some (.int (nI w)), none] ?_
  have n8 := hF.np8
  have q6 := hF.nq6
  refine A.al0 eX5_skyOf_0 ?_
  refine A.il1 eX5_skyOf_1 ?_
  refine A.il2 eX5_skyOf_2 ?_
  refine A.cVi2 eX5_skyOf_3 oX5_crowdOf kX5_178 ko42 (sX5_crowdOf (a := xa x h) hF.2.1.1 n8 bh (fun p hp => ((hF.2.2.2 h bh).1 p hp).1) ?_)
  refine A.top (show _ = nI (crx x h q) from rfl) ?_
  have hc8 : crx x h q < 256 := crx_lt n8
  refine A.is4 eX5_skyOf_6 ?_
  refine A.il4 eX5_skyOf_8 ?_
  refine A.if_neN eX5_skyOf_10 (fun yd1 => ?_) (fun yd1 => ?_)
  · have hpp : 0 < pop (crx x h q) := crx_pop n8 yd1
    have hp8 := pop_le (crx x h q)
    have hs72 : (sm (inb (crx x h q)) (xr x h) (xp x)) ≤ xp x * 9 := sm_le (fun p hp => ((hF.2.2.2 h bh).1 p hp).2.2)
    refine A.al0 eX5_skyOf_21 ?_
    refine A.il1 eX5_skyOf_22 ?_
    refine A.il4 eX5_skyOf_23 ?_
    refine A.cVi2 eX5_skyOf_25 oX5_sumOf kX5_185 ko42 (sX5_sumOf hF.2.1.1 n8 bh (hF.2.2.2 h bh).1 hc8 ?_)
    refine A.i2l eX5_skyOf_28 rfl ?_
    rw [i64_nI (show (sm (inb (crx x h q)) (xr x h) (xp x)) < 2147483648 by omega)]
    refine A.il4 eX5_skyOf_29 ?_
    refine A.cSi1 eX5_skyOf_31 oX5_ones kX5_188 (sX5_ones hc8 ?_)
    refine A.i2l eX5_skyOf_34 rfl ?_
    rw [i64_nI (show pop (crx x h q) < 2147483648 by omega)]
    refine A.il3 eX5_skyOf_35 ?_
    refine A.cSl3 eX5_skyOf_36 oX5_part kX5_191 (sX5_part (a := (sm (inb (crx x h q)) (xr x h) (xp x))) (d := pop (crx x h q)) (by omega) (by omega) hpp bw ?_)
    refine B.lret eX5_skyOf_39 ?_
    refine vl_of hQ ?_
    unfold Vsky
    rw [if_neg yd1]
  · refine A.bipush (v := -3) eX5_skyOf_13 (by decide) ?_
    refine A.cSl1 eX5_skyOf_15 oX5_no kX5_181 (sX5_no ?_)
    refine A.goto eX5_skyOf_18 ?_
    refine B.lret eX5_skyOf_39 ?_
    refine vl_of hQ ?_
    unfold Vsky
    rw [if_pos yd1]
set_option maxRecDepth 100000 in
set_option maxHeartbeats 4000000 in
theorem aX5_where {G : GW} {σ : St} {K : Int32 → St → Prop} {x : XS} {h p : Int32} (hM : MI x σ) (hQ : ∀ τ : St, MI (x) τ → Fm σ τ → K (Rwhere x h p) τ) : Ci G (r0 5 115) mX5_where [rf G 42, .int h, .int p] σ K := by
  refine Ci.of [some (rf G 42), some (.int h), some (.int p)] ?_
  unfold Rwhere at hQ
  have n8 := hM.np8
  have q6 := hM.nq6
  refine A.al0 eX5_where_0 ?_
  refine A.cVv0 eX5_where_1 oX5_find kX5_175 ko42 (sX5_find hM (fun τ g1 g2 => ?_))
  refine A.il1 eX5_where_4 ?_
  refine A.cSi1 eX5_where_5 oX5_isHour kX5_133 (sX5_isHour ?_)
  refine A.if_eqB eX5_where_8 (fun yw_h => ?_) (fun yw_h => ?_)
  · refine A.bipush (v := -2) eX5_where_33 (by decide) ?_
    refine B.iret eX5_where_35 ?_
    simp only [if_neg (show ¬ (ck h 24 ∧ ck p (xp x)) from fun z => yw_h z.1)] at hQ
    exact hQ τ g1.1 g2
  · refine A.al0 eX5_where_11 ?_
    refine A.il2 eX5_where_12 ?_
    refine A.cVi1 eX5_where_13 oX5_isPerson kX5_127 ko42 (sX5_isPerson (n := xp x) g1.2.1.1 (by omega) ?_)
    refine A.if_eqB eX5_where_16 (fun yw_p => ?_) (fun yw_p => ?_)
    · refine A.bipush (v := -2) eX5_where_33 (by decide) ?_
      refine B.iret eX5_where_35 ?_
      simp only [if_neg (show ¬ (ck h 24 ∧ ck p (xp x)) from fun z => yw_p z.2)] at hQ
      exact hQ τ g1.1 g2
    · simp only [if_pos (show ck h 24 ∧ ck p (xp x) from ⟨yw_h, yw_p⟩)] at hQ
      obtain ⟨h, bh, rfl⟩ := i_nat yw_h.1 yw_h.2
      obtain ⟨p, bp, rfl⟩ := i_nat yw_p.1 yw_p.2
      try simp only [nI_clamp (n := h) (by omega), nI_clamp (n := p) (by omega)] at hQ
      refine A.al0 eX5_where_19 ?_
      refine A.getR eX5_where_20 fX5_37 ko42 kr42_12 ?_
      refine A.bipush (v := nI 8) eX5_where_23 (by decide) ?_
      refine A.il1 eX5_where_25 ?_
      refine A.imulN eX5_where_26 ?_
      refine A.il2 eX5_where_27 ?_
      refine A.iaddN eX5_where_28 ?_
      refine A.ialdN eX5_where_29 ka52 ?_
      refine A.top ((g1.2.2.2 h bh).1 p bp).1 ?_
      refine A.goto eX5_where_30 ?_
      refine B.iret eX5_where_35 ?_
      exact hQ τ g1.1 g2
set_option maxRecDepth 100000 in
set_option maxHeartbeats 4000000 in
theorem aX5_bright {G : GW} {σ : St} {K : Int32 → St → Prop} {x : XS} {h p : Int32} (hM : MI x σ) (hQ : ∀ τ : St, MI (x) τ → Fm σ τ → K (Rbright x h p) τ) : Ci G (r0 5 115) mX5_bright [rf G 42, .int h, .int p] σ K := by
  refine Ci.of [some (rf G 42), some (.int h), some (.int p)] ?_
  unfold Rbright at hQ
  have n8 := hM.np8
  have q6 := hM.nq6
  refine A.al0 eX5_bright_0 ?_
  refine A.cVv0 eX5_bright_1 oX5_find kX5_175 ko42 (sX5_find hM (fun τ g1 g2 => ?_))
  refine A.il1 eX5_bright_4 ?_
  refine A.cSi1 eX5_bright_5 oX5_isHour kX5_133 (sX5_isHour ?_)
  refine A.if_eqB eX5_bright_8 (fun yw_h => ?_) (fun yw_h => ?_)
  · refine A.bipush (v := -2) eX5_bright_33 (by decide) ?_
    refine B.iret eX5_bright_35 ?_
    simp only [if_neg (show ¬ (ck h 24 ∧ ck p (xp x)) from fun z => yw_h z.1)] at hQ
    exact hQ τ g1.1 g2
  · refine A.al0 eX5_bright_11 ?_
    refine A.il2 eX5_bright_12 ?_
    refine A.cVi1 eX5_bright_13 oX5_isPerson kX5_127 ko42 (sX5_isPerson (n := xp x) g1.2.1.1 (by omega) ?_)
    refine A.if_eqB eX5_bright_16 (fun yw_p => ?_) (fun yw_p => ?_)
    · refine A.bipush (v := -2) eX5_bright_33 (by decide) ?_
      refine B.iret eX5_bright_35 ?_
      simp only [if_neg (show ¬ (ck h 24 ∧ ck p (xp x)) from fun z => yw_p z.2)] at hQ
      exact hQ τ g1.1 g2
    · simp only [if_pos (show ck h 24 ∧ ck p (xp x) from ⟨yw_h, yw_p⟩)] at hQ
      obtain ⟨h, bh, rfl⟩ := i_nat yw_h.1 yw_h.2
      obtain ⟨p, bp, rfl⟩ := i_nat yw_p.1 yw_p.2
      try simp only [nI_clamp (n := h) (by omega), nI_clamp (n := p) (by omega)] at hQ
      refine A.al0 eX5_bright_19 ?_
      refine A.getR eX5_bright_20 fX5_40 ko42 kr42_13 ?_
      refine A.bipush (v := nI 8) eX5_bright_23 (by decide) ?_
      refine A.il1 eX5_bright_25 ?_
      refine A.imulN eX5_bright_26 ?_
      refine A.il2 eX5_bright_27 ?_
      refine A.iaddN eX5_bright_28 ?_
      refine A.ialdN eX5_bright_29 ka53 ?_
      refine A.top ((g1.2.2.2 h bh).1 p bp).2.1 ?_
      refine A.goto eX5_bright_30 ?_
      refine B.iret eX5_bright_35 ?_
      exact hQ τ g1.1 g2
set_option maxRecDepth 100000 in
set_option maxHeartbeats 4000000 in
theorem aX5_crowd {G : GW} {σ : St} {K : Int32 → St → Prop} {x : XS} {h q : Int32} (hM : MI x σ) (hQ : ∀ τ : St, MI (x) τ → Fm σ τ → K (Rcrowd x h q) τ) : Ci G (r0 5 115) mX5_crowd [rf G 42, .int h, .int q] σ K := by
  refine Ci.of [some (rf G 42), some (.int h), some (.int q)] ?_
  unfold Rcrowd at hQ
  have n8 := hM.np8
  have q6 := hM.nq6
  refine A.al0 eX5_crowd_0 ?_
  refine A.cVv0 eX5_crowd_1 oX5_find kX5_175 ko42 (sX5_find hM (fun τ g1 g2 => ?_))
  refine A.il1 eX5_crowd_4 ?_
  refine A.cSi1 eX5_crowd_5 oX5_isHour kX5_133 (sX5_isHour ?_)
  refine A.if_eqB eX5_crowd_8 (fun yw_h => ?_) (fun yw_h => ?_)
  · refine A.bipush (v := -2) eX5_crowd_28 (by decide) ?_
    refine B.iret eX5_crowd_30 ?_
    simp only [if_neg (show ¬ (ck h 24 ∧ ck q (xq x)) from fun z => yw_h z.1)] at hQ
    exact hQ τ g1.1 g2
  · refine A.al0 eX5_crowd_11 ?_
    refine A.il2 eX5_crowd_12 ?_
    refine A.cVi1 eX5_crowd_13 oX5_isPlace kX5_130 ko42 (sX5_isPlace (n := xq x) g1.2.1.2.1 (by omega) ?_)
    refine A.if_eqB eX5_crowd_16 (fun yw_q => ?_) (fun yw_q => ?_)
    · refine A.bipush (v := -2) eX5_crowd_28 (by decide) ?_
      refine B.iret eX5_crowd_30 ?_
      simp only [if_neg (show ¬ (ck h 24 ∧ ck q (xq x)) from fun z => yw_q z.2)] at hQ
      exact hQ τ g1.1 g2
    · simp only [if_pos (show ck h 24 ∧ ck q (xq x) from ⟨yw_h, yw_q⟩)] at hQ
      obtain ⟨h, bh, rfl⟩ := i_nat yw_h.1 yw_h.2
      obtain ⟨q, bq, rfl⟩ := i_nat yw_q.1 yw_q.2
      try simp only [nI_clamp (n := h) (by omega), nI_clamp (n := q) (by omega)] at hQ
      refine A.al0 eX5_crowd_19 ?_
      refine A.il1 eX5_crowd_20 ?_
      refine A.il2 eX5_crowd_21 ?_
      refine A.cVi2 eX5_crowd_22 oX5_crowdOf kX5_178 ko42 (sX5_crowdOf (a := xa x h) g1.2.1.1 n8 bh (fun p hp => ((g1.2.2.2 h bh).1 p hp).1) ?_)
      refine A.goto eX5_crowd_25 ?_
      refine B.iret eX5_crowd_30 ?_
      exact hQ τ g1.1 g2
set_option maxRecDepth 100000 in
set_option maxHeartbeats 4000000 in
theorem aX5_sky {G : GW} {σ : St} {K : Int64 → St → Prop} {x : XS} {h q w : Int32} (hM : MI x σ) (hQ : ∀ τ : St, MI (x) τ → Fm σ τ → K (Rsky x h q w) τ) : Cl G (r0 5 115) mX5_sky [rf G 42, .int h, .int q, .int w] σ K := by
  refine Cl.of [some (rf G 42), some (.int h), some (.int q), some (.int w)] ?_
  unfold Rsky at hQ
  have n8 := hM.np8
  have q6 := hM.nq6
  refine A.al0 eX5_sky_0 ?_
  refine A.cVv0 eX5_sky_1 oX5_find kX5_175 ko42 (sX5_find hM (fun τ g1 g2 => ?_))
  refine A.il1 eX5_sky_4 ?_
  refine A.cSi1 eX5_sky_5 oX5_isHour kX5_133 (sX5_isHour ?_)
  refine A.if_eqB eX5_sky_8 (fun yw_h => ?_) (fun yw_h => ?_)
  · refine A.bipush (v := -2) eX5_sky_36 (by decide) ?_
    refine A.cSl1 eX5_sky_38 oX5_no kX5_181 (sX5_no ?_)
    refine B.lret eX5_sky_41 ?_
    simp only [if_neg (show ¬ (ck h 24 ∧ ck q (xq x) ∧ ck w 2) from fun z => yw_h z.1)] at hQ
    exact hQ τ g1.1 g2
  · refine A.al0 eX5_sky_11 ?_
    refine A.il2 eX5_sky_12 ?_
    refine A.cVi1 eX5_sky_13 oX5_isPlace kX5_130 ko42 (sX5_isPlace (n := xq x) g1.2.1.2.1 (by omega) ?_)
    refine A.if_eqB eX5_sky_16 (fun yw_q => ?_) (fun yw_q => ?_)
    · refine A.bipush (v := -2) eX5_sky_36 (by decide) ?_
      refine A.cSl1 eX5_sky_38 oX5_no kX5_181 (sX5_no ?_)
      refine B.lret eX5_sky_41 ?_
      simp only [if_neg (show ¬ (ck h 24 ∧ ck q (xq x) ∧ ck w 2) from fun z => yw_q z.2.1)] at hQ
      exact hQ τ g1.1 g2
    · refine A.il3 eX5_sky_19 ?_
      refine A.cSi1 eX5_sky_20 oX5_isTwo kX5_96 (sX5_isTwo ?_)
      refine A.if_eqB eX5_sky_23 (fun yw_w => ?_) (fun yw_w => ?_)
      · refine A.bipush (v := -2) eX5_sky_36 (by decide) ?_
        refine A.cSl1 eX5_sky_38 oX5_no kX5_181 (sX5_no ?_)
        refine B.lret eX5_sky_41 ?_
        simp only [if_neg (show ¬ (ck h 24 ∧ ck q (xq x) ∧ ck w 2) from fun z => yw_w z.2.2)] at hQ
        exact hQ τ g1.1 g2
      · simp only [if_pos (show ck h 24 ∧ ck q (xq x) ∧ ck w 2 from ⟨yw_h, yw_q, yw_w⟩)] at hQ
        obtain ⟨h, bh, rfl⟩ := i_nat yw_h.1 yw_h.2
        obtain ⟨q, bq, rfl⟩ := i_nat yw_q.1 yw_q.2
        obtain ⟨w, bw, rfl⟩ := i_nat yw_w.1 yw_w.2
        try simp only [nI_clamp (n := h) (by omega), nI_clamp (n := q) (by omega), nI_clamp (n := w) (by omega)] at hQ
        refine A.al0 eX5_sky_26 ?_
        refine A.il1 eX5_sky_27 ?_
        refine A.il2 eX5_sky_28 ?_
        refine A.il3 eX5_sky_29 ?_
        refine A.cVl3 eX5_sky_30 oX5_skyOf kX5_195 ko42 (sX5_skyOf g1 bh bw ?_)
        refine A.goto eX5_sky_33 ?_
        refine B.lret eX5_sky_41 ?_
        exact hQ τ g1.1 g2
set_option maxRecDepth 100000 in
set_option maxHeartbeats 4000000 in
theorem aX5_met {G : GW} {σ : St} {K : Int32 → St → Prop} {x : XS} {h : Int32} (hM : MI x σ) (hQ : ∀ τ : St, MI (x) τ → Fm σ τ → K (Rmet x h) τ) : Ci G (r0 5 115) mX5_met [rf G 42, .int h] σ K := by
  refine Ci.of [some (rf G 42), some (.int h)] ?_
  unfold Rmet at hQ
  have n8 := hM.np8
  have q6 := hM.nq6
  refine A.al0 eX5_met_0 ?_
  refine A.cVv0 eX5_met_1 oX5_find kX5_175 ko42 (sX5_find hM (fun τ g1 g2 => ?_))
  refine A.il1 eX5_met_4 ?_
  refine A.cSi1 eX5_met_5 oX5_isHour kX5_133 (sX5_isHour ?_)
  refine A.if_eqB eX5_met_8 (fun yw_h => ?_) (fun yw_h => ?_)
  · refine A.bipush (v := -2) eX5_met_19 (by decide) ?_
    refine B.iret eX5_met_21 ?_
    simp only [if_neg (show ¬ (ck h 24) from fun z => yw_h z)] at hQ
    exact hQ τ g1.1 g2
  · simp only [if_pos (show ck h 24 from yw_h)] at hQ
    obtain ⟨h, bh, rfl⟩ := i_nat yw_h.1 yw_h.2
    try simp only [nI_clamp (n := h) (by omega)] at hQ
    refine A.al0 eX5_met_11 ?_
    refine A.il1 eX5_met_12 ?_
    refine A.cVi1 eX5_met_13 oX5_metIn kX5_202 ko42 (sX5_metIn g1 bh ?_)
    refine A.goto eX5_met_16 ?_
    refine B.iret eX5_met_21 ?_
    exact hQ τ g1.1 g2
set_option maxRecDepth 100000 in
set_option maxHeartbeats 4000000 in
theorem aX5_spoilt {G : GW} {σ : St} {K : Int32 → St → Prop} {x : XS} {q : Int32} (hM : MI x σ) (hQ : ∀ τ : St, MI (x) τ → Fm σ τ → K (Rspoilt x q) τ) : Ci G (r0 5 115) mX5_spoilt [rf G 42, .int q] σ K := by
  refine Ci.of [some (rf G 42), some (.int q)] ?_
  unfold Rspoilt at hQ
  have n8 := hM.np8
  have q6 := hM.nq6
  refine A.al0 eX5_spoilt_0 ?_
  refine A.cVv0 eX5_spoilt_1 oX5_find kX5_175 ko42 (sX5_find hM (fun τ g1 g2 => ?_))
  refine A.al0 eX5_spoilt_4 ?_
  refine A.il1 eX5_spoilt_5 ?_
  refine A.cVi1 eX5_spoilt_6 oX5_isPlace kX5_130 ko42 (sX5_isPlace (n := xq x) g1.2.1.2.1 (by omega) ?_)
  refine A.if_eqB eX5_spoilt_9 (fun yw_q => ?_) (fun yw_q => ?_)
  · refine A.bipush (v := -2) eX5_spoilt_20 (by decide) ?_
    refine B.iret eX5_spoilt_22 ?_
    simp only [if_neg (show ¬ (ck q (xq x)) from fun z => yw_q z)] at hQ
    exact hQ τ g1.1 g2
  · simp only [if_pos (show ck q (xq x) from yw_q)] at hQ
    obtain ⟨q, bq, rfl⟩ := i_nat yw_q.1 yw_q.2
    try simp only [nI_clamp (n := q) (by omega)] at hQ
    refine A.al0 eX5_spoilt_12 ?_
    refine A.il1 eX5_spoilt_13 ?_
    refine A.cVi1 eX5_spoilt_14 oX5_spoiltOf kX5_205 ko42 (sX5_spoiltOf g1 bq ?_)
    refine A.goto eX5_spoilt_17 ?_
    refine B.iret eX5_spoilt_22 ?_
    exact hQ τ g1.1 g2
