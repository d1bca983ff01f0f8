theorem FM.r2 {x : XS} {σ ρ : St} (h : FM x σ) (ar : ∀ k, k ≠ 56 → k ≠ 57 → ρ.1 k = σ.1 k) : FM x ρ ∧ Fq (xg x).1 σ ρ := by
  have hq : Fq (xg x).1 σ ρ := by
    refine ⟨fun k hk => ar k (by omega) (by omega), fun k hk => ?_, fun j _ => by rw [ar 42 (by omega) (by omega)], fun j _ => by rw [ar 51 (by omega) (by omega)]⟩
    simp only [List.mem_cons, List.not_mem_nil, or_false] at hk
    exact ar k (by omega) (by omega)
  refine ⟨FM.mv h hq (RX.cg (ar 49 (by omega) (by omega)) (ar 50 (by omega) (by omega)) h.2.1) (fun p hp => by rw [ar 54 (by omega) (by omega)]; exact h.2.2.1 p hp) (fun g hg => ?_), hq⟩
  unfold HM
  rw [ar 52 (by omega) (by omega), ar 53 (by omega) (by omega), ar 55 (by omega) (by omega)]
  exact h.2.2.2 g hg
def rwA (x : XS) (h q w : Nat) : Nat := sea (crx x h q) (xr x h) w (nI 0) (xp x)
def rwB (x : XS) (h q w : Nat) : Nat := sea (crx x h q) (xr x h) w (nI 1) (xp x)
theorem row_pick {x : XS} {h q i k N : Nat} (n8 : xp x ≤ 8) (hb : ∀ p, p < xp x → xr x h p ≤ 9) (hi : i < N) (hr : ∀ w, w < N → rwA x h q w < xp x ∧ rwB x h q w < xp x) (hk : k < N) (he : ∀ w, w < k → rwA x h q w = rwB x h q w) : (rwB x h q k < rwA x h q k → Vrow x h q i = nI (rwB x h q i)) ∧ (¬ rwB x h q k < rwA x h q k → Vrow x h q i = nI (rwA x h q i)) := by
  have h0 := hr 0 (by omega)
  have hii := hr i hi
  have vA : seaI (crx x h q) (xr x h) 0 (nI 0) (xp x) = nI (rwA x h q 0) := if_pos h0.1
  have vB : seaI (crx x h q) (xr x h) 0 (nI 1) (xp x) = nI (rwB x h q 0) := if_pos h0.2
  have wA : seaI (crx x h q) (xr x h) i (nI 0) (xp x) = nI (rwA x h q i) := if_pos hii.1
  have wB : seaI (crx x h q) (xr x h) i (nI 1) (xp x) = nI (rwB x h q i) := if_pos hii.2
  have hf : rowf x h q = if rwB x h q 0 < rwA x h q 0 then nI 1 else nI 0 := by
    unfold rowf
    rw [vA, vB, nI_ti (by omega), nI_ti (by omega)]
    by_cases z : rwB x h q 0 < rwA x h q 0
    · rw [if_pos z, if_pos (by omega)]
    · rw [if_neg z, if_neg (by omega)]
  unfold Vrow
  rw [hf]
  by_cases e0 : rwA x h q 0 = rwB x h q 0
  · have hs : ∀ w, rwB x h q w = rwA x h q w := sea_same n8 hb h0.1 e0
    rw [if_neg (by omega), wA]
    exact ⟨fun _ => by rw [hs i], fun _ => rfl⟩
  · have k0 : k = 0 := by
      rcases Nat.eq_zero_or_pos k with z | z
      · exact z
      · exact absurd (he 0 z) e0
    subst k0
    constructor
    · intro z; rw [if_pos z, wB]
    · intro z; rw [if_neg z, wA]
theorem row_none {x : XS} {h q i : Nat} (n8 : xp x ≤ 8) (hb : ∀ p, p < xp x → xr x h p ≤ 9) (hi : cnt (inb (crx x h q)) (xp x) ≤ i) : Vrow x h q i = -1 := by
  unfold Vrow rowf
  split
  · exact if_neg (sea_none (f := true) n8 hb hi)
  · exact if_neg (sea_none (f := false) n8 hb hi)
set_option maxRecDepth 100000 in
set_option maxHeartbeats 4000000 in
theorem sX5_rowOfN {G : GW} {σ : St} {K : Int32 → St → Prop} {x : XS} {h q : Nat} (hF : FM x σ) (bh : h < 24) (hQ : ∀ τ : St, FM x τ → Fq (xg x).1 σ τ → K (VrowN x h q) τ) : Ci G (r0 2 51) mX5_rowOf [rf G 42, .int (nI h), .int (nI q), .int (-1)] σ K := by
  refine Ci.of [some (rf G 42), some (.int (nI h)), some (.int (nI q)), some (.int (-1)), none, none, none] ?_
  have n8 := hF.np8
  have q6 := hF.nq6
  refine A.al0 eX5_rowOf_0 ?_
  refine A.il1 eX5_rowOf_1 ?_
  refine A.il2 eX5_rowOf_2 ?_
  refine A.cVi2 eX5_rowOf_3 oX5_crowdOf kX5_178 ko42 (sX5_crowdOf (a := xa x h) hF.2.1.1 n8 bh (fun p hp => ((hF.2.2.2 h bh).1 p hp).1) ?_)
  refine A.top (show _ = nI (crx x h q) from rfl) ?_
  have hc8 : crx x h q < 256 := crx_lt n8
  have hm2 : crx x h q < 2 ^ xp x := bits_lt _ _
  have hx9 : ∀ p, p < xp x → xr x h p ≤ 9 := fun p hp => ((hF.2.2.2 h bh).1 p hp).2.2
  refine A.is4 eX5_rowOf_6 ?_
  refine A.al0 eX5_rowOf_8 ?_
  refine A.il1 eX5_rowOf_9 ?_
  refine A.il4 eX5_rowOf_10 ?_
  refine A.al0 eX5_rowOf_12 ?_
  refine A.getR eX5_rowOf_13 fX5_49 ko42 kr42_16 ?_
  refine A.iconst (v := nI 1) eX5_rowOf_16 (by decide) ?_
  refine A.top (show nI 1 = zI 1 from rfl) ?_
  refine A.cVi4 eX5_rowOf_17 oX5_sorts kX5_223 ko42 (sX5_sortsA (np := xp x) (a := xa x h) (b := xr x h) hF.2.1.1 n8 bh (hF.2.2.2 h bh).1 hm2 (fun τ a1 a2 a3 => ?_))
  refine A.is5 eX5_rowOf_20 ?_
  refine A.al0 eX5_rowOf_22 ?_
  refine A.il1 eX5_rowOf_23 ?_
  refine A.il4 eX5_rowOf_24 ?_
  refine A.al0 eX5_rowOf_26 ?_
  refine A.getR eX5_rowOf_27 fX5_52 ko42 kr42_17 ?_
  refine A.iconst (v := -1) eX5_rowOf_30 (by decide) ?_
  refine A.top (show (-1 : Int32) = zI (-1) from rfl) ?_
  refine A.cVi4 eX5_rowOf_31 oX5_sorts kX5_223 ko42 (sX5_sortsB (np := xp x) (a := xa x h) (b := xr x h) (by rw [a1 49 (by omega)]; exact hF.2.1.1) n8 bh (fun p hp => by rw [a1 52 (by omega), a1 53 (by omega)]; exact (hF.2.2.2 h bh).1 p hp) hm2 (fun ρ b1 b2 b3 => ?_))
  have ar := FM.r2 hF (fun k p q => (b1 k q).trans (a1 k p))
  have ra0 : ∀ w, w < cnt (inb (crx x h q)) (xp x) → ρ.1 56 w = nI (rwA x h q w) ∧ rwA x h q w < xp x := fun w hw => by rw [b1 56 (by omega)]; exact a3 w hw
  have ra1 : ∀ w, w < cnt (inb (crx x h q)) (xp x) → ρ.1 57 w = nI (rwB x h q w) ∧ rwB x h q w < xp x := b3
  have hcn := cnt_le (inb (crx x h q)) (xp x)
  have rb : ∀ p, p < xp x → ρ.1 53 (8 * h + p) = nI (xr x h p) := fun p hp => ((ar.1.2.2.2 h bh).1 p hp).2.1
  refine A.pop eX5_rowOf_34 rfl ?_
  refine A.il3 eX5_rowOf_35 ?_
  refine A.iconst (v := -1) eX5_rowOf_36 (by decide) ?_
  refine A.icmp_ne eX5_rowOf_37 (fun yw1 => ?_) (fun yw1 => ?_)
  · exact absurd rfl yw1
  · refine A.il5 eX5_rowOf_40 ?_
    refine A.if_neN eX5_rowOf_42 (fun yd1 => ?_) (fun yd1 => ?_)
    · have q1 := ra0 0 (by omega)
      have q2 := ra1 0 (by omega)
      refine A.al0 eX5_rowOf_49 ?_
      refine A.getR eX5_rowOf_50 fX5_40 ko42 kr42_13 ?_
      refine A.bipush (v := nI 8) eX5_rowOf_53 (by decide) ?_
      refine A.il1 eX5_rowOf_55 ?_
      refine A.imulN eX5_rowOf_56 ?_
      refine A.al0 eX5_rowOf_57 ?_
      refine A.getR eX5_rowOf_58 fX5_52 ko42 kr42_17 ?_
      refine A.iconst (v := nI 0) eX5_rowOf_61 (by decide) ?_
      refine A.ialdN eX5_rowOf_62 ka57 ?_
      refine A.top q2.1 ?_
      refine A.iaddN eX5_rowOf_63 ?_
      refine A.ialdN eX5_rowOf_64 ka53 ?_
      refine A.top (rb _ q2.2) ?_
      refine A.al0 eX5_rowOf_65 ?_
      refine A.getR eX5_rowOf_66 fX5_40 ko42 kr42_13 ?_
      refine A.bipush (v := nI 8) eX5_rowOf_69 (by decide) ?_
      refine A.il1 eX5_rowOf_71 ?_
      refine A.imulN eX5_rowOf_72 ?_
      refine A.al0 eX5_rowOf_73 ?_
      refine A.getR eX5_rowOf_74 fX5_49 ko42 kr42_16 ?_
      refine A.iconst (v := nI 0) eX5_rowOf_77 (by decide) ?_
      refine A.ialdN eX5_rowOf_78 ka56 ?_
      refine A.top q1.1 ?_
      refine A.iaddN eX5_rowOf_79 ?_
      refine A.ialdN eX5_rowOf_80 ka53 ?_
      refine A.top (rb _ q1.2) ?_
      refine A.isub eX5_rowOf_81 ?_
      refine B.iret eX5_rowOf_82 ?_
      refine vl_of (hQ ρ ar.1 ar.2) ?_
      unfold VrowN
      rw [if_pos ⟨q1.2, q2.2⟩]
      rfl
    · refine A.iconst (v := nI 0) eX5_rowOf_45 (by decide) ?_
      refine A.goto eX5_rowOf_46 ?_
      refine B.iret eX5_rowOf_82 ?_
      refine vl_of (hQ ρ ar.1 ar.2) ?_
      unfold VrowN
      rw [if_neg (fun z => sea_none (f := false) n8 hx9 (Nat.le_of_eq yd1) z.1)]
set_option maxRecDepth 100000 in
set_option maxHeartbeats 4000000 in
theorem sX5_rowOfI {G : GW} {σ : St} {K : Int32 → St → Prop} {x : XS} {h q i : Nat} (hF : FM x σ) (bh : h < 24) (bi : i < 8) (hQ : ∀ τ : St, FM x τ → Fq (xg x).1 σ τ → K (Vrow x h q i) τ) : Ci G (r0 2 51) mX5_rowOf [rf G 42, .int (nI h), .int (nI q), .int (nI i)] σ K := by
  refine Ci.of [some (rf G 42), some (.int (nI h)), some (.int (nI q)), some (.int (nI i)), none, none, none] ?_
  have n8 := hF.np8
  have q6 := hF.nq6
  refine A.al0 eX5_rowOf_0 ?_
  refine A.il1 eX5_rowOf_1 ?_
  refine A.il2 eX5_rowOf_2 ?_
  refine A.cVi2 eX5_rowOf_3 oX5_crowdOf kX5_178 ko42 (sX5_crowdOf (a := xa x h) hF.2.1.1 n8 bh (fun p hp => ((hF.2.2.2 h bh).1 p hp).1) ?_)
  refine A.top (show _ = nI (crx x h q) from rfl) ?_
  have hc8 : crx x h q < 256 := crx_lt n8
  have hm2 : crx x h q < 2 ^ xp x := bits_lt _ _
  have hx9 : ∀ p, p < xp x → xr x h p ≤ 9 := fun p hp => ((hF.2.2.2 h bh).1 p hp).2.2
  refine A.is4 eX5_rowOf_6 ?_
  refine A.al0 eX5_rowOf_8 ?_
  refine A.il1 eX5_rowOf_9 ?_
  refine A.il4 eX5_rowOf_10 ?_
  refine A.al0 eX5_rowOf_12 ?_
  refine A.getR eX5_rowOf_13 fX5_49 ko42 kr42_16 ?_
  refine A.iconst (v := nI 1) eX5_rowOf_16 (by decide) ?_
  refine A.top (show nI 1 = zI 1 from rfl) ?_
  refine A.cVi4 eX5_rowOf_17 oX5_sorts kX5_223 ko42 (sX5_sortsA (np := xp x) (a := xa x h) (b := xr x h) hF.2.1.1 n8 bh (hF.2.2.2 h bh).1 hm2 (fun τ a1 a2 a3 => ?_))
  refine A.is5 eX5_rowOf_20 ?_
  refine A.al0 eX5_rowOf_22 ?_
  refine A.il1 eX5_rowOf_23 ?_
  refine A.il4 eX5_rowOf_24 ?_
  refine A.al0 eX5_rowOf_26 ?_
  refine A.getR eX5_rowOf_27 fX5_52 ko42 kr42_17 ?_
  refine A.iconst (v := -1) eX5_rowOf_30 (by decide) ?_
  refine A.top (show (-1 : Int32) = zI (-1) from rfl) ?_
  refine A.cVi4 eX5_rowOf_31 oX5_sorts kX5_223 ko42 (sX5_sortsB (np := xp x) (a := xa x h) (b := xr x h) (by rw [a1 49 (by omega)]; exact hF.2.1.1) n8 bh (fun p hp => by rw [a1 52 (by omega), a1 53 (by omega)]; exact (hF.2.2.2 h bh).1 p hp) hm2 (fun ρ b1 b2 b3 => ?_))
  have ar := FM.r2 hF (fun k p q => (b1 k q).trans (a1 k p))
  have ra0 : ∀ w, w < cnt (inb (crx x h q)) (xp x) → ρ.1 56 w = nI (rwA x h q w) ∧ rwA x h q w < xp x := fun w hw => by rw [b1 56 (by omega)]; exact a3 w hw
  have ra1 : ∀ w, w < cnt (inb (crx x h q)) (xp x) → ρ.1 57 w = nI (rwB x h q w) ∧ rwB x h q w < xp x := b3
  have hcn := cnt_le (inb (crx x h q)) (xp x)
  have rb : ∀ p, p < xp x → ρ.1 53 (8 * h + p) = nI (xr x h p) := fun p hp => ((ar.1.2.2.2 h bh).1 p hp).2.1
  refine A.pop eX5_rowOf_34 rfl ?_
  refine A.il3 eX5_rowOf_35 ?_
  refine A.iconst (v := -1) eX5_rowOf_36 (by decide) ?_
  refine A.icmp_ne eX5_rowOf_37 (fun yw1 => ?_) (fun yw1 => ?_)
  · refine A.iconst (v := nI 0) eX5_rowOf_83 (by decide) ?_
    refine A.is6 eX5_rowOf_84 ?_
    have lp : ∀ (fu k : Nat), (cnt (inb (crx x h q)) (xp x) - 1) - k < fu → k ≤ (cnt (inb (crx x h q)) (xp x) - 1) → (∀ w, w < k → rwA x h q w = rwB x h q w) → B G (r0 2 51) mX5_rowOf 86 [some (rf G 42), some (.int (nI h)), some (.int (nI q)), some (.int (nI i)), some (.int (nI (crx x h q))), some (.int (nI (cnt (inb (crx x h q)) (xp x)))), some (.int (nI k))] [] (ρ) (Pi K) := by
      intro fu
      induction fu with
      | zero => intro k  h1 h2; omega
      | succ fu ih =>
        intro k  h1 h2 e1
        refine A.il6 eX5_rowOf_86 ?_
        refine A.il5 eX5_rowOf_88 ?_
        refine A.iconst (v := nI 1) eX5_rowOf_90 (by decide) ?_
        refine A.topZ ?_
        refine A.topZ2 ?_
        refine A.isubZ eX5_rowOf_91 ?_
        refine A.topZ2 ?_
        refine A.icmp_geZ eX5_rowOf_92 (fun yd1 => ?_) (fun yd1 => ?_)
        · refine A.il3 eX5_rowOf_118 ?_
          refine A.il5 eX5_rowOf_119 ?_
          refine A.icmp_ltN eX5_rowOf_121 (fun yd3 => ?_) (fun yd3 => ?_)
          · have q1 := ra0 k (by omega)
            have q2 := ra1 k (by omega)
            have q3 := ra0 i (by omega)
            have q4 := ra1 i (by omega)
            have pk := row_pick (i := i) n8 hx9 yd3 (fun w hw => ⟨(ra0 w hw).2, (ra1 w hw).2⟩) (show k < cnt (inb (crx x h q)) (xp x) by omega) e1
            refine A.al0 eX5_rowOf_128 ?_
            refine A.getR eX5_rowOf_129 fX5_49 ko42 kr42_16 ?_
            refine A.il6 eX5_rowOf_132 ?_
            refine A.ialdN eX5_rowOf_134 ka56 ?_
            refine A.top q1.1 ?_
            refine A.al0 eX5_rowOf_135 ?_
            refine A.getR eX5_rowOf_136 fX5_52 ko42 kr42_17 ?_
            refine A.il6 eX5_rowOf_139 ?_
            refine A.ialdN eX5_rowOf_141 ka57 ?_
            refine A.top q2.1 ?_
            refine A.icmp_gtN eX5_rowOf_142 (fun yd4 => ?_) (fun yd4 => ?_)
            · refine A.al0 eX5_rowOf_154 ?_
              refine A.getR eX5_rowOf_155 fX5_52 ko42 kr42_17 ?_
              refine A.il3 eX5_rowOf_158 ?_
              refine A.ialdN eX5_rowOf_159 ka57 ?_
              refine A.top q4.1 ?_
              refine B.iret eX5_rowOf_160 ?_
              exact vl_of (hQ ρ ar.1 ar.2) (pk.1 (by omega)).symm
            · refine A.al0 eX5_rowOf_145 ?_
              refine A.getR eX5_rowOf_146 fX5_49 ko42 kr42_16 ?_
              refine A.il3 eX5_rowOf_149 ?_
              refine A.ialdN eX5_rowOf_150 ka56 ?_
              refine A.top q3.1 ?_
              refine A.goto eX5_rowOf_151 ?_
              refine B.iret eX5_rowOf_160 ?_
              exact vl_of (hQ ρ ar.1 ar.2) (pk.2 (by omega)).symm
          · refine A.iconst (v := -1) eX5_rowOf_124 (by decide) ?_
            refine A.goto eX5_rowOf_125 ?_
            refine B.iret eX5_rowOf_160 ?_
            exact vl_of (hQ ρ ar.1 ar.2) (row_none n8 hx9 (by omega)).symm
        · have q1 := ra0 k (by omega)
          have q2 := ra1 k (by omega)
          refine A.al0 eX5_rowOf_95 ?_
          refine A.getR eX5_rowOf_96 fX5_49 ko42 kr42_16 ?_
          refine A.il6 eX5_rowOf_99 ?_
          refine A.ialdN eX5_rowOf_101 ka56 ?_
          refine A.top q1.1 ?_
          refine A.al0 eX5_rowOf_102 ?_
          refine A.getR eX5_rowOf_103 fX5_52 ko42 kr42_17 ?_
          refine A.il6 eX5_rowOf_106 ?_
          refine A.ialdN eX5_rowOf_108 ka57 ?_
          refine A.top q2.1 ?_
          refine A.icmp_neN eX5_rowOf_109 (fun yd2 => ?_) (fun yd2 => ?_)
          · refine A.il3 eX5_rowOf_118 ?_
            refine A.il5 eX5_rowOf_119 ?_
            refine A.icmp_ltN eX5_rowOf_121 (fun yd3 => ?_) (fun yd3 => ?_)
            · have q1 := ra0 k (by omega)
              have q2 := ra1 k (by omega)
              have q3 := ra0 i (by omega)
              have q4 := ra1 i (by omega)
              have pk := row_pick (i := i) n8 hx9 yd3 (fun w hw => ⟨(ra0 w hw).2, (ra1 w hw).2⟩) (show k < cnt (inb (crx x h q)) (xp x) by omega) e1
              refine A.al0 eX5_rowOf_128 ?_
              refine A.getR eX5_rowOf_129 fX5_49 ko42 kr42_16 ?_
              refine A.il6 eX5_rowOf_132 ?_
              refine A.ialdN eX5_rowOf_134 ka56 ?_
              refine A.top q1.1 ?_
              refine A.al0 eX5_rowOf_135 ?_
              refine A.getR eX5_rowOf_136 fX5_52 ko42 kr42_17 ?_
              refine A.il6 eX5_rowOf_139 ?_
              refine A.ialdN eX5_rowOf_141 ka57 ?_
              refine A.top q2.1 ?_
              refine A.icmp_gtN eX5_rowOf_142 (fun yd4 => ?_) (fun yd4 => ?_)
              · refine A.al0 eX5_rowOf_154 ?_
                refine A.getR eX5_rowOf_155 fX5_52 ko42 kr42_17 ?_
                refine A.il3 eX5_rowOf_158 ?_
                refine A.ialdN eX5_rowOf_159 ka57 ?_
                refine A.top q4.1 ?_
                refine B.iret eX5_rowOf_160 ?_
                exact vl_of (hQ ρ ar.1 ar.2) (pk.1 (by omega)).symm
              · refine A.al0 eX5_rowOf_145 ?_
                refine A.getR eX5_rowOf_146 fX5_49 ko42 kr42_16 ?_
                refine A.il3 eX5_rowOf_149 ?_
                refine A.ialdN eX5_rowOf_150 ka56 ?_
                refine A.top q3.1 ?_
                refine A.goto eX5_rowOf_151 ?_
                refine B.iret eX5_rowOf_160 ?_
                exact vl_of (hQ ρ ar.1 ar.2) (pk.2 (by omega)).symm
            · refine A.iconst (v := -1) eX5_rowOf_124 (by decide) ?_
              refine A.goto eX5_rowOf_125 ?_
              refine B.iret eX5_rowOf_160 ?_
              exact vl_of (hQ ρ ar.1 ar.2) (row_none n8 hx9 (by omega)).symm
          · refine A.inc6N eX5_rowOf_112 ?_
            refine A.goto eX5_rowOf_115 ?_
            refine ih (k + 1) (by omega) (by omega) (fun w hw => ?_)
            rcases Nat.lt_or_ge w k with z | z
            · exact e1 w z
            · rw [show w = k by omega]; exact yd2
    exact lp (cnt (inb (crx x h q)) (xp x) - 1 + 1) 0 (by omega) (by omega) (fun w hw => by omega)
  · exact absurd yw1 (nI_nm1 (by omega))
