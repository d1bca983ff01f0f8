theorem seaI_ne {m w np : Nat} {b : Nat → Nat} {f : Int32} (h : ¬ seaI m b w f np = -1) : sea m b w f np < np ∧ seaI m b w f np = nI (sea m b w f np) := by
  unfold seaI at h ⊢
  split at h
  · next e => exact ⟨e, if_pos e⟩
  · exact absurd rfl h
theorem seaI_m1 {m w np : Nat} {b : Nat → Nat} {f : Int32} (n8 : np ≤ 8) (h : seaI m b w f np = -1) : ¬ sea m b w f np < np := by
  unfold seaI at h
  split at h
  · next e => exact absurd h (nI_nm1 (by omega))
  · next e => exact e
def Rrow (x : XS) (h q i : Int32) : Int32 := if ck h 24 ∧ ck q (xq x) ∧ (i = -1 ∨ ck i 8) then (if i = -1 then VrowN x h.toNatClampNeg q.toNatClampNeg else Vrow x h.toNatClampNeg q.toNatClampNeg i.toNatClampNeg) else -2
set_option maxRecDepth 100000 in
set_option maxHeartbeats 4000000 in
theorem sX4_rowI {G : GW} {σ : St} {K : Int32 → St → Prop} {x : XS} {h q i : Nat} (hC : CI x σ) (bh : h < 24) (bq : q < xq x) (bi : i < 8) (hQ : ∀ τ : St, CI x τ → Fi 0 41 σ τ → K (Vrow x h q i) τ) : Ci G (r0 4 86) mX4_row [rf G 0, .int (nI h), .int (nI q), .int (nI i)] σ K := by
  refine Ci.of [some (rf G 0), some (.int (nI h)), some (.int (nI q)), some (.int (nI i)), none, none, none] ?_
  have n8 := hC.np8
  have q6 := hC.nq6
  refine A.il1 eX4_row_0 ?_
  refine A.cSi1 eX4_row_1 oX4_isHour kX4_134 (sX4_isHour  ?_)
  refine A.if_eqB eX4_row_4 (fun yh1 => ?_) (fun yh1 => ?_)
  · exact absurd ⟨by rw [nI_ti (by omega)]; omega, by rw [nI_ti (by omega)]; omega⟩ yh1
  · refine A.al0 eX4_row_7 ?_
    refine A.il2 eX4_row_8 ?_
    refine A.cVi1 eX4_row_9 oX4_isPlace kX4_98 ko0 (sX4_isPlace hC.nq hC.nq6 ?_)
    refine A.if_eqB eX4_row_12 (fun yh2 => ?_) (fun yh2 => ?_)
    · exact absurd ⟨by rw [nI_ti (by omega)]; omega, by rw [nI_ti (by omega)]; omega⟩ yh2
    · refine A.il3 eX4_row_15 ?_
      refine A.iconst (v := -1) eX4_row_16 (by decide) ?_
      refine A.icmp_eq eX4_row_17 (fun yh3 => ?_) (fun yh3 => ?_)
      · exact absurd yh3 (nI_nm1 (by omega))
      · refine A.il3 eX4_row_20 ?_
        refine A.bipush (v := nI 8) eX4_row_21 (by decide) ?_
        refine A.cSi2 eX4_row_23 oX4_isBelow kX4_67 (sX4_isBelowIN (b := 8) (by omega) ?_)
        refine A.if_neB eX4_row_26 (fun yh4 => ?_) (fun yh4 => ?_)
        · refine A.al0 eX4_row_32 ?_
          refine A.cVa0 eX4_row_33 oX4_valley kX4_137 ko0 (sX4_valley hC (fun τ1 k11 k12 k13 => ?_))
          refine A.il1 eX4_row_36 ?_
          refine A.il2 eX4_row_37 ?_
          refine A.cVi2 eX4_row_38 oX3_crowdAt kX4_148 ko30 (sX3_crowdAt (v := 30) (Or.inl rfl) bh k11.np n8 (k12 h bh) ?_)
          refine A.top (show nI (bits (fun p => decide (xa x h p = nI q)) (xp x)) = nI (crx x h q) from rfl) ?_
          have hc8 : crx x h q < 256 := crx_lt n8
          refine A.is4 eX4_row_41 ?_
          refine A.al0 eX4_row_43 ?_
          refine A.cVa0 eX4_row_44 oX4_valley kX4_137 ko0 (sX4_valley k11 (fun τ2 k21 k22 k23 => ?_))
          refine A.il1 eX4_row_47 ?_
          refine A.il4 eX4_row_48 ?_
          refine A.iconst (v := nI 0) eX4_row_50 (by decide) ?_
          refine A.iconst (v := nI 0) eX4_row_51 (by decide) ?_
          refine A.cVi4 eX4_row_52 oX3_seated kX4_191 ko30 (sX3_seated (v := 30) (Or.inl rfl) bh k21.np n8 (k22 h bh) hc8 (by omega) ?_)
          refine A.top (show _ = seaI (crx x h q) (xr x h) 0 (nI 0) (xp x) from rfl) ?_
          refine A.is5 eX4_row_55 ?_
          refine A.al0 eX4_row_57 ?_
          refine A.cVa0 eX4_row_58 oX4_valley kX4_137 ko0 (sX4_valley k21 (fun τ3 k31 k32 k33 => ?_))
          refine A.il1 eX4_row_61 ?_
          refine A.il4 eX4_row_62 ?_
          refine A.iconst (v := nI 0) eX4_row_64 (by decide) ?_
          refine A.iconst (v := nI 1) eX4_row_65 (by decide) ?_
          refine A.cVi4 eX4_row_66 oX3_seated kX4_191 ko30 (sX3_seated (v := 30) (Or.inl rfl) bh k31.np n8 (k32 h bh) hc8 (by omega) ?_)
          refine A.top (show _ = seaI (crx x h q) (xr x h) 0 (nI 1) (xp x) from rfl) ?_
          refine A.is6 eX4_row_69 ?_
          refine A.il3 eX4_row_71 ?_
          refine A.iconst (v := -1) eX4_row_72 (by decide) ?_
          refine A.icmp_eq eX4_row_73 (fun yh5 => ?_) (fun yh5 => ?_)
          · exact absurd yh5 (nI_nm1 (by omega))
          · refine A.al0 eX4_row_76 ?_
            refine A.cVa0 eX4_row_77 oX4_valley kX4_137 ko0 (sX4_valley k31 (fun τ4 k41 k42 k43 => ?_))
            refine A.il1 eX4_row_80 ?_
            refine A.il4 eX4_row_81 ?_
            refine A.il3 eX4_row_83 ?_
            refine A.il6 eX4_row_84 ?_
            refine A.il5 eX4_row_86 ?_
            refine A.icmp_geI eX4_row_88 (fun yh6 => ?_) (fun yh6 => ?_)
            · refine A.iconst (v := nI 0) eX4_row_95 (by decide) ?_
              refine A.cVi4 eX4_row_96 oX3_seated kX4_191 ko30 (sX3_seated (v := 30) (Or.inl rfl) bh k41.np n8 (k42 h bh) hc8 (by omega) ?_)
              refine B.iret eX4_row_99 ?_
              refine vl_of (hQ τ4 k41 (((k13.tr k23).tr k33).tr k43)) ?_
              unfold Vrow rowf
              first
                | (rw [if_pos yh6]; rfl)
                | (rw [if_neg (show ¬ (seaI (crx x h q) (xr x h) 0 (nI 1) (xp x)).toInt < (seaI (crx x h q) (xr x h) 0 (nI 0) (xp x)).toInt by omega)]; rfl)
            · refine A.iconst (v := nI 1) eX4_row_91 (by decide) ?_
              refine A.goto eX4_row_92 ?_
              refine A.cVi4 eX4_row_96 oX3_seated kX4_191 ko30 (sX3_seated (v := 30) (Or.inl rfl) bh k41.np n8 (k42 h bh) hc8 (by omega) ?_)
              refine B.iret eX4_row_99 ?_
              refine vl_of (hQ τ4 k41 (((k13.tr k23).tr k33).tr k43)) ?_
              unfold Vrow rowf
              first
                | (rw [if_pos yh6]; rfl)
                | (rw [if_neg (show ¬ (seaI (crx x h q) (xr x h) 0 (nI 1) (xp x)).toInt < (seaI (crx x h q) (xr x h) 0 (nI 0) (xp x)).toInt by omega)]; rfl)
        · exact absurd ⟨by rw [nI_ti (by omega)]; omega, by rw [nI_ti (by omega)]; omega⟩ yh4
set_option maxRecDepth 100000 in
set_option maxHeartbeats 4000000 in
theorem sX4_rowN {G : GW} {σ : St} {K : Int32 → St → Prop} {x : XS} {h q : Nat} (hC : CI x σ) (bh : h < 24) (bq : q < xq x) (hQ : ∀ τ : St, CI x τ → Fi 0 41 σ τ → K (VrowN x h q) τ) : Ci G (r0 4 86) mX4_row [rf G 0, .int (nI h), .int (nI q), .int (-1)] σ K := by
  refine Ci.of [some (rf G 0), some (.int (nI h)), some (.int (nI q)), some (.int (-1)), none, none, none] ?_
  have n8 := hC.np8
  have q6 := hC.nq6
  refine A.il1 eX4_row_0 ?_
  refine A.cSi1 eX4_row_1 oX4_isHour kX4_134 (sX4_isHour  ?_)
  refine A.if_eqB eX4_row_4 (fun yh1 => ?_) (fun yh1 => ?_)
  · exact absurd ⟨by rw [nI_ti (by omega)]; omega, by rw [nI_ti (by omega)]; omega⟩ yh1
  · refine A.al0 eX4_row_7 ?_
    refine A.il2 eX4_row_8 ?_
    refine A.cVi1 eX4_row_9 oX4_isPlace kX4_98 ko0 (sX4_isPlace hC.nq hC.nq6 ?_)
    refine A.if_eqB eX4_row_12 (fun yh2 => ?_) (fun yh2 => ?_)
    · exact absurd ⟨by rw [nI_ti (by omega)]; omega, by rw [nI_ti (by omega)]; omega⟩ yh2
    · refine A.il3 eX4_row_15 ?_
      refine A.iconst (v := -1) eX4_row_16 (by decide) ?_
      refine A.icmp_eq eX4_row_17 (fun yh3 => ?_) (fun yh3 => ?_)
      · refine A.al0 eX4_row_32 ?_
        refine A.cVa0 eX4_row_33 oX4_valley kX4_137 ko0 (sX4_valley hC (fun τ1 k11 k12 k13 => ?_))
        refine A.il1 eX4_row_36 ?_
        refine A.il2 eX4_row_37 ?_
        refine A.cVi2 eX4_row_38 oX3_crowdAt kX4_148 ko30 (sX3_crowdAt (v := 30) (Or.inl rfl) bh k11.np n8 (k12 h bh) ?_)
        refine A.top (show nI (bits (fun p => decide (xa x h p = nI q)) (xp x)) = nI (crx x h q) from rfl) ?_
        have hc8 : crx x h q < 256 := crx_lt n8
        refine A.is4 eX4_row_41 ?_
        refine A.al0 eX4_row_43 ?_
        refine A.cVa0 eX4_row_44 oX4_valley kX4_137 ko0 (sX4_valley k11 (fun τ2 k21 k22 k23 => ?_))
        refine A.il1 eX4_row_47 ?_
        refine A.il4 eX4_row_48 ?_
        refine A.iconst (v := nI 0) eX4_row_50 (by decide) ?_
        refine A.iconst (v := nI 0) eX4_row_51 (by decide) ?_
        refine A.cVi4 eX4_row_52 oX3_seated kX4_191 ko30 (sX3_seated (v := 30) (Or.inl rfl) bh k21.np n8 (k22 h bh) hc8 (by omega) ?_)
        refine A.top (show _ = seaI (crx x h q) (xr x h) 0 (nI 0) (xp x) from rfl) ?_
        refine A.is5 eX4_row_55 ?_
        refine A.al0 eX4_row_57 ?_
        refine A.cVa0 eX4_row_58 oX4_valley kX4_137 ko0 (sX4_valley k21 (fun τ3 k31 k32 k33 => ?_))
        refine A.il1 eX4_row_61 ?_
        refine A.il4 eX4_row_62 ?_
        refine A.iconst (v := nI 0) eX4_row_64 (by decide) ?_
        refine A.iconst (v := nI 1) eX4_row_65 (by decide) ?_
        refine A.cVi4 eX4_row_66 oX3_seated kX4_191 ko30 (sX3_seated (v := 30) (Or.inl rfl) bh k31.np n8 (k32 h bh) hc8 (by omega) ?_)
        refine A.top (show _ = seaI (crx x h q) (xr x h) 0 (nI 1) (xp x) from rfl) ?_
        refine A.is6 eX4_row_69 ?_
        refine A.il3 eX4_row_71 ?_
        refine A.iconst (v := -1) eX4_row_72 (by decide) ?_
        refine A.icmp_eq eX4_row_73 (fun yh5 => ?_) (fun yh5 => ?_)
        · refine A.il5 eX4_row_100 ?_
          refine A.iconst (v := -1) eX4_row_102 (by decide) ?_
          refine A.icmp_eq eX4_row_103 (fun yh6 => ?_) (fun yh6 => ?_)
          · refine A.iconst (v := nI 0) eX4_row_112 (by decide) ?_
            refine B.iret eX4_row_113 ?_
            refine vl_of (hQ τ3 k31 ((k13.tr k23).tr k33)) ?_
            unfold VrowN
            first
              | rw [if_neg (fun z => seaI_m1 n8 yh6 z.1)]
              | rw [if_neg (fun z => seaI_m1 n8 yh7 z.2)]
          · refine A.il6 eX4_row_106 ?_
            refine A.iconst (v := -1) eX4_row_108 (by decide) ?_
            refine A.icmp_ne eX4_row_109 (fun yh7 => ?_) (fun yh7 => ?_)
            · have s0 := seaI_ne yh6
              have s1 := seaI_ne yh7
              refine A.al0 eX4_row_114 ?_
              refine A.cVa0 eX4_row_115 oX4_valley kX4_137 ko0 (sX4_valley k31 (fun τ4 k41 k42 k43 => ?_))
              refine A.il1 eX4_row_118 ?_
              refine A.il6 eX4_row_119 ?_
              refine A.top s1.2 ?_
              refine A.cVi2 eX4_row_121 oX3_brightnessOf kX4_145 ko30 (sX3_brightnessOf (v := 30) (Or.inl rfl) bh (by omega) ?_)
              refine A.top (k42 h bh _ s1.1).2.1 ?_
              refine A.al0 eX4_row_124 ?_
              refine A.cVa0 eX4_row_125 oX4_valley kX4_137 ko0 (sX4_valley k41 (fun τ5 k51 k52 k53 => ?_))
              refine A.il1 eX4_row_128 ?_
              refine A.il5 eX4_row_129 ?_
              refine A.top s0.2 ?_
              refine A.cVi2 eX4_row_131 oX3_brightnessOf kX4_145 ko30 (sX3_brightnessOf (v := 30) (Or.inl rfl) bh (by omega) ?_)
              refine A.top (k52 h bh _ s0.1).2.1 ?_
              refine A.isub eX4_row_134 ?_
              refine B.iret eX4_row_135 ?_
              refine vl_of (hQ τ5 k51 ((((k13.tr k23).tr k33).tr k43).tr k53)) ?_
              unfold VrowN
              rw [if_pos ⟨s0.1, s1.1⟩]
            · refine A.iconst (v := nI 0) eX4_row_112 (by decide) ?_
              refine B.iret eX4_row_113 ?_
              refine vl_of (hQ τ3 k31 ((k13.tr k23).tr k33)) ?_
              unfold VrowN
              first
                | rw [if_neg (fun z => seaI_m1 n8 yh6 z.1)]
                | rw [if_neg (fun z => seaI_m1 n8 yh7 z.2)]
        · exact absurd rfl yh5
      · exact absurd rfl yh3
set_option maxRecDepth 100000 in
set_option maxHeartbeats 4000000 in
theorem bX4_row {G : GW} {σ : St} {K : Int32 → St → Prop} {x : XS} {h q i : Int32} (hC : CI x σ) (hb : ¬ (ck h 24 ∧ ck q (xq x) ∧ (i = -1 ∨ ck i 8))) (hQ : K (-2) σ) : Ci G (r0 4 86) mX4_row [rf G 0, .int h, .int q, .int i] σ K := by
  refine Ci.of [some (rf G 0), some (.int h), some (.int q), some (.int i), none, none, none] ?_
  have n8 := hC.np8
  have q6 := hC.nq6
  refine A.il1 eX4_row_0 ?_
  refine A.cSi1 eX4_row_1 oX4_isHour kX4_134 (sX4_isHour  ?_)
  refine A.if_eqB eX4_row_4 (fun yh1 => ?_) (fun yh1 => ?_)
  · refine A.bipush (v := -2) eX4_row_29 (by decide) ?_
    refine B.iret eX4_row_31 ?_
    exact hQ
  · refine A.al0 eX4_row_7 ?_
    refine A.il2 eX4_row_8 ?_
    refine A.cVi1 eX4_row_9 oX4_isPlace kX4_98 ko0 (sX4_isPlace hC.nq hC.nq6 ?_)
    refine A.if_eqB eX4_row_12 (fun yh2 => ?_) (fun yh2 => ?_)
    · refine A.bipush (v := -2) eX4_row_29 (by decide) ?_
      refine B.iret eX4_row_31 ?_
      exact hQ
    · refine A.il3 eX4_row_15 ?_
      refine A.iconst (v := -1) eX4_row_16 (by decide) ?_
      refine A.icmp_eq eX4_row_17 (fun yh3 => ?_) (fun yh3 => ?_)
      · exact absurd ⟨yh1, yh2, Or.inl yh3⟩ hb
      · refine A.il3 eX4_row_20 ?_
        refine A.bipush (v := nI 8) eX4_row_21 (by decide) ?_
        refine A.cSi2 eX4_row_23 oX4_isBelow kX4_67 (sX4_isBelowIN (b := 8) (by omega) ?_)
        refine A.if_neB eX4_row_26 (fun yh4 => ?_) (fun yh4 => ?_)
        · exact absurd ⟨yh1, yh2, Or.inr yh4⟩ hb
        · refine A.bipush (v := -2) eX4_row_29 (by decide) ?_
          refine B.iret eX4_row_31 ?_
          exact hQ
theorem aX4_row {G : GW} {σ : St} {K : Int32 → St → Prop} {x : XS} {h q i : Int32} (hC : CI x σ) (hQ : ∀ τ : St, CI x τ → Fi 0 41 σ τ → K (Rrow x h q i) τ) : Ci G (r0 4 86) mX4_row [rf G 0, .int h, .int q, .int i] σ K := by
  have n8 := hC.np8
  have q6 := hC.nq6
  by_cases hb : ck h 24 ∧ ck q (xq x) ∧ (i = -1 ∨ ck i 8)
  · have hR : Rrow x h q i = _ := if_pos hb
    rw [hR] at hQ
    obtain ⟨h, bh, rfl⟩ := i_nat hb.1.1 hb.1.2
    obtain ⟨q, bq, rfl⟩ := i_nat hb.2.1.1 hb.2.1.2
    rw [nI_clamp (n := h) (by omega), nI_clamp (n := q) (by omega)] at hQ
    by_cases hi : i = -1
    · rw [if_pos hi] at hQ
      subst hi
      exact sX4_rowN hC bh bq hQ
    · rw [if_neg hi] at hQ
      have hc := hb.2.2.resolve_left hi
      obtain ⟨i, bi, rfl⟩ := i_nat hc.1 hc.2
      rw [nI_clamp (n := i) (by omega)] at hQ
      exact sX4_rowI hC bh bq bi hQ
  · have hR : Rrow x h q i = _ := if_neg hb
    rw [hR] at hQ
    exact bX4_row hC hb (hQ σ hC (Fi.rf _ _ _))
set_option maxRecDepth 100000 in
set_option maxHeartbeats 4000000 in
theorem sX4_isMetBySending {G : GW} {σ : St} {K : Int32 → St → Prop} {x : XS} {m q h : Nat} (hC : CI x σ) (hm : m < 256) (bq : q < xq x) (bh : h < 24) (hQ : ∀ τ : St, Fi 36 41 σ τ → K (bI (sndx x m q h = true)) τ) : Ci G (r0 3 67) mX4_isMetBySending [rf G 0, .int (nI m), .int (nI q), .int (nI h)] σ K := by
  refine Ci.of [some (rf G 0), some (.int (nI m)), some (.int (nI q)), some (.int (nI h)), none] ?_
  have n8 := hC.np8
  have q6 := hC.nq6
  refine A.al0 eX4_isMetBySending_0 ?_
  refine A.getR eX4_isMetBySending_1 fX4_52 ko0 kr0_7 ?_
  refine A.il3 eX4_isMetBySending_4 ?_
  refine A.cVv1 eX4_isMetBySending_5 oX3_open kX4_198 ko36 (sX3_open (v := 36) (la := h) (Or.inr rfl) (by omega) hC.np n8 hC.go (fun τ a1 a2 a3 a4 => ?_))
  refine A.iconst (v := nI 0) eX4_isMetBySending_8 (by decide) ?_
  refine A.is4 eX4_isMetBySending_9 ?_
  have lp : ∀ (fu i : Nat) (ξ : St), xp x - i < fu → i ≤ xp x → Fi 36 41 σ ξ → ξ.1 36 8 = nI h → (∀ a p, a ≤ h → p < 8 → ξ.1 (36 + 1) (a * 8 + p) = if a = 0 ∧ p < i ∧ inb m p = true then nI q else xT x a p) → (∀ p, p < xp x → ξ.1 38 p = σ.1 3 p) → B G (r0 3 67) mX4_isMetBySending 11 [some (rf G 0), some (.int (nI m)), some (.int (nI q)), some (.int (nI h)), some (.int (nI i))] [] (ξ) (Pi K) := by
    intro fu
    induction fu with
    | zero => intro i ξ h1 h2; omega
    | succ fu ih =>
      intro i ξ h1 h2 e1 e2 e3 e4
      refine A.il4 eX4_isMetBySending_11 ?_
      refine A.al0 eX4_isMetBySending_13 ?_
      refine A.getR eX4_isMetBySending_14 fX4_14 ko0 kr0_0 ?_
      refine A.getI eX4_isMetBySending_17 fX4_167 ko1 ?_
      refine A.top (show ξ.1 1 5 = nI (xp x) by rw [e1.1 1 (by omega)]; exact hC.np) ?_
      refine A.icmp_geN eX4_isMetBySending_20 (fun c1 => ?_) (fun c1 => ?_)
      · refine A.al0 eX4_isMetBySending_50 ?_
        refine A.getR eX4_isMetBySending_51 fX4_52 ko0 kr0_7 ?_
        refine A.cVv0 eX4_isMetBySending_54 oX3_walk kX4_201 ko36 (sX3_walk (v := 36) (la := h) (nq := xq x) (Or.inr rfl) e2 (by omega) (by rw [e1.1 1 (by omega)]; exact hC.np) n8 (by rw [e1.1 5 (by omega)]; exact hC.nq) q6 (fun τ2 b1 b2 => ?_))
        have f1 : Fi 36 41 σ τ2 := e1.tr (b1.mo (by omega) (by omega))
        have ei : i = xp x := by omega
        refine A.al0 eX4_isMetBySending_57 ?_
        refine A.getR eX4_isMetBySending_58 fX4_52 ko0 kr0_7 ?_
        refine A.cVv0 eX4_isMetBySending_61 oX3_live kX4_207 ko36 (sX3_live (v := 36) (la := h) (nq := xq x) (a := aT x (sT x m q)) (b0 := xb x) (kd := xk x) (Or.inr rfl) (by rw [b1.1 36 (by omega)]; exact e2) (by omega) (by rw [f1.1 1 (by omega)]; exact hC.np) n8 (by rw [f1.1 5 (by omega)]; exact hC.nq) q6 (fun a p ha hp => by rw [b2 a p ha hp]; exact plf_eq (la := h) (np := xp x) (fun a p ha hp => (e3 a p ha (by omega)).trans (by rw [ei]; rfl)) ha hp) (fun h _ => plf_PA) (fun p hp => ⟨by rw [b1.1 38 (by omega), e4 p hp]; exact (hC.b p hp).1, (hC.b p hp).2⟩) (fun p hp => ⟨by rw [f1.1 4 (by omega)]; exact (hC.k p hp).1, (hC.k p hp).2⟩) (fun τ3 d1 d2 => ?_))
        have f2 : Fi 36 41 σ τ3 := f1.tr (d1.mo (by omega) (by omega))
        refine A.al0 eX4_isMetBySending_64 ?_
        refine A.getR eX4_isMetBySending_65 fX4_52 ko0 kr0_7 ?_
        refine A.il3 eX4_isMetBySending_68 ?_
        refine A.il2 eX4_isMetBySending_69 ?_
        refine A.cVi2 eX4_isMetBySending_70 oX3_isMet kX4_170 ko36 (sX3_isMet (v := 36) (Or.inr rfl) bh (by rw [f2.1 1 (by omega)]; exact hC.np) n8 (d2 h (Nat.le_refl h)) (by rw [f2.1 7 (by omega)]; exact hC.lo q bq) (xlo_le bq) (by rw [f2.1 8 (by omega)]; exact hC.hi q bq) (xhi_le bq) (by omega) ?_)
        refine B.zret eX4_isMetBySending_73 (bI_01 _) ?_
        exact hQ τ3 f2
      · refine A.il1 eX4_isMetBySending_23 ?_
        refine A.il4 eX4_isMetBySending_24 ?_
        refine A.ishrN eX4_isMetBySending_26 ?_
        refine A.iconst (v := nI 1) eX4_isMetBySending_27 (by decide) ?_
        refine A.iandN eX4_isMetBySending_28 ?_
        have hand := @Nat.and_le_right (m / 2 ^ i) 1
        refine A.iconst (v := nI 1) eX4_isMetBySending_29 (by decide) ?_
        refine A.icmp_neN eX4_isMetBySending_30 (fun yc2 => ?_) (fun yc2 => ?_)
        · refine A.inc4N eX4_isMetBySending_44 ?_
          refine A.goto eX4_isMetBySending_47 ?_
          first
            | (refine ih (i + 1) _ (by omega) (by omega) (e1.ur (by omega) (by omega)) (by rw [ur_n (by omega)]; exact e2) (fun a p ha hp => ?_) (fun p hp => by rw [ur_n (by omega)]; exact e4 p hp)
               rw [ur_s]
               by_cases e : a = 0 ∧ p = i
               · rw [if_pos ⟨e.1, by omega, by rw [e.2]; exact inb_t yc2⟩, e.1, e.2, upd_s]
               · rw [upd_n (by omega), e3 a p ha hp]
                 by_cases e5 : a = 0 ∧ p < i ∧ inb m p = true
                 · rw [if_pos e5, if_pos ⟨e5.1, by omega, e5.2.2⟩]
                 · rw [if_neg e5, if_neg (fun z => e5 ⟨z.1, by omega, z.2.2⟩)])
            | (refine ih (i + 1) _ (by omega) (by omega) e1 e2 (fun a p ha hp => ?_) e4
               rw [e3 a p ha hp]
               by_cases e5 : a = 0 ∧ p < i ∧ inb m p = true
               · rw [if_pos e5, if_pos ⟨e5.1, by omega, e5.2.2⟩]
               · rw [if_neg e5, if_neg (fun z => e5 ⟨z.1, (Nat.lt_or_ge p i).elim id (fun w => absurd z.2.2 (by rw [show p = i by omega, inb_f yc2]; decide)), z.2.2⟩)])
        · refine A.al0 eX4_isMetBySending_33 ?_
          refine A.getR eX4_isMetBySending_34 fX4_52 ko0 kr0_7 ?_
          refine A.iconst (v := nI 0) eX4_isMetBySending_37 (by decide) ?_
          refine A.il4 eX4_isMetBySending_38 ?_
          refine A.il2 eX4_isMetBySending_40 ?_
          refine A.cVv3 eX4_isMetBySending_41 oX3_tell kX4_356 ko36 (sX3_tell (v := 36) (la := h) (Or.inr rfl) e2 (by omega) (by omega) (by omega) ?_)
          rw [if_pos (show 0 < h + 1 by omega)]
          refine A.inc4N eX4_isMetBySending_44 ?_
          refine A.goto eX4_isMetBySending_47 ?_
          first
            | (refine ih (i + 1) _ (by omega) (by omega) (e1.ur (by omega) (by omega)) (by rw [ur_n (by omega)]; exact e2) (fun a p ha hp => ?_) (fun p hp => by rw [ur_n (by omega)]; exact e4 p hp)
               rw [ur_s]
               by_cases e : a = 0 ∧ p = i
               · rw [if_pos ⟨e.1, by omega, by rw [e.2]; exact inb_t yc2⟩, e.1, e.2, upd_s]
               · rw [upd_n (by omega), e3 a p ha hp]
                 by_cases e5 : a = 0 ∧ p < i ∧ inb m p = true
                 · rw [if_pos e5, if_pos ⟨e5.1, by omega, e5.2.2⟩]
                 · rw [if_neg e5, if_neg (fun z => e5 ⟨z.1, by omega, z.2.2⟩)])
            | (refine ih (i + 1) _ (by omega) (by omega) e1 e2 (fun a p ha hp => ?_) e4
               rw [e3 a p ha hp]
               by_cases e5 : a = 0 ∧ p < i ∧ inb m p = true
               · rw [if_pos e5, if_pos ⟨e5.1, by omega, e5.2.2⟩]
               · rw [if_neg e5, if_neg (fun z => e5 ⟨z.1, (Nat.lt_or_ge p i).elim id (fun w => absurd z.2.2 (by rw [show p = i by omega, inb_f yc2]; decide)), z.2.2⟩)])
  exact lp (xp x + 1) 0 τ (by omega) (by omega) (a1.mo (by omega) (by omega)) a2 (fun a p ha hp => by rw [if_neg (by omega)]; exact a3 a p ha hp) a4
def Rsend (x : XS) (q h w : Int32) : Int32 := if ck q (xq x) ∧ ck h 24 ∧ ck w 2 then Vsend x q.toNatClampNeg h.toNatClampNeg w.toNatClampNeg else -2
set_option maxRecDepth 100000 in
set_option maxHeartbeats 4000000 in
theorem sX4_send {G : GW} {σ : St} {K : Int32 → St → Prop} {x : XS} {q h w : Nat} (hC : CI x σ) (bq : q < (xq x)) (bh : h < 24) (bw : w < 2) (hQ : ∀ τ : St, CI x τ → Fi 0 41 σ τ → K (Vsend x q h w) τ) : Ci G (r0 4 91) mX4_send [rf G 0, .int (nI q), .int (nI h), .int (nI w)] σ K := by
  refine Ci.of [some (rf G 0), some (.int (nI q)), some (.int (nI h)), some (.int (nI w)), none, none, none] ?_
  have n8 := hC.np8
  have q6 := hC.nq6
  refine A.al0 eX4_send_0 ?_
  refine A.il1 eX4_send_1 ?_
  refine A.cVi1 eX4_send_2 oX4_isPlace kX4_98 ko0 (sX4_isPlace hC.nq hC.nq6 ?_)
  refine A.if_eqB eX4_send_5 (fun c1 => ?_) (fun c1 => ?_)
  · exact absurd ⟨by rw [nI_ti (by omega)]; omega, by rw [nI_ti (by omega)]; omega⟩ c1
  · refine A.il2 eX4_send_8 ?_
    refine A.cSi1 eX4_send_9 oX4_isHour kX4_134 (sX4_isHour  ?_)
    refine A.if_eqB eX4_send_12 (fun c2 => ?_) (fun c2 => ?_)
    · exact absurd ⟨by rw [nI_ti (by omega)]; omega, by rw [nI_ti (by omega)]; omega⟩ c2
    · refine A.il3 eX4_send_15 ?_
      refine A.iconst (v := nI 2) eX4_send_16 (by decide) ?_
      refine A.cSi2 eX4_send_17 oX4_isBelow kX4_67 (sX4_isBelowIN (b := 2) (by omega) ?_)
      refine A.if_neB eX4_send_20 (fun c3 => ?_) (fun c3 => ?_)
      · refine A.al0 eX4_send_26 ?_
        refine A.cVa0 eX4_send_27 oX4_valley kX4_137 ko0 (sX4_valley hC (fun τ g1 g2 g3 => ?_))
        refine A.iconst (v := nI 0) eX4_send_30 (by decide) ?_
        refine A.il1 eX4_send_31 ?_
        refine A.cVi2 eX4_send_32 oX3_crowdAt kX4_148 ko30 (sX3_crowdAt (v := 30) (Or.inl rfl) (show 0 < 24 by omega) g1.np n8 (g2 0 (by omega)) ?_)
        refine A.top (show nI (bits (fun p => decide (xa x 0 p = nI q)) (xp x)) = nI (crx x 0 q) from rfl) ?_
        have hc8 : crx x 0 q < 256 := crx_lt n8
        have h2p : 2 ^ xp x ≤ 2 ^ 8 := Nat.pow_le_pow_right (by omega) n8
        refine A.is4 eX4_send_35 ?_
        refine A.iconst (v := -1) eX4_send_37 (by decide) ?_
        refine A.is5 eX4_send_38 ?_
        refine A.iconst (v := nI 0) eX4_send_40 (by decide) ?_
        refine A.is6 eX4_send_41 ?_
        have lp : ∀ (fu i : Nat) (ξ : St), 2 ^ xp x - i < fu → i ≤ 2 ^ xp x → CI x ξ → Fi 0 41 σ ξ → B G (r0 4 91) mX4_send 43 [some (rf G 0), some (.int (nI q)), some (.int (nI h)), some (.int (nI w)), some (.int (nI (crx x 0 q))), some (.int (ov (bst (fun m => decide (m &&& crx x 0 q = 0) && sndx x m q h) i))), some (.int (nI i))] [] (ξ) (Pi K) := by
          intro fu
          induction fu with
          | zero => intro i ξ h1 h2; omega
          | succ fu ih =>
            intro i ξ h1 h2 e1 e2
            refine A.il6 eX4_send_43 ?_
            refine A.iconst (v := nI 1) eX4_send_45 (by decide) ?_
            refine A.al0 eX4_send_46 ?_
            refine A.getR eX4_send_47 fX4_14 ko0 kr0_0 ?_
            refine A.getI eX4_send_50 fX4_167 ko1 ?_
            refine A.top e1.np ?_
            refine A.ishl1 eX4_send_53 ?_
            refine A.icmp_geN eX4_send_54 (fun c4 => ?_) (fun c4 => ?_)
            · refine A.il5 eX4_send_96 ?_
              refine A.il3 eX4_send_98 ?_
              refine A.cSi2 eX4_send_99 oX4_setAnswer kX4_185 (sX4_setAnswer (fun n en => by have := bst_lt en; omega) bw ?_)
              refine B.iret eX4_send_102 ?_
              have e : i = 2 ^ xp x := by omega
              subst e
              exact hQ ξ e1 e2
            · refine A.il6 eX4_send_57 ?_
              refine A.il4 eX4_send_59 ?_
              refine A.iandN eX4_send_61 ?_
              have hal : i &&& crx x 0 q ≤ i := Nat.and_le_left
              refine A.if_neN eX4_send_62 (fun yd1 => ?_) (fun yd1 => ?_)
              · refine A.inc6N eX4_send_90 ?_
                refine A.goto eX4_send_93 ?_
                refine A.eq ?_ rfl rfl (ih (i + 1) ξ (by omega) (by omega) e1 e2)
                have hb : bst (fun m => decide (m &&& crx x 0 q = 0) && sndx x m q h) (i + 1) = if (fun m => decide (m &&& crx x 0 q = 0) && sndx x m q h) i && fwr i (bst (fun m => decide (m &&& crx x 0 q = 0) && sndx x m q h) i) then some i else bst (fun m => decide (m &&& crx x 0 q = 0) && sndx x m q h) i := rfl
                rw [hb]
                rw [if_neg (by simp only [Bool.and_eq_true, decide_eq_true_eq]; exact fun z => yd1 z.1.1)]
              · refine A.il6 eX4_send_65 ?_
                refine A.il5 eX4_send_67 ?_
                refine A.cSi2 eX4_send_69 oX4_isFewer kX4_179 (sX4_isFewer (by omega) (fun n en => by have := bst_lt en; omega) ?_)
                refine A.if_eqB eX4_send_72 (fun yd2 => ?_) (fun yd2 => ?_)
                · refine A.inc6N eX4_send_90 ?_
                  refine A.goto eX4_send_93 ?_
                  refine A.eq ?_ rfl rfl (ih (i + 1) ξ (by omega) (by omega) e1 e2)
                  have hb : bst (fun m => decide (m &&& crx x 0 q = 0) && sndx x m q h) (i + 1) = if (fun m => decide (m &&& crx x 0 q = 0) && sndx x m q h) i && fwr i (bst (fun m => decide (m &&& crx x 0 q = 0) && sndx x m q h) i) then some i else bst (fun m => decide (m &&& crx x 0 q = 0) && sndx x m q h) i := rfl
                  rw [hb]
                  rw [if_neg (by simp only [Bool.and_eq_true, decide_eq_true_eq]; exact fun z => yd2 z.2)]
                · refine A.al0 eX4_send_75 ?_
                  refine A.il6 eX4_send_76 ?_
                  refine A.il1 eX4_send_78 ?_
                  refine A.il2 eX4_send_79 ?_
                  refine A.cVi3 eX4_send_80 oX4_isMetBySending kX4_182 ko0 (sX4_isMetBySending e1 (by omega) bq bh (fun τ3 k1 => ?_))
                  refine A.if_eqB eX4_send_83 (fun yd3 => ?_) (fun yd3 => ?_)
                  · refine A.inc6N eX4_send_90 ?_
                    refine A.goto eX4_send_93 ?_
                    refine A.eq ?_ rfl rfl (ih (i + 1) τ3 (by omega) (by omega) (e1.scr k1) (e2.tr (k1.mo (by omega) (by omega))))
                    have hb : bst (fun m => decide (m &&& crx x 0 q = 0) && sndx x m q h) (i + 1) = if (fun m => decide (m &&& crx x 0 q = 0) && sndx x m q h) i && fwr i (bst (fun m => decide (m &&& crx x 0 q = 0) && sndx x m q h) i) then some i else bst (fun m => decide (m &&& crx x 0 q = 0) && sndx x m q h) i := rfl
                    rw [hb]
                    first
                      | (rw [if_pos (by simp only [Bool.and_eq_true, decide_eq_true_eq]; exact ⟨⟨yd1, yd3⟩, yd2⟩)]; rfl)
                      | (rw [if_neg (by simp only [Bool.and_eq_true, decide_eq_true_eq]; exact fun z => yd3 z.1.2)])
                  · refine A.il6 eX4_send_86 ?_
                    refine A.is5 eX4_send_88 ?_
                    refine A.inc6N eX4_send_90 ?_
                    refine A.goto eX4_send_93 ?_
                    refine A.eq ?_ rfl rfl (ih (i + 1) τ3 (by omega) (by omega) (e1.scr k1) (e2.tr (k1.mo (by omega) (by omega))))
                    have hb : bst (fun m => decide (m &&& crx x 0 q = 0) && sndx x m q h) (i + 1) = if (fun m => decide (m &&& crx x 0 q = 0) && sndx x m q h) i && fwr i (bst (fun m => decide (m &&& crx x 0 q = 0) && sndx x m q h) i) then some i else bst (fun m => decide (m &&& crx x 0 q = 0) && sndx x m q h) i := rfl
                    rw [hb]
                    first
                      | (rw [if_pos (by simp only [Bool.and_eq_true, decide_eq_true_eq]; exact ⟨⟨yd1, yd3⟩, yd2⟩)]; rfl)
                      | (rw [if_neg (by simp only [Bool.and_eq_true, decide_eq_true_eq]; exact fun z => yd3 z.1.2)])
        exact lp (2 ^ xp x + 1) 0 τ (Nat.lt_succ_of_le (Nat.sub_le _ _)) (Nat.zero_le _) g1 g3
      · exact absurd ⟨by rw [nI_ti (by omega)]; omega, by rw [nI_ti (by omega)]; omega⟩ c3
set_option maxRecDepth 100000 in
set_option maxHeartbeats 4000000 in
theorem bX4_send {G : GW} {σ : St} {K : Int32 → St → Prop} {x : XS} {q h w : Int32} (hC : CI x σ) (hb : ¬ (ck q (xq x) ∧ ck h 24 ∧ ck w 2)) (hQ : K (-2) σ) : Ci G (r0 4 91) mX4_send [rf G 0, .int q, .int h, .int w] σ K := by
  refine Ci.of [some (rf G 0), some (.int q), some (.int h), some (.int w), none, none, none] ?_
  have n8 := hC.np8
  have q6 := hC.nq6
  refine A.al0 eX4_send_0 ?_
  refine A.il1 eX4_send_1 ?_
  refine A.cVi1 eX4_send_2 oX4_isPlace kX4_98 ko0 (sX4_isPlace hC.nq hC.nq6 ?_)
  refine A.if_eqB eX4_send_5 (fun c1 => ?_) (fun c1 => ?_)
  · refine A.bipush (v := -2) eX4_send_23 (by decide) ?_
    refine B.iret eX4_send_25 ?_
    exact hQ
  · refine A.il2 eX4_send_8 ?_
    refine A.cSi1 eX4_send_9 oX4_isHour kX4_134 (sX4_isHour  ?_)
    refine A.if_eqB eX4_send_12 (fun c2 => ?_) (fun c2 => ?_)
    · refine A.bipush (v := -2) eX4_send_23 (by decide) ?_
      refine B.iret eX4_send_25 ?_
      exact hQ
    · refine A.il3 eX4_send_15 ?_
      refine A.iconst (v := nI 2) eX4_send_16 (by decide) ?_
      refine A.cSi2 eX4_send_17 oX4_isBelow kX4_67 (sX4_isBelowIN (b := 2) (by omega) ?_)
      refine A.if_neB eX4_send_20 (fun c3 => ?_) (fun c3 => ?_)
      · exact absurd ⟨c1, c2, c3⟩ hb
      · refine A.bipush (v := -2) eX4_send_23 (by decide) ?_
        refine B.iret eX4_send_25 ?_
        exact hQ
theorem aX4_send {G : GW} {σ : St} {K : Int32 → St → Prop} {x : XS} {q h w : Int32} (hC : CI x σ) (hQ : ∀ τ : St, CI x τ → Fi 0 41 σ τ → K (Rsend x q h w) τ) : Ci G (r0 4 91) mX4_send [rf G 0, .int q, .int h, .int w] σ K := by
  have n8 := hC.np8
  have q6 := hC.nq6
  by_cases hb : ck q (xq x) ∧ ck h 24 ∧ ck w 2
  · have hR : Rsend x q h w = _ := if_pos hb
    rw [hR] at hQ
    obtain ⟨q, bq, rfl⟩ := i_nat hb.1.1 hb.1.2
    obtain ⟨h, bh, rfl⟩ := i_nat hb.2.1.1 hb.2.1.2
    obtain ⟨w, bw, rfl⟩ := i_nat hb.2.2.1 hb.2.2.2
    simp only [nI_clamp (n := q) (by omega), nI_clamp (n := h) (by omega), nI_clamp (n := w) (by omega)] at hQ
    exact sX4_send hC bq bh bw hQ
  · have hR : Rsend x q h w = _ := if_neg hb
    rw [hR] at hQ
    exact bX4_send hC hb (hQ σ hC (Fi.rf _ _ _))
