theorem rok_f1 {u n k : Nat} {f : Nat → Nat} (h : ¬ (3 * k < n ∧ 48 ≤ f (3 * k) ∧ f (3 * k) ≤ 57)) : rok u f n k = false ∧ rat u f n k = 3 * k := by
  have h1 : ¬ (3 * k < n ∧ okb u f (3 * k) = true) := fun z => h ⟨z.1, (okb0 (by omega)).mp z.2⟩
  have h2 : rok u f n k = false := by
    unfold rok
    by_cases a : 3 * k + 1 < n
    · have : okb u f (3 * k) = false := by
        cases e : okb u f (3 * k) with
        | false => rfl
        | true => exact absurd ⟨by omega, e⟩ h1
      simp [this]
    · simp [a]
  refine ⟨h2, ?_⟩
  unfold rat
  rw [h2, if_neg (by decide), if_neg h1]
theorem rok_f2 {u n k : Nat} {f : Nat → Nat} (h1 : 3 * k < n) (h0 : okb u f (3 * k) = true) (h : ¬ (3 * k + 1 < n ∧ okb u f (3 * k + 1) = true)) : rok u f n k = false ∧ rat u f n k = 3 * k + 1 := by
  have h2 : rok u f n k = false := by
    unfold rok
    by_cases a : 3 * k + 1 < n
    · have : okb u f (3 * k + 1) = false := by
        cases e : okb u f (3 * k + 1) with
        | false => rfl
        | true => exact absurd ⟨a, e⟩ h
      simp [this]
    · simp [a]
  refine ⟨h2, ?_⟩
  unfold rat
  rw [h2, if_neg (by decide), if_pos ⟨h1, h0⟩]
theorem rok_t {u n k : Nat} {f : Nat → Nat} (h0 : okb u f (3 * k) = true) (h1 : 3 * k + 1 < n) (h2 : okb u f (3 * k + 1) = true) : rok u f n k = true ∧ rat u f n k = 3 * k + 2 := by
  have h3 : rok u f n k = true := by unfold rok; simp [h0, h1, h2]
  exact ⟨h3, by unfold rat; rw [if_pos h3]⟩
theorem rok_of {u n k : Nat} {f : Nat → Nat} (h : rok u f n k = true) : 3 * k + 1 < n ∧ okb u f (3 * k) = true ∧ okb u f (3 * k + 1) = true := by
  unfold rok at h
  simpa using h
theorem kd_if {P : Prop} [Decidable P] {b : Nat} (hb : P → b < 256) : kdI (if P then nI b else -1) = if P then kndI b else -1 := by
  by_cases h : P
  · rw [if_pos h, if_pos h]; exact kd_k (hb h)
  · rw [if_neg h, if_neg h]; decide
theorem flt_rok {u n k : Nat} {f : Nat → Nat} (h0 : 0 < n) (hk : 3 * k ≤ n) (h : ∀ i, i < 3 * k → okb u f i = true) (hr : rok u f n k = false) : flt u f n = (rat u f n k : Int) ∧ ents u f n = 0 := by
  by_cases a : 3 * k < n
  · by_cases b : okb u f (3 * k) = true
    · have h2 : ∀ i, i < 3 * k + 1 → okb u f i = true := fun i hi => (Nat.lt_or_ge i (3 * k)).elim (h i) (fun z => by rw [show i = 3 * k by omega]; exact b)
      have h3 : ¬ (3 * k + 1 < n ∧ okb u f (3 * k + 1) = true) := fun z => by rw [(rok_t b z.1 z.2).1] at hr; cases hr
      rw [(rok_f2 a b h3).2]
      by_cases c : 3 * k + 1 < n
      · exact flt_bad h2 c (fun z => h3 ⟨c, z⟩)
      · have e : n = 3 * k + 1 := by omega
        rw [e] 
        obtain ⟨p, q⟩ := flt_ok h2
        rw [p, q, if_neg (by omega), if_neg (by omega)]
        exact ⟨rfl, rfl⟩
    · have h3 : ¬ (3 * k < n ∧ 48 ≤ f (3 * k) ∧ f (3 * k) ≤ 57) := fun z => b ((okb0 (by omega)).mpr z.2)
      rw [(rok_f1 (u := u) h3).2]
      exact flt_bad h a b
  · have h3 : ¬ (3 * k < n ∧ 48 ≤ f (3 * k) ∧ f (3 * k) ≤ 57) := fun z => a z.1
    rw [(rok_f1 (u := u) h3).2]
    have e : n = 3 * k := by omega
    rw [e]
    obtain ⟨p, q⟩ := flt_ok h
    rw [p, q, if_neg (by omega), if_neg (by omega)]
    exact ⟨rfl, rfl⟩
theorem flt_semi {u n k : Nat} {f : Nat → Nat} (h : ∀ i, i < 3 * k → okb u f i = true) (hr : rok u f n k = true) (h2 : 3 * k + 2 < n) (h3 : ¬ f (3 * k + 2) = 59) : flt u f n = ((3 * k + 2 : Nat) : Int) ∧ ents u f n = 0 := by
  obtain ⟨a, b, c⟩ := rok_of hr
  refine flt_bad (fun i hi => ?_) h2 (fun z => h3 ((okb2 (by omega)).mp z))
  rcases (show i < 3 * k ∨ i = 3 * k ∨ i = 3 * k + 1 by omega) with z | rfl | rfl
  · exact h i z
  · exact b
  · exact c
theorem flt_end {u n k : Nat} {f : Nat → Nat} (h : ∀ i, i < 3 * k → okb u f i = true) (hr : rok u f n k = true) (h2 : n = 3 * k + 2) : flt u f n = -1 ∧ ents u f n = k + 1 := by
  obtain ⟨a, b, c⟩ := rok_of hr
  have := flt_ok (u := u) (tx := f) (n := n) (fun i hi => by
    rcases (show i < 3 * k ∨ i = 3 * k ∨ i = 3 * k + 1 by omega) with z | rfl | rfl
    · exact h i z
    · exact b
    · exact c)
  rw [this.1, this.2, if_pos (by omega), if_pos (by omega)]
  exact ⟨rfl, by omega⟩
set_option maxRecDepth 100000 in
set_option maxHeartbeats 4000000 in
theorem sX5_readsThing0 {G : GW} {σ : St} {K : Int32 → St → Prop} {n k : Nat} {f : Nat → Nat} (hl : σ.1 48 0 = nI n) (hn : n ≤ 23) (ha : σ.1 42 7 = nI (3 * k)) (hm : σ.1 49 0 = nI k) (hk : 3 * k ≤ n) (hb : ∀ i, i < n → σ.1 47 (24 * 0 + i) = nI (f i) ∧ f i < 256) (hQ : ∀ τ : St, Fr 0 σ τ → τ.1 42 7 = nI (rat 1 f n k) → τ.1 49 0 = nI (if rok 1 f n k = true then k + 1 else k) → (∀ j, (j < 16 * 0 + 2 * k ∨ 16 * 0 + 2 * k + 2 ≤ j) → τ.1 50 j = σ.1 50 j) → (rok 1 f n k = true → τ.1 50 (16 * 0 + 2 * k) = nI (f (3 * k) - 48) ∧ τ.1 50 (16 * 0 + 2 * k + 1) = nI (sec 1 (f (3 * k + 1)))) → K (bI (rok 1 f n k = true)) τ) : Ci G (r0 1 25) mX5_readsThing [rf G 42, .int (nI 0)] σ K := by
  refine Ci.of [some (rf G 42), some (.int (nI 0)), none, none, none] ?_
  refine A.bipush (v := nI 16) eX5_readsThing_0 (by decide) ?_
  refine A.il1 eX5_readsThing_2 ?_
  refine A.imulN eX5_readsThing_3 ?_
  refine A.iconst (v := nI 2) eX5_readsThing_4 (by decide) ?_
  refine A.al0 eX5_readsThing_5 ?_
  refine A.getR eX5_readsThing_6 fX5_28 ko42 kr42_8 ?_
  refine A.il1 eX5_readsThing_9 ?_
  refine A.ialdN eX5_readsThing_10 ka49 ?_
  refine A.top hm ?_
  refine A.imulN eX5_readsThing_11 ?_
  refine A.iaddN eX5_readsThing_12 ?_
  refine A.is2 eX5_readsThing_13 ?_
  refine A.al0 eX5_readsThing_14 ?_
  refine A.il1 eX5_readsThing_15 ?_
  refine A.cVi1 eX5_readsThing_16 oX5_here kX5_104 ko42 (sX5_here (n := n) (a := 3 * k) (f := f) (by omega) (by exact hl) (by omega) (by exact ha) (by omega) (fun i hi => by exact (hb i hi).1) ?_)
  refine A.bipush (v := nI 48) eX5_readsThing_19 (by decide) ?_
  refine A.isub eX5_readsThing_21 ?_
  refine A.is3 eX5_readsThing_22 ?_
  refine A.al0 eX5_readsThing_23 ?_
  refine A.getR eX5_readsThing_24 fX5_28 ko42 kr42_8 ?_
  refine A.il1 eX5_readsThing_27 ?_
  refine A.ialdN eX5_readsThing_28 ka49 ?_
  refine A.top hm ?_
  refine A.il1 eX5_readsThing_29 ?_
  refine A.if_neN eX5_readsThing_30 (fun c1 => ?_) (fun c1 => ?_)
  · exact absurd rfl c1
  · refine A.bipush (v := nI 8) eX5_readsThing_33 (by decide) ?_
    refine A.goto eX5_readsThing_35 ?_
    refine A.icmp_eqN eX5_readsThing_40 (fun yl0 => ?_) (fun yl0 => ?_)
    · exact absurd yl0 (by omega)
    · refine A.il3 eX5_readsThing_43 ?_
      refine A.i2l eX5_readsThing_44 rfl ?_
      refine A.lconst (v := 0) eX5_readsThing_45 (by decide) ?_
      refine A.ldc2 eX5_readsThing_46 nX5_107 ?_
      refine A.cSi3 eX5_readsThing_49 oX5_in kX5_67 (sX5_in ?_)
      refine A.top (fig_in (P := 3 * k < n) (b := f (3 * k)) (fun h => (hb _ h).2)) ?_
      refine A.if_neB eX5_readsThing_52 (fun yd1 => ?_) (fun yd1 => ?_)
      · have ok0 : okb 1 f (3 * k) = true := (okb0 (by omega)).mpr yd1.2
        rw [fig_v yd1.1 yd1.2.1]
        refine A.al0 eX5_readsThing_57 ?_
        refine A.getR eX5_readsThing_58 fX5_31 ko42 kr42_9 ?_
        refine A.il2 eX5_readsThing_61 ?_
        refine A.il3 eX5_readsThing_62 ?_
        refine A.iastN eX5_readsThing_63 ka50 ?_
        refine A.al0 eX5_readsThing_64 ?_
        refine A.dup eX5_readsThing_65 rfl ?_
        refine A.getI eX5_readsThing_66 fX5_101 ko42 ?_
        refine A.top (show _ = nI (3 * k) by rw [ur_n (by omega)]; exact ha) ?_
        refine A.iconst (v := nI 1) eX5_readsThing_69 (by decide) ?_
        refine A.iaddN eX5_readsThing_70 ?_
        refine A.putI eX5_readsThing_71 pX5_101 ko42 ?_
        refine A.il1 eX5_readsThing_74 ?_
        refine A.if_neN eX5_readsThing_75 (fun c4 => ?_) (fun c4 => ?_)
        · exact absurd rfl c4
        · refine A.al0 eX5_readsThing_78 ?_
          refine A.il1 eX5_readsThing_79 ?_
          refine A.cVi1 eX5_readsThing_80 oX5_here kX5_104 ko42 (sX5_here (n := n) (a := 3 * k + 1) (f := f) (by omega) (by rw [ur_n (by omega), ur_n (by omega)]; exact hl) (by omega) (by rw [ur_s, upd_s]) (by omega) (fun i hi => by rw [ur_n (by omega), ur_n (by omega)]; exact (hb i hi).1) ?_)
          refine A.cSi1 eX5_readsThing_83 oX5_kindOf kX5_109 (sX5_kindOf ?_)
          refine A.top (kd_if (P := 3 * k + 1 < n) (fun h => (hb _ h).2)) ?_
          refine A.goto eX5_readsThing_86 ?_
          refine A.is4 eX5_readsThing_121 ?_
          refine A.il4 eX5_readsThing_123 ?_
          refine A.iconst (v := -1) eX5_readsThing_125 (by decide) ?_
          refine A.icmp_ne eX5_readsThing_126 (fun yd2 => ?_) (fun yd2 => ?_)
          · have ok2 : 3 * k + 1 < n ∧ okb 1 f (3 * k + 1) = true := by
              by_cases z : 3 * k + 1 < n
              · rw [if_pos z] at yd2
                exact ⟨z, (okb1 (by omega) rfl).mpr (Decidable.byContradiction fun w => yd2 (kndI_m1.mpr w))⟩
              · rw [if_neg z] at yd2; exact absurd rfl yd2
            rw [show (if 3 * k + 1 < n then kndI (f (3 * k + 1)) else -1) = nI (sec 1 (f (3 * k + 1))) by rw [if_pos ok2.1]; exact kndI_ok ((okb1 (by omega) rfl).mp ok2.2)]
            refine A.al0 eX5_readsThing_131 ?_
            refine A.getR eX5_readsThing_132 fX5_31 ko42 kr42_9 ?_
            refine A.il2 eX5_readsThing_135 ?_
            refine A.iconst (v := nI 1) eX5_readsThing_136 (by decide) ?_
            refine A.iaddN eX5_readsThing_137 ?_
            refine A.il4 eX5_readsThing_138 ?_
            refine A.iastN eX5_readsThing_140 ka50 ?_
            refine A.al0 eX5_readsThing_141 ?_
            refine A.dup eX5_readsThing_142 rfl ?_
            refine A.getI eX5_readsThing_143 fX5_101 ko42 ?_
            refine A.top (show _ = nI (3 * k + 1) by rw [ur_n (by omega), ur_s, upd_s]) ?_
            refine A.iconst (v := nI 1) eX5_readsThing_146 (by decide) ?_
            refine A.iaddN eX5_readsThing_147 ?_
            refine A.putI eX5_readsThing_148 pX5_101 ko42 ?_
            refine A.al0 eX5_readsThing_151 ?_
            refine A.getR eX5_readsThing_152 fX5_28 ko42 kr42_8 ?_
            refine A.il1 eX5_readsThing_155 ?_
            refine A.dup2 eX5_readsThing_156 rfl rfl ?_
            refine A.ialdN eX5_readsThing_157 ka49 ?_
            refine A.top (show _ = nI k by rw [ur_n (by omega), ur_n (by omega), ur_n (by omega), ur_n (by omega)]; exact hm) ?_
            refine A.iconst (v := nI 1) eX5_readsThing_158 (by decide) ?_
            refine A.iaddN eX5_readsThing_159 ?_
            refine A.iastN eX5_readsThing_160 ka49 ?_
            refine A.iconst (v := nI 1) eX5_readsThing_161 (by decide) ?_
            refine B.zret eX5_readsThing_162 (by decide) ?_
            have r0 := rok_t ok0 ok2.1 ok2.2
            refine vl_of (hQ _ (((((Fr.rf 0 σ).u50 (by omega) (by omega)).u42).u50 (by omega) (by omega)).u42).u49 (by rw [r0.2, ur_n (by omega), ur_s, upd_s]) (by rw [r0.1, if_pos rfl, ur_s, upd_s]) (fun j hj => by rw [ur_n (by omega), ur_n (by omega), ur_s, upd_n (by omega), ur_n (by omega), ur_s, upd_n (by omega)]) (fun _ => ⟨by rw [ur_n (by omega), ur_n (by omega), ur_s, upd_n (by omega), ur_n (by omega), ur_s, upd_s], by rw [ur_n (by omega), ur_n (by omega), ur_s, upd_s]⟩)) (bI_t r0.1).symm
          · have no2 : ¬ (3 * k + 1 < n ∧ okb 1 f (3 * k + 1) = true) := fun z => by
              rw [if_pos z.1] at yd2
              exact absurd ((okb1 (by omega) rfl).mp z.2) (kndI_m1.mp yd2)
            refine A.iconst (v := nI 0) eX5_readsThing_129 (by decide) ?_
            refine B.zret eX5_readsThing_130 (by decide) ?_
            have r0 := rok_f2 yd1.1 ok0 no2
            exact vl_of (hQ _ (((Fr.rf 0 σ).u50 (by omega) (by omega)).u42) (by rw [r0.2, ur_s, upd_s]) (by rw [r0.1, if_neg (by decide), ur_n (by omega), ur_n (by omega)]; exact hm) (fun j hj => by rw [ur_n (by omega), ur_s, upd_n (by omega)]) (fun z => by rw [r0.1] at z; cases z)) (bI_f (by rw [r0.1]; decide)).symm
      · refine A.iconst (v := nI 0) eX5_readsThing_55 (by decide) ?_
        refine B.zret eX5_readsThing_56 (by decide) ?_
        have r0 := rok_f1 (u := 1) yd1
        exact vl_of (hQ σ (Fr.rf _ _) (by rw [r0.2]; exact ha) (by rw [r0.1, if_neg (by decide)]; exact hm) (fun _ _ => rfl) (fun z => by rw [r0.1] at z; cases z)) (bI_f (by rw [r0.1]; decide)).symm
set_option maxRecDepth 100000 in
set_option maxHeartbeats 4000000 in
theorem sX5_readsThing1 {G : GW} {σ : St} {K : Int32 → St → Prop} {n k : Nat} {f : Nat → Nat} (hl : σ.1 48 1 = nI n) (hn : n ≤ 17) (ha : σ.1 42 7 = nI (3 * k)) (hm : σ.1 49 1 = nI k) (hk : 3 * k ≤ n) (hb : ∀ i, i < n → σ.1 47 (24 * 1 + i) = nI (f i) ∧ f i < 256) (hQ : ∀ τ : St, Fr 1 σ τ → τ.1 42 7 = nI (rat 5 f n k) → τ.1 49 1 = nI (if rok 5 f n k = true then k + 1 else k) → (∀ j, (j < 16 * 1 + 2 * k ∨ 16 * 1 + 2 * k + 2 ≤ j) → τ.1 50 j = σ.1 50 j) → (rok 5 f n k = true → τ.1 50 (16 * 1 + 2 * k) = nI (f (3 * k) - 48) ∧ τ.1 50 (16 * 1 + 2 * k + 1) = nI (sec 5 (f (3 * k + 1)))) → K (bI (rok 5 f n k = true)) τ) : Ci G (r0 1 25) mX5_readsThing [rf G 42, .int (nI 1)] σ K := by
  refine Ci.of [some (rf G 42), some (.int (nI 1)), none, none, none] ?_
  refine A.bipush (v := nI 16) eX5_readsThing_0 (by decide) ?_
  refine A.il1 eX5_readsThing_2 ?_
  refine A.imulN eX5_readsThing_3 ?_
  refine A.iconst (v := nI 2) eX5_readsThing_4 (by decide) ?_
  refine A.al0 eX5_readsThing_5 ?_
  refine A.getR eX5_readsThing_6 fX5_28 ko42 kr42_8 ?_
  refine A.il1 eX5_readsThing_9 ?_
  refine A.ialdN eX5_readsThing_10 ka49 ?_
  refine A.top hm ?_
  refine A.imulN eX5_readsThing_11 ?_
  refine A.iaddN eX5_readsThing_12 ?_
  refine A.is2 eX5_readsThing_13 ?_
  refine A.al0 eX5_readsThing_14 ?_
  refine A.il1 eX5_readsThing_15 ?_
  refine A.cVi1 eX5_readsThing_16 oX5_here kX5_104 ko42 (sX5_here (n := n) (a := 3 * k) (f := f) (by omega) (by exact hl) (by omega) (by exact ha) (by omega) (fun i hi => by exact (hb i hi).1) ?_)
  refine A.bipush (v := nI 48) eX5_readsThing_19 (by decide) ?_
  refine A.isub eX5_readsThing_21 ?_
  refine A.is3 eX5_readsThing_22 ?_
  refine A.al0 eX5_readsThing_23 ?_
  refine A.getR eX5_readsThing_24 fX5_28 ko42 kr42_8 ?_
  refine A.il1 eX5_readsThing_27 ?_
  refine A.ialdN eX5_readsThing_28 ka49 ?_
  refine A.top hm ?_
  refine A.il1 eX5_readsThing_29 ?_
  refine A.if_neN eX5_readsThing_30 (fun c1 => ?_) (fun c1 => ?_)
  · refine A.bipush (v := nI 6) eX5_readsThing_38 (by decide) ?_
    refine A.icmp_eqN eX5_readsThing_40 (fun yl0 => ?_) (fun yl0 => ?_)
    · exact absurd yl0 (by omega)
    · refine A.il3 eX5_readsThing_43 ?_
      refine A.i2l eX5_readsThing_44 rfl ?_
      refine A.lconst (v := 0) eX5_readsThing_45 (by decide) ?_
      refine A.ldc2 eX5_readsThing_46 nX5_107 ?_
      refine A.cSi3 eX5_readsThing_49 oX5_in kX5_67 (sX5_in ?_)
      refine A.top (fig_in (P := 3 * k < n) (b := f (3 * k)) (fun h => (hb _ h).2)) ?_
      refine A.if_neB eX5_readsThing_52 (fun yd1 => ?_) (fun yd1 => ?_)
      · have ok0 : okb 5 f (3 * k) = true := (okb0 (by omega)).mpr yd1.2
        rw [fig_v yd1.1 yd1.2.1]
        refine A.al0 eX5_readsThing_57 ?_
        refine A.getR eX5_readsThing_58 fX5_31 ko42 kr42_9 ?_
        refine A.il2 eX5_readsThing_61 ?_
        refine A.il3 eX5_readsThing_62 ?_
        refine A.iastN eX5_readsThing_63 ka50 ?_
        refine A.al0 eX5_readsThing_64 ?_
        refine A.dup eX5_readsThing_65 rfl ?_
        refine A.getI eX5_readsThing_66 fX5_101 ko42 ?_
        refine A.top (show _ = nI (3 * k) by rw [ur_n (by omega)]; exact ha) ?_
        refine A.iconst (v := nI 1) eX5_readsThing_69 (by decide) ?_
        refine A.iaddN eX5_readsThing_70 ?_
        refine A.putI eX5_readsThing_71 pX5_101 ko42 ?_
        refine A.il1 eX5_readsThing_74 ?_
        refine A.if_neN eX5_readsThing_75 (fun c4 => ?_) (fun c4 => ?_)
        · refine A.al0 eX5_readsThing_89 ?_
          refine A.il1 eX5_readsThing_90 ?_
          refine A.cVi1 eX5_readsThing_91 oX5_here kX5_104 ko42 (sX5_here (n := n) (a := 3 * k + 1) (f := f) (by omega) (by rw [ur_n (by omega), ur_n (by omega)]; exact hl) (by omega) (by rw [ur_s, upd_s]) (by omega) (fun i hi => by rw [ur_n (by omega), ur_n (by omega)]; exact (hb i hi).1) ?_)
          refine A.bipush (v := nI 48) eX5_readsThing_94 (by decide) ?_
          refine A.isub eX5_readsThing_96 ?_
          refine A.i2l eX5_readsThing_97 rfl ?_
          refine A.il3 eX5_readsThing_98 ?_
          refine A.i2l eX5_readsThing_99 rfl ?_
          refine A.ldc2 eX5_readsThing_100 nX5_107 ?_
          refine A.cSi3 eX5_readsThing_103 oX5_in kX5_67 (sX5_in ?_)
          refine A.top (fig_in2 (P := 3 * k + 1 < n) (b := f (3 * k + 1)) (c := f (3 * k) - 48) (fun h => (hb _ h).2) (by omega)) ?_
          refine A.if_eqB eX5_readsThing_106 (fun yd3 => ?_) (fun yd3 => ?_)
          · refine A.iconst (v := -1) eX5_readsThing_120 (by decide) ?_
            refine A.is4 eX5_readsThing_121 ?_
            refine A.il4 eX5_readsThing_123 ?_
            refine A.iconst (v := -1) eX5_readsThing_125 (by decide) ?_
            refine A.icmp_ne eX5_readsThing_126 (fun yd2 => ?_) (fun yd2 => ?_)
            · exact absurd rfl yd2
            · have no2 : ¬ (3 * k + 1 < n ∧ okb 5 f (3 * k + 1) = true) := fun z => by
                have w := (okb1' (by omega) (by omega)).mp z.2
                rw [show 3 * k + 1 - 1 = 3 * k by omega] at w
                exact yd3 ⟨z.1, by omega, w.1.2⟩
              refine A.iconst (v := nI 0) eX5_readsThing_129 (by decide) ?_
              refine B.zret eX5_readsThing_130 (by decide) ?_
              have r0 := rok_f2 yd1.1 ok0 no2
              exact vl_of (hQ _ (((Fr.rf 1 σ).u50 (by omega) (by omega)).u42) (by rw [r0.2, ur_s, upd_s]) (by rw [r0.1, if_neg (by decide), ur_n (by omega), ur_n (by omega)]; exact hm) (fun j hj => by rw [ur_n (by omega), ur_s, upd_n (by omega)]) (fun z => by rw [r0.1] at z; cases z)) (bI_f (by rw [r0.1]; decide)).symm
          · refine A.al0 eX5_readsThing_109 ?_
            refine A.il1 eX5_readsThing_110 ?_
            refine A.cVi1 eX5_readsThing_111 oX5_here kX5_104 ko42 (sX5_here (n := n) (a := 3 * k + 1) (f := f) (by omega) (by rw [ur_n (by omega), ur_n (by omega)]; exact hl) (by omega) (by rw [ur_s, upd_s]) (by omega) (fun i hi => by rw [ur_n (by omega), ur_n (by omega)]; exact (hb i hi).1) ?_)
            refine A.bipush (v := nI 48) eX5_readsThing_114 (by decide) ?_
            refine A.isub eX5_readsThing_116 ?_
            refine A.top (fig_v yd3.1 (by omega)) ?_
            refine A.goto eX5_readsThing_117 ?_
            refine A.is4 eX5_readsThing_121 ?_
            refine A.il4 eX5_readsThing_123 ?_
            refine A.iconst (v := -1) eX5_readsThing_125 (by decide) ?_
            refine A.icmp_ne eX5_readsThing_126 (fun yd2 => ?_) (fun yd2 => ?_)
            · have ok2 : 3 * k + 1 < n ∧ okb 5 f (3 * k + 1) = true := ⟨yd3.1, (okb1' (by omega) (by omega)).mpr ⟨⟨by omega, yd3.2.2⟩, by rw [show 3 * k + 1 - 1 = 3 * k by omega]; omega⟩⟩
              refine A.al0 eX5_readsThing_131 ?_
              refine A.getR eX5_readsThing_132 fX5_31 ko42 kr42_9 ?_
              refine A.il2 eX5_readsThing_135 ?_
              refine A.iconst (v := nI 1) eX5_readsThing_136 (by decide) ?_
              refine A.iaddN eX5_readsThing_137 ?_
              refine A.il4 eX5_readsThing_138 ?_
              refine A.iastN eX5_readsThing_140 ka50 ?_
              refine A.al0 eX5_readsThing_141 ?_
              refine A.dup eX5_readsThing_142 rfl ?_
              refine A.getI eX5_readsThing_143 fX5_101 ko42 ?_
              refine A.top (show _ = nI (3 * k + 1) by rw [ur_n (by omega), ur_s, upd_s]) ?_
              refine A.iconst (v := nI 1) eX5_readsThing_146 (by decide) ?_
              refine A.iaddN eX5_readsThing_147 ?_
              refine A.putI eX5_readsThing_148 pX5_101 ko42 ?_
              refine A.al0 eX5_readsThing_151 ?_
              refine A.getR eX5_readsThing_152 fX5_28 ko42 kr42_8 ?_
              refine A.il1 eX5_readsThing_155 ?_
              refine A.dup2 eX5_readsThing_156 rfl rfl ?_
              refine A.ialdN eX5_readsThing_157 ka49 ?_
              refine A.top (show _ = nI k by rw [ur_n (by omega), ur_n (by omega), ur_n (by omega), ur_n (by omega)]; exact hm) ?_
              refine A.iconst (v := nI 1) eX5_readsThing_158 (by decide) ?_
              refine A.iaddN eX5_readsThing_159 ?_
              refine A.iastN eX5_readsThing_160 ka49 ?_
              refine A.iconst (v := nI 1) eX5_readsThing_161 (by decide) ?_
              refine B.zret eX5_readsThing_162 (by decide) ?_
              have r0 := rok_t ok0 ok2.1 ok2.2
              refine vl_of (hQ _ (((((Fr.rf 1 σ).u50 (by omega) (by omega)).u42).u50 (by omega) (by omega)).u42).u49 (by rw [r0.2, ur_n (by omega), ur_s, upd_s]) (by rw [r0.1, if_pos rfl, ur_s, upd_s]) (fun j hj => by rw [ur_n (by omega), ur_n (by omega), ur_s, upd_n (by omega), ur_n (by omega), ur_s, upd_n (by omega)]) (fun _ => ⟨by rw [ur_n (by omega), ur_n (by omega), ur_s, upd_n (by omega), ur_n (by omega), ur_s, upd_s], by rw [ur_n (by omega), ur_n (by omega), ur_s, upd_s]; rfl⟩)) (bI_t r0.1).symm
            · exact absurd yd2 (nI_nm1 (by have := (hb _ yd3.1).2; omega))
        · exact absurd c4 (by decide)
      · refine A.iconst (v := nI 0) eX5_readsThing_55 (by decide) ?_
        refine B.zret eX5_readsThing_56 (by decide) ?_
        have r0 := rok_f1 (u := 5) yd1
        exact vl_of (hQ σ (Fr.rf _ _) (by rw [r0.2]; exact ha) (by rw [r0.1, if_neg (by decide)]; exact hm) (fun _ _ => rfl) (fun z => by rw [r0.1] at z; cases z)) (bI_f (by rw [r0.1]; decide)).symm
  · exact absurd c1 (by decide)
set_option maxRecDepth 100000 in
set_option maxHeartbeats 4000000 in
theorem sX5_readsText0 {G : GW} {σ : St} {K : Int32 → St → Prop} {n : Nat} {f : Nat → Nat} (hl : σ.1 48 0 = nI n) (hn : n ≤ 23) (hb : ∀ i, i < n → σ.1 47 (24 * 0 + i) = nI (f i) ∧ f i < 256) (hQ : ∀ τ : St, Fr 0 σ τ → τ.1 49 0 = nI (ents 1 f n) → (∀ j, j < ents 1 f n → τ.1 50 (16 * 0 + 2 * j) = nI (f (3 * j) - 48) ∧ τ.1 50 (16 * 0 + 2 * j + 1) = nI (sec 1 (f (3 * j + 1)))) → K (zI (flt 1 f n)) τ) : Ci G (r0 2 49) mX5_readsText [rf G 42, .int (nI 0)] σ K := by
  refine Ci.of [some (rf G 42), some (.int (nI 0)), none, none] ?_
  refine A.al0 eX5_readsText_0 ?_
  refine A.iconst (v := nI 0) eX5_readsText_1 (by decide) ?_
  refine A.putI eX5_readsText_2 pX5_101 ko42 ?_
  refine A.al0 eX5_readsText_5 ?_
  refine A.getR eX5_readsText_6 fX5_28 ko42 kr42_8 ?_
  refine A.il1 eX5_readsText_9 ?_
  refine A.iconst (v := nI 0) eX5_readsText_10 (by decide) ?_
  refine A.iastN eX5_readsText_11 ka49 ?_
  refine A.al0 eX5_readsText_12 ?_
  refine A.getR eX5_readsText_13 fX5_25 ko42 kr42_6 ?_
  refine A.il1 eX5_readsText_16 ?_
  refine A.ialdN eX5_readsText_17 ka48 ?_
  refine A.top (show _ = nI n by rw [ur_n (by omega), ur_n (by omega)]; exact hl) ?_
  refine A.topZ ?_
  refine A.if_leZ eX5_readsText_18 (fun yn0 => ?_) (fun yn0 => ?_)
  · refine A.iconst (v := nI 0) eX5_readsText_25 (by decide) ?_
    refine A.is2 eX5_readsText_26 ?_
    have lp : ∀ (fu k : Nat) (ξ : St), 8 - k < fu → 3 * k ≤ n → 0 < n → Fr 0 σ ξ → ξ.1 42 7 = nI (3 * k) → ξ.1 49 0 = nI k → (∀ i, i < 3 * k → okb 1 f i = true) → (∀ j, j < k → ξ.1 50 (16 * 0 + 2 * j) = nI (f (3 * j) - 48) ∧ ξ.1 50 (16 * 0 + 2 * j + 1) = nI (sec 1 (f (3 * j + 1)))) → B G (r0 2 49) mX5_readsText 27 [some (rf G 42), some (.int (nI 0)), some (.int (nI 1)), none] [] (ξ) (Pi K) := by
      intro fu
      induction fu with
      | zero => intro k ξ h1 h2; omega
      | succ fu ih =>
        intro k ξ h1 h2 e0 e1 e2 e3 e4 e5
        have hl2 : ξ.1 48 0 = nI n := by rw [e1.1 48 (by omega) (by omega) (by omega)]; exact hl
        refine A.il2 eX5_readsText_27 ?_
        refine A.if_eqN eX5_readsText_28 (fun c2 => ?_) (fun c2 => ?_)
        · exact absurd c2 (by decide)
        · refine A.al0 eX5_readsText_31 ?_
          refine A.il1 eX5_readsText_32 ?_
          refine A.cVi1 eX5_readsText_33 oX5_readsThing kX5_112 ko42 (sX5_readsThing0 (n := n) (k := k) (f := f) hl2 hn e2 e3 h2 (fun i hi => by rw [e1.1 47 (by omega) (by omega) (by omega)]; exact hb i hi) (fun τ r1 r2 r3 r4 r5 => ?_))
          refine A.is3 eX5_readsText_36 ?_
          refine A.il3 eX5_readsText_37 ?_
          refine A.if_eqB eX5_readsText_38 (fun yd1 => ?_) (fun yd1 => ?_)
          · refine A.iconst (v := nI 0) eX5_readsText_58 (by decide) ?_
            refine A.is2 eX5_readsText_59 ?_
            refine A.il3 eX5_readsText_60 ?_
            refine A.if_eqB eX5_readsText_61 (fun yd3 => ?_) (fun yd3 => ?_)
            · refine A.al0 eX5_readsText_78 ?_
              refine A.getR eX5_readsText_79 fX5_28 ko42 kr42_8 ?_
              refine A.il1 eX5_readsText_82 ?_
              refine A.iconst (v := nI 0) eX5_readsText_83 (by decide) ?_
              refine A.iastN eX5_readsText_84 ka49 ?_
              have ra3 : (ur τ 49 (upd (τ.1 49) 0 (nI 0))).1 42 7 = nI (rat 1 f n k) := by rw [ur_n (by omega)]; exact r2
              refine A.al0 eX5_readsText_85 ?_
              refine A.getI eX5_readsText_86 fX5_101 ko42 ?_
              refine A.top ra3 ?_
              refine B.iret eX5_readsText_89 ?_
              have fe := flt_rok e0 h2 e4 (by simpa using yd1)
              refine vl_of (hQ _ (e1.tr r1).u49 (by rw [fe.2, ur_s, upd_s]) (fun j hj => by rw [fe.2] at hj; exact absurd hj (Nat.not_lt_zero _))) (by rw [fe.1, nI_z])
            · exact absurd yd3 yd1
          · have ra2 : τ.1 42 7 = nI (3 * k + 2) := by rw [r2]; unfold rat; rw [if_pos yd1]
            refine A.al0 eX5_readsText_41 ?_
            refine A.getI eX5_readsText_42 fX5_101 ko42 ?_
            refine A.top ra2 ?_
            refine A.al0 eX5_readsText_45 ?_
            refine A.getR eX5_readsText_46 fX5_25 ko42 kr42_6 ?_
            refine A.il1 eX5_readsText_49 ?_
            refine A.ialdN eX5_readsText_50 ka48 ?_
            refine A.top (show τ.1 48 0 = nI n by rw [r1.1 48 (by omega) (by omega) (by omega)]; exact hl2) ?_
            refine A.icmp_geN eX5_readsText_51 (fun yd2 => ?_) (fun yd2 => ?_)
            · refine A.iconst (v := nI 0) eX5_readsText_58 (by decide) ?_
              refine A.is2 eX5_readsText_59 ?_
              refine A.il3 eX5_readsText_60 ?_
              refine A.if_eqB eX5_readsText_61 (fun yd3 => ?_) (fun yd3 => ?_)
              · exact absurd yd1 yd3
              · refine A.il2 eX5_readsText_64 ?_
                refine A.if_eqN eX5_readsText_65 (fun c7 => ?_) (fun c7 => ?_)
                · refine A.al0 eX5_readsText_90 ?_
                  refine A.dup eX5_readsText_91 rfl ?_
                  refine A.getI eX5_readsText_92 fX5_101 ko42 ?_
                  refine A.top ra2 ?_
                  refine A.il2 eX5_readsText_95 ?_
                  refine A.if_eqN eX5_readsText_96 (fun c8 => ?_) (fun c8 => ?_)
                  · refine A.iconst (v := nI 0) eX5_readsText_103 (by decide) ?_
                    refine A.iaddN eX5_readsText_104 ?_
                    refine A.putI eX5_readsText_105 pX5_101 ko42 ?_
                    refine A.goto eX5_readsText_108 ?_
                    have tb2 : ∀ j, j < k + 1 → τ.1 50 (16 * 0 + 2 * j) = nI (f (3 * j) - 48) ∧ τ.1 50 (16 * 0 + 2 * j + 1) = nI (sec 1 (f (3 * j + 1))) := by
                      intro j hj
                      rcases Nat.lt_or_ge j k with z | z
                      · rw [r4 _ (by omega), r4 _ (by omega)]; exact e5 j z
                      · rw [show j = k by omega]; exact r5 yd1
                    refine A.il2 eX5_readsText_27 ?_
                    refine A.if_eqN eX5_readsText_28 (fun _ => ?_) (fun z => absurd rfl z)
                    refine A.iconst (v := -1) eX5_readsText_111 (by decide) ?_
                    refine B.iret eX5_readsText_112 ?_
                    have fe := flt_end e4 yd1 (by have := (rok_of yd1).1; omega)
                    refine vl_of (hQ _ (e1.tr r1).u42 (by rw [fe.2, ur_n (by omega), r3, if_pos yd1]) (fun j hj => ?_)) (by rw [fe.1]; rfl)
                    rw [fe.2] at hj
                    rw [ur_n (by omega)]
                    exact tb2 j hj
                  · exact absurd rfl c8
                · exact absurd rfl c7
            · refine A.iconst (v := nI 1) eX5_readsText_54 (by decide) ?_
              refine A.goto eX5_readsText_55 ?_
              refine A.is2 eX5_readsText_59 ?_
              refine A.il3 eX5_readsText_60 ?_
              refine A.if_eqB eX5_readsText_61 (fun yd3 => ?_) (fun yd3 => ?_)
              · exact absurd yd1 yd3
              · refine A.il2 eX5_readsText_64 ?_
                refine A.if_eqN eX5_readsText_65 (fun c10 => ?_) (fun c10 => ?_)
                · exact absurd c10 (by decide)
                · refine A.al0 eX5_readsText_68 ?_
                  refine A.il1 eX5_readsText_69 ?_
                  refine A.cVi1 eX5_readsText_70 oX5_here kX5_104 ko42 (sX5_here (n := n) (a := 3 * k + 2) (f := f) (by omega) (by rw [r1.1 48 (by omega) (by omega) (by omega)]; exact hl2) (by omega) ra2 (by omega) (fun i hi => by rw [r1.1 47 (by omega) (by omega) (by omega), e1.1 47 (by omega) (by omega) (by omega)]; exact (hb i hi).1) ?_)
                  refine A.bipush (v := nI 59) eX5_readsText_73 (by decide) ?_
                  refine A.icmp_eq eX5_readsText_75 (fun yd4 => ?_) (fun yd4 => ?_)
                  · refine A.al0 eX5_readsText_90 ?_
                    refine A.dup eX5_readsText_91 rfl ?_
                    refine A.getI eX5_readsText_92 fX5_101 ko42 ?_
                    refine A.top ra2 ?_
                    refine A.il2 eX5_readsText_95 ?_
                    refine A.if_eqN eX5_readsText_96 (fun c12 => ?_) (fun c12 => ?_)
                    · exact absurd c12 (by decide)
                    · refine A.iconst (v := nI 1) eX5_readsText_99 (by decide) ?_
                      refine A.goto eX5_readsText_100 ?_
                      refine A.iaddN eX5_readsText_104 ?_
                      refine A.putI eX5_readsText_105 pX5_101 ko42 ?_
                      refine A.goto eX5_readsText_108 ?_
                      have tb2 : ∀ j, j < k + 1 → τ.1 50 (16 * 0 + 2 * j) = nI (f (3 * j) - 48) ∧ τ.1 50 (16 * 0 + 2 * j + 1) = nI (sec 1 (f (3 * j + 1))) := by
                        intro j hj
                        rcases Nat.lt_or_ge j k with z | z
                        · rw [r4 _ (by omega), r4 _ (by omega)]; exact e5 j z
                        · rw [show j = k by omega]; exact r5 yd1
                      have v59 : f (3 * k + 2) = 59 := by
                        rw [if_pos (show 3 * k + 2 < n by omega)] at yd4
                        exact (nI_eq (by have := (hb _ (show 3 * k + 2 < n by omega)).2; omega) (by omega)).mp yd4
                      obtain ⟨ra, rb, rc⟩ := rok_of yd1
                      refine A.eqw (by simp [wkL]) rfl rfl (ih (k + 1) _ (by omega) (by omega) e0 (e1.tr r1).u42 (by rw [ur_s, upd_s]; exact congrArg nI (by omega)) (by rw [ur_n (by omega), r3, if_pos yd1]) (fun i hi => ?_) (fun j hj => by rw [ur_n (by omega)]; exact tb2 j hj))
                      rcases (show i < 3 * k ∨ i = 3 * k ∨ i = 3 * k + 1 ∨ i = 3 * k + 2 by omega) with z | rfl | rfl | rfl
                      · exact e4 i z
                      · exact rb
                      · exact rc
                      · exact (okb2 (by omega)).mpr v59
                  · refine A.al0 eX5_readsText_78 ?_
                    refine A.getR eX5_readsText_79 fX5_28 ko42 kr42_8 ?_
                    refine A.il1 eX5_readsText_82 ?_
                    refine A.iconst (v := nI 0) eX5_readsText_83 (by decide) ?_
                    refine A.iastN eX5_readsText_84 ka49 ?_
                    have ra3 : (ur τ 49 (upd (τ.1 49) 0 (nI 0))).1 42 7 = nI (rat 1 f n k) := by rw [ur_n (by omega)]; exact r2
                    refine A.al0 eX5_readsText_85 ?_
                    refine A.getI eX5_readsText_86 fX5_101 ko42 ?_
                    refine A.top ra3 ?_
                    refine B.iret eX5_readsText_89 ?_
                    have fe := flt_semi e4 yd1 (by omega) (fun z => yd4 (by rw [if_pos (show 3 * k + 2 < n by omega), z]))
                    have rr : rat 1 f n k = 3 * k + 2 := by unfold rat; rw [if_pos yd1]
                    refine vl_of (hQ _ (e1.tr r1).u49 (by rw [fe.2, ur_s, upd_s]) (fun j hj => by rw [fe.2] at hj; exact absurd hj (Nat.not_lt_zero _))) (by rw [fe.1, rr, nI_z])
    refine A.il2 eX5_readsText_27 ?_
    refine A.if_eqN eX5_readsText_28 (fun _ => ?_) (fun z => absurd rfl z)
    refine A.iconst (v := -1) eX5_readsText_111 (by decide) ?_
    refine B.iret eX5_readsText_112 ?_
    have n0 : n = 0 := by omega
    subst n0
    exact hQ _ ((Fr.rf 0 σ).u42.u49) (by rw [ur_s, upd_s]; rfl) (fun j hj => absurd hj (Nat.not_lt_zero _))
  · refine A.iconst (v := nI 1) eX5_readsText_21 (by decide) ?_
    refine A.goto eX5_readsText_22 ?_
    refine A.is2 eX5_readsText_26 ?_
    have lp : ∀ (fu k : Nat) (ξ : St), 8 - k < fu → 3 * k ≤ n → 0 < n → Fr 0 σ ξ → ξ.1 42 7 = nI (3 * k) → ξ.1 49 0 = nI k → (∀ i, i < 3 * k → okb 1 f i = true) → (∀ j, j < k → ξ.1 50 (16 * 0 + 2 * j) = nI (f (3 * j) - 48) ∧ ξ.1 50 (16 * 0 + 2 * j + 1) = nI (sec 1 (f (3 * j + 1)))) → B G (r0 2 49) mX5_readsText 27 [some (rf G 42), some (.int (nI 0)), some (.int (nI 1)), none] [] (ξ) (Pi K) := by
      intro fu
      induction fu with
      | zero => intro k ξ h1 h2; omega
      | succ fu ih =>
        intro k ξ h1 h2 e0 e1 e2 e3 e4 e5
        have hl2 : ξ.1 48 0 = nI n := by rw [e1.1 48 (by omega) (by omega) (by omega)]; exact hl
        refine A.il2 eX5_readsText_27 ?_
        refine A.if_eqN eX5_readsText_28 (fun c13 => ?_) (fun c13 => ?_)
        · exact absurd c13 (by decide)
        · refine A.al0 eX5_readsText_31 ?_
          refine A.il1 eX5_readsText_32 ?_
          refine A.cVi1 eX5_readsText_33 oX5_readsThing kX5_112 ko42 (sX5_readsThing0 (n := n) (k := k) (f := f) hl2 hn e2 e3 h2 (fun i hi => by rw [e1.1 47 (by omega) (by omega) (by omega)]; exact hb i hi) (fun τ r1 r2 r3 r4 r5 => ?_))
          refine A.is3 eX5_readsText_36 ?_
          refine A.il3 eX5_readsText_37 ?_
          refine A.if_eqB eX5_readsText_38 (fun yd1 => ?_) (fun yd1 => ?_)
          · refine A.iconst (v := nI 0) eX5_readsText_58 (by decide) ?_
            refine A.is2 eX5_readsText_59 ?_
            refine A.il3 eX5_readsText_60 ?_
            refine A.if_eqB eX5_readsText_61 (fun yd3 => ?_) (fun yd3 => ?_)
            · refine A.al0 eX5_readsText_78 ?_
              refine A.getR eX5_readsText_79 fX5_28 ko42 kr42_8 ?_
              refine A.il1 eX5_readsText_82 ?_
              refine A.iconst (v := nI 0) eX5_readsText_83 (by decide) ?_
              refine A.iastN eX5_readsText_84 ka49 ?_
              have ra3 : (ur τ 49 (upd (τ.1 49) 0 (nI 0))).1 42 7 = nI (rat 1 f n k) := by rw [ur_n (by omega)]; exact r2
              refine A.al0 eX5_readsText_85 ?_
              refine A.getI eX5_readsText_86 fX5_101 ko42 ?_
              refine A.top ra3 ?_
              refine B.iret eX5_readsText_89 ?_
              have fe := flt_rok e0 h2 e4 (by simpa using yd1)
              refine vl_of (hQ _ (e1.tr r1).u49 (by rw [fe.2, ur_s, upd_s]) (fun j hj => by rw [fe.2] at hj; exact absurd hj (Nat.not_lt_zero _))) (by rw [fe.1, nI_z])
            · exact absurd yd3 yd1
          · have ra2 : τ.1 42 7 = nI (3 * k + 2) := by rw [r2]; unfold rat; rw [if_pos yd1]
            refine A.al0 eX5_readsText_41 ?_
            refine A.getI eX5_readsText_42 fX5_101 ko42 ?_
            refine A.top ra2 ?_
            refine A.al0 eX5_readsText_45 ?_
            refine A.getR eX5_readsText_46 fX5_25 ko42 kr42_6 ?_
            refine A.il1 eX5_readsText_49 ?_
            refine A.ialdN eX5_readsText_50 ka48 ?_
            refine A.top (show τ.1 48 0 = nI n by rw [r1.1 48 (by omega) (by omega) (by omega)]; exact hl2) ?_
            refine A.icmp_geN eX5_readsText_51 (fun yd2 => ?_) (fun yd2 => ?_)
            · refine A.iconst (v := nI 0) eX5_readsText_58 (by decide) ?_
              refine A.is2 eX5_readsText_59 ?_
              refine A.il3 eX5_readsText_60 ?_
              refine A.if_eqB eX5_readsText_61 (fun yd3 => ?_) (fun yd3 => ?_)
              · exact absurd yd1 yd3
              · refine A.il2 eX5_readsText_64 ?_
                refine A.if_eqN eX5_readsText_65 (fun c18 => ?_) (fun c18 => ?_)
                · refine A.al0 eX5_readsText_90 ?_
                  refine A.dup eX5_readsText_91 rfl ?_
                  refine A.getI eX5_readsText_92 fX5_101 ko42 ?_
                  refine A.top ra2 ?_
                  refine A.il2 eX5_readsText_95 ?_
                  refine A.if_eqN eX5_readsText_96 (fun c19 => ?_) (fun c19 => ?_)
                  · refine A.iconst (v := nI 0) eX5_readsText_103 (by decide) ?_
                    refine A.iaddN eX5_readsText_104 ?_
                    refine A.putI eX5_readsText_105 pX5_101 ko42 ?_
                    refine A.goto eX5_readsText_108 ?_
                    have tb2 : ∀ j, j < k + 1 → τ.1 50 (16 * 0 + 2 * j) = nI (f (3 * j) - 48) ∧ τ.1 50 (16 * 0 + 2 * j + 1) = nI (sec 1 (f (3 * j + 1))) := by
                      intro j hj
                      rcases Nat.lt_or_ge j k with z | z
                      · rw [r4 _ (by omega), r4 _ (by omega)]; exact e5 j z
                      · rw [show j = k by omega]; exact r5 yd1
                    refine A.il2 eX5_readsText_27 ?_
                    refine A.if_eqN eX5_readsText_28 (fun _ => ?_) (fun z => absurd rfl z)
                    refine A.iconst (v := -1) eX5_readsText_111 (by decide) ?_
                    refine B.iret eX5_readsText_112 ?_
                    have fe := flt_end e4 yd1 (by have := (rok_of yd1).1; omega)
                    refine vl_of (hQ _ (e1.tr r1).u42 (by rw [fe.2, ur_n (by omega), r3, if_pos yd1]) (fun j hj => ?_)) (by rw [fe.1]; rfl)
                    rw [fe.2] at hj
                    rw [ur_n (by omega)]
                    exact tb2 j hj
                  · exact absurd rfl c19
                · exact absurd rfl c18
            · refine A.iconst (v := nI 1) eX5_readsText_54 (by decide) ?_
              refine A.goto eX5_readsText_55 ?_
              refine A.is2 eX5_readsText_59 ?_
              refine A.il3 eX5_readsText_60 ?_
              refine A.if_eqB eX5_readsText_61 (fun yd3 => ?_) (fun yd3 => ?_)
              · exact absurd yd1 yd3
              · refine A.il2 eX5_readsText_64 ?_
                refine A.if_eqN eX5_readsText_65 (fun c21 => ?_) (fun c21 => ?_)
                · exact absurd c21 (by decide)
                · refine A.al0 eX5_readsText_68 ?_
                  refine A.il1 eX5_readsText_69 ?_
                  refine A.cVi1 eX5_readsText_70 oX5_here kX5_104 ko42 (sX5_here (n := n) (a := 3 * k + 2) (f := f) (by omega) (by rw [r1.1 48 (by omega) (by omega) (by omega)]; exact hl2) (by omega) ra2 (by omega) (fun i hi => by rw [r1.1 47 (by omega) (by omega) (by omega), e1.1 47 (by omega) (by omega) (by omega)]; exact (hb i hi).1) ?_)
                  refine A.bipush (v := nI 59) eX5_readsText_73 (by decide) ?_
                  refine A.icmp_eq eX5_readsText_75 (fun yd4 => ?_) (fun yd4 => ?_)
                  · refine A.al0 eX5_readsText_90 ?_
                    refine A.dup eX5_readsText_91 rfl ?_
                    refine A.getI eX5_readsText_92 fX5_101 ko42 ?_
                    refine A.top ra2 ?_
                    refine A.il2 eX5_readsText_95 ?_
                    refine A.if_eqN eX5_readsText_96 (fun c23 => ?_) (fun c23 => ?_)
                    · exact absurd c23 (by decide)
                    · refine A.iconst (v := nI 1) eX5_readsText_99 (by decide) ?_
                      refine A.goto eX5_readsText_100 ?_
                      refine A.iaddN eX5_readsText_104 ?_
                      refine A.putI eX5_readsText_105 pX5_101 ko42 ?_
                      refine A.goto eX5_readsText_108 ?_
                      have tb2 : ∀ j, j < k + 1 → τ.1 50 (16 * 0 + 2 * j) = nI (f (3 * j) - 48) ∧ τ.1 50 (16 * 0 + 2 * j + 1) = nI (sec 1 (f (3 * j + 1))) := by
                        intro j hj
                        rcases Nat.lt_or_ge j k with z | z
                        · rw [r4 _ (by omega), r4 _ (by omega)]; exact e5 j z
                        · rw [show j = k by omega]; exact r5 yd1
                      have v59 : f (3 * k + 2) = 59 := by
                        rw [if_pos (show 3 * k + 2 < n by omega)] at yd4
                        exact (nI_eq (by have := (hb _ (show 3 * k + 2 < n by omega)).2; omega) (by omega)).mp yd4
                      obtain ⟨ra, rb, rc⟩ := rok_of yd1
                      refine A.eqw (by simp [wkL]) rfl rfl (ih (k + 1) _ (by omega) (by omega) e0 (e1.tr r1).u42 (by rw [ur_s, upd_s]; exact congrArg nI (by omega)) (by rw [ur_n (by omega), r3, if_pos yd1]) (fun i hi => ?_) (fun j hj => by rw [ur_n (by omega)]; exact tb2 j hj))
                      rcases (show i < 3 * k ∨ i = 3 * k ∨ i = 3 * k + 1 ∨ i = 3 * k + 2 by omega) with z | rfl | rfl | rfl
                      · exact e4 i z
                      · exact rb
                      · exact rc
                      · exact (okb2 (by omega)).mpr v59
                  · refine A.al0 eX5_readsText_78 ?_
                    refine A.getR eX5_readsText_79 fX5_28 ko42 kr42_8 ?_
                    refine A.il1 eX5_readsText_82 ?_
                    refine A.iconst (v := nI 0) eX5_readsText_83 (by decide) ?_
                    refine A.iastN eX5_readsText_84 ka49 ?_
                    have ra3 : (ur τ 49 (upd (τ.1 49) 0 (nI 0))).1 42 7 = nI (rat 1 f n k) := by rw [ur_n (by omega)]; exact r2
                    refine A.al0 eX5_readsText_85 ?_
                    refine A.getI eX5_readsText_86 fX5_101 ko42 ?_
                    refine A.top ra3 ?_
                    refine B.iret eX5_readsText_89 ?_
                    have fe := flt_semi e4 yd1 (by omega) (fun z => yd4 (by rw [if_pos (show 3 * k + 2 < n by omega), z]))
                    have rr : rat 1 f n k = 3 * k + 2 := by unfold rat; rw [if_pos yd1]
                    refine vl_of (hQ _ (e1.tr r1).u49 (by rw [fe.2, ur_s, upd_s]) (fun j hj => by rw [fe.2] at hj; exact absurd hj (Nat.not_lt_zero _))) (by rw [fe.1, rr, nI_z])
    exact A.eqw (by simp [wkL]) rfl rfl (lp 9 0 _ (by omega) (by omega) (by omega) ((Fr.rf 0 σ).u42.u49) (by rw [ur_n (by omega), ur_s, upd_s]) (by rw [ur_s, upd_s]) (fun i hi => by omega) (fun j hj => by omega))
set_option maxRecDepth 100000 in
set_option maxHeartbeats 4000000 in
theorem sX5_readsText1 {G : GW} {σ : St} {K : Int32 → St → Prop} {n : Nat} {f : Nat → Nat} (hl : σ.1 48 1 = nI n) (hn : n ≤ 17) (hb : ∀ i, i < n → σ.1 47 (24 * 1 + i) = nI (f i) ∧ f i < 256) (hQ : ∀ τ : St, Fr 1 σ τ → τ.1 49 1 = nI (ents 5 f n) → (∀ j, j < ents 5 f n → τ.1 50 (16 * 1 + 2 * j) = nI (f (3 * j) - 48) ∧ τ.1 50 (16 * 1 + 2 * j + 1) = nI (sec 5 (f (3 * j + 1)))) → K (zI (flt 5 f n)) τ) : Ci G (r0 2 49) mX5_readsText [rf G 42, .int (nI 1)] σ K := by
  refine Ci.of [some (rf G 42), some (.int (nI 1)), none, none] ?_
  refine A.al0 eX5_readsText_0 ?_
  refine A.iconst (v := nI 0) eX5_readsText_1 (by decide) ?_
  refine A.putI eX5_readsText_2 pX5_101 ko42 ?_
  refine A.al0 eX5_readsText_5 ?_
  refine A.getR eX5_readsText_6 fX5_28 ko42 kr42_8 ?_
  refine A.il1 eX5_readsText_9 ?_
  refine A.iconst (v := nI 0) eX5_readsText_10 (by decide) ?_
  refine A.iastN eX5_readsText_11 ka49 ?_
  refine A.al0 eX5_readsText_12 ?_
  refine A.getR eX5_readsText_13 fX5_25 ko42 kr42_6 ?_
  refine A.il1 eX5_readsText_16 ?_
  refine A.ialdN eX5_readsText_17 ka48 ?_
  refine A.top (show _ = nI n by rw [ur_n (by omega), ur_n (by omega)]; exact hl) ?_
  refine A.topZ ?_
  refine A.if_leZ eX5_readsText_18 (fun yn0 => ?_) (fun yn0 => ?_)
  · refine A.iconst (v := nI 0) eX5_readsText_25 (by decide) ?_
    refine A.is2 eX5_readsText_26 ?_
    have lp : ∀ (fu k : Nat) (ξ : St), 8 - k < fu → 3 * k ≤ n → 0 < n → Fr 1 σ ξ → ξ.1 42 7 = nI (3 * k) → ξ.1 49 1 = nI k → (∀ i, i < 3 * k → okb 5 f i = true) → (∀ j, j < k → ξ.1 50 (16 * 1 + 2 * j) = nI (f (3 * j) - 48) ∧ ξ.1 50 (16 * 1 + 2 * j + 1) = nI (sec 5 (f (3 * j + 1)))) → B G (r0 2 49) mX5_readsText 27 [some (rf G 42), some (.int (nI 1)), some (.int (nI 1)), none] [] (ξ) (Pi K) := by
      intro fu
      induction fu with
      | zero => intro k ξ h1 h2; omega
      | succ fu ih =>
        intro k ξ h1 h2 e0 e1 e2 e3 e4 e5
        have hl2 : ξ.1 48 1 = nI n := by rw [e1.1 48 (by omega) (by omega) (by omega)]; exact hl
        refine A.il2 eX5_readsText_27 ?_
        refine A.if_eqN eX5_readsText_28 (fun c2 => ?_) (fun c2 => ?_)
        · exact absurd c2 (by decide)
        · refine A.al0 eX5_readsText_31 ?_
          refine A.il1 eX5_readsText_32 ?_
          refine A.cVi1 eX5_readsText_33 oX5_readsThing kX5_112 ko42 (sX5_readsThing1 (n := n) (k := k) (f := f) hl2 hn e2 e3 h2 (fun i hi => by rw [e1.1 47 (by omega) (by omega) (by omega)]; exact hb i hi) (fun τ r1 r2 r3 r4 r5 => ?_))
          refine A.is3 eX5_readsText_36 ?_
          refine A.il3 eX5_readsText_37 ?_
          refine A.if_eqB eX5_readsText_38 (fun yd1 => ?_) (fun yd1 => ?_)
          · refine A.iconst (v := nI 0) eX5_readsText_58 (by decide) ?_
            refine A.is2 eX5_readsText_59 ?_
            refine A.il3 eX5_readsText_60 ?_
            refine A.if_eqB eX5_readsText_61 (fun yd3 => ?_) (fun yd3 => ?_)
            · refine A.al0 eX5_readsText_78 ?_
              refine A.getR eX5_readsText_79 fX5_28 ko42 kr42_8 ?_
              refine A.il1 eX5_readsText_82 ?_
              refine A.iconst (v := nI 0) eX5_readsText_83 (by decide) ?_
              refine A.iastN eX5_readsText_84 ka49 ?_
              have ra3 : (ur τ 49 (upd (τ.1 49) 1 (nI 0))).1 42 7 = nI (rat 5 f n k) := by rw [ur_n (by omega)]; exact r2
              refine A.al0 eX5_readsText_85 ?_
              refine A.getI eX5_readsText_86 fX5_101 ko42 ?_
              refine A.top ra3 ?_
              refine B.iret eX5_readsText_89 ?_
              have fe := flt_rok e0 h2 e4 (by simpa using yd1)
              refine vl_of (hQ _ (e1.tr r1).u49 (by rw [fe.2, ur_s, upd_s]) (fun j hj => by rw [fe.2] at hj; exact absurd hj (Nat.not_lt_zero _))) (by rw [fe.1, nI_z])
            · exact absurd yd3 yd1
          · have ra2 : τ.1 42 7 = nI (3 * k + 2) := by rw [r2]; unfold rat; rw [if_pos yd1]
            refine A.al0 eX5_readsText_41 ?_
            refine A.getI eX5_readsText_42 fX5_101 ko42 ?_
            refine A.top ra2 ?_
            refine A.al0 eX5_readsText_45 ?_
            refine A.getR eX5_readsText_46 fX5_25 ko42 kr42_6 ?_
            refine A.il1 eX5_readsText_49 ?_
            refine A.ialdN eX5_readsText_50 ka48 ?_
            refine A.top (show τ.1 48 1 = nI n by rw [r1.1 48 (by omega) (by omega) (by omega)]; exact hl2) ?_
            refine A.icmp_geN eX5_readsText_51 (fun yd2 => ?_) (fun yd2 => ?_)
            · refine A.iconst (v := nI 0) eX5_readsText_58 (by decide) ?_
              refine A.is2 eX5_readsText_59 ?_
              refine A.il3 eX5_readsText_60 ?_
              refine A.if_eqB eX5_readsText_61 (fun yd3 => ?_) (fun yd3 => ?_)
              · exact absurd yd1 yd3
              · refine A.il2 eX5_readsText_64 ?_
                refine A.if_eqN eX5_readsText_65 (fun c7 => ?_) (fun c7 => ?_)
                · refine A.al0 eX5_readsText_90 ?_
                  refine A.dup eX5_readsText_91 rfl ?_
                  refine A.getI eX5_readsText_92 fX5_101 ko42 ?_
                  refine A.top ra2 ?_
                  refine A.il2 eX5_readsText_95 ?_
                  refine A.if_eqN eX5_readsText_96 (fun c8 => ?_) (fun c8 => ?_)
                  · refine A.iconst (v := nI 0) eX5_readsText_103 (by decide) ?_
                    refine A.iaddN eX5_readsText_104 ?_
                    refine A.putI eX5_readsText_105 pX5_101 ko42 ?_
                    refine A.goto eX5_readsText_108 ?_
                    have tb2 : ∀ j, j < k + 1 → τ.1 50 (16 * 1 + 2 * j) = nI (f (3 * j) - 48) ∧ τ.1 50 (16 * 1 + 2 * j + 1) = nI (sec 5 (f (3 * j + 1))) := by
                      intro j hj
                      rcases Nat.lt_or_ge j k with z | z
                      · rw [r4 _ (by omega), r4 _ (by omega)]; exact e5 j z
                      · rw [show j = k by omega]; exact r5 yd1
                    refine A.il2 eX5_readsText_27 ?_
                    refine A.if_eqN eX5_readsText_28 (fun _ => ?_) (fun z => absurd rfl z)
                    refine A.iconst (v := -1) eX5_readsText_111 (by decide) ?_
                    refine B.iret eX5_readsText_112 ?_
                    have fe := flt_end e4 yd1 (by have := (rok_of yd1).1; omega)
                    refine vl_of (hQ _ (e1.tr r1).u42 (by rw [fe.2, ur_n (by omega), r3, if_pos yd1]) (fun j hj => ?_)) (by rw [fe.1]; rfl)
                    rw [fe.2] at hj
                    rw [ur_n (by omega)]
                    exact tb2 j hj
                  · exact absurd rfl c8
                · exact absurd rfl c7
            · refine A.iconst (v := nI 1) eX5_readsText_54 (by decide) ?_
              refine A.goto eX5_readsText_55 ?_
              refine A.is2 eX5_readsText_59 ?_
              refine A.il3 eX5_readsText_60 ?_
              refine A.if_eqB eX5_readsText_61 (fun yd3 => ?_) (fun yd3 => ?_)
              · exact absurd yd1 yd3
              · refine A.il2 eX5_readsText_64 ?_
                refine A.if_eqN eX5_readsText_65 (fun c10 => ?_) (fun c10 => ?_)
                · exact absurd c10 (by decide)
                · refine A.al0 eX5_readsText_68 ?_
                  refine A.il1 eX5_readsText_69 ?_
                  refine A.cVi1 eX5_readsText_70 oX5_here kX5_104 ko42 (sX5_here (n := n) (a := 3 * k + 2) (f := f) (by omega) (by rw [r1.1 48 (by omega) (by omega) (by omega)]; exact hl2) (by omega) ra2 (by omega) (fun i hi => by rw [r1.1 47 (by omega) (by omega) (by omega), e1.1 47 (by omega) (by omega) (by omega)]; exact (hb i hi).1) ?_)
                  refine A.bipush (v := nI 59) eX5_readsText_73 (by decide) ?_
                  refine A.icmp_eq eX5_readsText_75 (fun yd4 => ?_) (fun yd4 => ?_)
                  · refine A.al0 eX5_readsText_90 ?_
                    refine A.dup eX5_readsText_91 rfl ?_
                    refine A.getI eX5_readsText_92 fX5_101 ko42 ?_
                    refine A.top ra2 ?_
                    refine A.il2 eX5_readsText_95 ?_
                    refine A.if_eqN eX5_readsText_96 (fun c12 => ?_) (fun c12 => ?_)
                    · exact absurd c12 (by decide)
                    · refine A.iconst (v := nI 1) eX5_readsText_99 (by decide) ?_
                      refine A.goto eX5_readsText_100 ?_
                      refine A.iaddN eX5_readsText_104 ?_
                      refine A.putI eX5_readsText_105 pX5_101 ko42 ?_
                      refine A.goto eX5_readsText_108 ?_
                      have tb2 : ∀ j, j < k + 1 → τ.1 50 (16 * 1 + 2 * j) = nI (f (3 * j) - 48) ∧ τ.1 50 (16 * 1 + 2 * j + 1) = nI (sec 5 (f (3 * j + 1))) := by
                        intro j hj
                        rcases Nat.lt_or_ge j k with z | z
                        · rw [r4 _ (by omega), r4 _ (by omega)]; exact e5 j z
                        · rw [show j = k by omega]; exact r5 yd1
                      have v59 : f (3 * k + 2) = 59 := by
                        rw [if_pos (show 3 * k + 2 < n by omega)] at yd4
                        exact (nI_eq (by have := (hb _ (show 3 * k + 2 < n by omega)).2; omega) (by omega)).mp yd4
                      obtain ⟨ra, rb, rc⟩ := rok_of yd1
                      refine A.eqw (by simp [wkL]) rfl rfl (ih (k + 1) _ (by omega) (by omega) e0 (e1.tr r1).u42 (by rw [ur_s, upd_s]; exact congrArg nI (by omega)) (by rw [ur_n (by omega), r3, if_pos yd1]) (fun i hi => ?_) (fun j hj => by rw [ur_n (by omega)]; exact tb2 j hj))
                      rcases (show i < 3 * k ∨ i = 3 * k ∨ i = 3 * k + 1 ∨ i = 3 * k + 2 by omega) with z | rfl | rfl | rfl
                      · exact e4 i z
                      · exact rb
                      · exact rc
                      · exact (okb2 (by omega)).mpr v59
                  · refine A.al0 eX5_readsText_78 ?_
                    refine A.getR eX5_readsText_79 fX5_28 ko42 kr42_8 ?_
                    refine A.il1 eX5_readsText_82 ?_
                    refine A.iconst (v := nI 0) eX5_readsText_83 (by decide) ?_
                    refine A.iastN eX5_readsText_84 ka49 ?_
                    have ra3 : (ur τ 49 (upd (τ.1 49) 1 (nI 0))).1 42 7 = nI (rat 5 f n k) := by rw [ur_n (by omega)]; exact r2
                    refine A.al0 eX5_readsText_85 ?_
                    refine A.getI eX5_readsText_86 fX5_101 ko42 ?_
                    refine A.top ra3 ?_
                    refine B.iret eX5_readsText_89 ?_
                    have fe := flt_semi e4 yd1 (by omega) (fun z => yd4 (by rw [if_pos (show 3 * k + 2 < n by omega), z]))
                    have rr : rat 5 f n k = 3 * k + 2 := by unfold rat; rw [if_pos yd1]
                    refine vl_of (hQ _ (e1.tr r1).u49 (by rw [fe.2, ur_s, upd_s]) (fun j hj => by rw [fe.2] at hj; exact absurd hj (Nat.not_lt_zero _))) (by rw [fe.1, rr, nI_z])
    refine A.il2 eX5_readsText_27 ?_
    refine A.if_eqN eX5_readsText_28 (fun _ => ?_) (fun z => absurd rfl z)
    refine A.iconst (v := -1) eX5_readsText_111 (by decide) ?_
    refine B.iret eX5_readsText_112 ?_
    have n0 : n = 0 := by omega
    subst n0
    exact hQ _ ((Fr.rf 1 σ).u42.u49) (by rw [ur_s, upd_s]; rfl) (fun j hj => absurd hj (Nat.not_lt_zero _))
  · refine A.iconst (v := nI 1) eX5_readsText_21 (by decide) ?_
    refine A.goto eX5_readsText_22 ?_
    refine A.is2 eX5_readsText_26 ?_
    have lp : ∀ (fu k : Nat) (ξ : St), 8 - k < fu → 3 * k ≤ n → 0 < n → Fr 1 σ ξ → ξ.1 42 7 = nI (3 * k) → ξ.1 49 1 = nI k → (∀ i, i < 3 * k → okb 5 f i = true) → (∀ j, j < k → ξ.1 50 (16 * 1 + 2 * j) = nI (f (3 * j) - 48) ∧ ξ.1 50 (16 * 1 + 2 * j + 1) = nI (sec 5 (f (3 * j + 1)))) → B G (r0 2 49) mX5_readsText 27 [some (rf G 42), some (.int (nI 1)), some (.int (nI 1)), none] [] (ξ) (Pi K) := by
      intro fu
      induction fu with
      | zero => intro k ξ h1 h2; omega
      | succ fu ih =>
        intro k ξ h1 h2 e0 e1 e2 e3 e4 e5
        have hl2 : ξ.1 48 1 = nI n := by rw [e1.1 48 (by omega) (by omega) (by omega)]; exact hl
        refine A.il2 eX5_readsText_27 ?_
        refine A.if_eqN eX5_readsText_28 (fun c13 => ?_) (fun c13 => ?_)
        · exact absurd c13 (by decide)
        · refine A.al0 eX5_readsText_31 ?_
          refine A.il1 eX5_readsText_32 ?_
          refine A.cVi1 eX5_readsText_33 oX5_readsThing kX5_112 ko42 (sX5_readsThing1 (n := n) (k := k) (f := f) hl2 hn e2 e3 h2 (fun i hi => by rw [e1.1 47 (by omega) (by omega) (by omega)]; exact hb i hi) (fun τ r1 r2 r3 r4 r5 => ?_))
          refine A.is3 eX5_readsText_36 ?_
          refine A.il3 eX5_readsText_37 ?_
          refine A.if_eqB eX5_readsText_38 (fun yd1 => ?_) (fun yd1 => ?_)
          · refine A.iconst (v := nI 0) eX5_readsText_58 (by decide) ?_
            refine A.is2 eX5_readsText_59 ?_
            refine A.il3 eX5_readsText_60 ?_
            refine A.if_eqB eX5_readsText_61 (fun yd3 => ?_) (fun yd3 => ?_)
            · refine A.al0 eX5_readsText_78 ?_
              refine A.getR eX5_readsText_79 fX5_28 ko42 kr42_8 ?_
              refine A.il1 eX5_readsText_82 ?_
              refine A.iconst (v := nI 0) eX5_readsText_83 (by decide) ?_
              refine A.iastN eX5_readsText_84 ka49 ?_
              have ra3 : (ur τ 49 (upd (τ.1 49) 1 (nI 0))).1 42 7 = nI (rat 5 f n k) := by rw [ur_n (by omega)]; exact r2
              refine A.al0 eX5_readsText_85 ?_
              refine A.getI eX5_readsText_86 fX5_101 ko42 ?_
              refine A.top ra3 ?_
              refine B.iret eX5_readsText_89 ?_
              have fe := flt_rok e0 h2 e4 (by simpa using yd1)
              refine vl_of (hQ _ (e1.tr r1).u49 (by rw [fe.2, ur_s, upd_s]) (fun j hj => by rw [fe.2] at hj; exact absurd hj (Nat.not_lt_zero _))) (by rw [fe.1, nI_z])
            · exact absurd yd3 yd1
          · have ra2 : τ.1 42 7 = nI (3 * k + 2) := by rw [r2]; unfold rat; rw [if_pos yd1]
            refine A.al0 eX5_readsText_41 ?_
            refine A.getI eX5_readsText_42 fX5_101 ko42 ?_
            refine A.top ra2 ?_
            refine A.al0 eX5_readsText_45 ?_
            refine A.getR eX5_readsText_46 fX5_25 ko42 kr42_6 ?_
            refine A.il1 eX5_readsText_49 ?_
            refine A.ialdN eX5_readsText_50 ka48 ?_
            refine A.top (show τ.1 48 1 = nI n by rw [r1.1 48 (by omega) (by omega) (by omega)]; exact hl2) ?_
            refine A.icmp_geN eX5_readsText_51 (fun yd2 => ?_) (fun yd2 => ?_)
            · refine A.iconst (v := nI 0) eX5_readsText_58 (by decide) ?_
              refine A.is2 eX5_readsText_59 ?_
              refine A.il3 eX5_readsText_60 ?_
              refine A.if_eqB eX5_readsText_61 (fun yd3 => ?_) (fun yd3 => ?_)
              · exact absurd yd1 yd3
              · refine A.il2 eX5_readsText_64 ?_
                refine A.if_eqN eX5_readsText_65 (fun c18 => ?_) (fun c18 => ?_)
                · refine A.al0 eX5_readsText_90 ?_
                  refine A.dup eX5_readsText_91 rfl ?_
                  refine A.getI eX5_readsText_92 fX5_101 ko42 ?_
                  refine A.top ra2 ?_
                  refine A.il2 eX5_readsText_95 ?_
                  refine A.if_eqN eX5_readsText_96 (fun c19 => ?_) (fun c19 => ?_)
                  · refine A.iconst (v := nI 0) eX5_readsText_103 (by decide) ?_
                    refine A.iaddN eX5_readsText_104 ?_
                    refine A.putI eX5_readsText_105 pX5_101 ko42 ?_
                    refine A.goto eX5_readsText_108 ?_
                    have tb2 : ∀ j, j < k + 1 → τ.1 50 (16 * 1 + 2 * j) = nI (f (3 * j) - 48) ∧ τ.1 50 (16 * 1 + 2 * j + 1) = nI (sec 5 (f (3 * j + 1))) := by
                      intro j hj
                      rcases Nat.lt_or_ge j k with z | z
                      · rw [r4 _ (by omega), r4 _ (by omega)]; exact e5 j z
                      · rw [show j = k by omega]; exact r5 yd1
                    refine A.il2 eX5_readsText_27 ?_
                    refine A.if_eqN eX5_readsText_28 (fun _ => ?_) (fun z => absurd rfl z)
                    refine A.iconst (v := -1) eX5_readsText_111 (by decide) ?_
                    refine B.iret eX5_readsText_112 ?_
                    have fe := flt_end e4 yd1 (by have := (rok_of yd1).1; omega)
                    refine vl_of (hQ _ (e1.tr r1).u42 (by rw [fe.2, ur_n (by omega), r3, if_pos yd1]) (fun j hj => ?_)) (by rw [fe.1]; rfl)
                    rw [fe.2] at hj
                    rw [ur_n (by omega)]
                    exact tb2 j hj
                  · exact absurd rfl c19
                · exact absurd rfl c18
            · refine A.iconst (v := nI 1) eX5_readsText_54 (by decide) ?_
              refine A.goto eX5_readsText_55 ?_
              refine A.is2 eX5_readsText_59 ?_
              refine A.il3 eX5_readsText_60 ?_
              refine A.if_eqB eX5_readsText_61 (fun yd3 => ?_) (fun yd3 => ?_)
              · exact absurd yd1 yd3
              · refine A.il2 eX5_readsText_64 ?_
                refine A.if_eqN eX5_readsText_65 (fun c21 => ?_) (fun c21 => ?_)
                · exact absurd c21 (by decide)
                · refine A.al0 eX5_readsText_68 ?_
                  refine A.il1 eX5_readsText_69 ?_
                  refine A.cVi1 eX5_readsText_70 oX5_here kX5_104 ko42 (sX5_here (n := n) (a := 3 * k + 2) (f := f) (by omega) (by rw [r1.1 48 (by omega) (by omega) (by omega)]; exact hl2) (by omega) ra2 (by omega) (fun i hi => by rw [r1.1 47 (by omega) (by omega) (by omega), e1.1 47 (by omega) (by omega) (by omega)]; exact (hb i hi).1) ?_)
                  refine A.bipush (v := nI 59) eX5_readsText_73 (by decide) ?_
                  refine A.icmp_eq eX5_readsText_75 (fun yd4 => ?_) (fun yd4 => ?_)
                  · refine A.al0 eX5_readsText_90 ?_
                    refine A.dup eX5_readsText_91 rfl ?_
                    refine A.getI eX5_readsText_92 fX5_101 ko42 ?_
                    refine A.top ra2 ?_
                    refine A.il2 eX5_readsText_95 ?_
                    refine A.if_eqN eX5_readsText_96 (fun c23 => ?_) (fun c23 => ?_)
                    · exact absurd c23 (by decide)
                    · refine A.iconst (v := nI 1) eX5_readsText_99 (by decide) ?_
                      refine A.goto eX5_readsText_100 ?_
                      refine A.iaddN eX5_readsText_104 ?_
                      refine A.putI eX5_readsText_105 pX5_101 ko42 ?_
                      refine A.goto eX5_readsText_108 ?_
                      have tb2 : ∀ j, j < k + 1 → τ.1 50 (16 * 1 + 2 * j) = nI (f (3 * j) - 48) ∧ τ.1 50 (16 * 1 + 2 * j + 1) = nI (sec 5 (f (3 * j + 1))) := by
                        intro j hj
                        rcases Nat.lt_or_ge j k with z | z
                        · rw [r4 _ (by omega), r4 _ (by omega)]; exact e5 j z
                        · rw [show j = k by omega]; exact r5 yd1
                      have v59 : f (3 * k + 2) = 59 := by
                        rw [if_pos (show 3 * k + 2 < n by omega)] at yd4
                        exact (nI_eq (by have := (hb _ (show 3 * k + 2 < n by omega)).2; omega) (by omega)).mp yd4
                      obtain ⟨ra, rb, rc⟩ := rok_of yd1
                      refine A.eqw (by simp [wkL]) rfl rfl (ih (k + 1) _ (by omega) (by omega) e0 (e1.tr r1).u42 (by rw [ur_s, upd_s]; exact congrArg nI (by omega)) (by rw [ur_n (by omega), r3, if_pos yd1]) (fun i hi => ?_) (fun j hj => by rw [ur_n (by omega)]; exact tb2 j hj))
                      rcases (show i < 3 * k ∨ i = 3 * k ∨ i = 3 * k + 1 ∨ i = 3 * k + 2 by omega) with z | rfl | rfl | rfl
                      · exact e4 i z
                      · exact rb
                      · exact rc
                      · exact (okb2 (by omega)).mpr v59
                  · refine A.al0 eX5_readsText_78 ?_
                    refine A.getR eX5_readsText_79 fX5_28 ko42 kr42_8 ?_
                    refine A.il1 eX5_readsText_82 ?_
                    refine A.iconst (v := nI 0) eX5_readsText_83 (by decide) ?_
                    refine A.iastN eX5_readsText_84 ka49 ?_
                    have ra3 : (ur τ 49 (upd (τ.1 49) 1 (nI 0))).1 42 7 = nI (rat 5 f n k) := by rw [ur_n (by omega)]; exact r2
                    refine A.al0 eX5_readsText_85 ?_
                    refine A.getI eX5_readsText_86 fX5_101 ko42 ?_
                    refine A.top ra3 ?_
                    refine B.iret eX5_readsText_89 ?_
                    have fe := flt_semi e4 yd1 (by omega) (fun z => yd4 (by rw [if_pos (show 3 * k + 2 < n by omega), z]))
                    have rr : rat 5 f n k = 3 * k + 2 := by unfold rat; rw [if_pos yd1]
                    refine vl_of (hQ _ (e1.tr r1).u49 (by rw [fe.2, ur_s, upd_s]) (fun j hj => by rw [fe.2] at hj; exact absurd hj (Nat.not_lt_zero _))) (by rw [fe.1, rr, nI_z])
    exact A.eqw (by simp [wkL]) rfl rfl (lp 9 0 _ (by omega) (by omega) (by omega) ((Fr.rf 1 σ).u42.u49) (by rw [ur_n (by omega), ur_s, upd_s]) (by rw [ur_s, upd_s]) (fun i hi => by omega) (fun j hj => by omega))
