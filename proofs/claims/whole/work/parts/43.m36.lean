theorem in_row {i : Int32} : bI ((-1 : Int64).toInt ≤ i.toInt64.toInt ∧ i.toInt64.toInt ≤ (7 : Int64).toInt) = bI (i = -1 ∨ ck i 8) := by
  apply bI_congr
  rw [i64_ti, i_eq]
  show ((-1 : Int) ≤ i.toInt ∧ i.toInt ≤ 7) ↔ (i.toInt = (-1 : Int) ∨ (0 ≤ i.toInt ∧ i.toInt < (8 : Int)))
  omega
theorem aX5_rowOf {G : GW} {σ : St} {K : Int32 → St → Prop} {x : XS} {h q : Nat} {i : Int32} (hF : FM x σ) (bh : h < 24) (hi : i = -1 ∨ ck i 8) (hQ : ∀ τ : St, FM x τ → Fq (xg x).1 σ τ → K (if i = -1 then VrowN x h q else Vrow x h q i.toNatClampNeg) τ) : Ci G (r0 2 51) mX5_rowOf [rf G 42, .int (nI h), .int (nI q), .int i] σ K := by
  by_cases e : i = -1
  · simp only [if_pos e] at hQ
    subst e
    exact sX5_rowOfN hF bh hQ
  · simp only [if_neg e] at hQ
    have hc := hi.resolve_left e
    obtain ⟨i, bi, rfl⟩ := i_nat hc.1 hc.2
    simp only [nI_clamp (n := i) (by omega)] at hQ
    exact sX5_rowOfI hF bh bi hQ
set_option maxRecDepth 100000 in
set_option maxHeartbeats 4000000 in
theorem aX5_row {G : GW} {σ : St} {K : Int32 → St → Prop} {x : XS} {h q i : Int32} (hM : MI x σ) (hQ : ∀ τ : St, MI (x) τ → Fm σ τ → K (Rrow x h q i) τ) : Ci G (r0 5 115) mX5_row [rf G 42, .int h, .int q, .int i] σ K := by
  refine Ci.of [some (rf G 42), some (.int h), some (.int q), some (.int i)] ?_
  unfold Rrow at hQ
  have n8 := hM.np8
  have q6 := hM.nq6
  refine A.al0 eX5_row_0 ?_
  refine A.cVv0 eX5_row_1 oX5_find kX5_175 ko42 (sX5_find hM (fun τ g1 g2 => ?_))
  refine A.il1 eX5_row_4 ?_
  refine A.cSi1 eX5_row_5 oX5_isHour kX5_133 (sX5_isHour ?_)
  refine A.if_eqB eX5_row_8 (fun yw0 => ?_) (fun yw0 => ?_)
  · refine A.bipush (v := -2) eX5_row_43 (by decide) ?_
    refine B.iret eX5_row_45 ?_
    simp only [if_neg (show ¬ (ck h 24 ∧ ck q (xq x) ∧ (i = -1 ∨ ck i 8)) from fun z => yw0 z.1)] at hQ
    exact hQ τ g1.1 g2
  · refine A.al0 eX5_row_11 ?_
    refine A.il2 eX5_row_12 ?_
    refine A.cVi1 eX5_row_13 oX5_isPlace kX5_130 ko42 (sX5_isPlace (n := xq x) g1.2.1.2.1 (by omega) ?_)
    refine A.if_eqB eX5_row_16 (fun yw1 => ?_) (fun yw1 => ?_)
    · refine A.bipush (v := -2) eX5_row_43 (by decide) ?_
      refine B.iret eX5_row_45 ?_
      simp only [if_neg (show ¬ (ck h 24 ∧ ck q (xq x) ∧ (i = -1 ∨ ck i 8)) from fun z => yw1 z.2.1)] at hQ
      exact hQ τ g1.1 g2
    · refine A.il3 eX5_row_19 ?_
      refine A.i2l eX5_row_20 rfl ?_
      refine A.ldc2 eX5_row_21 nX5_227 ?_
      refine A.ldc2 eX5_row_24 nX5_120 ?_
      refine A.cSi3 eX5_row_27 oX5_in kX5_67 (sX5_in ?_)
      refine A.top in_row ?_
      refine A.if_eqB eX5_row_30 (fun yw2 => ?_) (fun yw2 => ?_)
      · refine A.bipush (v := -2) eX5_row_43 (by decide) ?_
        refine B.iret eX5_row_45 ?_
        simp only [if_neg (show ¬ (ck h 24 ∧ ck q (xq x) ∧ (i = -1 ∨ ck i 8)) from fun z => yw2 z.2.2)] at hQ
        exact hQ τ g1.1 g2
      · simp only [if_pos (show ck h 24 ∧ ck q (xq x) ∧ (i = -1 ∨ ck i 8) from ⟨yw0, yw1, yw2⟩)] at hQ
        obtain ⟨h, bh, rfl⟩ := i_nat yw0.1 yw0.2
        obtain ⟨q, bq, rfl⟩ := i_nat yw1.1 yw1.2
        simp only [nI_clamp (n := h) (by omega), nI_clamp (n := q) (by omega)] at hQ
        refine A.al0 eX5_row_33 ?_
        refine A.il1 eX5_row_34 ?_
        refine A.il2 eX5_row_35 ?_
        refine A.il3 eX5_row_36 ?_
        refine A.cVi3 eX5_row_37 oX5_rowOf kX5_229 ko42 (aX5_rowOf g1 bh yw2 (fun τ3 g3 g4 => ?_))
        refine A.goto eX5_row_40 ?_
        refine B.iret eX5_row_45 ?_
        exact hQ τ3 g3.1 (g2.tr g4.1)
section
variable {x : XS} {q : Nat}
theorem ck_i {n m : Nat} (h : n < m) (hm : m ≤ 1000) : ck (nI n) m := (ck_n (by omega)).mpr h
theorem Rp1 (hq : q < xq x) (q6 : xq x ≤ 6) : Rspoilt x (nI q) = Vspoilt x q := by
  unfold Rspoilt; rw [if_pos (ck_i hq (by omega)), nI_clamp (n := q) (by omega)]
theorem Rp2 {w : Nat} (hq : q < xq x) (q6 : xq x ≤ 6) (hw : w < 2) : Rsend x (nI q) (nI 3) (nI w) = Vsend x q 3 w := by
  unfold Rsend; rw [if_pos ⟨ck_i hq (by omega), ck_i (by omega) (by omega), ck_i hw (by omega)⟩, nI_clamp (n := q) (by omega), nI_clamp (n := 3) (by omega), nI_clamp (n := w) (by omega)]
theorem Rp3 {w : Nat} (hq : q < xq x) (q6 : xq x ≤ 6) (hw : w < 2) : Rkeep x (nI q) (nI 2) (nI 5) (nI w) = Vkeep x q 2 5 w := by
  unfold Rkeep; rw [if_pos ⟨ck_i hq (by omega), ck_i (by omega) (by omega), ck_i (by omega) (by omega), ck_i hw (by omega)⟩, nI_clamp (n := q) (by omega), nI_clamp (n := 2) (by omega), nI_clamp (n := 5) (by omega), nI_clamp (n := w) (by omega)]
theorem Rp4 (hq : q < xq x) (q6 : xq x ≤ 6) : Rrow x (nI 1) (nI q) (-1) = VrowN x 1 q := by
  unfold Rrow; rw [if_pos ⟨ck_i (by omega) (by omega), ck_i hq (by omega), Or.inl rfl⟩, if_pos rfl, nI_clamp (n := q) (by omega), nI_clamp (n := 1) (by omega)]
theorem Rp5 (hq : q < xq x) (q6 : xq x ≤ 6) : Rrow x (nI 1) (nI q) (nI 0) = Vrow x 1 q 0 := by
  unfold Rrow; rw [if_pos ⟨ck_i (by omega) (by omega), ck_i hq (by omega), Or.inr (ck_i (by omega) (by omega))⟩, if_neg (nI_nm1 (by omega)), nI_clamp (n := q) (by omega), nI_clamp (n := 1) (by omega), nI_clamp (n := 0) (by omega)]
theorem Rp6 {w : Nat} (hq : q < xq x) (q6 : xq x ≤ 6) (hw : w < 2) : Rnews x (nI 5) (nI q) (nI 2) (nI w) = Vnews x 5 q 2 w := by
  unfold Rnews; rw [if_pos ⟨ck_i (by omega) (by omega), ck_i hq (by omega), ck_i (by omega) (by omega), ck_i hw (by omega)⟩, nI_clamp (n := q) (by omega), nI_clamp (n := 5) (by omega), nI_clamp (n := 2) (by omega), nI_clamp (n := w) (by omega)]
theorem Rp7 (hq : q < xq x) (q6 : xq x ≤ 6) : Rroof x (nI 5) (nI q) (nI 0) = Vroof x 5 q 0 := by
  unfold Rroof; rw [if_pos ⟨ck_i (by omega) (by omega), ck_i hq (by omega), ck_i (by omega) (by omega)⟩, nI_clamp (n := q) (by omega), nI_clamp (n := 5) (by omega), nI_clamp (n := 0) (by omega)]
end
set_option maxRecDepth 100000 in
set_option maxHeartbeats 4000000 in
theorem sX5_tellsPlace {G : GW} {σ : St} {K : Int64 → St → Prop} {x : XS} {d : Int64} {q : Nat} (hF : FM x σ) (bq : q < xq x) (hQ : ∀ τ : St, FM x τ → Fq (xg x).1 σ τ → K (mP x d q) τ) : Cl G (r0 6 146) mX5_tellsPlace [rf G 42, .long d, .int (nI q)] σ K := by
  refine Cl.of [some (rf G 42), some (.long d), none, some (.int (nI q)), none, none, none, none] ?_
  have n8 := hF.np8
  have q6 := hF.nq6
  refine A.ldc2 eX5_tellsPlace_0 nX5_275 ?_
  refine A.ll1 eX5_tellsPlace_3 ?_
  refine A.lmul eX5_tellsPlace_4 ?_
  refine A.al0 eX5_tellsPlace_5 ?_
  refine A.il3 eX5_tellsPlace_6 ?_
  refine A.cVi1 eX5_tellsPlace_7 oX5_spoiltOf kX5_205 ko42 (sX5_spoiltOf hF bq ?_)
  refine A.i2l eX5_tellsPlace_10 rfl ?_
  refine A.ladd eX5_tellsPlace_11 ?_
  refine A.ls4 eX5_tellsPlace_12 ?_
  refine A.al0 eX5_tellsPlace_14 ?_
  refine A.il3 eX5_tellsPlace_15 ?_
  refine A.iconst (v := nI 3) eX5_tellsPlace_16 (by decide) ?_
  refine A.cVi2 eX5_tellsPlace_17 oX5_sendOf kX5_215 ko42 (sX5_sendOf (h := 3) hF bq (by omega) (fun τ1 s1 t1 => ?_))
  refine A.is6 eX5_tellsPlace_20 ?_
  refine A.ldc2 eX5_tellsPlace_22 nX5_275 ?_
  refine A.ll4 eX5_tellsPlace_25 ?_
  refine A.lmul eX5_tellsPlace_27 ?_
  refine A.il6 eX5_tellsPlace_28 ?_
  refine A.iconst (v := nI 0) eX5_tellsPlace_30 (by decide) ?_
  refine A.cSi2 eX5_tellsPlace_31 oX5_told kX5_218 (sX5_told (w := 0) (fun m em => by have := bst_lt em; have : 2 ^ xp x ≤ 2 ^ 8 := Nat.pow_le_pow_right (by omega) n8; omega) (by omega) ?_)
  refine A.i2l eX5_tellsPlace_34 rfl ?_
  refine A.ladd eX5_tellsPlace_35 ?_
  refine A.ls4 eX5_tellsPlace_36 ?_
  refine A.ldc2 eX5_tellsPlace_38 nX5_275 ?_
  refine A.ll4 eX5_tellsPlace_41 ?_
  refine A.lmul eX5_tellsPlace_43 ?_
  refine A.il6 eX5_tellsPlace_44 ?_
  refine A.iconst (v := nI 1) eX5_tellsPlace_46 (by decide) ?_
  refine A.cSi2 eX5_tellsPlace_47 oX5_told kX5_218 (sX5_told (w := 1) (fun m em => by have := bst_lt em; have : 2 ^ xp x ≤ 2 ^ 8 := Nat.pow_le_pow_right (by omega) n8; omega) (by omega) ?_)
  refine A.i2l eX5_tellsPlace_50 rfl ?_
  refine A.ladd eX5_tellsPlace_51 ?_
  refine A.ls4 eX5_tellsPlace_52 ?_
  refine A.al0 eX5_tellsPlace_54 ?_
  refine A.il3 eX5_tellsPlace_55 ?_
  refine A.iconst (v := nI 2) eX5_tellsPlace_56 (by decide) ?_
  refine A.iconst (v := nI 5) eX5_tellsPlace_57 (by decide) ?_
  refine A.cVi3 eX5_tellsPlace_58 oX5_keepOf kX5_220 ko42 (sX5_keepOf (h := 2) (v := 5) (q := q) s1 (by omega) (by omega) ?_)
  refine A.is7 eX5_tellsPlace_61 ?_
  refine A.ldc2 eX5_tellsPlace_63 nX5_275 ?_
  refine A.ll4 eX5_tellsPlace_66 ?_
  refine A.lmul eX5_tellsPlace_68 ?_
  refine A.il7 eX5_tellsPlace_69 ?_
  refine A.iconst (v := nI 0) eX5_tellsPlace_71 (by decide) ?_
  refine A.cSi2 eX5_tellsPlace_72 oX5_told kX5_218 (sX5_told (w := 0) (fun m em => by have := bst_lt em; have := crx_lt (x := x) (h := 2) (q := q) n8; omega) (by omega) ?_)
  refine A.i2l eX5_tellsPlace_75 rfl ?_
  refine A.ladd eX5_tellsPlace_76 ?_
  refine A.ls4 eX5_tellsPlace_77 ?_
  refine A.ldc2 eX5_tellsPlace_79 nX5_275 ?_
  refine A.ll4 eX5_tellsPlace_82 ?_
  refine A.lmul eX5_tellsPlace_84 ?_
  refine A.il7 eX5_tellsPlace_85 ?_
  refine A.iconst (v := nI 1) eX5_tellsPlace_87 (by decide) ?_
  refine A.cSi2 eX5_tellsPlace_88 oX5_told kX5_218 (sX5_told (w := 1) (fun m em => by have := bst_lt em; have := crx_lt (x := x) (h := 2) (q := q) n8; omega) (by omega) ?_)
  refine A.i2l eX5_tellsPlace_91 rfl ?_
  refine A.ladd eX5_tellsPlace_92 ?_
  refine A.ls4 eX5_tellsPlace_93 ?_
  refine A.ldc2 eX5_tellsPlace_95 nX5_275 ?_
  refine A.ll4 eX5_tellsPlace_98 ?_
  refine A.lmul eX5_tellsPlace_100 ?_
  refine A.al0 eX5_tellsPlace_101 ?_
  refine A.iconst (v := nI 1) eX5_tellsPlace_102 (by decide) ?_
  refine A.il3 eX5_tellsPlace_103 ?_
  refine A.iconst (v := -1) eX5_tellsPlace_104 (by decide) ?_
  refine A.cVi3 eX5_tellsPlace_105 oX5_rowOf kX5_229 ko42 (sX5_rowOfN (h := 1) s1 (by omega) (fun τ2 s2 t2 => ?_))
  refine A.i2l eX5_tellsPlace_108 rfl ?_
  refine A.ladd eX5_tellsPlace_109 ?_
  refine A.ls4 eX5_tellsPlace_110 ?_
  refine A.ldc2 eX5_tellsPlace_112 nX5_275 ?_
  refine A.ll4 eX5_tellsPlace_115 ?_
  refine A.lmul eX5_tellsPlace_117 ?_
  refine A.al0 eX5_tellsPlace_118 ?_
  refine A.iconst (v := nI 1) eX5_tellsPlace_119 (by decide) ?_
  refine A.il3 eX5_tellsPlace_120 ?_
  refine A.iconst (v := nI 0) eX5_tellsPlace_121 (by decide) ?_
  refine A.cVi3 eX5_tellsPlace_122 oX5_rowOf kX5_229 ko42 (sX5_rowOfI (h := 1) (i := 0) s2 (by omega) (by omega) (fun τ4 s4 t4 => ?_))
  refine A.i2l eX5_tellsPlace_125 rfl ?_
  refine A.ladd eX5_tellsPlace_126 ?_
  refine A.ls4 eX5_tellsPlace_127 ?_
  refine A.ldc2 eX5_tellsPlace_129 nX5_275 ?_
  refine A.ll4 eX5_tellsPlace_132 ?_
  refine A.lmul eX5_tellsPlace_134 ?_
  refine A.al0 eX5_tellsPlace_135 ?_
  refine A.iconst (v := nI 5) eX5_tellsPlace_136 (by decide) ?_
  refine A.il3 eX5_tellsPlace_137 ?_
  refine A.iconst (v := nI 2) eX5_tellsPlace_138 (by decide) ?_
  refine A.iconst (v := nI 0) eX5_tellsPlace_139 (by decide) ?_
  refine A.cVl4 eX5_tellsPlace_140 oX5_newsOf kX5_258 ko42 (sX5_newsOf (c := 5) (h := 2) (w := 0) s4 (by omega) bq (by omega) (by omega) (fun τ5 s5 t5 => ?_))
  refine A.ladd eX5_tellsPlace_143 ?_
  refine A.ls4 eX5_tellsPlace_144 ?_
  refine A.ldc2 eX5_tellsPlace_146 nX5_275 ?_
  refine A.ll4 eX5_tellsPlace_149 ?_
  refine A.lmul eX5_tellsPlace_151 ?_
  refine A.al0 eX5_tellsPlace_152 ?_
  refine A.iconst (v := nI 5) eX5_tellsPlace_153 (by decide) ?_
  refine A.il3 eX5_tellsPlace_154 ?_
  refine A.iconst (v := nI 2) eX5_tellsPlace_155 (by decide) ?_
  refine A.iconst (v := nI 1) eX5_tellsPlace_156 (by decide) ?_
  refine A.cVl4 eX5_tellsPlace_157 oX5_newsOf kX5_258 ko42 (sX5_newsOf (c := 5) (h := 2) (w := 1) s5 (by omega) bq (by omega) (by omega) (fun τ6 s6 t6 => ?_))
  refine A.ladd eX5_tellsPlace_160 ?_
  refine A.ls4 eX5_tellsPlace_161 ?_
  refine A.ldc2 eX5_tellsPlace_163 nX5_275 ?_
  refine A.ll4 eX5_tellsPlace_166 ?_
  refine A.lmul eX5_tellsPlace_168 ?_
  refine A.al0 eX5_tellsPlace_169 ?_
  refine A.iconst (v := nI 5) eX5_tellsPlace_170 (by decide) ?_
  refine A.il3 eX5_tellsPlace_171 ?_
  refine A.iconst (v := nI 0) eX5_tellsPlace_172 (by decide) ?_
  refine A.cVi3 eX5_tellsPlace_173 oX5_roofOf kX5_262 ko42 (sX5_roofOf (c := 5) (h := 0) s6 (by omega) bq (by omega) (fun τ7 s7 t7 => ?_))
  refine A.i2l eX5_tellsPlace_176 rfl ?_
  refine A.ladd eX5_tellsPlace_177 ?_
  refine B.lret eX5_tellsPlace_178 ?_
  refine vl_of (hQ τ7 s7 (((((t1.tr t2).tr t4).tr t5).tr t6).tr t7)) ?_
  unfold mP
  rw [Rp1 bq q6, Rp2 bq q6 (by omega), Rp2 bq q6 (by omega), Rp3 bq q6 (by omega), Rp3 bq q6 (by omega), Rp4 bq q6, Rp5 bq q6, Rp6 bq q6 (by omega), Rp6 bq q6 (by omega), Rp7 bq q6]
  rfl
