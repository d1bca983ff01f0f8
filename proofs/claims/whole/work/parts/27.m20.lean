/-! ===== the model: its state, in plain words ===== -/
theorem i64_ti (v : Int32) : (v.toInt64).toInt = v.toInt := Int32.toInt_toInt64 v
theorem in_ck {v : Int32} {c : Int64} {n : Nat} (hc : c.toInt = (n : Int) - 1) : bI ((0 : Int64).toInt ≤ v.toInt64.toInt ∧ v.toInt64.toInt ≤ c.toInt) = bI (ck v n) := by
  apply bI_congr
  rw [i64_ti, hc]
  show (0 ≤ v.toInt ∧ _) ↔ _
  constructor
  · intro ⟨a, b⟩; exact ⟨a, by omega⟩
  · intro ⟨a, b⟩; exact ⟨a, by omega⟩
theorem in_ckz {v : Int32} {n : Nat} (hn : n < 1000) : bI ((0 : Int64).toInt ≤ v.toInt64.toInt ∧ v.toInt64.toInt ≤ (zI ((n : Int) - (1 : Nat))).toInt64.toInt) = bI (ck v n) := by
  apply bI_congr
  rw [i64_ti, i64_ti, zI_toInt (by omega) (by omega)]
  show (0 ≤ v.toInt ∧ _) ↔ _
  constructor
  · intro ⟨a, b⟩; exact ⟨a, by omega⟩
  · intro ⟨a, b⟩; exact ⟨a, by omega⟩
def um (t : Nat) : Nat := if t = 0 then 1 else 5
theorem um_u {t : Nat} (h : t < 2) : Vu (um t) ∧ tt (um t) = t := by
  rcases (show t = 0 ∨ t = 1 by omega) with rfl | rfl
  · exact ⟨Or.inl rfl, rfl⟩
  · exact ⟨Or.inr rfl, rfl⟩
theorem lu_um {t : Nat} (h : t < 2) : lu (nI t) = um t := by
  rcases (show t = 0 ∨ t = 1 by omega) with rfl | rfl <;> rfl
theorem okt_ck {t : Int32} : okt t ↔ ck t 2 := by
  constructor
  · intro h
    rcases h with rfl | rfl <;> exact ⟨by decide, by decide⟩
  · intro h
    obtain ⟨n, hn, rfl⟩ := i_nat h.1 h.2
    rcases (show n = 0 ∨ n = 1 by omega) with rfl | rfl
    · exact Or.inl rfl
    · exact Or.inr rfl
def MT (x : XS) (σ : St) : Prop := ∀ t, t < 2 → σ.1 48 t = nI (tL x (um t)) ∧ tL x (um t) ≤ lb (um t) ∧ ∀ i, i < tL x (um t) → σ.1 47 (24 * t + i) = nI (tX x (um t) i) ∧ tX x (um t) i < 256
/-- rows of three -/
def M3 (σ : St) (r n A B C : Nat) (a b c : Nat → Nat) : Prop := ∀ k, k < n → (σ.1 r (3 * k) = nI (a k) ∧ a k < A) ∧ (σ.1 r (3 * k + 1) = nI (b k) ∧ b k < B) ∧ (σ.1 r (3 * k + 2) = nI (c k) ∧ c k < C)
def MG (x : XS) (σ : St) : Prop := σ.1 42 10 = nI (xg x).1 ∧ (xg x).1 ≤ 20 ∧ M3 σ 51 (xg x).1 24 8 6 (xg x).2.1 (xg x).2.2.1 (xg x).2.2.2
def MS (x : XS) (σ : St) : Prop := σ.1 42 18 = nI (xs x).1 ∧ (xs x).1 ≤ 8 ∧ M3 σ 58 (xs x).1 24 8 10 (xs x).2.1 (xs x).2.2.1 (xs x).2.2.2
def MF (x : XS) (σ : St) : Prop := σ.1 42 20 = nI (xf x).1 ∧ (xf x).1 ≤ 8 ∧ M3 σ 59 (xf x).1 24 6 2 (xf x).2.1 (xf x).2.2.1 (xf x).2.2.2
def MH (x : XS) (σ : St) : Prop := ∀ i, i < 4 → σ.1 43 i = ov ((xh x).1 i) ∧ (∀ g, (xh x).1 i = some g → g < 3 ∧ xz x i = (xh x).2.1 i ∧ σ.1 44 i = nI (xz x i)) ∧ xz x i ≤ 60 ∧ ∀ j, j < xz x i → σ.1 45 (60 * i + j) = (xh x).2.2 i j
def MI (x : XS) (σ : St) : Prop := MT x σ ∧ MG x σ ∧ MS x σ ∧ MF x σ ∧ MH x σ ∧ σ.1 42 4 = nI (xl x)
def Fm (σ τ : St) : Prop := ∀ k, k < 42 → τ.1 k = σ.1 k
theorem Fm.rf (σ : St) : Fm σ σ := fun _ _ => rfl
theorem Fm.tr {σ τ ρ : St} (h : Fm σ τ) (g : Fm τ ρ) : Fm σ ρ := fun k hk => (g k hk).trans (h k hk)
theorem Fm.ro {σ τ : St} {k : Nat} {f : Nat → Int32} (h : Fm σ τ) (hk : 42 ≤ k) : Fm σ (ur τ k f) := fun j hj => (ur_n (by omega)).trans (h j hj)
theorem Fm.rj {σ τ : St} {k : Nat} {f : Nat → Int64} (h : Fm σ τ) : Fm σ (uj τ k f) := h
theorem MT.cg {x : XS} {σ τ : St} (h1 : τ.1 47 = σ.1 47) (h2 : τ.1 48 = σ.1 48) (h : MT x σ) : MT x τ := by
  unfold MT; rw [h1, h2]; exact h
theorem M3.cg {σ τ : St} {r n A B C : Nat} {a b c : Nat → Nat} (h1 : ∀ j, j < 3 * n → τ.1 r j = σ.1 r j) (h : M3 σ r n A B C a b c) : M3 τ r n A B C a b c := by
  intro k hk
  rw [h1 _ (by omega), h1 _ (by omega), h1 _ (by omega)]
  exact h k hk
theorem MG.cg {x : XS} {σ τ : St} (h1 : τ.1 42 10 = σ.1 42 10) (h2 : ∀ j, j < 3 * (xg x).1 → τ.1 51 j = σ.1 51 j) (h : MG x σ) : MG x τ := ⟨h1.trans h.1, h.2.1, h.2.2.cg h2⟩
theorem MS.cg {x : XS} {σ τ : St} (h1 : τ.1 42 18 = σ.1 42 18) (h2 : τ.1 58 = σ.1 58) (h : MS x σ) : MS x τ := ⟨h1.trans h.1, h.2.1, h.2.2.cg (fun j _ => by rw [h2])⟩
theorem MF.cg {x : XS} {σ τ : St} (h1 : τ.1 42 20 = σ.1 42 20) (h2 : τ.1 59 = σ.1 59) (h : MF x σ) : MF x τ := ⟨h1.trans h.1, h.2.1, h.2.2.cg (fun j _ => by rw [h2])⟩
theorem MH.cg {x : XS} {σ τ : St} (h1 : τ.1 43 = σ.1 43) (h2 : τ.1 44 = σ.1 44) (h3 : τ.1 45 = σ.1 45) (h : MH x σ) : MH x τ := by
  unfold MH; rw [h1, h2, h3]; exact h
/-- what the workings may change -/
def Fq (n : Nat) (σ τ : St) : Prop := Fm σ τ ∧ (∀ k, k ∈ [43, 44, 45, 47, 48, 58, 59] → τ.1 k = σ.1 k) ∧ (∀ j, j ∈ [4, 10, 18, 20] → τ.1 42 j = σ.1 42 j) ∧ ∀ j, j < 3 * n → τ.1 51 j = σ.1 51 j
theorem Fq.rf (n : Nat) (σ : St) : Fq n σ σ := ⟨Fm.rf σ, fun _ _ => rfl, fun _ _ => rfl, fun _ _ => rfl⟩
theorem Fq.tr {n : Nat} {σ τ ρ : St} (h : Fq n σ τ) (g : Fq n τ ρ) : Fq n σ ρ := ⟨h.1.tr g.1, fun k hk => (g.2.1 k hk).trans (h.2.1 k hk), fun k hk => (g.2.2.1 k hk).trans (h.2.2.1 k hk), fun k hk => (g.2.2.2 k hk).trans (h.2.2.2 k hk)⟩
theorem Fq.ro {n : Nat} {σ τ : St} {k : Nat} {f : Nat → Int32} (h : Fq n σ τ) (hk : k ∈ [46, 49, 50, 52, 53, 54, 55, 56, 57]) : Fq n σ (ur τ k f) := by
  have hk2 : 46 ≤ k ∧ k ≠ 47 ∧ k ≠ 48 ∧ k ≠ 51 ∧ k ≠ 58 ∧ k ≠ 59 := by
    simp only [List.mem_cons, List.not_mem_nil, or_false] at hk
    omega
  refine ⟨h.1.ro (by omega), fun j hj => ?_, fun j hj => ?_, fun j hj => ?_⟩
  · have : j ≠ k := by
      simp only [List.mem_cons, List.not_mem_nil, or_false] at hj
      omega
    exact (ur_n this).trans (h.2.1 j hj)
  · rw [ur_n (show (42 : Nat) ≠ k by omega)]; exact h.2.2.1 j hj
  · rw [ur_n (show (51 : Nat) ≠ k by omega)]; exact h.2.2.2 j hj
theorem Fq.u42 {n : Nat} {σ τ : St} {j : Nat} {v : Int32} (h : Fq n σ τ) (hj : j = 7 ∨ j = 24) : Fq n σ (ur τ 42 (upd (τ.1 42) j v)) := by
  refine ⟨h.1.ro (by omega), fun k hk => ?_, fun k hk => ?_, fun k hk => ?_⟩
  · have : k ≠ 42 := by
      simp only [List.mem_cons, List.not_mem_nil, or_false] at hk
      omega
    exact (ur_n this).trans (h.2.1 k hk)
  · have : k ≠ j := by
      simp only [List.mem_cons, List.not_mem_nil, or_false] at hk
      omega
    rw [ur_s, upd_n this]; exact h.2.2.1 k hk
  · rw [ur_n (show (51 : Nat) ≠ 42 by omega)]; exact h.2.2.2 k hk
theorem Fq.u51 {n : Nat} {σ τ : St} {j : Nat} {v : Int32} (h : Fq n σ τ) (hj : 3 * n ≤ j) : Fq n σ (ur τ 51 (upd (τ.1 51) j v)) := by
  refine ⟨h.1.ro (by omega), fun k hk => ?_, fun k hk => ?_, fun k hk => ?_⟩
  · have : k ≠ 51 := by
      simp only [List.mem_cons, List.not_mem_nil, or_false] at hk
      omega
    exact (ur_n this).trans (h.2.1 k hk)
  · rw [ur_n (show (42 : Nat) ≠ 51 by omega)]; exact h.2.2.1 k hk
  · rw [ur_s, upd_n (by omega)]; exact h.2.2.2 k hk
theorem Fq.rj {n : Nat} {σ τ : St} {k : Nat} {f : Nat → Int64} (h : Fq n σ τ) : Fq n σ (uj τ k f) := h
theorem MI.cg {x : XS} {σ τ : St} (hF : Fq (xg x).1 σ τ) (h : MI x σ) : MI x τ := by
  obtain ⟨h1, h2, h3, h4, h5, h6⟩ := h
  exact ⟨h1.cg (hF.2.1 47 (by decide)) (hF.2.1 48 (by decide)), h2.cg (hF.2.2.1 10 (by decide)) hF.2.2.2, h3.cg (hF.2.2.1 18 (by decide)) (hF.2.1 58 (by decide)), h4.cg (hF.2.2.1 20 (by decide)) (hF.2.1 59 (by decide)), h5.cg (hF.2.1 43 (by decide)) (hF.2.1 44 (by decide)) (hF.2.1 45 (by decide)), (hF.2.2.1 4 (by decide)).trans h6⟩
theorem MI.fm {x : XS} {σ τ : St} (hF : Fi 0 41 σ τ) (h : MI x σ) : MI x τ := by
  obtain ⟨h1, h2, h3, h4, h5, h6⟩ := h
  have e : ∀ k, 41 < k → τ.1 k = σ.1 k := fun k hk => hF.1 k (Or.inr hk)
  exact ⟨h1.cg (e 47 (by omega)) (e 48 (by omega)), h2.cg (by rw [e 42 (by omega)]) (fun j _ => by rw [e 51 (by omega)]), h3.cg (by rw [e 42 (by omega)]) (e 58 (by omega)), h4.cg (by rw [e 42 (by omega)]) (e 59 (by omega)), h5.cg (e 43 (by omega)) (e 44 (by omega)) (e 45 (by omega)), by rw [e 42 (by omega)]; exact h6⟩
theorem CI.cgm {x : XS} {σ τ : St} (hF : Fm σ τ) (h : CI x σ) : CI x τ := by
  obtain ⟨h1, h2, h3, h4, h5, h6, h7, h8, h9, h10⟩ := h
  refine ⟨h1.cg (fun k _ _ => hF k (by omega)), h2.cg (fun k _ _ => hF k (by omega)), h3.cg (fun k _ _ => hF k (by omega)), h4.cg (fun k _ _ => hF k (by omega)), h5.cg (fun k _ _ => hF k (by omega)), h6.cg (fun k _ _ => hF k (by omega)), h7.cg (fun k _ _ => hF k (by omega)), h8.cg (fun k _ _ => hF k (by omega)), by rw [hF 0 (by omega)]; exact h9, ?_⟩
  rw [hF 0 (by omega)]
  exact h10.imp id (fun ⟨a, b⟩ => ⟨a, b.cg (fun k _ _ => hF k (by omega))⟩)
theorem M3.add {σ : St} {r n A B C a b c : Nat} {fa fb fc : Nat → Nat} (ha : a < A) (hb : b < B) (hc : c < C) (h : M3 σ r n A B C fa fb fc) {τ : St} (h0 : ∀ j, j < 3 * n → τ.1 r j = σ.1 r j) (h1 : τ.1 r (3 * n) = nI a) (h2 : τ.1 r (3 * n + 1) = nI b) (h3 : τ.1 r (3 * n + 2) = nI c) : M3 τ r (n + 1) A B C (fun k => if k = n then a else fa k) (fun k => if k = n then b else fb k) (fun k => if k = n then c else fc k) := by
  intro k hk
  by_cases e : k = n
  · subst e
    simp [ha, hb, hc, h1, h2, h3]
  · simp only [if_neg e]
    rw [h0 _ (by omega), h0 _ (by omega), h0 _ (by omega)]
    exact h k (by omega)
theorem M3.less {σ : St} {r n m A B C : Nat} {a b c : Nat → Nat} (h : M3 σ r n A B C a b c) (hm : m ≤ n) : M3 σ r m A B C a b c := fun k hk => h k (by omega)
set_option maxRecDepth 100000 in
set_option maxHeartbeats 4000000 in
theorem sX5_in {G : GW} {σ : St} {K : Int32 → St → Prop} {a b c : Int64}  (hQ : K (bI (b.toInt ≤ a.toInt ∧ a.toInt ≤ c.toInt)) σ) : Ci G (r0 0 0) mX5_in [.long a, .long b, .long c] σ K := by
  refine Ci.of [some (.long a), none, some (.long b), none, some (.long c), none] ?_
  refine A.ll0 eX5_in_0 ?_
  refine A.ll2 eX5_in_1 ?_
  refine A.lcmp eX5_in_2 ?_
  refine A.if_ltI eX5_in_3 (fun yc1 => ?_) (fun yc1 => ?_)
  · refine A.iconst (v := nI 0) eX5_in_17 (by decide) ?_
    refine B.zret eX5_in_18 (by decide) ?_
    first
      | exact vl_of hQ (bI_f (fun z => by have := lglt.mp yc1; omega)).symm
      | exact vl_of hQ (bI_f (fun z => by have := lggt.mp yc2; omega)).symm
      | exact vl_of hQ (bI_t ⟨by have w : ¬ (a.toInt < b.toInt) := fun z => (Int.not_lt.mpr yc1) (lglt.mpr z); omega, by have w : ¬ (c.toInt < a.toInt) := fun z => (Int.not_lt.mpr yc2) (lggt.mpr z); omega⟩).symm
  · refine A.ll0 eX5_in_6 ?_
    refine A.ll4 eX5_in_7 ?_
    refine A.lcmp eX5_in_9 ?_
    refine A.if_gtI eX5_in_10 (fun yc2 => ?_) (fun yc2 => ?_)
    · refine A.iconst (v := nI 0) eX5_in_17 (by decide) ?_
      refine B.zret eX5_in_18 (by decide) ?_
      first
        | exact vl_of hQ (bI_f (fun z => by have := lglt.mp yc1; omega)).symm
        | exact vl_of hQ (bI_f (fun z => by have := lggt.mp yc2; omega)).symm
        | exact vl_of hQ (bI_t ⟨by have w : ¬ (a.toInt < b.toInt) := fun z => (Int.not_lt.mpr yc1) (lglt.mpr z); omega, by have w : ¬ (c.toInt < a.toInt) := fun z => (Int.not_lt.mpr yc2) (lggt.mpr z); omega⟩).symm
    · refine A.iconst (v := nI 1) eX5_in_13 (by decide) ?_
      refine A.goto eX5_in_14 ?_
      refine B.zret eX5_in_18 (by decide) ?_
      first
        | exact vl_of hQ (bI_f (fun z => by have := lglt.mp yc1; omega)).symm
        | exact vl_of hQ (bI_f (fun z => by have := lggt.mp yc2; omega)).symm
        | exact vl_of hQ (bI_t ⟨by have w : ¬ (a.toInt < b.toInt) := fun z => (Int.not_lt.mpr yc1) (lglt.mpr z); omega, by have w : ¬ (c.toInt < a.toInt) := fun z => (Int.not_lt.mpr yc2) (lggt.mpr z); omega⟩).symm
set_option maxRecDepth 100000 in
set_option maxHeartbeats 4000000 in
theorem sX5_no {G : GW} {σ : St} {K : Int64 → St → Prop} {v : Int32}  (hQ : K (LL - v.toInt64) σ) : Cl G (r0 0 0) mX5_no [.int v] σ K := by
  refine Cl.of [some (.int v)] ?_
  refine A.ldc2 eX5_no_0 nX5_65 ?_
  refine A.il0 eX5_no_3 ?_
  refine A.i2l eX5_no_4 rfl ?_
  refine A.lsub eX5_no_5 ?_
  refine B.lret eX5_no_6 ?_
  exact hQ
set_option maxRecDepth 100000 in
set_option maxHeartbeats 4000000 in
theorem sX5_isTwo {G : GW} {σ : St} {K : Int32 → St → Prop} {v : Int32}  (hQ : K (bI (ck v 2)) σ) : Ci G (r0 1 25) mX5_isTwo [.int v] σ K := by
  refine Ci.of [some (.int v)] ?_
  refine A.il0 eX5_isTwo_0 ?_
  refine A.i2l eX5_isTwo_1 rfl ?_
  refine A.lconst (v := 0) eX5_isTwo_2 (by decide) ?_
  refine A.lconst (v := 1) eX5_isTwo_3 (by decide) ?_
  refine A.cSi3 eX5_isTwo_4 oX5_in kX5_67 (sX5_in ?_)
  refine A.top (in_ck (n := 2) (by decide)) ?_
  refine B.zret eX5_isTwo_7 (bI_01 _) ?_
  exact hQ
set_option maxRecDepth 100000 in
set_option maxHeartbeats 4000000 in
theorem sX5_isSheet {G : GW} {σ : St} {K : Int32 → St → Prop} {v : Int32}  (hQ : K (bI (ck v 4)) σ) : Ci G (r0 1 25) mX5_isSheet [.int v] σ K := by
  refine Ci.of [some (.int v)] ?_
  refine A.il0 eX5_isSheet_0 ?_
  refine A.i2l eX5_isSheet_1 rfl ?_
  refine A.lconst (v := 0) eX5_isSheet_2 (by decide) ?_
  refine A.ldc2 eX5_isSheet_3 nX5_75 ?_
  refine A.cSi3 eX5_isSheet_6 oX5_in kX5_67 (sX5_in ?_)
  refine A.top (in_ck (n := 4) (by decide)) ?_
  refine B.zret eX5_isSheet_9 (bI_01 _) ?_
  exact hQ
set_option maxRecDepth 100000 in
set_option maxHeartbeats 4000000 in
theorem sX5_isHour {G : GW} {σ : St} {K : Int32 → St → Prop} {v : Int32}  (hQ : K (bI (ck v 24)) σ) : Ci G (r0 1 25) mX5_isHour [.int v] σ K := by
  refine Ci.of [some (.int v)] ?_
  refine A.il0 eX5_isHour_0 ?_
  refine A.i2l eX5_isHour_1 rfl ?_
  refine A.lconst (v := 0) eX5_isHour_2 (by decide) ?_
  refine A.ldc2 eX5_isHour_3 nX5_118 ?_
  refine A.cSi3 eX5_isHour_6 oX5_in kX5_67 (sX5_in ?_)
  refine A.top (in_ck (n := 24) (by decide)) ?_
  refine B.zret eX5_isHour_9 (bI_01 _) ?_
  exact hQ
set_option maxRecDepth 100000 in
set_option maxHeartbeats 4000000 in
theorem sX5_isAnyone {G : GW} {σ : St} {K : Int32 → St → Prop} {v : Int32}  (hQ : K (bI (ck v 8)) σ) : Ci G (r0 1 25) mX5_isAnyone [.int v] σ K := by
  refine Ci.of [some (.int v)] ?_
  refine A.il0 eX5_isAnyone_0 ?_
  refine A.i2l eX5_isAnyone_1 rfl ?_
  refine A.lconst (v := 0) eX5_isAnyone_2 (by decide) ?_
  refine A.ldc2 eX5_isAnyone_3 nX5_120 ?_
  refine A.cSi3 eX5_isAnyone_6 oX5_in kX5_67 (sX5_in ?_)
  refine A.top (in_ck (n := 8) (by decide)) ?_
  refine B.zret eX5_isAnyone_9 (bI_01 _) ?_
  exact hQ
set_option maxRecDepth 100000 in
set_option maxHeartbeats 4000000 in
theorem sX5_isAnyPlace {G : GW} {σ : St} {K : Int32 → St → Prop} {v : Int32}  (hQ : K (bI (ck v 6)) σ) : Ci G (r0 1 25) mX5_isAnyPlace [.int v] σ K := by
  refine Ci.of [some (.int v)] ?_
  refine A.il0 eX5_isAnyPlace_0 ?_
  refine A.i2l eX5_isAnyPlace_1 rfl ?_
  refine A.lconst (v := 0) eX5_isAnyPlace_2 (by decide) ?_
  refine A.ldc2 eX5_isAnyPlace_3 nX5_122 ?_
  refine A.cSi3 eX5_isAnyPlace_6 oX5_in kX5_67 (sX5_in ?_)
  refine A.top (in_ck (n := 6) (by decide)) ?_
  refine B.zret eX5_isAnyPlace_9 (bI_01 _) ?_
  exact hQ
set_option maxRecDepth 100000 in
set_option maxHeartbeats 4000000 in
theorem sX5_isIn {G : GW} {σ : St} {K : Int32 → St → Prop} {m k : Nat} (hm : m < 2147483648) (hk : k < 32) (hQ : K (bI (inb m k = true)) σ) : Ci G (r0 0 0) mX5_isIn [.int (nI m), .int (nI k)] σ K := by
  refine Ci.of [some (.int (nI m)), some (.int (nI k))] ?_
  refine A.il0 eX5_isIn_0 ?_
  refine A.il1 eX5_isIn_1 ?_
  have hand := @Nat.and_le_right (m / 2 ^ k) 1
  refine A.ishrN eX5_isIn_2 ?_
  refine A.iconst (v := nI 1) eX5_isIn_3 (by decide) ?_
  refine A.iandN eX5_isIn_4 ?_
  refine A.iconst (v := nI 1) eX5_isIn_5 (by decide) ?_
  refine A.icmp_neN eX5_isIn_6 (fun yc1 => ?_) (fun yc1 => ?_)
  · refine A.iconst (v := nI 0) eX5_isIn_13 (by decide) ?_
    refine B.zret eX5_isIn_14 (by decide) ?_
    first
      | exact vl_of hQ (bI_t (inb_t yc1)).symm
      | exact vl_of hQ (bI_f (by rw [inb_f yc1]; decide)).symm
  · refine A.iconst (v := nI 1) eX5_isIn_9 (by decide) ?_
    refine A.goto eX5_isIn_10 ?_
    refine B.zret eX5_isIn_14 (by decide) ?_
    first
      | exact vl_of hQ (bI_t (inb_t yc1)).symm
      | exact vl_of hQ (bI_f (by rw [inb_f yc1]; decide)).symm
def on1 (m : Nat) : Nat := m &&& (m - 1)
theorem on1_pop : ∀ m, m < 256 → m ≠ 0 → pop m = pop (on1 m) + 1 ∧ on1 m < m := by decide +kernel
theorem pop_0 : pop 0 = 0 := by decide
set_option maxRecDepth 100000 in
set_option maxHeartbeats 4000000 in
theorem sX5_ones {G : GW} {σ : St} {K : Int32 → St → Prop} {m : Nat} (hm : m < 256) (hQ : K (nI (pop m)) σ) : Ci G (r0 0 0) mX5_ones [.int (nI m)] σ K := by
  refine Ci.of [some (.int (nI m)), none, none] ?_
  refine A.iconst (v := nI 0) eX5_ones_0 (by decide) ?_
  refine A.is1 eX5_ones_1 ?_
  refine A.il0 eX5_ones_2 ?_
  refine A.is2 eX5_ones_3 ?_
  have lp : ∀ (fu i : Nat) (r : Nat), r < fu → r < 256 → pop m = i + pop r → B G (r0 0 0) mX5_ones 4 [some (.int (nI m)), some (.int (nI i)), some (.int (nI r))] [] (σ) (Pi K) := by
    intro fu
    induction fu with
    | zero => intro i r h1 h2; omega
    | succ fu ih =>
      intro i r h1 h2 e1
      have p8 := pop_le m
      refine A.il2 eX5_ones_4 ?_
      refine A.if_eqN eX5_ones_5 (fun yc1 => ?_) (fun yc1 => ?_)
      · refine A.il1 eX5_ones_20 ?_
        refine B.iret eX5_ones_21 ?_
        refine vl_of hQ ?_
        rw [e1, yc1, pop_0, Nat.add_zero]
      · refine A.inc1N eX5_ones_8 ?_
        refine A.il2 eX5_ones_11 ?_
        refine A.il2 eX5_ones_12 ?_
        refine A.iconst (v := nI 1) eX5_ones_13 (by decide) ?_
        refine A.isubN eX5_ones_14 ?_
        refine A.iandN eX5_ones_15 ?_
        refine A.is2 eX5_ones_16 ?_
        refine A.goto eX5_ones_17 ?_
        have o1 := on1_pop r h2 yc1
        exact ih (i + 1) (on1 r) (by omega) (by omega) (by omega)
  exact lp (m + 1) 0 m (by omega) (by omega) (by omega)
theorem eus_go {n : Nat} {s : Nat × Nat} (h : ¬ (eus n s).2 = 0) : eus (n + 1) s = ((eus n s).2, (eus n s).1 % (eus n s).2) := by
  show eust _ = _; unfold eust; rw [if_neg h]
set_option maxRecDepth 100000 in
set_option maxHeartbeats 4000000 in
theorem sX5_part {G : GW} {σ : St} {K : Int64 → St → Prop} {a d w : Nat} (ha : a < 2 ^ 48) (hd : d < 2 ^ 48) (h0 : 0 < d) (hw : w < 2) (hQ : K (lN ((if w = 0 then a else d) / Nat.gcd a d)) σ) : Cl G (r0 0 0) mX5_part [.long (lN a), .long (lN d), .int (nI w)] σ K := by
  refine Cl.of [some (.long (lN a)), none, some (.long (lN d)), none, some (.int (nI w)), none, none, none, none, none, none] ?_
  have hg : 0 < Nat.gcd a d := Nat.gcd_pos_of_pos_right a h0
  have hgl : Nat.gcd a d ≤ d := Nat.gcd_le_right a h0
  refine A.ll0 eX5_part_0 ?_
  refine A.ls5 eX5_part_1 ?_
  refine A.ll2 eX5_part_3 ?_
  refine A.ls7 eX5_part_4 ?_
  have lp : ∀ (fu i : Nat), 100 - i < fu → i ≤ 100 → B G (r0 0 0) mX5_part 6 [some (.long (lN a)), none, some (.long (lN d)), none, some (.int (nI w)), some (.long (lN (eus i (a, d)).1)), none, some (.long (lN (eus i (a, d)).2)), none, none, none] [] (σ) (Pl K) := by
    intro fu
    induction fu with
    | zero => intro i  h1 h2; omega
    | succ fu ih =>
      intro i  h1 h2 
      have bd := eus_le (s := (a, d)) (M := 2 ^ 48) ha hd i
      refine A.ll7 eX5_part_6 ?_
      refine A.lconst (v := 0) eX5_part_8 (by decide) ?_
      refine A.lcmp eX5_part_9 ?_
      refine A.if_eq eX5_part_10 (fun yc2 => ?_) (fun yc2 => ?_)
      · have hz : (eus i (a, d)).2 = 0 := (pk_lEQ (b := 0) (by omega) (by omega)).mp (lg0.mp yc2)
        have hge := eus_gcd i (a, d)
        rw [hz, Nat.gcd_zero_right] at hge
        refine A.il4 eX5_part_31 ?_
        refine A.if_neN eX5_part_33 (fun yc3 => ?_) (fun yc3 => ?_)
        · refine A.ll2 eX5_part_40 ?_
          refine A.ll5 eX5_part_41 ?_
          rw [hge]
          refine A.ldiv eX5_part_43 (fun z => (Nat.pos_iff_ne_zero.mp hg) ((pk_lEQ (b := 0) (by omega) (by omega)).mp z)) ?_
          refine B.lret eX5_part_44 ?_
          refine vl_of hQ ?_
          (first | rw [if_pos yc3] | rw [if_neg yc3])
          exact pk_lDiv (by omega) hg (by omega)
        · refine A.ll0 eX5_part_36 ?_
          refine A.goto eX5_part_37 ?_
          refine A.ll5 eX5_part_41 ?_
          rw [hge]
          refine A.ldiv eX5_part_43 (fun z => (Nat.pos_iff_ne_zero.mp hg) ((pk_lEQ (b := 0) (by omega) (by omega)).mp z)) ?_
          refine B.lret eX5_part_44 ?_
          refine vl_of hQ ?_
          (first | rw [if_pos yc3] | rw [if_neg yc3])
          exact pk_lDiv (by omega) hg (by omega)
      · have hy : ¬ (eus i (a, d)).2 = 0 := fun z => yc2 (lg0.mpr (by rw [z]; rfl))
        refine A.ll5 eX5_part_13 ?_
        refine A.ll7 eX5_part_15 ?_
        refine A.lrem eX5_part_17 (fun z => hy ((pk_lEQ (b := 0) (by omega) (by omega)).mp z)) ?_
        refine A.ls9 eX5_part_18 ?_
        refine A.ll7 eX5_part_20 ?_
        refine A.ls5 eX5_part_22 ?_
        refine A.ll9 eX5_part_24 ?_
        refine A.ls7 eX5_part_26 ?_
        refine A.goto eX5_part_28 ?_
        exact A.eqw (by rw [eus_go hy, pk_lRem (by omega) (Nat.pos_of_ne_zero hy) (by omega)]; simp [wkL]) rfl rfl (ih (i + 1) (by have w9 : ¬ 97 ≤ i := fun z => hy (eus_zero 48 (a, d) hd i (by omega)); omega) (by have w9 : ¬ 97 ≤ i := fun z => hy (eus_zero 48 (a, d) hd i (by omega)); omega))
  exact A.eqw (by simp [wkL, eus]) rfl rfl (lp 101 0 (by omega) (by omega))
set_option maxRecDepth 100000 in
set_option maxHeartbeats 4000000 in
theorem sX5_finds {G : GW} {σ : St} {K : Int32 → St → Prop} {n : Nat}  (hQ : K (fnd n) (ur σ 42 (upd (σ.1 42) 4 (nI n)))) : Ci G (r0 0 0) mX5_finds [rf G 42, .int (nI n)] σ K := by
  refine Ci.of [some (rf G 42), some (.int (nI n))] ?_
  refine A.al0 eX5_finds_0 ?_
  refine A.il1 eX5_finds_1 ?_
  refine A.putI eX5_finds_2 pX5_71 ko42 ?_
  refine A.bipush (v := -10) eX5_finds_5 (by decide) ?_
  refine A.il1 eX5_finds_7 ?_
  refine A.isub eX5_finds_8 ?_
  refine B.iret eX5_finds_9 ?_
  exact hQ
set_option maxRecDepth 100000 in
set_option maxHeartbeats 4000000 in
theorem sX5_cut {G : GW} {σ : St} {K : Int32 → St → Prop} {f v : Int32}  (hQ : K (cutI f v) σ) : Ci G (r0 0 0) mX5_cut [.int f, .int v] σ K := by
  refine Ci.of [some (.int f), some (.int v)] ?_
  refine A.il0 eX5_cut_0 ?_
  refine A.if_ne eX5_cut_1 (fun yc1 => ?_) (fun yc1 => ?_)
  · refine A.il0 eX5_cut_9 ?_
    refine A.iconst (v := nI 1) eX5_cut_10 (by decide) ?_
    refine A.icmp_ne eX5_cut_11 (fun yc2 => ?_) (fun yc2 => ?_)
    · refine A.il1 eX5_cut_19 ?_
      refine B.iret eX5_cut_20 ?_
      refine vl_of hQ ?_
      unfold cutI
      first
        | (rw [if_pos yc1])
        | (rw [if_neg yc1, if_pos yc2])
        | (rw [if_neg yc1, if_neg yc2])
    · refine A.il1 eX5_cut_14 ?_
      refine A.i2s eX5_cut_15 rfl ?_
      refine A.goto eX5_cut_16 ?_
      refine B.iret eX5_cut_20 ?_
      refine vl_of hQ ?_
      unfold cutI
      first
        | (rw [if_pos yc1])
        | (rw [if_neg yc1, if_pos yc2])
        | (rw [if_neg yc1, if_neg yc2])
  · refine A.il1 eX5_cut_4 ?_
    refine A.i2b eX5_cut_5 rfl ?_
    refine A.goto eX5_cut_6 ?_
    refine B.iret eX5_cut_20 ?_
    refine vl_of hQ ?_
    unfold cutI
    first
      | (rw [if_pos yc1])
      | (rw [if_neg yc1, if_pos yc2])
      | (rw [if_neg yc1, if_neg yc2])
