def Rlose (x : XS) (i : Int32) : Int32 := if ck i 4 then if ov ((xh x).1 i.toNatClampNeg) = -1 then fnd 1 else nI (xz x i.toNatClampNeg) else -2
def Nlose (x : XS) (i : Int32) : XS := if ck i 4 then if ov ((xh x).1 i.toNatClampNeg) = -1 then wl x 1 else wh x i.toNatClampNeg none 0 (fun _ => 0) else x
set_option maxRecDepth 100000 in
set_option maxHeartbeats 4000000 in
theorem sX4_lose {G : GW} {σ : St} {K : Int32 → St → Prop} {x : XS} {i s : Nat} (hC : CI x σ) (bi : i < 4) (es : s = 22 + 2 * i) (hQ : ∀ τ : St, CI (if ov ((xh x).1 i) = -1 then wl x 1 else wh x i none 0 (fun _ => 0)) τ → Fi 0 41 σ τ → K (if ov ((xh x).1 i) = -1 then fnd 1 else nI (xz x i)) τ) : Ci G (r0 2 42) mX4_lose [rf G 0, .int (nI i)] σ K := by
  refine Ci.of [some (rf G 0), some (.int (nI i)), none, none] ?_
  have hs : Vs s := Vs_of bi es
  have sf := hC.sf bi es
  have sz6 := hC.sz6 bi
  have n8 := hC.np8
  have q6 := hC.nq6
  refine A.al0 eX4_lose_0 ?_
  refine A.il1 eX4_lose_1 ?_
  refine A.cVa1 eX4_lose_2 oX4_sheetOf kX4_116 ko0 (sX4_sheetOf bi es ?_)
  refine A.as2 eX4_lose_5 ?_
  refine A.al2 eX4_lose_6 ?_
  refine A.ifnonnull eX4_lose_7 ?_
  refine A.al2 eX4_lose_13 ?_
  refine A.cVi0 eX4_lose_14 oX1_isLost kX4_120 (kso hs) (sX1_isLost hs ?_)
  refine A.if_eqB eX4_lose_17 (fun yd1 => ?_) (fun yd1 => ?_)
  · refine A.al2 eX4_lose_26 ?_
    refine A.getI eX4_lose_27 fX4_126 (kso hs) ?_
    refine A.top (hC.sz bi es yd1) ?_
    refine A.is3 eX4_lose_30 ?_
    refine A.al2 eX4_lose_31 ?_
    refine A.cVv0 eX4_lose_32 oX1_drop kX4_242 (kso hs) (sX1_drop hs ?_)
    refine A.il3 eX4_lose_35 ?_
    refine B.iret eX4_lose_36 ?_
    simp only [if_neg (show ¬ ov ((xh x).1 i) = -1 by rw [← sf]; exact yd1)] at hQ
    exact hQ _ (CI.setH bi es hC (fun k a b => ur_n a) (Or.inl ⟨rfl, by rw [ur_s, upd_n (by omega), upd_s]⟩)) ((Fi.rf 0 41 σ).ur (by omega) (by omega))
  · refine A.al0 eX4_lose_20 ?_
    refine A.iconst (v := nI 1) eX4_lose_21 (by decide) ?_
    refine A.cVi1 eX4_lose_22 oX4_finding kX4_123 ko0 (sX4_finding ?_)
    refine B.iret eX4_lose_25 ?_
    simp only [if_pos (show ov ((xh x).1 i) = -1 by rw [← sf]; exact yd1)] at hQ
    exact hQ _ hC.setL ((Fi.rf 0 41 σ).ur (by omega) (by omega))
set_option maxRecDepth 100000 in
set_option maxHeartbeats 4000000 in
theorem zX4_lose {G : GW} {σ : St} {K : Int32 → St → Prop} {i : Int32} (h0 : ¬ ck i 4) (hQ : K (-2) σ) : Ci G (r0 2 42) mX4_lose [rf G 0, .int i] σ K := by
  refine Ci.of [some (rf G 0), some (.int i), none, none] ?_
  refine A.al0 eX4_lose_0 ?_
  refine A.il1 eX4_lose_1 ?_
  refine A.cVa1 eX4_lose_2 oX4_sheetOf kX4_116 ko0 (sX4_sheetOfN h0 ?_)
  refine A.an_s2 eX4_lose_5 ?_
  refine A.an2 eX4_lose_6 ?_
  refine A.ifnonnullN eX4_lose_7 ?_
  refine A.bipush (v := -2) eX4_lose_10 (by decide) ?_
  refine B.iret eX4_lose_12 ?_
  exact hQ
theorem aX4_lose {G : GW} {σ : St} {K : Int32 → St → Prop} {x : XS} {i : Int32} (hC : CI x σ) (hQ : ∀ τ : St, CI (Nlose x i) τ → Fi 0 41 σ τ → K (Rlose x i) τ) : Ci G (r0 2 42) mX4_lose [rf G 0, .int i] σ K := by
  unfold Rlose Nlose at hQ
  by_cases hi : ck i 4
  · simp only [if_pos hi] at hQ
    obtain ⟨i, bi, rfl⟩ := i_nat hi.1 hi.2
    simp only [nI_clamp (n := i) (by omega)] at hQ
    exact sX4_lose hC bi rfl hQ
  · simp only [if_neg hi] at hQ
    exact zX4_lose hi (hQ σ hC (Fi.rf _ _ _))
def Rlay (x : XS) (i f j v : Int32) : Int32 := if ck i 4 ∧ ck f 3 then if fa x i.toNatClampNeg (nI f.toNatClampNeg) j = 0 then 1 else fnd (fa x i.toNatClampNeg (nI f.toNatClampNeg) j) else -2
def Nlay (x : XS) (i f j v : Int32) : XS := if ck i 4 ∧ ck f 3 then if fa x i.toNatClampNeg (nI f.toNatClampNeg) j = 0 then wh x i.toNatClampNeg ((xh x).1 i.toNatClampNeg) ((xh x).2.1 i.toNatClampNeg) (upd ((xh x).2.2 i.toNatClampNeg) j.toNatClampNeg (cutI (nI f.toNatClampNeg) v)) else wl x (fa x i.toNatClampNeg (nI f.toNatClampNeg) j) else x
set_option maxRecDepth 100000 in
set_option maxHeartbeats 4000000 in
theorem sX4_lay {G : GW} {σ : St} {K : Int32 → St → Prop} {x : XS} {i s f : Nat} {j v : Int32} (hC : CI x σ) (bi : i < 4) (es : s = 22 + 2 * i) (bf : f < 3) (hQ : ∀ τ : St, CI (if fa x i (nI f) j = 0 then wh x i ((xh x).1 i) ((xh x).2.1 i) (upd ((xh x).2.2 i) j.toNatClampNeg (cutI (nI f) v)) else wl x (fa x i (nI f) j)) τ → Fi 0 41 σ τ → K (if fa x i (nI f) j = 0 then 1 else fnd (fa x i (nI f) j)) τ) : Ci G (r0 2 43) mX4_lay [rf G 0, .int (nI i), .int (nI f), .int j, .int v] σ K := by
  refine Ci.of [some (rf G 0), some (.int (nI i)), some (.int (nI f)), some (.int j), some (.int v), none, none] ?_
  have hs : Vs s := Vs_of bi es
  have sf := hC.sf bi es
  have sz6 := hC.sz6 bi
  have n8 := hC.np8
  have q6 := hC.nq6
  refine A.al0 eX4_lay_0 ?_
  refine A.il1 eX4_lay_1 ?_
  refine A.cVa1 eX4_lay_2 oX4_sheetOf kX4_116 ko0 (sX4_sheetOf bi es ?_)
  refine A.as5 eX4_lay_5 ?_
  refine A.al5 eX4_lay_7 ?_
  refine A.ifnull eX4_lay_9 ?_
  refine A.il2 eX4_lay_12 ?_
  refine A.iconst (v := nI 3) eX4_lay_13 (by decide) ?_
  refine A.cSi2 eX4_lay_14 oX4_isBelow kX4_67 (sX4_isBelowIN (b := 3) (by omega) ?_)
  refine A.if_neB eX4_lay_17 (fun yw0 => ?_) (fun yw0 => ?_)
  · refine A.al5 eX4_lay_23 ?_
    refine A.il2 eX4_lay_25 ?_
    refine A.il3 eX4_lay_26 ?_
    refine A.cSi3 eX4_lay_27 oX4_findingAt kX4_245 (sX4_findingAt (z := xz x i) hs (hC.sz bi es) sz6 ?_)
    refine A.top (show _ = nI (fa x i (nI f) j) by unfold fa; rw [sf]) ?_
    have fa3 : fa x i (nI f) j < 2147483648 := by
      unfold fa
      split
      · omega
      · split
        · omega
        · split <;> omega
    refine A.is6 eX4_lay_30 ?_
    refine A.il6 eX4_lay_32 ?_
    refine A.if_eqN eX4_lay_34 (fun yd1 => ?_) (fun yd1 => ?_)
    · have fz : ¬ ov ((xh x).1 i) = -1 ∧ ov ((xh x).1 i) = nI f ∧ (0 ≤ j.toInt ∧ j.toInt < (xz x i : Int)) := by
        have w := yd1
        unfold fa at w
        split at w
        · omega
        · next q1 =>
          split at w
          · omega
          · next q2 =>
            split at w
            · next q3 => exact ⟨q1, Decidable.byContradiction q2, q3⟩
            · omega
      have hne : ¬ σ.1 s 1 = -1 := by rw [sf]; exact fz.1
      obtain ⟨g, eg1, eg2, eg3, eg4⟩ := hC.sg bi es hne
      obtain ⟨j, hj, rfl⟩ := i_nat fz.2.2.1 fz.2.2.2
      refine A.al5 eX4_lay_44 ?_
      refine A.il3 eX4_lay_46 ?_
      refine A.il4 eX4_lay_47 ?_
      refine A.cVv2 eX4_lay_49 oX1_put kX4_249 (kso hs) (sX1_put hs (hC.sz bi es hne) sz6 hj ?_)
      refine A.iconst (v := nI 1) eX4_lay_52 (by decide) ?_
      refine B.iret eX4_lay_53 ?_
      simp only [if_pos yd1, nI_clamp (n := j) (by omega)] at hQ
      refine hQ _ (CI.setH bi es hC (fun k a b => ur_n b) (Or.inr ⟨g, eg1, eg2, by rw [ur_n (by omega)]; exact eg3, by rw [ur_n (by omega), ← eg4]; exact hC.sz bi es hne, by rw [← eg4]; exact sz6, fun k hk => ?_⟩)) ((Fi.rf 0 41 σ).ur (by omega) (by omega))
      rw [ur_s, show σ.1 s 1 = nI f from sf.trans fz.2.1]
      by_cases e : k = j
      · rw [e, upd_s, upd_s]
      · rw [upd_n e, upd_n e]; exact hC.si bi es (by omega)
    · refine A.al0 eX4_lay_37 ?_
      refine A.il6 eX4_lay_38 ?_
      refine A.cVi1 eX4_lay_40 oX4_finding kX4_123 ko0 (sX4_finding ?_)
      refine B.iret eX4_lay_43 ?_
      simp only [if_neg yd1] at hQ
      exact hQ _ hC.setL ((Fi.rf 0 41 σ).ur (by omega) (by omega))
  · exact absurd ⟨by rw [nI_ti (by omega)]; omega, by rw [nI_ti (by omega)]; omega⟩ yw0
set_option maxRecDepth 100000 in
set_option maxHeartbeats 4000000 in
theorem bX4_lay {G : GW} {σ : St} {K : Int32 → St → Prop} {i s : Nat} {f j v : Int32} (bi : i < 4) (es : s = 22 + 2 * i) (hb : ¬ (ck f 3)) (hQ : K (-2) σ) : Ci G (r0 2 43) mX4_lay [rf G 0, .int (nI i), .int f, .int j, .int v] σ K := by
  refine Ci.of [some (rf G 0), some (.int (nI i)), some (.int f), some (.int j), some (.int v), none, none] ?_
  refine A.al0 eX4_lay_0 ?_
  refine A.il1 eX4_lay_1 ?_
  refine A.cVa1 eX4_lay_2 oX4_sheetOf kX4_116 ko0 (sX4_sheetOf bi es ?_)
  refine A.as5 eX4_lay_5 ?_
  refine A.al5 eX4_lay_7 ?_
  refine A.ifnull eX4_lay_9 ?_
  refine A.il2 eX4_lay_12 ?_
  refine A.iconst (v := nI 3) eX4_lay_13 (by decide) ?_
  refine A.cSi2 eX4_lay_14 oX4_isBelow kX4_67 (sX4_isBelowIN (b := 3) (by omega) ?_)
  refine A.if_neB eX4_lay_17 (fun yw0 => ?_) (fun yw0 => ?_)
  · exact absurd yw0 hb
  · refine A.bipush (v := -2) eX4_lay_20 (by decide) ?_
    refine B.iret eX4_lay_22 ?_
    exact hQ
set_option maxRecDepth 100000 in
set_option maxHeartbeats 4000000 in
theorem zX4_lay {G : GW} {σ : St} {K : Int32 → St → Prop} {i f j v : Int32} (h0 : ¬ ck i 4) (hQ : K (-2) σ) : Ci G (r0 2 43) mX4_lay [rf G 0, .int i, .int f, .int j, .int v] σ K := by
  refine Ci.of [some (rf G 0), some (.int i), some (.int f), some (.int j), some (.int v), none, none] ?_
  refine A.al0 eX4_lay_0 ?_
  refine A.il1 eX4_lay_1 ?_
  refine A.cVa1 eX4_lay_2 oX4_sheetOf kX4_116 ko0 (sX4_sheetOfN h0 ?_)
  refine A.an_s5 eX4_lay_5 ?_
  refine A.an5 eX4_lay_7 ?_
  refine A.ifnullN eX4_lay_9 ?_
  refine A.bipush (v := -2) eX4_lay_20 (by decide) ?_
  refine B.iret eX4_lay_22 ?_
  exact hQ
theorem aX4_lay {G : GW} {σ : St} {K : Int32 → St → Prop} {x : XS} {i f j v : Int32} (hC : CI x σ) (hQ : ∀ τ : St, CI (Nlay x i f j v) τ → Fi 0 41 σ τ → K (Rlay x i f j v) τ) : Ci G (r0 2 43) mX4_lay [rf G 0, .int i, .int f, .int j, .int v] σ K := by
  unfold Rlay Nlay at hQ
  by_cases hi : ck i 4
  · by_cases hr : ck f 3
    · simp only [if_pos (show ck i 4 ∧ ck f 3 from ⟨hi, hr⟩)] at hQ
      obtain ⟨i, bi, rfl⟩ := i_nat hi.1 hi.2
      obtain ⟨f, bf, rfl⟩ := i_nat hr.1 hr.2
      simp only [nI_clamp (n := i) (by omega), nI_clamp (n := f) (by omega)] at hQ
      exact sX4_lay hC bi rfl bf hQ
    · simp only [if_neg (show ¬ (ck i 4 ∧ ck f 3) from fun z => hr z.2)] at hQ
      obtain ⟨i, bi, rfl⟩ := i_nat hi.1 hi.2
      exact bX4_lay bi rfl hr (hQ σ hC (Fi.rf _ _ _))
  · simp only [if_neg (show ¬ (ck i 4 ∧ ck f 3) from fun z => hi z.1)] at hQ
    exact zX4_lay hi (hQ σ hC (Fi.rf _ _ _))
def Rget (x : XS) (i f j : Int32) : Int32 := if ck i 4 ∧ ck f 3 then if fa x i.toNatClampNeg (nI f.toNatClampNeg) j = 0 then (xh x).2.2 i.toNatClampNeg j.toNatClampNeg else -2147483648 else -2147483648
def Nget (x : XS) (i f j : Int32) : XS := if ck i 4 ∧ ck f 3 then if fa x i.toNatClampNeg (nI f.toNatClampNeg) j = 0 then x else wl x (fa x i.toNatClampNeg (nI f.toNatClampNeg) j) else x
set_option maxRecDepth 100000 in
set_option maxHeartbeats 4000000 in
theorem sX4_get {G : GW} {σ : St} {K : Int32 → St → Prop} {x : XS} {i s f : Nat} {j : Int32} (hC : CI x σ) (bi : i < 4) (es : s = 22 + 2 * i) (bf : f < 3) (hQ : ∀ τ : St, CI (if fa x i (nI f) j = 0 then x else wl x (fa x i (nI f) j)) τ → Fi 0 41 σ τ → K (if fa x i (nI f) j = 0 then (xh x).2.2 i j.toNatClampNeg else -2147483648) τ) : Ci G (r0 2 43) mX4_get [rf G 0, .int (nI i), .int (nI f), .int j] σ K := by
  refine Ci.of [some (rf G 0), some (.int (nI i)), some (.int (nI f)), some (.int j), none, none] ?_
  have hs : Vs s := Vs_of bi es
  have sf := hC.sf bi es
  have sz6 := hC.sz6 bi
  have n8 := hC.np8
  have q6 := hC.nq6
  refine A.al0 eX4_get_0 ?_
  refine A.il1 eX4_get_1 ?_
  refine A.cVa1 eX4_get_2 oX4_sheetOf kX4_116 ko0 (sX4_sheetOf bi es ?_)
  refine A.as4 eX4_get_5 ?_
  refine A.al4 eX4_get_7 ?_
  refine A.ifnull eX4_get_9 ?_
  refine A.il2 eX4_get_12 ?_
  refine A.iconst (v := nI 3) eX4_get_13 (by decide) ?_
  refine A.cSi2 eX4_get_14 oX4_isBelow kX4_67 (sX4_isBelowIN (b := 3) (by omega) ?_)
  refine A.if_neB eX4_get_17 (fun yw0 => ?_) (fun yw0 => ?_)
  · refine A.al4 eX4_get_23 ?_
    refine A.il2 eX4_get_25 ?_
    refine A.il3 eX4_get_26 ?_
    refine A.cSi3 eX4_get_27 oX4_findingAt kX4_245 (sX4_findingAt (z := xz x i) hs (hC.sz bi es) sz6 ?_)
    refine A.top (show _ = nI (fa x i (nI f) j) by unfold fa; rw [sf]) ?_
    have fa3 : fa x i (nI f) j < 2147483648 := by
      unfold fa
      split
      · omega
      · split
        · omega
        · split <;> omega
    refine A.is5 eX4_get_30 ?_
    refine A.il5 eX4_get_32 ?_
    refine A.if_eqN eX4_get_34 (fun yd1 => ?_) (fun yd1 => ?_)
    · have fz : ¬ ov ((xh x).1 i) = -1 ∧ ov ((xh x).1 i) = nI f ∧ (0 ≤ j.toInt ∧ j.toInt < (xz x i : Int)) := by
        have w := yd1
        unfold fa at w
        split at w
        · omega
        · next q1 =>
          split at w
          · omega
          · next q2 =>
            split at w
            · next q3 => exact ⟨q1, Decidable.byContradiction q2, q3⟩
            · omega
      have hne : ¬ σ.1 s 1 = -1 := by rw [sf]; exact fz.1
      obtain ⟨g, eg1, eg2, eg3, eg4⟩ := hC.sg bi es hne
      obtain ⟨j, hj, rfl⟩ := i_nat fz.2.2.1 fz.2.2.2
      refine A.al4 eX4_get_46 ?_
      refine A.il3 eX4_get_48 ?_
      refine A.cVi1 eX4_get_49 oX1_item kX4_127 (kso hs) (sX1_item hs (hC.sz bi es hne) sz6 hj ?_)
      refine B.iret eX4_get_52 ?_
      simp only [if_pos yd1, nI_clamp (n := j) (by omega)] at hQ
      exact vl_of (hQ σ hC (Fi.rf _ _ _)) (hC.si bi es hj)
    · refine A.al0 eX4_get_37 ?_
      refine A.il5 eX4_get_38 ?_
      refine A.putI eX4_get_40 pX4_59 ko0 ?_
      refine A.ldc eX4_get_43 nX4_252 ?_
      refine B.iret eX4_get_45 ?_
      simp only [if_neg yd1] at hQ
      exact hQ _ hC.setL ((Fi.rf 0 41 σ).ur (by omega) (by omega))
  · exact absurd ⟨by rw [nI_ti (by omega)]; omega, by rw [nI_ti (by omega)]; omega⟩ yw0
set_option maxRecDepth 100000 in
set_option maxHeartbeats 4000000 in
theorem bX4_get {G : GW} {σ : St} {K : Int32 → St → Prop} {i s : Nat} {f j : Int32} (bi : i < 4) (es : s = 22 + 2 * i) (hb : ¬ (ck f 3)) (hQ : K (-2147483648) σ) : Ci G (r0 2 43) mX4_get [rf G 0, .int (nI i), .int f, .int j] σ K := by
  refine Ci.of [some (rf G 0), some (.int (nI i)), some (.int f), some (.int j), none, none] ?_
  refine A.al0 eX4_get_0 ?_
  refine A.il1 eX4_get_1 ?_
  refine A.cVa1 eX4_get_2 oX4_sheetOf kX4_116 ko0 (sX4_sheetOf bi es ?_)
  refine A.as4 eX4_get_5 ?_
  refine A.al4 eX4_get_7 ?_
  refine A.ifnull eX4_get_9 ?_
  refine A.il2 eX4_get_12 ?_
  refine A.iconst (v := nI 3) eX4_get_13 (by decide) ?_
  refine A.cSi2 eX4_get_14 oX4_isBelow kX4_67 (sX4_isBelowIN (b := 3) (by omega) ?_)
  refine A.if_neB eX4_get_17 (fun yw0 => ?_) (fun yw0 => ?_)
  · exact absurd yw0 hb
  · refine A.ldc eX4_get_20 nX4_252 ?_
    refine B.iret eX4_get_22 ?_
    exact hQ
set_option maxRecDepth 100000 in
set_option maxHeartbeats 4000000 in
theorem zX4_get {G : GW} {σ : St} {K : Int32 → St → Prop} {i f j : Int32} (h0 : ¬ ck i 4) (hQ : K (-2147483648) σ) : Ci G (r0 2 43) mX4_get [rf G 0, .int i, .int f, .int j] σ K := by
  refine Ci.of [some (rf G 0), some (.int i), some (.int f), some (.int j), none, none] ?_
  refine A.al0 eX4_get_0 ?_
  refine A.il1 eX4_get_1 ?_
  refine A.cVa1 eX4_get_2 oX4_sheetOf kX4_116 ko0 (sX4_sheetOfN h0 ?_)
  refine A.an_s4 eX4_get_5 ?_
  refine A.an4 eX4_get_7 ?_
  refine A.ifnullN eX4_get_9 ?_
  refine A.ldc eX4_get_20 nX4_252 ?_
  refine B.iret eX4_get_22 ?_
  exact hQ
theorem aX4_get {G : GW} {σ : St} {K : Int32 → St → Prop} {x : XS} {i f j : Int32} (hC : CI x σ) (hQ : ∀ τ : St, CI (Nget x i f j) τ → Fi 0 41 σ τ → K (Rget x i f j) τ) : Ci G (r0 2 43) mX4_get [rf G 0, .int i, .int f, .int j] σ K := by
  unfold Rget Nget at hQ
  by_cases hi : ck i 4
  · by_cases hr : ck f 3
    · simp only [if_pos (show ck i 4 ∧ ck f 3 from ⟨hi, hr⟩)] at hQ
      obtain ⟨i, bi, rfl⟩ := i_nat hi.1 hi.2
      obtain ⟨f, bf, rfl⟩ := i_nat hr.1 hr.2
      simp only [nI_clamp (n := i) (by omega), nI_clamp (n := f) (by omega)] at hQ
      exact sX4_get hC bi rfl bf hQ
    · simp only [if_neg (show ¬ (ck i 4 ∧ ck f 3) from fun z => hr z.2)] at hQ
      obtain ⟨i, bi, rfl⟩ := i_nat hi.1 hi.2
      exact bX4_get bi rfl hr (hQ σ hC (Fi.rf _ _ _))
  · simp only [if_neg (show ¬ (ck i 4 ∧ ck f 3) from fun z => hi z.1)] at hQ
    exact zX4_get hi (hQ σ hC (Fi.rf _ _ _))
set_option maxRecDepth 100000 in
set_option maxHeartbeats 4000000 in
theorem sX4_sheet {G : GW} {σ : St} {K : Int32 → St → Prop} {x : XS} {i s f : Nat} {n : Int32} (hC : CI x σ) (bi : i < 4) (es : s = 22 + 2 * i) (bf : f < 3) (hn : n.toInt ≤ 60) (hQ : ∀ τ : St, CI (if n.toInt < 0 then wl x 5 else wh x i (some f) n.toNatClampNeg (fun _ => 0)) τ → Fi 0 41 σ τ → K (if n.toInt < 0 then fnd 5 else n) τ) : Ci G (r0 2 42) mX4_sheet [rf G 0, .int (nI i), .int (nI f), .int n] σ K := by
  refine Ci.of [some (rf G 0), some (.int (nI i)), some (.int (nI f)), some (.int n), none] ?_
  have hs : Vs s := Vs_of bi es
  have sf := hC.sf bi es
  have sz6 := hC.sz6 bi
  have n8 := hC.np8
  have q6 := hC.nq6
  refine A.al0 eX4_sheet_0 ?_
  refine A.il1 eX4_sheet_1 ?_
  refine A.cVa1 eX4_sheet_2 oX4_sheetOf kX4_116 ko0 (sX4_sheetOf bi es ?_)
  refine A.as4 eX4_sheet_5 ?_
  refine A.al4 eX4_sheet_7 ?_
  refine A.ifnull eX4_sheet_9 ?_
  refine A.il2 eX4_sheet_12 ?_
  refine A.iconst (v := nI 3) eX4_sheet_13 (by decide) ?_
  refine A.cSi2 eX4_sheet_14 oX4_isBelow kX4_67 (sX4_isBelowIN (b := 3) (by omega) ?_)
  refine A.if_eqB eX4_sheet_17 (fun yw0 => ?_) (fun yw0 => ?_)
  · exact absurd ⟨by rw [nI_ti (by omega)]; omega, by rw [nI_ti (by omega)]; omega⟩ yw0
  · refine A.il3 eX4_sheet_20 ?_
    refine A.bipush (v := nI 60) eX4_sheet_21 (by decide) ?_
    refine A.icmp_leI eX4_sheet_23 (fun yw1 => ?_) (fun yw1 => ?_)
    · refine A.il3 eX4_sheet_29 ?_
      refine A.if_geI eX4_sheet_30 (fun yd1 => ?_) (fun yd1 => ?_)
      · refine A.al4 eX4_sheet_39 ?_
        refine A.il2 eX4_sheet_41 ?_
        refine A.il3 eX4_sheet_42 ?_
        refine A.cVv2 eX4_sheet_43 oX1_renew kX4_239 (kso hs) (sX1_renew hs (fun τ f1 f2 f3 f4 => ?_))
        refine A.il3 eX4_sheet_46 ?_
        refine B.iret eX4_sheet_47 ?_
        simp only [if_neg (show ¬ n.toInt < 0 by omega)] at hQ
        obtain ⟨n, hn6, rfl⟩ := i_nat (n := 61) (show 0 ≤ n.toInt by omega) (by omega)
        rw [nI_clamp (n := n) (by omega)] at hQ
        exact hQ _ (CI.setH bi es hC f1 (Or.inr ⟨f, rfl, bf, by rw [f3, upd_n (by omega), upd_s], by rw [f3, upd_s], by omega, fun j hj => f4 j (by omega)⟩)) ⟨fun k hk => f1 k (by omega) (by omega), f2⟩
      · refine A.al0 eX4_sheet_33 ?_
        refine A.iconst (v := nI 5) eX4_sheet_34 (by decide) ?_
        refine A.cVi1 eX4_sheet_35 oX4_finding kX4_123 ko0 (sX4_finding ?_)
        refine B.iret eX4_sheet_38 ?_
        simp only [if_pos (show n.toInt < 0 by omega)] at hQ
        exact hQ _ hC.setL ((Fi.rf 0 41 σ).ur (by omega) (by omega))
    · rw [nI_ti (by omega)] at yw1; omega
set_option maxRecDepth 100000 in
set_option maxHeartbeats 4000000 in
theorem bX4_sheet {G : GW} {σ : St} {K : Int32 → St → Prop} {i s : Nat} {f n : Int32} (bi : i < 4) (es : s = 22 + 2 * i) (hb : ¬ (ck f 3 ∧ n.toInt ≤ 60)) (hQ : K (-2) σ) : Ci G (r0 2 42) mX4_sheet [rf G 0, .int (nI i), .int f, .int n] σ K := by
  refine Ci.of [some (rf G 0), some (.int (nI i)), some (.int f), some (.int n), none] ?_
  refine A.al0 eX4_sheet_0 ?_
  refine A.il1 eX4_sheet_1 ?_
  refine A.cVa1 eX4_sheet_2 oX4_sheetOf kX4_116 ko0 (sX4_sheetOf bi es ?_)
  refine A.as4 eX4_sheet_5 ?_
  refine A.al4 eX4_sheet_7 ?_
  refine A.ifnull eX4_sheet_9 ?_
  refine A.il2 eX4_sheet_12 ?_
  refine A.iconst (v := nI 3) eX4_sheet_13 (by decide) ?_
  refine A.cSi2 eX4_sheet_14 oX4_isBelow kX4_67 (sX4_isBelowIN (b := 3) (by omega) ?_)
  refine A.if_eqB eX4_sheet_17 (fun yw0 => ?_) (fun yw0 => ?_)
  · refine A.bipush (v := -2) eX4_sheet_26 (by decide) ?_
    refine B.iret eX4_sheet_28 ?_
    exact hQ
  · refine A.il3 eX4_sheet_20 ?_
    refine A.bipush (v := nI 60) eX4_sheet_21 (by decide) ?_
    refine A.icmp_leI eX4_sheet_23 (fun yw1 => ?_) (fun yw1 => ?_)
    · rw [nI_ti (by omega)] at yw1; exact absurd ⟨yw0, yw1⟩ hb
    · refine A.bipush (v := -2) eX4_sheet_26 (by decide) ?_
      refine B.iret eX4_sheet_28 ?_
      exact hQ
set_option maxRecDepth 100000 in
set_option maxHeartbeats 4000000 in
theorem zX4_sheet {G : GW} {σ : St} {K : Int32 → St → Prop} {i f n : Int32} (h0 : ¬ ck i 4) (hQ : K (-2) σ) : Ci G (r0 2 42) mX4_sheet [rf G 0, .int i, .int f, .int n] σ K := by
  refine Ci.of [some (rf G 0), some (.int i), some (.int f), some (.int n), none] ?_
  refine A.al0 eX4_sheet_0 ?_
  refine A.il1 eX4_sheet_1 ?_
  refine A.cVa1 eX4_sheet_2 oX4_sheetOf kX4_116 ko0 (sX4_sheetOfN h0 ?_)
  refine A.an_s4 eX4_sheet_5 ?_
  refine A.an4 eX4_sheet_7 ?_
  refine A.ifnullN eX4_sheet_9 ?_
  refine A.bipush (v := -2) eX4_sheet_26 (by decide) ?_
  refine B.iret eX4_sheet_28 ?_
  exact hQ
def Rsheet (x : XS) (i f n : Int32) : Int32 := if ck i 4 ∧ ck f 3 ∧ n.toInt ≤ 60 then if n.toInt < 0 then fnd 5 else n else -2
def Nsheet (x : XS) (i f n : Int32) : XS := if ck i 4 ∧ ck f 3 ∧ n.toInt ≤ 60 then if n.toInt < 0 then wl x 5 else wh x i.toNatClampNeg (some f.toNatClampNeg) n.toNatClampNeg (fun _ => 0) else x
theorem aX4_sheet {G : GW} {σ : St} {K : Int32 → St → Prop} {x : XS} {i f n : Int32} (hC : CI x σ) (hQ : ∀ τ : St, CI (Nsheet x i f n) τ → Fi 0 41 σ τ → K (Rsheet x i f n) τ) : Ci G (r0 2 42) mX4_sheet [rf G 0, .int i, .int f, .int n] σ K := by
  unfold Rsheet Nsheet at hQ
  by_cases hi : ck i 4
  · by_cases hr : ck f 3 ∧ n.toInt ≤ 60
    · simp only [if_pos (show ck i 4 ∧ ck f 3 ∧ n.toInt ≤ 60 from ⟨hi, hr⟩)] at hQ
      obtain ⟨i, bi, rfl⟩ := i_nat hi.1 hi.2
      obtain ⟨f, bf, rfl⟩ := i_nat hr.1.1 hr.1.2
      simp only [nI_clamp (n := i) (by omega), nI_clamp (n := f) (by omega)] at hQ
      exact sX4_sheet hC bi rfl bf hr.2 hQ
    · simp only [if_neg (show ¬ (ck i 4 ∧ ck f 3 ∧ n.toInt ≤ 60) from fun z => hr z.2)] at hQ
      obtain ⟨i, bi, rfl⟩ := i_nat hi.1 hi.2
      exact bX4_sheet bi rfl hr (hQ σ hC (Fi.rf _ _ _))
  · simp only [if_neg (show ¬ (ck i 4 ∧ ck f 3 ∧ n.toInt ≤ 60) from fun z => hi z.1)] at hQ
    exact zX4_sheet hi (hQ σ hC (Fi.rf _ _ _))
set_option maxRecDepth 100000 in
set_option maxHeartbeats 4000000 in
theorem sX4_copy {G : GW} {σ : St} {K : Int32 → St → Prop} {x : XS} {i s k s2 : Nat} {a b n : Int32} (hC : CI x σ) (bi : i < 4) (es : s = 22 + 2 * i) (bk : k < 4) (es2 : s2 = 22 + 2 * k) (hQ : ∀ τ : St, CI (if ov ((xh x).1 i) = -1 ∨ ov ((xh x).1 k) = -1 then wl x 1 else if ¬ ov ((xh x).1 i) = ov ((xh x).1 k) then wl x 4 else if (0 ≤ a.toInt ∧ 0 ≤ n.toInt ∧ a.toInt + n.toInt ≤ (xz x i : Int)) ∧ (0 ≤ b.toInt ∧ 0 ≤ n.toInt ∧ b.toInt + n.toInt ≤ (xz x k : Int)) then wh x k ((xh x).1 k) ((xh x).2.1 k) (va_cpy ((xh x).2.2 i) ((xh x).2.2 k) a.toNatClampNeg b.toNatClampNeg n.toNatClampNeg) else wl x 2) τ → Fi 0 41 σ τ → K (if ov ((xh x).1 i) = -1 ∨ ov ((xh x).1 k) = -1 then fnd 1 else if ¬ ov ((xh x).1 i) = ov ((xh x).1 k) then fnd 4 else if (0 ≤ a.toInt ∧ 0 ≤ n.toInt ∧ a.toInt + n.toInt ≤ (xz x i : Int)) ∧ (0 ≤ b.toInt ∧ 0 ≤ n.toInt ∧ b.toInt + n.toInt ≤ (xz x k : Int)) then 1 else fnd 2) τ) : Ci G (r0 2 42) mX4_copy [rf G 0, .int (nI i), .int a, .int (nI k), .int b, .int n] σ K := by
  refine Ci.of [some (rf G 0), some (.int (nI i)), some (.int a), some (.int (nI k)), some (.int b), some (.int n), none, none] ?_
  have hs : Vs s := Vs_of bi es
  have sf := hC.sf bi es
  have sz6 := hC.sz6 bi
  have n8 := hC.np8
  have q6 := hC.nq6
  have hs2 : Vs s2 := Vs_of bk es2
  have sf2 := hC.sf bk es2
  have sz62 := hC.sz6 bk
  refine A.al0 eX4_copy_0 ?_
  refine A.il1 eX4_copy_1 ?_
  refine A.cVa1 eX4_copy_2 oX4_sheetOf kX4_116 ko0 (sX4_sheetOf bi es ?_)
  refine A.as6 eX4_copy_5 ?_
  refine A.al0 eX4_copy_7 ?_
  refine A.il3 eX4_copy_8 ?_
  refine A.cVa1 eX4_copy_9 oX4_sheetOf kX4_116 ko0 (sX4_sheetOf bk es2 ?_)
  refine A.as7 eX4_copy_12 ?_
  refine A.al6 eX4_copy_14 ?_
  refine A.ifnull eX4_copy_16 ?_
  refine A.al7 eX4_copy_19 ?_
  refine A.ifnonnull eX4_copy_21 ?_
  refine A.al6 eX4_copy_27 ?_
  refine A.cVi0 eX4_copy_29 oX1_isLost kX4_120 (kso hs) (sX1_isLost hs ?_)
  refine A.if_neB eX4_copy_32 (fun yd1 => ?_) (fun yd1 => ?_)
  · have yl := (show ov ((xh x).1 i) = -1 ∨ ov ((xh x).1 k) = -1 by rw [← sf, ← sf2]; exact Or.inl yd1)
    refine A.al0 eX4_copy_43 ?_
    refine A.iconst (v := nI 1) eX4_copy_44 (by decide) ?_
    refine A.cVi1 eX4_copy_45 oX4_finding kX4_123 ko0 (sX4_finding ?_)
    refine B.iret eX4_copy_48 ?_
    simp only [if_pos yl] at hQ
    exact hQ _ hC.setL ((Fi.rf 0 41 σ).ur (by omega) (by omega))
  · refine A.al7 eX4_copy_35 ?_
    refine A.cVi0 eX4_copy_37 oX1_isLost kX4_120 (kso hs2) (sX1_isLost hs2 ?_)
    refine A.if_eqB eX4_copy_40 (fun yd2 => ?_) (fun yd2 => ?_)
    · have yn : ¬ (ov ((xh x).1 i) = -1 ∨ ov ((xh x).1 k) = -1) := by rw [← sf, ← sf2]; exact fun z => z.elim yd1 yd2
      refine A.al6 eX4_copy_49 ?_
      refine A.getI eX4_copy_51 fX4_253 (kso hs) ?_
      refine A.top sf ?_
      refine A.al7 eX4_copy_54 ?_
      refine A.getI eX4_copy_56 fX4_253 (kso hs2) ?_
      refine A.top sf2 ?_
      refine A.icmp_eq eX4_copy_59 (fun yd3 => ?_) (fun yd3 => ?_)
      · refine A.al6 eX4_copy_68 ?_
        refine A.il2 eX4_copy_70 ?_
        refine A.il5 eX4_copy_71 ?_
        refine A.cVi2 eX4_copy_73 oX1_holds kX4_256 (kso hs) (sX1_holds hs (hC.sz bi es yd1) sz6 ?_)
        refine A.if_eqB eX4_copy_76 (fun yd4 => ?_) (fun yd4 => ?_)
        · have yh : ¬ ((0 ≤ a.toInt ∧ 0 ≤ n.toInt ∧ a.toInt + n.toInt ≤ (xz x i : Int)) ∧ (0 ≤ b.toInt ∧ 0 ≤ n.toInt ∧ b.toInt + n.toInt ≤ (xz x k : Int))) := fun z => yd4 z.1
          refine A.al0 eX4_copy_91 ?_
          refine A.iconst (v := nI 2) eX4_copy_92 (by decide) ?_
          refine A.cVi1 eX4_copy_93 oX4_finding kX4_123 ko0 (sX4_finding ?_)
          refine B.iret eX4_copy_96 ?_
          simp only [if_neg yn, if_neg (not_not_intro yd3), if_neg yh] at hQ
          exact hQ _ hC.setL ((Fi.rf 0 41 σ).ur (by omega) (by omega))
        · refine A.al7 eX4_copy_79 ?_
          refine A.il4 eX4_copy_81 ?_
          refine A.il5 eX4_copy_83 ?_
          refine A.cVi2 eX4_copy_85 oX1_holds kX4_256 (kso hs2) (sX1_holds hs2 (hC.sz bk es2 yd2) sz62 ?_)
          refine A.if_neB eX4_copy_88 (fun yd5 => ?_) (fun yd5 => ?_)
          · have yh : (0 ≤ a.toInt ∧ 0 ≤ n.toInt ∧ a.toInt + n.toInt ≤ (xz x i : Int)) ∧ (0 ≤ b.toInt ∧ 0 ≤ n.toInt ∧ b.toInt + n.toInt ≤ (xz x k : Int)) := ⟨yd4, yd5⟩
            obtain ⟨g, eg1, eg2, eg3, eg4⟩ := hC.sg bk es2 yd2
            obtain ⟨a, ha, rfl⟩ := i_nat (n := 61) yh.1.1 (by omega)
            obtain ⟨n, hnn, rfl⟩ := i_nat (n := 61) yh.1.2.1 (by omega)
            obtain ⟨b, hbb, rfl⟩ := i_nat (n := 61) yh.2.1 (by omega)
            simp only [if_neg yn, if_neg (not_not_intro yd3), if_pos yh] at hQ
            rw [nI_ti (by omega), nI_ti (by omega)] at yd4 yd5
            simp only [nI_clamp (n := a) (by omega), nI_clamp (n := b) (by omega), nI_clamp (n := n) (by omega)] at hQ
            refine A.al6 eX4_copy_97 ?_
            refine A.getR eX4_copy_99 fX4_259 (kso hs) (ksr0 hs) ?_
            refine A.il2 eX4_copy_102 ?_
            refine A.al7 eX4_copy_103 ?_
            refine A.getR eX4_copy_105 fX4_259 (kso hs2) (ksr0 hs2) ?_
            refine A.il4 eX4_copy_108 ?_
            refine A.il5 eX4_copy_110 ?_
            refine A.copy eX4_copy_112 acp_l (ks1 hs) (ks1 hs2) (by omega) (by omega) (by omega) ?_
            refine A.iconst (v := nI 1) eX4_copy_115 (by decide) ?_
            refine B.iret eX4_copy_116 ?_
            refine hQ _ (CI.setH bk es2 hC (fun k a b => ur_n b) (Or.inr ⟨g, eg1, eg2, by rw [ur_n (by omega)]; exact eg3, by rw [ur_n (by omega), ← eg4]; exact hC.sz bk es2 yd2, by rw [← eg4]; exact sz62, fun j hj => ?_⟩)) ((Fi.rf 0 41 σ).ur (by omega) (by have := es2; omega))
            rw [ur_s]
            unfold va_cpy
            by_cases e : b ≤ j ∧ j < b + n
            · rw [if_pos e, if_pos e]; exact hC.si bi es (by omega)
            · rw [if_neg e, if_neg e]; exact hC.si bk es2 (by omega)
          · have yh : ¬ ((0 ≤ a.toInt ∧ 0 ≤ n.toInt ∧ a.toInt + n.toInt ≤ (xz x i : Int)) ∧ (0 ≤ b.toInt ∧ 0 ≤ n.toInt ∧ b.toInt + n.toInt ≤ (xz x k : Int))) := fun z => yd5 z.2
            refine A.al0 eX4_copy_91 ?_
            refine A.iconst (v := nI 2) eX4_copy_92 (by decide) ?_
            refine A.cVi1 eX4_copy_93 oX4_finding kX4_123 ko0 (sX4_finding ?_)
            refine B.iret eX4_copy_96 ?_
            simp only [if_neg yn, if_neg (not_not_intro yd3), if_neg yh] at hQ
            exact hQ _ hC.setL ((Fi.rf 0 41 σ).ur (by omega) (by omega))
      · refine A.al0 eX4_copy_62 ?_
        refine A.iconst (v := nI 4) eX4_copy_63 (by decide) ?_
        refine A.cVi1 eX4_copy_64 oX4_finding kX4_123 ko0 (sX4_finding ?_)
        refine B.iret eX4_copy_67 ?_
        simp only [if_neg yn, if_pos yd3] at hQ
        exact hQ _ hC.setL ((Fi.rf 0 41 σ).ur (by omega) (by omega))
    · have yl := (show ov ((xh x).1 i) = -1 ∨ ov ((xh x).1 k) = -1 by rw [← sf, ← sf2]; exact Or.inr yd2)
      refine A.al0 eX4_copy_43 ?_
      refine A.iconst (v := nI 1) eX4_copy_44 (by decide) ?_
      refine A.cVi1 eX4_copy_45 oX4_finding kX4_123 ko0 (sX4_finding ?_)
      refine B.iret eX4_copy_48 ?_
      simp only [if_pos yl] at hQ
      exact hQ _ hC.setL ((Fi.rf 0 41 σ).ur (by omega) (by omega))
set_option maxRecDepth 100000 in
set_option maxHeartbeats 4000000 in
theorem bX4_copy {G : GW} {σ : St} {K : Int32 → St → Prop} {i s : Nat} {k a b n : Int32} (bi : i < 4) (es : s = 22 + 2 * i) (h0 : ¬ ck k 4) (hQ : K (-2) σ) : Ci G (r0 2 42) mX4_copy [rf G 0, .int (nI i), .int a, .int k, .int b, .int n] σ K := by
  refine Ci.of [some (rf G 0), some (.int (nI i)), some (.int a), some (.int k), some (.int b), some (.int n), none, none] ?_
  refine A.al0 eX4_copy_0 ?_
  refine A.il1 eX4_copy_1 ?_
  refine A.cVa1 eX4_copy_2 oX4_sheetOf kX4_116 ko0 (sX4_sheetOf bi es ?_)
  refine A.as6 eX4_copy_5 ?_
  refine A.al0 eX4_copy_7 ?_
  refine A.il3 eX4_copy_8 ?_
  refine A.cVa1 eX4_copy_9 oX4_sheetOf kX4_116 ko0 (sX4_sheetOfN h0 ?_)
  refine A.an_s7 eX4_copy_12 ?_
  refine A.al6 eX4_copy_14 ?_
  refine A.ifnull eX4_copy_16 ?_
  refine A.an7 eX4_copy_19 ?_
  refine A.ifnonnullN eX4_copy_21 ?_
  refine A.bipush (v := -2) eX4_copy_24 (by decide) ?_
  refine B.iret eX4_copy_26 ?_
  exact hQ
set_option maxRecDepth 100000 in
set_option maxHeartbeats 4000000 in
theorem zX4_copy {G : GW} {σ : St} {K : Int32 → St → Prop} {k s : Nat} {i a b n : Int32} (bk : k < 4) (es : s = 22 + 2 * k) (h0 : ¬ ck i 4) (hQ : K (-2) σ) : Ci G (r0 2 42) mX4_copy [rf G 0, .int i, .int a, .int (nI k), .int b, .int n] σ K := by
  refine Ci.of [some (rf G 0), some (.int i), some (.int a), some (.int (nI k)), some (.int b), some (.int n), none, none] ?_
  refine A.al0 eX4_copy_0 ?_
  refine A.il1 eX4_copy_1 ?_
  refine A.cVa1 eX4_copy_2 oX4_sheetOf kX4_116 ko0 (sX4_sheetOfN h0 ?_)
  refine A.an_s6 eX4_copy_5 ?_
  refine A.al0 eX4_copy_7 ?_
  refine A.il3 eX4_copy_8 ?_
  refine A.cVa1 eX4_copy_9 oX4_sheetOf kX4_116 ko0 (sX4_sheetOf bk es ?_)
  refine A.as7 eX4_copy_12 ?_
  refine A.an6 eX4_copy_14 ?_
  refine A.ifnullN eX4_copy_16 ?_
  refine A.bipush (v := -2) eX4_copy_24 (by decide) ?_
  refine B.iret eX4_copy_26 ?_
  exact hQ
set_option maxRecDepth 100000 in
set_option maxHeartbeats 4000000 in
theorem yyX4_copy {G : GW} {σ : St} {K : Int32 → St → Prop} {i k a b n : Int32} (h0 : ¬ ck i 4) (h1 : ¬ ck k 4) (hQ : K (-2) σ) : Ci G (r0 2 42) mX4_copy [rf G 0, .int i, .int a, .int k, .int b, .int n] σ K := by
  refine Ci.of [some (rf G 0), some (.int i), some (.int a), some (.int k), some (.int b), some (.int n), none, none] ?_
  refine A.al0 eX4_copy_0 ?_
  refine A.il1 eX4_copy_1 ?_
  refine A.cVa1 eX4_copy_2 oX4_sheetOf kX4_116 ko0 (sX4_sheetOfN h0 ?_)
  refine A.an_s6 eX4_copy_5 ?_
  refine A.al0 eX4_copy_7 ?_
  refine A.il3 eX4_copy_8 ?_
  refine A.cVa1 eX4_copy_9 oX4_sheetOf kX4_116 ko0 (sX4_sheetOfN h1 ?_)
  refine A.an_s7 eX4_copy_12 ?_
  refine A.an6 eX4_copy_14 ?_
  refine A.ifnullN eX4_copy_16 ?_
  refine A.bipush (v := -2) eX4_copy_24 (by decide) ?_
  refine B.iret eX4_copy_26 ?_
  exact hQ
def Rcopy (x : XS) (i a k b n : Int32) : Int32 := if ck i 4 ∧ ck k 4 then if ov ((xh x).1 i.toNatClampNeg) = -1 ∨ ov ((xh x).1 k.toNatClampNeg) = -1 then fnd 1 else if ¬ ov ((xh x).1 i.toNatClampNeg) = ov ((xh x).1 k.toNatClampNeg) then fnd 4 else if (0 ≤ a.toInt ∧ 0 ≤ n.toInt ∧ a.toInt + n.toInt ≤ (xz x i.toNatClampNeg : Int)) ∧ (0 ≤ b.toInt ∧ 0 ≤ n.toInt ∧ b.toInt + n.toInt ≤ (xz x k.toNatClampNeg : Int)) then 1 else fnd 2 else -2
def Ncopy (x : XS) (i a k b n : Int32) : XS := if ck i 4 ∧ ck k 4 then if ov ((xh x).1 i.toNatClampNeg) = -1 ∨ ov ((xh x).1 k.toNatClampNeg) = -1 then wl x 1 else if ¬ ov ((xh x).1 i.toNatClampNeg) = ov ((xh x).1 k.toNatClampNeg) then wl x 4 else if (0 ≤ a.toInt ∧ 0 ≤ n.toInt ∧ a.toInt + n.toInt ≤ (xz x i.toNatClampNeg : Int)) ∧ (0 ≤ b.toInt ∧ 0 ≤ n.toInt ∧ b.toInt + n.toInt ≤ (xz x k.toNatClampNeg : Int)) then wh x k.toNatClampNeg ((xh x).1 k.toNatClampNeg) ((xh x).2.1 k.toNatClampNeg) (va_cpy ((xh x).2.2 i.toNatClampNeg) ((xh x).2.2 k.toNatClampNeg) a.toNatClampNeg b.toNatClampNeg n.toNatClampNeg) else wl x 2 else x
theorem aX4_copy {G : GW} {σ : St} {K : Int32 → St → Prop} {x : XS} {i a k b n : Int32} (hC : CI x σ) (hQ : ∀ τ : St, CI (Ncopy x i a k b n) τ → Fi 0 41 σ τ → K (Rcopy x i a k b n) τ) : Ci G (r0 2 42) mX4_copy [rf G 0, .int i, .int a, .int k, .int b, .int n] σ K := by
  unfold Rcopy Ncopy at hQ
  by_cases hi : ck i 4
  · by_cases hk : ck k 4
    · simp only [if_pos (show ck i 4 ∧ ck k 4 from ⟨hi, hk⟩)] at hQ
      obtain ⟨i, bi, rfl⟩ := i_nat hi.1 hi.2
      obtain ⟨k, bk, rfl⟩ := i_nat hk.1 hk.2
      simp only [nI_clamp (n := i) (by omega), nI_clamp (n := k) (by omega)] at hQ
      exact sX4_copy hC bi rfl bk rfl hQ
    · simp only [if_neg (show ¬ (ck i 4 ∧ ck k 4) from fun z => hk z.2)] at hQ
      obtain ⟨i, bi, rfl⟩ := i_nat hi.1 hi.2
      exact bX4_copy bi rfl hk (hQ σ hC (Fi.rf _ _ _))
  · simp only [if_neg (show ¬ (ck i 4 ∧ ck k 4) from fun z => hi z.1)] at hQ
    by_cases hk : ck k 4
    · obtain ⟨k, bk, rfl⟩ := i_nat hk.1 hk.2
      exact zX4_copy bk rfl hi (hQ σ hC (Fi.rf _ _ _))
    · exact yyX4_copy hi hk (hQ σ hC (Fi.rf _ _ _))
