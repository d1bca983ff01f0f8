def wr (x : XS) (i : Nat) (g : Nat → Int32) : XS := wh x i ((xh x).1 i) ((xh x).2.1 i) g
theorem wr_f (x : XS) (i : Nat) (g : Nat → Int32) : (xh (wr x i g)).1 = (xh x).1 := by
  funext k
  show (if k = i then (xh x).1 i else (xh x).1 k) = _
  split
  · next e => rw [e]
  · rfl
theorem wr_z (x : XS) (i : Nat) (g : Nat → Int32) : (xh (wr x i g)).2.1 = (xh x).2.1 := by
  funext k
  show (if k = i then (xh x).2.1 i else (xh x).2.1 k) = _
  split
  · next e => rw [e]
  · rfl
theorem wr_i (x : XS) (i : Nat) (g : Nat → Int32) : (xh (wr x i g)).2.2 i = g := if_pos rfl
theorem xz_wr (x : XS) (i : Nat) (g : Nat → Int32) (k : Nat) : xz (wr x i g) k = xz x k := by
  unfold xz; rw [wr_f, wr_z]
theorem wr_wr (x : XS) (i : Nat) (g g' : Nat → Int32) : wr (wr x i g) i g' = wr x i g' := by
  have e : ∀ k, (if k = i then g' else (xh (wr x i g)).2.2 k) = (if k = i then g' else (xh x).2.2 k) := by
    intro k
    by_cases q : k = i
    · rw [if_pos q, if_pos q]
    · rw [if_neg q, if_neg q]; exact if_neg q
  unfold wr wh
  refine Prod.ext rfl (Prod.ext rfl (Prod.ext rfl (Prod.ext rfl (Prod.ext rfl (Prod.ext ?_ rfl)))))
  refine Prod.ext ?_ (Prod.ext ?_ ?_)
  · funext k
    show (if k = i then (xh (wr x i g)).1 i else (xh (wr x i g)).1 k) = _
    rw [wr_f]
  · funext k
    show (if k = i then (xh (wr x i g)).2.1 i else (xh (wr x i g)).2.1 k) = _
    rw [wr_z]
  · funext k
    exact e k
theorem CI.wr {x : XS} {σ τ : St} {i s : Nat} {g : Nat → Int32} (h : CI x σ) (hi : i < 4) (es : s = 22 + 2 * i) (hne : ¬ σ.1 s 1 = -1) (hF : ∀ k, k ≠ s + 1 → τ.1 k = σ.1 k) (hg : ∀ j, j < xz x i → τ.1 (s + 1) j = g j) : CI (wr x i g) τ := by
  obtain ⟨f, e1, e2, e3, e4⟩ := h.sg hi es hne
  refine CI.setH hi es h (fun k _ b => hF k b) (Or.inr ⟨f, e1, e2, ?_, ?_, ?_, ?_⟩)
  · rw [hF s (by omega)]; exact e3
  · rw [hF s (by omega), ← e4]; exact h.sz hi es hne
  · rw [← e4]; exact h.sz6 hi
  · intro j hj; exact hg j (by omega)
def wrf (x : XS) (h i n : Nat) : Nat → Int32 := fun m => if m < n then cutI (ov ((xh x).1 i)) (nI (xr x h m)) else (xh x).2.2 i m
def Rwrite (x : XS) (h i : Int32) : Int32 := if ck i 4 ∧ ck h 24 then if ov ((xh x).1 i.toNatClampNeg) = -1 then fnd 1 else nI (min (xz x i.toNatClampNeg) (xp x)) else -2
def Nwrite (x : XS) (h i : Int32) : XS := if ck i 4 ∧ ck h 24 then if ov ((xh x).1 i.toNatClampNeg) = -1 then wl x 1 else wr x i.toNatClampNeg (wrf x h.toNatClampNeg i.toNatClampNeg (min (xz x i.toNatClampNeg) (xp x))) else x
set_option maxRecDepth 100000 in
set_option maxHeartbeats 4000000 in
theorem sX4_write {G : GW} {σ : St} {K : Int32 → St → Prop} {x : XS} {i s h : Nat} (hC : CI x σ) (bi : i < 4) (es : s = 22 + 2 * i) (bh : h < 24) (hQ : ∀ τ : St, CI (if ov ((xh x).1 i) = -1 then wl x 1 else wr x i (wrf x h i (min (xz x i) (xp x)))) τ → Fi 0 41 σ τ → K (if ov ((xh x).1 i) = -1 then fnd 1 else nI (min (xz x i) (xp x))) τ) : Ci G (r0 4 86) mX4_write [rf G 0, .int (nI h), .int (nI i)] σ K := by
  refine Ci.of [some (rf G 0), some (.int (nI h)), some (.int (nI i)), none, none, none] ?_
  have hs : Vs s := Vs_of bi es
  have sf := hC.sf bi es
  have sz6 := hC.sz6 bi
  have n8 := hC.np8
  have q6 := hC.nq6
  refine A.al0 eX4_write_0 ?_
  refine A.il2 eX4_write_1 ?_
  refine A.cVa1 eX4_write_2 oX4_sheetOf kX4_116 ko0 (sX4_sheetOf bi es ?_)
  refine A.as3 eX4_write_5 ?_
  refine A.il1 eX4_write_6 ?_
  refine A.cSi1 eX4_write_7 oX4_isHour kX4_134 (sX4_isHour ?_)
  refine A.if_eqB eX4_write_10 (fun yw0 => ?_) (fun yw0 => ?_)
  · exact absurd ⟨by rw [nI_ti (by omega)]; omega, by rw [nI_ti (by omega)]; omega⟩ yw0
  · refine A.al3 eX4_write_13 ?_
    refine A.ifnonnull eX4_write_14 ?_
    refine A.al3 eX4_write_20 ?_
    refine A.cVi0 eX4_write_21 oX1_isLost kX4_120 (kso hs) (sX1_isLost hs ?_)
    refine A.if_eqB eX4_write_24 (fun yd1 => ?_) (fun yd1 => ?_)
    · refine A.al3 eX4_write_33 ?_
      refine A.getI eX4_write_34 fX4_126 (kso hs) ?_
      refine A.top (hC.sz bi es yd1) ?_
      refine A.al0 eX4_write_37 ?_
      refine A.getR eX4_write_38 fX4_14 ko0 kr0_0 ?_
      refine A.getI eX4_write_41 fX4_167 ko1 ?_
      refine A.top hC.np ?_
      refine A.mminN eX4_write_44 kX4_269 ?_
      refine A.is4 eX4_write_47 ?_
      have hm1 : min (xz x i) (xp x) ≤ xz x i := Nat.min_le_left _ _
      have hm2 : min (xz x i) (xp x) ≤ xp x := Nat.min_le_right _ _
      have hlf : ¬ ov ((xh x).1 i) = -1 := by rw [← sf]; exact yd1
      refine A.iconst (v := nI 0) eX4_write_49 (by decide) ?_
      refine A.is5 eX4_write_50 ?_
      have lp : ∀ (fu j : Nat) (ξ : St), (min (xz x i) (xp x)) - j < fu → j ≤ (min (xz x i) (xp x)) → CI (wr x i (wrf x h i j)) ξ → Fi 0 41 σ ξ → B G (r0 4 86) mX4_write 52 [some (rf G 0), some (.int (nI h)), some (.int (nI i)), some (rf G s), some (.int (nI (min (xz x i) (xp x)))), some (.int (nI j))] [] (ξ) (Pi K) := by
        intro fu
        induction fu with
        | zero => intro j ξ h1 h2; omega
        | succ fu ih =>
          intro j ξ h1 h2 e1 e2
          refine A.il5 eX4_write_52 ?_
          refine A.il4 eX4_write_54 ?_
          refine A.icmp_geN eX4_write_56 (fun c3 => ?_) (fun c3 => ?_)
          · refine A.il4 eX4_write_81 ?_
            refine B.iret eX4_write_83 ?_
            simp only [if_neg hlf] at hQ
            have e : j = min (xz x i) (xp x) := by omega
            subst e
            exact hQ ξ e1 e2
          · have hjx : j < xp x := by omega
            refine A.al3 eX4_write_59 ?_
            refine A.il5 eX4_write_60 ?_
            refine A.al0 eX4_write_62 ?_
            refine A.cVa0 eX4_write_63 oX4_valley kX4_137 ko0 (sX4_valley e1 (fun τ k1 k2 k3 => ?_))
            refine A.il1 eX4_write_66 ?_
            refine A.il5 eX4_write_67 ?_
            refine A.cVi2 eX4_write_69 oX3_brightnessOf kX4_145 ko30 (sX3_brightnessOf (v := 30) (Or.inl rfl) bh (by omega) ?_)
            refine A.top (show _ = nI (xr x h j) from (k2 h bh j hjx).2.1) ?_
            have ef : τ.1 s 1 = ov ((xh x).1 i) := by rw [k1.sf bi es, wr_f]
            have ene : ¬ τ.1 s 1 = -1 := by rw [ef, ← sf]; exact yd1
            have ez : τ.1 s 2 = nI (xz x i) := by rw [k1.sz bi es ene, xz_wr]
            refine A.cVv2 eX4_write_72 oX1_put kX4_249 (kso hs) (sX1_put hs ez sz6 (by omega) ?_)
            refine A.inc5N eX4_write_75 ?_
            refine A.goto eX4_write_78 ?_
            refine ih (j + 1) _ (by omega) (by omega) ?_ ((e2.tr k3).ur (by omega) (by omega))
            rw [← wr_wr x i (wrf x h i j)]
            refine CI.wr k1 bi es ene (fun k hk => ur_n hk) (fun m hm => ?_)
            rw [ur_s]
            by_cases e : m = j
            · rw [e, upd_s, ef]; exact (if_pos (show j < j + 1 by omega)).symm
            · rw [upd_n e, k1.si bi es hm, wr_i]
              unfold wrf
              by_cases q : m < j
              · rw [if_pos q, if_pos (show m < j + 1 by omega)]
              · rw [if_neg q, if_neg (show ¬ m < j + 1 by omega)]
      refine lp (min (xz x i) (xp x) + 1) 0 σ (by omega) (Nat.zero_le _) (CI.wr hC bi es yd1 (fun _ _ => rfl) (fun m hm => ?_)) (Fi.rf _ _ _)
      rw [hC.si bi es hm]; rfl
    · refine A.al0 eX4_write_27 ?_
      refine A.iconst (v := nI 1) eX4_write_28 (by decide) ?_
      refine A.cVi1 eX4_write_29 oX4_finding kX4_123 ko0 (sX4_finding ?_)
      refine B.iret eX4_write_32 ?_
      simp only [if_pos (show ov ((xh x).1 i) = -1 by rw [← sf]; exact yd1)] at hQ
      exact hQ _ hC.setL ((Fi.rf 0 41 σ).ur (by omega) (by omega))
set_option maxRecDepth 100000 in
set_option maxHeartbeats 4000000 in
theorem bX4_write {G : GW} {σ : St} {K : Int32 → St → Prop} {i s : Nat} {h : Int32} (bi : i < 4) (es : s = 22 + 2 * i) (hb : ¬ (ck h 24)) (hQ : K (-2) σ) : Ci G (r0 4 86) mX4_write [rf G 0, .int h, .int (nI i)] σ K := by
  refine Ci.of [some (rf G 0), some (.int h), some (.int (nI i)), none, none, none] ?_
  refine A.al0 eX4_write_0 ?_
  refine A.il2 eX4_write_1 ?_
  refine A.cVa1 eX4_write_2 oX4_sheetOf kX4_116 ko0 (sX4_sheetOf bi es ?_)
  refine A.as3 eX4_write_5 ?_
  refine A.il1 eX4_write_6 ?_
  refine A.cSi1 eX4_write_7 oX4_isHour kX4_134 (sX4_isHour ?_)
  refine A.if_eqB eX4_write_10 (fun yw0 => ?_) (fun yw0 => ?_)
  · refine A.bipush (v := -2) eX4_write_17 (by decide) ?_
    refine B.iret eX4_write_19 ?_
    exact hQ
  · exact absurd yw0 hb
set_option maxRecDepth 100000 in
set_option maxHeartbeats 4000000 in
theorem zX4_write {G : GW} {σ : St} {K : Int32 → St → Prop} {h i : Int32} (h0 : ¬ ck i 4) (hQ : K (-2) σ) : Ci G (r0 4 86) mX4_write [rf G 0, .int h, .int i] σ K := by
  refine Ci.of [some (rf G 0), some (.int h), some (.int i), none, none, none] ?_
  refine A.al0 eX4_write_0 ?_
  refine A.il2 eX4_write_1 ?_
  refine A.cVa1 eX4_write_2 oX4_sheetOf kX4_116 ko0 (sX4_sheetOfN h0 ?_)
  refine A.an_s3 eX4_write_5 ?_
  refine A.il1 eX4_write_6 ?_
  refine A.cSi1 eX4_write_7 oX4_isHour kX4_134 (sX4_isHour ?_)
  refine A.if_eqB eX4_write_10 (fun c1 => ?_) (fun c1 => ?_)
  · refine A.bipush (v := -2) eX4_write_17 (by decide) ?_
    refine B.iret eX4_write_19 ?_
    exact hQ
  · refine A.an3 eX4_write_13 ?_
    refine A.ifnonnullN eX4_write_14 ?_
    refine A.bipush (v := -2) eX4_write_17 (by decide) ?_
    refine B.iret eX4_write_19 ?_
    exact hQ
theorem aX4_write {G : GW} {σ : St} {K : Int32 → St → Prop} {x : XS} {h i : Int32} (hC : CI x σ) (hQ : ∀ τ : St, CI (Nwrite x h i) τ → Fi 0 41 σ τ → K (Rwrite x h i) τ) : Ci G (r0 4 86) mX4_write [rf G 0, .int h, .int i] σ K := by
  unfold Rwrite Nwrite at hQ
  by_cases hi : ck i 4
  · by_cases hr : ck h 24
    · simp only [if_pos (show ck i 4 ∧ ck h 24 from ⟨hi, hr⟩)] at hQ
      obtain ⟨i, bi, rfl⟩ := i_nat hi.1 hi.2
      obtain ⟨h, bh, rfl⟩ := i_nat hr.1 hr.2
      simp only [nI_clamp (n := i) (by omega), nI_clamp (n := h) (by omega)] at hQ
      exact sX4_write hC bi rfl bh hQ
    · simp only [if_neg (show ¬ (ck i 4 ∧ ck h 24) from fun z => hr z.2)] at hQ
      obtain ⟨i, bi, rfl⟩ := i_nat hi.1 hi.2
      exact bX4_write bi rfl hr (hQ σ hC (Fi.rf _ _ _))
  · simp only [if_neg (show ¬ (ck i 4 ∧ ck h 24) from fun z => hi z.1)] at hQ
    exact zX4_write hi (hQ σ hC (Fi.rf _ _ _))
theorem xh_Ngo (x : XS) (a b c : Int32) : xh (Ngo x a b c) = xh x := by
  unfold Ngo
  split
  · split <;> rfl
  · rfl
theorem Ngo_neg {x : XS} {a b c : Int32} (h : (Rgo x a b c).toInt < 0) : Ngo x a b c = x := by
  unfold Rgo at h
  unfold Ngo
  split at h
  · next q =>
    rw [if_pos q]
    split at h
    · next q2 => rw [nI_ti (by omega)] at h; omega
    · next q2 => rw [if_neg q2]
  · next q => rw [if_neg q]
def rds (x : XS) (i : Nat) : Nat → XS
  | 0 => x
  | j + 1 => Ngo (rds x i j) ((xh x).2.2 i (3 * j)) ((xh x).2.2 i (3 * j + 1)) ((xh x).2.2 i (3 * j + 2))
theorem rds_h (x : XS) (i : Nat) : ∀ j, xh (rds x i j) = xh x := by
  intro j
  induction j with
  | zero => rfl
  | succ j ih => show xh (Ngo _ _ _ _) = _; rw [xh_Ngo, ih]
def rdF (x : XS) (i j : Nat) : Bool := decide ((Rgo (rds x i j) ((xh x).2.2 i (3 * j)) ((xh x).2.2 i (3 * j + 1)) ((xh x).2.2 i (3 * j + 2))).toInt < 0)
def rdn (x : XS) (i : Nat) : Nat := ffst (rdF x i) (xz x i / 3)
def Rread (x : XS) (i : Int32) : Int32 := if ck i 4 then if ov ((xh x).1 i.toNatClampNeg) = -1 then fnd 1 else nI (rdn x i.toNatClampNeg) else -2
def Nread (x : XS) (i : Int32) : XS := if ck i 4 then if ov ((xh x).1 i.toNatClampNeg) = -1 then wl x 1 else rds x i.toNatClampNeg (rdn x i.toNatClampNeg) else x
set_option maxRecDepth 100000 in
set_option maxHeartbeats 4000000 in
theorem sX4_read {G : GW} {σ : St} {K : Int32 → St → Prop} {x : XS} {i s : Nat} (hC : CI x σ) (bi : i < 4) (es : s = 22 + 2 * i) (hQ : ∀ τ : St, CI (if ov ((xh x).1 i) = -1 then wl x 1 else rds x i (rdn x i)) τ → Fi 0 41 σ τ → K (if ov ((xh x).1 i) = -1 then fnd 1 else nI (rdn x i)) τ) : Ci G (r0 4 86) mX4_read [rf G 0, .int (nI i)] σ K := by
  refine Ci.of [some (rf G 0), some (.int (nI i)), none, none, none] ?_
  have hs : Vs s := Vs_of bi es
  have sf := hC.sf bi es
  have sz6 := hC.sz6 bi
  have n8 := hC.np8
  have q6 := hC.nq6
  refine A.al0 eX4_read_0 ?_
  refine A.il1 eX4_read_1 ?_
  refine A.cVa1 eX4_read_2 oX4_sheetOf kX4_116 ko0 (sX4_sheetOf bi es ?_)
  refine A.as2 eX4_read_5 ?_
  refine A.al2 eX4_read_6 ?_
  refine A.ifnonnull eX4_read_7 ?_
  refine A.al2 eX4_read_13 ?_
  refine A.cVi0 eX4_read_14 oX1_isLost kX4_120 (kso hs) (sX1_isLost hs ?_)
  refine A.if_eqB eX4_read_17 (fun yd1 => ?_) (fun yd1 => ?_)
  · refine A.iconst (v := nI 0) eX4_read_26 (by decide) ?_
    refine A.is3 eX4_read_27 ?_
    refine A.iconst (v := nI 0) eX4_read_28 (by decide) ?_
    refine A.is4 eX4_read_29 ?_
    have lp : ∀ (fu j : Nat) (ξ : St), (xz x i / 3) - j < fu → j ≤ (xz x i / 3) → CI (rds x i j) ξ → Fi 0 41 σ ξ → (∀ k, k < j → rdF x i k = false) → B G (r0 4 86) mX4_read 31 [some (rf G 0), some (.int (nI i)), some (rf G s), some (.int (nI j)), some (.int (nI (3 * j)))] [] (ξ) (Pi K) := by
      intro fu
      induction fu with
      | zero => intro j ξ h1 h2; omega
      | succ fu ih =>
        intro j ξ h1 h2 e1 e2 e3
        have exz : xz (rds x i j) i = xz x i := by unfold xz; rw [rds_h]
        have ez : ξ.1 s 2 = nI (xz x i) := by rw [← exz]; exact e1.sz bi es (by rw [e1.sf bi es, rds_h, ← sf]; exact yd1)
        refine A.il4 eX4_read_31 ?_
        refine A.iconst (v := nI 2) eX4_read_33 (by decide) ?_
        refine A.iaddN eX4_read_34 ?_
        refine A.al2 eX4_read_35 ?_
        refine A.getI eX4_read_36 fX4_126 (kso hs) ?_
        refine A.top ez ?_
        refine A.icmp_geN eX4_read_39 (fun c2 => ?_) (fun c2 => ?_)
        · simp only [if_neg (show ¬ ov ((xh x).1 i) = -1 by rw [← sf]; exact yd1)] at hQ
          have e : rdn x i = j := by
            have w : j = xz x i / 3 := by omega
            subst w
            exact ffst_none e3
          rw [e] at hQ
          have hf := hQ ξ e1 e2
          refine A.il3 eX4_read_83 ?_
          refine B.iret eX4_read_84 ?_
          exact hf
        · refine A.al0 eX4_read_42 ?_
          refine A.al2 eX4_read_43 ?_
          refine A.il4 eX4_read_44 ?_
          refine A.cVi1 eX4_read_46 oX1_item kX4_127 (kso hs) (sX1_item hs ez sz6 (by omega) ?_)
          refine A.top (show ξ.1 (s + 1) (3 * j) = (xh x).2.2 i (3 * j) by rw [e1.si bi es (by rw [exz]; omega), rds_h]) ?_
          refine A.al2 eX4_read_49 ?_
          refine A.il4 eX4_read_50 ?_
          refine A.iconst (v := nI 1) eX4_read_52 (by decide) ?_
          refine A.iaddN eX4_read_53 ?_
          refine A.cVi1 eX4_read_54 oX1_item kX4_127 (kso hs) (sX1_item hs ez sz6 (by omega) ?_)
          refine A.top (show ξ.1 (s + 1) (3 * j + 1) = (xh x).2.2 i (3 * j + 1) by rw [e1.si bi es (by rw [exz]; omega), rds_h]) ?_
          refine A.al2 eX4_read_57 ?_
          refine A.il4 eX4_read_58 ?_
          refine A.iconst (v := nI 2) eX4_read_60 (by decide) ?_
          refine A.iaddN eX4_read_61 ?_
          refine A.cVi1 eX4_read_62 oX1_item kX4_127 (kso hs) (sX1_item hs ez sz6 (by omega) ?_)
          refine A.top (show ξ.1 (s + 1) (3 * j + 2) = (xh x).2.2 i (3 * j + 2) by rw [e1.si bi es (by rw [exz]; omega), rds_h]) ?_
          refine A.cVi3 eX4_read_65 oX4_go kX4_130 ko0 (aX4_go e1 (fun τ g1 g2 => ?_))
          refine A.if_geI eX4_read_68 (fun yd3 => ?_) (fun yd3 => ?_)
          · refine A.inc3N eX4_read_74 ?_
            refine A.inc4 (v := nI (3 * (j + 1))) eX4_read_77 (by show nI (3 * j) + zI 3 = _; rw [nI_z, zI_add, nI_z]; congr 1) ?_
            refine A.goto eX4_read_80 ?_
            refine ih (j + 1) τ (by omega) (by omega) g1 (e2.tr g2) (fun k hk => ?_)
            rcases Nat.lt_or_ge k j with z | z
            · exact e3 k z
            · rw [show k = j by omega]; exact decide_eq_false (by omega)
          · refine A.goto eX4_read_71 ?_
            simp only [if_neg (show ¬ ov ((xh x).1 i) = -1 by rw [← sf]; exact yd1)] at hQ
            have e : rdn x i = j := ffst_first e3 (by omega) (decide_eq_true yd3)
            rw [e] at hQ
            have hf := hQ τ (by rw [← Ngo_neg yd3]; exact g1) (e2.tr g2)
            refine A.il3 eX4_read_83 ?_
            refine B.iret eX4_read_84 ?_
            exact hf
    exact lp (xz x i / 3 + 1) 0 σ (by omega) (by omega) hC (Fi.rf _ _ _) (fun k hk => by omega)
  · refine A.al0 eX4_read_20 ?_
    refine A.iconst (v := nI 1) eX4_read_21 (by decide) ?_
    refine A.cVi1 eX4_read_22 oX4_finding kX4_123 ko0 (sX4_finding ?_)
    refine B.iret eX4_read_25 ?_
    simp only [if_pos (show ov ((xh x).1 i) = -1 by rw [← sf]; exact yd1)] at hQ
    exact hQ _ hC.setL ((Fi.rf 0 41 σ).ur (by omega) (by omega))
set_option maxRecDepth 100000 in
set_option maxHeartbeats 4000000 in
theorem zX4_read {G : GW} {σ : St} {K : Int32 → St → Prop} {i : Int32} (h0 : ¬ ck i 4) (hQ : K (-2) σ) : Ci G (r0 4 86) mX4_read [rf G 0, .int i] σ K := by
  refine Ci.of [some (rf G 0), some (.int i), none, none, none] ?_
  refine A.al0 eX4_read_0 ?_
  refine A.il1 eX4_read_1 ?_
  refine A.cVa1 eX4_read_2 oX4_sheetOf kX4_116 ko0 (sX4_sheetOfN h0 ?_)
  refine A.an_s2 eX4_read_5 ?_
  refine A.an2 eX4_read_6 ?_
  refine A.ifnonnullN eX4_read_7 ?_
  refine A.bipush (v := -2) eX4_read_10 (by decide) ?_
  refine B.iret eX4_read_12 ?_
  exact hQ
theorem aX4_read {G : GW} {σ : St} {K : Int32 → St → Prop} {x : XS} {i : Int32} (hC : CI x σ) (hQ : ∀ τ : St, CI (Nread x i) τ → Fi 0 41 σ τ → K (Rread x i) τ) : Ci G (r0 4 86) mX4_read [rf G 0, .int i] σ K := by
  unfold Rread Nread at hQ
  by_cases hi : ck i 4
  · simp only [if_pos hi] at hQ
    obtain ⟨i, bi, rfl⟩ := i_nat hi.1 hi.2
    simp only [nI_clamp (n := i) (by omega)] at hQ
    exact sX4_read hC bi rfl hQ
  · simp only [if_neg hi] at hQ
    exact zX4_read hi (hQ σ hC (Fi.rf _ _ _))
def Rcount (x : XS) (c : Int32) : Int32 := if c = nI 0 then nI (xp x) else if c = nI 1 then nI (xq x) else if c = nI 2 then nI (tL x 1) else if c = nI 3 then nI (tL x 5) else if c = nI 4 then nI (xg x).1 else if c = nI 5 then nI (xs x).1 else if c = nI 6 then nI (xf x).1 else if c = nI 7 then isum (fun i => nI (xb x i)) (xp x) else if c = nI 8 then nI (xl x) else -2
set_option maxRecDepth 100000 in
set_option maxHeartbeats 4000000 in
theorem sX4_count0 {G : GW} {σ : St} {K : Int32 → St → Prop} {x : XS} (hC : CI x σ) (hQ : ∀ τ : St, CI (x) τ → Fi 0 41 σ τ → K (nI (xp x)) τ) : Ci G (r0 1 22) mX4_count [rf G 0, .int (nI 0)] σ K := by
  refine Ci.of [some (rf G 0), some (.int (nI 0))] ?_
  refine A.il1 eX4_count_0 ?_
  
  · refine A.tableIn eX4_count_1 (by decide) (by decide) rfl rfl ?_
    refine A.al0 eX4_count_52 ?_
    refine A.getR eX4_count_53 fX4_14 ko0 kr0_0 ?_
    refine A.getI eX4_count_56 fX4_167 ko1 ?_
    refine A.top hC.np ?_
    refine B.iret eX4_count_59 ?_
    exact hQ σ hC (Fi.rf _ _ _)
set_option maxRecDepth 100000 in
set_option maxHeartbeats 4000000 in
theorem sX4_count1 {G : GW} {σ : St} {K : Int32 → St → Prop} {x : XS} (hC : CI x σ) (hQ : ∀ τ : St, CI (x) τ → Fi 0 41 σ τ → K (nI (xq x)) τ) : Ci G (r0 1 22) mX4_count [rf G 0, .int (nI 1)] σ K := by
  refine Ci.of [some (rf G 0), some (.int (nI 1))] ?_
  refine A.il1 eX4_count_0 ?_
  
  · refine A.tableIn eX4_count_1 (by decide) (by decide) rfl rfl ?_
    refine A.al0 eX4_count_60 ?_
    refine A.getR eX4_count_61 fX4_18 ko0 kr0_1 ?_
    refine A.getI eX4_count_64 fX4_167 ko5 ?_
    refine A.top hC.nq ?_
    refine B.iret eX4_count_67 ?_
    exact hQ σ hC (Fi.rf _ _ _)
set_option maxRecDepth 100000 in
set_option maxHeartbeats 4000000 in
theorem sX4_count2 {G : GW} {σ : St} {K : Int32 → St → Prop} {x : XS} (hC : CI x σ) (hQ : ∀ τ : St, CI (x) τ → Fi 0 41 σ τ → K (nI (tL x 1)) τ) : Ci G (r0 1 22) mX4_count [rf G 0, .int (nI 2)] σ K := by
  refine Ci.of [some (rf G 0), some (.int (nI 2))] ?_
  refine A.il1 eX4_count_0 ?_
  
  · refine A.tableIn eX4_count_1 (by decide) (by decide) rfl rfl ?_
    refine A.al0 eX4_count_68 ?_
    refine A.getR eX4_count_69 fX4_14 ko0 kr0_0 ?_
    refine A.getI eX4_count_72 fX4_78 ko1 ?_
    refine A.top (hC.li (u := 1) (Or.inl rfl)).2.1 ?_
    refine B.iret eX4_count_75 ?_
    exact hQ σ hC (Fi.rf _ _ _)
set_option maxRecDepth 100000 in
set_option maxHeartbeats 4000000 in
theorem sX4_count3 {G : GW} {σ : St} {K : Int32 → St → Prop} {x : XS} (hC : CI x σ) (hQ : ∀ τ : St, CI (x) τ → Fi 0 41 σ τ → K (nI (tL x 5)) τ) : Ci G (r0 1 22) mX4_count [rf G 0, .int (nI 3)] σ K := by
  refine Ci.of [some (rf G 0), some (.int (nI 3))] ?_
  refine A.il1 eX4_count_0 ?_
  
  · refine A.tableIn eX4_count_1 (by decide) (by decide) rfl rfl ?_
    refine A.al0 eX4_count_76 ?_
    refine A.getR eX4_count_77 fX4_18 ko0 kr0_1 ?_
    refine A.getI eX4_count_80 fX4_78 ko5 ?_
    refine A.top (hC.li (u := 5) (Or.inr rfl)).2.1 ?_
    refine B.iret eX4_count_83 ?_
    exact hQ σ hC (Fi.rf _ _ _)
set_option maxRecDepth 100000 in
set_option maxHeartbeats 4000000 in
theorem sX4_count4 {G : GW} {σ : St} {K : Int32 → St → Prop} {x : XS} (hC : CI x σ) (hQ : ∀ τ : St, CI (x) τ → Fi 0 41 σ τ → K (nI (xg x).1) τ) : Ci G (r0 1 22) mX4_count [rf G 0, .int (nI 4)] σ K := by
  refine Ci.of [some (rf G 0), some (.int (nI 4))] ?_
  refine A.il1 eX4_count_0 ?_
  
  · refine A.tableIn eX4_count_1 (by decide) (by decide) rfl rfl ?_
    refine A.al0 eX4_count_84 ?_
    refine A.getR eX4_count_85 fX4_26 ko0 kr0_2 ?_
    refine A.getI eX4_count_88 fX4_110 ko9 ?_
    refine A.top hC.go.1 ?_
    refine B.iret eX4_count_91 ?_
    exact hQ σ hC (Fi.rf _ _ _)
set_option maxRecDepth 100000 in
set_option maxHeartbeats 4000000 in
theorem sX4_count5 {G : GW} {σ : St} {K : Int32 → St → Prop} {x : XS} (hC : CI x σ) (hQ : ∀ τ : St, CI (x) τ → Fi 0 41 σ τ → K (nI (xs x).1) τ) : Ci G (r0 1 22) mX4_count [rf G 0, .int (nI 5)] σ K := by
  refine Ci.of [some (rf G 0), some (.int (nI 5))] ?_
  refine A.il1 eX4_count_0 ?_
  
  · refine A.tableIn eX4_count_1 (by decide) (by decide) rfl rfl ?_
    refine A.al0 eX4_count_92 ?_
    refine A.getR eX4_count_93 fX4_30 ko0 kr0_3 ?_
    refine A.getI eX4_count_96 fX4_110 ko13 ?_
    refine A.top hC.se.1 ?_
    refine B.iret eX4_count_99 ?_
    exact hQ σ hC (Fi.rf _ _ _)
set_option maxRecDepth 100000 in
set_option maxHeartbeats 4000000 in
theorem sX4_count6 {G : GW} {σ : St} {K : Int32 → St → Prop} {x : XS} (hC : CI x σ) (hQ : ∀ τ : St, CI (x) τ → Fi 0 41 σ τ → K (nI (xf x).1) τ) : Ci G (r0 1 22) mX4_count [rf G 0, .int (nI 6)] σ K := by
  refine Ci.of [some (rf G 0), some (.int (nI 6))] ?_
  refine A.il1 eX4_count_0 ?_
  
  · refine A.tableIn eX4_count_1 (by decide) (by decide) rfl rfl ?_
    refine A.al0 eX4_count_100 ?_
    refine A.getR eX4_count_101 fX4_33 ko0 kr0_4 ?_
    refine A.getI eX4_count_104 fX4_110 ko17 ?_
    refine A.top hC.fe.1 ?_
    refine B.iret eX4_count_107 ?_
    exact hQ σ hC (Fi.rf _ _ _)
set_option maxRecDepth 100000 in
set_option maxHeartbeats 4000000 in
theorem sX4_count7 {G : GW} {σ : St} {K : Int32 → St → Prop} {x : XS} (hC : CI x σ) (hQ : ∀ τ : St, CI (x) τ → Fi 0 41 σ τ → K (isum (fun i => nI (xb x i)) (xp x)) τ) : Ci G (r0 1 22) mX4_count [rf G 0, .int (nI 7)] σ K := by
  refine Ci.of [some (rf G 0), some (.int (nI 7))] ?_
  refine A.il1 eX4_count_0 ?_
  
  · refine A.tableIn eX4_count_1 (by decide) (by decide) rfl rfl ?_
    refine A.al0 eX4_count_108 ?_
    refine A.getR eX4_count_109 fX4_14 ko0 kr0_0 ?_
    refine A.cVi0 eX4_count_112 oX0_sumOfFirsts kX4_274 ko1 (sX0_sumOfFirsts (u := 1) (Or.inl rfl) hC.np hC.np8 ?_)
    refine B.iret eX4_count_115 ?_
    exact vl_of (hQ σ hC (Fi.rf _ _ _)) (isum_eq (fun i hi => (hC.b i hi).1))
set_option maxRecDepth 100000 in
set_option maxHeartbeats 4000000 in
theorem sX4_count8 {G : GW} {σ : St} {K : Int32 → St → Prop} {x : XS} (hC : CI x σ) (hQ : ∀ τ : St, CI (x) τ → Fi 0 41 σ τ → K (nI (xl x)) τ) : Ci G (r0 1 22) mX4_count [rf G 0, .int (nI 8)] σ K := by
  refine Ci.of [some (rf G 0), some (.int (nI 8))] ?_
  refine A.il1 eX4_count_0 ?_
  
  · refine A.tableIn eX4_count_1 (by decide) (by decide) rfl rfl ?_
    refine A.al0 eX4_count_116 ?_
    refine A.getI eX4_count_117 fX4_59 ko0 ?_
    refine A.top hC.2.2.2.2.2.2.2.2.1 ?_
    refine B.iret eX4_count_120 ?_
    exact hQ σ hC (Fi.rf _ _ _)
set_option maxRecDepth 100000 in
set_option maxHeartbeats 4000000 in
theorem bX4_count {G : GW} {σ : St} {K : Int32 → St → Prop} {c : Int32} (hb : ¬ ck c 9) (hQ : K (-2) σ) : Ci G (r0 1 22) mX4_count [rf G 0, .int c] σ K := by
  refine Ci.of [some (rf G 0), some (.int c)] ?_
  refine A.il1 eX4_count_0 ?_
  
  · refine A.tableOut eX4_count_1 (by omega) rfl ?_
    refine A.bipush (v := -2) eX4_count_121 (by decide) ?_
    refine B.iret eX4_count_123 ?_
    exact hQ
theorem aX4_count {G : GW} {σ : St} {K : Int32 → St → Prop} {x : XS} {c : Int32} (hC : CI x σ) (hQ : ∀ τ : St, CI (x) τ → Fi 0 41 σ τ → K (Rcount x c) τ) : Ci G (r0 1 22) mX4_count [rf G 0, .int c] σ K := by
  by_cases hb : ck c 9
  · obtain ⟨n, hn, rfl⟩ := i_nat hb.1 hb.2
    match n, hn with
    | 0, _ => exact sX4_count0 hC hQ
    | 1, _ => exact sX4_count1 hC hQ
    | 2, _ => exact sX4_count2 hC hQ
    | 3, _ => exact sX4_count3 hC hQ
    | 4, _ => exact sX4_count4 hC hQ
    | 5, _ => exact sX4_count5 hC hQ
    | 6, _ => exact sX4_count6 hC hQ
    | 7, _ => exact sX4_count7 hC hQ
    | 8, _ => exact sX4_count8 hC hQ
  · refine bX4_count hb (vl_of (hQ σ hC (Fi.rf _ _ _)) ?_)
    unfold Rcount
    have w : ∀ n : Nat, n < 9 → ¬ c = nI n := by
      intro n hn e
      apply hb
      rw [e]
      unfold ck
      rw [nI_ti (by omega)]
      omega
    rw [if_neg (w 0 (by omega)), if_neg (w 1 (by omega)), if_neg (w 2 (by omega)), if_neg (w 3 (by omega)), if_neg (w 4 (by omega)), if_neg (w 5 (by omega)), if_neg (w 6 (by omega)), if_neg (w 7 (by omega)), if_neg (w 8 (by omega))]
