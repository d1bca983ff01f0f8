theorem acp_l : Cond.methodLink RX4 263 arraycopyName ∈ gt := gt_o3 82 (by rfl) rfl
theorem acp_n : Cond.native arraycopyName ∈ gt := gt_o3 84 (by rfl) rfl
theorem acp_s : Cond.static arraycopyName ∈ gt := gt_o3 83 (by rfl) rfl
theorem nI_nn {n : Nat} (h : n < 2147483648) : ¬ nI n < 0 := by
  rw [i_lt, nI_ti h]
  show ¬ ((n : Int) < 0)
  omega
theorem A.copy {G : GW} {rm : Room} {M : MR} {kw mw : Nat × Nat} {pc q idx : Nat} {L : List (Option Value)} {S : List Value} {h : HD} {σ : St} {Q : Option Value → HD → St → Prop} {k0 k1 n0 n1 a b n : Nat} (hd : Ix M pc q (.invokestatic idx) 3) (hlk : Cond.methodLink M.1.cls idx arraycopyName ∈ gt) (hk0 : Ka h k0 n0) (hk1 : Ka h k1 n1) (h4 : a + n ≤ n0) (h5 : b + n ≤ n1) (hb : n0 < 2147483648 ∧ n1 < 2147483648) (kk : A G rm M kw mw q L S h (ur σ k1 (va_cpy (σ.1 k0) (σ.1 k1) a b n)) Q) (hr : 1 ≤ rm.frames ∧ (S.map (fun v => v.category)).sum + (nativeFrameWords "java/lang/System" "arraycopy" 5 + 11) ≤ rm.locals := by exact ⟨Nat.le_of_ble_eq_true rfl, Nat.le_of_ble_eq_true rfl⟩) : A G rm M kw mw pc L (.int (nI n) :: .int (nI b) :: rf G k1 :: .int (nI a) :: rf G k0 :: S) h σ Q := by
  intro p e s m args below meth cc ls H locs C hl hP hz hS
  obtain ⟨hd, rfl⟩ := hd
  have hts := C.2.2.2.2.2.2.2.1
  have ca := nI_clamp (n := a) (by omega)
  have cb := nI_clamp (n := b) (by omega)
  have cn := nI_clamp (n := n) (by omega)
  refine va_copyi C.1 C.2.1 (by rw [C.2.2.1, hl.1]) C.2.2.2.2.2.2.1 (hts _ hlk) (hts _ acp_n) (hts _ acp_s) (hts _ it_J10) C.2.2.2.2.2.2.2.2.1.1 hP wls_D hS k0 k1 0 0 (wls_ia hk0) (wls_ia hk1) rfl rfl rfl (nI_nn (by omega)) (nI_nn (by omega)) (nI_nn (by omega)) (by rw [ca, cn]; exact h4) (by rw [cb, cn]; exact h5) (fun _ _ => rfl) hr.1 hr.2 hd (fun H1 locs1 hP1 _ hS1 => ?_)
  rw [wls_arr hk1.2, ca, cb, cn] at hP1
  exact kk p e s m args below meth cc ls H1 locs1 C hl hP1 hz hS1
def Rgo (x : XS) (a b c : Int32) : Int32 := if ck a 24 ∧ ck b 8 ∧ ck c 6 then if (xg x).1 < 20 then nI ((xg x).1 + 1) else -4 else -2
def Ngo (x : XS) (a b c : Int32) : XS := if ck a 24 ∧ ck b 8 ∧ ck c 6 then if (xg x).1 < 20 then wg x (x3a (xg x) a.toNatClampNeg b.toNatClampNeg c.toNatClampNeg) else x else x
set_option maxRecDepth 100000 in
set_option maxHeartbeats 4000000 in
theorem sX4_go {G : GW} {σ : St} {K : Int32 → St → Prop} {x : XS} {a b c : Nat} (hC : CI x σ) (ba : a < 24) (bb : b < 8) (bc : c < 6) (hQ : ∀ τ : St, CI (if (xg x).1 < 20 then wg x (x3a (xg x) a b c) else x) τ → Fi 0 41 σ τ → K (if (xg x).1 < 20 then nI ((xg x).1 + 1) else -4) τ) : Ci G (r0 3 63) mX4_go [rf G 0, .int (nI a), .int (nI b), .int (nI c)] σ K := by
  refine Ci.of [some (rf G 0), some (.int (nI a)), some (.int (nI b)), some (.int (nI c))] ?_
  have n8 := hC.np8
  have q6 := hC.nq6
  refine A.il1 eX4_go_0 ?_
  refine A.il2 eX4_go_1 ?_
  refine A.il3 eX4_go_2 ?_
  refine A.cSi3 eX4_go_3 oX4_mayBeGoing kX4_101 (sX4_mayBeGoing ?_)
  refine A.if_neB eX4_go_6 (fun yw0 => ?_) (fun yw0 => ?_)
  · refine A.al0 eX4_go_12 ?_
    refine A.getR eX4_go_13 fX4_26 ko0 kr0_2 ?_
    refine A.cVi0 eX4_go_16 oX2_hasRoom kX4_105 ko9 (sX2_hasRoom (t := 9) (Or.inl rfl) hC.go.1 hC.go.2.1 ?_)
    refine A.if_neB eX4_go_19 (fun yd1 => ?_) (fun yd1 => ?_)
    · have yd2 : (xg x).1 < 20 := yd1
      refine A.al0 eX4_go_25 ?_
      refine A.getR eX4_go_26 fX4_26 ko0 kr0_2 ?_
      refine A.il1 eX4_go_29 ?_
      refine A.il2 eX4_go_30 ?_
      refine A.il3 eX4_go_31 ?_
      refine A.cVv3 eX4_go_32 oX2_add kX4_106 ko9 (sX2_add (t := 9) (Or.inl rfl) hC.go.1 yd1 ?_)
      refine A.al0 eX4_go_35 ?_
      refine A.iconst (v := nI 0) eX4_go_36 (by decide) ?_
      refine A.putZ eX4_go_37 pX4_55 ko0 (by decide) ?_
      refine A.al0 eX4_go_40 ?_
      refine A.getR eX4_go_41 fX4_26 ko0 kr0_2 ?_
      refine A.getI eX4_go_44 fX4_110 ko9 ?_
      refine A.top (show _ = nI ((xg x).1 + 1) by rw [ur_n (by omega)]; exact tadd_sz) ?_
      refine B.iret eX4_go_47 ?_
      first
        | (simp only [if_neg (show ¬ (xg x).1 < 20 from yd1)] at hQ; exact hQ σ hC (Fi.rf _ _ _))
        | (simp only [if_pos (show (xg x).1 < 20 from yd1)] at hQ; exact hQ _ (CI.setG hC tadd_fi ⟨tadd_sz, Nat.succ_le_of_lt yd1, T3.add ba bb bc hC.go.2.2⟩) ((tadd_fi.mo (by omega) (by omega)).ur (by omega) (by omega)))
    · refine A.bipush (v := -4) eX4_go_22 (by decide) ?_
      refine B.iret eX4_go_24 ?_
      first
        | (simp only [if_neg (show ¬ (xg x).1 < 20 from yd1)] at hQ; exact hQ σ hC (Fi.rf _ _ _))
        | (simp only [if_pos (show (xg x).1 < 20 from yd1)] at hQ; exact hQ _ (CI.setG hC tadd_fi ⟨tadd_sz, Nat.succ_le_of_lt yd1, T3.add ba bb bc hC.go.2.2⟩) ((tadd_fi.mo (by omega) (by omega)).ur (by omega) (by omega)))
  · exact absurd ⟨⟨by rw [nI_ti (by omega)]; omega, by rw [nI_ti (by omega)]; omega⟩, ⟨by rw [nI_ti (by omega)]; omega, by rw [nI_ti (by omega)]; omega⟩, ⟨by rw [nI_ti (by omega)]; omega, by rw [nI_ti (by omega)]; omega⟩⟩ yw0
set_option maxRecDepth 100000 in
set_option maxHeartbeats 4000000 in
theorem bX4_go {G : GW} {σ : St} {K : Int32 → St → Prop} {x : XS} {a b c : Int32} (hC : CI x σ) (hb : ¬ (ck a 24 ∧ ck b 8 ∧ ck c 6)) (hQ : K (-2) σ) : Ci G (r0 3 63) mX4_go [rf G 0, .int a, .int b, .int c] σ K := by
  refine Ci.of [some (rf G 0), some (.int a), some (.int b), some (.int c)] ?_
  have n8 := hC.np8
  have q6 := hC.nq6
  refine A.il1 eX4_go_0 ?_
  refine A.il2 eX4_go_1 ?_
  refine A.il3 eX4_go_2 ?_
  refine A.cSi3 eX4_go_3 oX4_mayBeGoing kX4_101 (sX4_mayBeGoing ?_)
  refine A.if_neB eX4_go_6 (fun yw0 => ?_) (fun yw0 => ?_)
  · exact absurd yw0 hb
  · refine A.bipush (v := -2) eX4_go_9 (by decide) ?_
    refine B.iret eX4_go_11 ?_
    exact hQ
theorem aX4_go {G : GW} {σ : St} {K : Int32 → St → Prop} {x : XS} {a b c : Int32} (hC : CI x σ) (hQ : ∀ τ : St, CI (Ngo x a b c) τ → Fi 0 41 σ τ → K (Rgo x a b c) τ) : Ci G (r0 3 63) mX4_go [rf G 0, .int a, .int b, .int c] σ K := by
  have n8 := hC.np8
  have q6 := hC.nq6
  unfold Rgo Ngo at hQ
  by_cases hb : ck a 24 ∧ ck b 8 ∧ ck c 6
  · simp only [if_pos hb] at hQ
    obtain ⟨a, ba, rfl⟩ := i_nat hb.1.1 hb.1.2
    obtain ⟨b, bb, rfl⟩ := i_nat hb.2.1.1 hb.2.1.2
    obtain ⟨c, bc, rfl⟩ := i_nat hb.2.2.1 hb.2.2.2
    simp only [nI_clamp (n := a) (by omega), nI_clamp (n := b) (by omega), nI_clamp (n := c) (by omega)] at hQ
    exact sX4_go hC ba bb bc hQ
  · simp only [if_neg hb] at hQ
    exact bX4_go hC hb (hQ σ hC (Fi.rf _ _ _))
def Rseen (x : XS) (h p b : Int32) : Int32 := if ck h 24 ∧ ck p 8 ∧ ck b 10 then if (xs x).1 < 8 then nI ((xs x).1 + 1) else -4 else -2
def Nseen (x : XS) (h p b : Int32) : XS := if ck h 24 ∧ ck p 8 ∧ ck b 10 then if (xs x).1 < 8 then ws x (x3a (xs x) h.toNatClampNeg p.toNatClampNeg b.toNatClampNeg) else x else x
set_option maxRecDepth 100000 in
set_option maxHeartbeats 4000000 in
theorem sX4_seen {G : GW} {σ : St} {K : Int32 → St → Prop} {x : XS} {h p b : Nat} (hC : CI x σ) (bh : h < 24) (bp : p < 8) (bb : b < 10) (hQ : ∀ τ : St, CI (if (xs x).1 < 8 then ws x (x3a (xs x) h p b) else x) τ → Fi 0 41 σ τ → K (if (xs x).1 < 8 then nI ((xs x).1 + 1) else -4) τ) : Ci G (r0 2 43) mX4_seen [rf G 0, .int (nI h), .int (nI p), .int (nI b)] σ K := by
  refine Ci.of [some (rf G 0), some (.int (nI h)), some (.int (nI p)), some (.int (nI b))] ?_
  have n8 := hC.np8
  have q6 := hC.nq6
  refine A.il1 eX4_seen_0 ?_
  refine A.cSi1 eX4_seen_1 oX4_isHour kX4_134 (sX4_isHour ?_)
  refine A.if_eqB eX4_seen_4 (fun yw0 => ?_) (fun yw0 => ?_)
  · exact absurd ⟨by rw [nI_ti (by omega)]; omega, by rw [nI_ti (by omega)]; omega⟩ yw0
  · refine A.il2 eX4_seen_7 ?_
    refine A.bipush (v := nI 8) eX4_seen_8 (by decide) ?_
    refine A.cSi2 eX4_seen_10 oX4_isBelow kX4_67 (sX4_isBelowIN (b := 8) (by omega) ?_)
    refine A.if_eqB eX4_seen_13 (fun yw1 => ?_) (fun yw1 => ?_)
    · exact absurd ⟨by rw [nI_ti (by omega)]; omega, by rw [nI_ti (by omega)]; omega⟩ yw1
    · refine A.il3 eX4_seen_16 ?_
      refine A.bipush (v := nI 10) eX4_seen_17 (by decide) ?_
      refine A.cSi2 eX4_seen_19 oX4_isBelow kX4_67 (sX4_isBelowIN (b := 10) (by omega) ?_)
      refine A.if_neB eX4_seen_22 (fun yw2 => ?_) (fun yw2 => ?_)
      · refine A.al0 eX4_seen_28 ?_
        refine A.getR eX4_seen_29 fX4_30 ko0 kr0_3 ?_
        refine A.cVi0 eX4_seen_32 oX2_hasRoom kX4_105 ko13 (sX2_hasRoom (t := 13) (Or.inr (Or.inl rfl)) hC.se.1 hC.se.2.1 ?_)
        refine A.if_neB eX4_seen_35 (fun yd1 => ?_) (fun yd1 => ?_)
        · have yd2 : (xs x).1 < 8 := yd1
          refine A.al0 eX4_seen_41 ?_
          refine A.getR eX4_seen_42 fX4_30 ko0 kr0_3 ?_
          refine A.il1 eX4_seen_45 ?_
          refine A.il2 eX4_seen_46 ?_
          refine A.il3 eX4_seen_47 ?_
          refine A.cVv3 eX4_seen_48 oX2_add kX4_106 ko13 (sX2_add (t := 13) (Or.inr (Or.inl rfl)) hC.se.1 yd1 ?_)
          refine A.al0 eX4_seen_51 ?_
          refine A.getR eX4_seen_52 fX4_30 ko0 kr0_3 ?_
          refine A.getI eX4_seen_55 fX4_110 ko13 ?_
          refine A.top tadd_sz ?_
          refine B.iret eX4_seen_58 ?_
          first
            | (simp only [if_neg (show ¬ (xs x).1 < 8 from yd1)] at hQ; exact hQ σ hC (Fi.rf _ _ _))
            | (simp only [if_pos (show (xs x).1 < 8 from yd1)] at hQ; exact hQ _ (CI.setS hC tadd_fi ⟨tadd_sz, Nat.succ_le_of_lt yd1, fun k hk => (fun w => ⟨w.1, w.2.1, w.2.2.1, Nat.le_of_lt_succ w.2.2.2⟩) (T3.add (t := 13) (C := 10) bh bp bb (fun k hk => (fun w => ⟨w.1, w.2.1, w.2.2.1, Nat.lt_succ_of_le w.2.2.2⟩) (hC.se.2.2 k hk)) k hk)⟩) (tadd_fi.mo (by omega) (by omega)))
        · refine A.bipush (v := -4) eX4_seen_38 (by decide) ?_
          refine B.iret eX4_seen_40 ?_
          first
            | (simp only [if_neg (show ¬ (xs x).1 < 8 from yd1)] at hQ; exact hQ σ hC (Fi.rf _ _ _))
            | (simp only [if_pos (show (xs x).1 < 8 from yd1)] at hQ; exact hQ _ (CI.setS hC tadd_fi ⟨tadd_sz, Nat.succ_le_of_lt yd1, fun k hk => (fun w => ⟨w.1, w.2.1, w.2.2.1, Nat.le_of_lt_succ w.2.2.2⟩) (T3.add (t := 13) (C := 10) bh bp bb (fun k hk => (fun w => ⟨w.1, w.2.1, w.2.2.1, Nat.lt_succ_of_le w.2.2.2⟩) (hC.se.2.2 k hk)) k hk)⟩) (tadd_fi.mo (by omega) (by omega)))
      · exact absurd ⟨by rw [nI_ti (by omega)]; omega, by rw [nI_ti (by omega)]; omega⟩ yw2
set_option maxRecDepth 100000 in
set_option maxHeartbeats 4000000 in
theorem bX4_seen {G : GW} {σ : St} {K : Int32 → St → Prop} {x : XS} {h p b : Int32} (hC : CI x σ) (hb : ¬ (ck h 24 ∧ ck p 8 ∧ ck b 10)) (hQ : K (-2) σ) : Ci G (r0 2 43) mX4_seen [rf G 0, .int h, .int p, .int b] σ K := by
  refine Ci.of [some (rf G 0), some (.int h), some (.int p), some (.int b)] ?_
  have n8 := hC.np8
  have q6 := hC.nq6
  refine A.il1 eX4_seen_0 ?_
  refine A.cSi1 eX4_seen_1 oX4_isHour kX4_134 (sX4_isHour ?_)
  refine A.if_eqB eX4_seen_4 (fun yw0 => ?_) (fun yw0 => ?_)
  · refine A.bipush (v := -2) eX4_seen_25 (by decide) ?_
    refine B.iret eX4_seen_27 ?_
    exact hQ
  · refine A.il2 eX4_seen_7 ?_
    refine A.bipush (v := nI 8) eX4_seen_8 (by decide) ?_
    refine A.cSi2 eX4_seen_10 oX4_isBelow kX4_67 (sX4_isBelowIN (b := 8) (by omega) ?_)
    refine A.if_eqB eX4_seen_13 (fun yw1 => ?_) (fun yw1 => ?_)
    · refine A.bipush (v := -2) eX4_seen_25 (by decide) ?_
      refine B.iret eX4_seen_27 ?_
      exact hQ
    · refine A.il3 eX4_seen_16 ?_
      refine A.bipush (v := nI 10) eX4_seen_17 (by decide) ?_
      refine A.cSi2 eX4_seen_19 oX4_isBelow kX4_67 (sX4_isBelowIN (b := 10) (by omega) ?_)
      refine A.if_neB eX4_seen_22 (fun yw2 => ?_) (fun yw2 => ?_)
      · exact absurd ⟨yw0, yw1, yw2⟩ hb
      · refine A.bipush (v := -2) eX4_seen_25 (by decide) ?_
        refine B.iret eX4_seen_27 ?_
        exact hQ
theorem aX4_seen {G : GW} {σ : St} {K : Int32 → St → Prop} {x : XS} {h p b : Int32} (hC : CI x σ) (hQ : ∀ τ : St, CI (Nseen x h p b) τ → Fi 0 41 σ τ → K (Rseen x h p b) τ) : Ci G (r0 2 43) mX4_seen [rf G 0, .int h, .int p, .int b] σ K := by
  have n8 := hC.np8
  have q6 := hC.nq6
  unfold Rseen Nseen at hQ
  by_cases hb : ck h 24 ∧ ck p 8 ∧ ck b 10
  · simp only [if_pos hb] at hQ
    obtain ⟨h, bh, rfl⟩ := i_nat hb.1.1 hb.1.2
    obtain ⟨p, bp, rfl⟩ := i_nat hb.2.1.1 hb.2.1.2
    obtain ⟨b, bb, rfl⟩ := i_nat hb.2.2.1 hb.2.2.2
    simp only [nI_clamp (n := h) (by omega), nI_clamp (n := p) (by omega), nI_clamp (n := b) (by omega)] at hQ
    exact sX4_seen hC bh bp bb hQ
  · simp only [if_neg hb] at hQ
    exact bX4_seen hC hb (hQ σ hC (Fi.rf _ _ _))
def Rfog (x : XS) (h q s : Int32) : Int32 := if ck h 24 ∧ ck q 6 ∧ ck s 2 then if (xf x).1 < 8 then nI ((xf x).1 + 1) else -4 else -2
def Nfog (x : XS) (h q s : Int32) : XS := if ck h 24 ∧ ck q 6 ∧ ck s 2 then if (xf x).1 < 8 then wf x (x3a (xf x) h.toNatClampNeg q.toNatClampNeg s.toNatClampNeg) else x else x
set_option maxRecDepth 100000 in
set_option maxHeartbeats 4000000 in
theorem sX4_fog {G : GW} {σ : St} {K : Int32 → St → Prop} {x : XS} {h q s : Nat} (hC : CI x σ) (bh : h < 24) (bq : q < 6) (bs : s < 2) (hQ : ∀ τ : St, CI (if (xf x).1 < 8 then wf x (x3a (xf x) h q s) else x) τ → Fi 0 41 σ τ → K (if (xf x).1 < 8 then nI ((xf x).1 + 1) else -4) τ) : Ci G (r0 2 43) mX4_fog [rf G 0, .int (nI h), .int (nI q), .int (nI s)] σ K := by
  refine Ci.of [some (rf G 0), some (.int (nI h)), some (.int (nI q)), some (.int (nI s))] ?_
  have n8 := hC.np8
  have q6 := hC.nq6
  refine A.il1 eX4_fog_0 ?_
  refine A.cSi1 eX4_fog_1 oX4_isHour kX4_134 (sX4_isHour ?_)
  refine A.if_eqB eX4_fog_4 (fun yw0 => ?_) (fun yw0 => ?_)
  · exact absurd ⟨by rw [nI_ti (by omega)]; omega, by rw [nI_ti (by omega)]; omega⟩ yw0
  · refine A.il2 eX4_fog_7 ?_
    refine A.bipush (v := nI 6) eX4_fog_8 (by decide) ?_
    refine A.cSi2 eX4_fog_10 oX4_isBelow kX4_67 (sX4_isBelowIN (b := 6) (by omega) ?_)
    refine A.if_eqB eX4_fog_13 (fun yw1 => ?_) (fun yw1 => ?_)
    · exact absurd ⟨by rw [nI_ti (by omega)]; omega, by rw [nI_ti (by omega)]; omega⟩ yw1
    · refine A.il3 eX4_fog_16 ?_
      refine A.iconst (v := nI 2) eX4_fog_17 (by decide) ?_
      refine A.cSi2 eX4_fog_18 oX4_isBelow kX4_67 (sX4_isBelowIN (b := 2) (by omega) ?_)
      refine A.if_neB eX4_fog_21 (fun yw2 => ?_) (fun yw2 => ?_)
      · refine A.al0 eX4_fog_27 ?_
        refine A.getR eX4_fog_28 fX4_33 ko0 kr0_4 ?_
        refine A.cVi0 eX4_fog_31 oX2_hasRoom kX4_105 ko17 (sX2_hasRoom (t := 17) (Or.inr (Or.inr rfl)) hC.fe.1 hC.fe.2.1 ?_)
        refine A.if_neB eX4_fog_34 (fun yd1 => ?_) (fun yd1 => ?_)
        · have yd2 : (xf x).1 < 8 := yd1
          refine A.al0 eX4_fog_40 ?_
          refine A.getR eX4_fog_41 fX4_33 ko0 kr0_4 ?_
          refine A.il1 eX4_fog_44 ?_
          refine A.il2 eX4_fog_45 ?_
          refine A.il3 eX4_fog_46 ?_
          refine A.cVv3 eX4_fog_47 oX2_add kX4_106 ko17 (sX2_add (t := 17) (Or.inr (Or.inr rfl)) hC.fe.1 yd1 ?_)
          refine A.al0 eX4_fog_50 ?_
          refine A.getR eX4_fog_51 fX4_33 ko0 kr0_4 ?_
          refine A.getI eX4_fog_54 fX4_110 ko17 ?_
          refine A.top tadd_sz ?_
          refine B.iret eX4_fog_57 ?_
          first
            | (simp only [if_neg (show ¬ (xf x).1 < 8 from yd1)] at hQ; exact hQ σ hC (Fi.rf _ _ _))
            | (simp only [if_pos (show (xf x).1 < 8 from yd1)] at hQ; exact hQ _ (CI.setF hC tadd_fi ⟨tadd_sz, Nat.succ_le_of_lt yd1, T3.add bh bq bs hC.fe.2.2⟩) (tadd_fi.mo (by omega) (by omega)))
        · refine A.bipush (v := -4) eX4_fog_37 (by decide) ?_
          refine B.iret eX4_fog_39 ?_
          first
            | (simp only [if_neg (show ¬ (xf x).1 < 8 from yd1)] at hQ; exact hQ σ hC (Fi.rf _ _ _))
            | (simp only [if_pos (show (xf x).1 < 8 from yd1)] at hQ; exact hQ _ (CI.setF hC tadd_fi ⟨tadd_sz, Nat.succ_le_of_lt yd1, T3.add bh bq bs hC.fe.2.2⟩) (tadd_fi.mo (by omega) (by omega)))
      · exact absurd ⟨by rw [nI_ti (by omega)]; omega, by rw [nI_ti (by omega)]; omega⟩ yw2
set_option maxRecDepth 100000 in
set_option maxHeartbeats 4000000 in
theorem bX4_fog {G : GW} {σ : St} {K : Int32 → St → Prop} {x : XS} {h q s : Int32} (hC : CI x σ) (hb : ¬ (ck h 24 ∧ ck q 6 ∧ ck s 2)) (hQ : K (-2) σ) : Ci G (r0 2 43) mX4_fog [rf G 0, .int h, .int q, .int s] σ K := by
  refine Ci.of [some (rf G 0), some (.int h), some (.int q), some (.int s)] ?_
  have n8 := hC.np8
  have q6 := hC.nq6
  refine A.il1 eX4_fog_0 ?_
  refine A.cSi1 eX4_fog_1 oX4_isHour kX4_134 (sX4_isHour ?_)
  refine A.if_eqB eX4_fog_4 (fun yw0 => ?_) (fun yw0 => ?_)
  · refine A.bipush (v := -2) eX4_fog_24 (by decide) ?_
    refine B.iret eX4_fog_26 ?_
    exact hQ
  · refine A.il2 eX4_fog_7 ?_
    refine A.bipush (v := nI 6) eX4_fog_8 (by decide) ?_
    refine A.cSi2 eX4_fog_10 oX4_isBelow kX4_67 (sX4_isBelowIN (b := 6) (by omega) ?_)
    refine A.if_eqB eX4_fog_13 (fun yw1 => ?_) (fun yw1 => ?_)
    · refine A.bipush (v := -2) eX4_fog_24 (by decide) ?_
      refine B.iret eX4_fog_26 ?_
      exact hQ
    · refine A.il3 eX4_fog_16 ?_
      refine A.iconst (v := nI 2) eX4_fog_17 (by decide) ?_
      refine A.cSi2 eX4_fog_18 oX4_isBelow kX4_67 (sX4_isBelowIN (b := 2) (by omega) ?_)
      refine A.if_neB eX4_fog_21 (fun yw2 => ?_) (fun yw2 => ?_)
      · exact absurd ⟨yw0, yw1, yw2⟩ hb
      · refine A.bipush (v := -2) eX4_fog_24 (by decide) ?_
        refine B.iret eX4_fog_26 ?_
        exact hQ
theorem aX4_fog {G : GW} {σ : St} {K : Int32 → St → Prop} {x : XS} {h q s : Int32} (hC : CI x σ) (hQ : ∀ τ : St, CI (Nfog x h q s) τ → Fi 0 41 σ τ → K (Rfog x h q s) τ) : Ci G (r0 2 43) mX4_fog [rf G 0, .int h, .int q, .int s] σ K := by
  have n8 := hC.np8
  have q6 := hC.nq6
  unfold Rfog Nfog at hQ
  by_cases hb : ck h 24 ∧ ck q 6 ∧ ck s 2
  · simp only [if_pos hb] at hQ
    obtain ⟨h, bh, rfl⟩ := i_nat hb.1.1 hb.1.2
    obtain ⟨q, bq, rfl⟩ := i_nat hb.2.1.1 hb.2.1.2
    obtain ⟨s, bs, rfl⟩ := i_nat hb.2.2.1 hb.2.2.2
    simp only [nI_clamp (n := h) (by omega), nI_clamp (n := q) (by omega), nI_clamp (n := s) (by omega)] at hQ
    exact sX4_fog hC bh bq bs hQ
  · simp only [if_neg hb] at hQ
    exact bX4_fog hC hb (hQ σ hC (Fi.rf _ _ _))
def Rback (x : XS) : Int32 := if (xg x).1 = 0 then -3 else nI ((xg x).1 - 1)
def Nback (x : XS) : XS := if (xg x).1 = 0 then x else wg x (x3d (xg x))
set_option maxRecDepth 100000 in
set_option maxHeartbeats 4000000 in
theorem aX4_back {G : GW} {σ : St} {K : Int32 → St → Prop} {x : XS} (hC : CI x σ) (hQ : ∀ τ : St, CI (Nback x) τ → Fi 0 41 σ τ → K (Rback x) τ) : Ci G (r0 2 41) mX4_back [rf G 0] σ K := by
  refine Ci.of [some (rf G 0)] ?_
  unfold Nback Rback at hQ
  have g20 := hC.go.2.1
  refine A.al0 eX4_back_0 ?_
  refine A.getR eX4_back_1 fX4_26 ko0 kr0_2 ?_
  refine A.getI eX4_back_4 fX4_110 ko9 ?_
  refine A.top hC.go.1 ?_
  refine A.if_neN eX4_back_7 (fun yd1 => ?_) (fun yd1 => ?_)
  · refine A.al0 eX4_back_13 ?_
    refine A.getR eX4_back_14 fX4_26 ko0 kr0_2 ?_
    refine A.cVv0 eX4_back_17 oX2_dropLast kX4_113 ko9 (sX2_dropLast (t := 9) (Or.inl rfl) hC.go.1 (by omega) hC.go.2.1 ?_)
    refine A.al0 eX4_back_20 ?_
    refine A.iconst (v := nI 0) eX4_back_21 (by decide) ?_
    refine A.putZ eX4_back_22 pX4_55 ko0 (by decide) ?_
    refine A.al0 eX4_back_25 ?_
    refine A.getR eX4_back_26 fX4_26 ko0 kr0_2 ?_
    refine A.getI eX4_back_29 fX4_110 ko9 ?_
    refine A.top (show _ = nI ((xg x).1 - 1) by rw [ur_n (by omega), ur_s, upd_s]) ?_
    refine B.iret eX4_back_32 ?_
    simp only [if_neg yd1] at hQ
    have f1 : Fi 9 12 σ (ur σ 9 (upd (σ.1 9) 3 (nI ((xg x).1 - 1)))) := (Fi.rf 9 12 σ).ur (by omega) (by omega)
    refine hQ _ (CI.setG hC f1 ⟨by rw [ur_s, upd_s]; rfl, Nat.le_trans (Nat.sub_le _ _) g20, fun k hk => ?_⟩) ((f1.mo (by omega) (by omega)).ur (by omega) (by omega))
    rw [ur_n (by omega), ur_n (by omega), ur_n (by omega)]
    exact hC.go.2.2 k (Nat.lt_of_lt_of_le hk (Nat.sub_le _ _))
  · refine A.bipush (v := -3) eX4_back_10 (by decide) ?_
    refine B.iret eX4_back_12 ?_
    simp only [if_pos yd1] at hQ
    exact hQ σ hC (Fi.rf _ _ _)
def Rforget (x : XS) (w : Int32) : Int32 := if ck w 2 then nI (if w.toNatClampNeg = 0 then (xs x).1 else (xf x).1) else -2
def Nforget (x : XS) (w : Int32) : XS := if ck w 2 then if w.toNatClampNeg = 0 then ws x (x3c (xs x)) else wf x (x3c (xf x)) else x
set_option maxRecDepth 100000 in
set_option maxHeartbeats 4000000 in
theorem sX4_forget {G : GW} {σ : St} {K : Int32 → St → Prop} {x : XS} {w : Nat} (hC : CI x σ) (bw : w < 2) (hQ : ∀ τ : St, CI (if w = 0 then ws x (x3c (xs x)) else wf x (x3c (xf x))) τ → Fi 0 41 σ τ → K (nI (if w = 0 then (xs x).1 else (xf x).1)) τ) : Ci G (r0 1 21) mX4_forget [rf G 0, .int (nI w)] σ K := by
  refine Ci.of [some (rf G 0), some (.int (nI w)), none, none] ?_
  have n8 := hC.np8
  have q6 := hC.nq6
  refine A.il1 eX4_forget_0 ?_
  refine A.iconst (v := nI 2) eX4_forget_1 (by decide) ?_
  refine A.cSi2 eX4_forget_2 oX4_isBelow kX4_67 (sX4_isBelowIN (b := 2) (by omega) ?_)
  refine A.if_neB eX4_forget_5 (fun yw0 => ?_) (fun yw0 => ?_)
  · refine A.il1 eX4_forget_11 ?_
    refine A.if_neN eX4_forget_12 (fun yd1 => ?_) (fun yd1 => ?_)
    · refine A.al0 eX4_forget_22 ?_
      refine A.getR eX4_forget_23 fX4_33 ko0 kr0_4 ?_
      refine A.as2 eX4_forget_26 ?_
      refine A.al2 eX4_forget_27 ?_
      refine A.getI eX4_forget_28 fX4_110 ko17 ?_
      refine A.top hC.fe.1 ?_
      refine A.is3 eX4_forget_31 ?_
      refine A.al2 eX4_forget_32 ?_
      refine A.cVv0 eX4_forget_33 oX2_clear kX4_195 ko17 (sX2_clear (by first | exact Or.inr (Or.inl rfl) | exact Or.inr (Or.inr rfl)) ?_)
      refine A.il3 eX4_forget_36 ?_
      refine B.iret eX4_forget_37 ?_
      first
        | (simp only [if_pos yd1] at hQ; exact hQ _ (CI.setS hC ((Fi.rf 13 16 σ).ur (by omega) (by omega)) ⟨by rw [ur_s, upd_s]; rfl, Nat.zero_le _, fun k hk => absurd hk (Nat.not_lt_zero _)⟩) ((Fi.rf 0 41 σ).ur (by omega) (by omega)))
        | (simp only [if_neg yd1] at hQ; exact hQ _ (CI.setF hC ((Fi.rf 17 20 σ).ur (by omega) (by omega)) ⟨by rw [ur_s, upd_s]; rfl, Nat.zero_le _, fun k hk => absurd hk (Nat.not_lt_zero _)⟩) ((Fi.rf 0 41 σ).ur (by omega) (by omega)))
    · refine A.al0 eX4_forget_15 ?_
      refine A.getR eX4_forget_16 fX4_30 ko0 kr0_3 ?_
      refine A.goto eX4_forget_19 ?_
      refine A.as2 eX4_forget_26 ?_
      refine A.al2 eX4_forget_27 ?_
      refine A.getI eX4_forget_28 fX4_110 ko13 ?_
      refine A.top hC.se.1 ?_
      refine A.is3 eX4_forget_31 ?_
      refine A.al2 eX4_forget_32 ?_
      refine A.cVv0 eX4_forget_33 oX2_clear kX4_195 ko13 (sX2_clear (by first | exact Or.inr (Or.inl rfl) | exact Or.inr (Or.inr rfl)) ?_)
      refine A.il3 eX4_forget_36 ?_
      refine B.iret eX4_forget_37 ?_
      first
        | (simp only [if_pos yd1] at hQ; exact hQ _ (CI.setS hC ((Fi.rf 13 16 σ).ur (by omega) (by omega)) ⟨by rw [ur_s, upd_s]; rfl, Nat.zero_le _, fun k hk => absurd hk (Nat.not_lt_zero _)⟩) ((Fi.rf 0 41 σ).ur (by omega) (by omega)))
        | (simp only [if_neg yd1] at hQ; exact hQ _ (CI.setF hC ((Fi.rf 17 20 σ).ur (by omega) (by omega)) ⟨by rw [ur_s, upd_s]; rfl, Nat.zero_le _, fun k hk => absurd hk (Nat.not_lt_zero _)⟩) ((Fi.rf 0 41 σ).ur (by omega) (by omega)))
  · exact absurd ⟨by rw [nI_ti (by omega)]; omega, by rw [nI_ti (by omega)]; omega⟩ yw0
set_option maxRecDepth 100000 in
set_option maxHeartbeats 4000000 in
theorem bX4_forget {G : GW} {σ : St} {K : Int32 → St → Prop} {x : XS} {w : Int32} (hC : CI x σ) (hb : ¬ (ck w 2)) (hQ : K (-2) σ) : Ci G (r0 1 21) mX4_forget [rf G 0, .int w] σ K := by
  refine Ci.of [some (rf G 0), some (.int w), none, none] ?_
  have n8 := hC.np8
  have q6 := hC.nq6
  refine A.il1 eX4_forget_0 ?_
  refine A.iconst (v := nI 2) eX4_forget_1 (by decide) ?_
  refine A.cSi2 eX4_forget_2 oX4_isBelow kX4_67 (sX4_isBelowIN (b := 2) (by omega) ?_)
  refine A.if_neB eX4_forget_5 (fun yw0 => ?_) (fun yw0 => ?_)
  · exact absurd yw0 hb
  · refine A.bipush (v := -2) eX4_forget_8 (by decide) ?_
    refine B.iret eX4_forget_10 ?_
    exact hQ
theorem aX4_forget {G : GW} {σ : St} {K : Int32 → St → Prop} {x : XS} {w : Int32} (hC : CI x σ) (hQ : ∀ τ : St, CI (Nforget x w) τ → Fi 0 41 σ τ → K (Rforget x w) τ) : Ci G (r0 1 21) mX4_forget [rf G 0, .int w] σ K := by
  have n8 := hC.np8
  have q6 := hC.nq6
  unfold Rforget Nforget at hQ
  by_cases hb : ck w 2
  · simp only [if_pos hb] at hQ
    obtain ⟨w, bw, rfl⟩ := i_nat hb.1 hb.2
    simp only [nI_clamp (n := w) (by omega)] at hQ
    exact sX4_forget hC bw hQ
  · simp only [if_neg hb] at hQ
    exact bX4_forget hC hb (hQ σ hC (Fi.rf _ _ _))
