set_option maxRecDepth 100000 in
set_option maxHeartbeats 4000000 in
theorem sX4_mayBeTheFog {G : GW} {σ : St} {K : Int32 → St → Prop} {x : XS} {p : Nat} (hC : CI x σ) (bp : p < xp x) (hQ : ∀ τ : St, CI x τ → Fi 0 41 σ τ → K (bI (hidx x p = true)) τ) : Ci G (r0 4 86) mX4_mayBeTheFog [rf G 0, .int (nI p)] σ K := by
  refine Ci.of [some (rf G 0), some (.int (nI p)), none, none] ?_
  have n8 := hC.np8
  have q6 := hC.nq6
  refine A.iconst (v := nI 0) eX4_mayBeTheFog_0 (by decide) ?_
  refine A.is2 eX4_mayBeTheFog_1 ?_
  have lp : ∀ (fu i : Nat) (τ : St), (xf x).1 - i < fu → i ≤ (xf x).1 → CI x τ → Fi 0 41 σ τ → alls (fun k => decide (xa x ((xf x).2.1 k) p = nI ((xf x).2.2.1 k)) == decide ((xf x).2.2.2 k = 1)) i = true → B G (r0 4 86) mX4_mayBeTheFog 2 [some (rf G 0), some (.int (nI p)), some (.int (nI i)), none] [] (τ) (Pi K) := by
    intro fu
    induction fu with
    | zero => intro i τ h1 h2; omega
    | succ fu ih =>
      intro i τ h1 h2 g1 g3 ha
      have f8 := g1.fe.2.1
      refine A.il2 eX4_mayBeTheFog_2 ?_
      refine A.al0 eX4_mayBeTheFog_3 ?_
      refine A.getR eX4_mayBeTheFog_4 fX4_33 ko0 kr0_4 ?_
      refine A.getI eX4_mayBeTheFog_7 fX4_110 ko17 ?_
      refine A.top g1.fe.1 ?_
      have f8 := g1.fe.2.1
      refine A.icmp_geN eX4_mayBeTheFog_10 (fun c1 => ?_) (fun c1 => ?_)
      · refine A.iconst (v := nI 1) eX4_mayBeTheFog_78 (by decide) ?_
        refine B.zret eX4_mayBeTheFog_79 (by decide) ?_
        have e : i = (xf x).1 := by omega
        subst e
        exact vl_of (hQ τ g1 g3) (bI_t ha).symm
      · refine A.al0 eX4_mayBeTheFog_13 ?_
        refine A.cVa0 eX4_mayBeTheFog_14 oX4_valley kX4_137 ko0 (sX4_valley g1 (fun τ2 k1 k2 k3 => ?_))
        have r1 := k1.fe.2.2 i (by omega)
        refine A.al0 eX4_mayBeTheFog_17 ?_
        refine A.getR eX4_mayBeTheFog_18 fX4_33 ko0 kr0_4 ?_
        refine A.getR eX4_mayBeTheFog_21 fX4_359 ko17 kr17_0 ?_
        refine A.il2 eX4_mayBeTheFog_24 ?_
        refine A.ialdN eX4_mayBeTheFog_25 ka18 ?_
        refine A.top r1.1.1 ?_
        refine A.il1 eX4_mayBeTheFog_26 ?_
        refine A.cVi2 eX4_mayBeTheFog_27 oX3_placeOf kX4_141 ko30 (sX3_placeOf (v := 30) (Or.inl rfl) r1.1.2 (by omega) ?_)
        refine A.top (k2 _ r1.1.2 p bp).1 ?_
        refine A.al0 eX4_mayBeTheFog_30 ?_
        refine A.getR eX4_mayBeTheFog_31 fX4_33 ko0 kr0_4 ?_
        refine A.getR eX4_mayBeTheFog_34 fX4_362 ko17 kr17_1 ?_
        refine A.il2 eX4_mayBeTheFog_37 ?_
        refine A.ialdN eX4_mayBeTheFog_38 ka19 ?_
        refine A.top r1.2.1.1 ?_
        refine A.icmp_ne eX4_mayBeTheFog_39 (fun yc2 => ?_) (fun yc2 => ?_)
        · refine A.iconst (v := nI 0) eX4_mayBeTheFog_46 (by decide) ?_
          refine A.is3 eX4_mayBeTheFog_47 ?_
          refine A.il3 eX4_mayBeTheFog_48 ?_
          refine A.al0 eX4_mayBeTheFog_49 ?_
          refine A.getR eX4_mayBeTheFog_50 fX4_33 ko0 kr0_4 ?_
          refine A.getR eX4_mayBeTheFog_53 fX4_365 ko17 kr17_2 ?_
          refine A.il2 eX4_mayBeTheFog_56 ?_
          refine A.ialdN eX4_mayBeTheFog_57 ka20 ?_
          refine A.top r1.2.2.1 ?_
          refine A.iconst (v := nI 1) eX4_mayBeTheFog_58 (by decide) ?_
          refine A.icmp_neN eX4_mayBeTheFog_59 (fun yc3 => ?_) (fun yc3 => ?_)
          · refine A.iconst (v := nI 0) eX4_mayBeTheFog_66 (by decide) ?_
            refine A.icmp_eqN eX4_mayBeTheFog_67 (fun yc4 => ?_) (fun yc4 => ?_)
            · refine A.inc2N eX4_mayBeTheFog_72 ?_
              refine A.goto eX4_mayBeTheFog_75 ?_
              exact A.eqw (by simp [wkL]) rfl rfl (ih (i + 1) τ2 (by omega) (by omega) k1 (g3.tr k3) (by simp [alls, ha, yc2, yc3]))
            · exact absurd rfl yc4
          · refine A.iconst (v := nI 1) eX4_mayBeTheFog_62 (by decide) ?_
            refine A.goto eX4_mayBeTheFog_63 ?_
            refine A.icmp_eqN eX4_mayBeTheFog_67 (fun yc4 => ?_) (fun yc4 => ?_)
            · exact absurd yc4 (by decide)
            · refine A.iconst (v := nI 0) eX4_mayBeTheFog_70 (by decide) ?_
              refine B.zret eX4_mayBeTheFog_71 (by decide) ?_
              exact vl_of (hQ τ2 k1 (g3.tr k3)) (bI_f (fun z => by have := alls_of.mp z i (by omega); simp [yc2, yc3] at this)).symm
        · refine A.iconst (v := nI 1) eX4_mayBeTheFog_42 (by decide) ?_
          refine A.goto eX4_mayBeTheFog_43 ?_
          refine A.is3 eX4_mayBeTheFog_47 ?_
          refine A.il3 eX4_mayBeTheFog_48 ?_
          refine A.al0 eX4_mayBeTheFog_49 ?_
          refine A.getR eX4_mayBeTheFog_50 fX4_33 ko0 kr0_4 ?_
          refine A.getR eX4_mayBeTheFog_53 fX4_365 ko17 kr17_2 ?_
          refine A.il2 eX4_mayBeTheFog_56 ?_
          refine A.ialdN eX4_mayBeTheFog_57 ka20 ?_
          refine A.top r1.2.2.1 ?_
          refine A.iconst (v := nI 1) eX4_mayBeTheFog_58 (by decide) ?_
          refine A.icmp_neN eX4_mayBeTheFog_59 (fun yc3 => ?_) (fun yc3 => ?_)
          · refine A.iconst (v := nI 0) eX4_mayBeTheFog_66 (by decide) ?_
            refine A.icmp_eqN eX4_mayBeTheFog_67 (fun yc4 => ?_) (fun yc4 => ?_)
            · exact absurd yc4 (by decide)
            · refine A.iconst (v := nI 0) eX4_mayBeTheFog_70 (by decide) ?_
              refine B.zret eX4_mayBeTheFog_71 (by decide) ?_
              exact vl_of (hQ τ2 k1 (g3.tr k3)) (bI_f (fun z => by have := alls_of.mp z i (by omega); simp [yc2, yc3] at this)).symm
          · refine A.iconst (v := nI 1) eX4_mayBeTheFog_62 (by decide) ?_
            refine A.goto eX4_mayBeTheFog_63 ?_
            refine A.icmp_eqN eX4_mayBeTheFog_67 (fun yc4 => ?_) (fun yc4 => ?_)
            · refine A.inc2N eX4_mayBeTheFog_72 ?_
              refine A.goto eX4_mayBeTheFog_75 ?_
              exact A.eqw (by simp [wkL]) rfl rfl (ih (i + 1) τ2 (by omega) (by omega) k1 (g3.tr k3) (by simp [alls, ha, yc2, yc3]))
            · exact absurd rfl yc4
  exact A.eqw (by simp [wkL]) rfl rfl (lp ((xf x).1 + 1) 0 σ (by have := hC.fe.2.1; omega) (by omega) hC (Fi.rf _ _ _) rfl)
def Rhid (x : XS) : Int32 := Vhid x
set_option maxRecDepth 100000 in
set_option maxHeartbeats 4000000 in
theorem sX4_hid {G : GW} {σ : St} {K : Int32 → St → Prop} {x : XS} (hC : CI x σ) (hQ : ∀ τ : St, CI x τ → Fi 0 41 σ τ → K (Rhid x) τ) : Ci G (r0 5 109) mX4_hid [rf G 0] σ K := by
  refine Ci.of [some (rf G 0), none, none] ?_
  have n8 := hC.np8
  have q6 := hC.nq6
  refine A.iconst (v := nI 0) eX4_hid_0 (by decide) ?_
  refine A.is1 eX4_hid_1 ?_
  refine A.iconst (v := nI 0) eX4_hid_2 (by decide) ?_
  refine A.is2 eX4_hid_3 ?_
  have lp : ∀ (fu i : Nat) (τ : St), xp x - i < fu → i ≤ xp x → CI x τ → Fi 0 41 σ τ → B G (r0 5 109) mX4_hid 4 [some (rf G 0), some (.int (nI (bits (hidx x) i))), some (.int (nI i))] [] (τ) (Pi K) := by
    intro fu
    induction fu with
    | zero => intro i τ h1 h2; omega
    | succ fu ih =>
      intro i τ h1 h2 g1 g3
      refine A.il2 eX4_hid_4 ?_
      refine A.al0 eX4_hid_5 ?_
      refine A.getR eX4_hid_6 fX4_14 ko0 kr0_0 ?_
      refine A.getI eX4_hid_9 fX4_167 ko1 ?_
      refine A.top g1.np ?_
      refine A.icmp_geN eX4_hid_12 (fun c1 => ?_) (fun c1 => ?_)
      · refine A.il1 eX4_hid_35 ?_
        refine B.iret eX4_hid_36 ?_
        have e : i = xp x := by omega
        subst e
        exact hQ τ g1 g3
      · refine A.al0 eX4_hid_15 ?_
        refine A.il2 eX4_hid_16 ?_
        refine A.cVi1 eX4_hid_17 oX4_mayBeTheFog kX4_214 ko0 (sX4_mayBeTheFog g1 (by omega) (fun τ2 k1 k3 => ?_))
        refine A.if_eqB eX4_hid_20 (fun yc2 => ?_) (fun yc2 => ?_)
        · refine A.inc2N eX4_hid_29 ?_
          refine A.goto eX4_hid_32 ?_
          exact A.eq (by simp [bits, yc2]) rfl rfl (ih (i + 1) τ2 (by omega) (by omega) k1 (g3.tr k3))
        · refine A.il1 eX4_hid_23 ?_
          refine A.iconst (v := nI 1) eX4_hid_24 (by decide) ?_
          refine A.il2 eX4_hid_25 ?_
          refine A.ishl1 eX4_hid_26 ?_
          refine A.iorN eX4_hid_27 ?_
          refine A.is1 eX4_hid_28 ?_
          refine A.inc2N eX4_hid_29 ?_
          refine A.goto eX4_hid_32 ?_
          exact A.eq (by simp [bits, yc2]) rfl rfl (ih (i + 1) τ2 (by omega) (by omega) k1 (g3.tr k3))
  exact lp (xp x + 1) 0 σ (by omega) (by omega) hC (Fi.rf _ _ _)
def Rmay (x : XS) (p : Int32) : Int32 := if ck p (xp x) then Vmay x p.toNatClampNeg else -2
set_option maxRecDepth 100000 in
set_option maxHeartbeats 4000000 in
theorem sX4_may {G : GW} {σ : St} {K : Int32 → St → Prop} {x : XS} {p : Nat} (hC : CI x σ) (bp : p < (xp x)) (hQ : ∀ τ : St, CI x τ → Fi 0 41 σ τ → K (Vmay x p) τ) : Ci G (r0 3 66) mX4_may [rf G 0, .int (nI p)] σ K := by
  refine Ci.of [some (rf G 0), some (.int (nI p)), none, none] ?_
  have n8 := hC.np8
  have q6 := hC.nq6
  refine A.al0 eX4_may_0 ?_
  refine A.il1 eX4_may_1 ?_
  refine A.cVi1 eX4_may_2 oX4_isPerson kX4_87 ko0 (sX4_isPerson hC.np hC.np8 ?_)
  refine A.if_neB eX4_may_5 (fun c1 => ?_) (fun c1 => ?_)
  · refine A.al0 eX4_may_11 ?_
    refine A.getR eX4_may_12 fX4_52 ko0 kr0_7 ?_
    refine A.bipush (v := nI 23) eX4_may_15 (by decide) ?_
    refine A.cVv1 eX4_may_17 oX3_open kX4_198 ko36 (sX3_open (v := 36) (la := 23) (Or.inr rfl) (by omega) hC.np n8 hC.go (fun τ a1 a2 a3 a4 => ?_))
    refine A.al0 eX4_may_20 ?_
    refine A.getR eX4_may_21 fX4_52 ko0 kr0_7 ?_
    refine A.cVv0 eX4_may_24 oX3_walk kX4_201 ko36 (sX3_walk (v := 36) (la := 23) (nq := xq x) (Or.inr rfl) a2 (by omega) (by rw [a1.1 1 (by omega)]; exact hC.np) n8 (by rw [a1.1 5 (by omega)]; exact hC.nq) q6 (fun τ2 b1 b2 => ?_))
    refine A.iconst (v := nI 0) eX4_may_27 (by decide) ?_
    refine A.is2 eX4_may_28 ?_
    refine A.iconst (v := nI 0) eX4_may_29 (by decide) ?_
    refine A.is3 eX4_may_30 ?_
    have lp : ∀ (fu i : Nat) (ξ : St), 10 - i < fu → i ≤ 10 → Fi 36 41 σ ξ → ξ.1 36 8 = nI 23 → (∀ a p, a ≤ 23 → p < xp x → ξ.1 (36 + 1) (a * 8 + p) = xa x a p) → (∀ q, q < xp x → q ≠ p → ξ.1 (36 + 2) q = nI (xb x q)) → B G (r0 3 66) mX4_may 31 [some (rf G 0), some (.int (nI p)), some (.int (nI (bits (mayx x p) i))), some (.int (nI i))] [] (ξ) (Pi K) := by
      intro fu
      induction fu with
      | zero => intro i ξ h1 h2; omega
      | succ fu ih =>
        intro i ξ h1 h2 e1 e2 e3 e4
        refine A.il3 eX4_may_31 ?_
        refine A.bipush (v := nI 10) eX4_may_32 (by decide) ?_
        refine A.icmp_geN eX4_may_34 (fun c2 => ?_) (fun c2 => ?_)
        · refine A.il2 eX4_may_79 ?_
          refine B.iret eX4_may_80 ?_
          have e : i = 10 := by omega
          subst e
          exact hQ ξ (hC.scr e1) (e1.mo (by omega) (by omega))
        · refine A.al0 eX4_may_37 ?_
          refine A.getR eX4_may_38 fX4_52 ko0 kr0_7 ?_
          refine A.il1 eX4_may_41 ?_
          refine A.il3 eX4_may_42 ?_
          refine A.cVv2 eX4_may_43 oX3_begin kX4_204 ko36 (sX3_begin (v := 36) (Or.inr rfl) (by omega) ?_)
          have f1 : Fi 36 41 σ (ur ξ (36 + 2) (upd (ξ.1 (36 + 2)) p (nI i))) := e1.ur (by omega) (by omega)
          have bz : ∀ q, q < xp x → upd (ξ.1 (36 + 2)) p (nI i) q = nI (b0v x p i q) ∧ b0v x p i q ≤ 9 := fun q hq => by
            unfold b0v
            by_cases e : q = p
            · rw [e, upd_s, if_pos rfl]; exact ⟨rfl, by omega⟩
            · rw [upd_n e, if_neg e]; exact ⟨e4 q hq e, xb_le hq⟩
          refine A.al0 eX4_may_46 ?_
          refine A.getR eX4_may_47 fX4_52 ko0 kr0_7 ?_
          refine A.cVv0 eX4_may_50 oX3_live kX4_207 ko36 (sX3_live (v := 36) (la := 23) (nq := xq x) (a := aT x (xT x)) (b0 := b0v x p i) (kd := xk x) (Or.inr rfl) (by rw [ur_n (by omega)]; exact e2) (by omega) (by rw [f1.1 1 (by omega)]; exact hC.np) n8 (by rw [f1.1 5 (by omega)]; exact hC.nq) q6 (fun a q ha hq => by rw [ur_n (by omega)]; exact e3 a q ha hq) (fun h _ => plf_PA) (fun q hq => by rw [ur_s]; exact bz q hq) (fun p hp => ⟨by rw [f1.1 4 (by omega)]; exact (hC.k p hp).1, (hC.k p hp).2⟩) (fun τ3 m1 m2 => ?_))
          have f2 : Fi 36 41 σ τ3 := f1.tr (m1.mo (by omega) (by omega))
          refine A.al0 eX4_may_53 ?_
          refine A.getR eX4_may_54 fX4_52 ko0 kr0_7 ?_
          refine A.al0 eX4_may_57 ?_
          refine A.getR eX4_may_58 fX4_30 ko0 kr0_3 ?_
          refine A.cVi1 eX4_may_61 oX3_comesOut kX4_210 ko36 (sX3_comesOut (v := 36) (Or.inr rfl) (by rw [f2.1 1 (by omega)]; exact hC.np) n8 (fun h hh => m2 h (by omega)) (hC.scr f2).se ?_)
          refine A.top (show _ = bI (mayx x p i = true) from rfl) ?_
          refine A.if_eqB eX4_may_64 (fun yc2 => ?_) (fun yc2 => ?_)
          · refine A.inc3N eX4_may_73 ?_
            refine A.goto eX4_may_76 ?_
            refine A.eq (by simp [bits, yc2]) rfl rfl (ih (i + 1) τ3 (by omega) (by omega) f2 ?_ (fun a q ha hq => ?_) (fun q hq hne => ?_))
            · rw [m1.1 36 (by omega), ur_n (by omega)]; exact e2
            · rw [m1.1 (36 + 1) (by omega), ur_n (by omega)]; exact e3 a q ha hq
            · have := (m2 0 (by omega) q hq).2.1
              rw [Nat.zero_mul, Nat.zero_add] at this
              rw [this]
              show nI (b0v x p i q) = _
              unfold b0v; rw [if_neg hne]
          · refine A.il2 eX4_may_67 ?_
            refine A.iconst (v := nI 1) eX4_may_68 (by decide) ?_
            refine A.il3 eX4_may_69 ?_
            refine A.ishl1 eX4_may_70 ?_
            refine A.iorN eX4_may_71 ?_
            refine A.is2 eX4_may_72 ?_
            refine A.inc3N eX4_may_73 ?_
            refine A.goto eX4_may_76 ?_
            refine A.eq (by simp [bits, yc2]) rfl rfl (ih (i + 1) τ3 (by omega) (by omega) f2 ?_ (fun a q ha hq => ?_) (fun q hq hne => ?_))
            · rw [m1.1 36 (by omega), ur_n (by omega)]; exact e2
            · rw [m1.1 (36 + 1) (by omega), ur_n (by omega)]; exact e3 a q ha hq
            · have := (m2 0 (by omega) q hq).2.1
              rw [Nat.zero_mul, Nat.zero_add] at this
              rw [this]
              show nI (b0v x p i q) = _
              unfold b0v; rw [if_neg hne]
    refine lp 11 0 τ2 (by omega) (by omega) ((a1.mo (by omega) (by omega)).tr (b1.mo (by omega) (by omega))) (by rw [b1.1 36 (by omega)]; exact a2) (fun a p ha hp => by rw [b2 a p ha hp]; exact plf_eq (la := 23) (np := xp x) (fun a p ha hp => a3 a p ha (by omega)) ha hp) (fun q hq _ => ?_)
    rw [b1.1 (36 + 2) (by omega), a4 q hq]; exact (hC.b q hq).1
  · exact absurd ⟨by rw [nI_ti (by omega)]; omega, by rw [nI_ti (by omega)]; omega⟩ c1
set_option maxRecDepth 100000 in
set_option maxHeartbeats 4000000 in
theorem bX4_may {G : GW} {σ : St} {K : Int32 → St → Prop} {x : XS} {p : Int32} (hC : CI x σ) (hb : ¬ (ck p (xp x))) (hQ : K (-2) σ) : Ci G (r0 3 66) mX4_may [rf G 0, .int p] σ K := by
  refine Ci.of [some (rf G 0), some (.int p), none, none] ?_
  have n8 := hC.np8
  have q6 := hC.nq6
  refine A.al0 eX4_may_0 ?_
  refine A.il1 eX4_may_1 ?_
  refine A.cVi1 eX4_may_2 oX4_isPerson kX4_87 ko0 (sX4_isPerson hC.np hC.np8 ?_)
  refine A.if_neB eX4_may_5 (fun c1 => ?_) (fun c1 => ?_)
  · exact absurd c1 hb
  · refine A.bipush (v := -2) eX4_may_8 (by decide) ?_
    refine B.iret eX4_may_10 ?_
    exact hQ
theorem aX4_may {G : GW} {σ : St} {K : Int32 → St → Prop} {x : XS} {p : Int32} (hC : CI x σ) (hQ : ∀ τ : St, CI x τ → Fi 0 41 σ τ → K (Rmay x p) τ) : Ci G (r0 3 66) mX4_may [rf G 0, .int p] σ K := by
  have n8 := hC.np8
  have q6 := hC.nq6
  by_cases hb : ck p (xp x)
  · have hR : Rmay x p = _ := if_pos hb
    rw [hR] at hQ
    obtain ⟨p, bp, rfl⟩ := i_nat hb.1 hb.2
    simp only [nI_clamp (n := p) (by omega)] at hQ
    exact sX4_may hC bp hQ
  · have hR : Rmay x p = _ := if_neg hb
    rw [hR] at hQ
    exact bX4_may hC hb (hQ σ hC (Fi.rf _ _ _))
set_option maxRecDepth 100000 in
set_option maxHeartbeats 4000000 in
theorem sX4_tellDay {G : GW} {σ : St} {K : St → Prop} {np nq : Nat} {s : Int32} (hnp : σ.1 1 5 = nI np) (hn8 : np ≤ 8) (hnq : σ.1 5 5 = nI nq) (hq6 : nq ≤ 6) (hl : σ.1 36 8 = nI 23) (hQ : ∀ τ : St, Fi 37 37 σ τ → (∀ a p, a ≤ 23 → p < 8 → τ.1 (36 + 1) (a * 8 + p) = (if 0 < np ∧ 0 < nq ∧ p = u16 (nl (lts s a)) % np then nI (u16 (nl (nl (lts s a))) % nq) else σ.1 (36 + 1) (a * 8 + p))) → K τ) : Cv G (r0 2 44) mX4_tellDay [rf G 0, .int s] σ K := by
  refine Cv.of [some (rf G 0), some (.int s), none, none, none, none, none] ?_
  refine A.al0 eX4_tellDay_0 ?_
  refine A.getR eX4_tellDay_1 fX4_14 ko0 kr0_0 ?_
  refine A.getI eX4_tellDay_4 fX4_167 ko1 ?_
  refine A.top hnp ?_
  refine A.is2 eX4_tellDay_7 ?_
  refine A.al0 eX4_tellDay_8 ?_
  refine A.getR eX4_tellDay_9 fX4_18 ko0 kr0_1 ?_
  refine A.getI eX4_tellDay_12 fX4_167 ko5 ?_
  refine A.top hnq ?_
  refine A.is3 eX4_tellDay_15 ?_
  refine A.il2 eX4_tellDay_16 ?_
  refine A.if_eqN eX4_tellDay_17 (fun yz1 => ?_) (fun yz1 => ?_)
  · refine B.vret eX4_tellDay_24 ?_
    exact hQ σ (Fi.rf _ _ _) (fun a p ha hp => by rw [if_neg (by omega)])
  · refine A.il3 eX4_tellDay_20 ?_
    refine A.if_neN eX4_tellDay_21 (fun yz2 => ?_) (fun yz2 => ?_)
    · refine A.il1 eX4_tellDay_25 ?_
      refine A.is4 eX4_tellDay_26 ?_
      refine A.iconst (v := nI 0) eX4_tellDay_28 (by decide) ?_
      refine A.is5 eX4_tellDay_29 ?_
      have lp : ∀ (fu i : Nat) (τ : St), 24 - i < fu → i ≤ 24 → Fi 37 37 σ τ → (∀ a p, a < i → p < 8 → τ.1 (36 + 1) (a * 8 + p) = (if 0 < np ∧ 0 < nq ∧ p = u16 (nl (lts s a)) % np then nI (u16 (nl (nl (lts s a))) % nq) else σ.1 (36 + 1) (a * 8 + p))) → (∀ a p, i ≤ a → p < 8 → τ.1 (36 + 1) (a * 8 + p) = σ.1 (36 + 1) (a * 8 + p)) → B G (r0 2 44) mX4_tellDay 31 [some (rf G 0), some (.int s), some (.int (nI np)), some (.int (nI nq)), some (.int (lts s i)), some (.int (nI i)), none] [] (τ) (Pv K) := by
        intro fu
        induction fu with
        | zero => intro i τ h1 h2; omega
        | succ fu ih =>
          intro i τ h1 h2 e1 e2 e3
          refine A.il5 eX4_tellDay_31 ?_
          refine A.bipush (v := nI 24) eX4_tellDay_33 (by decide) ?_
          refine A.icmp_geN eX4_tellDay_35 (fun c3 => ?_) (fun c3 => ?_)
          · refine B.vret eX4_tellDay_85 ?_
            have e : i = 24 := by omega
            subst e
            exact hQ τ e1 (fun a p ha hp => e2 a p (by omega) hp)
          · refine A.il4 eX4_tellDay_38 ?_
            refine A.cSi1 eX4_tellDay_40 oX4_nextLot kX4_371 (sX4_nextLot ?_)
            refine A.is4 eX4_tellDay_43 ?_
            refine A.il4 eX4_tellDay_45 ?_
            refine A.bipush (v := nI 16) eX4_tellDay_47 (by decide) ?_
            refine A.iushr eX4_tellDay_49 rfl ?_
            refine A.top (ushr16 _) ?_
            have hu1 := u16_lt (nl (lts s i))
            refine A.il2 eX4_tellDay_50 ?_
            refine A.iremN eX4_tellDay_51 ?_
            refine A.is6 eX4_tellDay_52 ?_
            refine A.il4 eX4_tellDay_54 ?_
            refine A.cSi1 eX4_tellDay_56 oX4_nextLot kX4_371 (sX4_nextLot ?_)
            refine A.is4 eX4_tellDay_59 ?_
            refine A.al0 eX4_tellDay_61 ?_
            refine A.getR eX4_tellDay_62 fX4_52 ko0 kr0_7 ?_
            refine A.il5 eX4_tellDay_65 ?_
            refine A.il6 eX4_tellDay_67 ?_
            refine A.il4 eX4_tellDay_69 ?_
            refine A.bipush (v := nI 16) eX4_tellDay_71 (by decide) ?_
            refine A.iushr eX4_tellDay_73 rfl ?_
            refine A.top (ushr16 _) ?_
            have hu2 := u16_lt (nl (nl (lts s i)))
            have hp8 : u16 (nl (lts s i)) % np < 8 := Nat.lt_of_lt_of_le (Nat.mod_lt _ (by omega)) hn8
            refine A.il3 eX4_tellDay_74 ?_
            refine A.iremN eX4_tellDay_75 ?_
            refine A.cVv3 eX4_tellDay_76 oX3_tell kX4_356 ko36 (sX3_tell (v := 36) (la := 23) (Or.inr rfl) (by rw [e1.1 36 (by omega)]; exact hl) (by omega) (by omega) hp8 ?_)
            rw [if_pos (show i < 23 + 1 by omega)]
            refine A.inc5N eX4_tellDay_79 ?_
            refine A.goto eX4_tellDay_82 ?_
            refine A.eqw (by simp [wkL, lts]) rfl rfl (ih (i + 1) _ (by omega) (by omega) (e1.ur (by omega) (by omega)) (fun a p ha hp => ?_) (fun a p ha hp => ?_))
            · rw [ur_s]
              by_cases e : a = i
              · subst e
                by_cases e2 : p = u16 (nl (lts s a)) % np
                · rw [if_pos ⟨by omega, by omega, e2⟩, e2, upd_s]
                · rw [if_neg (fun z => e2 z.2.2), upd_n (by omega)]; exact e3 a p (by omega) hp
              · rw [upd_n (by omega)]; exact e2 a p (by omega) hp
            · rw [ur_s, upd_n (by omega)]; exact e3 a p (by omega) hp
      exact A.eqw (by simp [wkL, lts]) rfl rfl (lp 25 0 σ (by omega) (by omega) (Fi.rf _ _ _) (fun a p ha hp => by omega) (fun _ _ _ _ => rfl))
    · refine B.vret eX4_tellDay_24 ?_
      exact hQ σ (Fi.rf _ _ _) (fun a p ha hp => by rw [if_neg (by omega)])
def Rday (x : XS) (s p : Int32) : Int32 := if p = -1 then VdayN x s else if ck p (xp x) then Vday x s p.toNatClampNeg else -2
set_option maxRecDepth 100000 in
set_option maxHeartbeats 4000000 in
theorem sX4_dayP {G : GW} {σ : St} {K : Int32 → St → Prop} {x : XS} {s : Int32} {p : Nat} (hC : CI x σ) (bp : p < xp x) (hQ : ∀ τ : St, CI x τ → Fi 0 41 σ τ → K (Vday x s p) τ) : Ci G (r0 3 70) mX4_day [rf G 0, .int s, .int (nI p)] σ K := by
  refine Ci.of [some (rf G 0), some (.int s), some (.int (nI p)), none, none] ?_
  have n8 := hC.np8
  have q6 := hC.nq6
  refine A.il2 eX4_day_0 ?_
  refine A.iconst (v := -1) eX4_day_1 (by decide) ?_
  refine A.icmp_eq eX4_day_2 (fun yh1 => ?_) (fun yh1 => ?_)
  · exact absurd yh1 (nI_nm1 (by omega))
  · refine A.al0 eX4_day_5 ?_
    refine A.il2 eX4_day_6 ?_
    refine A.cVi1 eX4_day_7 oX4_isPerson kX4_87 ko0 (sX4_isPerson hC.np hC.np8 ?_)
    refine A.if_neB eX4_day_10 (fun yh2 => ?_) (fun yh2 => ?_)
    · refine A.al0 eX4_day_16 ?_
      refine A.getR eX4_day_17 fX4_52 ko0 kr0_7 ?_
      refine A.bipush (v := nI 23) eX4_day_20 (by decide) ?_
      refine A.cVv1 eX4_day_22 oX3_open kX4_198 ko36 (sX3_open (v := 36) (la := 23) (Or.inr rfl) (by omega) hC.np n8 hC.go (fun τ a1 a2 a3 a4 => ?_))
      refine A.al0 eX4_day_25 ?_
      refine A.il1 eX4_day_26 ?_
      refine A.cVv1 eX4_day_27 oX4_tellDay kX4_236 ko0 (sX4_tellDay (np := xp x) (nq := xq x) (by rw [a1.1 1 (by omega)]; exact hC.np) n8 (by rw [a1.1 5 (by omega)]; exact hC.nq) q6 a2 (fun ξ e1 e2 => ?_))
      have f0 : Fi 36 41 σ ξ := (a1.mo (by omega) (by omega)).tr (e1.mo (by omega) (by omega))
      refine A.al0 eX4_day_30 ?_
      refine A.getR eX4_day_31 fX4_52 ko0 kr0_7 ?_
      refine A.cVv0 eX4_day_34 oX3_walk kX4_201 ko36 (sX3_walk (v := 36) (la := 23) (nq := xq x) (Or.inr rfl) (by rw [e1.1 36 (by omega)]; exact a2) (by omega) (by rw [f0.1 1 (by omega)]; exact hC.np) n8 (by rw [f0.1 5 (by omega)]; exact hC.nq) q6 (fun τ2 b1 b2 => ?_))
      have f1 : Fi 36 41 σ τ2 := f0.tr (b1.mo (by omega) (by omega))
      refine A.al0 eX4_day_37 ?_
      refine A.getR eX4_day_38 fX4_52 ko0 kr0_7 ?_
      refine A.cVv0 eX4_day_41 oX3_live kX4_207 ko36 (sX3_live (v := 36) (la := 23) (nq := xq x) (a := aT x (dT x s)) (b0 := xb x) (kd := xk x) (Or.inr rfl) (by rw [b1.1 36 (by omega), e1.1 36 (by omega)]; exact a2) (by omega) (by rw [f1.1 1 (by omega)]; exact hC.np) n8 (by rw [f1.1 5 (by omega)]; exact hC.nq) q6 (fun a p ha hp => by rw [b2 a p ha hp]; exact plf_eq (la := 23) (np := xp x) (fun a p ha hp => (e2 a p ha (by omega)).trans (by unfold dT; rw [a3 a p ha (by omega)]; rfl)) ha hp) (fun h _ => plf_PA) (fun p hp => ⟨by rw [b1.1 38 (by omega), e1.1 38 (by omega), show (38 : Nat) = 36 + 2 from rfl, a4 p hp]; exact (hC.b p hp).1, (hC.b p hp).2⟩) (fun p hp => ⟨by rw [f1.1 4 (by omega)]; exact (hC.k p hp).1, (hC.k p hp).2⟩) (fun τ3 m1 m2 => ?_))
      have f2 : Fi 36 41 σ τ3 := f1.tr (m1.mo (by omega) (by omega))
      refine A.il2 eX4_day_44 ?_
      refine A.iconst (v := -1) eX4_day_45 (by decide) ?_
      refine A.icmp_eq eX4_day_46 (fun yh3 => ?_) (fun yh3 => ?_)
      · exact absurd yh3 (nI_nm1 (by omega))
      · refine A.al0 eX4_day_49 ?_
        refine A.getR eX4_day_50 fX4_52 ko0 kr0_7 ?_
        refine A.bipush (v := nI 23) eX4_day_53 (by decide) ?_
        refine A.il2 eX4_day_55 ?_
        refine A.cVi2 eX4_day_56 oX3_brightnessOf kX4_145 ko36 (sX3_brightnessOf (v := 36) (Or.inr rfl) (by omega) (by omega) ?_)
        refine B.iret eX4_day_59 ?_
        exact vl_of (hQ τ3 (hC.scr f2) (f2.mo (by omega) (by omega))) (m2 23 (by omega) p bp).2.1
    · exact absurd ⟨by rw [nI_ti (by omega)]; omega, by rw [nI_ti (by omega)]; omega⟩ yh2
set_option maxRecDepth 100000 in
set_option maxHeartbeats 4000000 in
theorem sX4_dayN {G : GW} {σ : St} {K : Int32 → St → Prop} {x : XS} {s : Int32} (hC : CI x σ) (hQ : ∀ τ : St, CI x τ → Fi 0 41 σ τ → K (VdayN x s) τ) : Ci G (r0 3 70) mX4_day [rf G 0, .int s, .int (-1)] σ K := by
  refine Ci.of [some (rf G 0), some (.int s), some (.int (-1)), none, none] ?_
  have n8 := hC.np8
  have q6 := hC.nq6
  refine A.il2 eX4_day_0 ?_
  refine A.iconst (v := -1) eX4_day_1 (by decide) ?_
  refine A.icmp_eq eX4_day_2 (fun yh1 => ?_) (fun yh1 => ?_)
  · refine A.al0 eX4_day_16 ?_
    refine A.getR eX4_day_17 fX4_52 ko0 kr0_7 ?_
    refine A.bipush (v := nI 23) eX4_day_20 (by decide) ?_
    refine A.cVv1 eX4_day_22 oX3_open kX4_198 ko36 (sX3_open (v := 36) (la := 23) (Or.inr rfl) (by omega) hC.np n8 hC.go (fun τ a1 a2 a3 a4 => ?_))
    refine A.al0 eX4_day_25 ?_
    refine A.il1 eX4_day_26 ?_
    refine A.cVv1 eX4_day_27 oX4_tellDay kX4_236 ko0 (sX4_tellDay (np := xp x) (nq := xq x) (by rw [a1.1 1 (by omega)]; exact hC.np) n8 (by rw [a1.1 5 (by omega)]; exact hC.nq) q6 a2 (fun ξ e1 e2 => ?_))
    have f0 : Fi 36 41 σ ξ := (a1.mo (by omega) (by omega)).tr (e1.mo (by omega) (by omega))
    refine A.al0 eX4_day_30 ?_
    refine A.getR eX4_day_31 fX4_52 ko0 kr0_7 ?_
    refine A.cVv0 eX4_day_34 oX3_walk kX4_201 ko36 (sX3_walk (v := 36) (la := 23) (nq := xq x) (Or.inr rfl) (by rw [e1.1 36 (by omega)]; exact a2) (by omega) (by rw [f0.1 1 (by omega)]; exact hC.np) n8 (by rw [f0.1 5 (by omega)]; exact hC.nq) q6 (fun τ2 b1 b2 => ?_))
    have f1 : Fi 36 41 σ τ2 := f0.tr (b1.mo (by omega) (by omega))
    refine A.al0 eX4_day_37 ?_
    refine A.getR eX4_day_38 fX4_52 ko0 kr0_7 ?_
    refine A.cVv0 eX4_day_41 oX3_live kX4_207 ko36 (sX3_live (v := 36) (la := 23) (nq := xq x) (a := aT x (dT x s)) (b0 := xb x) (kd := xk x) (Or.inr rfl) (by rw [b1.1 36 (by omega), e1.1 36 (by omega)]; exact a2) (by omega) (by rw [f1.1 1 (by omega)]; exact hC.np) n8 (by rw [f1.1 5 (by omega)]; exact hC.nq) q6 (fun a p ha hp => by rw [b2 a p ha hp]; exact plf_eq (la := 23) (np := xp x) (fun a p ha hp => (e2 a p ha (by omega)).trans (by unfold dT; rw [a3 a p ha (by omega)]; rfl)) ha hp) (fun h _ => plf_PA) (fun p hp => ⟨by rw [b1.1 38 (by omega), e1.1 38 (by omega), show (38 : Nat) = 36 + 2 from rfl, a4 p hp]; exact (hC.b p hp).1, (hC.b p hp).2⟩) (fun p hp => ⟨by rw [f1.1 4 (by omega)]; exact (hC.k p hp).1, (hC.k p hp).2⟩) (fun τ3 m1 m2 => ?_))
    have f2 : Fi 36 41 σ τ3 := f1.tr (m1.mo (by omega) (by omega))
    refine A.il2 eX4_day_44 ?_
    refine A.iconst (v := -1) eX4_day_45 (by decide) ?_
    refine A.icmp_eq eX4_day_46 (fun yh3 => ?_) (fun yh3 => ?_)
    · refine A.iconst (v := nI 0) eX4_day_60 (by decide) ?_
      refine A.is3 eX4_day_61 ?_
      refine A.iconst (v := nI 0) eX4_day_62 (by decide) ?_
      refine A.is4 eX4_day_63 ?_
      have lp : ∀ (fu i : Nat) (τ : St), 24 - i < fu → i ≤ 24 → Fi 36 41 σ τ → (∀ h, h < 24 → HB τ 36 h (xp x) (aT x (dT x s) h) (bT x (dT x s) (xb x) h)) → B G (r0 3 70) mX4_day 65 [some (rf G 0), some (.int s), some (.int (-1)), some (.int (nI (cnt (fun h => decide (lsS x (aT x (dT x s) h) (bT x (dT x s) (xb x) h) < xq x)) i))), some (.int (nI i))] [] (τ) (Pi K) := by
        intro fu
        induction fu with
        | zero => intro i τ h1 h2; omega
        | succ fu ih =>
          intro i τ h1 h2 g1 g2
          refine A.il4 eX4_day_65 ?_
          refine A.bipush (v := nI 24) eX4_day_67 (by decide) ?_
          refine A.icmp_geN eX4_day_69 (fun c3 => ?_) (fun c3 => ?_)
          · refine A.il3 eX4_day_94 ?_
            refine B.iret eX4_day_95 ?_
            have e : i = 24 := by omega
            subst e
            exact hQ τ (hC.scr g1) (g1.mo (by omega) (by omega))
          · refine A.al0 eX4_day_72 ?_
            refine A.getR eX4_day_73 fX4_52 ko0 kr0_7 ?_
            refine A.il4 eX4_day_76 ?_
            refine A.cVi1 eX4_day_78 oX3_leastStruck kX4_173 ko36 (sX3_leastStruck (v := 36) (Or.inr rfl) (by omega) (by rw [g1.1 1 (by omega)]; exact hC.np) n8 (by rw [g1.1 5 (by omega)]; exact hC.nq) q6 (g2 i (by omega)) plf_PA (fun τ4 k1 => ?_))
            have k2 : Fi 36 41 σ τ4 := g1.tr (k1.mo (by omega) (by omega))
            refine A.iconst (v := -1) eX4_day_81 (by decide) ?_
            refine A.icmp_eq eX4_day_82 (fun yh4 => ?_) (fun yh4 => ?_)
            · refine A.inc4N eX4_day_88 ?_
              refine A.goto eX4_day_91 ?_
              refine A.eq ?_ rfl rfl (ih (i + 1) τ4 (by omega) (by omega) k2 (fun h hh p hp => by rw [k1.1 (36 + 1) (by omega), k1.1 (36 + 2) (by omega)]; exact g2 h hh p hp))
              have hb : cnt (fun h => decide (lsS x (aT x (dT x s) h) (bT x (dT x s) (xb x) h) < xq x)) (i + 1) = cnt (fun h => decide (lsS x (aT x (dT x s) h) (bT x (dT x s) (xb x) h) < xq x)) i + (if (fun h => decide (lsS x (aT x (dT x s) h) (bT x (dT x s) (xb x) h) < xq x)) i then 1 else 0) := rfl
              rw [hb]
              by_cases hz : lsS x (aT x (dT x s) i) (bT x (dT x s) (xb x) i) < xq x
              · rw [if_pos (decide_eq_true hz)]
                all_goals first
                  | rfl
                  | (exact absurd yh4 (by intro w; rw [show (if ffst (fun y => decide (2 ≤ cnt (isdk (aT x (dT x s) i) (bT x (dT x s) (xb x) i) y) (xp x))) (xq x) < xq x then nI (ffst (fun y => decide (2 ≤ cnt (isdk (aT x (dT x s) i) (bT x (dT x s) (xb x) i) y) (xp x))) (xq x)) else -1) = nI (lsS x (aT x (dT x s) i) (bT x (dT x s) (xb x) i)) from if_pos hz] at w; exact nI_nm1 (by omega) w))
              · rw [if_neg (fun w => hz (of_decide_eq_true w))]
                all_goals first
                  | rfl
                  | (exact absurd (if_neg hz) yh4)
            · refine A.inc3N eX4_day_85 ?_
              refine A.inc4N eX4_day_88 ?_
              refine A.goto eX4_day_91 ?_
              refine A.eq ?_ rfl rfl (ih (i + 1) τ4 (by omega) (by omega) k2 (fun h hh p hp => by rw [k1.1 (36 + 1) (by omega), k1.1 (36 + 2) (by omega)]; exact g2 h hh p hp))
              have hb : cnt (fun h => decide (lsS x (aT x (dT x s) h) (bT x (dT x s) (xb x) h) < xq x)) (i + 1) = cnt (fun h => decide (lsS x (aT x (dT x s) h) (bT x (dT x s) (xb x) h) < xq x)) i + (if (fun h => decide (lsS x (aT x (dT x s) h) (bT x (dT x s) (xb x) h) < xq x)) i then 1 else 0) := rfl
              rw [hb]
              by_cases hz : lsS x (aT x (dT x s) i) (bT x (dT x s) (xb x) i) < xq x
              · rw [if_pos (decide_eq_true hz)]
                all_goals first
                  | rfl
                  | (exact absurd yh4 (by intro w; rw [show (if ffst (fun y => decide (2 ≤ cnt (isdk (aT x (dT x s) i) (bT x (dT x s) (xb x) i) y) (xp x))) (xq x) < xq x then nI (ffst (fun y => decide (2 ≤ cnt (isdk (aT x (dT x s) i) (bT x (dT x s) (xb x) i) y) (xp x))) (xq x)) else -1) = nI (lsS x (aT x (dT x s) i) (bT x (dT x s) (xb x) i)) from if_pos hz] at w; exact nI_nm1 (by omega) w))
              · rw [if_neg (fun w => hz (of_decide_eq_true w))]
                all_goals first
                  | rfl
                  | (exact absurd (if_neg hz) yh4)
      exact lp 25 0 τ3 (by omega) (by omega) f2 (fun h hh => m2 h (by omega))
    · exact absurd rfl yh3
  · exact absurd rfl yh1
set_option maxRecDepth 100000 in
set_option maxHeartbeats 4000000 in
theorem bX4_day {G : GW} {σ : St} {K : Int32 → St → Prop} {x : XS} {s p : Int32} (hC : CI x σ) (hp1 : ¬ p = -1) (hb : ¬ ck p (xp x)) (hQ : K (-2) σ) : Ci G (r0 3 70) mX4_day [rf G 0, .int s, .int p] σ K := by
  refine Ci.of [some (rf G 0), some (.int s), some (.int p), none, none] ?_
  have n8 := hC.np8
  have q6 := hC.nq6
  refine A.il2 eX4_day_0 ?_
  refine A.iconst (v := -1) eX4_day_1 (by decide) ?_
  refine A.icmp_eq eX4_day_2 (fun yh1 => ?_) (fun yh1 => ?_)
  · exact absurd yh1 hp1
  · refine A.al0 eX4_day_5 ?_
    refine A.il2 eX4_day_6 ?_
    refine A.cVi1 eX4_day_7 oX4_isPerson kX4_87 ko0 (sX4_isPerson hC.np hC.np8 ?_)
    refine A.if_neB eX4_day_10 (fun yh2 => ?_) (fun yh2 => ?_)
    · exact absurd yh2 hb
    · refine A.bipush (v := -2) eX4_day_13 (by decide) ?_
      refine B.iret eX4_day_15 ?_
      exact hQ
theorem aX4_day {G : GW} {σ : St} {K : Int32 → St → Prop} {x : XS} {s p : Int32} (hC : CI x σ) (hQ : ∀ τ : St, CI x τ → Fi 0 41 σ τ → K (Rday x s p) τ) : Ci G (r0 3 70) mX4_day [rf G 0, .int s, .int p] σ K := by
  have n8 := hC.np8
  unfold Rday at hQ
  by_cases h1 : p = -1
  · rw [if_pos h1] at hQ
    subst h1
    exact sX4_dayN hC hQ
  · rw [if_neg h1] at hQ
    by_cases hb : ck p (xp x)
    · rw [if_pos hb] at hQ
      obtain ⟨p, bp, rfl⟩ := i_nat hb.1 hb.2
      rw [nI_clamp (n := p) (by omega)] at hQ
      exact sX4_dayP hC bp hQ
    · rw [if_neg hb] at hQ
      exact bX4_day hC h1 hb (hQ σ hC (Fi.rf _ _ _))
