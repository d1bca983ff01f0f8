/-- the rows of counts are bounded -/
theorem GI.bd {σ τ : St} {v nq : Nat} {a : Nat → Int32} {b : Nat → Nat} {i x np : Nat} (hb : ∀ p, p < np → b p ≤ 9) (hi : i ≤ np) (hn : np ≤ 8) : cnt (isat a x) i ≤ 8 ∧ sm (isat a x) b i ≤ 72 ∧ cnt (isdk a b x) i ≤ 8 := by
  have h1 := cnt_le (isat a x) i
  have h2 := sm_le (f := isat a x) (b := b) (c := 9) (n := i) (fun p hp => hb p (by omega))
  have h3 := cnt_le (isdk a b x) i
  omega
theorem isat_p {a : Nat → Int32} {y p : Nat} (h : a p = nI y) : isat a y = fun q => decide (a q = a p) := by funext q; simp [isat, h]
theorem isdk_p {a : Nat → Int32} {b : Nat → Nat} {y p : Nat} (h : a p = nI y) : isdk a b y = fun q => decide (a q = a p) && decide (b q ≤ 1) := by funext q; simp [isdk, h]
theorem nxp_at {kd : Nat → Nat} {a : Nat → Int32} {b : Nat → Nat} {np p y : Nat} (h : a p = nI y) : nxp kd a b np p = nxv (kd p) (nI y) (b p) (cnt (isat a y) np) (sm (isat a y) b np) (cnt (isdk a b y) np) := by
  rw [isat_p h, isdk_p h]
  unfold nxp
  simp only [h]
set_option maxRecDepth 100000 in
set_option maxHeartbeats 4000000 in
theorem sX3_gather {G : GW} {σ : St} {K : St → Prop} {v h np nq : Nat} {a : Nat → Int32} {b : Nat → Nat} (hv : Vv v) (hh : h < 24) (hnp : σ.1 1 5 = nI np) (hn8 : np ≤ 8) (hnq : σ.1 5 5 = nI nq) (hq6 : nq ≤ 6) (hH : HB σ v h np a b) (hPA : PA a np nq) (hQ : ∀ τ : St, GI σ τ v nq a b np → K τ) : Cv G (r0 0 0) mX3_gather [rf G v, .int (nI h)] σ K := by
  refine Cv.of [some (rf G v), some (.int (nI h)), none, none, none, none] ?_
  have hv30 : 30 ≤ v := by rcases hv with e | e <;> omega
  refine A.iconst (v := nI 0) eX3_gather_0 (by decide) ?_
  refine A.is2 eX3_gather_1 ?_
  have lp1 : ∀ (fu i : Nat) (τ : St), nq - i < fu → i ≤ nq → Fi (v + 3) (v + 5) σ τ → (∀ x, x < i → τ.1 (v + 3) x = nI 0 ∧ τ.1 (v + 4) x = nI 0 ∧ τ.1 (v + 5) x = nI 0) → B G (r0 0 0) mX3_gather 2 [some (rf G v), some (.int (nI h)), some (.int (nI i)), none, none, none] [] (τ) (Pv K) := by
    intro fu
    induction fu with
    | zero => intro i τ h1 h2; omega
    | succ fu ih1 =>
      intro i τ h1 h2 e1 e2
      refine A.il2 eX3_gather_2 ?_
      refine A.al0 eX3_gather_3 ?_
      refine A.getR eX3_gather_4 fX3_15 (kvo hv) (kvr1 hv) ?_
      refine A.getI eX3_gather_7 fX3_66 ko5 ?_
      refine A.top (show τ.1 5 5 = nI nq by rw [e1.1 5 (by omega)]; exact hnq) ?_
      refine A.icmp_geN eX3_gather_10 (fun c1 => ?_) (fun c1 => ?_)
      · refine A.il1 eX3_gather_40 ?_
        refine A.bipush (v := nI 8) eX3_gather_41 (by decide) ?_
        refine A.imulN eX3_gather_43 ?_
        refine A.is2 eX3_gather_44 ?_
        refine A.iconst (v := nI 0) eX3_gather_45 (by decide) ?_
        refine A.is3 eX3_gather_46 ?_
        have lp2 : ∀ (fu i : Nat) (τ : St), np - i < fu → i ≤ np → GI σ τ v nq a b i → B G (r0 0 0) mX3_gather 47 [some (rf G v), some (.int (nI h)), some (.int (nI (h * 8))), some (.int (nI i)), none, none] [] (τ) (Pv K) := by
          intro fu
          induction fu with
          | zero => intro i τ h1 h2; omega
          | succ fu ih2 =>
            intro i τ h1 h2 e1
            refine A.il3 eX3_gather_47 ?_
            refine A.al0 eX3_gather_48 ?_
            refine A.getR eX3_gather_49 fX3_9 (kvo hv) (kvr0 hv) ?_
            refine A.getI eX3_gather_52 fX3_66 ko1 ?_
            refine A.top (show τ.1 1 5 = nI np by rw [e1.1.1 1 (by omega)]; exact hnp) ?_
            refine A.icmp_geN eX3_gather_55 (fun c2 => ?_) (fun c2 => ?_)
            · refine B.vret eX3_gather_140 ?_
              have e : i = np := by omega
              subst e
              exact hQ τ e1
            · refine A.al0 eX3_gather_58 ?_
              refine A.getR eX3_gather_59 fX3_22 (kvo hv) (kvr3 hv) ?_
              refine A.il2 eX3_gather_62 ?_
              refine A.il3 eX3_gather_63 ?_
              refine A.iaddN eX3_gather_64 ?_
              refine A.ialdN eX3_gather_65 (kv1 hv) ?_
              refine A.top (show τ.1 (v + 1) (h * 8 + i) = a i by rw [e1.1.1 (v + 1) (by omega)]; exact (hH i (by omega)).1) ?_
              refine A.is4 eX3_gather_66 ?_
              refine A.il4 eX3_gather_68 ?_
              refine A.if_ltI eX3_gather_70 (fun c3 => ?_) (fun c3 => ?_)
              · refine A.inc3N eX3_gather_134 ?_
                refine A.goto eX3_gather_137 ?_
                refine A.eqw (by simp [wkL]) rfl rfl (ih2 (i + 1) _ (by omega) (by omega) (e1.miss hq6 (fun x hx z => ?_)))
                rw [z] at c3
                rw [nI_ti (by omega)] at c3
                (first | omega | (rw [z] at c4; rw [nI_ti (by omega), nI_ti (by omega)] at c4; omega))
              · refine A.il4 eX3_gather_73 ?_
                refine A.bipush (v := nI 6) eX3_gather_75 (by decide) ?_
                refine A.icmp_geI eX3_gather_77 (fun c4 => ?_) (fun c4 => ?_)
                · refine A.inc3N eX3_gather_134 ?_
                  refine A.goto eX3_gather_137 ?_
                  refine A.eqw (by simp [wkL]) rfl rfl (ih2 (i + 1) _ (by omega) (by omega) (e1.miss hq6 (fun x hx z => ?_)))
                  rw [z] at c3
                  rw [nI_ti (by omega)] at c3
                  (first | omega | (rw [z] at c4; rw [nI_ti (by omega), nI_ti (by omega)] at c4; omega))
                · obtain ⟨y, hy, ey⟩ : ∃ y, y < nq ∧ a i = nI y := (hPA i (by omega)).elim (fun z => by rw [z] at c3; exact absurd c3 (by decide)) id
                  rw [ey]
                  have b9 := (hH i (by omega)).2.2
                  refine A.al0 eX3_gather_80 ?_
                  refine A.getR eX3_gather_81 fX3_26 (kvo hv) (kvr4 hv) ?_
                  refine A.il2 eX3_gather_84 ?_
                  refine A.il3 eX3_gather_85 ?_
                  refine A.iaddN eX3_gather_86 ?_
                  refine A.ialdN eX3_gather_87 (kv2 hv) ?_
                  refine A.top (show τ.1 (v + 2) (h * 8 + i) = nI (b i) by rw [e1.1.1 (v + 2) (by omega)]; exact (hH i (by omega)).2.1) ?_
                  refine A.is5 eX3_gather_88 ?_
                  refine A.al0 eX3_gather_90 ?_
                  refine A.getR eX3_gather_91 fX3_29 (kvo hv) (kvr5 hv) ?_
                  refine A.il4 eX3_gather_94 ?_
                  refine A.dup2 eX3_gather_96 rfl rfl ?_
                  refine A.ialdN eX3_gather_97 (kv3 hv) ?_
                  refine A.top (e1.2 y hy).1 ?_
                  refine A.iconst (v := nI 1) eX3_gather_98 (by decide) ?_
                  refine A.iaddN eX3_gather_99 ?_
                  refine A.iastN eX3_gather_100 (kv3 hv) ?_
                  refine A.al0 eX3_gather_101 ?_
                  refine A.getR eX3_gather_102 fX3_32 (kvo hv) (kvr6 hv) ?_
                  refine A.il4 eX3_gather_105 ?_
                  refine A.dup2 eX3_gather_107 rfl rfl ?_
                  refine A.ialdN eX3_gather_108 (kv4 hv) ?_
                  refine A.top (show _ = nI (sm (isat a y) b i) by rw [ur_n (by omega)]; exact (e1.2 y hy).2.1) ?_
                  refine A.il5 eX3_gather_109 ?_
                  refine A.iaddN eX3_gather_111 ?_
                  refine A.iastN eX3_gather_112 (kv4 hv) ?_
                  refine A.al0 eX3_gather_113 ?_
                  refine A.getR eX3_gather_114 fX3_35 (kvo hv) (kvr7 hv) ?_
                  refine A.il4 eX3_gather_117 ?_
                  refine A.dup2 eX3_gather_119 rfl rfl ?_
                  refine A.ialdN eX3_gather_120 (kv5 hv) ?_
                  refine A.top (show _ = nI (cnt (isdk a b y) i) by rw [ur_n (by omega), ur_n (by omega)]; exact (e1.2 y hy).2.2) ?_
                  refine A.il5 eX3_gather_121 ?_
                  refine A.iconst (v := nI 1) eX3_gather_123 (by decide) ?_
                  refine A.icmp_gtN eX3_gather_124 (fun c5 => ?_) (fun c5 => ?_)
                  · refine A.iconst (v := nI 0) eX3_gather_131 (by decide) ?_
                    refine A.iaddN eX3_gather_132 ?_
                    refine A.iastN eX3_gather_133 (kv5 hv) ?_
                    refine A.inc3N eX3_gather_134 ?_
                    refine A.goto eX3_gather_137 ?_
                    refine A.eqw (by simp [wkL]) rfl rfl (ih2 (i + 1) _ (by omega) (by omega) (e1.hit hq6 hy ey ((((Fi.rf _ _ _).ur (by omega) (by omega)).ur (by omega) (by omega)).ur (by omega) (by omega)) (fun x => ?_) (fun x => ?_) (fun x => ?_)))
                    · simp [ur, upd]
                    · simp [ur, upd]
                    · by_cases e : x = y
                      · first
                          | (simp [ur, upd, e, show b i ≤ 1 by omega])
                          | (simp [ur, upd, e, show ¬ b i ≤ 1 by omega])
                      · simp [ur, upd, e]
                  · refine A.iconst (v := nI 1) eX3_gather_127 (by decide) ?_
                    refine A.goto eX3_gather_128 ?_
                    refine A.iaddN eX3_gather_132 ?_
                    refine A.iastN eX3_gather_133 (kv5 hv) ?_
                    refine A.inc3N eX3_gather_134 ?_
                    refine A.goto eX3_gather_137 ?_
                    refine A.eqw (by simp [wkL]) rfl rfl (ih2 (i + 1) _ (by omega) (by omega) (e1.hit hq6 hy ey ((((Fi.rf _ _ _).ur (by omega) (by omega)).ur (by omega) (by omega)).ur (by omega) (by omega)) (fun x => ?_) (fun x => ?_) (fun x => ?_)))
                    · simp [ur, upd]
                    · simp [ur, upd]
                    · by_cases e : x = y
                      · first
                          | (simp [ur, upd, e, show b i ≤ 1 by omega])
                          | (simp [ur, upd, e, show ¬ b i ≤ 1 by omega])
                      · simp [ur, upd, e]
        have e : i = nq := by omega
        subst e
        exact A.eqw (by simp [wkL]) rfl rfl (lp2 (np + 1) 0 τ (by omega) (by omega) ⟨e1, fun x hx => by simp only [cnt, sm]; exact e2 x hx⟩)
      · refine A.al0 eX3_gather_13 ?_
        refine A.getR eX3_gather_14 fX3_29 (kvo hv) (kvr5 hv) ?_
        refine A.il2 eX3_gather_17 ?_
        refine A.iconst (v := nI 0) eX3_gather_18 (by decide) ?_
        refine A.iastN eX3_gather_19 (kv3 hv) ?_
        refine A.al0 eX3_gather_20 ?_
        refine A.getR eX3_gather_21 fX3_32 (kvo hv) (kvr6 hv) ?_
        refine A.il2 eX3_gather_24 ?_
        refine A.iconst (v := nI 0) eX3_gather_25 (by decide) ?_
        refine A.iastN eX3_gather_26 (kv4 hv) ?_
        refine A.al0 eX3_gather_27 ?_
        refine A.getR eX3_gather_28 fX3_35 (kvo hv) (kvr7 hv) ?_
        refine A.il2 eX3_gather_31 ?_
        refine A.iconst (v := nI 0) eX3_gather_32 (by decide) ?_
        refine A.iastN eX3_gather_33 (kv5 hv) ?_
        refine A.inc2N eX3_gather_34 ?_
        refine A.goto eX3_gather_37 ?_
        refine ih1 (i + 1) _ (by omega) (by omega) (((e1.ur (by omega) (by omega)).ur (by omega) (by omega)).ur (by omega) (by omega)) (fun x hx => ?_)
        by_cases e : x = i
        · subst e; simp [ur, upd]
        · have := e2 x (by omega)
          simp [ur, upd, e, this]
  exact lp1 (nq + 1) 0 σ (by omega) (by omega) (Fi.rf _ _ _) (fun x hx => by omega)
set_option maxRecDepth 100000 in
set_option maxHeartbeats 4000000 in
theorem sX3_brightnessAfter {G : GW} {σ : St} {K : Int32 → St → Prop} {v np nq p : Nat} {a : Nat → Int32} {b kd : Nat → Nat} (hv : Vv v) (hn8 : np ≤ 8) (hq6 : nq ≤ 6) (hG : GR σ v nq a b np) (hPA : PA a np nq) (hb : ∀ q, q < np → b q ≤ 9) (hp : p < np) (hk : kd p ≤ 2) (hQ : K (nI (nxp kd a b np p)) σ) : Ci G (r0 0 0) mX3_brightnessAfter [rf G v, .int (a p), .int (nI (b p)), .int (nI (kd p))] σ K := by
  refine Ci.of [some (rf G v), some (.int (a p)), some (.int (nI (b p))), some (.int (nI (kd p))), none, none] ?_
  have h9 := hb p hp
  refine A.il3 eX3_brightnessAfter_0 ?_
  refine A.iconst (v := nI 2) eX3_brightnessAfter_1 (by decide) ?_
  refine A.icmp_eqN eX3_brightnessAfter_2 (fun c1 => ?_) (fun c1 => ?_)
  · refine A.il2 eX3_brightnessAfter_15 ?_
    refine B.iret eX3_brightnessAfter_16 ?_
    refine vl_of hQ ?_
    unfold nxp nxv
    rw [if_pos ?_]
    first
      | exact Or.inl c1
      | (refine Or.inr ?_
         rcases hPA p hp with z | ⟨x, hx, z⟩
         · exact z
         · rw [z, nI_ti (by omega)] at c2; omega)
  · refine A.il1 eX3_brightnessAfter_5 ?_
    refine A.if_ltI eX3_brightnessAfter_6 (fun c2 => ?_) (fun c2 => ?_)
    · refine A.il2 eX3_brightnessAfter_15 ?_
      refine B.iret eX3_brightnessAfter_16 ?_
      refine vl_of hQ ?_
      unfold nxp nxv
      rw [if_pos ?_]
      first
        | exact Or.inl c1
        | (refine Or.inr ?_
           rcases hPA p hp with z | ⟨x, hx, z⟩
           · exact z
           · rw [z, nI_ti (by omega)] at c2; omega)
    · refine A.il1 eX3_brightnessAfter_9 ?_
      refine A.bipush (v := nI 6) eX3_brightnessAfter_10 (by decide) ?_
      refine A.icmp_ltI eX3_brightnessAfter_12 (fun c3 => ?_) (fun c3 => ?_)
      · obtain ⟨y, hy, ey⟩ : ∃ y, y < nq ∧ a p = nI y := (hPA p hp).elim (fun z => by rw [z] at c2; exact absurd c2 (by decide)) id
        rw [ey]
        obtain ⟨r1, r2, r3⟩ := hG y hy
        obtain ⟨b1, b2, b3⟩ := GI.bd (σ := σ) (τ := σ) (v := v) (nq := nq) (a := a) (x := y) hb (Nat.le_refl np) hn8
        have p1 : 1 ≤ cnt (isat a y) np := cnt_pos (p := p) (by simp [isat, ey]) hp
        have p2 : b p ≤ sm (isat a y) b np := sm_ge (p := p) (by simp [isat, ey]) hp
        have ne1 : ¬ nI y = -1 := nI_nm1 (by omega)
        rw [nxp_at ey] at hQ
        have p3 : b p * (cnt (isat a y) np - 1) ≤ 9 * 8 := Nat.mul_le_mul h9 (by omega)
        have p4 : b p = 0 → b p * (cnt (isat a y) np - 1) = 0 := fun z => by rw [z, Nat.zero_mul]
        refine A.al0 eX3_brightnessAfter_17 ?_
        refine A.getR eX3_brightnessAfter_18 fX3_35 (kvo hv) (kvr7 hv) ?_
        refine A.il1 eX3_brightnessAfter_21 ?_
        refine A.ialdN eX3_brightnessAfter_22 (kv5 hv) ?_
        refine A.top r3 ?_
        refine A.iconst (v := nI 2) eX3_brightnessAfter_23 (by decide) ?_
        refine A.icmp_ltN eX3_brightnessAfter_24 (fun c4 => ?_) (fun c4 => ?_)
        · refine A.al0 eX3_brightnessAfter_29 ?_
          refine A.getR eX3_brightnessAfter_30 fX3_32 (kvo hv) (kvr6 hv) ?_
          refine A.il1 eX3_brightnessAfter_33 ?_
          refine A.ialdN eX3_brightnessAfter_34 (kv4 hv) ?_
          refine A.top r2 ?_
          refine A.il2 eX3_brightnessAfter_35 ?_
          refine A.isubN eX3_brightnessAfter_36 ?_
          refine A.is4 eX3_brightnessAfter_37 ?_
          refine A.il2 eX3_brightnessAfter_39 ?_
          refine A.al0 eX3_brightnessAfter_40 ?_
          refine A.getR eX3_brightnessAfter_41 fX3_29 (kvo hv) (kvr5 hv) ?_
          refine A.il1 eX3_brightnessAfter_44 ?_
          refine A.ialdN eX3_brightnessAfter_45 (kv3 hv) ?_
          refine A.top r1 ?_
          refine A.iconst (v := nI 1) eX3_brightnessAfter_46 (by decide) ?_
          refine A.isubN eX3_brightnessAfter_47 ?_
          refine A.imulN eX3_brightnessAfter_48 ?_
          refine A.is5 eX3_brightnessAfter_49 ?_
          refine A.il4 eX3_brightnessAfter_51 ?_
          refine A.il5 eX3_brightnessAfter_53 ?_
          refine A.icmp_neN eX3_brightnessAfter_55 (fun c5 => ?_) (fun c5 => ?_)
          · refine A.il4 eX3_brightnessAfter_60 ?_
            refine A.il5 eX3_brightnessAfter_62 ?_
            refine A.icmp_leN eX3_brightnessAfter_64 (fun c6 => ?_) (fun c6 => ?_)
            · have p5 : 1 ≤ b p := Nat.pos_of_ne_zero (fun z => by have := p4 z; omega)
              refine A.il2 eX3_brightnessAfter_73 ?_
              refine A.iconst (v := nI 1) eX3_brightnessAfter_74 (by decide) ?_
              refine A.isubN eX3_brightnessAfter_75 ?_
              refine B.iret eX3_brightnessAfter_76 ?_
              refine vl_of hQ ?_
              unfold nxv
              have q : b p * (cnt (isat a y) np - 1) = cnt (isat a y) np * b p - b p := by rw [Nat.mul_sub, Nat.mul_one, Nat.mul_comm]
              have q2 : b p ≤ cnt (isat a y) np * b p := Nat.le_mul_of_pos_left _ p1
              rw [if_neg (by simp [c1, ne1]), if_neg (by omega), if_neg (by omega)]
              first
                | rw [if_pos (by omega)]
                | rw [if_neg (by omega)]
            · refine A.il2 eX3_brightnessAfter_67 ?_
              refine A.iconst (v := nI 1) eX3_brightnessAfter_68 (by decide) ?_
              refine A.iaddN eX3_brightnessAfter_69 ?_
              refine A.goto eX3_brightnessAfter_70 ?_
              refine B.iret eX3_brightnessAfter_76 ?_
              refine vl_of hQ ?_
              unfold nxv
              have q : b p * (cnt (isat a y) np - 1) = cnt (isat a y) np * b p - b p := by rw [Nat.mul_sub, Nat.mul_one, Nat.mul_comm]
              have q2 : b p ≤ cnt (isat a y) np * b p := Nat.le_mul_of_pos_left _ p1
              rw [if_neg (by simp [c1, ne1]), if_neg (by omega), if_neg (by omega)]
              first
                | rw [if_pos (by omega)]
                | rw [if_neg (by omega)]
          · refine A.il2 eX3_brightnessAfter_58 ?_
            refine B.iret eX3_brightnessAfter_59 ?_
            refine vl_of hQ ?_
            unfold nxv
            have q : b p * (cnt (isat a y) np - 1) = cnt (isat a y) np * b p - b p := by rw [Nat.mul_sub, Nat.mul_one, Nat.mul_comm]
            have q2 : b p ≤ cnt (isat a y) np * b p := Nat.le_mul_of_pos_left _ p1
            rw [if_neg (by simp [c1, ne1]), if_neg (by omega), if_pos (by omega)]
        · refine A.iconst (v := nI 0) eX3_brightnessAfter_27 (by decide) ?_
          refine B.iret eX3_brightnessAfter_28 ?_
          refine vl_of hQ ?_
          unfold nxv
          rw [if_neg (by simp [c1, ne1]), if_pos (by omega)]
      · exfalso
        rcases hPA p hp with z | ⟨x, hx, z⟩
        · rw [z] at c2; exact absurd c2 (by decide)
        · rw [z, nI_ti (by omega), nI_ti (by omega)] at c3; omega
set_option maxRecDepth 100000 in
set_option maxHeartbeats 4000000 in
theorem sX3_live {G : GW} {σ : St} {K : St → Prop} {v la np nq : Nat} {a : Nat → Nat → Int32} {b0 kd : Nat → Nat} (hv : Vv v) (hla : σ.1 v 8 = nI la) (hl23 : la ≤ 23) (hnp : σ.1 1 5 = nI np) (hn8 : np ≤ 8) (hnq : σ.1 5 5 = nI nq) (hq6 : nq ≤ 6) (hA : ∀ h p, h ≤ la → p < np → σ.1 (v + 1) (h * 8 + p) = a h p) (hPA : ∀ h, h ≤ la → PA (a h) np nq) (hb0 : ∀ p, p < np → σ.1 (v + 2) p = nI (b0 p) ∧ b0 p ≤ 9) (hk : ∀ p, p < np → σ.1 4 p = nI (kd p) ∧ kd p ≤ 2) (hQ : ∀ τ : St, Fi (v + 2) (v + 5) σ τ → (∀ h, h ≤ la → HB τ v h np (a h) ((brf kd a b0 np) h)) → K τ) : Cv G (r0 1 25) mX3_live [rf G v] σ K := by
  refine Cv.of [some (rf G v), none, none, none] ?_
  have hv30 : 30 ≤ v := by rcases hv with e | e <;> omega
  have hle : ∀ h p, p < np → (brf kd a b0 np) h p ≤ 9 := brf_le (fun q hq => (hb0 q hq).2)
  refine A.iconst (v := nI 0) eX3_live_0 (by decide) ?_
  refine A.is1 eX3_live_1 ?_
  have lp1 : ∀ (fu i : Nat) (τ : St), la - i < fu → i ≤ la → VI σ τ v np (brf kd a b0 np) i → B G (r0 1 25) mX3_live 2 [some (rf G v), some (.int (nI i)), none, none] [] (τ) (Pv K) := by
    intro fu
    induction fu with
    | zero => intro i τ h1 h2; omega
    | succ fu ih1 =>
      intro i τ h1 h2 e1
      refine A.il1 eX3_live_2 ?_
      refine A.al0 eX3_live_3 ?_
      refine A.getI eX3_live_4 fX3_38 (kvo hv) ?_
      refine A.top (show τ.1 v 8 = nI la by rw [e1.1.1 v (by omega)]; exact hla) ?_
      refine A.icmp_geN eX3_live_7 (fun c1 => ?_) (fun c1 => ?_)
      · refine B.vret eX3_live_85 ?_
        have e : i = la := by omega
        subst e
        exact hQ τ e1.1 (fun h hh p hp => ⟨by rw [e1.1.1 (v + 1) (by omega)]; exact hA h p hh hp, e1.2 h p hh hp, hle h p hp⟩)
      · refine A.al0 eX3_live_10 ?_
        refine A.il1 eX3_live_11 ?_
        refine A.cVv1 eX3_live_12 oX3_gather kX3_83 (kvo hv) (sX3_gather (nq := nq) (a := a i) (b := brf kd a b0 np i) hv (by omega) (by rw [e1.1.1 1 (by omega)]; exact hnp) hn8 (by rw [e1.1.1 5 (by omega)]; exact hnq) hq6 (fun p hp => ⟨by rw [e1.1.1 (v + 1) (by omega)]; exact hA i p (by omega) hp, e1.2 i p (Nat.le_refl i) hp, hle i p hp⟩) (hPA i (by omega)) (fun ρ g1 => ?_))
        refine A.il1 eX3_live_15 ?_
        refine A.bipush (v := nI 8) eX3_live_16 (by decide) ?_
        refine A.imulN eX3_live_18 ?_
        refine A.is2 eX3_live_19 ?_
        refine A.iconst (v := nI 0) eX3_live_20 (by decide) ?_
        refine A.is3 eX3_live_21 ?_
        have lp2 : ∀ (fu j : Nat) (ξ : St), np - j < fu → j ≤ np → Fi (v + 2) (v + 5) σ ξ → (∀ h p, h ≤ i → p < np → ξ.1 (v + 2) (h * 8 + p) = nI ((brf kd a b0 np) h p)) → (∀ p, p < j → ξ.1 (v + 2) ((i + 1) * 8 + p) = nI ((brf kd a b0 np) (i + 1) p)) → GR ξ v nq (a i) ((brf kd a b0 np) i) np → B G (r0 1 25) mX3_live 22 [some (rf G v), some (.int (nI i)), some (.int (nI (i * 8))), some (.int (nI j))] [] (ξ) (Pv K) := by
          intro fu
          induction fu with
          | zero => intro j ξ h1 h2; omega
          | succ fu ih2 =>
            intro j ξ h1 h2 e3 e4 e5 e6
            refine A.il3 eX3_live_22 ?_
            refine A.al0 eX3_live_23 ?_
            refine A.getR eX3_live_24 fX3_9 (kvo hv) (kvr0 hv) ?_
            refine A.getI eX3_live_27 fX3_66 ko1 ?_
            refine A.top (show ξ.1 1 5 = nI np by rw [e3.1 1 (by omega)]; exact hnp) ?_
            refine A.icmp_geN eX3_live_30 (fun c2 => ?_) (fun c2 => ?_)
            · refine A.inc1N eX3_live_79 ?_
              refine A.goto eX3_live_82 ?_
              have ej : j = np := by omega
              subst ej
              exact A.eqw (by simp [wkL]) rfl rfl (ih1 (i + 1) ξ (by omega) (by omega) ⟨e3, fun h p hh hp => (Nat.lt_or_ge i h).elim (fun z => by rw [show h = i + 1 by omega]; exact e5 p hp) (fun z => e4 h p z hp)⟩)
            · refine A.al0 eX3_live_33 ?_
              refine A.getR eX3_live_34 fX3_26 (kvo hv) (kvr4 hv) ?_
              refine A.il2 eX3_live_37 ?_
              refine A.bipush (v := nI 8) eX3_live_38 (by decide) ?_
              refine A.iaddN eX3_live_40 ?_
              refine A.il3 eX3_live_41 ?_
              refine A.iaddN eX3_live_42 ?_
              refine A.al0 eX3_live_43 ?_
              refine A.al0 eX3_live_44 ?_
              refine A.getR eX3_live_45 fX3_22 (kvo hv) (kvr3 hv) ?_
              refine A.il2 eX3_live_48 ?_
              refine A.il3 eX3_live_49 ?_
              refine A.iaddN eX3_live_50 ?_
              refine A.ialdN eX3_live_51 (kv1 hv) ?_
              refine A.top (show ξ.1 (v + 1) (i * 8 + j) = a i j by rw [e3.1 (v + 1) (by omega)]; exact hA i j (by omega) (by omega)) ?_
              refine A.al0 eX3_live_52 ?_
              refine A.getR eX3_live_53 fX3_26 (kvo hv) (kvr4 hv) ?_
              refine A.il2 eX3_live_56 ?_
              refine A.il3 eX3_live_57 ?_
              refine A.iaddN eX3_live_58 ?_
              refine A.ialdN eX3_live_59 (kv2 hv) ?_
              refine A.top (e4 i j (Nat.le_refl i) (by omega)) ?_
              refine A.al0 eX3_live_60 ?_
              refine A.getR eX3_live_61 fX3_9 (kvo hv) (kvr0 hv) ?_
              refine A.getR eX3_live_64 fX3_87 ko1 kr1_3 ?_
              refine A.il3 eX3_live_67 ?_
              refine A.ialdN eX3_live_68 ka4 ?_
              refine A.top (show ξ.1 4 j = nI (kd j) by rw [e3.1 4 (by omega)]; exact (hk j (by omega)).1) ?_
              refine A.cVi3 eX3_live_69 oX3_brightnessAfter kX3_90 (kvo hv) (sX3_brightnessAfter hv hn8 hq6 e6 (hPA i (by omega)) (hle i) (by omega) (hk j (by omega)).2 ?_)
              refine A.iastN eX3_live_72 (kv2 hv) ?_
              refine A.inc3N eX3_live_73 ?_
              refine A.goto eX3_live_76 ?_
              refine ih2 (j + 1) _ (by omega) (by omega) (e3.ur (by omega) (by omega)) (fun h p hh hp => ?_) (fun p hp => ?_) (fun x hx => ?_)
              · rw [ur_s, upd_n (by omega)]; exact e4 h p hh hp
              · rw [ur_s]
                by_cases e : p = j
                · rw [e, show (i + 1) * 8 + j = i * 8 + 8 + j by omega, upd_s]; rfl
                · rw [upd_n (by omega)]; exact e5 p (by omega)
              · rw [ur_n (by omega), ur_n (by omega), ur_n (by omega)]; exact e6 x hx
        exact lp2 (np + 1) 0 ρ (by omega) (by omega) (e1.1.tr (g1.1.mo (by omega) (by omega))) (fun h p hh hp => by rw [g1.1.1 (v + 2) (by omega)]; exact e1.2 h p hh hp) (fun p hp => by omega) g1.2
  exact A.eqw (by simp [wkL]) rfl rfl (lp1 (la + 1) 0 σ (by omega) (by omega) ⟨Fi.rf _ _ _, fun h p hh hp => by rw [show h = 0 by omega, Nat.zero_mul, Nat.zero_add]; exact (hb0 p hp).1⟩)
set_option maxRecDepth 100000 in
set_option maxHeartbeats 4000000 in
theorem sX3_leastStruck {G : GW} {σ : St} {K : Int32 → St → Prop} {v h np nq : Nat} {a : Nat → Int32} {b : Nat → Nat} (hv : Vv v) (hh : h < 24) (hnp : σ.1 1 5 = nI np) (hn8 : np ≤ 8) (hnq : σ.1 5 5 = nI nq) (hq6 : nq ≤ 6) (hH : HB σ v h np a b) (hPA : PA a np nq) (hQ : ∀ τ : St, Fi (v + 3) (v + 5) σ τ → K (if ffst (fun x => decide (2 ≤ cnt (isdk a b x) np)) nq < nq then nI (ffst (fun x => decide (2 ≤ cnt (isdk a b x) np)) nq) else -1) τ) : Ci G (r0 1 25) mX3_leastStruck [rf G v, .int (nI h)] σ K := by
  refine Ci.of [some (rf G v), some (.int (nI h)), none] ?_
  have hv30 : 30 ≤ v := by rcases hv with e | e <;> omega
  refine A.al0 eX3_leastStruck_0 ?_
  refine A.il1 eX3_leastStruck_1 ?_
  refine A.cVv1 eX3_leastStruck_2 oX3_gather kX3_83 (kvo hv) (sX3_gather hv hh hnp hn8 hnq hq6 hH hPA (fun τ g1 => ?_))
  refine A.iconst (v := nI 0) eX3_leastStruck_5 (by decide) ?_
  refine A.is2 eX3_leastStruck_6 ?_
  have lp : ∀ (fu i : Nat), nq - i < fu → i ≤ nq → (∀ x, x < i → (fun x => decide (2 ≤ cnt (isdk a b x) np)) x = false) → B G (r0 1 25) mX3_leastStruck 7 [some (rf G v), some (.int (nI h)), some (.int (nI i))] [] (τ) (Pi K) := by
    intro fu
    induction fu with
    | zero => intro i  h1 h2; omega
    | succ fu ih =>
      intro i  h1 h2 ha
      refine A.il2 eX3_leastStruck_7 ?_
      refine A.al0 eX3_leastStruck_8 ?_
      refine A.getR eX3_leastStruck_9 fX3_15 (kvo hv) (kvr1 hv) ?_
      refine A.getI eX3_leastStruck_12 fX3_66 ko5 ?_
      refine A.top (show τ.1 5 5 = nI nq by rw [g1.1.1 5 (by omega)]; exact hnq) ?_
      refine A.icmp_geN eX3_leastStruck_15 (fun c1 => ?_) (fun c1 => ?_)
      · refine A.iconst (v := -1) eX3_leastStruck_36 (by decide) ?_
        refine B.iret eX3_leastStruck_37 ?_
        have e : i = nq := by omega
        subst e
        exact vl_of (hQ τ g1.1) (by rw [ffst_none ha, if_neg (by omega)])
      · refine A.al0 eX3_leastStruck_18 ?_
        refine A.getR eX3_leastStruck_19 fX3_35 (kvo hv) (kvr7 hv) ?_
        refine A.il2 eX3_leastStruck_22 ?_
        refine A.ialdN eX3_leastStruck_23 (kv5 hv) ?_
        refine A.top (g1.2 i (by omega)).2.2 ?_
        have bd := cnt_le (isdk a b i) np
        refine A.iconst (v := nI 2) eX3_leastStruck_24 (by decide) ?_
        refine A.icmp_ltN eX3_leastStruck_25 (fun c2 => ?_) (fun c2 => ?_)
        · refine A.inc2N eX3_leastStruck_30 ?_
          refine A.goto eX3_leastStruck_33 ?_
          refine ih (i + 1) (by omega) (by omega) (fun k hk => ?_)
          rcases Nat.lt_or_ge k i with q | q
          · exact ha k q
          · rw [show k = i by omega]; simp; omega
        · refine A.il2 eX3_leastStruck_28 ?_
          refine B.iret eX3_leastStruck_29 ?_
          have e := ffst_first ha (show i < nq by omega) (by simp; omega)
          exact vl_of (hQ τ g1.1) (by rw [e, if_pos (by omega)])
  exact lp (nq + 1) 0 (by omega) (by omega) (fun k hk => by omega)
