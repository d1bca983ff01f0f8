theorem g3_fq {n m : Nat} {σ : St} {a b c : Int32} (h : n ≤ m) : Fq n σ (g3 σ 51 m a b c) := by
  refine ⟨fun k hk => g3_at.2.2.2.2 k (by omega), fun k hk => ?_, fun j _ => by rw [g3_at.2.2.2.2 42 (by omega)], fun j hj => g3_at.2.2.2.1 j (by omega)⟩
  simp only [List.mem_cons, List.not_mem_nil, or_false] at hk
  exact g3_at.2.2.2.2 k (by omega)
/-- one more told to go -/
theorem M3.go {σ : St} {n a b c : Nat} {gh gp gq : Nat → Nat} {T : Nat → Nat → Int32} (ha : a < 24) (hb : b < 8) (hc : c < 6) (h : M3 σ 51 n 24 8 6 gh gp gq) (hT : ∀ h p, tlf gh gp gq n h p = T h p) : ∃ gh' gp' gq', M3 (g3 σ 51 n (nI a) (nI b) (nI c)) 51 (n + 1) 24 8 6 gh' gp' gq' ∧ ∀ h p, tlf gh' gp' gq' (n + 1) h p = if h = a ∧ p = b then nI c else T h p := by
  refine ⟨_, _, _, M3.add ha hb hc h g3_at.2.2.2.1 g3_at.1 g3_at.2.1 g3_at.2.2.1, fun h p => ?_⟩
  rw [tlf_s]
  simp only [if_true]
  rw [tlf_cg (gh' := gh) (gp' := gp) (gq' := gq) (fun k hk => by simp [show ¬ k = n by omega]), hT]
  by_cases e : a = h ∧ b = p
  · rw [if_pos e, if_pos ⟨e.1.symm, e.2.symm⟩]
  · rw [if_neg e, if_neg (fun z => e ⟨z.1.symm, z.2.symm⟩)]
set_option maxRecDepth 100000 in
set_option maxHeartbeats 4000000 in
theorem sX5_sendOf {G : GW} {σ : St} {K : Int32 → St → Prop} {x : XS} {q h : Nat} (hF : FM x σ) (bq : q < xq x) (bh : h < 24) (hQ : ∀ τ : St, FM x τ → Fq (xg x).1 σ τ → K (ov (bst (fun m => decide (m &&& crx x 0 q = 0) && sndx x m q h) (2 ^ xp x))) τ) : Ci G (r0 4 95) mX5_sendOf [rf G 42, .int (nI q), .int (nI h)] σ K := by
  refine Ci.of [some (rf G 42), some (.int (nI q)), some (.int (nI h)), none, none, none, none, none] ?_
  have n8 := hF.np8
  have q6 := hF.nq6
  have g20 := hF.1.2.1.2.1
  have h2p : 2 ^ xp x ≤ 2 ^ 8 := Nat.pow_le_pow_right (by omega) n8
  refine A.al0 eX5_sendOf_0 ?_
  refine A.iconst (v := nI 0) eX5_sendOf_1 (by decide) ?_
  refine A.il1 eX5_sendOf_2 ?_
  refine A.cVi2 eX5_sendOf_3 oX5_crowdOf kX5_178 ko42 (sX5_crowdOf (a := xa x 0) hF.2.1.1 n8 (show 0 < 24 by omega) (fun p hp => ((hF.2.2.2 0 (show 0 < 24 by omega)).1 p hp).1) ?_)
  refine A.top (show _ = nI (crx x 0 q) from rfl) ?_
  have hc8 : crx x 0 q < 256 := crx_lt n8
  refine A.is3 eX5_sendOf_6 ?_
  refine A.iconst (v := -1) eX5_sendOf_7 (by decide) ?_
  refine A.is4 eX5_sendOf_8 ?_
  refine A.iconst (v := nI 0) eX5_sendOf_10 (by decide) ?_
  refine A.is5 eX5_sendOf_11 ?_
  have lp : ∀ (fu m : Nat) (ξ : St), 2 ^ xp x - m < fu → m ≤ 2 ^ xp x → WM x σ ξ → (∀ p, p < xp x → ξ.1 54 p = nI (xb x p)) → B G (r0 4 95) mX5_sendOf 13 [some (rf G 42), some (.int (nI q)), some (.int (nI h)), some (.int (nI (crx x 0 q))), some (.int (ov (bst (fun m => decide (m &&& crx x 0 q = 0) && sndx x m q h) m))), some (.int (nI m)), none, none] [] (ξ) (Pi K) := by
    intro fu
    induction fu with
    | zero => intro m ξ h1 h2; omega
    | succ fu ih =>
      intro m ξ h1 h2 e1 e2
      refine A.il5 eX5_sendOf_13 ?_
      refine A.iconst (v := nI 1) eX5_sendOf_15 (by decide) ?_
      refine A.al0 eX5_sendOf_16 ?_
      refine A.getR eX5_sendOf_17 fX5_28 ko42 kr42_8 ?_
      refine A.iconst (v := nI 0) eX5_sendOf_20 (by decide) ?_
      refine A.ialdN eX5_sendOf_21 ka49 ?_
      refine A.top e1.2.1 ?_
      refine A.ishl1 eX5_sendOf_22 ?_
      refine A.icmp_geN eX5_sendOf_23 (fun c1 => ?_) (fun c1 => ?_)
      · refine A.al0 eX5_sendOf_131 ?_
        refine A.al0 eX5_sendOf_132 ?_
        refine A.getI eX5_sendOf_133 fX5_142 ko42 ?_
        refine A.top (hF.1.cg e1.1).2.1.1 ?_
        refine A.cVv1 eX5_sendOf_136 oX5_lives kX5_171 ko42 (lvG (b0 := xb x) (hF.1.cg e1.1) e1.2 (fun p hp => ⟨e2 p hp, xb_le hp⟩) (fun τ r1 r2 => ?_))
        refine A.il4 eX5_sendOf_139 ?_
        refine B.iret eX5_sendOf_141 ?_
        have e : m = 2 ^ xp x := by omega
        subst e
        exact hQ τ (FM.mv hF (e1.1.tr r1.fq) (r1.rx e1.2) (fun p hp => by rw [r1.1 54 (by omega) (by omega) (by omega)]; exact e2 p hp) r2) (e1.1.tr r1.fq)
      · refine A.il5 eX5_sendOf_26 ?_
        refine A.il3 eX5_sendOf_28 ?_
        have hal : m &&& crx x 0 q ≤ m := Nat.and_le_left
        refine A.iandN eX5_sendOf_29 ?_
        refine A.if_neN eX5_sendOf_30 (fun yd1 => ?_) (fun yd1 => ?_)
        · refine A.inc5N eX5_sendOf_125 ?_
          refine A.goto eX5_sendOf_128 ?_
          have hb : bst (fun m => decide (m &&& crx x 0 q = 0) && sndx x m q h) (m + 1) = if (fun m => decide (m &&& crx x 0 q = 0) && sndx x m q h) m && fwr m (bst (fun m => decide (m &&& crx x 0 q = 0) && sndx x m q h) m) then some m else bst (fun m => decide (m &&& crx x 0 q = 0) && sndx x m q h) m := rfl
          have yk : ¬ ((fun m => decide (m &&& crx x 0 q = 0) && sndx x m q h) m && fwr m (bst (fun m => decide (m &&& crx x 0 q = 0) && sndx x m q h) m)) = true := by
            simp only [Bool.and_eq_true, decide_eq_true_eq]
            exact fun z => yd1 z.1.1
          exact A.eqw (by rw [hb, if_neg yk]; simp [wkL]) rfl rfl (ih (m + 1) ξ (by omega) (by omega) e1 e2)
        · refine A.il4 eX5_sendOf_33 ?_
          refine A.iconst (v := -1) eX5_sendOf_35 (by decide) ?_
          refine A.icmp_eq eX5_sendOf_36 (fun yd2 => ?_) (fun yd2 => ?_)
          · have yf : fwr m (bst (fun m => decide (m &&& crx x 0 q = 0) && sndx x m q h) m) = true := by
              cases e : bst (fun m => decide (m &&& crx x 0 q = 0) && sndx x m q h) m with
              | none => rfl
              | some n => rw [e] at yd2; exact absurd yd2 (nI_nm1 (by have := bst_lt e; omega))
            refine A.al0 eX5_sendOf_52 ?_
            refine A.getI eX5_sendOf_53 fX5_142 ko42 ?_
            refine A.top (hF.1.cg e1.1).2.1.1 ?_
            refine A.is6 eX5_sendOf_56 ?_
            refine A.iconst (v := nI 0) eX5_sendOf_58 (by decide) ?_
            refine A.is7 eX5_sendOf_59 ?_
            have li : ∀ (fu i : Nat) (ρ : St), xp x - i < fu → i ≤ xp x → WM x σ ρ → (∀ p, p < xp x → ρ.1 54 p = nI (xb x p)) → (∃ gh gp gq : Nat → Nat, M3 ρ 51 ((xg x).1 + cnt (inb m) i) 24 8 6 gh gp gq ∧ ∀ g p, tlf gh gp gq ((xg x).1 + cnt (inb m) i) g p = if g = 0 ∧ p < i ∧ inb m p = true then nI q else xT x g p) → B G (r0 4 95) mX5_sendOf 61 [some (rf G 42), some (.int (nI q)), some (.int (nI h)), some (.int (nI (crx x 0 q))), some (.int (ov (bst (fun m => decide (m &&& crx x 0 q = 0) && sndx x m q h) m))), some (.int (nI m)), some (.int (nI ((xg x).1 + cnt (inb m) i))), some (.int (nI i))] [] (ρ) (Pi K) := by
              intro fu
              induction fu with
              | zero => intro i ρ h1 h2; omega
              | succ fu ihi =>
                intro i ρ h1 h2 e4 e5 e6
                refine A.il7 eX5_sendOf_61 ?_
                refine A.al0 eX5_sendOf_63 ?_
                refine A.getR eX5_sendOf_64 fX5_28 ko42 kr42_8 ?_
                refine A.iconst (v := nI 0) eX5_sendOf_67 (by decide) ?_
                refine A.ialdN eX5_sendOf_68 ka49 ?_
                refine A.top e4.2.1 ?_
                refine A.icmp_geN eX5_sendOf_69 (fun c4 => ?_) (fun c4 => ?_)
                · have ei : i = xp x := by omega
                  subst ei
                  have hci := cnt_le (inb m) (xp x)
                  obtain ⟨gh, gp, gq, ag1, ag2⟩ := e6
                  refine A.al0 eX5_sendOf_101 ?_
                  refine A.il6 eX5_sendOf_102 ?_
                  refine A.cVv1 eX5_sendOf_104 oX5_lives kX5_171 ko42 (lvT (x := x) (b0 := xb x) (T := sT x m q) (hF.1.cg e4.1) e4.2 (by omega) ag1 (fun g _ p => by rw [ag2 g p]; rfl) (fun p hp => ⟨e5 p hp, xb_le hp⟩) (fun τ r1 r2 => ?_))
                  refine A.al0 eX5_sendOf_107 ?_
                  refine A.il2 eX5_sendOf_108 ?_
                  refine A.il1 eX5_sendOf_109 ?_
                  refine A.cVi2 eX5_sendOf_110 oX5_isMet kX5_199 ko42 (sX5_isMet (a := aT x (sT x m q) h) (b := bT x (sT x m q) (xb x) h) (r1.rx e4.2).1 n8 bh (r2 h bh).1 (by omega) ((r1.rx e4.2).2.2.2 q bq).1 (xlo_le bq) ((r1.rx e4.2).2.2.2 q bq).2 (xhi_le bq) ?_)
                  refine A.top (show _ = bI (sndx x m q h = true) from rfl) ?_
                  refine A.if_eqB eX5_sendOf_113 (fun yd5 => ?_) (fun yd5 => ?_)
                  · refine A.il4 eX5_sendOf_121 ?_
                    refine A.is4 eX5_sendOf_123 ?_
                    refine A.inc5N eX5_sendOf_125 ?_
                    refine A.goto eX5_sendOf_128 ?_
                    have hb : bst (fun m => decide (m &&& crx x 0 q = 0) && sndx x m q h) (m + 1) = if (fun m => decide (m &&& crx x 0 q = 0) && sndx x m q h) m && fwr m (bst (fun m => decide (m &&& crx x 0 q = 0) && sndx x m q h) m) then some m else bst (fun m => decide (m &&& crx x 0 q = 0) && sndx x m q h) m := rfl
                    have yk : ¬ ((fun m => decide (m &&& crx x 0 q = 0) && sndx x m q h) m && fwr m (bst (fun m => decide (m &&& crx x 0 q = 0) && sndx x m q h) m)) = true := by
                      simp only [Bool.and_eq_true, decide_eq_true_eq]
                      exact fun z => yd5 z.1.2
                    exact A.eqw (by rw [hb, if_neg yk]; simp [wkL]) rfl rfl (ih (m + 1) τ (by omega) (by omega) (e4.tz r1) (fun p hp => by rw [r1.1 54 (by omega) (by omega) (by omega)]; exact e5 p hp))
                  · refine A.il5 eX5_sendOf_116 ?_
                    refine A.goto eX5_sendOf_118 ?_
                    refine A.is4 eX5_sendOf_123 ?_
                    refine A.inc5N eX5_sendOf_125 ?_
                    refine A.goto eX5_sendOf_128 ?_
                    have hb : bst (fun m => decide (m &&& crx x 0 q = 0) && sndx x m q h) (m + 1) = if (fun m => decide (m &&& crx x 0 q = 0) && sndx x m q h) m && fwr m (bst (fun m => decide (m &&& crx x 0 q = 0) && sndx x m q h) m) then some m else bst (fun m => decide (m &&& crx x 0 q = 0) && sndx x m q h) m := rfl
                    have yk : ((fun m => decide (m &&& crx x 0 q = 0) && sndx x m q h) m && fwr m (bst (fun m => decide (m &&& crx x 0 q = 0) && sndx x m q h) m)) = true := by
                      simp only [Bool.and_eq_true, decide_eq_true_eq]
                      exact ⟨⟨yd1, yd5⟩, yf⟩
                    exact A.eqw (by rw [hb, if_pos yk]; simp [wkL, ov]) rfl rfl (ih (m + 1) τ (by omega) (by omega) (e4.tz r1) (fun p hp => by rw [r1.1 54 (by omega) (by omega) (by omega)]; exact e5 p hp))
                · have hci := cnt_le (inb m) i
                  refine A.il5 eX5_sendOf_72 ?_
                  refine A.il7 eX5_sendOf_74 ?_
                  refine A.cSi2 eX5_sendOf_76 oX5_isIn kX5_155 (sX5_isIn (m := m) (k := i) (by omega) (by omega) ?_)
                  refine A.if_eqB eX5_sendOf_79 (fun yd4 => ?_) (fun yd4 => ?_)
                  · refine A.inc7N eX5_sendOf_95 ?_
                    refine A.goto eX5_sendOf_98 ?_
                    obtain ⟨gh, gp, gq, ag1, ag2⟩ := e6
                    have ec : cnt (inb m) (i + 1) = cnt (inb m) i := by simp [cnt, yd4]
                    refine A.eq (by rw [ec]) rfl rfl (ihi (i + 1) ρ (by omega) (by omega) e4 e5 ⟨gh, gp, gq, by rw [ec]; exact ag1, fun g p => ?_⟩)
                    rw [ec, ag2 g p]
                    by_cases z : g = 0 ∧ p < i ∧ inb m p = true
                    · rw [if_pos z, if_pos ⟨z.1, by omega, z.2.2⟩]
                    · rw [if_neg z, if_neg (fun w => z ⟨w.1, (Nat.lt_or_ge p i).elim id (fun v => absurd w.2.2 (by rw [show p = i by omega]; exact yd4)), w.2.2⟩)]
                  · refine A.al0 eX5_sendOf_82 ?_
                    refine A.il6 eX5_sendOf_83 ?_
                    refine A.iconst (v := nI 0) eX5_sendOf_85 (by decide) ?_
                    refine A.il7 eX5_sendOf_86 ?_
                    refine A.il1 eX5_sendOf_88 ?_
                    refine A.cVv4 eX5_sendOf_89 oX5_goes kX5_145 ko42 (sX5_goes (k := ((xg x).1 + cnt (inb m) i)) (by omega) ?_)
                    refine A.inc6N eX5_sendOf_92 ?_
                    refine A.inc7N eX5_sendOf_95 ?_
                    refine A.goto eX5_sendOf_98 ?_
                    obtain ⟨gh, gp, gq, ag1, ag2⟩ := e6
                    have ec : cnt (inb m) (i + 1) = cnt (inb m) i + 1 := by simp [cnt, yd4]
                    obtain ⟨gh', gp', gq', bg1, bg2⟩ := M3.go (a := 0) (b := i) (c := q) (by omega) (by omega) (by omega) ag1 ag2
                    refine A.eq (by rw [ec]; rfl) rfl rfl (ihi (i + 1) _ (by omega) (by omega) ⟨e4.1.tr (g3_fq (Nat.le_add_right _ _)), RX.cg (g3_at.2.2.2.2 49 (by omega)) (g3_at.2.2.2.2 50 (by omega)) e4.2⟩ (fun p hp => by rw [g3_at.2.2.2.2 54 (by omega)]; exact e5 p hp) ⟨gh', gp', gq', by rw [ec]; exact bg1, fun g p => ?_⟩)
                    rw [ec, show (xg x).1 + (cnt (inb m) i + 1) = (xg x).1 + cnt (inb m) i + 1 by omega, bg2 g p]
                    by_cases z : g = 0 ∧ p = i
                    · rw [if_pos z, if_pos ⟨z.1, by omega, by rw [z.2]; exact yd4⟩]
                    · rw [if_neg z]
                      by_cases w : g = 0 ∧ p < i ∧ inb m p = true
                      · rw [if_pos w, if_pos ⟨w.1, by omega, w.2.2⟩]
                      · rw [if_neg w, if_neg (fun v => w ⟨v.1, by omega, v.2.2⟩)]
            exact A.eq (by rfl) rfl rfl (li (xp x + 1) 0 ξ (by omega) (by omega) e1 e2 ⟨_, _, _, (hF.1.cg e1.1).2.1.2.2, fun g p => by rw [if_neg (by omega)]; rfl⟩)
          · obtain ⟨n, en⟩ : ∃ n, bst (fun m => decide (m &&& crx x 0 q = 0) && sndx x m q h) m = some n := by
              cases e : bst (fun m => decide (m &&& crx x 0 q = 0) && sndx x m q h) m with
              | none => rw [e] at yd2; exact absurd rfl yd2
              | some n => exact ⟨n, rfl⟩
            refine A.il5 eX5_sendOf_39 ?_
            refine A.cSi1 eX5_sendOf_41 oX5_ones kX5_188 (sX5_ones (by omega) ?_)
            refine A.il4 eX5_sendOf_44 ?_
            refine A.top (show ov (bst (fun m => decide (m &&& crx x 0 q = 0) && sndx x m q h) m) = nI n by rw [en]; rfl) ?_
            have hp1 := pop_le m
            have hp2 := pop_le n
            refine A.cSi1 eX5_sendOf_46 oX5_ones kX5_188 (sX5_ones (m := n) (by have := bst_lt en; omega) ?_)
            refine A.icmp_geN eX5_sendOf_49 (fun yd3 => ?_) (fun yd3 => ?_)
            · refine A.inc5N eX5_sendOf_125 ?_
              refine A.goto eX5_sendOf_128 ?_
              have hb : bst (fun m => decide (m &&& crx x 0 q = 0) && sndx x m q h) (m + 1) = if (fun m => decide (m &&& crx x 0 q = 0) && sndx x m q h) m && fwr m (bst (fun m => decide (m &&& crx x 0 q = 0) && sndx x m q h) m) then some m else bst (fun m => decide (m &&& crx x 0 q = 0) && sndx x m q h) m := rfl
              have yk : ¬ ((fun m => decide (m &&& crx x 0 q = 0) && sndx x m q h) m && fwr m (bst (fun m => decide (m &&& crx x 0 q = 0) && sndx x m q h) m)) = true := by
                rw [en]
                simp only [Bool.and_eq_true, decide_eq_true_eq, fwr]
                exact fun z => by have := z.2; omega
              exact A.eqw (by rw [hb, if_neg yk]; simp [wkL]) rfl rfl (ih (m + 1) ξ (by omega) (by omega) e1 e2)
            · have yf : fwr m (bst (fun m => decide (m &&& crx x 0 q = 0) && sndx x m q h) m) = true := by rw [en]; exact decide_eq_true (by omega)
              refine A.al0 eX5_sendOf_52 ?_
              refine A.getI eX5_sendOf_53 fX5_142 ko42 ?_
              refine A.top (hF.1.cg e1.1).2.1.1 ?_
              refine A.is6 eX5_sendOf_56 ?_
              refine A.iconst (v := nI 0) eX5_sendOf_58 (by decide) ?_
              refine A.is7 eX5_sendOf_59 ?_
              have li : ∀ (fu i : Nat) (ρ : St), xp x - i < fu → i ≤ xp x → WM x σ ρ → (∀ p, p < xp x → ρ.1 54 p = nI (xb x p)) → (∃ gh gp gq : Nat → Nat, M3 ρ 51 ((xg x).1 + cnt (inb m) i) 24 8 6 gh gp gq ∧ ∀ g p, tlf gh gp gq ((xg x).1 + cnt (inb m) i) g p = if g = 0 ∧ p < i ∧ inb m p = true then nI q else xT x g p) → B G (r0 4 95) mX5_sendOf 61 [some (rf G 42), some (.int (nI q)), some (.int (nI h)), some (.int (nI (crx x 0 q))), some (.int (ov (bst (fun m => decide (m &&& crx x 0 q = 0) && sndx x m q h) m))), some (.int (nI m)), some (.int (nI ((xg x).1 + cnt (inb m) i))), some (.int (nI i))] [] (ρ) (Pi K) := by
                intro fu
                induction fu with
                | zero => intro i ρ h1 h2; omega
                | succ fu ihi =>
                  intro i ρ h1 h2 e4 e5 e6
                  refine A.il7 eX5_sendOf_61 ?_
                  refine A.al0 eX5_sendOf_63 ?_
                  refine A.getR eX5_sendOf_64 fX5_28 ko42 kr42_8 ?_
                  refine A.iconst (v := nI 0) eX5_sendOf_67 (by decide) ?_
                  refine A.ialdN eX5_sendOf_68 ka49 ?_
                  refine A.top e4.2.1 ?_
                  refine A.icmp_geN eX5_sendOf_69 (fun c8 => ?_) (fun c8 => ?_)
                  · have ei : i = xp x := by omega
                    subst ei
                    have hci := cnt_le (inb m) (xp x)
                    obtain ⟨gh, gp, gq, ag1, ag2⟩ := e6
                    refine A.al0 eX5_sendOf_101 ?_
                    refine A.il6 eX5_sendOf_102 ?_
                    refine A.cVv1 eX5_sendOf_104 oX5_lives kX5_171 ko42 (lvT (x := x) (b0 := xb x) (T := sT x m q) (hF.1.cg e4.1) e4.2 (by omega) ag1 (fun g _ p => by rw [ag2 g p]; rfl) (fun p hp => ⟨e5 p hp, xb_le hp⟩) (fun τ r1 r2 => ?_))
                    refine A.al0 eX5_sendOf_107 ?_
                    refine A.il2 eX5_sendOf_108 ?_
                    refine A.il1 eX5_sendOf_109 ?_
                    refine A.cVi2 eX5_sendOf_110 oX5_isMet kX5_199 ko42 (sX5_isMet (a := aT x (sT x m q) h) (b := bT x (sT x m q) (xb x) h) (r1.rx e4.2).1 n8 bh (r2 h bh).1 (by omega) ((r1.rx e4.2).2.2.2 q bq).1 (xlo_le bq) ((r1.rx e4.2).2.2.2 q bq).2 (xhi_le bq) ?_)
                    refine A.top (show _ = bI (sndx x m q h = true) from rfl) ?_
                    refine A.if_eqB eX5_sendOf_113 (fun yd5 => ?_) (fun yd5 => ?_)
                    · refine A.il4 eX5_sendOf_121 ?_
                      refine A.is4 eX5_sendOf_123 ?_
                      refine A.inc5N eX5_sendOf_125 ?_
                      refine A.goto eX5_sendOf_128 ?_
                      have hb : bst (fun m => decide (m &&& crx x 0 q = 0) && sndx x m q h) (m + 1) = if (fun m => decide (m &&& crx x 0 q = 0) && sndx x m q h) m && fwr m (bst (fun m => decide (m &&& crx x 0 q = 0) && sndx x m q h) m) then some m else bst (fun m => decide (m &&& crx x 0 q = 0) && sndx x m q h) m := rfl
                      have yk : ¬ ((fun m => decide (m &&& crx x 0 q = 0) && sndx x m q h) m && fwr m (bst (fun m => decide (m &&& crx x 0 q = 0) && sndx x m q h) m)) = true := by
                        simp only [Bool.and_eq_true, decide_eq_true_eq]
                        exact fun z => yd5 z.1.2
                      exact A.eqw (by rw [hb, if_neg yk]; simp [wkL]) rfl rfl (ih (m + 1) τ (by omega) (by omega) (e4.tz r1) (fun p hp => by rw [r1.1 54 (by omega) (by omega) (by omega)]; exact e5 p hp))
                    · refine A.il5 eX5_sendOf_116 ?_
                      refine A.goto eX5_sendOf_118 ?_
                      refine A.is4 eX5_sendOf_123 ?_
                      refine A.inc5N eX5_sendOf_125 ?_
                      refine A.goto eX5_sendOf_128 ?_
                      have hb : bst (fun m => decide (m &&& crx x 0 q = 0) && sndx x m q h) (m + 1) = if (fun m => decide (m &&& crx x 0 q = 0) && sndx x m q h) m && fwr m (bst (fun m => decide (m &&& crx x 0 q = 0) && sndx x m q h) m) then some m else bst (fun m => decide (m &&& crx x 0 q = 0) && sndx x m q h) m := rfl
                      have yk : ((fun m => decide (m &&& crx x 0 q = 0) && sndx x m q h) m && fwr m (bst (fun m => decide (m &&& crx x 0 q = 0) && sndx x m q h) m)) = true := by
                        simp only [Bool.and_eq_true, decide_eq_true_eq]
                        exact ⟨⟨yd1, yd5⟩, yf⟩
                      exact A.eqw (by rw [hb, if_pos yk]; simp [wkL, ov]) rfl rfl (ih (m + 1) τ (by omega) (by omega) (e4.tz r1) (fun p hp => by rw [r1.1 54 (by omega) (by omega) (by omega)]; exact e5 p hp))
                  · have hci := cnt_le (inb m) i
                    refine A.il5 eX5_sendOf_72 ?_
                    refine A.il7 eX5_sendOf_74 ?_
                    refine A.cSi2 eX5_sendOf_76 oX5_isIn kX5_155 (sX5_isIn (m := m) (k := i) (by omega) (by omega) ?_)
                    refine A.if_eqB eX5_sendOf_79 (fun yd4 => ?_) (fun yd4 => ?_)
                    · refine A.inc7N eX5_sendOf_95 ?_
                      refine A.goto eX5_sendOf_98 ?_
                      obtain ⟨gh, gp, gq, ag1, ag2⟩ := e6
                      have ec : cnt (inb m) (i + 1) = cnt (inb m) i := by simp [cnt, yd4]
                      refine A.eq (by rw [ec]) rfl rfl (ihi (i + 1) ρ (by omega) (by omega) e4 e5 ⟨gh, gp, gq, by rw [ec]; exact ag1, fun g p => ?_⟩)
                      rw [ec, ag2 g p]
                      by_cases z : g = 0 ∧ p < i ∧ inb m p = true
                      · rw [if_pos z, if_pos ⟨z.1, by omega, z.2.2⟩]
                      · rw [if_neg z, if_neg (fun w => z ⟨w.1, (Nat.lt_or_ge p i).elim id (fun v => absurd w.2.2 (by rw [show p = i by omega]; exact yd4)), w.2.2⟩)]
                    · refine A.al0 eX5_sendOf_82 ?_
                      refine A.il6 eX5_sendOf_83 ?_
                      refine A.iconst (v := nI 0) eX5_sendOf_85 (by decide) ?_
                      refine A.il7 eX5_sendOf_86 ?_
                      refine A.il1 eX5_sendOf_88 ?_
                      refine A.cVv4 eX5_sendOf_89 oX5_goes kX5_145 ko42 (sX5_goes (k := ((xg x).1 + cnt (inb m) i)) (by omega) ?_)
                      refine A.inc6N eX5_sendOf_92 ?_
                      refine A.inc7N eX5_sendOf_95 ?_
                      refine A.goto eX5_sendOf_98 ?_
                      obtain ⟨gh, gp, gq, ag1, ag2⟩ := e6
                      have ec : cnt (inb m) (i + 1) = cnt (inb m) i + 1 := by simp [cnt, yd4]
                      obtain ⟨gh', gp', gq', bg1, bg2⟩ := M3.go (a := 0) (b := i) (c := q) (by omega) (by omega) (by omega) ag1 ag2
                      refine A.eq (by rw [ec]; rfl) rfl rfl (ihi (i + 1) _ (by omega) (by omega) ⟨e4.1.tr (g3_fq (Nat.le_add_right _ _)), RX.cg (g3_at.2.2.2.2 49 (by omega)) (g3_at.2.2.2.2 50 (by omega)) e4.2⟩ (fun p hp => by rw [g3_at.2.2.2.2 54 (by omega)]; exact e5 p hp) ⟨gh', gp', gq', by rw [ec]; exact bg1, fun g p => ?_⟩)
                      rw [ec, show (xg x).1 + (cnt (inb m) i + 1) = (xg x).1 + cnt (inb m) i + 1 by omega, bg2 g p]
                      by_cases z : g = 0 ∧ p = i
                      · rw [if_pos z, if_pos ⟨z.1, by omega, by rw [z.2]; exact yd4⟩]
                      · rw [if_neg z]
                        by_cases w : g = 0 ∧ p < i ∧ inb m p = true
                        · rw [if_pos w, if_pos ⟨w.1, by omega, w.2.2⟩]
                        · rw [if_neg w, if_neg (fun v => w ⟨v.1, by omega, v.2.2⟩)]
              exact A.eq (by rfl) rfl rfl (li (xp x + 1) 0 ξ (by omega) (by omega) e1 e2 ⟨_, _, _, (hF.1.cg e1.1).2.1.2.2, fun g p => by rw [if_neg (by omega)]; rfl⟩)
  exact A.eqw (by simp [wkL]; rfl) rfl rfl (lp (2 ^ xp x + 1) 0 σ (Nat.lt_succ_of_le (Nat.sub_le _ _)) (Nat.zero_le _) ⟨Fq.rf _ _, hF.2.1⟩ hF.2.2.1)
set_option maxRecDepth 100000 in
set_option maxHeartbeats 4000000 in
theorem aX5_send {G : GW} {σ : St} {K : Int32 → St → Prop} {x : XS} {q h w : Int32} (hM : MI x σ) (hQ : ∀ τ : St, MI (x) τ → Fm σ τ → K (Rsend x q h w) τ) : Ci G (r0 5 122) mX5_send [rf G 42, .int q, .int h, .int w] σ K := by
  refine Ci.of [some (rf G 42), some (.int q), some (.int h), some (.int w)] ?_
  unfold Rsend at hQ
  have n8 := hM.np8
  have q6 := hM.nq6
  refine A.al0 eX5_send_0 ?_
  refine A.cVv0 eX5_send_1 oX5_find kX5_175 ko42 (sX5_find hM (fun τ g1 g2 => ?_))
  refine A.al0 eX5_send_4 ?_
  refine A.il1 eX5_send_5 ?_
  refine A.cVi1 eX5_send_6 oX5_isPlace kX5_130 ko42 (sX5_isPlace (n := xq x) g1.2.1.2.1 (by omega) ?_)
  refine A.if_eqB eX5_send_9 (fun yw_q => ?_) (fun yw_q => ?_)
  · refine A.bipush (v := -2) eX5_send_39 (by decide) ?_
    refine B.iret eX5_send_41 ?_
    simp only [if_neg (show ¬ (ck q (xq x) ∧ ck h 24 ∧ ck w 2) from fun z => yw_q z.1)] at hQ
    exact hQ τ g1.1 g2
  · refine A.il2 eX5_send_12 ?_
    refine A.cSi1 eX5_send_13 oX5_isHour kX5_133 (sX5_isHour ?_)
    refine A.if_eqB eX5_send_16 (fun yw_h => ?_) (fun yw_h => ?_)
    · refine A.bipush (v := -2) eX5_send_39 (by decide) ?_
      refine B.iret eX5_send_41 ?_
      simp only [if_neg (show ¬ (ck q (xq x) ∧ ck h 24 ∧ ck w 2) from fun z => yw_h z.2.1)] at hQ
      exact hQ τ g1.1 g2
    · refine A.il3 eX5_send_19 ?_
      refine A.cSi1 eX5_send_20 oX5_isTwo kX5_96 (sX5_isTwo ?_)
      refine A.if_eqB eX5_send_23 (fun yw_w => ?_) (fun yw_w => ?_)
      · refine A.bipush (v := -2) eX5_send_39 (by decide) ?_
        refine B.iret eX5_send_41 ?_
        simp only [if_neg (show ¬ (ck q (xq x) ∧ ck h 24 ∧ ck w 2) from fun z => yw_w z.2.2)] at hQ
        exact hQ τ g1.1 g2
      · simp only [if_pos (show ck q (xq x) ∧ ck h 24 ∧ ck w 2 from ⟨yw_q, yw_h, yw_w⟩)] at hQ
        obtain ⟨q, bq, rfl⟩ := i_nat yw_q.1 yw_q.2
        obtain ⟨h, bh, rfl⟩ := i_nat yw_h.1 yw_h.2
        obtain ⟨w, bw, rfl⟩ := i_nat yw_w.1 yw_w.2
        try simp only [nI_clamp (n := q) (by omega), nI_clamp (n := h) (by omega), nI_clamp (n := w) (by omega)] at hQ
        refine A.al0 eX5_send_26 ?_
        refine A.il1 eX5_send_27 ?_
        refine A.il2 eX5_send_28 ?_
        refine A.cVi2 eX5_send_29 oX5_sendOf kX5_215 ko42 (sX5_sendOf g1 bq bh (fun τ3 g3 g4 => ?_))
        refine A.il3 eX5_send_32 ?_
        refine A.cSi2 eX5_send_33 oX5_told kX5_218 (sX5_told (fun m em => by have := bst_lt em; have : 2 ^ xp x ≤ 2 ^ 8 := Nat.pow_le_pow_right (by omega) n8; omega) bw ?_)
        refine A.goto eX5_send_36 ?_
        refine B.iret eX5_send_41 ?_
        exact hQ τ3 g3.1 (g2.tr g4.1)
set_option maxRecDepth 100000 in
set_option maxHeartbeats 4000000 in
theorem aX5_write {G : GW} {σ : St} {K : Int32 → St → Prop} {x : XS} {h i : Int32} (hM : MI x σ) (hQ : ∀ τ : St, MI (Nwrite x h i) τ → Fm σ τ → K (Rwrite x h i) τ) : Ci G (r0 5 115) mX5_write [rf G 42, .int h, .int i] σ K := by
  refine Ci.of [some (rf G 42), some (.int h), some (.int i), none, none] ?_
  unfold Rwrite Nwrite at hQ
  have n8 := hM.np8
  refine A.il1 eX5_write_0 ?_
  refine A.cSi1 eX5_write_1 oX5_isHour kX5_133 (sX5_isHour ?_)
  refine A.if_eqB eX5_write_4 (fun yw0 => ?_) (fun yw0 => ?_)
  · refine A.bipush (v := -2) eX5_write_14 (by decide) ?_
    refine B.iret eX5_write_16 ?_
    simp only [if_neg (show ¬ (ck i 4 ∧ ck h 24) from fun z => yw0 z.2)] at hQ
    exact hQ σ hM (Fm.rf _)
  · refine A.il2 eX5_write_7 ?_
    refine A.cSi1 eX5_write_8 oX5_isSheet kX5_77 (sX5_isSheet ?_)
    refine A.if_neB eX5_write_11 (fun yw1 => ?_) (fun yw1 => ?_)
    · simp only [if_pos (show ck i 4 ∧ ck h 24 from ⟨yw1, yw0⟩)] at hQ
      obtain ⟨h, bh, rfl⟩ := i_nat yw0.1 yw0.2
      obtain ⟨i, bi, rfl⟩ := i_nat yw1.1 yw1.2
      try simp only [nI_clamp (n := h) (by omega), nI_clamp (n := i) (by omega)] at hQ
      have hH := hM.hs bi
      have hov := ov_neg (fun g e => (hH.2.1 g e).1)
      refine A.al0 eX5_write_17 ?_
      refine A.getR eX5_write_18 fX5_7 ko42 kr42_0 ?_
      refine A.il2 eX5_write_21 ?_
      refine A.ialdN eX5_write_22 ka43 ?_
      refine A.top hH.1 ?_
      refine A.if_geI eX5_write_23 (fun yd1 => ?_) (fun yd1 => ?_)
      · have hl : ¬ ov ((xh x).1 i) = -1 := fun z => absurd (hov.mpr z) (by omega)
        simp only [if_neg hl] at hQ
        have z60 := hH.2.2.1
        refine A.al0 eX5_write_32 ?_
        refine A.cVv0 eX5_write_33 oX5_find kX5_175 ko42 (sX5_find hM (fun τ g1 g2 => ?_))
        have gH := g1.1.hs bi
        obtain ⟨g, eg0, eg1, eg2, eg⟩ := g1.1.sg bi hl
        refine A.al0 eX5_write_36 ?_
        refine A.getR eX5_write_37 fX5_13 ko42 kr42_1 ?_
        refine A.il2 eX5_write_40 ?_
        refine A.ialdN eX5_write_41 ka44 ?_
        refine A.top eg ?_
        refine A.al0 eX5_write_42 ?_
        refine A.getR eX5_write_43 fX5_28 ko42 kr42_8 ?_
        refine A.iconst (v := nI 0) eX5_write_46 (by decide) ?_
        refine A.ialdN eX5_write_47 ka49 ?_
        refine A.top g1.2.1.1 ?_
        refine A.icmp_geN eX5_write_48 (fun yd2 => ?_) (fun yd2 => ?_)
        · refine A.al0 eX5_write_60 ?_
          refine A.getR eX5_write_61 fX5_28 ko42 kr42_8 ?_
          refine A.iconst (v := nI 0) eX5_write_64 (by decide) ?_
          refine A.ialdN eX5_write_65 ka49 ?_
          refine A.top g1.2.1.1 ?_
          refine A.top (show _ = nI (min (xz x i) (xp x)) from by congr 1; omega) ?_
          refine A.is3 eX5_write_66 ?_
          refine A.iconst (v := nI 0) eX5_write_67 (by decide) ?_
          refine A.is4 eX5_write_68 ?_
          have lp : ∀ (fu j : Nat) (ξ : St), (min (xz x i) (xp x)) - j < fu → j ≤ (min (xz x i) (xp x)) → (∀ k, k ≠ 45 → ξ.1 k = τ.1 k) → (∀ k, (k < 60 * i ∨ 60 * i + 60 ≤ k) → ξ.1 45 k = τ.1 45 k) → (∀ k, k < xz x i → ξ.1 45 (60 * i + k) = wrf x h i j k) → B G (r0 5 115) mX5_write 70 [some (rf G 42), some (.int (nI h)), some (.int (nI i)), some (.int (nI (min (xz x i) (xp x)))), some (.int (nI j))] [] (ξ) (Pi K) := by
            intro fu
            induction fu with
            | zero => intro j ξ h1 h2; omega
            | succ fu ih =>
              intro j ξ h1 h2 e1 e2 e3
              refine A.il4 eX5_write_70 ?_
              refine A.il3 eX5_write_72 ?_
              refine A.icmp_geN eX5_write_73 (fun c5 => ?_) (fun c5 => ?_)
              · refine A.il3 eX5_write_115 ?_
                refine B.iret eX5_write_116 ?_
                have e : j = min (xz x i) (xp x) := by omega
                subst e
                refine hQ ξ (MI.setH g1.1 (fun k a b c d => e1 k c) (fun k hk => by rw [e1 43 (by omega)]) (fun k hk => by rw [e1 44 (by omega)]) e2 (by rw [e1 43 (by omega)]; exact gH.1) (Or.inr ⟨⟨g, eg0, eg1⟩, by rw [e1 44 (by omega), ← eg2]; exact eg, by rw [← eg2]; exact z60, fun k hk => e3 k (by omega)⟩)) (fun k hk => by rw [e1 k (by omega)]; exact g2 k hk)
              · refine A.al0 eX5_write_76 ?_
                refine A.getR eX5_write_77 fX5_16 ko42 kr42_2 ?_
                refine A.bipush (v := nI 60) eX5_write_80 (by decide) ?_
                refine A.il2 eX5_write_82 ?_
                refine A.imulN eX5_write_83 ?_
                refine A.il4 eX5_write_84 ?_
                refine A.iaddN eX5_write_86 ?_
                refine A.al0 eX5_write_87 ?_
                refine A.getR eX5_write_88 fX5_7 ko42 kr42_0 ?_
                refine A.il2 eX5_write_91 ?_
                refine A.ialdN eX5_write_92 ka43 ?_
                refine A.top (show ξ.1 43 i = ov ((xh x).1 i) by rw [e1 43 (by omega)]; exact gH.1) ?_
                refine A.al0 eX5_write_93 ?_
                refine A.getR eX5_write_94 fX5_40 ko42 kr42_13 ?_
                refine A.bipush (v := nI 8) eX5_write_97 (by decide) ?_
                refine A.il1 eX5_write_99 ?_
                refine A.imulN eX5_write_100 ?_
                refine A.il4 eX5_write_101 ?_
                refine A.iaddN eX5_write_103 ?_
                refine A.ialdN eX5_write_104 ka53 ?_
                refine A.top (show ξ.1 53 (8 * h + j) = nI (xr x h j) by rw [e1 53 (by omega)]; exact ((g1.2.2.2 h bh).1 j (by omega)).2.1) ?_
                refine A.cSi2 eX5_write_105 oX5_cut kX5_91 (sX5_cut ?_)
                refine A.iastN eX5_write_108 ka45 ?_
                refine A.inc4N eX5_write_109 ?_
                refine A.goto eX5_write_112 ?_
                refine ih (j + 1) _ (by omega) (by omega) (fun k hk => by rw [ur_n hk]; exact e1 k hk) (fun k hk => by rw [ur_s, upd_n (by omega)]; exact e2 k hk) (fun k hk => ?_)
                rw [ur_s]
                by_cases e : k = j
                · rw [e, upd_s]; exact (if_pos (show j < j + 1 by omega)).symm
                · rw [upd_n (by omega), e3 k hk]
                  unfold wrf
                  by_cases z : k < j
                  · rw [if_pos z, if_pos (by omega)]
                  · rw [if_neg z, if_neg (by omega)]
          exact lp (min (xz x i) (xp x) + 1) 0 τ (by omega) (by omega) (fun _ _ => rfl) (fun _ _ => rfl) (fun k hk => by rw [gH.2.2.2 k hk]; rfl)
        · refine A.al0 eX5_write_51 ?_
          refine A.getR eX5_write_52 fX5_13 ko42 kr42_1 ?_
          refine A.il2 eX5_write_55 ?_
          refine A.ialdN eX5_write_56 ka44 ?_
          refine A.top eg ?_
          refine A.goto eX5_write_57 ?_
          refine A.top (show _ = nI (min (xz x i) (xp x)) from by congr 1; omega) ?_
          refine A.is3 eX5_write_66 ?_
          refine A.iconst (v := nI 0) eX5_write_67 (by decide) ?_
          refine A.is4 eX5_write_68 ?_
          have lp : ∀ (fu j : Nat) (ξ : St), (min (xz x i) (xp x)) - j < fu → j ≤ (min (xz x i) (xp x)) → (∀ k, k ≠ 45 → ξ.1 k = τ.1 k) → (∀ k, (k < 60 * i ∨ 60 * i + 60 ≤ k) → ξ.1 45 k = τ.1 45 k) → (∀ k, k < xz x i → ξ.1 45 (60 * i + k) = wrf x h i j k) → B G (r0 5 115) mX5_write 70 [some (rf G 42), some (.int (nI h)), some (.int (nI i)), some (.int (nI (min (xz x i) (xp x)))), some (.int (nI j))] [] (ξ) (Pi K) := by
            intro fu
            induction fu with
            | zero => intro j ξ h1 h2; omega
            | succ fu ih =>
              intro j ξ h1 h2 e1 e2 e3
              refine A.il4 eX5_write_70 ?_
              refine A.il3 eX5_write_72 ?_
              refine A.icmp_geN eX5_write_73 (fun c6 => ?_) (fun c6 => ?_)
              · refine A.il3 eX5_write_115 ?_
                refine B.iret eX5_write_116 ?_
                have e : j = min (xz x i) (xp x) := by omega
                subst e
                refine hQ ξ (MI.setH g1.1 (fun k a b c d => e1 k c) (fun k hk => by rw [e1 43 (by omega)]) (fun k hk => by rw [e1 44 (by omega)]) e2 (by rw [e1 43 (by omega)]; exact gH.1) (Or.inr ⟨⟨g, eg0, eg1⟩, by rw [e1 44 (by omega), ← eg2]; exact eg, by rw [← eg2]; exact z60, fun k hk => e3 k (by omega)⟩)) (fun k hk => by rw [e1 k (by omega)]; exact g2 k hk)
              · refine A.al0 eX5_write_76 ?_
                refine A.getR eX5_write_77 fX5_16 ko42 kr42_2 ?_
                refine A.bipush (v := nI 60) eX5_write_80 (by decide) ?_
                refine A.il2 eX5_write_82 ?_
                refine A.imulN eX5_write_83 ?_
                refine A.il4 eX5_write_84 ?_
                refine A.iaddN eX5_write_86 ?_
                refine A.al0 eX5_write_87 ?_
                refine A.getR eX5_write_88 fX5_7 ko42 kr42_0 ?_
                refine A.il2 eX5_write_91 ?_
                refine A.ialdN eX5_write_92 ka43 ?_
                refine A.top (show ξ.1 43 i = ov ((xh x).1 i) by rw [e1 43 (by omega)]; exact gH.1) ?_
                refine A.al0 eX5_write_93 ?_
                refine A.getR eX5_write_94 fX5_40 ko42 kr42_13 ?_
                refine A.bipush (v := nI 8) eX5_write_97 (by decide) ?_
                refine A.il1 eX5_write_99 ?_
                refine A.imulN eX5_write_100 ?_
                refine A.il4 eX5_write_101 ?_
                refine A.iaddN eX5_write_103 ?_
                refine A.ialdN eX5_write_104 ka53 ?_
                refine A.top (show ξ.1 53 (8 * h + j) = nI (xr x h j) by rw [e1 53 (by omega)]; exact ((g1.2.2.2 h bh).1 j (by omega)).2.1) ?_
                refine A.cSi2 eX5_write_105 oX5_cut kX5_91 (sX5_cut ?_)
                refine A.iastN eX5_write_108 ka45 ?_
                refine A.inc4N eX5_write_109 ?_
                refine A.goto eX5_write_112 ?_
                refine ih (j + 1) _ (by omega) (by omega) (fun k hk => by rw [ur_n hk]; exact e1 k hk) (fun k hk => by rw [ur_s, upd_n (by omega)]; exact e2 k hk) (fun k hk => ?_)
                rw [ur_s]
                by_cases e : k = j
                · rw [e, upd_s]; exact (if_pos (show j < j + 1 by omega)).symm
                · rw [upd_n (by omega), e3 k hk]
                  unfold wrf
                  by_cases z : k < j
                  · rw [if_pos z, if_pos (by omega)]
                  · rw [if_neg z, if_neg (by omega)]
          exact lp (min (xz x i) (xp x) + 1) 0 τ (by omega) (by omega) (fun _ _ => rfl) (fun _ _ => rfl) (fun k hk => by rw [gH.2.2.2 k hk]; rfl)
      · refine A.al0 eX5_write_26 ?_
        refine A.iconst (v := nI 1) eX5_write_27 (by decide) ?_
        refine A.cVi1 eX5_write_28 oX5_finds kX5_83 ko42 (sX5_finds ?_)
        refine B.iret eX5_write_31 ?_
        simp only [if_pos (hov.mp yd1)] at hQ
        exact hQ _ hM.setL ((Fm.rf σ).ro (by omega))
    · refine A.bipush (v := -2) eX5_write_14 (by decide) ?_
      refine B.iret eX5_write_16 ?_
      simp only [if_neg (show ¬ (ck i 4 ∧ ck h 24) from fun z => yw1 z.1)] at hQ
      exact hQ σ hM (Fm.rf _)
set_option maxRecDepth 100000 in
set_option maxHeartbeats 4000000 in
theorem sX5_count0 {G : GW} {σ : St} {K : Int32 → St → Prop} {x : XS} (hM : MI x σ) (hQ : ∀ τ : St, MI (x) τ → Fm σ τ → K (nI (xp x)) τ) : Ci G (r0 5 115) mX5_count [rf G 42, .int (nI 0)] σ K := by
  refine Ci.of [some (rf G 42), some (.int (nI 0)), none, none] ?_
  have n8 := hM.np8
  refine A.iconst (v := nI 0) eX5_count_0 (by decide) ?_
  refine A.is2 eX5_count_1 ?_
  refine A.al0 eX5_count_2 ?_
  refine A.cVv0 eX5_count_3 oX5_find kX5_175 ko42 (sX5_find hM (fun τ g1 g2 => ?_))
  refine A.il1 eX5_count_6 ?_
  
  · refine A.tableIn eX5_count_7 (by decide) (by decide) rfl rfl ?_
    refine A.al0 eX5_count_56 ?_
    refine A.getR eX5_count_57 fX5_28 ko42 kr42_8 ?_
    refine A.il1 eX5_count_60 ?_
    refine A.ialdN eX5_count_61 ka49 ?_
    refine A.top g1.2.1.1 ?_
    refine B.iret eX5_count_62 ?_
    exact hQ τ g1.1 g2
set_option maxRecDepth 100000 in
set_option maxHeartbeats 4000000 in
theorem sX5_count1 {G : GW} {σ : St} {K : Int32 → St → Prop} {x : XS} (hM : MI x σ) (hQ : ∀ τ : St, MI (x) τ → Fm σ τ → K (nI (xq x)) τ) : Ci G (r0 5 115) mX5_count [rf G 42, .int (nI 1)] σ K := by
  refine Ci.of [some (rf G 42), some (.int (nI 1)), none, none] ?_
  have n8 := hM.np8
  refine A.iconst (v := nI 0) eX5_count_0 (by decide) ?_
  refine A.is2 eX5_count_1 ?_
  refine A.al0 eX5_count_2 ?_
  refine A.cVv0 eX5_count_3 oX5_find kX5_175 ko42 (sX5_find hM (fun τ g1 g2 => ?_))
  refine A.il1 eX5_count_6 ?_
  
  · refine A.tableIn eX5_count_7 (by decide) (by decide) rfl rfl ?_
    refine A.al0 eX5_count_56 ?_
    refine A.getR eX5_count_57 fX5_28 ko42 kr42_8 ?_
    refine A.il1 eX5_count_60 ?_
    refine A.ialdN eX5_count_61 ka49 ?_
    refine A.top g1.2.1.2.1 ?_
    refine B.iret eX5_count_62 ?_
    exact hQ τ g1.1 g2
set_option maxRecDepth 100000 in
set_option maxHeartbeats 4000000 in
theorem sX5_count2 {G : GW} {σ : St} {K : Int32 → St → Prop} {x : XS} (hM : MI x σ) (hQ : ∀ τ : St, MI (x) τ → Fm σ τ → K (nI (tL x 1)) τ) : Ci G (r0 5 115) mX5_count [rf G 42, .int (nI 2)] σ K := by
  refine Ci.of [some (rf G 42), some (.int (nI 2)), none, none] ?_
  have n8 := hM.np8
  refine A.iconst (v := nI 0) eX5_count_0 (by decide) ?_
  refine A.is2 eX5_count_1 ?_
  refine A.al0 eX5_count_2 ?_
  refine A.cVv0 eX5_count_3 oX5_find kX5_175 ko42 (sX5_find hM (fun τ g1 g2 => ?_))
  refine A.il1 eX5_count_6 ?_
  
  · refine A.tableIn eX5_count_7 (by decide) (by decide) rfl rfl ?_
    refine A.al0 eX5_count_63 ?_
    refine A.getR eX5_count_64 fX5_25 ko42 kr42_6 ?_
    refine A.il1 eX5_count_67 ?_
    refine A.iconst (v := nI 2) eX5_count_68 (by decide) ?_
    refine A.isubN eX5_count_69 ?_
    refine A.ialdN eX5_count_70 ka48 ?_
    refine A.top (g1.1.1 0 (by omega)).1 ?_
    refine B.iret eX5_count_71 ?_
    exact hQ τ g1.1 g2
set_option maxRecDepth 100000 in
set_option maxHeartbeats 4000000 in
theorem sX5_count3 {G : GW} {σ : St} {K : Int32 → St → Prop} {x : XS} (hM : MI x σ) (hQ : ∀ τ : St, MI (x) τ → Fm σ τ → K (nI (tL x 5)) τ) : Ci G (r0 5 115) mX5_count [rf G 42, .int (nI 3)] σ K := by
  refine Ci.of [some (rf G 42), some (.int (nI 3)), none, none] ?_
  have n8 := hM.np8
  refine A.iconst (v := nI 0) eX5_count_0 (by decide) ?_
  refine A.is2 eX5_count_1 ?_
  refine A.al0 eX5_count_2 ?_
  refine A.cVv0 eX5_count_3 oX5_find kX5_175 ko42 (sX5_find hM (fun τ g1 g2 => ?_))
  refine A.il1 eX5_count_6 ?_
  
  · refine A.tableIn eX5_count_7 (by decide) (by decide) rfl rfl ?_
    refine A.al0 eX5_count_63 ?_
    refine A.getR eX5_count_64 fX5_25 ko42 kr42_6 ?_
    refine A.il1 eX5_count_67 ?_
    refine A.iconst (v := nI 2) eX5_count_68 (by decide) ?_
    refine A.isubN eX5_count_69 ?_
    refine A.ialdN eX5_count_70 ka48 ?_
    refine A.top (g1.1.1 1 (by omega)).1 ?_
    refine B.iret eX5_count_71 ?_
    exact hQ τ g1.1 g2
set_option maxRecDepth 100000 in
set_option maxHeartbeats 4000000 in
theorem sX5_count4 {G : GW} {σ : St} {K : Int32 → St → Prop} {x : XS} (hM : MI x σ) (hQ : ∀ τ : St, MI (x) τ → Fm σ τ → K (nI (xg x).1) τ) : Ci G (r0 5 115) mX5_count [rf G 42, .int (nI 4)] σ K := by
  refine Ci.of [some (rf G 42), some (.int (nI 4)), none, none] ?_
  have n8 := hM.np8
  refine A.iconst (v := nI 0) eX5_count_0 (by decide) ?_
  refine A.is2 eX5_count_1 ?_
  refine A.al0 eX5_count_2 ?_
  refine A.cVv0 eX5_count_3 oX5_find kX5_175 ko42 (sX5_find hM (fun τ g1 g2 => ?_))
  refine A.il1 eX5_count_6 ?_
  
  · refine A.tableIn eX5_count_7 (by decide) (by decide) rfl rfl ?_
    refine A.al0 eX5_count_72 ?_
    refine A.getI eX5_count_73 fX5_142 ko42 ?_
    refine A.top g1.1.2.1.1 ?_
    refine B.iret eX5_count_76 ?_
    exact hQ τ g1.1 g2
set_option maxRecDepth 100000 in
set_option maxHeartbeats 4000000 in
theorem sX5_count5 {G : GW} {σ : St} {K : Int32 → St → Prop} {x : XS} (hM : MI x σ) (hQ : ∀ τ : St, MI (x) τ → Fm σ τ → K (nI (xs x).1) τ) : Ci G (r0 5 115) mX5_count [rf G 42, .int (nI 5)] σ K := by
  refine Ci.of [some (rf G 42), some (.int (nI 5)), none, none] ?_
  have n8 := hM.np8
  refine A.iconst (v := nI 0) eX5_count_0 (by decide) ?_
  refine A.is2 eX5_count_1 ?_
  refine A.al0 eX5_count_2 ?_
  refine A.cVv0 eX5_count_3 oX5_find kX5_175 ko42 (sX5_find hM (fun τ g1 g2 => ?_))
  refine A.il1 eX5_count_6 ?_
  
  · refine A.tableIn eX5_count_7 (by decide) (by decide) rfl rfl ?_
    refine A.al0 eX5_count_77 ?_
    refine A.getI eX5_count_78 fX5_232 ko42 ?_
    refine A.top g1.1.2.2.1.1 ?_
    refine B.iret eX5_count_81 ?_
    exact hQ τ g1.1 g2
set_option maxRecDepth 100000 in
set_option maxHeartbeats 4000000 in
theorem sX5_count6 {G : GW} {σ : St} {K : Int32 → St → Prop} {x : XS} (hM : MI x σ) (hQ : ∀ τ : St, MI (x) τ → Fm σ τ → K (nI (xf x).1) τ) : Ci G (r0 5 115) mX5_count [rf G 42, .int (nI 6)] σ K := by
  refine Ci.of [some (rf G 42), some (.int (nI 6)), none, none] ?_
  have n8 := hM.np8
  refine A.iconst (v := nI 0) eX5_count_0 (by decide) ?_
  refine A.is2 eX5_count_1 ?_
  refine A.al0 eX5_count_2 ?_
  refine A.cVv0 eX5_count_3 oX5_find kX5_175 ko42 (sX5_find hM (fun τ g1 g2 => ?_))
  refine A.il1 eX5_count_6 ?_
  
  · refine A.tableIn eX5_count_7 (by decide) (by decide) rfl rfl ?_
    refine A.al0 eX5_count_82 ?_
    refine A.getI eX5_count_83 fX5_235 ko42 ?_
    refine A.top g1.1.2.2.2.1.1 ?_
    refine B.iret eX5_count_86 ?_
    exact hQ τ g1.1 g2
set_option maxRecDepth 100000 in
set_option maxHeartbeats 4000000 in
theorem sX5_count7 {G : GW} {σ : St} {K : Int32 → St → Prop} {x : XS} (hM : MI x σ) (hQ : ∀ τ : St, MI (x) τ → Fm σ τ → K (isum (fun i => nI (xb x i)) (xp x)) τ) : Ci G (r0 5 115) mX5_count [rf G 42, .int (nI 7)] σ K := by
  refine Ci.of [some (rf G 42), some (.int (nI 7)), none, none] ?_
  have n8 := hM.np8
  refine A.iconst (v := nI 0) eX5_count_0 (by decide) ?_
  refine A.is2 eX5_count_1 ?_
  refine A.al0 eX5_count_2 ?_
  refine A.cVv0 eX5_count_3 oX5_find kX5_175 ko42 (sX5_find hM (fun τ g1 g2 => ?_))
  refine A.il1 eX5_count_6 ?_
  
  · refine A.tableIn eX5_count_7 (by decide) (by decide) rfl rfl ?_
    refine A.iconst (v := nI 0) eX5_count_87 (by decide) ?_
    refine A.is3 eX5_count_88 ?_
    have lp : ∀ (fu i : Nat), xp x - i < fu → i ≤ xp x → B G (r0 5 115) mX5_count 89 [some (rf G 42), some (.int (nI 7)), some (.int (isum (fun i => nI (xb x i)) i)), some (.int (nI i))] [] (τ) (Pi K) := by
      intro fu
      induction fu with
      | zero => intro i  h1 h2; omega
      | succ fu ih =>
        intro i  h1 h2 
        refine A.il3 eX5_count_89 ?_
        refine A.al0 eX5_count_90 ?_
        refine A.getR eX5_count_91 fX5_28 ko42 kr42_8 ?_
        refine A.iconst (v := nI 0) eX5_count_94 (by decide) ?_
        refine A.ialdN eX5_count_95 ka49 ?_
        refine A.top g1.2.1.1 ?_
        refine A.icmp_geN eX5_count_96 (fun c1 => ?_) (fun c1 => ?_)
        · refine A.il2 eX5_count_116 ?_
          refine B.iret eX5_count_117 ?_
          have e : i = xp x := by omega
          subst e
          exact hQ τ g1.1 g2
        · refine A.il2 eX5_count_99 ?_
          refine A.al0 eX5_count_100 ?_
          refine A.getR eX5_count_101 fX5_31 ko42 kr42_9 ?_
          refine A.iconst (v := nI 2) eX5_count_104 (by decide) ?_
          refine A.il3 eX5_count_105 ?_
          refine A.imulN eX5_count_106 ?_
          refine A.ialdN eX5_count_107 ka50 ?_
          refine A.top (g1.2.1.2.2.1 i (by omega)).1 ?_
          refine A.iadd eX5_count_108 ?_
          refine A.is2 eX5_count_109 ?_
          refine A.inc3N eX5_count_110 ?_
          refine A.goto eX5_count_113 ?_
          exact A.eq (by rfl) rfl rfl (ih (i + 1) (by omega) (by omega))
    exact A.eq (by rfl) rfl rfl (lp (xp x + 1) 0 (by omega) (by omega))
set_option maxRecDepth 100000 in
set_option maxHeartbeats 4000000 in
theorem sX5_count8 {G : GW} {σ : St} {K : Int32 → St → Prop} {x : XS} (hM : MI x σ) (hQ : ∀ τ : St, MI (x) τ → Fm σ τ → K (nI (xl x)) τ) : Ci G (r0 5 115) mX5_count [rf G 42, .int (nI 8)] σ K := by
  refine Ci.of [some (rf G 42), some (.int (nI 8)), none, none] ?_
  have n8 := hM.np8
  refine A.iconst (v := nI 0) eX5_count_0 (by decide) ?_
  refine A.is2 eX5_count_1 ?_
  refine A.al0 eX5_count_2 ?_
  refine A.cVv0 eX5_count_3 oX5_find kX5_175 ko42 (sX5_find hM (fun τ g1 g2 => ?_))
  refine A.il1 eX5_count_6 ?_
  
  · refine A.tableIn eX5_count_7 (by decide) (by decide) rfl rfl ?_
    refine A.al0 eX5_count_118 ?_
    refine A.getI eX5_count_119 fX5_71 ko42 ?_
    refine A.top g1.1.2.2.2.2.2 ?_
    refine B.iret eX5_count_122 ?_
    exact hQ τ g1.1 g2
set_option maxRecDepth 100000 in
set_option maxHeartbeats 4000000 in
theorem bX5_count {G : GW} {σ : St} {K : Int32 → St → Prop} {x : XS} {c : Int32} (hM : MI x σ) (hb : ¬ ck c 9) (hQ : ∀ τ : St, MI (x) τ → Fm σ τ → K (-2) τ) : Ci G (r0 5 115) mX5_count [rf G 42, .int c] σ K := by
  refine Ci.of [some (rf G 42), some (.int c), none, none] ?_
  refine A.iconst (v := nI 0) eX5_count_0 (by decide) ?_
  refine A.is2 eX5_count_1 ?_
  refine A.al0 eX5_count_2 ?_
  refine A.cVv0 eX5_count_3 oX5_find kX5_175 ko42 (sX5_find hM (fun τ g1 g2 => ?_))
  refine A.il1 eX5_count_6 ?_
  
  · refine A.tableOut eX5_count_7 (by omega) rfl ?_
    refine A.bipush (v := -2) eX5_count_123 (by decide) ?_
    refine B.iret eX5_count_125 ?_
    exact hQ τ g1.1 g2
theorem aX5_count {G : GW} {σ : St} {K : Int32 → St → Prop} {x : XS} {c : Int32} (hM : MI x σ) (hQ : ∀ τ : St, MI (x) τ → Fm σ τ → K (Rcount x c) τ) : Ci G (r0 5 115) mX5_count [rf G 42, .int c] σ K := by
  by_cases hb : ck c 9
  · obtain ⟨n, hn, rfl⟩ := i_nat hb.1 hb.2
    match n, hn with
    | 0, _ => exact sX5_count0 hM hQ
    | 1, _ => exact sX5_count1 hM hQ
    | 2, _ => exact sX5_count2 hM hQ
    | 3, _ => exact sX5_count3 hM hQ
    | 4, _ => exact sX5_count4 hM hQ
    | 5, _ => exact sX5_count5 hM hQ
    | 6, _ => exact sX5_count6 hM hQ
    | 7, _ => exact sX5_count7 hM hQ
    | 8, _ => exact sX5_count8 hM hQ
  · refine bX5_count hM hb (fun τ h1 h2 => vl_of (hQ τ h1 h2) ?_)
    unfold Rcount
    have w : ∀ n : Nat, n < 9 → ¬ c = nI n := by
      intro n hn e
      apply hb
      rw [e]
      unfold ck
      rw [nI_ti (by omega)]
      omega
    rw [if_neg (w 0 (by omega)), if_neg (w 1 (by omega)), if_neg (w 2 (by omega)), if_neg (w 3 (by omega)), if_neg (w 4 (by omega)), if_neg (w 5 (by omega)), if_neg (w 6 (by omega)), if_neg (w 7 (by omega)), if_neg (w 8 (by omega))]
