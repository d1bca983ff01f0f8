set_option maxRecDepth 100000 in
set_option maxHeartbeats 4000000 in
theorem sX5_sortsA {G : GW} {σ : St} {K : Int32 → St → Prop} {h m np : Nat} {a : Nat → Int32} {b : Nat → Nat} (hnp : σ.1 49 0 = nI np) (hn8 : np ≤ 8) (bh : h < 24) (hA : HM σ h np a b) (hm : m < 2 ^ np) (hQ : ∀ τ : St, (∀ k, k ≠ 56 → τ.1 k = σ.1 k) → τ.2 = σ.2 → (∀ w, w < (cnt (inb m) np) → τ.1 56 w = nI (sea m b w (fI false) np) ∧ sea m b w (fI false) np < np) → K (nI (cnt (inb m) np)) τ) : Ci G (r0 1 21) mX5_sorts [rf G 42, .int (nI h), .int (nI m), rf G 56, .int (zI 1)] σ K := by
  refine Ci.of [some (rf G 42), some (.int (nI h)), some (.int (nI m)), some (rf G 56), some (.int (zI 1)), none, none, none, none, none, none] ?_
  have h2p : 2 ^ np ≤ 2 ^ 8 := Nat.pow_le_pow_right (by omega) hn8
  have hcN := cnt_le (inb m) np
  refine A.iconst (v := nI 0) eX5_sorts_0 (by decide) ?_
  refine A.is5 eX5_sorts_1 ?_
  refine A.iconst (v := nI 0) eX5_sorts_3 (by decide) ?_
  refine A.is6 eX5_sorts_4 ?_
  refine A.il2 eX5_sorts_6 ?_
  refine A.if_eqN eX5_sorts_7 (fun ym0 => ?_) (fun ym0 => ?_)
  · refine A.iconst (v := nI 0) eX5_sorts_14 (by decide) ?_
    refine A.is7 eX5_sorts_15 ?_
    have lo : ∀ (fu n : Nat) (ξ : St), np - n < fu → n ≤ np → (∀ k, k ≠ 56 → ξ.1 k = σ.1 k) → ξ.2 = σ.2 → (∀ w, w < n → ξ.1 56 w = nI (sea m b w (fI false) np) ∧ sea m b w (fI false) np < np) → cnt (sel m false b np n) np = n → n < cnt (inb m) np → B G (r0 1 21) mX5_sorts 17 [some (rf G 42), some (.int (nI h)), some (.int (nI m)), some (rf G 56), some (.int (zI 1)), some (.int (nI n)), some (.int (nI (bits (sel m false b np n) np))), some (.int (nI 1)), none, none, none] [] (ξ) (Pi K) := by
      intro fu
      induction fu with
      | zero => intro n ξ h1 h2; omega
      | succ fu iho =>
        intro n ξ h1 h2 e1 e2 e5 e3 e4
        have hbn := bits_lt (sel m false b np n) np
        refine A.il7 eX5_sorts_17 ?_
        refine A.if_eqN eX5_sorts_19 (fun c2 => ?_) (fun c2 => ?_)
        · exact absurd c2 (by decide)
        · refine A.iconst (v := -1) eX5_sorts_22 (by decide) ?_
          refine A.is8 eX5_sorts_23 ?_
          refine A.iconst (v := nI 0) eX5_sorts_25 (by decide) ?_
          refine A.is9 eX5_sorts_26 ?_
          have lp : ∀ (fu i : Nat), np - i < fu → i ≤ np → B G (r0 1 21) mX5_sorts 28 [some (rf G 42), some (.int (nI h)), some (.int (nI m)), some (rf G 56), some (.int (zI 1)), some (.int (nI n)), some (.int (nI (bits (sel m false b np n) np))), some (.int (nI 1)), some (.int (ov (bmn (fun p => inb m p && !sel m false b np n p) (ky false b) i))), some (.int (nI i)), none] [] (ξ) (Pi K) := by
            intro fu
            induction fu with
            | zero => intro i  h1 h2; omega
            | succ fu ih =>
              intro i  h1 h2 
              refine A.il9 eX5_sorts_28 ?_
              refine A.al0 eX5_sorts_30 ?_
              refine A.getR eX5_sorts_31 fX5_28 ko42 kr42_8 ?_
              refine A.iconst (v := nI 0) eX5_sorts_34 (by decide) ?_
              refine A.ialdN eX5_sorts_35 ka49 ?_
              refine A.top (show ξ.1 49 0 = nI np by rw [e1 49 (by omega)]; exact hnp) ?_
              refine A.icmp_geN eX5_sorts_36 (fun c3 => ?_) (fun c3 => ?_)
              · have ei : np = i := by omega
                subst ei
                obtain ⟨j, ej⟩ := sel_rem (f := false) (b := b) e4 e3
                have hj := sel_min hn8 e3 ej
                have hj8 := hj.1
                have hbs := bits_lt (sel m false b np (n + 1)) np
                refine A.al3 eX5_sorts_122 ?_
                refine A.il5 eX5_sorts_123 ?_
                refine A.il8 eX5_sorts_125 ?_
                refine A.top (show ov (bmn (fun p => inb m p && !sel m false b np n p) (ky false b) np) = nI j by rw [ej]; rfl) ?_
                refine A.iastN eX5_sorts_127 ka56 ?_
                refine A.il6 eX5_sorts_128 ?_
                refine A.iconst (v := nI 1) eX5_sorts_130 (by decide) ?_
                refine A.il8 eX5_sorts_131 ?_
                refine A.top (show ov (bmn (fun p => inb m p && !sel m false b np n p) (ky false b) np) = nI j by rw [ej]; rfl) ?_
                refine A.ishl1 eX5_sorts_133 ?_
                refine A.iorN eX5_sorts_134 ?_
                refine A.top (congrArg nI (sel_bits hj)) ?_
                refine A.is6 eX5_sorts_135 ?_
                refine A.inc5N eX5_sorts_137 ?_
                refine A.il6 eX5_sorts_140 ?_
                refine A.il2 eX5_sorts_142 ?_
                refine A.icmp_eqN eX5_sorts_143 (fun yd5 => ?_) (fun yd5 => ?_)
                · refine A.iconst (v := nI 0) eX5_sorts_150 (by decide) ?_
                  refine A.is7 eX5_sorts_151 ?_
                  refine A.goto eX5_sorts_153 ?_
                  have hrow : ∀ w, w < n + 1 → (ur ξ 56 (upd (ξ.1 56) n (nI j))).1 56 w = nI (sea m b w (fI false) np) ∧ sea m b w (fI false) np < np := by
                    intro w hw
                    have hsea := sel_sea hn8 (fun q hq => (hA q hq).2.2) hj
                    rw [ur_s]
                    by_cases e : w = n
                    · rw [e, upd_s, hsea]; exact ⟨rfl, hj.1⟩
                    · rw [upd_n e]; exact e5 w (by omega)
                  have hcs := sel_cnt e3 hj
                  have hfu := (sel_full hm hcs).mp yd5
                  have eN : cnt (inb m) np = n + 1 := by omega
                  refine A.il7 eX5_sorts_17 ?_
                  refine A.if_eqN eX5_sorts_19 (fun _ => ?_) (fun z => absurd rfl z)
                  refine A.il5 eX5_sorts_156 ?_
                  refine B.iret eX5_sorts_158 ?_
                  rw [eN] at hQ
                  exact hQ _ (fun k hk => by rw [ur_n hk]; exact e1 k hk) e2 hrow
                · refine A.iconst (v := nI 1) eX5_sorts_146 (by decide) ?_
                  refine A.goto eX5_sorts_147 ?_
                  refine A.is7 eX5_sorts_151 ?_
                  refine A.goto eX5_sorts_153 ?_
                  have hrow : ∀ w, w < n + 1 → (ur ξ 56 (upd (ξ.1 56) n (nI j))).1 56 w = nI (sea m b w (fI false) np) ∧ sea m b w (fI false) np < np := by
                    intro w hw
                    have hsea := sel_sea hn8 (fun q hq => (hA q hq).2.2) hj
                    rw [ur_s]
                    by_cases e : w = n
                    · rw [e, upd_s, hsea]; exact ⟨rfl, hj.1⟩
                    · rw [upd_n e]; exact e5 w (by omega)
                  have hcs := sel_cnt e3 hj
                  have hfu : n + 1 < cnt (inb m) np := Nat.lt_of_not_le fun z => yd5 ((sel_full hm hcs).mpr z)
                  exact A.eqw (by simp [wkL]) rfl rfl (iho (n + 1) _ (by omega) (by omega) (fun k hk => by rw [ur_n hk]; exact e1 k hk) e2 hrow hcs hfu)
              · refine A.il2 eX5_sorts_39 ?_
                refine A.il9 eX5_sorts_40 ?_
                refine A.cSi2 eX5_sorts_42 oX5_isIn kX5_155 (sX5_isIn (m := m) (k := i) (by omega) (by omega) ?_)
                refine A.if_eqB eX5_sorts_45 (fun yd1 => ?_) (fun yd1 => ?_)
                · refine A.iconst (v := nI 0) eX5_sorts_62 (by decide) ?_
                  refine A.is10 eX5_sorts_63 ?_
                  refine A.il10 eX5_sorts_65 ?_
                  refine A.if_eqN eX5_sorts_67 (fun c6 => ?_) (fun c6 => ?_)
                  · refine A.il8 eX5_sorts_112 ?_
                    refine A.is8 eX5_sorts_114 ?_
                    refine A.inc9N eX5_sorts_116 ?_
                    refine A.goto eX5_sorts_119 ?_
                    have hb9 : bmn (fun p => inb m p && !sel m false b np n p) (ky false b) (i + 1) = if (fun p => inb m p && !sel m false b np n p) i && (match bmn (fun p => inb m p && !sel m false b np n p) (ky false b) i with
                      | none => true
                      | some j => decide (ky false b i < ky false b j)) then some i else bmn (fun p => inb m p && !sel m false b np n p) (ky false b) i := rfl
                    have yk : ¬ ((fun p => inb m p && !sel m false b np n p) i && (match bmn (fun p => inb m p && !sel m false b np n p) (ky false b) i with
                      | none => true
                      | some j => decide (ky false b i < ky false b j))) = true := by
                      simp [yd1]
                    exact A.eqw (by rw [hb9, if_neg yk]; simp [wkL]) rfl rfl (ih (i + 1) (by omega) (by omega))
                  · exact absurd rfl c6
                · refine A.il6 eX5_sorts_48 ?_
                  refine A.il9 eX5_sorts_50 ?_
                  refine A.cSi2 eX5_sorts_52 oX5_isIn kX5_155 (sX5_isIn (m := bits (sel m false b np n) np) (k := i) (by omega) (by omega) ?_)
                  refine A.top (show _ = bI (sel m false b np n i = true) by rw [inb_bits, decide_eq_true (show i < np by omega), Bool.true_and]) ?_
                  refine A.if_neB eX5_sorts_55 (fun yd2 => ?_) (fun yd2 => ?_)
                  · refine A.iconst (v := nI 0) eX5_sorts_62 (by decide) ?_
                    refine A.is10 eX5_sorts_63 ?_
                    refine A.il10 eX5_sorts_65 ?_
                    refine A.if_eqN eX5_sorts_67 (fun c8 => ?_) (fun c8 => ?_)
                    · refine A.il8 eX5_sorts_112 ?_
                      refine A.is8 eX5_sorts_114 ?_
                      refine A.inc9N eX5_sorts_116 ?_
                      refine A.goto eX5_sorts_119 ?_
                      have hb9 : bmn (fun p => inb m p && !sel m false b np n p) (ky false b) (i + 1) = if (fun p => inb m p && !sel m false b np n p) i && (match bmn (fun p => inb m p && !sel m false b np n p) (ky false b) i with
                        | none => true
                        | some j => decide (ky false b i < ky false b j)) then some i else bmn (fun p => inb m p && !sel m false b np n p) (ky false b) i := rfl
                      have yk : ¬ ((fun p => inb m p && !sel m false b np n p) i && (match bmn (fun p => inb m p && !sel m false b np n p) (ky false b) i with
                        | none => true
                        | some j => decide (ky false b i < ky false b j))) = true := by
                        simp [yd2]
                      exact A.eqw (by rw [hb9, if_neg yk]; simp [wkL]) rfl rfl (ih (i + 1) (by omega) (by omega))
                    · exact absurd rfl c8
                  · refine A.iconst (v := nI 1) eX5_sorts_58 (by decide) ?_
                    refine A.goto eX5_sorts_59 ?_
                    refine A.is10 eX5_sorts_63 ?_
                    refine A.il10 eX5_sorts_65 ?_
                    refine A.if_eqN eX5_sorts_67 (fun c9 => ?_) (fun c9 => ?_)
                    · exact absurd c9 (by decide)
                    · refine A.il8 eX5_sorts_70 ?_
                      refine A.iconst (v := -1) eX5_sorts_72 (by decide) ?_
                      refine A.icmp_eq eX5_sorts_73 (fun yd3 => ?_) (fun yd3 => ?_)
                      · refine A.il9 eX5_sorts_107 ?_
                        refine A.goto eX5_sorts_109 ?_
                        refine A.is8 eX5_sorts_114 ?_
                        refine A.inc9N eX5_sorts_116 ?_
                        refine A.goto eX5_sorts_119 ?_
                        have en : bmn (fun p => inb m p && !sel m false b np n p) (ky false b) i = none := by
                          cases e : bmn (fun p => inb m p && !sel m false b np n p) (ky false b) i with
                          | none => rfl
                          | some j => rw [e] at yd3; exact absurd yd3 (nI_nm1 (by have := (bmn_ok.2 j e).1; omega))
                        have hb9 : bmn (fun p => inb m p && !sel m false b np n p) (ky false b) (i + 1) = if (fun p => inb m p && !sel m false b np n p) i && (match bmn (fun p => inb m p && !sel m false b np n p) (ky false b) i with
                          | none => true
                          | some j => decide (ky false b i < ky false b j)) then some i else bmn (fun p => inb m p && !sel m false b np n p) (ky false b) i := rfl
                        have yk : ((fun p => inb m p && !sel m false b np n p) i && (match bmn (fun p => inb m p && !sel m false b np n p) (ky false b) i with
                          | none => true
                          | some j => decide (ky false b i < ky false b j))) = true := by
                          rw [en]
                          simp [yd1, yd2]
                        exact A.eqw (by rw [hb9, if_pos yk]; simp [wkL, ov]) rfl rfl (ih (i + 1) (by omega) (by omega))
                      · obtain ⟨j, ej⟩ : ∃ j, bmn (fun p => inb m p && !sel m false b np n p) (ky false b) i = some j := by
                          cases e : bmn (fun p => inb m p && !sel m false b np n p) (ky false b) i with
                          | none => rw [e] at yd3; exact absurd rfl yd3
                          | some j => exact ⟨j, rfl⟩
                        have hji := (bmn_ok.2 j ej).1
                        have hbi := (hA i (by omega)).2.2
                        have hbj := (hA j (by omega)).2.2
                        refine A.il4 eX5_sorts_76 ?_
                        refine A.al0 eX5_sorts_78 ?_
                        refine A.getR eX5_sorts_79 fX5_40 ko42 kr42_13 ?_
                        refine A.bipush (v := nI 8) eX5_sorts_82 (by decide) ?_
                        refine A.il1 eX5_sorts_84 ?_
                        refine A.imulN eX5_sorts_85 ?_
                        refine A.il9 eX5_sorts_86 ?_
                        refine A.iaddN eX5_sorts_88 ?_
                        refine A.ialdN eX5_sorts_89 ka53 ?_
                        refine A.top (show ξ.1 53 (8 * h + i) = nI (b i) by rw [e1 53 (by omega)]; exact (hA i (by omega)).2.1) ?_
                        refine A.al0 eX5_sorts_90 ?_
                        refine A.getR eX5_sorts_91 fX5_40 ko42 kr42_13 ?_
                        refine A.bipush (v := nI 8) eX5_sorts_94 (by decide) ?_
                        refine A.il1 eX5_sorts_96 ?_
                        refine A.imulN eX5_sorts_97 ?_
                        refine A.il8 eX5_sorts_98 ?_
                        refine A.top (show ov (bmn (fun p => inb m p && !sel m false b np n p) (ky false b) i) = nI j by rw [ej]; rfl) ?_
                        refine A.iaddN eX5_sorts_100 ?_
                        refine A.ialdN eX5_sorts_101 ka53 ?_
                        refine A.top (show ξ.1 53 (8 * h + j) = nI (b j) by rw [e1 53 (by omega)]; exact (hA j (by omega)).2.1) ?_
                        refine A.topZ ?_
                        refine A.topZ2 ?_
                        refine A.isubZ eX5_sorts_102 ?_
                        refine A.imulZ eX5_sorts_103 ?_
                        refine A.if_geZ eX5_sorts_104 (fun yd4 => ?_) (fun yd4 => ?_)
                        · refine A.il8 eX5_sorts_112 ?_
                          refine A.is8 eX5_sorts_114 ?_
                          refine A.inc9N eX5_sorts_116 ?_
                          refine A.goto eX5_sorts_119 ?_
                          have hb9 : bmn (fun p => inb m p && !sel m false b np n p) (ky false b) (i + 1) = if (fun p => inb m p && !sel m false b np n p) i && (match bmn (fun p => inb m p && !sel m false b np n p) (ky false b) i with
                            | none => true
                            | some j => decide (ky false b i < ky false b j)) then some i else bmn (fun p => inb m p && !sel m false b np n p) (ky false b) i := rfl
                          have yk : ¬ ((fun p => inb m p && !sel m false b np n p) i && (match bmn (fun p => inb m p && !sel m false b np n p) (ky false b) i with
                            | none => true
                            | some j => decide (ky false b i < ky false b j))) = true := by
                            rw [ej]
                            simp only [Bool.and_eq_true, decide_eq_true_eq]
                            intro z
                            have z2 := z.2
                            unfold ky at z2
                            simp only [Bool.false_eq_true, if_false, if_true] at z2
                            omega
                          exact A.eqw (by rw [hb9, if_neg yk]; simp [wkL]) rfl rfl (ih (i + 1) (by omega) (by omega))
                        · refine A.il9 eX5_sorts_107 ?_
                          refine A.goto eX5_sorts_109 ?_
                          refine A.is8 eX5_sorts_114 ?_
                          refine A.inc9N eX5_sorts_116 ?_
                          refine A.goto eX5_sorts_119 ?_
                          have hb9 : bmn (fun p => inb m p && !sel m false b np n p) (ky false b) (i + 1) = if (fun p => inb m p && !sel m false b np n p) i && (match bmn (fun p => inb m p && !sel m false b np n p) (ky false b) i with
                            | none => true
                            | some j => decide (ky false b i < ky false b j)) then some i else bmn (fun p => inb m p && !sel m false b np n p) (ky false b) i := rfl
                          have yk : ((fun p => inb m p && !sel m false b np n p) i && (match bmn (fun p => inb m p && !sel m false b np n p) (ky false b) i with
                            | none => true
                            | some j => decide (ky false b i < ky false b j))) = true := by
                            rw [ej]
                            simp only [Bool.and_eq_true, decide_eq_true_eq]
                            refine ⟨by simp [yd1, yd2], ?_⟩
                            unfold ky
                            simp only [Bool.false_eq_true, if_false, if_true]
                            omega
                          exact A.eqw (by rw [hb9, if_pos yk]; simp [wkL, ov]) rfl rfl (ih (i + 1) (by omega) (by omega))
          exact A.eqw (by simp [wkL]; rfl) rfl rfl (lp (np + 1) 0 (by omega) (by omega))
    have ecz : cnt (inb m) np = 0 := cnt_zero.mpr (fun i _ => by rw [ym0]; unfold inb; simp)
    refine A.il7 eX5_sorts_17 ?_
    refine A.if_eqN eX5_sorts_19 (fun _ => ?_) (fun z => absurd rfl z)
    refine A.il5 eX5_sorts_156 ?_
    refine B.iret eX5_sorts_158 ?_
    rw [ecz] at hQ
    exact hQ σ (fun _ _ => rfl) rfl (fun w hw => by omega)
  · refine A.iconst (v := nI 1) eX5_sorts_10 (by decide) ?_
    refine A.goto eX5_sorts_11 ?_
    refine A.is7 eX5_sorts_15 ?_
    have lo : ∀ (fu n : Nat) (ξ : St), np - n < fu → n ≤ np → (∀ k, k ≠ 56 → ξ.1 k = σ.1 k) → ξ.2 = σ.2 → (∀ w, w < n → ξ.1 56 w = nI (sea m b w (fI false) np) ∧ sea m b w (fI false) np < np) → cnt (sel m false b np n) np = n → n < cnt (inb m) np → B G (r0 1 21) mX5_sorts 17 [some (rf G 42), some (.int (nI h)), some (.int (nI m)), some (rf G 56), some (.int (zI 1)), some (.int (nI n)), some (.int (nI (bits (sel m false b np n) np))), some (.int (nI 1)), none, none, none] [] (ξ) (Pi K) := by
      intro fu
      induction fu with
      | zero => intro n ξ h1 h2; omega
      | succ fu iho =>
        intro n ξ h1 h2 e1 e2 e5 e3 e4
        have hbn := bits_lt (sel m false b np n) np
        refine A.il7 eX5_sorts_17 ?_
        refine A.if_eqN eX5_sorts_19 (fun c12 => ?_) (fun c12 => ?_)
        · exact absurd c12 (by decide)
        · refine A.iconst (v := -1) eX5_sorts_22 (by decide) ?_
          refine A.is8 eX5_sorts_23 ?_
          refine A.iconst (v := nI 0) eX5_sorts_25 (by decide) ?_
          refine A.is9 eX5_sorts_26 ?_
          have lp : ∀ (fu i : Nat), np - i < fu → i ≤ np → B G (r0 1 21) mX5_sorts 28 [some (rf G 42), some (.int (nI h)), some (.int (nI m)), some (rf G 56), some (.int (zI 1)), some (.int (nI n)), some (.int (nI (bits (sel m false b np n) np))), some (.int (nI 1)), some (.int (ov (bmn (fun p => inb m p && !sel m false b np n p) (ky false b) i))), some (.int (nI i)), none] [] (ξ) (Pi K) := by
            intro fu
            induction fu with
            | zero => intro i  h1 h2; omega
            | succ fu ih =>
              intro i  h1 h2 
              refine A.il9 eX5_sorts_28 ?_
              refine A.al0 eX5_sorts_30 ?_
              refine A.getR eX5_sorts_31 fX5_28 ko42 kr42_8 ?_
              refine A.iconst (v := nI 0) eX5_sorts_34 (by decide) ?_
              refine A.ialdN eX5_sorts_35 ka49 ?_
              refine A.top (show ξ.1 49 0 = nI np by rw [e1 49 (by omega)]; exact hnp) ?_
              refine A.icmp_geN eX5_sorts_36 (fun c13 => ?_) (fun c13 => ?_)
              · have ei : np = i := by omega
                subst ei
                obtain ⟨j, ej⟩ := sel_rem (f := false) (b := b) e4 e3
                have hj := sel_min hn8 e3 ej
                have hj8 := hj.1
                have hbs := bits_lt (sel m false b np (n + 1)) np
                refine A.al3 eX5_sorts_122 ?_
                refine A.il5 eX5_sorts_123 ?_
                refine A.il8 eX5_sorts_125 ?_
                refine A.top (show ov (bmn (fun p => inb m p && !sel m false b np n p) (ky false b) np) = nI j by rw [ej]; rfl) ?_
                refine A.iastN eX5_sorts_127 ka56 ?_
                refine A.il6 eX5_sorts_128 ?_
                refine A.iconst (v := nI 1) eX5_sorts_130 (by decide) ?_
                refine A.il8 eX5_sorts_131 ?_
                refine A.top (show ov (bmn (fun p => inb m p && !sel m false b np n p) (ky false b) np) = nI j by rw [ej]; rfl) ?_
                refine A.ishl1 eX5_sorts_133 ?_
                refine A.iorN eX5_sorts_134 ?_
                refine A.top (congrArg nI (sel_bits hj)) ?_
                refine A.is6 eX5_sorts_135 ?_
                refine A.inc5N eX5_sorts_137 ?_
                refine A.il6 eX5_sorts_140 ?_
                refine A.il2 eX5_sorts_142 ?_
                refine A.icmp_eqN eX5_sorts_143 (fun yd5 => ?_) (fun yd5 => ?_)
                · refine A.iconst (v := nI 0) eX5_sorts_150 (by decide) ?_
                  refine A.is7 eX5_sorts_151 ?_
                  refine A.goto eX5_sorts_153 ?_
                  have hrow : ∀ w, w < n + 1 → (ur ξ 56 (upd (ξ.1 56) n (nI j))).1 56 w = nI (sea m b w (fI false) np) ∧ sea m b w (fI false) np < np := by
                    intro w hw
                    have hsea := sel_sea hn8 (fun q hq => (hA q hq).2.2) hj
                    rw [ur_s]
                    by_cases e : w = n
                    · rw [e, upd_s, hsea]; exact ⟨rfl, hj.1⟩
                    · rw [upd_n e]; exact e5 w (by omega)
                  have hcs := sel_cnt e3 hj
                  have hfu := (sel_full hm hcs).mp yd5
                  have eN : cnt (inb m) np = n + 1 := by omega
                  refine A.il7 eX5_sorts_17 ?_
                  refine A.if_eqN eX5_sorts_19 (fun _ => ?_) (fun z => absurd rfl z)
                  refine A.il5 eX5_sorts_156 ?_
                  refine B.iret eX5_sorts_158 ?_
                  rw [eN] at hQ
                  exact hQ _ (fun k hk => by rw [ur_n hk]; exact e1 k hk) e2 hrow
                · refine A.iconst (v := nI 1) eX5_sorts_146 (by decide) ?_
                  refine A.goto eX5_sorts_147 ?_
                  refine A.is7 eX5_sorts_151 ?_
                  refine A.goto eX5_sorts_153 ?_
                  have hrow : ∀ w, w < n + 1 → (ur ξ 56 (upd (ξ.1 56) n (nI j))).1 56 w = nI (sea m b w (fI false) np) ∧ sea m b w (fI false) np < np := by
                    intro w hw
                    have hsea := sel_sea hn8 (fun q hq => (hA q hq).2.2) hj
                    rw [ur_s]
                    by_cases e : w = n
                    · rw [e, upd_s, hsea]; exact ⟨rfl, hj.1⟩
                    · rw [upd_n e]; exact e5 w (by omega)
                  have hcs := sel_cnt e3 hj
                  have hfu : n + 1 < cnt (inb m) np := Nat.lt_of_not_le fun z => yd5 ((sel_full hm hcs).mpr z)
                  exact A.eqw (by simp [wkL]) rfl rfl (iho (n + 1) _ (by omega) (by omega) (fun k hk => by rw [ur_n hk]; exact e1 k hk) e2 hrow hcs hfu)
              · refine A.il2 eX5_sorts_39 ?_
                refine A.il9 eX5_sorts_40 ?_
                refine A.cSi2 eX5_sorts_42 oX5_isIn kX5_155 (sX5_isIn (m := m) (k := i) (by omega) (by omega) ?_)
                refine A.if_eqB eX5_sorts_45 (fun yd1 => ?_) (fun yd1 => ?_)
                · refine A.iconst (v := nI 0) eX5_sorts_62 (by decide) ?_
                  refine A.is10 eX5_sorts_63 ?_
                  refine A.il10 eX5_sorts_65 ?_
                  refine A.if_eqN eX5_sorts_67 (fun c16 => ?_) (fun c16 => ?_)
                  · refine A.il8 eX5_sorts_112 ?_
                    refine A.is8 eX5_sorts_114 ?_
                    refine A.inc9N eX5_sorts_116 ?_
                    refine A.goto eX5_sorts_119 ?_
                    have hb9 : bmn (fun p => inb m p && !sel m false b np n p) (ky false b) (i + 1) = if (fun p => inb m p && !sel m false b np n p) i && (match bmn (fun p => inb m p && !sel m false b np n p) (ky false b) i with
                      | none => true
                      | some j => decide (ky false b i < ky false b j)) then some i else bmn (fun p => inb m p && !sel m false b np n p) (ky false b) i := rfl
                    have yk : ¬ ((fun p => inb m p && !sel m false b np n p) i && (match bmn (fun p => inb m p && !sel m false b np n p) (ky false b) i with
                      | none => true
                      | some j => decide (ky false b i < ky false b j))) = true := by
                      simp [yd1]
                    exact A.eqw (by rw [hb9, if_neg yk]; simp [wkL]) rfl rfl (ih (i + 1) (by omega) (by omega))
                  · exact absurd rfl c16
                · refine A.il6 eX5_sorts_48 ?_
                  refine A.il9 eX5_sorts_50 ?_
                  refine A.cSi2 eX5_sorts_52 oX5_isIn kX5_155 (sX5_isIn (m := bits (sel m false b np n) np) (k := i) (by omega) (by omega) ?_)
                  refine A.top (show _ = bI (sel m false b np n i = true) by rw [inb_bits, decide_eq_true (show i < np by omega), Bool.true_and]) ?_
                  refine A.if_neB eX5_sorts_55 (fun yd2 => ?_) (fun yd2 => ?_)
                  · refine A.iconst (v := nI 0) eX5_sorts_62 (by decide) ?_
                    refine A.is10 eX5_sorts_63 ?_
                    refine A.il10 eX5_sorts_65 ?_
                    refine A.if_eqN eX5_sorts_67 (fun c18 => ?_) (fun c18 => ?_)
                    · refine A.il8 eX5_sorts_112 ?_
                      refine A.is8 eX5_sorts_114 ?_
                      refine A.inc9N eX5_sorts_116 ?_
                      refine A.goto eX5_sorts_119 ?_
                      have hb9 : bmn (fun p => inb m p && !sel m false b np n p) (ky false b) (i + 1) = if (fun p => inb m p && !sel m false b np n p) i && (match bmn (fun p => inb m p && !sel m false b np n p) (ky false b) i with
                        | none => true
                        | some j => decide (ky false b i < ky false b j)) then some i else bmn (fun p => inb m p && !sel m false b np n p) (ky false b) i := rfl
                      have yk : ¬ ((fun p => inb m p && !sel m false b np n p) i && (match bmn (fun p => inb m p && !sel m false b np n p) (ky false b) i with
                        | none => true
                        | some j => decide (ky false b i < ky false b j))) = true := by
                        simp [yd2]
                      exact A.eqw (by rw [hb9, if_neg yk]; simp [wkL]) rfl rfl (ih (i + 1) (by omega) (by omega))
                    · exact absurd rfl c18
                  · refine A.iconst (v := nI 1) eX5_sorts_58 (by decide) ?_
                    refine A.goto eX5_sorts_59 ?_
                    refine A.is10 eX5_sorts_63 ?_
                    refine A.il10 eX5_sorts_65 ?_
                    refine A.if_eqN eX5_sorts_67 (fun c19 => ?_) (fun c19 => ?_)
                    · exact absurd c19 (by decide)
                    · refine A.il8 eX5_sorts_70 ?_
                      refine A.iconst (v := -1) eX5_sorts_72 (by decide) ?_
                      refine A.icmp_eq eX5_sorts_73 (fun yd3 => ?_) (fun yd3 => ?_)
                      · refine A.il9 eX5_sorts_107 ?_
                        refine A.goto eX5_sorts_109 ?_
                        refine A.is8 eX5_sorts_114 ?_
                        refine A.inc9N eX5_sorts_116 ?_
                        refine A.goto eX5_sorts_119 ?_
                        have en : bmn (fun p => inb m p && !sel m false b np n p) (ky false b) i = none := by
                          cases e : bmn (fun p => inb m p && !sel m false b np n p) (ky false b) i with
                          | none => rfl
                          | some j => rw [e] at yd3; exact absurd yd3 (nI_nm1 (by have := (bmn_ok.2 j e).1; omega))
                        have hb9 : bmn (fun p => inb m p && !sel m false b np n p) (ky false b) (i + 1) = if (fun p => inb m p && !sel m false b np n p) i && (match bmn (fun p => inb m p && !sel m false b np n p) (ky false b) i with
                          | none => true
                          | some j => decide (ky false b i < ky false b j)) then some i else bmn (fun p => inb m p && !sel m false b np n p) (ky false b) i := rfl
                        have yk : ((fun p => inb m p && !sel m false b np n p) i && (match bmn (fun p => inb m p && !sel m false b np n p) (ky false b) i with
                          | none => true
                          | some j => decide (ky false b i < ky false b j))) = true := by
                          rw [en]
                          simp [yd1, yd2]
                        exact A.eqw (by rw [hb9, if_pos yk]; simp [wkL, ov]) rfl rfl (ih (i + 1) (by omega) (by omega))
                      · obtain ⟨j, ej⟩ : ∃ j, bmn (fun p => inb m p && !sel m false b np n p) (ky false b) i = some j := by
                          cases e : bmn (fun p => inb m p && !sel m false b np n p) (ky false b) i with
                          | none => rw [e] at yd3; exact absurd rfl yd3
                          | some j => exact ⟨j, rfl⟩
                        have hji := (bmn_ok.2 j ej).1
                        have hbi := (hA i (by omega)).2.2
                        have hbj := (hA j (by omega)).2.2
                        refine A.il4 eX5_sorts_76 ?_
                        refine A.al0 eX5_sorts_78 ?_
                        refine A.getR eX5_sorts_79 fX5_40 ko42 kr42_13 ?_
                        refine A.bipush (v := nI 8) eX5_sorts_82 (by decide) ?_
                        refine A.il1 eX5_sorts_84 ?_
                        refine A.imulN eX5_sorts_85 ?_
                        refine A.il9 eX5_sorts_86 ?_
                        refine A.iaddN eX5_sorts_88 ?_
                        refine A.ialdN eX5_sorts_89 ka53 ?_
                        refine A.top (show ξ.1 53 (8 * h + i) = nI (b i) by rw [e1 53 (by omega)]; exact (hA i (by omega)).2.1) ?_
                        refine A.al0 eX5_sorts_90 ?_
                        refine A.getR eX5_sorts_91 fX5_40 ko42 kr42_13 ?_
                        refine A.bipush (v := nI 8) eX5_sorts_94 (by decide) ?_
                        refine A.il1 eX5_sorts_96 ?_
                        refine A.imulN eX5_sorts_97 ?_
                        refine A.il8 eX5_sorts_98 ?_
                        refine A.top (show ov (bmn (fun p => inb m p && !sel m false b np n p) (ky false b) i) = nI j by rw [ej]; rfl) ?_
                        refine A.iaddN eX5_sorts_100 ?_
                        refine A.ialdN eX5_sorts_101 ka53 ?_
                        refine A.top (show ξ.1 53 (8 * h + j) = nI (b j) by rw [e1 53 (by omega)]; exact (hA j (by omega)).2.1) ?_
                        refine A.topZ ?_
                        refine A.topZ2 ?_
                        refine A.isubZ eX5_sorts_102 ?_
                        refine A.imulZ eX5_sorts_103 ?_
                        refine A.if_geZ eX5_sorts_104 (fun yd4 => ?_) (fun yd4 => ?_)
                        · refine A.il8 eX5_sorts_112 ?_
                          refine A.is8 eX5_sorts_114 ?_
                          refine A.inc9N eX5_sorts_116 ?_
                          refine A.goto eX5_sorts_119 ?_
                          have hb9 : bmn (fun p => inb m p && !sel m false b np n p) (ky false b) (i + 1) = if (fun p => inb m p && !sel m false b np n p) i && (match bmn (fun p => inb m p && !sel m false b np n p) (ky false b) i with
                            | none => true
                            | some j => decide (ky false b i < ky false b j)) then some i else bmn (fun p => inb m p && !sel m false b np n p) (ky false b) i := rfl
                          have yk : ¬ ((fun p => inb m p && !sel m false b np n p) i && (match bmn (fun p => inb m p && !sel m false b np n p) (ky false b) i with
                            | none => true
                            | some j => decide (ky false b i < ky false b j))) = true := by
                            rw [ej]
                            simp only [Bool.and_eq_true, decide_eq_true_eq]
                            intro z
                            have z2 := z.2
                            unfold ky at z2
                            simp only [Bool.false_eq_true, if_false, if_true] at z2
                            omega
                          exact A.eqw (by rw [hb9, if_neg yk]; simp [wkL]) rfl rfl (ih (i + 1) (by omega) (by omega))
                        · refine A.il9 eX5_sorts_107 ?_
                          refine A.goto eX5_sorts_109 ?_
                          refine A.is8 eX5_sorts_114 ?_
                          refine A.inc9N eX5_sorts_116 ?_
                          refine A.goto eX5_sorts_119 ?_
                          have hb9 : bmn (fun p => inb m p && !sel m false b np n p) (ky false b) (i + 1) = if (fun p => inb m p && !sel m false b np n p) i && (match bmn (fun p => inb m p && !sel m false b np n p) (ky false b) i with
                            | none => true
                            | some j => decide (ky false b i < ky false b j)) then some i else bmn (fun p => inb m p && !sel m false b np n p) (ky false b) i := rfl
                          have yk : ((fun p => inb m p && !sel m false b np n p) i && (match bmn (fun p => inb m p && !sel m false b np n p) (ky false b) i with
                            | none => true
                            | some j => decide (ky false b i < ky false b j))) = true := by
                            rw [ej]
                            simp only [Bool.and_eq_true, decide_eq_true_eq]
                            refine ⟨by simp [yd1, yd2], ?_⟩
                            unfold ky
                            simp only [Bool.false_eq_true, if_false, if_true]
                            omega
                          exact A.eqw (by rw [hb9, if_pos yk]; simp [wkL, ov]) rfl rfl (ih (i + 1) (by omega) (by omega))
          exact A.eqw (by simp [wkL]; rfl) rfl rfl (lp (np + 1) 0 (by omega) (by omega))
    have ecp : 0 < cnt (inb m) np := Nat.pos_of_ne_zero fun z => ym0 (by
      apply Nat.eq_of_testBit_eq
      intro i
      rw [Nat.zero_testBit]
      by_cases e : i < np
      · rw [← inb_tb]; exact cnt_zero.mp z i e
      · exact Nat.testBit_lt_two_pow (Nat.lt_of_lt_of_le hm (Nat.pow_le_pow_right (by omega) (by omega))))
    have es0 : ∀ p, p < np → sel m false b np 0 p = false := fun p _ => by simp [sel]
    exact A.eqw (by rw [bits_zero.mpr es0]; simp [wkL]) rfl rfl (lo (np + 1) 0 σ (by omega) (by omega) (fun _ _ => rfl) rfl (fun w hw => by omega) (cnt_zero.mpr es0) ecp)
set_option maxRecDepth 100000 in
set_option maxHeartbeats 4000000 in
theorem sX5_sortsB {G : GW} {σ : St} {K : Int32 → St → Prop} {h m np : Nat} {a : Nat → Int32} {b : Nat → Nat} (hnp : σ.1 49 0 = nI np) (hn8 : np ≤ 8) (bh : h < 24) (hA : HM σ h np a b) (hm : m < 2 ^ np) (hQ : ∀ τ : St, (∀ k, k ≠ 57 → τ.1 k = σ.1 k) → τ.2 = σ.2 → (∀ w, w < (cnt (inb m) np) → τ.1 57 w = nI (sea m b w (fI true) np) ∧ sea m b w (fI true) np < np) → K (nI (cnt (inb m) np)) τ) : Ci G (r0 1 21) mX5_sorts [rf G 42, .int (nI h), .int (nI m), rf G 57, .int (zI (-1))] σ K := by
  refine Ci.of [some (rf G 42), some (.int (nI h)), some (.int (nI m)), some (rf G 57), some (.int (zI (-1))), none, none, none, none, none, none] ?_
  have h2p : 2 ^ np ≤ 2 ^ 8 := Nat.pow_le_pow_right (by omega) hn8
  have hcN := cnt_le (inb m) np
  refine A.iconst (v := nI 0) eX5_sorts_0 (by decide) ?_
  refine A.is5 eX5_sorts_1 ?_
  refine A.iconst (v := nI 0) eX5_sorts_3 (by decide) ?_
  refine A.is6 eX5_sorts_4 ?_
  refine A.il2 eX5_sorts_6 ?_
  refine A.if_eqN eX5_sorts_7 (fun ym0 => ?_) (fun ym0 => ?_)
  · refine A.iconst (v := nI 0) eX5_sorts_14 (by decide) ?_
    refine A.is7 eX5_sorts_15 ?_
    have lo : ∀ (fu n : Nat) (ξ : St), np - n < fu → n ≤ np → (∀ k, k ≠ 57 → ξ.1 k = σ.1 k) → ξ.2 = σ.2 → (∀ w, w < n → ξ.1 57 w = nI (sea m b w (fI true) np) ∧ sea m b w (fI true) np < np) → cnt (sel m true b np n) np = n → n < cnt (inb m) np → B G (r0 1 21) mX5_sorts 17 [some (rf G 42), some (.int (nI h)), some (.int (nI m)), some (rf G 57), some (.int (zI (-1))), some (.int (nI n)), some (.int (nI (bits (sel m true b np n) np))), some (.int (nI 1)), none, none, none] [] (ξ) (Pi K) := by
      intro fu
      induction fu with
      | zero => intro n ξ h1 h2; omega
      | succ fu iho =>
        intro n ξ h1 h2 e1 e2 e5 e3 e4
        have hbn := bits_lt (sel m true b np n) np
        refine A.il7 eX5_sorts_17 ?_
        refine A.if_eqN eX5_sorts_19 (fun c2 => ?_) (fun c2 => ?_)
        · exact absurd c2 (by decide)
        · refine A.iconst (v := -1) eX5_sorts_22 (by decide) ?_
          refine A.is8 eX5_sorts_23 ?_
          refine A.iconst (v := nI 0) eX5_sorts_25 (by decide) ?_
          refine A.is9 eX5_sorts_26 ?_
          have lp : ∀ (fu i : Nat), np - i < fu → i ≤ np → B G (r0 1 21) mX5_sorts 28 [some (rf G 42), some (.int (nI h)), some (.int (nI m)), some (rf G 57), some (.int (zI (-1))), some (.int (nI n)), some (.int (nI (bits (sel m true b np n) np))), some (.int (nI 1)), some (.int (ov (bmn (fun p => inb m p && !sel m true b np n p) (ky true b) i))), some (.int (nI i)), none] [] (ξ) (Pi K) := by
            intro fu
            induction fu with
            | zero => intro i  h1 h2; omega
            | succ fu ih =>
              intro i  h1 h2 
              refine A.il9 eX5_sorts_28 ?_
              refine A.al0 eX5_sorts_30 ?_
              refine A.getR eX5_sorts_31 fX5_28 ko42 kr42_8 ?_
              refine A.iconst (v := nI 0) eX5_sorts_34 (by decide) ?_
              refine A.ialdN eX5_sorts_35 ka49 ?_
              refine A.top (show ξ.1 49 0 = nI np by rw [e1 49 (by omega)]; exact hnp) ?_
              refine A.icmp_geN eX5_sorts_36 (fun c3 => ?_) (fun c3 => ?_)
              · have ei : np = i := by omega
                subst ei
                obtain ⟨j, ej⟩ := sel_rem (f := true) (b := b) e4 e3
                have hj := sel_min hn8 e3 ej
                have hj8 := hj.1
                have hbs := bits_lt (sel m true b np (n + 1)) np
                refine A.al3 eX5_sorts_122 ?_
                refine A.il5 eX5_sorts_123 ?_
                refine A.il8 eX5_sorts_125 ?_
                refine A.top (show ov (bmn (fun p => inb m p && !sel m true b np n p) (ky true b) np) = nI j by rw [ej]; rfl) ?_
                refine A.iastN eX5_sorts_127 ka57 ?_
                refine A.il6 eX5_sorts_128 ?_
                refine A.iconst (v := nI 1) eX5_sorts_130 (by decide) ?_
                refine A.il8 eX5_sorts_131 ?_
                refine A.top (show ov (bmn (fun p => inb m p && !sel m true b np n p) (ky true b) np) = nI j by rw [ej]; rfl) ?_
                refine A.ishl1 eX5_sorts_133 ?_
                refine A.iorN eX5_sorts_134 ?_
                refine A.top (congrArg nI (sel_bits hj)) ?_
                refine A.is6 eX5_sorts_135 ?_
                refine A.inc5N eX5_sorts_137 ?_
                refine A.il6 eX5_sorts_140 ?_
                refine A.il2 eX5_sorts_142 ?_
                refine A.icmp_eqN eX5_sorts_143 (fun yd5 => ?_) (fun yd5 => ?_)
                · refine A.iconst (v := nI 0) eX5_sorts_150 (by decide) ?_
                  refine A.is7 eX5_sorts_151 ?_
                  refine A.goto eX5_sorts_153 ?_
                  have hrow : ∀ w, w < n + 1 → (ur ξ 57 (upd (ξ.1 57) n (nI j))).1 57 w = nI (sea m b w (fI true) np) ∧ sea m b w (fI true) np < np := by
                    intro w hw
                    have hsea := sel_sea hn8 (fun q hq => (hA q hq).2.2) hj
                    rw [ur_s]
                    by_cases e : w = n
                    · rw [e, upd_s, hsea]; exact ⟨rfl, hj.1⟩
                    · rw [upd_n e]; exact e5 w (by omega)
                  have hcs := sel_cnt e3 hj
                  have hfu := (sel_full hm hcs).mp yd5
                  have eN : cnt (inb m) np = n + 1 := by omega
                  refine A.il7 eX5_sorts_17 ?_
                  refine A.if_eqN eX5_sorts_19 (fun _ => ?_) (fun z => absurd rfl z)
                  refine A.il5 eX5_sorts_156 ?_
                  refine B.iret eX5_sorts_158 ?_
                  rw [eN] at hQ
                  exact hQ _ (fun k hk => by rw [ur_n hk]; exact e1 k hk) e2 hrow
                · refine A.iconst (v := nI 1) eX5_sorts_146 (by decide) ?_
                  refine A.goto eX5_sorts_147 ?_
                  refine A.is7 eX5_sorts_151 ?_
                  refine A.goto eX5_sorts_153 ?_
                  have hrow : ∀ w, w < n + 1 → (ur ξ 57 (upd (ξ.1 57) n (nI j))).1 57 w = nI (sea m b w (fI true) np) ∧ sea m b w (fI true) np < np := by
                    intro w hw
                    have hsea := sel_sea hn8 (fun q hq => (hA q hq).2.2) hj
                    rw [ur_s]
                    by_cases e : w = n
                    · rw [e, upd_s, hsea]; exact ⟨rfl, hj.1⟩
                    · rw [upd_n e]; exact e5 w (by omega)
                  have hcs := sel_cnt e3 hj
                  have hfu : n + 1 < cnt (inb m) np := Nat.lt_of_not_le fun z => yd5 ((sel_full hm hcs).mpr z)
                  exact A.eqw (by simp [wkL]) rfl rfl (iho (n + 1) _ (by omega) (by omega) (fun k hk => by rw [ur_n hk]; exact e1 k hk) e2 hrow hcs hfu)
              · refine A.il2 eX5_sorts_39 ?_
                refine A.il9 eX5_sorts_40 ?_
                refine A.cSi2 eX5_sorts_42 oX5_isIn kX5_155 (sX5_isIn (m := m) (k := i) (by omega) (by omega) ?_)
                refine A.if_eqB eX5_sorts_45 (fun yd1 => ?_) (fun yd1 => ?_)
                · refine A.iconst (v := nI 0) eX5_sorts_62 (by decide) ?_
                  refine A.is10 eX5_sorts_63 ?_
                  refine A.il10 eX5_sorts_65 ?_
                  refine A.if_eqN eX5_sorts_67 (fun c6 => ?_) (fun c6 => ?_)
                  · refine A.il8 eX5_sorts_112 ?_
                    refine A.is8 eX5_sorts_114 ?_
                    refine A.inc9N eX5_sorts_116 ?_
                    refine A.goto eX5_sorts_119 ?_
                    have hb9 : bmn (fun p => inb m p && !sel m true b np n p) (ky true b) (i + 1) = if (fun p => inb m p && !sel m true b np n p) i && (match bmn (fun p => inb m p && !sel m true b np n p) (ky true b) i with
                      | none => true
                      | some j => decide (ky true b i < ky true b j)) then some i else bmn (fun p => inb m p && !sel m true b np n p) (ky true b) i := rfl
                    have yk : ¬ ((fun p => inb m p && !sel m true b np n p) i && (match bmn (fun p => inb m p && !sel m true b np n p) (ky true b) i with
                      | none => true
                      | some j => decide (ky true b i < ky true b j))) = true := by
                      simp [yd1]
                    exact A.eqw (by rw [hb9, if_neg yk]; simp [wkL]) rfl rfl (ih (i + 1) (by omega) (by omega))
                  · exact absurd rfl c6
                · refine A.il6 eX5_sorts_48 ?_
                  refine A.il9 eX5_sorts_50 ?_
                  refine A.cSi2 eX5_sorts_52 oX5_isIn kX5_155 (sX5_isIn (m := bits (sel m true b np n) np) (k := i) (by omega) (by omega) ?_)
                  refine A.top (show _ = bI (sel m true b np n i = true) by rw [inb_bits, decide_eq_true (show i < np by omega), Bool.true_and]) ?_
                  refine A.if_neB eX5_sorts_55 (fun yd2 => ?_) (fun yd2 => ?_)
                  · refine A.iconst (v := nI 0) eX5_sorts_62 (by decide) ?_
                    refine A.is10 eX5_sorts_63 ?_
                    refine A.il10 eX5_sorts_65 ?_
                    refine A.if_eqN eX5_sorts_67 (fun c8 => ?_) (fun c8 => ?_)
                    · refine A.il8 eX5_sorts_112 ?_
                      refine A.is8 eX5_sorts_114 ?_
                      refine A.inc9N eX5_sorts_116 ?_
                      refine A.goto eX5_sorts_119 ?_
                      have hb9 : bmn (fun p => inb m p && !sel m true b np n p) (ky true b) (i + 1) = if (fun p => inb m p && !sel m true b np n p) i && (match bmn (fun p => inb m p && !sel m true b np n p) (ky true b) i with
                        | none => true
                        | some j => decide (ky true b i < ky true b j)) then some i else bmn (fun p => inb m p && !sel m true b np n p) (ky true b) i := rfl
                      have yk : ¬ ((fun p => inb m p && !sel m true b np n p) i && (match bmn (fun p => inb m p && !sel m true b np n p) (ky true b) i with
                        | none => true
                        | some j => decide (ky true b i < ky true b j))) = true := by
                        simp [yd2]
                      exact A.eqw (by rw [hb9, if_neg yk]; simp [wkL]) rfl rfl (ih (i + 1) (by omega) (by omega))
                    · exact absurd rfl c8
                  · refine A.iconst (v := nI 1) eX5_sorts_58 (by decide) ?_
                    refine A.goto eX5_sorts_59 ?_
                    refine A.is10 eX5_sorts_63 ?_
                    refine A.il10 eX5_sorts_65 ?_
                    refine A.if_eqN eX5_sorts_67 (fun c9 => ?_) (fun c9 => ?_)
                    · exact absurd c9 (by decide)
                    · refine A.il8 eX5_sorts_70 ?_
                      refine A.iconst (v := -1) eX5_sorts_72 (by decide) ?_
                      refine A.icmp_eq eX5_sorts_73 (fun yd3 => ?_) (fun yd3 => ?_)
                      · refine A.il9 eX5_sorts_107 ?_
                        refine A.goto eX5_sorts_109 ?_
                        refine A.is8 eX5_sorts_114 ?_
                        refine A.inc9N eX5_sorts_116 ?_
                        refine A.goto eX5_sorts_119 ?_
                        have en : bmn (fun p => inb m p && !sel m true b np n p) (ky true b) i = none := by
                          cases e : bmn (fun p => inb m p && !sel m true b np n p) (ky true b) i with
                          | none => rfl
                          | some j => rw [e] at yd3; exact absurd yd3 (nI_nm1 (by have := (bmn_ok.2 j e).1; omega))
                        have hb9 : bmn (fun p => inb m p && !sel m true b np n p) (ky true b) (i + 1) = if (fun p => inb m p && !sel m true b np n p) i && (match bmn (fun p => inb m p && !sel m true b np n p) (ky true b) i with
                          | none => true
                          | some j => decide (ky true b i < ky true b j)) then some i else bmn (fun p => inb m p && !sel m true b np n p) (ky true b) i := rfl
                        have yk : ((fun p => inb m p && !sel m true b np n p) i && (match bmn (fun p => inb m p && !sel m true b np n p) (ky true b) i with
                          | none => true
                          | some j => decide (ky true b i < ky true b j))) = true := by
                          rw [en]
                          simp [yd1, yd2]
                        exact A.eqw (by rw [hb9, if_pos yk]; simp [wkL, ov]) rfl rfl (ih (i + 1) (by omega) (by omega))
                      · obtain ⟨j, ej⟩ : ∃ j, bmn (fun p => inb m p && !sel m true b np n p) (ky true b) i = some j := by
                          cases e : bmn (fun p => inb m p && !sel m true b np n p) (ky true b) i with
                          | none => rw [e] at yd3; exact absurd rfl yd3
                          | some j => exact ⟨j, rfl⟩
                        have hji := (bmn_ok.2 j ej).1
                        have hbi := (hA i (by omega)).2.2
                        have hbj := (hA j (by omega)).2.2
                        refine A.il4 eX5_sorts_76 ?_
                        refine A.al0 eX5_sorts_78 ?_
                        refine A.getR eX5_sorts_79 fX5_40 ko42 kr42_13 ?_
                        refine A.bipush (v := nI 8) eX5_sorts_82 (by decide) ?_
                        refine A.il1 eX5_sorts_84 ?_
                        refine A.imulN eX5_sorts_85 ?_
                        refine A.il9 eX5_sorts_86 ?_
                        refine A.iaddN eX5_sorts_88 ?_
                        refine A.ialdN eX5_sorts_89 ka53 ?_
                        refine A.top (show ξ.1 53 (8 * h + i) = nI (b i) by rw [e1 53 (by omega)]; exact (hA i (by omega)).2.1) ?_
                        refine A.al0 eX5_sorts_90 ?_
                        refine A.getR eX5_sorts_91 fX5_40 ko42 kr42_13 ?_
                        refine A.bipush (v := nI 8) eX5_sorts_94 (by decide) ?_
                        refine A.il1 eX5_sorts_96 ?_
                        refine A.imulN eX5_sorts_97 ?_
                        refine A.il8 eX5_sorts_98 ?_
                        refine A.top (show ov (bmn (fun p => inb m p && !sel m true b np n p) (ky true b) i) = nI j by rw [ej]; rfl) ?_
                        refine A.iaddN eX5_sorts_100 ?_
                        refine A.ialdN eX5_sorts_101 ka53 ?_
                        refine A.top (show ξ.1 53 (8 * h + j) = nI (b j) by rw [e1 53 (by omega)]; exact (hA j (by omega)).2.1) ?_
                        refine A.topZ ?_
                        refine A.topZ2 ?_
                        refine A.isubZ eX5_sorts_102 ?_
                        refine A.imulZ eX5_sorts_103 ?_
                        refine A.if_geZ eX5_sorts_104 (fun yd4 => ?_) (fun yd4 => ?_)
                        · refine A.il8 eX5_sorts_112 ?_
                          refine A.is8 eX5_sorts_114 ?_
                          refine A.inc9N eX5_sorts_116 ?_
                          refine A.goto eX5_sorts_119 ?_
                          have hb9 : bmn (fun p => inb m p && !sel m true b np n p) (ky true b) (i + 1) = if (fun p => inb m p && !sel m true b np n p) i && (match bmn (fun p => inb m p && !sel m true b np n p) (ky true b) i with
                            | none => true
                            | some j => decide (ky true b i < ky true b j)) then some i else bmn (fun p => inb m p && !sel m true b np n p) (ky true b) i := rfl
                          have yk : ¬ ((fun p => inb m p && !sel m true b np n p) i && (match bmn (fun p => inb m p && !sel m true b np n p) (ky true b) i with
                            | none => true
                            | some j => decide (ky true b i < ky true b j))) = true := by
                            rw [ej]
                            simp only [Bool.and_eq_true, decide_eq_true_eq]
                            intro z
                            have z2 := z.2
                            unfold ky at z2
                            simp only [Bool.false_eq_true, if_false, if_true] at z2
                            omega
                          exact A.eqw (by rw [hb9, if_neg yk]; simp [wkL]) rfl rfl (ih (i + 1) (by omega) (by omega))
                        · refine A.il9 eX5_sorts_107 ?_
                          refine A.goto eX5_sorts_109 ?_
                          refine A.is8 eX5_sorts_114 ?_
                          refine A.inc9N eX5_sorts_116 ?_
                          refine A.goto eX5_sorts_119 ?_
                          have hb9 : bmn (fun p => inb m p && !sel m true b np n p) (ky true b) (i + 1) = if (fun p => inb m p && !sel m true b np n p) i && (match bmn (fun p => inb m p && !sel m true b np n p) (ky true b) i with
                            | none => true
                            | some j => decide (ky true b i < ky true b j)) then some i else bmn (fun p => inb m p && !sel m true b np n p) (ky true b) i := rfl
                          have yk : ((fun p => inb m p && !sel m true b np n p) i && (match bmn (fun p => inb m p && !sel m true b np n p) (ky true b) i with
                            | none => true
                            | some j => decide (ky true b i < ky true b j))) = true := by
                            rw [ej]
                            simp only [Bool.and_eq_true, decide_eq_true_eq]
                            refine ⟨by simp [yd1, yd2], ?_⟩
                            unfold ky
                            simp only [Bool.false_eq_true, if_false, if_true]
                            omega
                          exact A.eqw (by rw [hb9, if_pos yk]; simp [wkL, ov]) rfl rfl (ih (i + 1) (by omega) (by omega))
          exact A.eqw (by simp [wkL]; rfl) rfl rfl (lp (np + 1) 0 (by omega) (by omega))
    have ecz : cnt (inb m) np = 0 := cnt_zero.mpr (fun i _ => by rw [ym0]; unfold inb; simp)
    refine A.il7 eX5_sorts_17 ?_
    refine A.if_eqN eX5_sorts_19 (fun _ => ?_) (fun z => absurd rfl z)
    refine A.il5 eX5_sorts_156 ?_
    refine B.iret eX5_sorts_158 ?_
    rw [ecz] at hQ
    exact hQ σ (fun _ _ => rfl) rfl (fun w hw => by omega)
  · refine A.iconst (v := nI 1) eX5_sorts_10 (by decide) ?_
    refine A.goto eX5_sorts_11 ?_
    refine A.is7 eX5_sorts_15 ?_
    have lo : ∀ (fu n : Nat) (ξ : St), np - n < fu → n ≤ np → (∀ k, k ≠ 57 → ξ.1 k = σ.1 k) → ξ.2 = σ.2 → (∀ w, w < n → ξ.1 57 w = nI (sea m b w (fI true) np) ∧ sea m b w (fI true) np < np) → cnt (sel m true b np n) np = n → n < cnt (inb m) np → B G (r0 1 21) mX5_sorts 17 [some (rf G 42), some (.int (nI h)), some (.int (nI m)), some (rf G 57), some (.int (zI (-1))), some (.int (nI n)), some (.int (nI (bits (sel m true b np n) np))), some (.int (nI 1)), none, none, none] [] (ξ) (Pi K) := by
      intro fu
      induction fu with
      | zero => intro n ξ h1 h2; omega
      | succ fu iho =>
        intro n ξ h1 h2 e1 e2 e5 e3 e4
        have hbn := bits_lt (sel m true b np n) np
        refine A.il7 eX5_sorts_17 ?_
        refine A.if_eqN eX5_sorts_19 (fun c12 => ?_) (fun c12 => ?_)
        · exact absurd c12 (by decide)
        · refine A.iconst (v := -1) eX5_sorts_22 (by decide) ?_
          refine A.is8 eX5_sorts_23 ?_
          refine A.iconst (v := nI 0) eX5_sorts_25 (by decide) ?_
          refine A.is9 eX5_sorts_26 ?_
          have lp : ∀ (fu i : Nat), np - i < fu → i ≤ np → B G (r0 1 21) mX5_sorts 28 [some (rf G 42), some (.int (nI h)), some (.int (nI m)), some (rf G 57), some (.int (zI (-1))), some (.int (nI n)), some (.int (nI (bits (sel m true b np n) np))), some (.int (nI 1)), some (.int (ov (bmn (fun p => inb m p && !sel m true b np n p) (ky true b) i))), some (.int (nI i)), none] [] (ξ) (Pi K) := by
            intro fu
            induction fu with
            | zero => intro i  h1 h2; omega
            | succ fu ih =>
              intro i  h1 h2 
              refine A.il9 eX5_sorts_28 ?_
              refine A.al0 eX5_sorts_30 ?_
              refine A.getR eX5_sorts_31 fX5_28 ko42 kr42_8 ?_
              refine A.iconst (v := nI 0) eX5_sorts_34 (by decide) ?_
              refine A.ialdN eX5_sorts_35 ka49 ?_
              refine A.top (show ξ.1 49 0 = nI np by rw [e1 49 (by omega)]; exact hnp) ?_
              refine A.icmp_geN eX5_sorts_36 (fun c13 => ?_) (fun c13 => ?_)
              · have ei : np = i := by omega
                subst ei
                obtain ⟨j, ej⟩ := sel_rem (f := true) (b := b) e4 e3
                have hj := sel_min hn8 e3 ej
                have hj8 := hj.1
                have hbs := bits_lt (sel m true b np (n + 1)) np
                refine A.al3 eX5_sorts_122 ?_
                refine A.il5 eX5_sorts_123 ?_
                refine A.il8 eX5_sorts_125 ?_
                refine A.top (show ov (bmn (fun p => inb m p && !sel m true b np n p) (ky true b) np) = nI j by rw [ej]; rfl) ?_
                refine A.iastN eX5_sorts_127 ka57 ?_
                refine A.il6 eX5_sorts_128 ?_
                refine A.iconst (v := nI 1) eX5_sorts_130 (by decide) ?_
                refine A.il8 eX5_sorts_131 ?_
                refine A.top (show ov (bmn (fun p => inb m p && !sel m true b np n p) (ky true b) np) = nI j by rw [ej]; rfl) ?_
                refine A.ishl1 eX5_sorts_133 ?_
                refine A.iorN eX5_sorts_134 ?_
                refine A.top (congrArg nI (sel_bits hj)) ?_
                refine A.is6 eX5_sorts_135 ?_
                refine A.inc5N eX5_sorts_137 ?_
                refine A.il6 eX5_sorts_140 ?_
                refine A.il2 eX5_sorts_142 ?_
                refine A.icmp_eqN eX5_sorts_143 (fun yd5 => ?_) (fun yd5 => ?_)
                · refine A.iconst (v := nI 0) eX5_sorts_150 (by decide) ?_
                  refine A.is7 eX5_sorts_151 ?_
                  refine A.goto eX5_sorts_153 ?_
                  have hrow : ∀ w, w < n + 1 → (ur ξ 57 (upd (ξ.1 57) n (nI j))).1 57 w = nI (sea m b w (fI true) np) ∧ sea m b w (fI true) np < np := by
                    intro w hw
                    have hsea := sel_sea hn8 (fun q hq => (hA q hq).2.2) hj
                    rw [ur_s]
                    by_cases e : w = n
                    · rw [e, upd_s, hsea]; exact ⟨rfl, hj.1⟩
                    · rw [upd_n e]; exact e5 w (by omega)
                  have hcs := sel_cnt e3 hj
                  have hfu := (sel_full hm hcs).mp yd5
                  have eN : cnt (inb m) np = n + 1 := by omega
                  refine A.il7 eX5_sorts_17 ?_
                  refine A.if_eqN eX5_sorts_19 (fun _ => ?_) (fun z => absurd rfl z)
                  refine A.il5 eX5_sorts_156 ?_
                  refine B.iret eX5_sorts_158 ?_
                  rw [eN] at hQ
                  exact hQ _ (fun k hk => by rw [ur_n hk]; exact e1 k hk) e2 hrow
                · refine A.iconst (v := nI 1) eX5_sorts_146 (by decide) ?_
                  refine A.goto eX5_sorts_147 ?_
                  refine A.is7 eX5_sorts_151 ?_
                  refine A.goto eX5_sorts_153 ?_
                  have hrow : ∀ w, w < n + 1 → (ur ξ 57 (upd (ξ.1 57) n (nI j))).1 57 w = nI (sea m b w (fI true) np) ∧ sea m b w (fI true) np < np := by
                    intro w hw
                    have hsea := sel_sea hn8 (fun q hq => (hA q hq).2.2) hj
                    rw [ur_s]
                    by_cases e : w = n
                    · rw [e, upd_s, hsea]; exact ⟨rfl, hj.1⟩
                    · rw [upd_n e]; exact e5 w (by omega)
                  have hcs := sel_cnt e3 hj
                  have hfu : n + 1 < cnt (inb m) np := Nat.lt_of_not_le fun z => yd5 ((sel_full hm hcs).mpr z)
                  exact A.eqw (by simp [wkL]) rfl rfl (iho (n + 1) _ (by omega) (by omega) (fun k hk => by rw [ur_n hk]; exact e1 k hk) e2 hrow hcs hfu)
              · refine A.il2 eX5_sorts_39 ?_
                refine A.il9 eX5_sorts_40 ?_
                refine A.cSi2 eX5_sorts_42 oX5_isIn kX5_155 (sX5_isIn (m := m) (k := i) (by omega) (by omega) ?_)
                refine A.if_eqB eX5_sorts_45 (fun yd1 => ?_) (fun yd1 => ?_)
                · refine A.iconst (v := nI 0) eX5_sorts_62 (by decide) ?_
                  refine A.is10 eX5_sorts_63 ?_
                  refine A.il10 eX5_sorts_65 ?_
                  refine A.if_eqN eX5_sorts_67 (fun c16 => ?_) (fun c16 => ?_)
                  · refine A.il8 eX5_sorts_112 ?_
                    refine A.is8 eX5_sorts_114 ?_
                    refine A.inc9N eX5_sorts_116 ?_
                    refine A.goto eX5_sorts_119 ?_
                    have hb9 : bmn (fun p => inb m p && !sel m true b np n p) (ky true b) (i + 1) = if (fun p => inb m p && !sel m true b np n p) i && (match bmn (fun p => inb m p && !sel m true b np n p) (ky true b) i with
                      | none => true
                      | some j => decide (ky true b i < ky true b j)) then some i else bmn (fun p => inb m p && !sel m true b np n p) (ky true b) i := rfl
                    have yk : ¬ ((fun p => inb m p && !sel m true b np n p) i && (match bmn (fun p => inb m p && !sel m true b np n p) (ky true b) i with
                      | none => true
                      | some j => decide (ky true b i < ky true b j))) = true := by
                      simp [yd1]
                    exact A.eqw (by rw [hb9, if_neg yk]; simp [wkL]) rfl rfl (ih (i + 1) (by omega) (by omega))
                  · exact absurd rfl c16
                · refine A.il6 eX5_sorts_48 ?_
                  refine A.il9 eX5_sorts_50 ?_
                  refine A.cSi2 eX5_sorts_52 oX5_isIn kX5_155 (sX5_isIn (m := bits (sel m true b np n) np) (k := i) (by omega) (by omega) ?_)
                  refine A.top (show _ = bI (sel m true b np n i = true) by rw [inb_bits, decide_eq_true (show i < np by omega), Bool.true_and]) ?_
                  refine A.if_neB eX5_sorts_55 (fun yd2 => ?_) (fun yd2 => ?_)
                  · refine A.iconst (v := nI 0) eX5_sorts_62 (by decide) ?_
                    refine A.is10 eX5_sorts_63 ?_
                    refine A.il10 eX5_sorts_65 ?_
                    refine A.if_eqN eX5_sorts_67 (fun c18 => ?_) (fun c18 => ?_)
                    · refine A.il8 eX5_sorts_112 ?_
                      refine A.is8 eX5_sorts_114 ?_
                      refine A.inc9N eX5_sorts_116 ?_
                      refine A.goto eX5_sorts_119 ?_
                      have hb9 : bmn (fun p => inb m p && !sel m true b np n p) (ky true b) (i + 1) = if (fun p => inb m p && !sel m true b np n p) i && (match bmn (fun p => inb m p && !sel m true b np n p) (ky true b) i with
                        | none => true
                        | some j => decide (ky true b i < ky true b j)) then some i else bmn (fun p => inb m p && !sel m true b np n p) (ky true b) i := rfl
                      have yk : ¬ ((fun p => inb m p && !sel m true b np n p) i && (match bmn (fun p => inb m p && !sel m true b np n p) (ky true b) i with
                        | none => true
                        | some j => decide (ky true b i < ky true b j))) = true := by
                        simp [yd2]
                      exact A.eqw (by rw [hb9, if_neg yk]; simp [wkL]) rfl rfl (ih (i + 1) (by omega) (by omega))
                    · exact absurd rfl c18
                  · refine A.iconst (v := nI 1) eX5_sorts_58 (by decide) ?_
                    refine A.goto eX5_sorts_59 ?_
                    refine A.is10 eX5_sorts_63 ?_
                    refine A.il10 eX5_sorts_65 ?_
                    refine A.if_eqN eX5_sorts_67 (fun c19 => ?_) (fun c19 => ?_)
                    · exact absurd c19 (by decide)
                    · refine A.il8 eX5_sorts_70 ?_
                      refine A.iconst (v := -1) eX5_sorts_72 (by decide) ?_
                      refine A.icmp_eq eX5_sorts_73 (fun yd3 => ?_) (fun yd3 => ?_)
                      · refine A.il9 eX5_sorts_107 ?_
                        refine A.goto eX5_sorts_109 ?_
                        refine A.is8 eX5_sorts_114 ?_
                        refine A.inc9N eX5_sorts_116 ?_
                        refine A.goto eX5_sorts_119 ?_
                        have en : bmn (fun p => inb m p && !sel m true b np n p) (ky true b) i = none := by
                          cases e : bmn (fun p => inb m p && !sel m true b np n p) (ky true b) i with
                          | none => rfl
                          | some j => rw [e] at yd3; exact absurd yd3 (nI_nm1 (by have := (bmn_ok.2 j e).1; omega))
                        have hb9 : bmn (fun p => inb m p && !sel m true b np n p) (ky true b) (i + 1) = if (fun p => inb m p && !sel m true b np n p) i && (match bmn (fun p => inb m p && !sel m true b np n p) (ky true b) i with
                          | none => true
                          | some j => decide (ky true b i < ky true b j)) then some i else bmn (fun p => inb m p && !sel m true b np n p) (ky true b) i := rfl
                        have yk : ((fun p => inb m p && !sel m true b np n p) i && (match bmn (fun p => inb m p && !sel m true b np n p) (ky true b) i with
                          | none => true
                          | some j => decide (ky true b i < ky true b j))) = true := by
                          rw [en]
                          simp [yd1, yd2]
                        exact A.eqw (by rw [hb9, if_pos yk]; simp [wkL, ov]) rfl rfl (ih (i + 1) (by omega) (by omega))
                      · obtain ⟨j, ej⟩ : ∃ j, bmn (fun p => inb m p && !sel m true b np n p) (ky true b) i = some j := by
                          cases e : bmn (fun p => inb m p && !sel m true b np n p) (ky true b) i with
                          | none => rw [e] at yd3; exact absurd rfl yd3
                          | some j => exact ⟨j, rfl⟩
                        have hji := (bmn_ok.2 j ej).1
                        have hbi := (hA i (by omega)).2.2
                        have hbj := (hA j (by omega)).2.2
                        refine A.il4 eX5_sorts_76 ?_
                        refine A.al0 eX5_sorts_78 ?_
                        refine A.getR eX5_sorts_79 fX5_40 ko42 kr42_13 ?_
                        refine A.bipush (v := nI 8) eX5_sorts_82 (by decide) ?_
                        refine A.il1 eX5_sorts_84 ?_
                        refine A.imulN eX5_sorts_85 ?_
                        refine A.il9 eX5_sorts_86 ?_
                        refine A.iaddN eX5_sorts_88 ?_
                        refine A.ialdN eX5_sorts_89 ka53 ?_
                        refine A.top (show ξ.1 53 (8 * h + i) = nI (b i) by rw [e1 53 (by omega)]; exact (hA i (by omega)).2.1) ?_
                        refine A.al0 eX5_sorts_90 ?_
                        refine A.getR eX5_sorts_91 fX5_40 ko42 kr42_13 ?_
                        refine A.bipush (v := nI 8) eX5_sorts_94 (by decide) ?_
                        refine A.il1 eX5_sorts_96 ?_
                        refine A.imulN eX5_sorts_97 ?_
                        refine A.il8 eX5_sorts_98 ?_
                        refine A.top (show ov (bmn (fun p => inb m p && !sel m true b np n p) (ky true b) i) = nI j by rw [ej]; rfl) ?_
                        refine A.iaddN eX5_sorts_100 ?_
                        refine A.ialdN eX5_sorts_101 ka53 ?_
                        refine A.top (show ξ.1 53 (8 * h + j) = nI (b j) by rw [e1 53 (by omega)]; exact (hA j (by omega)).2.1) ?_
                        refine A.topZ ?_
                        refine A.topZ2 ?_
                        refine A.isubZ eX5_sorts_102 ?_
                        refine A.imulZ eX5_sorts_103 ?_
                        refine A.if_geZ eX5_sorts_104 (fun yd4 => ?_) (fun yd4 => ?_)
                        · refine A.il8 eX5_sorts_112 ?_
                          refine A.is8 eX5_sorts_114 ?_
                          refine A.inc9N eX5_sorts_116 ?_
                          refine A.goto eX5_sorts_119 ?_
                          have hb9 : bmn (fun p => inb m p && !sel m true b np n p) (ky true b) (i + 1) = if (fun p => inb m p && !sel m true b np n p) i && (match bmn (fun p => inb m p && !sel m true b np n p) (ky true b) i with
                            | none => true
                            | some j => decide (ky true b i < ky true b j)) then some i else bmn (fun p => inb m p && !sel m true b np n p) (ky true b) i := rfl
                          have yk : ¬ ((fun p => inb m p && !sel m true b np n p) i && (match bmn (fun p => inb m p && !sel m true b np n p) (ky true b) i with
                            | none => true
                            | some j => decide (ky true b i < ky true b j))) = true := by
                            rw [ej]
                            simp only [Bool.and_eq_true, decide_eq_true_eq]
                            intro z
                            have z2 := z.2
                            unfold ky at z2
                            simp only [Bool.false_eq_true, if_false, if_true] at z2
                            omega
                          exact A.eqw (by rw [hb9, if_neg yk]; simp [wkL]) rfl rfl (ih (i + 1) (by omega) (by omega))
                        · refine A.il9 eX5_sorts_107 ?_
                          refine A.goto eX5_sorts_109 ?_
                          refine A.is8 eX5_sorts_114 ?_
                          refine A.inc9N eX5_sorts_116 ?_
                          refine A.goto eX5_sorts_119 ?_
                          have hb9 : bmn (fun p => inb m p && !sel m true b np n p) (ky true b) (i + 1) = if (fun p => inb m p && !sel m true b np n p) i && (match bmn (fun p => inb m p && !sel m true b np n p) (ky true b) i with
                            | none => true
                            | some j => decide (ky true b i < ky true b j)) then some i else bmn (fun p => inb m p && !sel m true b np n p) (ky true b) i := rfl
                          have yk : ((fun p => inb m p && !sel m true b np n p) i && (match bmn (fun p => inb m p && !sel m true b np n p) (ky true b) i with
                            | none => true
                            | some j => decide (ky true b i < ky true b j))) = true := by
                            rw [ej]
                            simp only [Bool.and_eq_true, decide_eq_true_eq]
                            refine ⟨by simp [yd1, yd2], ?_⟩
                            unfold ky
                            simp only [Bool.false_eq_true, if_false, if_true]
                            omega
                          exact A.eqw (by rw [hb9, if_pos yk]; simp [wkL, ov]) rfl rfl (ih (i + 1) (by omega) (by omega))
          exact A.eqw (by simp [wkL]; rfl) rfl rfl (lp (np + 1) 0 (by omega) (by omega))
    have ecp : 0 < cnt (inb m) np := Nat.pos_of_ne_zero fun z => ym0 (by
      apply Nat.eq_of_testBit_eq
      intro i
      rw [Nat.zero_testBit]
      by_cases e : i < np
      · rw [← inb_tb]; exact cnt_zero.mp z i e
      · exact Nat.testBit_lt_two_pow (Nat.lt_of_lt_of_le hm (Nat.pow_le_pow_right (by omega) (by omega))))
    have es0 : ∀ p, p < np → sel m true b np 0 p = false := fun p _ => by simp [sel]
    exact A.eqw (by rw [bits_zero.mpr es0]; simp [wkL]) rfl rfl (lo (np + 1) 0 σ (by omega) (by omega) (fun _ _ => rfl) rfl (fun w hw => by omega) (cnt_zero.mpr es0) ecp)
